set_option maxHeartbeats 4000000 in
set_option maxRecDepth 100000 in
theorem c_X10_thing {l : Launch} {D : Ds} {L : La} (hM : MAt L) (σ : Me) (A : Al) (hR : RM (σ 1) A) (hV : Va A) (v : Int32) : Ct l yX10_thing cX10_thing 3 (some .int) { frames := 1, cells := 0, slots := 0, locals := 22 } D L σ [.ref (L.1 0), .int v] (PI L (fun r σ2 => r = (oThing A v).1 ∧ RM (σ2 1) (oThing A v).2 ∧ S1 σ σ2)) := by
  refine Ct.of (by decide) (Nat.le_of_ble_eq_true rfl) ?_
  intro X hl hD hnl hX0 hQ
  have hX : Ok X cX10_thing RX10 "thing" { frames := 1, cells := 0, slots := 0, locals := 22 } (some .int) := hX0
  have hN2 : 2 < xn X := by rw [hnl]; decide
  have hT := hV.1
  have hNn := hV.2.1
  have hW := hV.2.2.1
  show At X L σ 0 0 [(0, .ref (L.1 0)), (1, .int v)] 0 []
  refine r_iload_n hX dX10_thing_0 rfl ?_
  refine r_iconst hX (nI 0) dX10_thing_1 rfl ?_
  refine r_bipush hX (nI 100) dX10_thing_2 rfl ?_
  refine r_callSF (As := [.int v, .int (nI 0), .int (nI 100)]) (rest := []) hX (c_X10_in σ v (nI 0) (nI 100)) dX10_thing_4 cb_X10_68 rfl rfl ⟨Nat.le_of_ble_eq_true rfl, Nat.le_of_ble_eq_true rfl⟩ ⟨Nat.le_of_ble_eq_true rfl, Nat.le_of_ble_eq_true rfl⟩ (Nat.le_of_ble_eq_true rfl) ?_
  refine r_ifB_ne hX dX10_thing_7 (fun c1 => ?_) (fun c1 => ?_)
  · skip
    obtain ⟨q, hql, hq, rfl⟩ := inB_nat c1 (by decide) (by decide)
    refine r_aload_n hX dX10_thing_13 rfl ?_
    refine r_getR hX dX10_thing_14 fl_X10_9 (hM.1 0 (9, 0) rfl) rfl (hM.2 0 1 rfl) ?_
    refine r_iconst hX (nI 0) dX10_thing_17 rfl ?_
    refine r_aldN hX dX10_thing_18 (hM.1 1 (10, 1605) rfl) (by decide) (by decide) (nI (aT A)) hR.1 ?_
    refine r_istore_n hX [(0, .ref (L.1 0)), (1, .int (nI q)), (2, .int (nI (aT A)))] dX10_thing_19 hN2 rfl ?_
    refine r_iload_n hX dX10_thing_20 rfl ?_
    refine r_bipush hX (nI 6) dX10_thing_21 rfl ?_
    refine r_icmpN_ne hX dX10_thing_23 (by omega) (by decide) (fun c2 => ?_) (fun c2 => ?_)
    · skip
      refine r_aload_n hX dX10_thing_29 rfl ?_
      refine r_getR hX dX10_thing_30 fl_X10_9 (hM.1 0 (9, 0) rfl) rfl (hM.2 0 1 rfl) ?_
      refine r_iconst hX (nI 5) dX10_thing_33 rfl ?_
      refine r_iconst hX (nI 2) dX10_thing_34 rfl ?_
      refine r_iload_n hX dX10_thing_35 rfl ?_
      refine r_imulN hX dX10_thing_36 ?_
      refine r_iaddN hX dX10_thing_37 ?_
      refine r_iload_n hX dX10_thing_38 rfl ?_
      refine r_astN hX dX10_thing_39 (hM.1 1 (10, 1605) rfl) (by decide) (by omega) ?_
      refine r_aload_n hX dX10_thing_40 rfl ?_
      refine r_getR hX dX10_thing_41 fl_X10_9 (hM.1 0 (9, 0) rfl) rfl (hM.2 0 1 rfl) ?_
      refine r_iconst hX (nI 5) dX10_thing_44 rfl ?_
      refine r_iconst hX (nI 2) dX10_thing_45 rfl ?_
      refine r_iload_n hX dX10_thing_46 rfl ?_
      refine r_imulN hX dX10_thing_47 ?_
      refine r_iaddN hX dX10_thing_48 ?_
      refine r_iconst hX (nI 1) dX10_thing_49 rfl ?_
      refine r_iaddN hX dX10_thing_50 ?_
      refine r_iconst hX (nI 0) dX10_thing_51 rfl ?_
      refine r_astN hX dX10_thing_52 (hM.1 1 (10, 1605) rfl) (by decide) (by omega) ?_
      refine r_aload_n hX dX10_thing_53 rfl ?_
      refine r_getR hX dX10_thing_54 fl_X10_9 (hM.1 0 (9, 0) rfl) rfl (hM.2 0 1 rfl) ?_
      refine r_iconst hX (nI 0) dX10_thing_57 rfl ?_
      refine r_dup2 hX dX10_thing_58 rfl rfl ?_
      refine r_aldN hX dX10_thing_59 (hM.1 1 (10, 1605) rfl) (by decide) (by decide) (nI (aT A)) (by rw [up_n (by omega), up_n (by omega)]; exact hR.1) ?_
      refine r_iconst hX (nI 1) dX10_thing_60 rfl ?_
      refine r_iaddN hX dX10_thing_61 ?_
      refine r_astN hX dX10_thing_62 (hM.1 1 (10, 1605) rfl) (by decide) (by decide) ?_
      refine r_iload_n hX dX10_thing_63 rfl ?_
      exact r_ireturn hX hQ dX10_thing_64 ⟨Nat.le_of_ble_eq_true rfl, Nat.le_of_ble_eq_true rfl⟩ (PI.mk (by rw [oThing, if_pos c1, if_neg c2, nI_clamp (by omega)]; exact ⟨rfl, rm_addT hR hV (by omega) up_s (by rw [up_n (by omega), up_n (by omega), up_s]) (by rw [up_n (by omega), up_s]) (fun j h1 h2 h3 => by rw [up_n (by omega), up_n (by omega), up_n (by omega)]), (S1.up (S1.up (S1.up (S1.rf σ) (Or.inl rfl)) (Or.inl rfl)) (Or.inl rfl))⟩))
    · skip
      refine r_ldc hX dX10_thing_26 ko_X10_73 ?_
      exact r_ireturn hX hQ dX10_thing_28 ⟨Nat.le_of_ble_eq_true rfl, Nat.le_of_ble_eq_true rfl⟩ (PI.mk (by rw [oThing, if_pos c1, if_pos c2]; exact ⟨rfl, hR, (S1.rf σ)⟩))
  · skip
    refine r_ldc hX dX10_thing_10 ko_X10_72 ?_
    exact r_ireturn hX hQ dX10_thing_12 ⟨Nat.le_of_ble_eq_true rfl, Nat.le_of_ble_eq_true rfl⟩ (PI.mk (by rw [oThing, if_neg (by rw [c1]; decide)]; exact ⟨rfl, hR, (S1.rf σ)⟩))

set_option maxHeartbeats 4000000 in
set_option maxRecDepth 100000 in
theorem c_X10_name {l : Launch} {D : Ds} {L : La} (hM : MAt L) (σ : Me) (A : Al) (hR : RM (σ 1) A) (hV : Va A) (v : Int32) : Ct l yX10_name cX10_name 3 (some .int) { frames := 1, cells := 0, slots := 0, locals := 22 } D L σ [.ref (L.1 0), .int v] (PI L (fun r σ2 => r = (oName A v).1 ∧ RM (σ2 1) (oName A v).2 ∧ S1 σ σ2)) := by
  refine Ct.of (by decide) (Nat.le_of_ble_eq_true rfl) ?_
  intro X hl hD hnl hX0 hQ
  have hX : Ok X cX10_name RX10 "name" { frames := 1, cells := 0, slots := 0, locals := 22 } (some .int) := hX0
  have hN2 : 2 < xn X := by rw [hnl]; decide
  have hT := hV.1
  have hNn := hV.2.1
  have hW := hV.2.2.1
  show At X L σ 0 0 [(0, .ref (L.1 0)), (1, .int v)] 0 []
  refine r_iload_n hX dX10_name_0 rfl ?_
  refine r_iconst hX (nI 0) dX10_name_1 rfl ?_
  refine r_sipush hX (nI 999) dX10_name_2 rfl ?_
  refine r_callSF (As := [.int v, .int (nI 0), .int (nI 999)]) (rest := []) hX (c_X10_in σ v (nI 0) (nI 999)) dX10_name_5 cb_X10_68 rfl rfl ⟨Nat.le_of_ble_eq_true rfl, Nat.le_of_ble_eq_true rfl⟩ ⟨Nat.le_of_ble_eq_true rfl, Nat.le_of_ble_eq_true rfl⟩ (Nat.le_of_ble_eq_true rfl) ?_
  refine r_ifB_ne hX dX10_name_8 (fun c1 => ?_) (fun c1 => ?_)
  · skip
    obtain ⟨q, hql, hq, rfl⟩ := inB_nat c1 (by decide) (by decide)
    refine r_aload_n hX dX10_name_14 rfl ?_
    refine r_getR hX dX10_name_15 fl_X10_9 (hM.1 0 (9, 0) rfl) rfl (hM.2 0 1 rfl) ?_
    refine r_iconst hX (nI 1) dX10_name_18 rfl ?_
    refine r_aldN hX dX10_name_19 (hM.1 1 (10, 1605) rfl) (by decide) (by decide) (nI (aN A)) hR.2.1 ?_
    refine r_istore_n hX [(0, .ref (L.1 0)), (1, .int (nI q)), (2, .int (nI (aN A)))] dX10_name_20 hN2 rfl ?_
    refine r_iload_n hX dX10_name_21 rfl ?_
    refine r_bipush hX (nI 12) dX10_name_22 rfl ?_
    refine r_icmpN_ne hX dX10_name_24 (by omega) (by decide) (fun c2 => ?_) (fun c2 => ?_)
    · skip
      refine r_aload_n hX dX10_name_30 rfl ?_
      refine r_getR hX dX10_name_31 fl_X10_9 (hM.1 0 (9, 0) rfl) rfl (hM.2 0 1 rfl) ?_
      refine r_bipush hX (nI 17) dX10_name_34 rfl ?_
      refine r_iload_n hX dX10_name_36 rfl ?_
      refine r_iaddN hX dX10_name_37 ?_
      refine r_iload_n hX dX10_name_38 rfl ?_
      refine r_astN hX dX10_name_39 (hM.1 1 (10, 1605) rfl) (by decide) (by omega) ?_
      refine r_aload_n hX dX10_name_40 rfl ?_
      refine r_getR hX dX10_name_41 fl_X10_9 (hM.1 0 (9, 0) rfl) rfl (hM.2 0 1 rfl) ?_
      refine r_iconst hX (nI 1) dX10_name_44 rfl ?_
      refine r_dup2 hX dX10_name_45 rfl rfl ?_
      refine r_aldN hX dX10_name_46 (hM.1 1 (10, 1605) rfl) (by decide) (by decide) (nI (aN A)) (by rw [up_n (by omega)]; exact hR.2.1) ?_
      refine r_iconst hX (nI 1) dX10_name_47 rfl ?_
      refine r_iaddN hX dX10_name_48 ?_
      refine r_astN hX dX10_name_49 (hM.1 1 (10, 1605) rfl) (by decide) (by decide) ?_
      refine r_iload_n hX dX10_name_50 rfl ?_
      exact r_ireturn hX hQ dX10_name_51 ⟨Nat.le_of_ble_eq_true rfl, Nat.le_of_ble_eq_true rfl⟩ (PI.mk (by rw [oName, if_pos c1, if_neg c2, nI_clamp (by omega)]; exact ⟨rfl, rm_addN hR hV (by omega) up_s (by rw [up_n (by omega), up_s]) (fun j h1 h2 => by rw [up_n (by omega), up_n (by omega)]), (S1.up (S1.up (S1.rf σ) (Or.inl rfl)) (Or.inl rfl))⟩))
    · skip
      refine r_ldc hX dX10_name_27 ko_X10_73 ?_
      exact r_ireturn hX hQ dX10_name_29 ⟨Nat.le_of_ble_eq_true rfl, Nat.le_of_ble_eq_true rfl⟩ (PI.mk (by rw [oName, if_pos c1, if_pos c2]; exact ⟨rfl, hR, (S1.rf σ)⟩))
  · skip
    refine r_ldc hX dX10_name_11 ko_X10_72 ?_
    exact r_ireturn hX hQ dX10_name_13 ⟨Nat.le_of_ble_eq_true rfl, Nat.le_of_ble_eq_true rfl⟩ (PI.mk (by rw [oName, if_neg (by rw [c1]; decide)]; exact ⟨rfl, hR, (S1.rf σ)⟩))

set_option maxHeartbeats 4000000 in
set_option maxRecDepth 100000 in
theorem c_X10_set {l : Launch} {D : Ds} {L : La} (hM : MAt L) (σ : Me) (A : Al) (hR : RM (σ 1) A) (hV : Va A) (th wh v : Int32) : Ct l yX10_set cX10_set 5 (some .int) { frames := 2, cells := 0, slots := 0, locals := 43 } D L σ [.ref (L.1 0), .int th, .int wh, .int v] (PI L (fun r σ2 => r = (oSet A th wh v).1 ∧ RM (σ2 1) (oSet A th wh v).2 ∧ S1 σ σ2)) := by
  refine Ct.of (by decide) (Nat.le_of_ble_eq_true rfl) ?_
  intro X hl hD hnl hX0 hQ
  have hX : Ok X cX10_set RX10 "set" { frames := 2, cells := 0, slots := 0, locals := 43 } (some .int) := hX0
  have hN4 : 4 < xn X := by rw [hnl]; decide
  have hT := hV.1
  have hNn := hV.2.1
  have hW := hV.2.2.1
  show At X L σ 0 0 [(0, .ref (L.1 0)), (1, .int th), (2, .int wh), (3, .int v)] 0 []
  refine r_aload_n hX dX10_set_0 rfl ?_
  refine r_iload_n hX dX10_set_1 rfl ?_
  refine r_callVF (As := [.int th]) (rest := []) hX (c_X10_isThing hM σ A hR th) dX10_set_2 cb_X10_78 (hM.1 0 (9, 0) rfl) rfl rfl ⟨Nat.le_of_ble_eq_true rfl, Nat.le_of_ble_eq_true rfl⟩ ⟨Nat.le_of_ble_eq_true rfl, Nat.le_of_ble_eq_true rfl⟩ (Nat.le_of_ble_eq_true rfl) ?_
  refine r_ifB_eq hX dX10_set_5 (fun c1 => ?_) (fun c1 => ?_)
  · skip
    refine r_ldc hX dX10_set_37 ko_X10_72 ?_
    exact r_ireturn hX hQ dX10_set_39 ⟨Nat.le_of_ble_eq_true rfl, Nat.le_of_ble_eq_true rfl⟩ (PI.mk (by rw [oSet, if_neg (by rw [c1]; decide)]; exact ⟨rfl, hR, (S1.rf σ)⟩))
  · skip
    obtain ⟨t, ht, rfl⟩ := isB_nat c1 (by omega)
    refine r_iload_n hX dX10_set_8 rfl ?_
    refine r_iconst hX (nI 0) dX10_set_9 rfl ?_
    refine r_iconst hX (nI 1) dX10_set_10 rfl ?_
    refine r_callSF (As := [.int wh, .int (nI 0), .int (nI 1)]) (rest := []) hX (c_X10_in σ wh (nI 0) (nI 1)) dX10_set_11 cb_X10_68 rfl rfl ⟨Nat.le_of_ble_eq_true rfl, Nat.le_of_ble_eq_true rfl⟩ ⟨Nat.le_of_ble_eq_true rfl, Nat.le_of_ble_eq_true rfl⟩ (Nat.le_of_ble_eq_true rfl) ?_
    refine r_ifB_eq hX dX10_set_14 (fun c2 => ?_) (fun c2 => ?_)
    · skip
      refine r_ldc hX dX10_set_37 ko_X10_72 ?_
      exact r_ireturn hX hQ dX10_set_39 ⟨Nat.le_of_ble_eq_true rfl, Nat.le_of_ble_eq_true rfl⟩ (PI.mk (by rw [oSet, if_pos c1, if_neg (fun e => by rw [e] at c2; exact absurd c2 (by decide)), if_neg (fun e => by rw [e] at c2; exact absurd c2 (by decide))]; exact ⟨rfl, hR, (S1.rf σ)⟩))
    · skip
      obtain ⟨q, hql, hq, rfl⟩ := inB_nat c2 (by decide) (by decide)
      refine r_iload_n hX dX10_set_17 rfl ?_
      refine r_iconst hX (nI 0) dX10_set_18 rfl ?_
      refine r_iload_n hX dX10_set_19 rfl ?_
      refine r_ifN_ne hX dX10_set_20 (by omega) (fun c3 => ?_) (fun c3 => ?_)
      · skip
        refine r_sipush hX (nI 9999) dX10_set_28 rfl ?_
        refine r_callSF (As := [.int v, .int (nI 0), .int (nI 9999)]) (rest := []) hX (c_X10_in σ v (nI 0) (nI 9999)) dX10_set_31 cb_X10_68 rfl rfl ⟨Nat.le_of_ble_eq_true rfl, Nat.le_of_ble_eq_true rfl⟩ ⟨Nat.le_of_ble_eq_true rfl, Nat.le_of_ble_eq_true rfl⟩ (Nat.le_of_ble_eq_true rfl) ?_
        refine r_ifB_ne hX dX10_set_34 (fun c4 => ?_) (fun c4 => ?_)
        · skip
          obtain ⟨u, hul, hu, rfl⟩ := inB_nat c4 (by decide) (by decide)
          refine r_aload_n hX dX10_set_40 rfl ?_
          refine r_getR hX dX10_set_41 fl_X10_9 (hM.1 0 (9, 0) rfl) rfl (hM.2 0 1 rfl) ?_
          refine r_iconst hX (nI 5) dX10_set_44 rfl ?_
          refine r_iconst hX (nI 2) dX10_set_45 rfl ?_
          refine r_iload_n hX dX10_set_46 rfl ?_
          refine r_imulN hX dX10_set_47 ?_
          refine r_iaddN hX dX10_set_48 ?_
          refine r_iload_n hX dX10_set_49 rfl ?_
          refine r_iaddN hX dX10_set_50 ?_
          refine r_aldN hX dX10_set_51 (hM.1 1 (10, 1605) rfl) (by decide) (by omega) (nI (aB A t)) (by rw [show 5 + 2 * t + q = 5 + 2 * t + 1 by omega]; exact (hR.2.2.2.2.2.1 t ht).2) ?_
          refine r_istore hX [(0, .ref (L.1 0)), (1, .int (nI t)), (2, .int (nI q)), (3, .int (nI u)), (4, .int (nI (aB A t)))] dX10_set_52 hN4 rfl ?_
          refine r_aload_n hX dX10_set_54 rfl ?_
          refine r_getR hX dX10_set_55 fl_X10_9 (hM.1 0 (9, 0) rfl) rfl (hM.2 0 1 rfl) ?_
          refine r_iconst hX (nI 5) dX10_set_58 rfl ?_
          refine r_iconst hX (nI 2) dX10_set_59 rfl ?_
          refine r_iload_n hX dX10_set_60 rfl ?_
          refine r_imulN hX dX10_set_61 ?_
          refine r_iaddN hX dX10_set_62 ?_
          refine r_iload_n hX dX10_set_63 rfl ?_
          refine r_iaddN hX dX10_set_64 ?_
          refine r_iload_n hX dX10_set_65 rfl ?_
          refine r_astN hX dX10_set_66 (hM.1 1 (10, 1605) rfl) (by decide) (by omega) ?_
          refine r_iload hX dX10_set_67 rfl ?_
          exact r_ireturn hX hQ dX10_set_69 ⟨Nat.le_of_ble_eq_true rfl, Nat.le_of_ble_eq_true rfl⟩ (PI.mk (by rw [oSet, if_pos c1, if_neg (by rw [show q = 1 by omega]; decide), if_pos (by rw [show q = 1 by omega]), if_pos c4, nI_clamp (by omega), nI_clamp (by omega)]; exact ⟨rfl, rm_setB hR hV ht (by have hq0 : q = 1 := (by omega); subst hq0; exact up_s) (fun j h1 => by rw [up_n (by omega)]), (S1.up (S1.rf σ) (Or.inl rfl))⟩))
        · skip
          refine r_ldc hX dX10_set_37 ko_X10_72 ?_
          exact r_ireturn hX hQ dX10_set_39 ⟨Nat.le_of_ble_eq_true rfl, Nat.le_of_ble_eq_true rfl⟩ (PI.mk (by rw [oSet, if_pos c1, if_neg (by rw [show q = 1 by omega]; decide), if_pos (by rw [show q = 1 by omega]), if_neg (by rw [c4]; decide)]; exact ⟨rfl, hR, (S1.rf σ)⟩))
      · skip
        refine r_bipush hX (nI 100) dX10_set_23 rfl ?_
        refine r_goto hX dX10_set_25 ?_
        refine r_callSF (As := [.int v, .int (nI 0), .int (nI 100)]) (rest := []) hX (c_X10_in σ v (nI 0) (nI 100)) dX10_set_31 cb_X10_68 rfl rfl ⟨Nat.le_of_ble_eq_true rfl, Nat.le_of_ble_eq_true rfl⟩ ⟨Nat.le_of_ble_eq_true rfl, Nat.le_of_ble_eq_true rfl⟩ (Nat.le_of_ble_eq_true rfl) ?_
        refine r_ifB_ne hX dX10_set_34 (fun c5 => ?_) (fun c5 => ?_)
        · skip
          obtain ⟨u, hul, hu, rfl⟩ := inB_nat c5 (by decide) (by decide)
          refine r_aload_n hX dX10_set_40 rfl ?_
          refine r_getR hX dX10_set_41 fl_X10_9 (hM.1 0 (9, 0) rfl) rfl (hM.2 0 1 rfl) ?_
          refine r_iconst hX (nI 5) dX10_set_44 rfl ?_
          refine r_iconst hX (nI 2) dX10_set_45 rfl ?_
          refine r_iload_n hX dX10_set_46 rfl ?_
          refine r_imulN hX dX10_set_47 ?_
          refine r_iaddN hX dX10_set_48 ?_
          refine r_iload_n hX dX10_set_49 rfl ?_
          refine r_iaddN hX dX10_set_50 ?_
          refine r_aldN hX dX10_set_51 (hM.1 1 (10, 1605) rfl) (by decide) (by omega) (nI (aO A t)) (by rw [show 5 + 2 * t + q = 5 + 2 * t by omega]; exact (hR.2.2.2.2.2.1 t ht).1) ?_
          refine r_istore hX [(0, .ref (L.1 0)), (1, .int (nI t)), (2, .int (nI q)), (3, .int (nI u)), (4, .int (nI (aO A t)))] dX10_set_52 hN4 rfl ?_
          refine r_aload_n hX dX10_set_54 rfl ?_
          refine r_getR hX dX10_set_55 fl_X10_9 (hM.1 0 (9, 0) rfl) rfl (hM.2 0 1 rfl) ?_
          refine r_iconst hX (nI 5) dX10_set_58 rfl ?_
          refine r_iconst hX (nI 2) dX10_set_59 rfl ?_
          refine r_iload_n hX dX10_set_60 rfl ?_
          refine r_imulN hX dX10_set_61 ?_
          refine r_iaddN hX dX10_set_62 ?_
          refine r_iload_n hX dX10_set_63 rfl ?_
          refine r_iaddN hX dX10_set_64 ?_
          refine r_iload_n hX dX10_set_65 rfl ?_
          refine r_astN hX dX10_set_66 (hM.1 1 (10, 1605) rfl) (by decide) (by omega) ?_
          refine r_iload hX dX10_set_67 rfl ?_
          exact r_ireturn hX hQ dX10_set_69 ⟨Nat.le_of_ble_eq_true rfl, Nat.le_of_ble_eq_true rfl⟩ (PI.mk (by rw [oSet, if_pos c1, if_pos (by rw [show q = 0 by omega]), if_pos c5, nI_clamp (by omega), nI_clamp (by omega)]; exact ⟨rfl, rm_setO hR hV ht (by have hq0 : q = 0 := (by omega); subst hq0; exact up_s) (fun j h1 => by rw [up_n (by omega)]), (S1.up (S1.rf σ) (Or.inl rfl))⟩))
        · skip
          refine r_ldc hX dX10_set_37 ko_X10_72 ?_
          exact r_ireturn hX hQ dX10_set_39 ⟨Nat.le_of_ble_eq_true rfl, Nat.le_of_ble_eq_true rfl⟩ (PI.mk (by rw [oSet, if_pos c1, if_pos (by rw [show q = 0 by omega]), if_neg (by rw [c5]; decide)]; exact ⟨rfl, hR, (S1.rf σ)⟩))

set_option maxHeartbeats 4000000 in
set_option maxRecDepth 100000 in
theorem c_X10_adds {l : Launch} {D : Ds} {L : La} (hM : MAt L) (σ : Me) (A : Al) (hR : RM (σ 1) A) (hV : Va A) (k t n h s : Nat) (hw : aW A < 24) : Ct l yX10_adds cX10_adds 7 none { frames := 0, cells := 0, slots := 0, locals := 0 } D L σ [.ref (L.1 0), .int (nI k), .int (nI t), .int (nI n), .int (nI h), .int (nI s)] (PV L (fun σ2 => RM (σ2 1) (addW A k t n h s) ∧ Of 1 σ σ2)) := by
  refine Ct.of (by decide) (Nat.le_of_ble_eq_true rfl) ?_
  intro X hl hD hnl hX0 hQ
  have hX : Ok X cX10_adds RX10 "adds" { frames := 0, cells := 0, slots := 0, locals := 0 } none := hX0
  have hN6 : 6 < xn X := by rw [hnl]; decide
  have hT := hV.1
  have hNn := hV.2.1
  have hW := hV.2.2.1
  show At X L σ 0 0 [(0, .ref (L.1 0)), (1, .int (nI k)), (2, .int (nI t)), (3, .int (nI n)), (4, .int (nI h)), (5, .int (nI s))] 0 []
  refine r_bipush hX (nI 29) dX10_adds_0 rfl ?_
  refine r_iconst hX (nI 5) dX10_adds_2 rfl ?_
  refine r_aload_n hX dX10_adds_3 rfl ?_
  refine r_getR hX dX10_adds_4 fl_X10_9 (hM.1 0 (9, 0) rfl) rfl (hM.2 0 1 rfl) ?_
  refine r_iconst hX (nI 2) dX10_adds_7 rfl ?_
  refine r_aldN hX dX10_adds_8 (hM.1 1 (10, 1605) rfl) (by decide) (by decide) (nI (aW A)) hR.2.2.1 ?_
  refine r_imulN hX dX10_adds_9 ?_
  refine r_iaddN hX dX10_adds_10 ?_
  refine r_istore hX [(0, .ref (L.1 0)), (1, .int (nI k)), (2, .int (nI t)), (3, .int (nI n)), (4, .int (nI h)), (5, .int (nI s)), (6, .int (nI (29 + (5 * (aW A)))))] dX10_adds_11 hN6 rfl ?_
  refine r_aload_n hX dX10_adds_13 rfl ?_
  refine r_getR hX dX10_adds_14 fl_X10_9 (hM.1 0 (9, 0) rfl) rfl (hM.2 0 1 rfl) ?_
  refine r_iload hX dX10_adds_17 rfl ?_
  refine r_iconst hX (nI 0) dX10_adds_19 rfl ?_
  refine r_iaddN hX dX10_adds_20 ?_
  refine r_iload_n hX dX10_adds_21 rfl ?_
  refine r_astN hX dX10_adds_22 (hM.1 1 (10, 1605) rfl) (by decide) (by omega) ?_
  refine r_aload_n hX dX10_adds_23 rfl ?_
  refine r_getR hX dX10_adds_24 fl_X10_9 (hM.1 0 (9, 0) rfl) rfl (hM.2 0 1 rfl) ?_
  refine r_iload hX dX10_adds_27 rfl ?_
  refine r_iconst hX (nI 1) dX10_adds_29 rfl ?_
  refine r_iaddN hX dX10_adds_30 ?_
  refine r_iload_n hX dX10_adds_31 rfl ?_
  refine r_astN hX dX10_adds_32 (hM.1 1 (10, 1605) rfl) (by decide) (by omega) ?_
  refine r_aload_n hX dX10_adds_33 rfl ?_
  refine r_getR hX dX10_adds_34 fl_X10_9 (hM.1 0 (9, 0) rfl) rfl (hM.2 0 1 rfl) ?_
  refine r_iload hX dX10_adds_37 rfl ?_
  refine r_iconst hX (nI 2) dX10_adds_39 rfl ?_
  refine r_iaddN hX dX10_adds_40 ?_
  refine r_iload_n hX dX10_adds_41 rfl ?_
  refine r_astN hX dX10_adds_42 (hM.1 1 (10, 1605) rfl) (by decide) (by omega) ?_
  refine r_aload_n hX dX10_adds_43 rfl ?_
  refine r_getR hX dX10_adds_44 fl_X10_9 (hM.1 0 (9, 0) rfl) rfl (hM.2 0 1 rfl) ?_
  refine r_iload hX dX10_adds_47 rfl ?_
  refine r_iconst hX (nI 3) dX10_adds_49 rfl ?_
  refine r_iaddN hX dX10_adds_50 ?_
  refine r_iload hX dX10_adds_51 rfl ?_
  refine r_astN hX dX10_adds_53 (hM.1 1 (10, 1605) rfl) (by decide) (by omega) ?_
  refine r_aload_n hX dX10_adds_54 rfl ?_
  refine r_getR hX dX10_adds_55 fl_X10_9 (hM.1 0 (9, 0) rfl) rfl (hM.2 0 1 rfl) ?_
  refine r_iload hX dX10_adds_58 rfl ?_
  refine r_iconst hX (nI 4) dX10_adds_60 rfl ?_
  refine r_iaddN hX dX10_adds_61 ?_
  refine r_iload hX dX10_adds_62 rfl ?_
  refine r_astN hX dX10_adds_64 (hM.1 1 (10, 1605) rfl) (by decide) (by omega) ?_
  refine r_aload_n hX dX10_adds_65 rfl ?_
  refine r_getR hX dX10_adds_66 fl_X10_9 (hM.1 0 (9, 0) rfl) rfl (hM.2 0 1 rfl) ?_
  refine r_iconst hX (nI 2) dX10_adds_69 rfl ?_
  refine r_dup2 hX dX10_adds_70 rfl rfl ?_
  refine r_aldN hX dX10_adds_71 (hM.1 1 (10, 1605) rfl) (by decide) (by decide) (nI (aW A)) (by rw [up_n (by omega), up_n (by omega), up_n (by omega), up_n (by omega), up_n (by omega)]; exact hR.2.2.1) ?_
  refine r_iconst hX (nI 1) dX10_adds_72 rfl ?_
  refine r_iaddN hX dX10_adds_73 ?_
  refine r_astN hX dX10_adds_74 (hM.1 1 (10, 1605) rfl) (by decide) (by decide) ?_
  exact r_return hX hQ dX10_adds_75 ⟨Nat.le_of_ble_eq_true rfl, Nat.le_of_ble_eq_true rfl⟩ (PV.mk ⟨rm_addW hR hV hw up_s (wd5_all (by rw [up_n (by omega), up_n (by omega), up_n (by omega), up_n (by omega), up_n (by omega), up_s]) (by rw [up_n (by omega), up_n (by omega), up_n (by omega), up_n (by omega), up_s]) (by rw [up_n (by omega), up_n (by omega), up_n (by omega), up_s]) (by rw [up_n (by omega), up_n (by omega), up_s]) (by rw [up_n (by omega), up_s])) (fun j h1 h2 => by rw [up_n (by omega), up_n (by omega), up_n (by omega), up_n (by omega), up_n (by omega), up_n (by omega)]), Of.up (Of.up (Of.up (Of.up (Of.up (Of.up (Of.rf σ)))))) ⟩)

set_option maxHeartbeats 4000000 in
set_option maxRecDepth 100000 in
theorem c_X10_word {l : Launch} {D : Ds} {L : La} (hM : MAt L) (σ : Me) (A : Al) (hR : RM (σ 1) A) (hV : Va A) (k o a : Int32) : Ct l yX10_word cX10_word 4 (some .int) { frames := 3, cells := 0, slots := 0, locals := 64 } D L σ [.ref (L.1 0), .int k, .int o, .int a] (PI L (fun r σ2 => r = (oWord A k o a).1 ∧ RM (σ2 1) (oWord A k o a).2 ∧ S1 σ σ2)) := by
  refine Ct.of (by decide) (Nat.le_of_ble_eq_true rfl) ?_
  intro X hl hD hnl hX0 hQ
  have hX : Ok X cX10_word RX10 "word" { frames := 3, cells := 0, slots := 0, locals := 64 } (some .int) := hX0
  have hT := hV.1
  have hNn := hV.2.1
  have hW := hV.2.2.1
  show At X L σ 0 0 [(0, .ref (L.1 0)), (1, .int k), (2, .int o), (3, .int a)] 0 []
  refine r_iload_n hX dX10_word_0 rfl ?_
  refine r_iconst hX (nI 0) dX10_word_1 rfl ?_
  refine r_iconst hX (nI 5) dX10_word_2 rfl ?_
  refine r_callSF (As := [.int k, .int (nI 0), .int (nI 5)]) (rest := []) hX (c_X10_in σ k (nI 0) (nI 5)) dX10_word_3 cb_X10_68 rfl rfl ⟨Nat.le_of_ble_eq_true rfl, Nat.le_of_ble_eq_true rfl⟩ ⟨Nat.le_of_ble_eq_true rfl, Nat.le_of_ble_eq_true rfl⟩ (Nat.le_of_ble_eq_true rfl) ?_
  refine r_ifB_eq hX dX10_word_6 (fun c1 => ?_) (fun c1 => ?_)
  · skip
    refine r_ldc hX dX10_word_24 ko_X10_72 ?_
    exact r_ireturn hX hQ dX10_word_26 ⟨Nat.le_of_ble_eq_true rfl, Nat.le_of_ble_eq_true rfl⟩ (PI.mk (by rw [oWord, if_neg (fun e => by have e := e.1; rw [c1] at e; cases e)]; exact ⟨rfl, hR, (S1.rf σ)⟩))
  · skip
    obtain ⟨q, hql, hq, rfl⟩ := inB_nat c1 (by decide) (by decide)
    refine r_aload_n hX dX10_word_9 rfl ?_
    refine r_iload_n hX dX10_word_10 rfl ?_
    refine r_callVF (As := [.int o]) (rest := []) hX (c_X10_isOf hM σ A hR o) dX10_word_11 cb_X10_93 (hM.1 0 (9, 0) rfl) rfl rfl ⟨Nat.le_of_ble_eq_true rfl, Nat.le_of_ble_eq_true rfl⟩ ⟨Nat.le_of_ble_eq_true rfl, Nat.le_of_ble_eq_true rfl⟩ (Nat.le_of_ble_eq_true rfl) ?_
    refine r_ifB_eq hX dX10_word_14 (fun c2 => ?_) (fun c2 => ?_)
    · skip
      refine r_ldc hX dX10_word_24 ko_X10_72 ?_
      exact r_ireturn hX hQ dX10_word_26 ⟨Nat.le_of_ble_eq_true rfl, Nat.le_of_ble_eq_true rfl⟩ (PI.mk (by rw [oWord, if_neg (fun e => by have e := e.2.1; rw [c2] at e; cases e)]; exact ⟨rfl, hR, (S1.rf σ)⟩))
    · skip
      obtain ⟨p, hp, rfl, hp1, hp2⟩ := of_nat hV c2
      refine r_iload_n hX dX10_word_17 rfl ?_
      refine r_callSF (As := [.int a]) (rest := []) hX (c_X10_isAt σ a) dX10_word_18 cb_X10_96 rfl rfl ⟨Nat.le_of_ble_eq_true rfl, Nat.le_of_ble_eq_true rfl⟩ ⟨Nat.le_of_ble_eq_true rfl, Nat.le_of_ble_eq_true rfl⟩ (Nat.le_of_ble_eq_true rfl) ?_
      refine r_ifB_ne hX dX10_word_21 (fun c3 => ?_) (fun c3 => ?_)
      · skip
        obtain ⟨u, hu, rfl, hu1, hu2⟩ := at_nat c3
        refine r_aload_n hX dX10_word_27 rfl ?_
        refine r_getR hX dX10_word_28 fl_X10_9 (hM.1 0 (9, 0) rfl) rfl (hM.2 0 1 rfl) ?_
        refine r_iconst hX (nI 2) dX10_word_31 rfl ?_
        refine r_aldN hX dX10_word_32 (hM.1 1 (10, 1605) rfl) (by decide) (by decide) (nI (aW A)) hR.2.2.1 ?_
        refine r_bipush hX (nI 24) dX10_word_33 rfl ?_
        refine r_icmpN_ne hX dX10_word_35 (by omega) (by decide) (fun c4 => ?_) (fun c4 => ?_)
        · skip
          refine r_aload_n hX dX10_word_41 rfl ?_
          refine r_iload_n hX dX10_word_42 rfl ?_
          refine r_iload_n hX dX10_word_43 rfl ?_
          refine r_bipush hX (nI 100) dX10_word_44 rfl ?_
          refine r_idivN hX dX10_word_46 (by omega) (by decide) (by decide) ?_
          refine r_iload_n hX dX10_word_47 rfl ?_
          refine r_bipush hX (nI 100) dX10_word_48 rfl ?_
          refine r_iremN hX dX10_word_50 (by omega) (by decide) (by decide) ?_
          refine r_iload_n hX dX10_word_51 rfl ?_
          refine r_bipush hX (nI 10) dX10_word_52 rfl ?_
          refine r_idivN hX dX10_word_54 (by omega) (by decide) (by decide) ?_
          refine r_iload_n hX dX10_word_55 rfl ?_
          refine r_bipush hX (nI 10) dX10_word_56 rfl ?_
          refine r_iremN hX dX10_word_58 (by omega) (by decide) (by decide) ?_
          refine r_callVV (As := [.int (nI q), .int (nI (p / 100)), .int (nI (p % 100)), .int (nI (u / 10)), .int (nI (u % 10))]) (rest := []) hX (c_X10_adds hM σ A hR hV q (p / 100) (p % 100) (u / 10) (u % 10) (by omega)) dX10_word_59 cb_X10_99 (hM.1 0 (9, 0) rfl) rfl rfl ⟨Nat.le_of_ble_eq_true rfl, Nat.le_of_ble_eq_true rfl⟩ ⟨Nat.le_of_ble_eq_true rfl, Nat.le_of_ble_eq_true rfl⟩ (Nat.le_of_ble_eq_true rfl) (fun σ5 h6 => ?_)
          obtain ⟨hR7, hO8⟩ := h6
          refine r_aload_n hX dX10_word_62 rfl ?_
          refine r_getR hX dX10_word_63 fl_X10_9 (hM.1 0 (9, 0) rfl) rfl (hM.2 0 1 rfl) ?_
          refine r_iconst hX (nI 2) dX10_word_66 rfl ?_
          refine r_aldN hX dX10_word_67 (hM.1 1 (10, 1605) rfl) (by decide) (by decide) (nI (aW A + 1)) hR7.2.2.1 ?_
          refine r_iconst hX (nI 1) dX10_word_68 rfl ?_
          refine r_isubN hX dX10_word_69 (by omega) ?_
          exact r_ireturn hX hQ dX10_word_70 ⟨Nat.le_of_ble_eq_true rfl, Nat.le_of_ble_eq_true rfl⟩ (PI.mk (by rw [oWord, if_pos ⟨c1, c2, c3⟩, if_neg c4, nI_clamp (by omega), nI_clamp (by omega), nI_clamp (by omega)]; exact ⟨rfl, hR7, (S1.tr (S1.rf σ) hO8.s1)⟩))
        · skip
          refine r_ldc hX dX10_word_38 ko_X10_73 ?_
          exact r_ireturn hX hQ dX10_word_40 ⟨Nat.le_of_ble_eq_true rfl, Nat.le_of_ble_eq_true rfl⟩ (PI.mk (by rw [oWord, if_pos ⟨c1, c2, c3⟩, if_pos c4]; exact ⟨rfl, hR, (S1.rf σ)⟩))
      · skip
        refine r_ldc hX dX10_word_24 ko_X10_72 ?_
        exact r_ireturn hX hQ dX10_word_26 ⟨Nat.le_of_ble_eq_true rfl, Nat.le_of_ble_eq_true rfl⟩ (PI.mk (by rw [oWord, if_neg (fun e => by have e := e.2.2; rw [c3] at e; cases e)]; exact ⟨rfl, hR, (S1.rf σ)⟩))

set_option maxHeartbeats 4000000 in
set_option maxRecDepth 100000 in
theorem c_X10_becomes {l : Launch} {D : Ds} {L : La} (hM : MAt L) (σ : Me) (A : Al) (hR : RM (σ 1) A) (hV : Va A) (w f v : Nat) (hw : w < aW A) (hf : f < 5) : Ct l yX10_becomes cX10_becomes 5 (some .int) { frames := 1, cells := 0, slots := 0, locals := 22 } D L σ [.ref (L.1 0), .int (nI w), .int (nI f), .int (nI v)] (PI L (fun r σ2 => r = nI (aF A w f) ∧ RM (σ2 1) (setF A w f v) ∧ S1 σ σ2)) := by
  refine Ct.of (by decide) (Nat.le_of_ble_eq_true rfl) ?_
  intro X hl hD hnl hX0 hQ
  have hX : Ok X cX10_becomes RX10 "becomes" { frames := 1, cells := 0, slots := 0, locals := 22 } (some .int) := hX0
  have hN4 : 4 < xn X := by rw [hnl]; decide
  have hT := hV.1
  have hNn := hV.2.1
  have hW := hV.2.2.1
  show At X L σ 0 0 [(0, .ref (L.1 0)), (1, .int (nI w)), (2, .int (nI f)), (3, .int (nI v))] 0 []
  refine r_aload_n hX dX10_becomes_0 rfl ?_
  refine r_iload_n hX dX10_becomes_1 rfl ?_
  refine r_iload_n hX dX10_becomes_2 rfl ?_
  refine r_callVF (As := [.int (nI w), .int (nI f)]) (rest := []) hX (c_X10_ofA hM σ A hR hV w f (by omega) (by omega)) dX10_becomes_3 cb_X10_74 (hM.1 0 (9, 0) rfl) rfl rfl ⟨Nat.le_of_ble_eq_true rfl, Nat.le_of_ble_eq_true rfl⟩ ⟨Nat.le_of_ble_eq_true rfl, Nat.le_of_ble_eq_true rfl⟩ (Nat.le_of_ble_eq_true rfl) ?_
  refine r_istore hX [(0, .ref (L.1 0)), (1, .int (nI w)), (2, .int (nI f)), (3, .int (nI v)), (4, .int (nI (aF A w f)))] dX10_becomes_6 hN4 rfl ?_
  refine r_aload_n hX dX10_becomes_8 rfl ?_
  refine r_getR hX dX10_becomes_9 fl_X10_9 (hM.1 0 (9, 0) rfl) rfl (hM.2 0 1 rfl) ?_
  refine r_bipush hX (nI 29) dX10_becomes_12 rfl ?_
  refine r_iconst hX (nI 5) dX10_becomes_14 rfl ?_
  refine r_iload_n hX dX10_becomes_15 rfl ?_
  refine r_imulN hX dX10_becomes_16 ?_
  refine r_iaddN hX dX10_becomes_17 ?_
  refine r_iload_n hX dX10_becomes_18 rfl ?_
  refine r_iaddN hX dX10_becomes_19 ?_
  refine r_iload_n hX dX10_becomes_20 rfl ?_
  refine r_astN hX dX10_becomes_21 (hM.1 1 (10, 1605) rfl) (by decide) (by omega) ?_
  refine r_iload hX dX10_becomes_22 rfl ?_
  exact r_ireturn hX hQ dX10_becomes_24 ⟨Nat.le_of_ble_eq_true rfl, Nat.le_of_ble_eq_true rfl⟩ (PI.mk ⟨rfl, rm_setF hR hV hw hf up_s (fun j h1 => by rw [up_n (by omega)]), (S1.up (S1.rf σ) (Or.inl rfl))⟩)

set_option maxHeartbeats 4000000 in
set_option maxRecDepth 100000 in
theorem c_X10_turns {l : Launch} {D : Ds} {L : La} (hM : MAt L) (σ : Me) (A : Al) (hR : RM (σ 1) A) (hV : Va A) (wo v : Int32) : Ct l yX10_turns cX10_turns 3 (some .int) { frames := 2, cells := 0, slots := 0, locals := 46 } D L σ [.ref (L.1 0), .int wo, .int v] (PI L (fun r σ2 => r = (oTurns A wo v).1 ∧ RM (σ2 1) (oTurns A wo v).2 ∧ S1 σ σ2)) := by
  refine Ct.of (by decide) (Nat.le_of_ble_eq_true rfl) ?_
  intro X hl hD hnl hX0 hQ
  have hX : Ok X cX10_turns RX10 "turns" { frames := 2, cells := 0, slots := 0, locals := 46 } (some .int) := hX0
  have hT := hV.1
  have hNn := hV.2.1
  have hW := hV.2.2.1
  show At X L σ 0 0 [(0, .ref (L.1 0)), (1, .int wo), (2, .int v)] 0 []
  refine r_aload_n hX dX10_turns_0 rfl ?_
  refine r_iload_n hX dX10_turns_1 rfl ?_
  refine r_callVF (As := [.int wo]) (rest := []) hX (c_X10_isWord hM σ A hR wo) dX10_turns_2 cb_X10_126 (hM.1 0 (9, 0) rfl) rfl rfl ⟨Nat.le_of_ble_eq_true rfl, Nat.le_of_ble_eq_true rfl⟩ ⟨Nat.le_of_ble_eq_true rfl, Nat.le_of_ble_eq_true rfl⟩ (Nat.le_of_ble_eq_true rfl) ?_
  refine r_ifB_eq hX dX10_turns_5 (fun c1 => ?_) (fun c1 => ?_)
  · skip
    refine r_ldc hX dX10_turns_27 ko_X10_72 ?_
    exact r_ireturn hX hQ dX10_turns_29 ⟨Nat.le_of_ble_eq_true rfl, Nat.le_of_ble_eq_true rfl⟩ (PI.mk (by rw [oTurns, if_neg (fun e => by have e := e.1; rw [c1] at e; cases e)]; exact ⟨rfl, hR, (S1.rf σ)⟩))
  · skip
    obtain ⟨w, hw, rfl⟩ := isB_nat c1 (by omega)
    refine r_iload_n hX dX10_turns_8 rfl ?_
    refine r_iconst hX (nI 0) dX10_turns_9 rfl ?_
    refine r_iconst hX (nI 5) dX10_turns_10 rfl ?_
    refine r_callSF (As := [.int v, .int (nI 0), .int (nI 5)]) (rest := []) hX (c_X10_in σ v (nI 0) (nI 5)) dX10_turns_11 cb_X10_68 rfl rfl ⟨Nat.le_of_ble_eq_true rfl, Nat.le_of_ble_eq_true rfl⟩ ⟨Nat.le_of_ble_eq_true rfl, Nat.le_of_ble_eq_true rfl⟩ (Nat.le_of_ble_eq_true rfl) ?_
    refine r_ifB_eq hX dX10_turns_14 (fun c2 => ?_) (fun c2 => ?_)
    · skip
      refine r_ldc hX dX10_turns_27 ko_X10_72 ?_
      exact r_ireturn hX hQ dX10_turns_29 ⟨Nat.le_of_ble_eq_true rfl, Nat.le_of_ble_eq_true rfl⟩ (PI.mk (by rw [oTurns, if_neg (fun e => by have e := e.2; rw [c2] at e; cases e)]; exact ⟨rfl, hR, (S1.rf σ)⟩))
    · skip
      obtain ⟨q, hql, hq, rfl⟩ := inB_nat c2 (by decide) (by decide)
      refine r_aload_n hX dX10_turns_17 rfl ?_
      refine r_iload_n hX dX10_turns_18 rfl ?_
      refine r_iconst hX (nI 0) dX10_turns_19 rfl ?_
      refine r_iload_n hX dX10_turns_20 rfl ?_
      refine r_callVI (As := [.int (nI w), .int (nI 0), .int (nI q)]) (rest := []) hX (c_X10_becomes hM σ A hR hV w 0 q (by omega) (by decide)) dX10_turns_21 cb_X10_142 (hM.1 0 (9, 0) rfl) rfl rfl ⟨Nat.le_of_ble_eq_true rfl, Nat.le_of_ble_eq_true rfl⟩ ⟨Nat.le_of_ble_eq_true rfl, Nat.le_of_ble_eq_true rfl⟩ (Nat.le_of_ble_eq_true rfl) (fun r3 σ4 h5 => ?_)
      obtain ⟨rfl, hR6, hO7⟩ := h5
      refine r_goto hX dX10_turns_24 ?_
      exact r_ireturn hX hQ dX10_turns_29 ⟨Nat.le_of_ble_eq_true rfl, Nat.le_of_ble_eq_true rfl⟩ (PI.mk (by rw [oTurns, if_pos ⟨c1, c2⟩, nI_clamp (by omega), nI_clamp (by omega)]; exact ⟨rfl, hR6, (S1.tr (S1.rf σ) hO7)⟩))

set_option maxHeartbeats 4000000 in
set_option maxRecDepth 100000 in
theorem c_X10_star {l : Launch} {D : Ds} {L : La} (hM : MAt L) (σ : Me) (A : Al) (hR : RM (σ 1) A) (hV : Va A) (wo v : Int32) : Ct l yX10_star cX10_star 3 (some .int) { frames := 2, cells := 0, slots := 0, locals := 46 } D L σ [.ref (L.1 0), .int wo, .int v] (PI L (fun r σ2 => r = (oStar A wo v).1 ∧ RM (σ2 1) (oStar A wo v).2 ∧ S1 σ σ2)) := by
  refine Ct.of (by decide) (Nat.le_of_ble_eq_true rfl) ?_
  intro X hl hD hnl hX0 hQ
  have hX : Ok X cX10_star RX10 "star" { frames := 2, cells := 0, slots := 0, locals := 46 } (some .int) := hX0
  have hT := hV.1
  have hNn := hV.2.1
  have hW := hV.2.2.1
  show At X L σ 0 0 [(0, .ref (L.1 0)), (1, .int wo), (2, .int v)] 0 []
  refine r_aload_n hX dX10_star_0 rfl ?_
  refine r_iload_n hX dX10_star_1 rfl ?_
  refine r_callVF (As := [.int wo]) (rest := []) hX (c_X10_isWord hM σ A hR wo) dX10_star_2 cb_X10_126 (hM.1 0 (9, 0) rfl) rfl rfl ⟨Nat.le_of_ble_eq_true rfl, Nat.le_of_ble_eq_true rfl⟩ ⟨Nat.le_of_ble_eq_true rfl, Nat.le_of_ble_eq_true rfl⟩ (Nat.le_of_ble_eq_true rfl) ?_
  refine r_ifB_eq hX dX10_star_5 (fun c1 => ?_) (fun c1 => ?_)
  · skip
    refine r_ldc hX dX10_star_27 ko_X10_72 ?_
    exact r_ireturn hX hQ dX10_star_29 ⟨Nat.le_of_ble_eq_true rfl, Nat.le_of_ble_eq_true rfl⟩ (PI.mk (by rw [oStar, if_neg (fun e => by have e := e.1; rw [c1] at e; cases e)]; exact ⟨rfl, hR, (S1.rf σ)⟩))
  · skip
    obtain ⟨w, hw, rfl⟩ := isB_nat c1 (by omega)
    refine r_iload_n hX dX10_star_8 rfl ?_
    refine r_iconst hX (nI 1) dX10_star_9 rfl ?_
    refine r_iconst hX (nI 5) dX10_star_10 rfl ?_
    refine r_callSF (As := [.int v, .int (nI 1), .int (nI 5)]) (rest := []) hX (c_X10_in σ v (nI 1) (nI 5)) dX10_star_11 cb_X10_68 rfl rfl ⟨Nat.le_of_ble_eq_true rfl, Nat.le_of_ble_eq_true rfl⟩ ⟨Nat.le_of_ble_eq_true rfl, Nat.le_of_ble_eq_true rfl⟩ (Nat.le_of_ble_eq_true rfl) ?_
    refine r_ifB_eq hX dX10_star_14 (fun c2 => ?_) (fun c2 => ?_)
    · skip
      refine r_ldc hX dX10_star_27 ko_X10_72 ?_
      exact r_ireturn hX hQ dX10_star_29 ⟨Nat.le_of_ble_eq_true rfl, Nat.le_of_ble_eq_true rfl⟩ (PI.mk (by rw [oStar, if_neg (fun e => by have e := e.2; rw [c2] at e; cases e)]; exact ⟨rfl, hR, (S1.rf σ)⟩))
    · skip
      obtain ⟨q, hql, hq, rfl⟩ := inB_nat c2 (by decide) (by decide)
      refine r_aload_n hX dX10_star_17 rfl ?_
      refine r_iload_n hX dX10_star_18 rfl ?_
      refine r_iconst hX (nI 4) dX10_star_19 rfl ?_
      refine r_iload_n hX dX10_star_20 rfl ?_
      refine r_callVI (As := [.int (nI w), .int (nI 4), .int (nI q)]) (rest := []) hX (c_X10_becomes hM σ A hR hV w 4 q (by omega) (by decide)) dX10_star_21 cb_X10_142 (hM.1 0 (9, 0) rfl) rfl rfl ⟨Nat.le_of_ble_eq_true rfl, Nat.le_of_ble_eq_true rfl⟩ ⟨Nat.le_of_ble_eq_true rfl, Nat.le_of_ble_eq_true rfl⟩ (Nat.le_of_ble_eq_true rfl) (fun r3 σ4 h5 => ?_)
      obtain ⟨rfl, hR6, hO7⟩ := h5
      refine r_goto hX dX10_star_24 ?_
      exact r_ireturn hX hQ dX10_star_29 ⟨Nat.le_of_ble_eq_true rfl, Nat.le_of_ble_eq_true rfl⟩ (PI.mk (by rw [oStar, if_pos ⟨c1, c2⟩, nI_clamp (by omega), nI_clamp (by omega)]; exact ⟨rfl, hR6, (S1.tr (S1.rf σ) hO7)⟩))

set_option maxHeartbeats 4000000 in
set_option maxRecDepth 100000 in
theorem c_X10_goes {l : Launch} {D : Ds} {L : La} (hM : MAt L) (σ : Me) (A : Al) (hR : RM (σ 1) A) (hV : Va A) (w : Nat) (hw : w < aW A) : Ct l yX10_goes cX10_goes 3 none { frames := 0, cells := 0, slots := 0, locals := 0 } D L σ [.ref (L.1 0), .int (nI w)] (PV L (fun σ2 => RM (σ2 1) (delW A w) ∧ Of 1 σ σ2)) := by
  refine Ct.of (by decide) (Nat.le_of_ble_eq_true rfl) ?_
  intro X hl hD hnl hX0 hQ
  have hX : Ok X cX10_goes RX10 "goes" { frames := 0, cells := 0, slots := 0, locals := 0 } none := hX0
  have hN2 : 2 < xn X := by rw [hnl]; decide
  have hT := hV.1
  have hNn := hV.2.1
  have hW := hV.2.2.1
  show At X L σ 0 0 [(0, .ref (L.1 0)), (1, .int (nI w))] 0 []
  refine r_aload_n hX dX10_goes_0 rfl ?_
  refine r_getR hX dX10_goes_1 fl_X10_9 (hM.1 0 (9, 0) rfl) rfl (hM.2 0 1 rfl) ?_
  refine r_iconst hX (nI 2) dX10_goes_4 rfl ?_
  refine r_dup2 hX dX10_goes_5 rfl rfl ?_
  refine r_aldN hX dX10_goes_6 (hM.1 1 (10, 1605) rfl) (by decide) (by decide) (nI (aW A)) hR.2.2.1 ?_
  refine r_iconst hX (nI 1) dX10_goes_7 rfl ?_
  refine r_isubN hX dX10_goes_8 (by omega) ?_
  refine r_astN hX dX10_goes_9 (hM.1 1 (10, 1605) rfl) (by decide) (by decide) ?_
  refine r_bipush hX (nI 29) dX10_goes_10 rfl ?_
  refine r_iconst hX (nI 5) dX10_goes_12 rfl ?_
  refine r_iload_n hX dX10_goes_13 rfl ?_
  refine r_imulN hX dX10_goes_14 ?_
  refine r_iaddN hX dX10_goes_15 ?_
  refine r_istore_n hX [(0, .ref (L.1 0)), (1, .int (nI w)), (2, .int (nI (29 + (5 * w))))] dX10_goes_16 hN2 rfl ?_
  have P1 : ∀ i, i ≤ 5 * (aW A - 1 - w) → At X L (shm (up σ 1 2 (nI (aW A - 1))) (29 + 5 * w) i) 0 0 [(0, .ref (L.1 0)), (1, .int (nI w)), (2, .int (nI (29 + (5 * w) + i)))] 17 [] := by
    refine loopUp (5 * (aW A - 1 - w)) ?_ ?_
    · skip
      refine r_iload_n hX dX10_goes_17 rfl ?_
      refine r_bipush hX (nI 29) dX10_goes_18 rfl ?_
      refine r_iconst hX (nI 5) dX10_goes_20 rfl ?_
      refine r_aload_n hX dX10_goes_21 rfl ?_
      refine r_getR hX dX10_goes_22 fl_X10_9 (hM.1 0 (9, 0) rfl) rfl (hM.2 0 1 rfl) ?_
      refine r_iconst hX (nI 2) dX10_goes_25 rfl ?_
      refine r_aldN hX dX10_goes_26 (hM.1 1 (10, 1605) rfl) (by decide) (by decide) (nI (aW A - 1)) ((shm_o _ (by omega)).trans up_s) ?_
      refine r_imulN hX dX10_goes_27 ?_
      refine r_iaddN hX dX10_goes_28 ?_
      refine r_icmpN_ge hX dX10_goes_29 (by omega) (by omega) (fun c2 => ?_) (fun c2 => absurd c2 (by omega))
      exact r_return hX hQ dX10_goes_52 ⟨Nat.le_of_ble_eq_true rfl, Nat.le_of_ble_eq_true rfl⟩ (PV.mk ⟨rm_delW hR hV hw ((shm_o _ (by omega)).trans up_s) (fun j h1 h2 => by unfold shm; rw [if_pos (by omega)]; exact up_n (by omega)) (fun j h1 h2 => by rw [shm_o _ (by omega)]; exact up_n (by omega)), Of.tr (Of.up (Of.rf σ)) (shm_of _ _ _)⟩)
    · skip
      intro i hk ih3
      refine r_iload_n hX dX10_goes_17 rfl ?_
      refine r_bipush hX (nI 29) dX10_goes_18 rfl ?_
      refine r_iconst hX (nI 5) dX10_goes_20 rfl ?_
      refine r_aload_n hX dX10_goes_21 rfl ?_
      refine r_getR hX dX10_goes_22 fl_X10_9 (hM.1 0 (9, 0) rfl) rfl (hM.2 0 1 rfl) ?_
      refine r_iconst hX (nI 2) dX10_goes_25 rfl ?_
      refine r_aldN hX dX10_goes_26 (hM.1 1 (10, 1605) rfl) (by decide) (by decide) (nI (aW A - 1)) ((shm_o _ (by omega)).trans up_s) ?_
      refine r_imulN hX dX10_goes_27 ?_
      refine r_iaddN hX dX10_goes_28 ?_
      refine r_icmpN_ge hX dX10_goes_29 (by omega) (by omega) (fun c4 => absurd c4 (by omega)) (fun c4 => ?_)
      refine r_aload_n hX dX10_goes_32 rfl ?_
      refine r_getR hX dX10_goes_33 fl_X10_9 (hM.1 0 (9, 0) rfl) rfl (hM.2 0 1 rfl) ?_
      refine r_iload_n hX dX10_goes_36 rfl ?_
      refine r_aload_n hX dX10_goes_37 rfl ?_
      refine r_getR hX dX10_goes_38 fl_X10_9 (hM.1 0 (9, 0) rfl) rfl (hM.2 0 1 rfl) ?_
      refine r_iload_n hX dX10_goes_41 rfl ?_
      refine r_iconst hX (nI 5) dX10_goes_42 rfl ?_
      refine r_iaddN hX dX10_goes_43 ?_
      refine r_aldN hX dX10_goes_44 (hM.1 1 (10, 1605) rfl) (by decide) (by omega) (up σ 1 2 (nI (aW A - 1)) 1 (29 + (5 * w) + i + 5)) (shm_o _ (by omega)) ?_
      refine r_astN hX dX10_goes_45 (hM.1 1 (10, 1605) rfl) (by decide) (by omega) ?_
      refine r_iincN (n := 1) hX [(0, .ref (L.1 0)), (1, .int (nI w)), (2, .int (nI (29 + (5 * w) + i + 1)))] dX10_goes_46 rfl hN2 rfl ?_
      refine r_goto hX dX10_goes_49 ?_
      have q5 : 29 + (5 * w) + (i + 1) = 29 + (5 * w) + i + 1 := (by omega)
      exact At.to ih3 (by rw [q5]) rfl (shm_s _).symm
  exact At.to (P1 0 (Nat.zero_le _)) rfl rfl (shm_0 _ _)

set_option maxHeartbeats 4000000 in
set_option maxRecDepth 100000 in
theorem c_X10_drop {l : Launch} {D : Ds} {L : La} (hM : MAt L) (σ : Me) (A : Al) (hR : RM (σ 1) A) (hV : Va A) (wo : Int32) : Ct l yX10_drop cX10_drop 2 (some .int) { frames := 2, cells := 0, slots := 0, locals := 43 } D L σ [.ref (L.1 0), .int wo] (PI L (fun r σ2 => r = (oDrop A wo).1 ∧ RM (σ2 1) (oDrop A wo).2 ∧ S1 σ σ2)) := by
  refine Ct.of (by decide) (Nat.le_of_ble_eq_true rfl) ?_
  intro X hl hD hnl hX0 hQ
  have hX : Ok X cX10_drop RX10 "drop" { frames := 2, cells := 0, slots := 0, locals := 43 } (some .int) := hX0
  have hT := hV.1
  have hNn := hV.2.1
  have hW := hV.2.2.1
  show At X L σ 0 0 [(0, .ref (L.1 0)), (1, .int wo)] 0 []
  refine r_aload_n hX dX10_drop_0 rfl ?_
  refine r_iload_n hX dX10_drop_1 rfl ?_
  refine r_callVF (As := [.int wo]) (rest := []) hX (c_X10_isWord hM σ A hR wo) dX10_drop_2 cb_X10_126 (hM.1 0 (9, 0) rfl) rfl rfl ⟨Nat.le_of_ble_eq_true rfl, Nat.le_of_ble_eq_true rfl⟩ ⟨Nat.le_of_ble_eq_true rfl, Nat.le_of_ble_eq_true rfl⟩ (Nat.le_of_ble_eq_true rfl) ?_
  refine r_ifB_ne hX dX10_drop_5 (fun c1 => ?_) (fun c1 => ?_)
  · skip
    obtain ⟨w, hw, rfl⟩ := isB_nat c1 (by omega)
    refine r_aload_n hX dX10_drop_11 rfl ?_
    refine r_iload_n hX dX10_drop_12 rfl ?_
    refine r_callVV (As := [.int (nI w)]) (rest := []) hX (c_X10_goes hM σ A hR hV w (by omega)) dX10_drop_13 cb_X10_146 (hM.1 0 (9, 0) rfl) rfl rfl ⟨Nat.le_of_ble_eq_true rfl, Nat.le_of_ble_eq_true rfl⟩ ⟨Nat.le_of_ble_eq_true rfl, Nat.le_of_ble_eq_true rfl⟩ (Nat.le_of_ble_eq_true rfl) (fun σ2 h3 => ?_)
    obtain ⟨hR4, hO5⟩ := h3
    refine r_aload_n hX dX10_drop_16 rfl ?_
    refine r_getR hX dX10_drop_17 fl_X10_9 (hM.1 0 (9, 0) rfl) rfl (hM.2 0 1 rfl) ?_
    refine r_iconst hX (nI 2) dX10_drop_20 rfl ?_
    refine r_aldN hX dX10_drop_21 (hM.1 1 (10, 1605) rfl) (by decide) (by decide) (nI (aW A - 1)) hR4.2.2.1 ?_
    exact r_ireturn hX hQ dX10_drop_22 ⟨Nat.le_of_ble_eq_true rfl, Nat.le_of_ble_eq_true rfl⟩ (PI.mk (by rw [oDrop, if_pos c1, nI_clamp (by omega)]; exact ⟨rfl, hR4, (S1.tr (S1.rf σ) hO5.s1)⟩))
  · skip
    refine r_ldc hX dX10_drop_8 ko_X10_72 ?_
    exact r_ireturn hX hQ dX10_drop_10 ⟨Nat.le_of_ble_eq_true rfl, Nat.le_of_ble_eq_true rfl⟩ (PI.mk (by rw [oDrop, if_neg (by rw [c1]; decide)]; exact ⟨rfl, hR, (S1.rf σ)⟩))

set_option maxHeartbeats 4000000 in
set_option maxRecDepth 100000 in
theorem c_X10_draw {l : Launch} {D : Ds} {L : La} (hM : MAt L) (σ : Me) (A : Al) (hR : RM (σ 1) A) (hV : Va A) : Ct l yX10_draw cX10_draw 1 (some .int) { frames := 0, cells := 0, slots := 0, locals := 0 } D L σ [.ref (L.1 0)] (PI L (fun r σ2 => r = nI (drN (aZ (drA A))) ∧ RM (σ2 1) (drA A) ∧ Of 1 σ σ2)) := by
  refine Ct.of (by decide) (Nat.le_of_ble_eq_true rfl) ?_
  intro X hl hD hnl hX0 hQ
  have hX : Ok X cX10_draw RX10 "draw" { frames := 0, cells := 0, slots := 0, locals := 0 } (some .int) := hX0
  have hT := hV.1
  have hNn := hV.2.1
  have hW := hV.2.2.1
  show At X L σ 0 0 [(0, .ref (L.1 0))] 0 []
  refine r_aload_n hX dX10_draw_0 rfl ?_
  refine r_getR hX dX10_draw_1 fl_X10_9 (hM.1 0 (9, 0) rfl) rfl (hM.2 0 1 rfl) ?_
  refine r_iconst hX (nI 4) dX10_draw_4 rfl ?_
  refine r_aload_n hX dX10_draw_5 rfl ?_
  refine r_getR hX dX10_draw_6 fl_X10_9 (hM.1 0 (9, 0) rfl) rfl (hM.2 0 1 rfl) ?_
  refine r_iconst hX (nI 4) dX10_draw_9 rfl ?_
  refine r_aldN hX dX10_draw_10 (hM.1 1 (10, 1605) rfl) (by decide) (by decide) (aZ A) hR.2.2.2.2.1 ?_
  refine r_ldc hX dX10_draw_11 ko_X10_218 ?_
  refine r_imul hX dX10_draw_13 ?_
  refine r_sipush hX (nI 12345) dX10_draw_14 rfl ?_
  refine r_iadd hX dX10_draw_17 ?_
  refine r_astN hX dX10_draw_18 (hM.1 1 (10, 1605) rfl) (by decide) (by decide) ?_
  refine r_aload_n hX dX10_draw_19 rfl ?_
  refine r_getR hX dX10_draw_20 fl_X10_9 (hM.1 0 (9, 0) rfl) rfl (hM.2 0 1 rfl) ?_
  refine r_iconst hX (nI 4) dX10_draw_23 rfl ?_
  refine r_aldN hX dX10_draw_24 (hM.1 1 (10, 1605) rfl) (by decide) (by decide) (((aZ A) * 1103515245) + (nI 12345)) up_s ?_
  refine r_bipush hX (nI 8) dX10_draw_25 rfl ?_
  refine r_iushr hX dX10_draw_27 ?_
  exact r_ireturn hX hQ dX10_draw_28 ⟨Nat.le_of_ble_eq_true rfl, Nat.le_of_ble_eq_true rfl⟩ (PI.mk ⟨by rw [aZ_drA, dz_eq]; exact ushr8 _, rm_setZ hR hV (up_s.trans (dz_eq _).symm) (fun j h1 => by rw [up_n (by omega)]), Of.up (Of.rf σ)⟩)

set_option maxHeartbeats 4000000 in
set_option maxRecDepth 100000 in
theorem c_X10_seed {l : Launch} {D : Ds} {L : La} (hM : MAt L) (σ : Me) (A : Al) (hR : RM (σ 1) A) (hV : Va A) (v : Int32) : Ct l yX10_seed cX10_seed 3 (some .int) { frames := 0, cells := 0, slots := 0, locals := 0 } D L σ [.ref (L.1 0), .int v] (PI L (fun r σ2 => r = (oSeed A v).1 ∧ RM (σ2 1) (oSeed A v).2 ∧ S1 σ σ2)) := by
  refine Ct.of (by decide) (Nat.le_of_ble_eq_true rfl) ?_
  intro X hl hD hnl hX0 hQ
  have hX : Ok X cX10_seed RX10 "seed" { frames := 0, cells := 0, slots := 0, locals := 0 } (some .int) := hX0
  have hN2 : 2 < xn X := by rw [hnl]; decide
  have hT := hV.1
  have hNn := hV.2.1
  have hW := hV.2.2.1
  show At X L σ 0 0 [(0, .ref (L.1 0)), (1, .int v)] 0 []
  refine r_aload_n hX dX10_seed_0 rfl ?_
  refine r_getR hX dX10_seed_1 fl_X10_9 (hM.1 0 (9, 0) rfl) rfl (hM.2 0 1 rfl) ?_
  refine r_iconst hX (nI 4) dX10_seed_4 rfl ?_
  refine r_aldN hX dX10_seed_5 (hM.1 1 (10, 1605) rfl) (by decide) (by decide) (aZ A) hR.2.2.2.2.1 ?_
  refine r_istore_n hX [(0, .ref (L.1 0)), (1, .int v), (2, .int (aZ A))] dX10_seed_6 hN2 rfl ?_
  refine r_aload_n hX dX10_seed_7 rfl ?_
  refine r_getR hX dX10_seed_8 fl_X10_9 (hM.1 0 (9, 0) rfl) rfl (hM.2 0 1 rfl) ?_
  refine r_iconst hX (nI 4) dX10_seed_11 rfl ?_
  refine r_iload_n hX dX10_seed_12 rfl ?_
  refine r_astN hX dX10_seed_13 (hM.1 1 (10, 1605) rfl) (by decide) (by decide) ?_
  refine r_iload_n hX dX10_seed_14 rfl ?_
  exact r_ireturn hX hQ dX10_seed_15 ⟨Nat.le_of_ble_eq_true rfl, Nat.le_of_ble_eq_true rfl⟩ (PI.mk ⟨rfl, rm_setZ hR hV up_s (fun j h1 => by rw [up_n (by omega)]), (S1.up (S1.rf σ) (Or.inl rfl))⟩)

set_option maxHeartbeats 4000000 in
set_option maxRecDepth 100000 in
theorem c_X10_job {l : Launch} {D : Ds} {L : La} (hM : MAt L) (σ : Me) (A : Al) (hR : RM (σ 1) A) (hV : Va A) (th n h s : Int32) : Ct l yX10_job cX10_job 7 (some .int) { frames := 2, cells := 0, slots := 0, locals := 43 } D L σ [.ref (L.1 0), .int th, .int n, .int h, .int s] (PI L (fun r σ2 => r = (oJob A th n h s).1 ∧ RM (σ2 1) (oJob A th n h s).2 ∧ S1 σ σ2)) := by
  refine Ct.of (by decide) (Nat.le_of_ble_eq_true rfl) ?_
  intro X hl hD hnl hX0 hQ
  have hX : Ok X cX10_job RX10 "job" { frames := 2, cells := 0, slots := 0, locals := 43 } (some .int) := hX0
  have hN5 : 5 < xn X := by rw [hnl]; decide
  have hN6 : 6 < xn X := by rw [hnl]; decide
  have hT := hV.1
  have hNn := hV.2.1
  have hW := hV.2.2.1
  show At X L σ 0 0 [(0, .ref (L.1 0)), (1, .int th), (2, .int n), (3, .int h), (4, .int s)] 0 []
  refine r_aload_n hX dX10_job_0 rfl ?_
  refine r_iload_n hX dX10_job_1 rfl ?_
  refine r_callVF (As := [.int th]) (rest := []) hX (c_X10_isThing hM σ A hR th) dX10_job_2 cb_X10_78 (hM.1 0 (9, 0) rfl) rfl rfl ⟨Nat.le_of_ble_eq_true rfl, Nat.le_of_ble_eq_true rfl⟩ ⟨Nat.le_of_ble_eq_true rfl, Nat.le_of_ble_eq_true rfl⟩ (Nat.le_of_ble_eq_true rfl) ?_
  refine r_ifB_eq hX dX10_job_5 (fun c1 => ?_) (fun c1 => ?_)
  · skip
    refine r_ldc hX dX10_job_41 ko_X10_72 ?_
    exact r_ireturn hX hQ dX10_job_43 ⟨Nat.le_of_ble_eq_true rfl, Nat.le_of_ble_eq_true rfl⟩ (PI.mk (by rw [oJob, if_neg (fun e => by have e := e.1; rw [c1] at e; cases e)]; exact ⟨rfl, hR, (S1.rf σ)⟩))
  · skip
    obtain ⟨t, ht, rfl⟩ := isB_nat c1 (by omega)
    refine r_iload_n hX dX10_job_8 rfl ?_
    refine r_iconst hX (nI 1) dX10_job_9 rfl ?_
    refine r_bipush hX (nI 12) dX10_job_10 rfl ?_
    refine r_callSF (As := [.int n, .int (nI 1), .int (nI 12)]) (rest := []) hX (c_X10_in σ n (nI 1) (nI 12)) dX10_job_12 cb_X10_68 rfl rfl ⟨Nat.le_of_ble_eq_true rfl, Nat.le_of_ble_eq_true rfl⟩ ⟨Nat.le_of_ble_eq_true rfl, Nat.le_of_ble_eq_true rfl⟩ (Nat.le_of_ble_eq_true rfl) ?_
    refine r_ifB_eq hX dX10_job_15 (fun c2 => ?_) (fun c2 => ?_)
    · skip
      refine r_ldc hX dX10_job_41 ko_X10_72 ?_
      exact r_ireturn hX hQ dX10_job_43 ⟨Nat.le_of_ble_eq_true rfl, Nat.le_of_ble_eq_true rfl⟩ (PI.mk (by rw [oJob, if_neg (fun e => by have e := e.2.1; rw [c2] at e; cases e)]; exact ⟨rfl, hR, (S1.rf σ)⟩))
    · skip
      obtain ⟨q, hql, hq, rfl⟩ := inB_nat c2 (by decide) (by decide)
      refine r_iload_n hX dX10_job_18 rfl ?_
      refine r_iconst hX (nI 0) dX10_job_19 rfl ?_
      refine r_sipush hX (nI 1000) dX10_job_20 rfl ?_
      refine r_iload_n hX dX10_job_23 rfl ?_
      refine r_isubN hX dX10_job_24 (by omega) ?_
      refine r_callSF (As := [.int h, .int (nI 0), .int (nI (1000 - q))]) (rest := []) hX (c_X10_in σ h (nI 0) (nI (1000 - q))) dX10_job_25 cb_X10_68 rfl rfl ⟨Nat.le_of_ble_eq_true rfl, Nat.le_of_ble_eq_true rfl⟩ ⟨Nat.le_of_ble_eq_true rfl, Nat.le_of_ble_eq_true rfl⟩ (Nat.le_of_ble_eq_true rfl) ?_
      refine r_ifB_eq hX dX10_job_28 (fun c3 => ?_) (fun c3 => ?_)
      · skip
        refine r_ldc hX dX10_job_41 ko_X10_72 ?_
        exact r_ireturn hX hQ dX10_job_43 ⟨Nat.le_of_ble_eq_true rfl, Nat.le_of_ble_eq_true rfl⟩ (PI.mk (by rw [oJob, if_neg (fun e => by have e := e.2.2.1; rw [pk_sub (by omega), c3] at e; cases e)]; exact ⟨rfl, hR, (S1.rf σ)⟩))
      · skip
        obtain ⟨y, hyl, hy, rfl⟩ := inB_nat c3 (by decide) (by omega)
        refine r_iload hX dX10_job_31 rfl ?_
        refine r_iconst hX (nI 1) dX10_job_33 rfl ?_
        refine r_iconst hX (nI 5) dX10_job_34 rfl ?_
        refine r_callSF (As := [.int s, .int (nI 1), .int (nI 5)]) (rest := []) hX (c_X10_in σ s (nI 1) (nI 5)) dX10_job_35 cb_X10_68 rfl rfl ⟨Nat.le_of_ble_eq_true rfl, Nat.le_of_ble_eq_true rfl⟩ ⟨Nat.le_of_ble_eq_true rfl, Nat.le_of_ble_eq_true rfl⟩ (Nat.le_of_ble_eq_true rfl) ?_
        refine r_ifB_ne hX dX10_job_38 (fun c4 => ?_) (fun c4 => ?_)
        · skip
          obtain ⟨u, hul, hu, rfl⟩ := inB_nat c4 (by decide) (by decide)
          refine r_aload_n hX dX10_job_44 rfl ?_
          refine r_getR hX dX10_job_45 fl_X10_9 (hM.1 0 (9, 0) rfl) rfl (hM.2 0 1 rfl) ?_
          refine r_iconst hX (nI 1) dX10_job_48 rfl ?_
          refine r_aldN hX dX10_job_49 (hM.1 1 (10, 1605) rfl) (by decide) (by decide) (nI (aN A)) hR.2.1 ?_
          refine r_ifN_ne hX dX10_job_50 (by omega) (fun c5 => ?_) (fun c5 => ?_)
          · skip
            refine r_aload_n hX dX10_job_56 rfl ?_
            refine r_getR hX dX10_job_57 fl_X10_9 (hM.1 0 (9, 0) rfl) rfl (hM.2 0 1 rfl) ?_
            refine r_iconst hX (nI 2) dX10_job_60 rfl ?_
            refine r_aldN hX dX10_job_61 (hM.1 1 (10, 1605) rfl) (by decide) (by decide) (nI (aW A)) hR.2.2.1 ?_
            refine r_iload_n hX dX10_job_62 rfl ?_
            refine r_iaddN hX dX10_job_63 ?_
            refine r_bipush hX (nI 24) dX10_job_64 rfl ?_
            refine r_icmpN_le hX dX10_job_66 (by omega) (by decide) (fun c6 => ?_) (fun c6 => ?_)
            · skip
              refine r_aload_n hX dX10_job_72 rfl ?_
              refine r_getR hX dX10_job_73 fl_X10_9 (hM.1 0 (9, 0) rfl) rfl (hM.2 0 1 rfl) ?_
              refine r_iconst hX (nI 2) dX10_job_76 rfl ?_
              refine r_aldN hX dX10_job_77 (hM.1 1 (10, 1605) rfl) (by decide) (by decide) (nI (aW A)) hR.2.2.1 ?_
              refine r_istore hX [(0, .ref (L.1 0)), (1, .int (nI t)), (2, .int (nI q)), (3, .int (nI y)), (4, .int (nI u)), (5, .int (nI (aW A)))] dX10_job_78 hN5 rfl ?_
              refine r_iconst hX (nI 0) dX10_job_80 rfl ?_
              refine r_istore hX [(0, .ref (L.1 0)), (1, .int (nI t)), (2, .int (nI q)), (3, .int (nI y)), (4, .int (nI u)), (5, .int (nI (aW A))), (6, .int (nI 0))] dX10_job_81 hN6 rfl ?_
              have P7 : ∀ i, i ≤ q → ∀ (σk : Me) (hRk : RM (σk 1) (jobK A t y u i)) (hSk : S1 σ σk), At X L σk 0 0 [(0, .ref (L.1 0)), (1, .int (nI t)), (2, .int (nI q)), (3, .int (nI y)), (4, .int (nI u)), (5, .int (nI (aW A))), (6, .int (nI i))] 83 [] := by
                refine loopUp q ?_ ?_
                · skip
                  intro σk hRk hSk
                  refine r_iload hX dX10_job_83 rfl ?_
                  refine r_iload_n hX dX10_job_85 rfl ?_
                  refine r_icmpN_ge hX dX10_job_86 (by omega) (by omega) (fun c8 => ?_) (fun c8 => absurd c8 (by omega))
                  refine r_iload hX dX10_job_116 rfl ?_
                  exact r_ireturn hX hQ dX10_job_118 ⟨Nat.le_of_ble_eq_true rfl, Nat.le_of_ble_eq_true rfl⟩ (PI.mk (by rw [oJob, if_pos ⟨c1, c2, by rw [pk_sub (by omega)]; exact c3, c4⟩, if_neg c5, nI_clamp (by omega), if_neg (by omega), nI_clamp (by omega), nI_clamp (by omega), nI_clamp (by omega)]; exact ⟨rfl, hRk, hSk⟩))
                · skip
                  intro i hk ih9 σk hRk hSk
                  refine r_iload hX dX10_job_83 rfl ?_
                  refine r_iload_n hX dX10_job_85 rfl ?_
                  refine r_icmpN_ge hX dX10_job_86 (by omega) (by omega) (fun c10 => absurd c10 (by omega)) (fun c10 => ?_)
                  refine r_aload_n hX dX10_job_89 rfl ?_
                  refine r_iconst hX (nI 2) dX10_job_90 rfl ?_
                  refine r_iload_n hX dX10_job_91 rfl ?_
                  refine r_iload hX dX10_job_92 rfl ?_
                  refine r_aload_n hX dX10_job_94 rfl ?_
                  refine r_getR hX dX10_job_95 fl_X10_9 (hM.1 0 (9, 0) rfl) rfl (hM.2 0 1 rfl) ?_
                  refine r_iconst hX (nI 1) dX10_job_98 rfl ?_
                  refine r_aldN hX dX10_job_99 (hM.1 1 (10, 1605) rfl) (by decide) (by decide) (nI (aN A)) (hRk.2.1.trans (by rw [(jobK_W A t y u i).2.1])) ?_
                  refine r_iremN hX dX10_job_100 (by omega) (by omega) (by omega) ?_
                  refine r_iload_n hX dX10_job_101 rfl ?_
                  refine r_iload hX dX10_job_102 rfl ?_
                  refine r_iaddN hX dX10_job_104 ?_
                  refine r_iload hX dX10_job_105 rfl ?_
                  refine r_callVV (As := [.int (nI 2), .int (nI t), .int (nI (i % (aN A))), .int (nI (y + i)), .int (nI u)]) (rest := []) hX (c_X10_adds hM σk (jobK A t y u i) hRk (va_jobK hV ht (by omega) (by omega) (by omega) i (by omega) (by omega)) 2 t (i % (aN A)) (y + i) u (by rw [(jobK_W A t y u i).1]; omega)) dX10_job_107 cb_X10_99 (hM.1 0 (9, 0) rfl) rfl rfl ⟨Nat.le_of_ble_eq_true rfl, Nat.le_of_ble_eq_true rfl⟩ ⟨Nat.le_of_ble_eq_true rfl, Nat.le_of_ble_eq_true rfl⟩ (Nat.le_of_ble_eq_true rfl) (fun σ11 h12 => ?_)
                  obtain ⟨hR13, hO14⟩ := h12
                  refine r_iincN (n := 1) hX [(0, .ref (L.1 0)), (1, .int (nI t)), (2, .int (nI q)), (3, .int (nI y)), (4, .int (nI u)), (5, .int (nI (aW A))), (6, .int (nI (i + 1)))] dX10_job_110 rfl hN6 rfl ?_
                  refine r_goto hX dX10_job_113 ?_
                  exact At.to (ih9 _ hR13 (S1.tr hSk hO14.s1)) rfl rfl rfl
              exact At.to (P7 0 (Nat.zero_le _) σ hR (S1.rf σ)) rfl rfl rfl
            · skip
              refine r_ldc hX dX10_job_69 ko_X10_73 ?_
              exact r_ireturn hX hQ dX10_job_71 ⟨Nat.le_of_ble_eq_true rfl, Nat.le_of_ble_eq_true rfl⟩ (PI.mk (by rw [oJob, if_pos ⟨c1, c2, by rw [pk_sub (by omega)]; exact c3, c4⟩, if_neg c5, nI_clamp (by omega), if_pos (by omega)]; exact ⟨rfl, hR, (S1.rf σ)⟩))
          · skip
            refine r_ldc hX dX10_job_53 ko_X10_229 ?_
            exact r_ireturn hX hQ dX10_job_55 ⟨Nat.le_of_ble_eq_true rfl, Nat.le_of_ble_eq_true rfl⟩ (PI.mk (by rw [oJob, if_pos ⟨c1, c2, by rw [pk_sub (by omega)]; exact c3, c4⟩, if_pos c5]; exact ⟨rfl, hR, (S1.rf σ)⟩))
        · skip
          refine r_ldc hX dX10_job_41 ko_X10_72 ?_
          exact r_ireturn hX hQ dX10_job_43 ⟨Nat.le_of_ble_eq_true rfl, Nat.le_of_ble_eq_true rfl⟩ (PI.mk (by rw [oJob, if_neg (fun e => by have e := e.2.2.2; rw [c4] at e; cases e)]; exact ⟨rfl, hR, (S1.rf σ)⟩))
