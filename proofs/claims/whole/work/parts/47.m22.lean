set_option maxHeartbeats 4000000 in
set_option maxRecDepth 100000 in
theorem c_X10_mark {l : Launch} {D : Ds} {L : La} (hM : MAt L) (σ : Me) (B : Bs) (hB : RB σ B) (k p v : Int32) : Ct l yX10_mark cX10_mark 4 (some .int) { frames := 2, cells := 0, slots := 0, locals := 42 } D L σ [.ref (L.1 0), .int k, .int p, .int v] (PI L (fun r σ2 => r = (oMark B k p v).1 ∧ RB σ2 (oMark B k p v).2 ∧ Ex pB σ σ2)) := by
  refine Ct.of (by decide) (Nat.le_of_ble_eq_true rfl) ?_
  intro X hl hD hnl hX0 hQ
  have hX : Ok X cX10_mark RX10 "mark" { frames := 2, cells := 0, slots := 0, locals := 42 } (some .int) := hX0
  show At X L σ 0 0 [(0, .ref (L.1 0)), (1, .int k), (2, .int p), (3, .int v)] 0 []
  refine r_iload_n hX dX10_mark_0 rfl ?_
  refine r_callSF (As := [.int k]) (rest := []) hX (c_X10_isSheet σ k) dX10_mark_1 cb_X10_343 rfl rfl ⟨Nat.le_of_ble_eq_true rfl, Nat.le_of_ble_eq_true rfl⟩ ⟨Nat.le_of_ble_eq_true rfl, Nat.le_of_ble_eq_true rfl⟩ (Nat.le_of_ble_eq_true rfl) ?_
  refine r_ifB_ne hX dX10_mark_4 (fun c1 => ?_) (fun c1 => ?_)
  · skip
    obtain ⟨q, hql, hq, rfl⟩ := inB_nat c1 (by decide) (by decide)
    have hzq := (hB q (by omega)).2.2.1
    rcases hs2 : B.1 q with _ | _ | _
    · skip
      refine r_aload_n hX dX10_mark_10 rfl ?_
      refine r_getR hX dX10_mark_11 fl_X10_44 (hM.1 0 (9, 0) rfl) rfl (hM.2 35 12 rfl) ?_
      refine r_iload_n hX dX10_mark_14 rfl ?_
      refine r_aldN hX dX10_mark_15 (hM.1 12 (10, 4) rfl) (by decide) (by omega) (-1) ((hB q (by omega)).1.trans (by rw [hs2]; rfl)) ?_
      refine r_if_ge hX dX10_mark_16 (fun c3 => absurd c3 (by decide)) (fun c3 => ?_)
      refine r_ldcw hX dX10_mark_19 ko_X10_347 ?_
      exact r_ireturn hX hQ dX10_mark_22 ⟨Nat.le_of_ble_eq_true rfl, Nat.le_of_ble_eq_true rfl⟩ (PI.mk (by rw [oMark, if_pos c1, nI_clamp (n := q) (by omega), hs2]; exact ⟨rfl, hB, Ex.rf σ⟩))
    · skip
      refine r_aload_n hX dX10_mark_10 rfl ?_
      refine r_getR hX dX10_mark_11 fl_X10_44 (hM.1 0 (9, 0) rfl) rfl (hM.2 35 12 rfl) ?_
      refine r_iload_n hX dX10_mark_14 rfl ?_
      refine r_aldN hX dX10_mark_15 (hM.1 12 (10, 4) rfl) (by decide) (by omega) (nI 0) ((hB q (by omega)).1.trans (by rw [hs2]; rfl)) ?_
      refine r_ifN_ge hX dX10_mark_16 (by decide) ?_
      refine r_iload_n hX dX10_mark_23 rfl ?_
      refine r_iconst hX (nI 0) dX10_mark_24 rfl ?_
      refine r_aload_n hX dX10_mark_25 rfl ?_
      refine r_getR hX dX10_mark_26 fl_X10_47 (hM.1 0 (9, 0) rfl) rfl (hM.2 36 13 rfl) ?_
      refine r_iload_n hX dX10_mark_29 rfl ?_
      refine r_aldN hX dX10_mark_30 (hM.1 13 (10, 4) rfl) (by decide) (by omega) (nI (B.2.1 q)) (hB q (by omega)).2.1 ?_
      refine r_iconst hX (nI 1) dX10_mark_31 rfl ?_
      refine r_isub hX dX10_mark_32 ?_
      refine r_callSF (As := [.int p, .int (nI 0), .int ((nI (B.2.1 q)) - (nI 1))]) (rest := []) hX (c_X10_in σ p (nI 0) ((nI (B.2.1 q)) - (nI 1))) dX10_mark_33 cb_X10_68 rfl rfl ⟨Nat.le_of_ble_eq_true rfl, Nat.le_of_ble_eq_true rfl⟩ ⟨Nat.le_of_ble_eq_true rfl, Nat.le_of_ble_eq_true rfl⟩ (Nat.le_of_ble_eq_true rfl) ?_
      refine r_ifB_ne hX dX10_mark_36 (fun c4 => ?_) (fun c4 => ?_)
      · skip
        obtain ⟨u, hu, rfl⟩ := isB_nat c4 (by omega)
        refine r_aload_n hX dX10_mark_43 rfl ?_
        refine r_getR hX dX10_mark_44 fl_X10_44 (hM.1 0 (9, 0) rfl) rfl (hM.2 35 12 rfl) ?_
        refine r_iload_n hX dX10_mark_47 rfl ?_
        refine r_aldN hX dX10_mark_48 (hM.1 12 (10, 4) rfl) (by decide) (by omega) (nI 0) ((hB q (by omega)).1.trans (by rw [hs2]; rfl)) ?_
        refine r_ifN_ne hX dX10_mark_49 (by decide) (fun c5 => absurd c5 (by decide)) (fun c5 => ?_)
        refine r_iload_n hX dX10_mark_52 rfl ?_
        refine r_ldc hX dX10_mark_53 ko_X10_92 ?_
        refine r_icmp_ne hX dX10_mark_55 (fun c6 => ?_) (fun c6 => ?_)
        · skip
          refine r_aload_n hX dX10_mark_61 rfl ?_
          refine r_getR hX dX10_mark_62 fl_X10_44 (hM.1 0 (9, 0) rfl) rfl (hM.2 35 12 rfl) ?_
          refine r_iload_n hX dX10_mark_65 rfl ?_
          refine r_aldN hX dX10_mark_66 (hM.1 12 (10, 4) rfl) (by decide) (by omega) (nI 0) ((hB q (by omega)).1.trans (by rw [hs2]; rfl)) ?_
          refine r_iconst hX (nI 1) dX10_mark_67 rfl ?_
          refine r_icmpN_ne hX dX10_mark_68 (by decide) (by decide) (fun c7 => ?_) (fun c7 => absurd c7 (by decide))
          refine r_aload_n hX dX10_mark_93 rfl ?_
          refine r_getR hX dX10_mark_94 fl_X10_50 (hM.1 0 (9, 0) rfl) rfl (hM.2 37 14 rfl) ?_
          refine r_bipush hX (nI 24) dX10_mark_97 rfl ?_
          refine r_iload_n hX dX10_mark_99 rfl ?_
          refine r_imulN hX dX10_mark_100 ?_
          refine r_iload_n hX dX10_mark_101 rfl ?_
          refine r_iaddN hX dX10_mark_102 ?_
          refine r_aload_n hX dX10_mark_103 rfl ?_
          refine r_getR hX dX10_mark_104 fl_X10_44 (hM.1 0 (9, 0) rfl) rfl (hM.2 35 12 rfl) ?_
          refine r_iload_n hX dX10_mark_107 rfl ?_
          refine r_aldN hX dX10_mark_108 (hM.1 12 (10, 4) rfl) (by decide) (by omega) (nI 0) ((hB q (by omega)).1.trans (by rw [hs2]; rfl)) ?_
          refine r_ifN_ne hX dX10_mark_109 (by decide) (fun c8 => absurd c8 (by decide)) (fun c8 => ?_)
          refine r_iload_n hX dX10_mark_112 rfl ?_
          refine r_i2s hX dX10_mark_113 ?_
          refine r_goto hX dX10_mark_114 ?_
          refine r_astN hX dX10_mark_118 (hM.1 14 (10, 96) rfl) (by decide) (by omega) ?_
          refine r_iconst hX (nI 1) dX10_mark_119 rfl ?_
          exact r_ireturn hX hQ dX10_mark_120 ⟨Nat.le_of_ble_eq_true rfl, Nat.le_of_ble_eq_true rfl⟩ (PI.mk (by rw [oMark, if_pos c1, nI_clamp (n := q) (by omega), hs2]; show _ = (if isB (nI u) (B.2.1 q) = true then _ else _ : Int32 × Bs).1 ∧ RB _ (if isB (nI u) (B.2.1 q) = true then _ else _ : Int32 × Bs).2 ∧ _; rw [if_pos (show isB (nI u) (B.2.1 q) = true from c4)]; rw [if_neg (fun e => c6 e.2), if_neg (fun e => by cases e.1), if_neg (by decide), nI_clamp (n := u) (by omega)]; exact ⟨rfl, rb_mark hB (by omega) (by omega), Ex.up (Ex.rf σ) rfl⟩))
        · skip
          refine r_ldc hX dX10_mark_58 ko_X10_141 ?_
          exact r_ireturn hX hQ dX10_mark_60 ⟨Nat.le_of_ble_eq_true rfl, Nat.le_of_ble_eq_true rfl⟩ (PI.mk (by rw [oMark, if_pos c1, nI_clamp (n := q) (by omega), hs2]; show _ = (if isB (nI u) (B.2.1 q) = true then _ else _ : Int32 × Bs).1 ∧ RB _ (if isB (nI u) (B.2.1 q) = true then _ else _ : Int32 × Bs).2 ∧ _; rw [if_pos (show isB (nI u) (B.2.1 q) = true from c4)]; rw [if_pos ⟨rfl, c6⟩]; exact ⟨rfl, hB, Ex.rf σ⟩))
      · skip
        refine r_ldcw hX dX10_mark_39 ko_X10_348 ?_
        exact r_ireturn hX hQ dX10_mark_42 ⟨Nat.le_of_ble_eq_true rfl, Nat.le_of_ble_eq_true rfl⟩ (PI.mk (by rw [oMark, if_pos c1, nI_clamp (n := q) (by omega), hs2]; show _ = (if isB p (B.2.1 q) = true then _ else _ : Int32 × Bs).1 ∧ RB _ (if isB p (B.2.1 q) = true then _ else _ : Int32 × Bs).2 ∧ _; rw [if_neg (fun e => by unfold isB at e; rw [c4] at e; cases e)]; exact ⟨rfl, hB, Ex.rf σ⟩))
    · skip
      refine r_aload_n hX dX10_mark_10 rfl ?_
      refine r_getR hX dX10_mark_11 fl_X10_44 (hM.1 0 (9, 0) rfl) rfl (hM.2 35 12 rfl) ?_
      refine r_iload_n hX dX10_mark_14 rfl ?_
      refine r_aldN hX dX10_mark_15 (hM.1 12 (10, 4) rfl) (by decide) (by omega) (nI 1) ((hB q (by omega)).1.trans (by rw [hs2]; rfl)) ?_
      refine r_ifN_ge hX dX10_mark_16 (by decide) ?_
      refine r_iload_n hX dX10_mark_23 rfl ?_
      refine r_iconst hX (nI 0) dX10_mark_24 rfl ?_
      refine r_aload_n hX dX10_mark_25 rfl ?_
      refine r_getR hX dX10_mark_26 fl_X10_47 (hM.1 0 (9, 0) rfl) rfl (hM.2 36 13 rfl) ?_
      refine r_iload_n hX dX10_mark_29 rfl ?_
      refine r_aldN hX dX10_mark_30 (hM.1 13 (10, 4) rfl) (by decide) (by omega) (nI (B.2.1 q)) (hB q (by omega)).2.1 ?_
      refine r_iconst hX (nI 1) dX10_mark_31 rfl ?_
      refine r_isub hX dX10_mark_32 ?_
      refine r_callSF (As := [.int p, .int (nI 0), .int ((nI (B.2.1 q)) - (nI 1))]) (rest := []) hX (c_X10_in σ p (nI 0) ((nI (B.2.1 q)) - (nI 1))) dX10_mark_33 cb_X10_68 rfl rfl ⟨Nat.le_of_ble_eq_true rfl, Nat.le_of_ble_eq_true rfl⟩ ⟨Nat.le_of_ble_eq_true rfl, Nat.le_of_ble_eq_true rfl⟩ (Nat.le_of_ble_eq_true rfl) ?_
      refine r_ifB_ne hX dX10_mark_36 (fun c9 => ?_) (fun c9 => ?_)
      · skip
        obtain ⟨u, hu, rfl⟩ := isB_nat c9 (by omega)
        refine r_aload_n hX dX10_mark_43 rfl ?_
        refine r_getR hX dX10_mark_44 fl_X10_44 (hM.1 0 (9, 0) rfl) rfl (hM.2 35 12 rfl) ?_
        refine r_iload_n hX dX10_mark_47 rfl ?_
        refine r_aldN hX dX10_mark_48 (hM.1 12 (10, 4) rfl) (by decide) (by omega) (nI 1) ((hB q (by omega)).1.trans (by rw [hs2]; rfl)) ?_
        refine r_ifN_ne hX dX10_mark_49 (by decide) (fun c10 => ?_) (fun c10 => absurd c10 (by decide))
        refine r_aload_n hX dX10_mark_61 rfl ?_
        refine r_getR hX dX10_mark_62 fl_X10_44 (hM.1 0 (9, 0) rfl) rfl (hM.2 35 12 rfl) ?_
        refine r_iload_n hX dX10_mark_65 rfl ?_
        refine r_aldN hX dX10_mark_66 (hM.1 12 (10, 4) rfl) (by decide) (by omega) (nI 1) ((hB q (by omega)).1.trans (by rw [hs2]; rfl)) ?_
        refine r_iconst hX (nI 1) dX10_mark_67 rfl ?_
        refine r_icmpN_ne hX dX10_mark_68 (by decide) (by decide) (fun c11 => absurd c11 (by decide)) (fun c11 => ?_)
        refine r_iload_n hX dX10_mark_71 rfl ?_
        refine r_ldc hX dX10_mark_72 ko_X10_92 ?_
        refine r_icmp_eq hX dX10_mark_74 (fun c12 => ?_) (fun c12 => ?_)
        · skip
          refine r_aload_n hX dX10_mark_93 rfl ?_
          refine r_getR hX dX10_mark_94 fl_X10_50 (hM.1 0 (9, 0) rfl) rfl (hM.2 37 14 rfl) ?_
          refine r_bipush hX (nI 24) dX10_mark_97 rfl ?_
          refine r_iload_n hX dX10_mark_99 rfl ?_
          refine r_imulN hX dX10_mark_100 ?_
          refine r_iload_n hX dX10_mark_101 rfl ?_
          refine r_iaddN hX dX10_mark_102 ?_
          refine r_aload_n hX dX10_mark_103 rfl ?_
          refine r_getR hX dX10_mark_104 fl_X10_44 (hM.1 0 (9, 0) rfl) rfl (hM.2 35 12 rfl) ?_
          refine r_iload_n hX dX10_mark_107 rfl ?_
          refine r_aldN hX dX10_mark_108 (hM.1 12 (10, 4) rfl) (by decide) (by omega) (nI 1) ((hB q (by omega)).1.trans (by rw [hs2]; rfl)) ?_
          refine r_ifN_ne hX dX10_mark_109 (by decide) (fun c13 => ?_) (fun c13 => absurd c13 (by decide))
          refine r_iload_n hX dX10_mark_117 rfl ?_
          refine r_astN hX dX10_mark_118 (hM.1 14 (10, 96) rfl) (by decide) (by omega) ?_
          refine r_iconst hX (nI 1) dX10_mark_119 rfl ?_
          exact r_ireturn hX hQ dX10_mark_120 ⟨Nat.le_of_ble_eq_true rfl, Nat.le_of_ble_eq_true rfl⟩ (PI.mk (by rw [oMark, if_pos c1, nI_clamp (n := q) (by omega), hs2]; show _ = (if isB (nI u) (B.2.1 q) = true then _ else _ : Int32 × Bs).1 ∧ RB _ (if isB (nI u) (B.2.1 q) = true then _ else _ : Int32 × Bs).2 ∧ _; rw [if_pos (show isB (nI u) (B.2.1 q) = true from c9)]; rw [if_neg (fun e => by cases e.1), if_neg (fun e => e.2.1 c12), if_pos rfl, nI_clamp (n := u) (by omega)]; exact ⟨rfl, rb_mark hB (by omega) (by omega), Ex.up (Ex.rf σ) rfl⟩))
        · skip
          refine r_iload_n hX dX10_mark_77 rfl ?_
          refine r_ldcw hX dX10_mark_78 ko_X10_349 ?_
          refine r_ldcw hX dX10_mark_81 ko_X10_350 ?_
          refine r_callSF (As := [.int v, .int (-99999), .int 99999]) (rest := []) hX (c_X10_in σ v (-99999) 99999) dX10_mark_84 cb_X10_68 rfl rfl ⟨Nat.le_of_ble_eq_true rfl, Nat.le_of_ble_eq_true rfl⟩ ⟨Nat.le_of_ble_eq_true rfl, Nat.le_of_ble_eq_true rfl⟩ (Nat.le_of_ble_eq_true rfl) ?_
          refine r_ifB_ne hX dX10_mark_87 (fun c14 => ?_) (fun c14 => ?_)
          · skip
            refine r_aload_n hX dX10_mark_93 rfl ?_
            refine r_getR hX dX10_mark_94 fl_X10_50 (hM.1 0 (9, 0) rfl) rfl (hM.2 37 14 rfl) ?_
            refine r_bipush hX (nI 24) dX10_mark_97 rfl ?_
            refine r_iload_n hX dX10_mark_99 rfl ?_
            refine r_imulN hX dX10_mark_100 ?_
            refine r_iload_n hX dX10_mark_101 rfl ?_
            refine r_iaddN hX dX10_mark_102 ?_
            refine r_aload_n hX dX10_mark_103 rfl ?_
            refine r_getR hX dX10_mark_104 fl_X10_44 (hM.1 0 (9, 0) rfl) rfl (hM.2 35 12 rfl) ?_
            refine r_iload_n hX dX10_mark_107 rfl ?_
            refine r_aldN hX dX10_mark_108 (hM.1 12 (10, 4) rfl) (by decide) (by omega) (nI 1) ((hB q (by omega)).1.trans (by rw [hs2]; rfl)) ?_
            refine r_ifN_ne hX dX10_mark_109 (by decide) (fun c15 => ?_) (fun c15 => absurd c15 (by decide))
            refine r_iload_n hX dX10_mark_117 rfl ?_
            refine r_astN hX dX10_mark_118 (hM.1 14 (10, 96) rfl) (by decide) (by omega) ?_
            refine r_iconst hX (nI 1) dX10_mark_119 rfl ?_
            exact r_ireturn hX hQ dX10_mark_120 ⟨Nat.le_of_ble_eq_true rfl, Nat.le_of_ble_eq_true rfl⟩ (PI.mk (by rw [oMark, if_pos c1, nI_clamp (n := q) (by omega), hs2]; show _ = (if isB (nI u) (B.2.1 q) = true then _ else _ : Int32 × Bs).1 ∧ RB _ (if isB (nI u) (B.2.1 q) = true then _ else _ : Int32 × Bs).2 ∧ _; rw [if_pos (show isB (nI u) (B.2.1 q) = true from c9)]; rw [if_neg (fun e => by cases e.1), if_neg (fun e => by rw [c14] at e; cases e.2.2), if_pos rfl, nI_clamp (n := u) (by omega)]; exact ⟨rfl, rb_mark hB (by omega) (by omega), Ex.up (Ex.rf σ) rfl⟩))
          · skip
            refine r_ldc hX dX10_mark_90 ko_X10_72 ?_
            exact r_ireturn hX hQ dX10_mark_92 ⟨Nat.le_of_ble_eq_true rfl, Nat.le_of_ble_eq_true rfl⟩ (PI.mk (by rw [oMark, if_pos c1, nI_clamp (n := q) (by omega), hs2]; show _ = (if isB (nI u) (B.2.1 q) = true then _ else _ : Int32 × Bs).1 ∧ RB _ (if isB (nI u) (B.2.1 q) = true then _ else _ : Int32 × Bs).2 ∧ _; rw [if_pos (show isB (nI u) (B.2.1 q) = true from c9)]; rw [if_neg (fun e => by cases e.1), if_pos ⟨rfl, c12, c14⟩]; exact ⟨rfl, hB, Ex.rf σ⟩))
      · skip
        refine r_ldcw hX dX10_mark_39 ko_X10_348 ?_
        exact r_ireturn hX hQ dX10_mark_42 ⟨Nat.le_of_ble_eq_true rfl, Nat.le_of_ble_eq_true rfl⟩ (PI.mk (by rw [oMark, if_pos c1, nI_clamp (n := q) (by omega), hs2]; show _ = (if isB p (B.2.1 q) = true then _ else _ : Int32 × Bs).1 ∧ RB _ (if isB p (B.2.1 q) = true then _ else _ : Int32 × Bs).2 ∧ _; rw [if_neg (fun e => by unfold isB at e; rw [c9] at e; cases e)]; exact ⟨rfl, hB, Ex.rf σ⟩))
  · skip
    refine r_ldc hX dX10_mark_7 ko_X10_72 ?_
    exact r_ireturn hX hQ dX10_mark_9 ⟨Nat.le_of_ble_eq_true rfl, Nat.le_of_ble_eq_true rfl⟩ (PI.mk (by rw [oMark, if_neg (fun e => by rw [c1] at e; cases e)]; exact ⟨rfl, hB, Ex.rf σ⟩))
