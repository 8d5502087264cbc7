set_option maxHeartbeats 4000000 in
set_option maxRecDepth 100000 in
theorem c_X10_lay_ {l : Launch} {D : Ds} {L : La} (hM : MAt L) (σ : Me) (A : Al) (hR : RM (σ 1) A) (hV : Va A) (B : Bs) (hB : RB σ B) (Q : Ls) (hS : RSl σ Q) (s t k : Int32) : Ct l yX10_lay_ cX10_lay_ 6 (some .int) { frames := 2, cells := 0, slots := 0, locals := 43 } D L σ [.ref (L.1 0), .int s, .int t, .int k] (PI L (fun r σ2 => r = (oLay A B Q s t k).1 ∧ RSl σ2 (oLay A B Q s t k).2 ∧ Ex pL σ σ2)) := by
  refine Ct.of (by decide) (Nat.le_of_ble_eq_true rfl) ?_
  intro X hl hD hnl hX0 hQ
  have hX : Ok X cX10_lay_ RX10 "lay" { frames := 2, cells := 0, slots := 0, locals := 43 } (some .int) := hX0
  have hN4 : 4 < xn X := by rw [hnl]; decide
  have hN5 : 5 < xn X := by rw [hnl]; decide
  have hT := hV.1
  have hNn := hV.2.1
  have hW := hV.2.2.1
  show At X L σ 0 0 [(0, .ref (L.1 0)), (1, .int s), (2, .int t), (3, .int k)] 0 []
  refine r_iload_n hX dX10_lay__0 rfl ?_
  refine r_callSF (As := [.int s]) (rest := []) hX (c_X10_isSlot σ s) dX10_lay__1 cb_X10_354 rfl rfl ⟨Nat.le_of_ble_eq_true rfl, Nat.le_of_ble_eq_true rfl⟩ ⟨Nat.le_of_ble_eq_true rfl, Nat.le_of_ble_eq_true rfl⟩ (Nat.le_of_ble_eq_true rfl) ?_
  refine r_ifB_eq hX dX10_lay__4 (fun c1 => ?_) (fun c1 => ?_)
  · skip
    refine r_ldc hX dX10_lay__41 ko_X10_72 ?_
    exact r_ireturn hX hQ dX10_lay__43 ⟨Nat.le_of_ble_eq_true rfl, Nat.le_of_ble_eq_true rfl⟩ (PI.mk (by rw [oLay, if_neg (fun e => by rw [c1] at e; cases e.1)]; exact ⟨rfl, hS, Ex.rf σ⟩))
  · skip
    obtain ⟨q, hql, hq, rfl⟩ := inB_nat c1 (by decide) (by decide)
    have hq3 := (hS q (by omega)).2.1
    refine r_iload_n hX dX10_lay__7 rfl ?_
    refine r_iconst hX (nI 0) dX10_lay__8 rfl ?_
    refine r_iconst hX (nI 3) dX10_lay__9 rfl ?_
    refine r_callSF (As := [.int t, .int (nI 0), .int (nI 3)]) (rest := []) hX (c_X10_in σ t (nI 0) (nI 3)) dX10_lay__10 cb_X10_68 rfl rfl ⟨Nat.le_of_ble_eq_true rfl, Nat.le_of_ble_eq_true rfl⟩ ⟨Nat.le_of_ble_eq_true rfl, Nat.le_of_ble_eq_true rfl⟩ (Nat.le_of_ble_eq_true rfl) ?_
    refine r_ifB_eq hX dX10_lay__13 (fun c2 => ?_) (fun c2 => ?_)
    · skip
      refine r_ldc hX dX10_lay__41 ko_X10_72 ?_
      exact r_ireturn hX hQ dX10_lay__43 ⟨Nat.le_of_ble_eq_true rfl, Nat.le_of_ble_eq_true rfl⟩ (PI.mk (by rw [oLay, if_neg (fun e => by rw [c2] at e; cases e.2.1)]; exact ⟨rfl, hS, Ex.rf σ⟩))
    · skip
      obtain ⟨u, hul, hu, rfl⟩ := inB_nat c2 (by decide) (by decide)
      rcases (show u = 0 ∨ u = 1 ∨ u = 2 ∨ u = 3 by omega) with rfl | rfl | rfl | rfl
      · skip
        refine r_iload_n hX dX10_lay__16 rfl ?_
        refine r_iconst hX (nI 1) dX10_lay__17 rfl ?_
        refine r_icmpN_ne hX dX10_lay__18 (by decide) (by decide) (fun c3 => ?_) (fun c3 => absurd c3 (by decide))
        refine r_iload_n hX dX10_lay__29 rfl ?_
        refine r_iconst hX (nI 2) dX10_lay__30 rfl ?_
        refine r_icmpN_ne hX dX10_lay__31 (by decide) (by decide) (fun c4 => ?_) (fun c4 => absurd c4 (by decide))
        refine r_iload_n hX dX10_lay__44 rfl ?_
        refine r_iconst hX (nI 2) dX10_lay__45 rfl ?_
        refine r_icmpN_ne hX dX10_lay__46 (by decide) (by decide) (fun c5 => ?_) (fun c5 => absurd c5 (by decide))
        refine r_aload_n hX dX10_lay__62 rfl ?_
        refine r_getR hX dX10_lay__63 fl_X10_56 (hM.1 0 (9, 0) rfl) rfl (hM.2 39 16 rfl) ?_
        refine r_iload_n hX dX10_lay__66 rfl ?_
        refine r_aldN hX dX10_lay__67 (hM.1 16 (10, 5) rfl) (by decide) (by omega) (nI (Q.1 q)) (hS q (by omega)).1 ?_
        refine r_istore hX [(0, .ref (L.1 0)), (1, .int (nI q)), (2, .int (nI 0)), (3, .int k), (4, .int (nI (Q.1 q)))] dX10_lay__68 hN4 rfl ?_
        refine r_aload_n hX dX10_lay__70 rfl ?_
        refine r_getR hX dX10_lay__71 fl_X10_56 (hM.1 0 (9, 0) rfl) rfl (hM.2 39 16 rfl) ?_
        refine r_iload_n hX dX10_lay__74 rfl ?_
        refine r_iload_n hX dX10_lay__75 rfl ?_
        refine r_astN hX dX10_lay__76 (hM.1 16 (10, 5) rfl) (by decide) (by omega) ?_
        refine r_aload_n hX dX10_lay__77 rfl ?_
        refine r_getR hX dX10_lay__78 fl_X10_59 (hM.1 0 (9, 0) rfl) rfl (hM.2 40 17 rfl) ?_
        refine r_iload_n hX dX10_lay__81 rfl ?_
        refine r_iload_n hX dX10_lay__82 rfl ?_
        refine r_iconst hX (nI 1) dX10_lay__83 rfl ?_
        refine r_icmpN_ne hX dX10_lay__84 (by decide) (by decide) (fun c6 => ?_) (fun c6 => absurd c6 (by decide))
        refine r_iload_n hX dX10_lay__96 rfl ?_
        refine r_iconst hX (nI 2) dX10_lay__97 rfl ?_
        refine r_icmpN_ne hX dX10_lay__98 (by decide) (by decide) (fun c7 => ?_) (fun c7 => absurd c7 (by decide))
        refine r_iload_n hX dX10_lay__110 rfl ?_
        refine r_astN hX dX10_lay__111 (hM.1 17 (10, 5) rfl) (by decide) (by omega) ?_
        refine r_aload_n hX dX10_lay__112 rfl ?_
        refine r_getR hX dX10_lay__113 fl_X10_62 (hM.1 0 (9, 0) rfl) rfl (hM.2 41 18 rfl) ?_
        refine r_iload_n hX dX10_lay__116 rfl ?_
        refine r_iload_n hX dX10_lay__117 rfl ?_
        refine r_iconst hX (nI 1) dX10_lay__118 rfl ?_
        refine r_icmpN_ne hX dX10_lay__119 (by decide) (by decide) (fun c8 => ?_) (fun c8 => absurd c8 (by decide))
        refine r_iconst hX (nI 0) dX10_lay__131 rfl ?_
        refine r_astN hX dX10_lay__132 (hM.1 18 (10, 5) rfl) (by decide) (by omega) ?_
        refine r_iconst hX (nI 0) dX10_lay__133 rfl ?_
        refine r_istore hX [(0, .ref (L.1 0)), (1, .int (nI q)), (2, .int (nI 0)), (3, .int k), (4, .int (nI (Q.1 q))), (5, .int (nI 0))] dX10_lay__134 hN5 rfl ?_
        refine r_iload hX dX10_lay__136 rfl ?_
        refine r_bipush hX (nI 24) dX10_lay__138 rfl ?_
        refine r_icmpN_ge hX dX10_lay__140 (by decide) (by decide) (fun c9 => absurd c9 (by decide)) (fun c9 => ?_)
        refine r_iload_n hX dX10_lay__143 rfl ?_
        refine r_iconst hX (nI 2) dX10_lay__144 rfl ?_
        refine r_icmpN_ne hX dX10_lay__145 (by decide) (by decide) (fun c10 => ?_) (fun c10 => absurd c10 (by decide))
        refine r_iload hX dX10_lay__178 rfl ?_
        exact r_ireturn hX hQ dX10_lay__180 ⟨Nat.le_of_ble_eq_true rfl, Nat.le_of_ble_eq_true rfl⟩ (PI.mk (by rw [oLay, if_pos ⟨c1, c2, (fun e => absurd e.1 (by decide)), (fun e => absurd e.1 (by decide))⟩, if_neg (fun e => absurd e.1 (by decide)), nI_clamp (n := q) (by omega), nI_clamp (n := 0) (by decide), if_neg (by decide), if_neg (by decide), if_neg (by decide), if_neg (by decide)]; exact ⟨rfl, rsl_lay hS (by omega) (by decide) ((up_n (by omega)).trans ((up_n (by omega)).trans up_s)) ((up_n (by omega)).trans up_s) up_s (fun i hi => (up_n (by omega)).trans ((up_n (by omega)).trans ((up_n (by omega)).trans ((hS q (by omega)).2.2.2.2.1 i hi)))) (fun j hj => (up_n (by omega)).trans ((up_n (by omega)).trans (up_n (by omega)))) (fun j hj => (up_n (by omega)).trans ((up_n (by omega)).trans (up_n (by omega)))) (fun j hj => (up_n (by omega)).trans ((up_n (by omega)).trans (up_n (by omega)))) (fun j hj => (up_n (by omega)).trans ((up_n (by omega)).trans (up_n (by omega)))) (fun e => absurd e (by decide)) (fun e => absurd e (by decide)), Ex.up (Ex.up (Ex.up (Ex.rf σ) rfl) rfl) rfl⟩))
      · skip
        refine r_iload_n hX dX10_lay__16 rfl ?_
        refine r_iconst hX (nI 1) dX10_lay__17 rfl ?_
        refine r_icmpN_ne hX dX10_lay__18 (by decide) (by decide) (fun c11 => absurd c11 (by decide)) (fun c11 => ?_)
        refine r_aload_n hX dX10_lay__21 rfl ?_
        refine r_iload_n hX dX10_lay__22 rfl ?_
        refine r_callVF (As := [.int k]) (rest := []) hX (c_X10_isWord hM σ A hR k) dX10_lay__23 cb_X10_126 (hM.1 0 (9, 0) rfl) rfl rfl ⟨Nat.le_of_ble_eq_true rfl, Nat.le_of_ble_eq_true rfl⟩ ⟨Nat.le_of_ble_eq_true rfl, Nat.le_of_ble_eq_true rfl⟩ (Nat.le_of_ble_eq_true rfl) ?_
        refine r_ifB_eq hX dX10_lay__26 (fun c12 => ?_) (fun c12 => ?_)
        · skip
          refine r_ldc hX dX10_lay__41 ko_X10_72 ?_
          exact r_ireturn hX hQ dX10_lay__43 ⟨Nat.le_of_ble_eq_true rfl, Nat.le_of_ble_eq_true rfl⟩ (PI.mk (by rw [oLay, if_neg (fun e => e.2.2.1 ⟨rfl, c12⟩)]; exact ⟨rfl, hS, Ex.rf σ⟩))
        · skip
          obtain ⟨x, hx, rfl⟩ := isB_nat c12 (by omega)
          have hwx := hV.2.2.2.2.2.2.1 x hx
          refine r_iload_n hX dX10_lay__29 rfl ?_
          refine r_iconst hX (nI 2) dX10_lay__30 rfl ?_
          refine r_icmpN_ne hX dX10_lay__31 (by decide) (by decide) (fun c13 => ?_) (fun c13 => absurd c13 (by decide))
          refine r_iload_n hX dX10_lay__44 rfl ?_
          refine r_iconst hX (nI 2) dX10_lay__45 rfl ?_
          refine r_icmpN_ne hX dX10_lay__46 (by decide) (by decide) (fun c14 => ?_) (fun c14 => absurd c14 (by decide))
          refine r_aload_n hX dX10_lay__62 rfl ?_
          refine r_getR hX dX10_lay__63 fl_X10_56 (hM.1 0 (9, 0) rfl) rfl (hM.2 39 16 rfl) ?_
          refine r_iload_n hX dX10_lay__66 rfl ?_
          refine r_aldN hX dX10_lay__67 (hM.1 16 (10, 5) rfl) (by decide) (by omega) (nI (Q.1 q)) (hS q (by omega)).1 ?_
          refine r_istore hX [(0, .ref (L.1 0)), (1, .int (nI q)), (2, .int (nI 1)), (3, .int (nI x)), (4, .int (nI (Q.1 q)))] dX10_lay__68 hN4 rfl ?_
          refine r_aload_n hX dX10_lay__70 rfl ?_
          refine r_getR hX dX10_lay__71 fl_X10_56 (hM.1 0 (9, 0) rfl) rfl (hM.2 39 16 rfl) ?_
          refine r_iload_n hX dX10_lay__74 rfl ?_
          refine r_iload_n hX dX10_lay__75 rfl ?_
          refine r_astN hX dX10_lay__76 (hM.1 16 (10, 5) rfl) (by decide) (by omega) ?_
          refine r_aload_n hX dX10_lay__77 rfl ?_
          refine r_getR hX dX10_lay__78 fl_X10_59 (hM.1 0 (9, 0) rfl) rfl (hM.2 40 17 rfl) ?_
          refine r_iload_n hX dX10_lay__81 rfl ?_
          refine r_iload_n hX dX10_lay__82 rfl ?_
          refine r_iconst hX (nI 1) dX10_lay__83 rfl ?_
          refine r_icmpN_ne hX dX10_lay__84 (by decide) (by decide) (fun c15 => absurd c15 (by decide)) (fun c15 => ?_)
          refine r_aload_n hX dX10_lay__87 rfl ?_
          refine r_iload_n hX dX10_lay__88 rfl ?_
          refine r_iconst hX (nI 0) dX10_lay__89 rfl ?_
          refine r_callVF (As := [.int (nI x), .int (nI 0)]) (rest := [.int (nI q), .ref (L.1 17)]) hX (c_X10_ofA hM (up σ 16 q (nI 1)) A (by rw [up_row (by decide)]; exact hR) hV x 0 (by omega) (by omega)) dX10_lay__90 cb_X10_74 (hM.1 0 (9, 0) rfl) rfl rfl ⟨Nat.le_of_ble_eq_true rfl, Nat.le_of_ble_eq_true rfl⟩ ⟨Nat.le_of_ble_eq_true rfl, Nat.le_of_ble_eq_true rfl⟩ (Nat.le_of_ble_eq_true rfl) ?_
          refine r_goto hX dX10_lay__93 ?_
          refine r_astN hX dX10_lay__111 (hM.1 17 (10, 5) rfl) (by decide) (by omega) ?_
          refine r_aload_n hX dX10_lay__112 rfl ?_
          refine r_getR hX dX10_lay__113 fl_X10_62 (hM.1 0 (9, 0) rfl) rfl (hM.2 41 18 rfl) ?_
          refine r_iload_n hX dX10_lay__116 rfl ?_
          refine r_iload_n hX dX10_lay__117 rfl ?_
          refine r_iconst hX (nI 1) dX10_lay__118 rfl ?_
          refine r_icmpN_ne hX dX10_lay__119 (by decide) (by decide) (fun c16 => absurd c16 (by decide)) (fun c16 => ?_)
          refine r_aload_n hX dX10_lay__122 rfl ?_
          refine r_iload_n hX dX10_lay__123 rfl ?_
          refine r_iconst hX (nI 4) dX10_lay__124 rfl ?_
          refine r_callVF (As := [.int (nI x), .int (nI 4)]) (rest := [.int (nI q), .ref (L.1 18)]) hX (c_X10_ofA hM (up (up σ 16 q (nI 1)) 17 q (nI (aF A x 0))) A (by rw [up_row (by decide), up_row (by decide)]; exact hR) hV x 4 (by omega) (by omega)) dX10_lay__125 cb_X10_74 (hM.1 0 (9, 0) rfl) rfl rfl ⟨Nat.le_of_ble_eq_true rfl, Nat.le_of_ble_eq_true rfl⟩ ⟨Nat.le_of_ble_eq_true rfl, Nat.le_of_ble_eq_true rfl⟩ (Nat.le_of_ble_eq_true rfl) ?_
          refine r_goto hX dX10_lay__128 ?_
          refine r_astN hX dX10_lay__132 (hM.1 18 (10, 5) rfl) (by decide) (by omega) ?_
          refine r_iconst hX (nI 0) dX10_lay__133 rfl ?_
          refine r_istore hX [(0, .ref (L.1 0)), (1, .int (nI q)), (2, .int (nI 1)), (3, .int (nI x)), (4, .int (nI (Q.1 q))), (5, .int (nI 0))] dX10_lay__134 hN5 rfl ?_
          refine r_iload hX dX10_lay__136 rfl ?_
          refine r_bipush hX (nI 24) dX10_lay__138 rfl ?_
          refine r_icmpN_ge hX dX10_lay__140 (by decide) (by decide) (fun c17 => absurd c17 (by decide)) (fun c17 => ?_)
          refine r_iload_n hX dX10_lay__143 rfl ?_
          refine r_iconst hX (nI 2) dX10_lay__144 rfl ?_
          refine r_icmpN_ne hX dX10_lay__145 (by decide) (by decide) (fun c18 => ?_) (fun c18 => absurd c18 (by decide))
          refine r_iload hX dX10_lay__178 rfl ?_
          exact r_ireturn hX hQ dX10_lay__180 ⟨Nat.le_of_ble_eq_true rfl, Nat.le_of_ble_eq_true rfl⟩ (PI.mk (by rw [oLay, if_pos ⟨c1, c2, (fun e => by rw [c12] at e; cases e.2), (fun e => absurd e.1 (by decide))⟩, if_neg (fun e => absurd e.1 (by decide)), nI_clamp (n := q) (by omega), nI_clamp (n := 1) (by decide), if_pos rfl, if_pos rfl, if_neg (by decide), nI_clamp (n := x) (by omega)]; exact ⟨rfl, rsl_lay hS (by omega) (by decide) ((up_n (by omega)).trans ((up_n (by omega)).trans up_s)) ((up_n (by omega)).trans up_s) up_s (fun i hi => (up_n (by omega)).trans ((up_n (by omega)).trans ((up_n (by omega)).trans ((hS q (by omega)).2.2.2.2.1 i hi)))) (fun j hj => (up_n (by omega)).trans ((up_n (by omega)).trans (up_n (by omega)))) (fun j hj => (up_n (by omega)).trans ((up_n (by omega)).trans (up_n (by omega)))) (fun j hj => (up_n (by omega)).trans ((up_n (by omega)).trans (up_n (by omega)))) (fun j hj => (up_n (by omega)).trans ((up_n (by omega)).trans (up_n (by omega)))) (fun _ => ⟨aF A x 0, hwx.1, rfl, hwx.2.2.2.2.1, hwx.2.2.2.2.2⟩) (fun e => absurd e (by decide)), Ex.up (Ex.up (Ex.up (Ex.rf σ) rfl) rfl) rfl⟩))
      · skip
        refine r_iload_n hX dX10_lay__16 rfl ?_
        refine r_iconst hX (nI 1) dX10_lay__17 rfl ?_
        refine r_icmpN_ne hX dX10_lay__18 (by decide) (by decide) (fun c19 => ?_) (fun c19 => absurd c19 (by decide))
        refine r_iload_n hX dX10_lay__29 rfl ?_
        refine r_iconst hX (nI 2) dX10_lay__30 rfl ?_
        refine r_icmpN_ne hX dX10_lay__31 (by decide) (by decide) (fun c20 => absurd c20 (by decide)) (fun c20 => ?_)
        refine r_iload_n hX dX10_lay__34 rfl ?_
        refine r_callSF (As := [.int k]) (rest := []) hX (c_X10_isSheet σ k) dX10_lay__35 cb_X10_343 rfl rfl ⟨Nat.le_of_ble_eq_true rfl, Nat.le_of_ble_eq_true rfl⟩ ⟨Nat.le_of_ble_eq_true rfl, Nat.le_of_ble_eq_true rfl⟩ (Nat.le_of_ble_eq_true rfl) ?_
        refine r_ifB_ne hX dX10_lay__38 (fun c21 => ?_) (fun c21 => ?_)
        · skip
          obtain ⟨r, hrl, hr, rfl⟩ := inB_nat c21 (by decide) (by decide)
          have hzr := (hB r (by omega)).2.2.1
          rcases hs22 : B.1 r with _ | _ | _
          · skip
            refine r_iload_n hX dX10_lay__44 rfl ?_
            refine r_iconst hX (nI 2) dX10_lay__45 rfl ?_
            refine r_icmpN_ne hX dX10_lay__46 (by decide) (by decide) (fun c23 => absurd c23 (by decide)) (fun c23 => ?_)
            refine r_aload_n hX dX10_lay__49 rfl ?_
            refine r_getR hX dX10_lay__50 fl_X10_44 (hM.1 0 (9, 0) rfl) rfl (hM.2 35 12 rfl) ?_
            refine r_iload_n hX dX10_lay__53 rfl ?_
            refine r_aldN hX dX10_lay__54 (hM.1 12 (10, 4) rfl) (by decide) (by omega) (-1) ((hB r (by omega)).1.trans (by rw [hs22]; rfl)) ?_
            refine r_if_ge hX dX10_lay__55 (fun c24 => absurd c24 (by decide)) (fun c24 => ?_)
            refine r_ldcw hX dX10_lay__58 ko_X10_347 ?_
            exact r_ireturn hX hQ dX10_lay__61 ⟨Nat.le_of_ble_eq_true rfl, Nat.le_of_ble_eq_true rfl⟩ (PI.mk (by rw [oLay, if_pos ⟨c1, c2, (fun e => absurd e.1 (by decide)), (fun e => by rw [c21] at e; cases e.2)⟩, nI_clamp (n := r) (by omega), if_pos ⟨rfl, hs22⟩]; exact ⟨rfl, hS, Ex.rf σ⟩))
          · skip
            refine r_iload_n hX dX10_lay__44 rfl ?_
            refine r_iconst hX (nI 2) dX10_lay__45 rfl ?_
            refine r_icmpN_ne hX dX10_lay__46 (by decide) (by decide) (fun c25 => absurd c25 (by decide)) (fun c25 => ?_)
            refine r_aload_n hX dX10_lay__49 rfl ?_
            refine r_getR hX dX10_lay__50 fl_X10_44 (hM.1 0 (9, 0) rfl) rfl (hM.2 35 12 rfl) ?_
            refine r_iload_n hX dX10_lay__53 rfl ?_
            refine r_aldN hX dX10_lay__54 (hM.1 12 (10, 4) rfl) (by decide) (by omega) (nI 0) ((hB r (by omega)).1.trans (by rw [hs22]; rfl)) ?_
            refine r_ifN_ge hX dX10_lay__55 (by decide) ?_
            refine r_aload_n hX dX10_lay__62 rfl ?_
            refine r_getR hX dX10_lay__63 fl_X10_56 (hM.1 0 (9, 0) rfl) rfl (hM.2 39 16 rfl) ?_
            refine r_iload_n hX dX10_lay__66 rfl ?_
            refine r_aldN hX dX10_lay__67 (hM.1 16 (10, 5) rfl) (by decide) (by omega) (nI (Q.1 q)) (hS q (by omega)).1 ?_
            refine r_istore hX [(0, .ref (L.1 0)), (1, .int (nI q)), (2, .int (nI 2)), (3, .int (nI r)), (4, .int (nI (Q.1 q)))] dX10_lay__68 hN4 rfl ?_
            refine r_aload_n hX dX10_lay__70 rfl ?_
            refine r_getR hX dX10_lay__71 fl_X10_56 (hM.1 0 (9, 0) rfl) rfl (hM.2 39 16 rfl) ?_
            refine r_iload_n hX dX10_lay__74 rfl ?_
            refine r_iload_n hX dX10_lay__75 rfl ?_
            refine r_astN hX dX10_lay__76 (hM.1 16 (10, 5) rfl) (by decide) (by omega) ?_
            refine r_aload_n hX dX10_lay__77 rfl ?_
            refine r_getR hX dX10_lay__78 fl_X10_59 (hM.1 0 (9, 0) rfl) rfl (hM.2 40 17 rfl) ?_
            refine r_iload_n hX dX10_lay__81 rfl ?_
            refine r_iload_n hX dX10_lay__82 rfl ?_
            refine r_iconst hX (nI 1) dX10_lay__83 rfl ?_
            refine r_icmpN_ne hX dX10_lay__84 (by decide) (by decide) (fun c26 => ?_) (fun c26 => absurd c26 (by decide))
            refine r_iload_n hX dX10_lay__96 rfl ?_
            refine r_iconst hX (nI 2) dX10_lay__97 rfl ?_
            refine r_icmpN_ne hX dX10_lay__98 (by decide) (by decide) (fun c27 => absurd c27 (by decide)) (fun c27 => ?_)
            refine r_aload_n hX dX10_lay__101 rfl ?_
            refine r_getR hX dX10_lay__102 fl_X10_47 (hM.1 0 (9, 0) rfl) rfl (hM.2 36 13 rfl) ?_
            refine r_iload_n hX dX10_lay__105 rfl ?_
            refine r_aldN hX dX10_lay__106 (hM.1 13 (10, 4) rfl) (by decide) (by omega) (nI (B.2.1 r)) (by rw [up_n (by omega)]; exact (hB r (by omega)).2.1) ?_
            refine r_goto hX dX10_lay__107 ?_
            refine r_astN hX dX10_lay__111 (hM.1 17 (10, 5) rfl) (by decide) (by omega) ?_
            refine r_aload_n hX dX10_lay__112 rfl ?_
            refine r_getR hX dX10_lay__113 fl_X10_62 (hM.1 0 (9, 0) rfl) rfl (hM.2 41 18 rfl) ?_
            refine r_iload_n hX dX10_lay__116 rfl ?_
            refine r_iload_n hX dX10_lay__117 rfl ?_
            refine r_iconst hX (nI 1) dX10_lay__118 rfl ?_
            refine r_icmpN_ne hX dX10_lay__119 (by decide) (by decide) (fun c28 => ?_) (fun c28 => absurd c28 (by decide))
            refine r_iconst hX (nI 0) dX10_lay__131 rfl ?_
            refine r_astN hX dX10_lay__132 (hM.1 18 (10, 5) rfl) (by decide) (by omega) ?_
            refine r_iconst hX (nI 0) dX10_lay__133 rfl ?_
            refine r_istore hX [(0, .ref (L.1 0)), (1, .int (nI q)), (2, .int (nI 2)), (3, .int (nI r)), (4, .int (nI (Q.1 q))), (5, .int (nI 0))] dX10_lay__134 hN5 rfl ?_
            have P29 : ∀ i, i ≤ 24 → ∀ (σk : Me) (e16 : σk 16 q = nI 2) (e17 : σk 17 q = nI (B.2.1 r)) (e18 : σk 18 q = nI 0) (e19 : ∀ x, x < i → σk 19 (24 * q + x) = B.2.2 r x) (f16 : ∀ j, j ≠ q → σk 16 j = σ 16 j) (f17 : ∀ j, j ≠ q → σk 17 j = σ 17 j) (f18 : ∀ j, j ≠ q → σk 18 j = σ 18 j) (f19 : ∀ j, j < 24 * q ∨ 24 * q + 24 ≤ j → σk 19 j = σ 19 j) (hEk : Ex pL σ σk), At X L σk 0 0 [(0, .ref (L.1 0)), (1, .int (nI q)), (2, .int (nI 2)), (3, .int (nI r)), (4, .int (nI (Q.1 q))), (5, .int (nI i))] 136 [] := by
              refine loopUp 24 ?_ ?_
              · skip
                intro σk e16 e17 e18 e19 f16 f17 f18 f19 hEk
                refine r_iload hX dX10_lay__136 rfl ?_
                refine r_bipush hX (nI 24) dX10_lay__138 rfl ?_
                refine r_icmpN_ge hX dX10_lay__140 (by decide) (by decide) (fun c30 => ?_) (fun c30 => absurd c30 (by decide))
                refine r_iload hX dX10_lay__178 rfl ?_
                exact r_ireturn hX hQ dX10_lay__180 ⟨Nat.le_of_ble_eq_true rfl, Nat.le_of_ble_eq_true rfl⟩ (PI.mk (by rw [oLay, if_pos ⟨c1, c2, (fun e => absurd e.1 (by decide)), (fun e => by rw [c21] at e; cases e.2)⟩, nI_clamp (n := r) (by omega), if_neg (fun e => by rw [hs22] at e; cases e.2), nI_clamp (n := q) (by omega), nI_clamp (n := 2) (by decide), if_neg (by decide), if_pos rfl, if_neg (by decide), if_pos rfl]; exact ⟨rfl, rsl_lay hS (by omega) (by decide) e16 e17 e18 e19 f16 f17 f18 f19 (fun e => absurd e (by decide)) (fun _ => ⟨B.2.1 r, by omega, rfl⟩), hEk⟩))
              · skip
                intro i hk ih31 σk e16 e17 e18 e19 f16 f17 f18 f19 hEk
                refine r_iload hX dX10_lay__136 rfl ?_
                refine r_bipush hX (nI 24) dX10_lay__138 rfl ?_
                refine r_icmpN_ge hX dX10_lay__140 (by omega) (by decide) (fun c32 => absurd c32 (by omega)) (fun c32 => ?_)
                refine r_iload_n hX dX10_lay__143 rfl ?_
                refine r_iconst hX (nI 2) dX10_lay__144 rfl ?_
                refine r_icmpN_ne hX dX10_lay__145 (by decide) (by decide) (fun c33 => absurd c33 (by decide)) (fun c33 => ?_)
                refine r_aload_n hX dX10_lay__148 rfl ?_
                refine r_getR hX dX10_lay__149 fl_X10_65 (hM.1 0 (9, 0) rfl) rfl (hM.2 42 19 rfl) ?_
                refine r_bipush hX (nI 24) dX10_lay__152 rfl ?_
                refine r_iload_n hX dX10_lay__154 rfl ?_
                refine r_imulN hX dX10_lay__155 ?_
                refine r_iload hX dX10_lay__156 rfl ?_
                refine r_iaddN hX dX10_lay__158 ?_
                refine r_aload_n hX dX10_lay__159 rfl ?_
                refine r_getR hX dX10_lay__160 fl_X10_50 (hM.1 0 (9, 0) rfl) rfl (hM.2 37 14 rfl) ?_
                refine r_bipush hX (nI 24) dX10_lay__163 rfl ?_
                refine r_iload_n hX dX10_lay__165 rfl ?_
                refine r_imulN hX dX10_lay__166 ?_
                refine r_iload hX dX10_lay__167 rfl ?_
                refine r_iaddN hX dX10_lay__169 ?_
                refine r_aldN hX dX10_lay__170 (hM.1 14 (10, 96) rfl) (by decide) (by omega) (B.2.2 r i) ((hEk 14 _ rfl).trans ((hB r (by omega)).2.2.2 i (by omega))) ?_
                refine r_astN hX dX10_lay__171 (hM.1 19 (10, 120) rfl) (by decide) (by omega) ?_
                refine r_iincN (n := 1) hX [(0, .ref (L.1 0)), (1, .int (nI q)), (2, .int (nI 2)), (3, .int (nI r)), (4, .int (nI (Q.1 q))), (5, .int (nI (i + 1)))] dX10_lay__172 rfl hN5 rfl ?_
                refine r_goto hX dX10_lay__175 ?_
                exact At.to (ih31 (up σk 19 (24 * q + i) (B.2.2 r i)) ((up_n (by omega)).trans e16) ((up_n (by omega)).trans e17) ((up_n (by omega)).trans e18) (fun x hx => if e : x = i then (by rw [e, up_s]) else (by rw [up_n (by omega)]; exact e19 x (by omega))) (fun j hj => (up_n (by omega)).trans (f16 j hj)) (fun j hj => (up_n (by omega)).trans (f17 j hj)) (fun j hj => (up_n (by omega)).trans (f18 j hj)) (fun j hj => (up_n (by omega)).trans (f19 j hj)) (Ex.up hEk rfl)) rfl rfl rfl
            exact At.to (P29 0 (Nat.zero_le _) (up (up (up σ 16 q (nI 2)) 17 q (nI (B.2.1 r))) 18 q (nI 0)) ((up_n (by omega)).trans ((up_n (by omega)).trans up_s)) ((up_n (by omega)).trans up_s) up_s (fun i hi => absurd hi (Nat.not_lt_zero i)) (fun j hj => (up_n (by omega)).trans ((up_n (by omega)).trans (up_n (by omega)))) (fun j hj => (up_n (by omega)).trans ((up_n (by omega)).trans (up_n (by omega)))) (fun j hj => (up_n (by omega)).trans ((up_n (by omega)).trans (up_n (by omega)))) (fun j hj => (up_n (by omega)).trans ((up_n (by omega)).trans (up_n (by omega)))) (Ex.up (Ex.up (Ex.up (Ex.rf σ) rfl) rfl) rfl)) rfl rfl rfl
          · skip
            refine r_iload_n hX dX10_lay__44 rfl ?_
            refine r_iconst hX (nI 2) dX10_lay__45 rfl ?_
            refine r_icmpN_ne hX dX10_lay__46 (by decide) (by decide) (fun c34 => absurd c34 (by decide)) (fun c34 => ?_)
            refine r_aload_n hX dX10_lay__49 rfl ?_
            refine r_getR hX dX10_lay__50 fl_X10_44 (hM.1 0 (9, 0) rfl) rfl (hM.2 35 12 rfl) ?_
            refine r_iload_n hX dX10_lay__53 rfl ?_
            refine r_aldN hX dX10_lay__54 (hM.1 12 (10, 4) rfl) (by decide) (by omega) (nI 1) ((hB r (by omega)).1.trans (by rw [hs22]; rfl)) ?_
            refine r_ifN_ge hX dX10_lay__55 (by decide) ?_
            refine r_aload_n hX dX10_lay__62 rfl ?_
            refine r_getR hX dX10_lay__63 fl_X10_56 (hM.1 0 (9, 0) rfl) rfl (hM.2 39 16 rfl) ?_
            refine r_iload_n hX dX10_lay__66 rfl ?_
            refine r_aldN hX dX10_lay__67 (hM.1 16 (10, 5) rfl) (by decide) (by omega) (nI (Q.1 q)) (hS q (by omega)).1 ?_
            refine r_istore hX [(0, .ref (L.1 0)), (1, .int (nI q)), (2, .int (nI 2)), (3, .int (nI r)), (4, .int (nI (Q.1 q)))] dX10_lay__68 hN4 rfl ?_
            refine r_aload_n hX dX10_lay__70 rfl ?_
            refine r_getR hX dX10_lay__71 fl_X10_56 (hM.1 0 (9, 0) rfl) rfl (hM.2 39 16 rfl) ?_
            refine r_iload_n hX dX10_lay__74 rfl ?_
            refine r_iload_n hX dX10_lay__75 rfl ?_
            refine r_astN hX dX10_lay__76 (hM.1 16 (10, 5) rfl) (by decide) (by omega) ?_
            refine r_aload_n hX dX10_lay__77 rfl ?_
            refine r_getR hX dX10_lay__78 fl_X10_59 (hM.1 0 (9, 0) rfl) rfl (hM.2 40 17 rfl) ?_
            refine r_iload_n hX dX10_lay__81 rfl ?_
            refine r_iload_n hX dX10_lay__82 rfl ?_
            refine r_iconst hX (nI 1) dX10_lay__83 rfl ?_
            refine r_icmpN_ne hX dX10_lay__84 (by decide) (by decide) (fun c35 => ?_) (fun c35 => absurd c35 (by decide))
            refine r_iload_n hX dX10_lay__96 rfl ?_
            refine r_iconst hX (nI 2) dX10_lay__97 rfl ?_
            refine r_icmpN_ne hX dX10_lay__98 (by decide) (by decide) (fun c36 => absurd c36 (by decide)) (fun c36 => ?_)
            refine r_aload_n hX dX10_lay__101 rfl ?_
            refine r_getR hX dX10_lay__102 fl_X10_47 (hM.1 0 (9, 0) rfl) rfl (hM.2 36 13 rfl) ?_
            refine r_iload_n hX dX10_lay__105 rfl ?_
            refine r_aldN hX dX10_lay__106 (hM.1 13 (10, 4) rfl) (by decide) (by omega) (nI (B.2.1 r)) (by rw [up_n (by omega)]; exact (hB r (by omega)).2.1) ?_
            refine r_goto hX dX10_lay__107 ?_
            refine r_astN hX dX10_lay__111 (hM.1 17 (10, 5) rfl) (by decide) (by omega) ?_
            refine r_aload_n hX dX10_lay__112 rfl ?_
            refine r_getR hX dX10_lay__113 fl_X10_62 (hM.1 0 (9, 0) rfl) rfl (hM.2 41 18 rfl) ?_
            refine r_iload_n hX dX10_lay__116 rfl ?_
            refine r_iload_n hX dX10_lay__117 rfl ?_
            refine r_iconst hX (nI 1) dX10_lay__118 rfl ?_
            refine r_icmpN_ne hX dX10_lay__119 (by decide) (by decide) (fun c37 => ?_) (fun c37 => absurd c37 (by decide))
            refine r_iconst hX (nI 0) dX10_lay__131 rfl ?_
            refine r_astN hX dX10_lay__132 (hM.1 18 (10, 5) rfl) (by decide) (by omega) ?_
            refine r_iconst hX (nI 0) dX10_lay__133 rfl ?_
            refine r_istore hX [(0, .ref (L.1 0)), (1, .int (nI q)), (2, .int (nI 2)), (3, .int (nI r)), (4, .int (nI (Q.1 q))), (5, .int (nI 0))] dX10_lay__134 hN5 rfl ?_
            have P38 : ∀ i, i ≤ 24 → ∀ (σk : Me) (e16 : σk 16 q = nI 2) (e17 : σk 17 q = nI (B.2.1 r)) (e18 : σk 18 q = nI 0) (e19 : ∀ x, x < i → σk 19 (24 * q + x) = B.2.2 r x) (f16 : ∀ j, j ≠ q → σk 16 j = σ 16 j) (f17 : ∀ j, j ≠ q → σk 17 j = σ 17 j) (f18 : ∀ j, j ≠ q → σk 18 j = σ 18 j) (f19 : ∀ j, j < 24 * q ∨ 24 * q + 24 ≤ j → σk 19 j = σ 19 j) (hEk : Ex pL σ σk), At X L σk 0 0 [(0, .ref (L.1 0)), (1, .int (nI q)), (2, .int (nI 2)), (3, .int (nI r)), (4, .int (nI (Q.1 q))), (5, .int (nI i))] 136 [] := by
              refine loopUp 24 ?_ ?_
              · skip
                intro σk e16 e17 e18 e19 f16 f17 f18 f19 hEk
                refine r_iload hX dX10_lay__136 rfl ?_
                refine r_bipush hX (nI 24) dX10_lay__138 rfl ?_
                refine r_icmpN_ge hX dX10_lay__140 (by decide) (by decide) (fun c39 => ?_) (fun c39 => absurd c39 (by decide))
                refine r_iload hX dX10_lay__178 rfl ?_
                exact r_ireturn hX hQ dX10_lay__180 ⟨Nat.le_of_ble_eq_true rfl, Nat.le_of_ble_eq_true rfl⟩ (PI.mk (by rw [oLay, if_pos ⟨c1, c2, (fun e => absurd e.1 (by decide)), (fun e => by rw [c21] at e; cases e.2)⟩, nI_clamp (n := r) (by omega), if_neg (fun e => by rw [hs22] at e; cases e.2), nI_clamp (n := q) (by omega), nI_clamp (n := 2) (by decide), if_neg (by decide), if_pos rfl, if_neg (by decide), if_pos rfl]; exact ⟨rfl, rsl_lay hS (by omega) (by decide) e16 e17 e18 e19 f16 f17 f18 f19 (fun e => absurd e (by decide)) (fun _ => ⟨B.2.1 r, by omega, rfl⟩), hEk⟩))
              · skip
                intro i hk ih40 σk e16 e17 e18 e19 f16 f17 f18 f19 hEk
                refine r_iload hX dX10_lay__136 rfl ?_
                refine r_bipush hX (nI 24) dX10_lay__138 rfl ?_
                refine r_icmpN_ge hX dX10_lay__140 (by omega) (by decide) (fun c41 => absurd c41 (by omega)) (fun c41 => ?_)
                refine r_iload_n hX dX10_lay__143 rfl ?_
                refine r_iconst hX (nI 2) dX10_lay__144 rfl ?_
                refine r_icmpN_ne hX dX10_lay__145 (by decide) (by decide) (fun c42 => absurd c42 (by decide)) (fun c42 => ?_)
                refine r_aload_n hX dX10_lay__148 rfl ?_
                refine r_getR hX dX10_lay__149 fl_X10_65 (hM.1 0 (9, 0) rfl) rfl (hM.2 42 19 rfl) ?_
                refine r_bipush hX (nI 24) dX10_lay__152 rfl ?_
                refine r_iload_n hX dX10_lay__154 rfl ?_
                refine r_imulN hX dX10_lay__155 ?_
                refine r_iload hX dX10_lay__156 rfl ?_
                refine r_iaddN hX dX10_lay__158 ?_
                refine r_aload_n hX dX10_lay__159 rfl ?_
                refine r_getR hX dX10_lay__160 fl_X10_50 (hM.1 0 (9, 0) rfl) rfl (hM.2 37 14 rfl) ?_
                refine r_bipush hX (nI 24) dX10_lay__163 rfl ?_
                refine r_iload_n hX dX10_lay__165 rfl ?_
                refine r_imulN hX dX10_lay__166 ?_
                refine r_iload hX dX10_lay__167 rfl ?_
                refine r_iaddN hX dX10_lay__169 ?_
                refine r_aldN hX dX10_lay__170 (hM.1 14 (10, 96) rfl) (by decide) (by omega) (B.2.2 r i) ((hEk 14 _ rfl).trans ((hB r (by omega)).2.2.2 i (by omega))) ?_
                refine r_astN hX dX10_lay__171 (hM.1 19 (10, 120) rfl) (by decide) (by omega) ?_
                refine r_iincN (n := 1) hX [(0, .ref (L.1 0)), (1, .int (nI q)), (2, .int (nI 2)), (3, .int (nI r)), (4, .int (nI (Q.1 q))), (5, .int (nI (i + 1)))] dX10_lay__172 rfl hN5 rfl ?_
                refine r_goto hX dX10_lay__175 ?_
                exact At.to (ih40 (up σk 19 (24 * q + i) (B.2.2 r i)) ((up_n (by omega)).trans e16) ((up_n (by omega)).trans e17) ((up_n (by omega)).trans e18) (fun x hx => if e : x = i then (by rw [e, up_s]) else (by rw [up_n (by omega)]; exact e19 x (by omega))) (fun j hj => (up_n (by omega)).trans (f16 j hj)) (fun j hj => (up_n (by omega)).trans (f17 j hj)) (fun j hj => (up_n (by omega)).trans (f18 j hj)) (fun j hj => (up_n (by omega)).trans (f19 j hj)) (Ex.up hEk rfl)) rfl rfl rfl
            exact At.to (P38 0 (Nat.zero_le _) (up (up (up σ 16 q (nI 2)) 17 q (nI (B.2.1 r))) 18 q (nI 0)) ((up_n (by omega)).trans ((up_n (by omega)).trans up_s)) ((up_n (by omega)).trans up_s) up_s (fun i hi => absurd hi (Nat.not_lt_zero i)) (fun j hj => (up_n (by omega)).trans ((up_n (by omega)).trans (up_n (by omega)))) (fun j hj => (up_n (by omega)).trans ((up_n (by omega)).trans (up_n (by omega)))) (fun j hj => (up_n (by omega)).trans ((up_n (by omega)).trans (up_n (by omega)))) (fun j hj => (up_n (by omega)).trans ((up_n (by omega)).trans (up_n (by omega)))) (Ex.up (Ex.up (Ex.up (Ex.rf σ) rfl) rfl) rfl)) rfl rfl rfl
        · skip
          refine r_ldc hX dX10_lay__41 ko_X10_72 ?_
          exact r_ireturn hX hQ dX10_lay__43 ⟨Nat.le_of_ble_eq_true rfl, Nat.le_of_ble_eq_true rfl⟩ (PI.mk (by rw [oLay, if_neg (fun e => e.2.2.2 ⟨rfl, c21⟩)]; exact ⟨rfl, hS, Ex.rf σ⟩))
      · skip
        refine r_iload_n hX dX10_lay__16 rfl ?_
        refine r_iconst hX (nI 1) dX10_lay__17 rfl ?_
        refine r_icmpN_ne hX dX10_lay__18 (by decide) (by decide) (fun c43 => ?_) (fun c43 => absurd c43 (by decide))
        refine r_iload_n hX dX10_lay__29 rfl ?_
        refine r_iconst hX (nI 2) dX10_lay__30 rfl ?_
        refine r_icmpN_ne hX dX10_lay__31 (by decide) (by decide) (fun c44 => ?_) (fun c44 => absurd c44 (by decide))
        refine r_iload_n hX dX10_lay__44 rfl ?_
        refine r_iconst hX (nI 2) dX10_lay__45 rfl ?_
        refine r_icmpN_ne hX dX10_lay__46 (by decide) (by decide) (fun c45 => ?_) (fun c45 => absurd c45 (by decide))
        refine r_aload_n hX dX10_lay__62 rfl ?_
        refine r_getR hX dX10_lay__63 fl_X10_56 (hM.1 0 (9, 0) rfl) rfl (hM.2 39 16 rfl) ?_
        refine r_iload_n hX dX10_lay__66 rfl ?_
        refine r_aldN hX dX10_lay__67 (hM.1 16 (10, 5) rfl) (by decide) (by omega) (nI (Q.1 q)) (hS q (by omega)).1 ?_
        refine r_istore hX [(0, .ref (L.1 0)), (1, .int (nI q)), (2, .int (nI 3)), (3, .int k), (4, .int (nI (Q.1 q)))] dX10_lay__68 hN4 rfl ?_
        refine r_aload_n hX dX10_lay__70 rfl ?_
        refine r_getR hX dX10_lay__71 fl_X10_56 (hM.1 0 (9, 0) rfl) rfl (hM.2 39 16 rfl) ?_
        refine r_iload_n hX dX10_lay__74 rfl ?_
        refine r_iload_n hX dX10_lay__75 rfl ?_
        refine r_astN hX dX10_lay__76 (hM.1 16 (10, 5) rfl) (by decide) (by omega) ?_
        refine r_aload_n hX dX10_lay__77 rfl ?_
        refine r_getR hX dX10_lay__78 fl_X10_59 (hM.1 0 (9, 0) rfl) rfl (hM.2 40 17 rfl) ?_
        refine r_iload_n hX dX10_lay__81 rfl ?_
        refine r_iload_n hX dX10_lay__82 rfl ?_
        refine r_iconst hX (nI 1) dX10_lay__83 rfl ?_
        refine r_icmpN_ne hX dX10_lay__84 (by decide) (by decide) (fun c46 => ?_) (fun c46 => absurd c46 (by decide))
        refine r_iload_n hX dX10_lay__96 rfl ?_
        refine r_iconst hX (nI 2) dX10_lay__97 rfl ?_
        refine r_icmpN_ne hX dX10_lay__98 (by decide) (by decide) (fun c47 => ?_) (fun c47 => absurd c47 (by decide))
        refine r_iload_n hX dX10_lay__110 rfl ?_
        refine r_astN hX dX10_lay__111 (hM.1 17 (10, 5) rfl) (by decide) (by omega) ?_
        refine r_aload_n hX dX10_lay__112 rfl ?_
        refine r_getR hX dX10_lay__113 fl_X10_62 (hM.1 0 (9, 0) rfl) rfl (hM.2 41 18 rfl) ?_
        refine r_iload_n hX dX10_lay__116 rfl ?_
        refine r_iload_n hX dX10_lay__117 rfl ?_
        refine r_iconst hX (nI 1) dX10_lay__118 rfl ?_
        refine r_icmpN_ne hX dX10_lay__119 (by decide) (by decide) (fun c48 => ?_) (fun c48 => absurd c48 (by decide))
        refine r_iconst hX (nI 0) dX10_lay__131 rfl ?_
        refine r_astN hX dX10_lay__132 (hM.1 18 (10, 5) rfl) (by decide) (by omega) ?_
        refine r_iconst hX (nI 0) dX10_lay__133 rfl ?_
        refine r_istore hX [(0, .ref (L.1 0)), (1, .int (nI q)), (2, .int (nI 3)), (3, .int k), (4, .int (nI (Q.1 q))), (5, .int (nI 0))] dX10_lay__134 hN5 rfl ?_
        refine r_iload hX dX10_lay__136 rfl ?_
        refine r_bipush hX (nI 24) dX10_lay__138 rfl ?_
        refine r_icmpN_ge hX dX10_lay__140 (by decide) (by decide) (fun c49 => absurd c49 (by decide)) (fun c49 => ?_)
        refine r_iload_n hX dX10_lay__143 rfl ?_
        refine r_iconst hX (nI 2) dX10_lay__144 rfl ?_
        refine r_icmpN_ne hX dX10_lay__145 (by decide) (by decide) (fun c50 => ?_) (fun c50 => absurd c50 (by decide))
        refine r_iload hX dX10_lay__178 rfl ?_
        exact r_ireturn hX hQ dX10_lay__180 ⟨Nat.le_of_ble_eq_true rfl, Nat.le_of_ble_eq_true rfl⟩ (PI.mk (by rw [oLay, if_pos ⟨c1, c2, (fun e => absurd e.1 (by decide)), (fun e => absurd e.1 (by decide))⟩, if_neg (fun e => absurd e.1 (by decide)), nI_clamp (n := q) (by omega), nI_clamp (n := 3) (by decide), if_neg (by decide), if_neg (by decide), if_neg (by decide), if_neg (by decide)]; exact ⟨rfl, rsl_lay hS (by omega) (by decide) ((up_n (by omega)).trans ((up_n (by omega)).trans up_s)) ((up_n (by omega)).trans up_s) up_s (fun i hi => (up_n (by omega)).trans ((up_n (by omega)).trans ((up_n (by omega)).trans ((hS q (by omega)).2.2.2.2.1 i hi)))) (fun j hj => (up_n (by omega)).trans ((up_n (by omega)).trans (up_n (by omega)))) (fun j hj => (up_n (by omega)).trans ((up_n (by omega)).trans (up_n (by omega)))) (fun j hj => (up_n (by omega)).trans ((up_n (by omega)).trans (up_n (by omega)))) (fun j hj => (up_n (by omega)).trans ((up_n (by omega)).trans (up_n (by omega)))) (fun e => absurd e (by decide)) (fun e => absurd e (by decide)), Ex.up (Ex.up (Ex.up (Ex.rf σ) rfl) rfl) rfl⟩))
