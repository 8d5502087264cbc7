set_option maxHeartbeats 4000000 in
set_option maxRecDepth 100000 in
theorem c_X10_copy {l : Launch} {D : Ds} {L : La} (hM : MAt L) (σ : Me) (B : Bs) (hB : RB σ B) (f p t a m : Int32) : Ct l yX10_copy cX10_copy 7 (some .int) { frames := 2, cells := 0, slots := 0, locals := 42 } D L σ [.ref (L.1 0), .int f, .int p, .int t, .int a, .int m] (PI L (fun r σ2 => r = (oCopy B f p t a m).1 ∧ RB σ2 (oCopy B f p t a m).2 ∧ Ex (fun c _ => decide (c = 14) || decide (c = 15)) σ σ2)) := by
  refine Ct.of (by decide) (Nat.le_of_ble_eq_true rfl) ?_
  intro X hl hD hnl hX0 hQ
  have hX : Ok X cX10_copy RX10 "copy" { frames := 2, cells := 0, slots := 0, locals := 42 } (some .int) := hX0
  have hN6 : 6 < xn X := by rw [hnl]; decide
  show At X L σ 0 0 [(0, .ref (L.1 0)), (1, .int f), (2, .int p), (3, .int t), (4, .int a), (5, .int m)] 0 []
  refine r_iload_n hX dX10_copy_0 rfl ?_
  refine r_callSF (As := [.int f]) (rest := []) hX (c_X10_isSheet σ f) dX10_copy_1 cb_X10_343 rfl rfl ⟨Nat.le_of_ble_eq_true rfl, Nat.le_of_ble_eq_true rfl⟩ ⟨Nat.le_of_ble_eq_true rfl, Nat.le_of_ble_eq_true rfl⟩ (Nat.le_of_ble_eq_true rfl) ?_
  refine r_ifB_eq hX dX10_copy_4 (fun c1 => ?_) (fun c1 => ?_)
  · skip
    refine r_ldc hX dX10_copy_14 ko_X10_72 ?_
    exact r_ireturn hX hQ dX10_copy_16 ⟨Nat.le_of_ble_eq_true rfl, Nat.le_of_ble_eq_true rfl⟩ (PI.mk (by rw [oCopy, if_neg (fun e => by rw [c1] at e; cases e.1)]; exact ⟨rfl, hB, Ex.rf σ⟩))
  · skip
    obtain ⟨q, hql, hq, rfl⟩ := inB_nat c1 (by decide) (by decide)
    have hzq := (hB q (by omega)).2.2.1
    rcases hs2 : B.1 q with _ | _ | _
    · skip
      refine r_iload_n hX dX10_copy_7 rfl ?_
      refine r_callSF (As := [.int t]) (rest := []) hX (c_X10_isSheet σ t) dX10_copy_8 cb_X10_343 rfl rfl ⟨Nat.le_of_ble_eq_true rfl, Nat.le_of_ble_eq_true rfl⟩ ⟨Nat.le_of_ble_eq_true rfl, Nat.le_of_ble_eq_true rfl⟩ (Nat.le_of_ble_eq_true rfl) ?_
      refine r_ifB_ne hX dX10_copy_11 (fun c3 => ?_) (fun c3 => ?_)
      · skip
        obtain ⟨r, hrl, hr, rfl⟩ := inB_nat c3 (by decide) (by decide)
        have hzr := (hB r (by omega)).2.2.1
        rcases hs4 : B.1 r with _ | _ | _
        · skip
          refine r_aload_n hX dX10_copy_17 rfl ?_
          refine r_getR hX dX10_copy_18 fl_X10_44 (hM.1 0 (9, 0) rfl) rfl (hM.2 35 12 rfl) ?_
          refine r_iload_n hX dX10_copy_21 rfl ?_
          refine r_aldN hX dX10_copy_22 (hM.1 12 (10, 4) rfl) (by decide) (by omega) (-1) ((hB q (by omega)).1.trans (by rw [hs2]; rfl)) ?_
          refine r_if_lt hX dX10_copy_23 (fun c5 => ?_) (fun c5 => absurd c5 (by decide))
          refine r_ldcw hX dX10_copy_35 ko_X10_347 ?_
          exact r_ireturn hX hQ dX10_copy_38 ⟨Nat.le_of_ble_eq_true rfl, Nat.le_of_ble_eq_true rfl⟩ (PI.mk (by rw [oCopy_0 hq hr c1 c3 (Or.inl hs2)]; exact ⟨rfl, hB, Ex.rf σ⟩))
        · skip
          refine r_aload_n hX dX10_copy_17 rfl ?_
          refine r_getR hX dX10_copy_18 fl_X10_44 (hM.1 0 (9, 0) rfl) rfl (hM.2 35 12 rfl) ?_
          refine r_iload_n hX dX10_copy_21 rfl ?_
          refine r_aldN hX dX10_copy_22 (hM.1 12 (10, 4) rfl) (by decide) (by omega) (-1) ((hB q (by omega)).1.trans (by rw [hs2]; rfl)) ?_
          refine r_if_lt hX dX10_copy_23 (fun c6 => ?_) (fun c6 => absurd c6 (by decide))
          refine r_ldcw hX dX10_copy_35 ko_X10_347 ?_
          exact r_ireturn hX hQ dX10_copy_38 ⟨Nat.le_of_ble_eq_true rfl, Nat.le_of_ble_eq_true rfl⟩ (PI.mk (by rw [oCopy_0 hq hr c1 c3 (Or.inl hs2)]; exact ⟨rfl, hB, Ex.rf σ⟩))
        · skip
          refine r_aload_n hX dX10_copy_17 rfl ?_
          refine r_getR hX dX10_copy_18 fl_X10_44 (hM.1 0 (9, 0) rfl) rfl (hM.2 35 12 rfl) ?_
          refine r_iload_n hX dX10_copy_21 rfl ?_
          refine r_aldN hX dX10_copy_22 (hM.1 12 (10, 4) rfl) (by decide) (by omega) (-1) ((hB q (by omega)).1.trans (by rw [hs2]; rfl)) ?_
          refine r_if_lt hX dX10_copy_23 (fun c7 => ?_) (fun c7 => absurd c7 (by decide))
          refine r_ldcw hX dX10_copy_35 ko_X10_347 ?_
          exact r_ireturn hX hQ dX10_copy_38 ⟨Nat.le_of_ble_eq_true rfl, Nat.le_of_ble_eq_true rfl⟩ (PI.mk (by rw [oCopy_0 hq hr c1 c3 (Or.inl hs2)]; exact ⟨rfl, hB, Ex.rf σ⟩))
      · skip
        refine r_ldc hX dX10_copy_14 ko_X10_72 ?_
        exact r_ireturn hX hQ dX10_copy_16 ⟨Nat.le_of_ble_eq_true rfl, Nat.le_of_ble_eq_true rfl⟩ (PI.mk (by rw [oCopy, if_neg (fun e => by rw [c3] at e; cases e.2)]; exact ⟨rfl, hB, Ex.rf σ⟩))
    · skip
      refine r_iload_n hX dX10_copy_7 rfl ?_
      refine r_callSF (As := [.int t]) (rest := []) hX (c_X10_isSheet σ t) dX10_copy_8 cb_X10_343 rfl rfl ⟨Nat.le_of_ble_eq_true rfl, Nat.le_of_ble_eq_true rfl⟩ ⟨Nat.le_of_ble_eq_true rfl, Nat.le_of_ble_eq_true rfl⟩ (Nat.le_of_ble_eq_true rfl) ?_
      refine r_ifB_ne hX dX10_copy_11 (fun c8 => ?_) (fun c8 => ?_)
      · skip
        obtain ⟨r, hrl, hr, rfl⟩ := inB_nat c8 (by decide) (by decide)
        have hzr := (hB r (by omega)).2.2.1
        rcases hs9 : B.1 r with _ | _ | _
        · skip
          refine r_aload_n hX dX10_copy_17 rfl ?_
          refine r_getR hX dX10_copy_18 fl_X10_44 (hM.1 0 (9, 0) rfl) rfl (hM.2 35 12 rfl) ?_
          refine r_iload_n hX dX10_copy_21 rfl ?_
          refine r_aldN hX dX10_copy_22 (hM.1 12 (10, 4) rfl) (by decide) (by omega) (nI 0) ((hB q (by omega)).1.trans (by rw [hs2]; rfl)) ?_
          refine r_ifN_lt hX dX10_copy_23 (by decide) ?_
          refine r_aload_n hX dX10_copy_26 rfl ?_
          refine r_getR hX dX10_copy_27 fl_X10_44 (hM.1 0 (9, 0) rfl) rfl (hM.2 35 12 rfl) ?_
          refine r_iload_n hX dX10_copy_30 rfl ?_
          refine r_aldN hX dX10_copy_31 (hM.1 12 (10, 4) rfl) (by decide) (by omega) (-1) ((hB r (by omega)).1.trans (by rw [hs9]; rfl)) ?_
          refine r_if_ge hX dX10_copy_32 (fun c10 => absurd c10 (by decide)) (fun c10 => ?_)
          refine r_ldcw hX dX10_copy_35 ko_X10_347 ?_
          exact r_ireturn hX hQ dX10_copy_38 ⟨Nat.le_of_ble_eq_true rfl, Nat.le_of_ble_eq_true rfl⟩ (PI.mk (by rw [oCopy_0 hq hr c1 c8 (Or.inr hs9)]; exact ⟨rfl, hB, Ex.rf σ⟩))
        · skip
          refine r_aload_n hX dX10_copy_17 rfl ?_
          refine r_getR hX dX10_copy_18 fl_X10_44 (hM.1 0 (9, 0) rfl) rfl (hM.2 35 12 rfl) ?_
          refine r_iload_n hX dX10_copy_21 rfl ?_
          refine r_aldN hX dX10_copy_22 (hM.1 12 (10, 4) rfl) (by decide) (by omega) (nI 0) ((hB q (by omega)).1.trans (by rw [hs2]; rfl)) ?_
          refine r_ifN_lt hX dX10_copy_23 (by decide) ?_
          refine r_aload_n hX dX10_copy_26 rfl ?_
          refine r_getR hX dX10_copy_27 fl_X10_44 (hM.1 0 (9, 0) rfl) rfl (hM.2 35 12 rfl) ?_
          refine r_iload_n hX dX10_copy_30 rfl ?_
          refine r_aldN hX dX10_copy_31 (hM.1 12 (10, 4) rfl) (by decide) (by omega) (nI 0) ((hB r (by omega)).1.trans (by rw [hs9]; rfl)) ?_
          refine r_ifN_ge hX dX10_copy_32 (by decide) ?_
          refine r_aload_n hX dX10_copy_39 rfl ?_
          refine r_getR hX dX10_copy_40 fl_X10_44 (hM.1 0 (9, 0) rfl) rfl (hM.2 35 12 rfl) ?_
          refine r_iload_n hX dX10_copy_43 rfl ?_
          refine r_aldN hX dX10_copy_44 (hM.1 12 (10, 4) rfl) (by decide) (by omega) (nI 0) ((hB q (by omega)).1.trans (by rw [hs2]; rfl)) ?_
          refine r_aload_n hX dX10_copy_45 rfl ?_
          refine r_getR hX dX10_copy_46 fl_X10_44 (hM.1 0 (9, 0) rfl) rfl (hM.2 35 12 rfl) ?_
          refine r_iload_n hX dX10_copy_49 rfl ?_
          refine r_aldN hX dX10_copy_50 (hM.1 12 (10, 4) rfl) (by decide) (by omega) (nI 0) ((hB r (by omega)).1.trans (by rw [hs9]; rfl)) ?_
          refine r_icmpN_eq hX dX10_copy_51 (by decide) (by decide) (fun c11 => ?_) (fun c11 => absurd c11 (by decide))
          refine r_iload hX dX10_copy_57 rfl ?_
          refine r_if_lt hX dX10_copy_59 (fun c12 => ?_) (fun c12 => ?_)
          · skip
            refine r_ldcw hX dX10_copy_98 ko_X10_348 ?_
            exact r_ireturn hX hQ dX10_copy_101 ⟨Nat.le_of_ble_eq_true rfl, Nat.le_of_ble_eq_true rfl⟩ (PI.mk (by rw [oCopy_i hq hr c1 c8 hs2 hs9 rfl (fun e => by first | exact (e.1) c12 | exact c12 e.1 | exact absurd e.1 (Int32.not_le.mpr c12) | exact absurd e.1 c12)]; exact ⟨rfl, hB, Ex.rf σ⟩))
          · skip
            refine r_iload_n hX dX10_copy_62 rfl ?_
            refine r_if_lt hX dX10_copy_63 (fun c13 => ?_) (fun c13 => ?_)
            · skip
              refine r_ldcw hX dX10_copy_98 ko_X10_348 ?_
              exact r_ireturn hX hQ dX10_copy_101 ⟨Nat.le_of_ble_eq_true rfl, Nat.le_of_ble_eq_true rfl⟩ (PI.mk (by rw [oCopy_i hq hr c1 c8 hs2 hs9 rfl (fun e => by first | exact (e.2.1) c13 | exact c13 e.2.1 | exact absurd e.2.1 (Int32.not_le.mpr c13) | exact absurd e.2.1 c13)]; exact ⟨rfl, hB, Ex.rf σ⟩))
            · skip
              refine r_iload hX dX10_copy_66 rfl ?_
              refine r_if_lt hX dX10_copy_68 (fun c14 => ?_) (fun c14 => ?_)
              · skip
                refine r_ldcw hX dX10_copy_98 ko_X10_348 ?_
                exact r_ireturn hX hQ dX10_copy_101 ⟨Nat.le_of_ble_eq_true rfl, Nat.le_of_ble_eq_true rfl⟩ (PI.mk (by rw [oCopy_i hq hr c1 c8 hs2 hs9 rfl (fun e => by first | exact (e.2.2.1) c14 | exact c14 e.2.2.1 | exact absurd e.2.2.1 (Int32.not_le.mpr c14) | exact absurd e.2.2.1 c14)]; exact ⟨rfl, hB, Ex.rf σ⟩))
              · skip
                refine r_iload_n hX dX10_copy_71 rfl ?_
                refine r_aload_n hX dX10_copy_72 rfl ?_
                refine r_getR hX dX10_copy_73 fl_X10_47 (hM.1 0 (9, 0) rfl) rfl (hM.2 36 13 rfl) ?_
                refine r_iload_n hX dX10_copy_76 rfl ?_
                refine r_aldN hX dX10_copy_77 (hM.1 13 (10, 4) rfl) (by decide) (by omega) (nI (B.2.1 q)) (hB q (by omega)).2.1 ?_
                refine r_iload hX dX10_copy_78 rfl ?_
                refine r_isub hX dX10_copy_80 ?_
                refine r_icmp_gt hX dX10_copy_81 (fun c15 => ?_) (fun c15 => ?_)
                · skip
                  refine r_ldcw hX dX10_copy_98 ko_X10_348 ?_
                  exact r_ireturn hX hQ dX10_copy_101 ⟨Nat.le_of_ble_eq_true rfl, Nat.le_of_ble_eq_true rfl⟩ (PI.mk (by rw [oCopy_i hq hr c1 c8 hs2 hs9 rfl (fun e => by first | exact (e.2.2.2.1) c15 | exact c15 e.2.2.2.1 | exact absurd e.2.2.2.1 (Int32.not_le.mpr c15) | exact absurd e.2.2.2.1 c15)]; exact ⟨rfl, hB, Ex.rf σ⟩))
                · skip
                  refine r_iload hX dX10_copy_84 rfl ?_
                  refine r_aload_n hX dX10_copy_86 rfl ?_
                  refine r_getR hX dX10_copy_87 fl_X10_47 (hM.1 0 (9, 0) rfl) rfl (hM.2 36 13 rfl) ?_
                  refine r_iload_n hX dX10_copy_90 rfl ?_
                  refine r_aldN hX dX10_copy_91 (hM.1 13 (10, 4) rfl) (by decide) (by omega) (nI (B.2.1 r)) (hB r (by omega)).2.1 ?_
                  refine r_iload hX dX10_copy_92 rfl ?_
                  refine r_isub hX dX10_copy_94 ?_
                  refine r_icmp_le hX dX10_copy_95 (fun c16 => ?_) (fun c16 => ?_)
                  · skip
                    have hcp : cpI B q r p a m := ⟨c12, c13, c14, (by first | exact c15 | exact Int32.not_lt.mp c15), c16⟩
                    obtain ⟨u, v, rfl, rfl, huv⟩ := cp_nat hzq hcp.1 hcp.2.1 hcp.2.2.2.1
                    obtain ⟨y, rfl, hyv⟩ := cp_nat2 hzr (by omega) hcp.2.2.1 hcp.2.2.2.2
                    refine r_iconst hX (nI 0) dX10_copy_102 rfl ?_
                    refine r_istore hX [(0, .ref (L.1 0)), (1, .int (nI q)), (2, .int (nI u)), (3, .int (nI r)), (4, .int (nI y)), (5, .int (nI v)), (6, .int (nI 0))] dX10_copy_103 hN6 rfl ?_
                    have P17 : ∀ k, k ≤ v → ∀ (σk : Me) (hbt : ∀ i, i < k → σk 15 i = B.2.2 q (u + i)) (hEk : Ex (fun c _ => decide (c = 15)) σ σk), At X L σk 0 0 [(0, .ref (L.1 0)), (1, .int (nI q)), (2, .int (nI u)), (3, .int (nI r)), (4, .int (nI y)), (5, .int (nI v)), (6, .int (nI k))] 105 [] := by
                      refine loopUp v ?_ ?_
                      · skip
                        intro σk hbt hEk
                        refine r_iload hX dX10_copy_105 rfl ?_
                        refine r_iload hX dX10_copy_107 rfl ?_
                        refine r_icmpN_ge hX dX10_copy_109 (by omega) (by omega) (fun c18 => ?_) (fun c18 => absurd c18 (by omega))
                        refine r_iconst hX (nI 0) dX10_copy_139 rfl ?_
                        refine r_istore hX [(0, .ref (L.1 0)), (1, .int (nI q)), (2, .int (nI u)), (3, .int (nI r)), (4, .int (nI y)), (5, .int (nI v)), (6, .int (nI 0))] dX10_copy_140 hN6 rfl ?_
                        have P19 : ∀ j, j ≤ v → ∀ (τk : Me) (e14 : ∀ i, i < j → τk 14 (24 * r + y + i) = B.2.2 q (u + i)) (f14 : ∀ x, x < 24 * r + y ∨ 24 * r + y + v ≤ x → τk 14 x = σ 14 x) (e12 : ∀ x, τk 12 x = σ 12 x) (e13 : ∀ x, τk 13 x = σ 13 x) (hb15 : ∀ i, i < v → τk 15 i = B.2.2 q (u + i)) (hE2 : Ex (fun c _ => decide (c = 14) || decide (c = 15)) σ τk), At X L τk 0 0 [(0, .ref (L.1 0)), (1, .int (nI q)), (2, .int (nI u)), (3, .int (nI r)), (4, .int (nI y)), (5, .int (nI v)), (6, .int (nI j))] 142 [] := by
                          refine loopUp v ?_ ?_
                          · skip
                            intro τk e14 f14 e12 e13 hb15 hE2
                            refine r_iload hX dX10_copy_142 rfl ?_
                            refine r_iload hX dX10_copy_144 rfl ?_
                            refine r_icmpN_ge hX dX10_copy_146 (by omega) (by omega) (fun c20 => ?_) (fun c20 => absurd c20 (by omega))
                            refine r_iload hX dX10_copy_177 rfl ?_
                            exact r_ireturn hX hQ dX10_copy_179 ⟨Nat.le_of_ble_eq_true rfl, Nat.le_of_ble_eq_true rfl⟩ (PI.mk (by rw [oCopy_y hq hr (by omega) (by omega) (by omega) c1 c8 hs2 hs9 rfl hcp]; exact ⟨rfl, rb_copy hB (by omega) e12 e13 e14 f14, hE2⟩))
                          · skip
                            intro j hj ih21 τk e14 f14 e12 e13 hb15 hE2
                            refine r_iload hX dX10_copy_142 rfl ?_
                            refine r_iload hX dX10_copy_144 rfl ?_
                            refine r_icmpN_ge hX dX10_copy_146 (by omega) (by omega) (fun c22 => absurd c22 (by omega)) (fun c22 => ?_)
                            refine r_aload_n hX dX10_copy_149 rfl ?_
                            refine r_getR hX dX10_copy_150 fl_X10_50 (hM.1 0 (9, 0) rfl) rfl (hM.2 37 14 rfl) ?_
                            refine r_bipush hX (nI 24) dX10_copy_153 rfl ?_
                            refine r_iload_n hX dX10_copy_155 rfl ?_
                            refine r_imulN hX dX10_copy_156 ?_
                            refine r_iload hX dX10_copy_157 rfl ?_
                            refine r_iaddN hX dX10_copy_159 ?_
                            refine r_iload hX dX10_copy_160 rfl ?_
                            refine r_iaddN hX dX10_copy_162 ?_
                            refine r_aload_n hX dX10_copy_163 rfl ?_
                            refine r_getR hX dX10_copy_164 fl_X10_53 (hM.1 0 (9, 0) rfl) rfl (hM.2 38 15 rfl) ?_
                            refine r_iload hX dX10_copy_167 rfl ?_
                            refine r_aldN hX dX10_copy_169 (hM.1 15 (10, 24) rfl) (by decide) (by omega) (B.2.2 q (u + j)) (hb15 j (by omega)) ?_
                            refine r_astN hX dX10_copy_170 (hM.1 14 (10, 96) rfl) (by decide) (by omega) ?_
                            refine r_iincN (n := 1) hX [(0, .ref (L.1 0)), (1, .int (nI q)), (2, .int (nI u)), (3, .int (nI r)), (4, .int (nI y)), (5, .int (nI v)), (6, .int (nI (j + 1)))] dX10_copy_171 rfl hN6 rfl ?_
                            refine r_goto hX dX10_copy_174 ?_
                            exact At.to (ih21 (up τk 14 (24 * r + y + j) (B.2.2 q (u + j))) (fun i hi => if e : i = j then (by rw [e, up_s]) else (by rw [up_n (by omega)]; exact e14 i (by omega))) (fun x hx => (up_n (by omega)).trans (f14 x hx)) (fun x => (up_n (by omega)).trans (e12 x)) (fun x => (up_n (by omega)).trans (e13 x)) (fun i hi => (up_n (by omega)).trans (hb15 i hi)) (Ex.up hE2 rfl)) rfl rfl rfl
                        exact At.to (P19 0 (Nat.zero_le _) σk (fun i hi => absurd hi (Nat.not_lt_zero i)) (fun x _ => hEk 14 x rfl) (fun x => hEk 12 x rfl) (fun x => hEk 13 x rfl) hbt (hEk.mono (fun c i e => by simp at e ⊢; exact e.2))) rfl rfl rfl
                      · skip
                        intro k hk ih23 σk hbt hEk
                        refine r_iload hX dX10_copy_105 rfl ?_
                        refine r_iload hX dX10_copy_107 rfl ?_
                        refine r_icmpN_ge hX dX10_copy_109 (by omega) (by omega) (fun c24 => absurd c24 (by omega)) (fun c24 => ?_)
                        refine r_aload_n hX dX10_copy_112 rfl ?_
                        refine r_getR hX dX10_copy_113 fl_X10_53 (hM.1 0 (9, 0) rfl) rfl (hM.2 38 15 rfl) ?_
                        refine r_iload hX dX10_copy_116 rfl ?_
                        refine r_aload_n hX dX10_copy_118 rfl ?_
                        refine r_getR hX dX10_copy_119 fl_X10_50 (hM.1 0 (9, 0) rfl) rfl (hM.2 37 14 rfl) ?_
                        refine r_bipush hX (nI 24) dX10_copy_122 rfl ?_
                        refine r_iload_n hX dX10_copy_124 rfl ?_
                        refine r_imulN hX dX10_copy_125 ?_
                        refine r_iload_n hX dX10_copy_126 rfl ?_
                        refine r_iaddN hX dX10_copy_127 ?_
                        refine r_iload hX dX10_copy_128 rfl ?_
                        refine r_iaddN hX dX10_copy_130 ?_
                        refine r_aldN hX dX10_copy_131 (hM.1 14 (10, 96) rfl) (by decide) (by omega) (B.2.2 q (u + k)) (by rw [hEk 14 _ rfl, Nat.add_assoc]; exact (hB q (by omega)).2.2.2 (u + k) (by omega)) ?_
                        refine r_astN hX dX10_copy_132 (hM.1 15 (10, 24) rfl) (by decide) (by omega) ?_
                        refine r_iincN (n := 1) hX [(0, .ref (L.1 0)), (1, .int (nI q)), (2, .int (nI u)), (3, .int (nI r)), (4, .int (nI y)), (5, .int (nI v)), (6, .int (nI (k + 1)))] dX10_copy_133 rfl hN6 rfl ?_
                        refine r_goto hX dX10_copy_136 ?_
                        exact At.to (ih23 (up σk 15 k (B.2.2 q (u + k))) (fun i hi => if e : i = k then (by rw [e, up_s]) else (by rw [up_n (by omega)]; exact hbt i (by omega))) (Ex.up hEk rfl)) rfl rfl rfl
                    exact At.to (P17 0 (Nat.zero_le _) σ (fun i hi => absurd hi (Nat.not_lt_zero i)) (Ex.rf σ)) rfl rfl rfl
                  · skip
                    refine r_ldcw hX dX10_copy_98 ko_X10_348 ?_
                    exact r_ireturn hX hQ dX10_copy_101 ⟨Nat.le_of_ble_eq_true rfl, Nat.le_of_ble_eq_true rfl⟩ (PI.mk (by rw [oCopy_i hq hr c1 c8 hs2 hs9 rfl (fun e => by first | exact (e.2.2.2.2) c16 | exact c16 e.2.2.2.2 | exact absurd e.2.2.2.2 (Int32.not_le.mpr c16) | exact absurd e.2.2.2.2 c16)]; exact ⟨rfl, hB, Ex.rf σ⟩))
        · skip
          refine r_aload_n hX dX10_copy_17 rfl ?_
          refine r_getR hX dX10_copy_18 fl_X10_44 (hM.1 0 (9, 0) rfl) rfl (hM.2 35 12 rfl) ?_
          refine r_iload_n hX dX10_copy_21 rfl ?_
          refine r_aldN hX dX10_copy_22 (hM.1 12 (10, 4) rfl) (by decide) (by omega) (nI 0) ((hB q (by omega)).1.trans (by rw [hs2]; rfl)) ?_
          refine r_ifN_lt hX dX10_copy_23 (by decide) ?_
          refine r_aload_n hX dX10_copy_26 rfl ?_
          refine r_getR hX dX10_copy_27 fl_X10_44 (hM.1 0 (9, 0) rfl) rfl (hM.2 35 12 rfl) ?_
          refine r_iload_n hX dX10_copy_30 rfl ?_
          refine r_aldN hX dX10_copy_31 (hM.1 12 (10, 4) rfl) (by decide) (by omega) (nI 1) ((hB r (by omega)).1.trans (by rw [hs9]; rfl)) ?_
          refine r_ifN_ge hX dX10_copy_32 (by decide) ?_
          refine r_aload_n hX dX10_copy_39 rfl ?_
          refine r_getR hX dX10_copy_40 fl_X10_44 (hM.1 0 (9, 0) rfl) rfl (hM.2 35 12 rfl) ?_
          refine r_iload_n hX dX10_copy_43 rfl ?_
          refine r_aldN hX dX10_copy_44 (hM.1 12 (10, 4) rfl) (by decide) (by omega) (nI 0) ((hB q (by omega)).1.trans (by rw [hs2]; rfl)) ?_
          refine r_aload_n hX dX10_copy_45 rfl ?_
          refine r_getR hX dX10_copy_46 fl_X10_44 (hM.1 0 (9, 0) rfl) rfl (hM.2 35 12 rfl) ?_
          refine r_iload_n hX dX10_copy_49 rfl ?_
          refine r_aldN hX dX10_copy_50 (hM.1 12 (10, 4) rfl) (by decide) (by omega) (nI 1) ((hB r (by omega)).1.trans (by rw [hs9]; rfl)) ?_
          refine r_icmpN_eq hX dX10_copy_51 (by decide) (by decide) (fun c25 => absurd c25 (by decide)) (fun c25 => ?_)
          refine r_ldc hX dX10_copy_54 ko_X10_141 ?_
          exact r_ireturn hX hQ dX10_copy_56 ⟨Nat.le_of_ble_eq_true rfl, Nat.le_of_ble_eq_true rfl⟩ (PI.mk (by rw [oCopy_k hq hr c1 c8 hs2 hs9 (by decide)]; exact ⟨rfl, hB, Ex.rf σ⟩))
      · skip
        refine r_ldc hX dX10_copy_14 ko_X10_72 ?_
        exact r_ireturn hX hQ dX10_copy_16 ⟨Nat.le_of_ble_eq_true rfl, Nat.le_of_ble_eq_true rfl⟩ (PI.mk (by rw [oCopy, if_neg (fun e => by rw [c8] at e; cases e.2)]; exact ⟨rfl, hB, Ex.rf σ⟩))
    · skip
      refine r_iload_n hX dX10_copy_7 rfl ?_
      refine r_callSF (As := [.int t]) (rest := []) hX (c_X10_isSheet σ t) dX10_copy_8 cb_X10_343 rfl rfl ⟨Nat.le_of_ble_eq_true rfl, Nat.le_of_ble_eq_true rfl⟩ ⟨Nat.le_of_ble_eq_true rfl, Nat.le_of_ble_eq_true rfl⟩ (Nat.le_of_ble_eq_true rfl) ?_
      refine r_ifB_ne hX dX10_copy_11 (fun c26 => ?_) (fun c26 => ?_)
      · skip
        obtain ⟨r, hrl, hr, rfl⟩ := inB_nat c26 (by decide) (by decide)
        have hzr := (hB r (by omega)).2.2.1
        rcases hs27 : B.1 r with _ | _ | _
        · skip
          refine r_aload_n hX dX10_copy_17 rfl ?_
          refine r_getR hX dX10_copy_18 fl_X10_44 (hM.1 0 (9, 0) rfl) rfl (hM.2 35 12 rfl) ?_
          refine r_iload_n hX dX10_copy_21 rfl ?_
          refine r_aldN hX dX10_copy_22 (hM.1 12 (10, 4) rfl) (by decide) (by omega) (nI 1) ((hB q (by omega)).1.trans (by rw [hs2]; rfl)) ?_
          refine r_ifN_lt hX dX10_copy_23 (by decide) ?_
          refine r_aload_n hX dX10_copy_26 rfl ?_
          refine r_getR hX dX10_copy_27 fl_X10_44 (hM.1 0 (9, 0) rfl) rfl (hM.2 35 12 rfl) ?_
          refine r_iload_n hX dX10_copy_30 rfl ?_
          refine r_aldN hX dX10_copy_31 (hM.1 12 (10, 4) rfl) (by decide) (by omega) (-1) ((hB r (by omega)).1.trans (by rw [hs27]; rfl)) ?_
          refine r_if_ge hX dX10_copy_32 (fun c28 => absurd c28 (by decide)) (fun c28 => ?_)
          refine r_ldcw hX dX10_copy_35 ko_X10_347 ?_
          exact r_ireturn hX hQ dX10_copy_38 ⟨Nat.le_of_ble_eq_true rfl, Nat.le_of_ble_eq_true rfl⟩ (PI.mk (by rw [oCopy_0 hq hr c1 c26 (Or.inr hs27)]; exact ⟨rfl, hB, Ex.rf σ⟩))
        · skip
          refine r_aload_n hX dX10_copy_17 rfl ?_
          refine r_getR hX dX10_copy_18 fl_X10_44 (hM.1 0 (9, 0) rfl) rfl (hM.2 35 12 rfl) ?_
          refine r_iload_n hX dX10_copy_21 rfl ?_
          refine r_aldN hX dX10_copy_22 (hM.1 12 (10, 4) rfl) (by decide) (by omega) (nI 1) ((hB q (by omega)).1.trans (by rw [hs2]; rfl)) ?_
          refine r_ifN_lt hX dX10_copy_23 (by decide) ?_
          refine r_aload_n hX dX10_copy_26 rfl ?_
          refine r_getR hX dX10_copy_27 fl_X10_44 (hM.1 0 (9, 0) rfl) rfl (hM.2 35 12 rfl) ?_
          refine r_iload_n hX dX10_copy_30 rfl ?_
          refine r_aldN hX dX10_copy_31 (hM.1 12 (10, 4) rfl) (by decide) (by omega) (nI 0) ((hB r (by omega)).1.trans (by rw [hs27]; rfl)) ?_
          refine r_ifN_ge hX dX10_copy_32 (by decide) ?_
          refine r_aload_n hX dX10_copy_39 rfl ?_
          refine r_getR hX dX10_copy_40 fl_X10_44 (hM.1 0 (9, 0) rfl) rfl (hM.2 35 12 rfl) ?_
          refine r_iload_n hX dX10_copy_43 rfl ?_
          refine r_aldN hX dX10_copy_44 (hM.1 12 (10, 4) rfl) (by decide) (by omega) (nI 1) ((hB q (by omega)).1.trans (by rw [hs2]; rfl)) ?_
          refine r_aload_n hX dX10_copy_45 rfl ?_
          refine r_getR hX dX10_copy_46 fl_X10_44 (hM.1 0 (9, 0) rfl) rfl (hM.2 35 12 rfl) ?_
          refine r_iload_n hX dX10_copy_49 rfl ?_
          refine r_aldN hX dX10_copy_50 (hM.1 12 (10, 4) rfl) (by decide) (by omega) (nI 0) ((hB r (by omega)).1.trans (by rw [hs27]; rfl)) ?_
          refine r_icmpN_eq hX dX10_copy_51 (by decide) (by decide) (fun c29 => absurd c29 (by decide)) (fun c29 => ?_)
          refine r_ldc hX dX10_copy_54 ko_X10_141 ?_
          exact r_ireturn hX hQ dX10_copy_56 ⟨Nat.le_of_ble_eq_true rfl, Nat.le_of_ble_eq_true rfl⟩ (PI.mk (by rw [oCopy_k hq hr c1 c26 hs2 hs27 (by decide)]; exact ⟨rfl, hB, Ex.rf σ⟩))
        · skip
          refine r_aload_n hX dX10_copy_17 rfl ?_
          refine r_getR hX dX10_copy_18 fl_X10_44 (hM.1 0 (9, 0) rfl) rfl (hM.2 35 12 rfl) ?_
          refine r_iload_n hX dX10_copy_21 rfl ?_
          refine r_aldN hX dX10_copy_22 (hM.1 12 (10, 4) rfl) (by decide) (by omega) (nI 1) ((hB q (by omega)).1.trans (by rw [hs2]; rfl)) ?_
          refine r_ifN_lt hX dX10_copy_23 (by decide) ?_
          refine r_aload_n hX dX10_copy_26 rfl ?_
          refine r_getR hX dX10_copy_27 fl_X10_44 (hM.1 0 (9, 0) rfl) rfl (hM.2 35 12 rfl) ?_
          refine r_iload_n hX dX10_copy_30 rfl ?_
          refine r_aldN hX dX10_copy_31 (hM.1 12 (10, 4) rfl) (by decide) (by omega) (nI 1) ((hB r (by omega)).1.trans (by rw [hs27]; rfl)) ?_
          refine r_ifN_ge hX dX10_copy_32 (by decide) ?_
          refine r_aload_n hX dX10_copy_39 rfl ?_
          refine r_getR hX dX10_copy_40 fl_X10_44 (hM.1 0 (9, 0) rfl) rfl (hM.2 35 12 rfl) ?_
          refine r_iload_n hX dX10_copy_43 rfl ?_
          refine r_aldN hX dX10_copy_44 (hM.1 12 (10, 4) rfl) (by decide) (by omega) (nI 1) ((hB q (by omega)).1.trans (by rw [hs2]; rfl)) ?_
          refine r_aload_n hX dX10_copy_45 rfl ?_
          refine r_getR hX dX10_copy_46 fl_X10_44 (hM.1 0 (9, 0) rfl) rfl (hM.2 35 12 rfl) ?_
          refine r_iload_n hX dX10_copy_49 rfl ?_
          refine r_aldN hX dX10_copy_50 (hM.1 12 (10, 4) rfl) (by decide) (by omega) (nI 1) ((hB r (by omega)).1.trans (by rw [hs27]; rfl)) ?_
          refine r_icmpN_eq hX dX10_copy_51 (by decide) (by decide) (fun c30 => ?_) (fun c30 => absurd c30 (by decide))
          refine r_iload hX dX10_copy_57 rfl ?_
          refine r_if_lt hX dX10_copy_59 (fun c31 => ?_) (fun c31 => ?_)
          · skip
            refine r_ldcw hX dX10_copy_98 ko_X10_348 ?_
            exact r_ireturn hX hQ dX10_copy_101 ⟨Nat.le_of_ble_eq_true rfl, Nat.le_of_ble_eq_true rfl⟩ (PI.mk (by rw [oCopy_i hq hr c1 c26 hs2 hs27 rfl (fun e => by first | exact (e.1) c31 | exact c31 e.1 | exact absurd e.1 (Int32.not_le.mpr c31) | exact absurd e.1 c31)]; exact ⟨rfl, hB, Ex.rf σ⟩))
          · skip
            refine r_iload_n hX dX10_copy_62 rfl ?_
            refine r_if_lt hX dX10_copy_63 (fun c32 => ?_) (fun c32 => ?_)
            · skip
              refine r_ldcw hX dX10_copy_98 ko_X10_348 ?_
              exact r_ireturn hX hQ dX10_copy_101 ⟨Nat.le_of_ble_eq_true rfl, Nat.le_of_ble_eq_true rfl⟩ (PI.mk (by rw [oCopy_i hq hr c1 c26 hs2 hs27 rfl (fun e => by first | exact (e.2.1) c32 | exact c32 e.2.1 | exact absurd e.2.1 (Int32.not_le.mpr c32) | exact absurd e.2.1 c32)]; exact ⟨rfl, hB, Ex.rf σ⟩))
            · skip
              refine r_iload hX dX10_copy_66 rfl ?_
              refine r_if_lt hX dX10_copy_68 (fun c33 => ?_) (fun c33 => ?_)
              · skip
                refine r_ldcw hX dX10_copy_98 ko_X10_348 ?_
                exact r_ireturn hX hQ dX10_copy_101 ⟨Nat.le_of_ble_eq_true rfl, Nat.le_of_ble_eq_true rfl⟩ (PI.mk (by rw [oCopy_i hq hr c1 c26 hs2 hs27 rfl (fun e => by first | exact (e.2.2.1) c33 | exact c33 e.2.2.1 | exact absurd e.2.2.1 (Int32.not_le.mpr c33) | exact absurd e.2.2.1 c33)]; exact ⟨rfl, hB, Ex.rf σ⟩))
              · skip
                refine r_iload_n hX dX10_copy_71 rfl ?_
                refine r_aload_n hX dX10_copy_72 rfl ?_
                refine r_getR hX dX10_copy_73 fl_X10_47 (hM.1 0 (9, 0) rfl) rfl (hM.2 36 13 rfl) ?_
                refine r_iload_n hX dX10_copy_76 rfl ?_
                refine r_aldN hX dX10_copy_77 (hM.1 13 (10, 4) rfl) (by decide) (by omega) (nI (B.2.1 q)) (hB q (by omega)).2.1 ?_
                refine r_iload hX dX10_copy_78 rfl ?_
                refine r_isub hX dX10_copy_80 ?_
                refine r_icmp_gt hX dX10_copy_81 (fun c34 => ?_) (fun c34 => ?_)
                · skip
                  refine r_ldcw hX dX10_copy_98 ko_X10_348 ?_
                  exact r_ireturn hX hQ dX10_copy_101 ⟨Nat.le_of_ble_eq_true rfl, Nat.le_of_ble_eq_true rfl⟩ (PI.mk (by rw [oCopy_i hq hr c1 c26 hs2 hs27 rfl (fun e => by first | exact (e.2.2.2.1) c34 | exact c34 e.2.2.2.1 | exact absurd e.2.2.2.1 (Int32.not_le.mpr c34) | exact absurd e.2.2.2.1 c34)]; exact ⟨rfl, hB, Ex.rf σ⟩))
                · skip
                  refine r_iload hX dX10_copy_84 rfl ?_
                  refine r_aload_n hX dX10_copy_86 rfl ?_
                  refine r_getR hX dX10_copy_87 fl_X10_47 (hM.1 0 (9, 0) rfl) rfl (hM.2 36 13 rfl) ?_
                  refine r_iload_n hX dX10_copy_90 rfl ?_
                  refine r_aldN hX dX10_copy_91 (hM.1 13 (10, 4) rfl) (by decide) (by omega) (nI (B.2.1 r)) (hB r (by omega)).2.1 ?_
                  refine r_iload hX dX10_copy_92 rfl ?_
                  refine r_isub hX dX10_copy_94 ?_
                  refine r_icmp_le hX dX10_copy_95 (fun c35 => ?_) (fun c35 => ?_)
                  · skip
                    have hcp : cpI B q r p a m := ⟨c31, c32, c33, (by first | exact c34 | exact Int32.not_lt.mp c34), c35⟩
                    obtain ⟨u, v, rfl, rfl, huv⟩ := cp_nat hzq hcp.1 hcp.2.1 hcp.2.2.2.1
                    obtain ⟨y, rfl, hyv⟩ := cp_nat2 hzr (by omega) hcp.2.2.1 hcp.2.2.2.2
                    refine r_iconst hX (nI 0) dX10_copy_102 rfl ?_
                    refine r_istore hX [(0, .ref (L.1 0)), (1, .int (nI q)), (2, .int (nI u)), (3, .int (nI r)), (4, .int (nI y)), (5, .int (nI v)), (6, .int (nI 0))] dX10_copy_103 hN6 rfl ?_
                    have P36 : ∀ k, k ≤ v → ∀ (σk : Me) (hbt : ∀ i, i < k → σk 15 i = B.2.2 q (u + i)) (hEk : Ex (fun c _ => decide (c = 15)) σ σk), At X L σk 0 0 [(0, .ref (L.1 0)), (1, .int (nI q)), (2, .int (nI u)), (3, .int (nI r)), (4, .int (nI y)), (5, .int (nI v)), (6, .int (nI k))] 105 [] := by
                      refine loopUp v ?_ ?_
                      · skip
                        intro σk hbt hEk
                        refine r_iload hX dX10_copy_105 rfl ?_
                        refine r_iload hX dX10_copy_107 rfl ?_
                        refine r_icmpN_ge hX dX10_copy_109 (by omega) (by omega) (fun c37 => ?_) (fun c37 => absurd c37 (by omega))
                        refine r_iconst hX (nI 0) dX10_copy_139 rfl ?_
                        refine r_istore hX [(0, .ref (L.1 0)), (1, .int (nI q)), (2, .int (nI u)), (3, .int (nI r)), (4, .int (nI y)), (5, .int (nI v)), (6, .int (nI 0))] dX10_copy_140 hN6 rfl ?_
                        have P38 : ∀ j, j ≤ v → ∀ (τk : Me) (e14 : ∀ i, i < j → τk 14 (24 * r + y + i) = B.2.2 q (u + i)) (f14 : ∀ x, x < 24 * r + y ∨ 24 * r + y + v ≤ x → τk 14 x = σ 14 x) (e12 : ∀ x, τk 12 x = σ 12 x) (e13 : ∀ x, τk 13 x = σ 13 x) (hb15 : ∀ i, i < v → τk 15 i = B.2.2 q (u + i)) (hE2 : Ex (fun c _ => decide (c = 14) || decide (c = 15)) σ τk), At X L τk 0 0 [(0, .ref (L.1 0)), (1, .int (nI q)), (2, .int (nI u)), (3, .int (nI r)), (4, .int (nI y)), (5, .int (nI v)), (6, .int (nI j))] 142 [] := by
                          refine loopUp v ?_ ?_
                          · skip
                            intro τk e14 f14 e12 e13 hb15 hE2
                            refine r_iload hX dX10_copy_142 rfl ?_
                            refine r_iload hX dX10_copy_144 rfl ?_
                            refine r_icmpN_ge hX dX10_copy_146 (by omega) (by omega) (fun c39 => ?_) (fun c39 => absurd c39 (by omega))
                            refine r_iload hX dX10_copy_177 rfl ?_
                            exact r_ireturn hX hQ dX10_copy_179 ⟨Nat.le_of_ble_eq_true rfl, Nat.le_of_ble_eq_true rfl⟩ (PI.mk (by rw [oCopy_y hq hr (by omega) (by omega) (by omega) c1 c26 hs2 hs27 rfl hcp]; exact ⟨rfl, rb_copy hB (by omega) e12 e13 e14 f14, hE2⟩))
                          · skip
                            intro j hj ih40 τk e14 f14 e12 e13 hb15 hE2
                            refine r_iload hX dX10_copy_142 rfl ?_
                            refine r_iload hX dX10_copy_144 rfl ?_
                            refine r_icmpN_ge hX dX10_copy_146 (by omega) (by omega) (fun c41 => absurd c41 (by omega)) (fun c41 => ?_)
                            refine r_aload_n hX dX10_copy_149 rfl ?_
                            refine r_getR hX dX10_copy_150 fl_X10_50 (hM.1 0 (9, 0) rfl) rfl (hM.2 37 14 rfl) ?_
                            refine r_bipush hX (nI 24) dX10_copy_153 rfl ?_
                            refine r_iload_n hX dX10_copy_155 rfl ?_
                            refine r_imulN hX dX10_copy_156 ?_
                            refine r_iload hX dX10_copy_157 rfl ?_
                            refine r_iaddN hX dX10_copy_159 ?_
                            refine r_iload hX dX10_copy_160 rfl ?_
                            refine r_iaddN hX dX10_copy_162 ?_
                            refine r_aload_n hX dX10_copy_163 rfl ?_
                            refine r_getR hX dX10_copy_164 fl_X10_53 (hM.1 0 (9, 0) rfl) rfl (hM.2 38 15 rfl) ?_
                            refine r_iload hX dX10_copy_167 rfl ?_
                            refine r_aldN hX dX10_copy_169 (hM.1 15 (10, 24) rfl) (by decide) (by omega) (B.2.2 q (u + j)) (hb15 j (by omega)) ?_
                            refine r_astN hX dX10_copy_170 (hM.1 14 (10, 96) rfl) (by decide) (by omega) ?_
                            refine r_iincN (n := 1) hX [(0, .ref (L.1 0)), (1, .int (nI q)), (2, .int (nI u)), (3, .int (nI r)), (4, .int (nI y)), (5, .int (nI v)), (6, .int (nI (j + 1)))] dX10_copy_171 rfl hN6 rfl ?_
                            refine r_goto hX dX10_copy_174 ?_
                            exact At.to (ih40 (up τk 14 (24 * r + y + j) (B.2.2 q (u + j))) (fun i hi => if e : i = j then (by rw [e, up_s]) else (by rw [up_n (by omega)]; exact e14 i (by omega))) (fun x hx => (up_n (by omega)).trans (f14 x hx)) (fun x => (up_n (by omega)).trans (e12 x)) (fun x => (up_n (by omega)).trans (e13 x)) (fun i hi => (up_n (by omega)).trans (hb15 i hi)) (Ex.up hE2 rfl)) rfl rfl rfl
                        exact At.to (P38 0 (Nat.zero_le _) σk (fun i hi => absurd hi (Nat.not_lt_zero i)) (fun x _ => hEk 14 x rfl) (fun x => hEk 12 x rfl) (fun x => hEk 13 x rfl) hbt (hEk.mono (fun c i e => by simp at e ⊢; exact e.2))) rfl rfl rfl
                      · skip
                        intro k hk ih42 σk hbt hEk
                        refine r_iload hX dX10_copy_105 rfl ?_
                        refine r_iload hX dX10_copy_107 rfl ?_
                        refine r_icmpN_ge hX dX10_copy_109 (by omega) (by omega) (fun c43 => absurd c43 (by omega)) (fun c43 => ?_)
                        refine r_aload_n hX dX10_copy_112 rfl ?_
                        refine r_getR hX dX10_copy_113 fl_X10_53 (hM.1 0 (9, 0) rfl) rfl (hM.2 38 15 rfl) ?_
                        refine r_iload hX dX10_copy_116 rfl ?_
                        refine r_aload_n hX dX10_copy_118 rfl ?_
                        refine r_getR hX dX10_copy_119 fl_X10_50 (hM.1 0 (9, 0) rfl) rfl (hM.2 37 14 rfl) ?_
                        refine r_bipush hX (nI 24) dX10_copy_122 rfl ?_
                        refine r_iload_n hX dX10_copy_124 rfl ?_
                        refine r_imulN hX dX10_copy_125 ?_
                        refine r_iload_n hX dX10_copy_126 rfl ?_
                        refine r_iaddN hX dX10_copy_127 ?_
                        refine r_iload hX dX10_copy_128 rfl ?_
                        refine r_iaddN hX dX10_copy_130 ?_
                        refine r_aldN hX dX10_copy_131 (hM.1 14 (10, 96) rfl) (by decide) (by omega) (B.2.2 q (u + k)) (by rw [hEk 14 _ rfl, Nat.add_assoc]; exact (hB q (by omega)).2.2.2 (u + k) (by omega)) ?_
                        refine r_astN hX dX10_copy_132 (hM.1 15 (10, 24) rfl) (by decide) (by omega) ?_
                        refine r_iincN (n := 1) hX [(0, .ref (L.1 0)), (1, .int (nI q)), (2, .int (nI u)), (3, .int (nI r)), (4, .int (nI y)), (5, .int (nI v)), (6, .int (nI (k + 1)))] dX10_copy_133 rfl hN6 rfl ?_
                        refine r_goto hX dX10_copy_136 ?_
                        exact At.to (ih42 (up σk 15 k (B.2.2 q (u + k))) (fun i hi => if e : i = k then (by rw [e, up_s]) else (by rw [up_n (by omega)]; exact hbt i (by omega))) (Ex.up hEk rfl)) rfl rfl rfl
                    exact At.to (P36 0 (Nat.zero_le _) σ (fun i hi => absurd hi (Nat.not_lt_zero i)) (Ex.rf σ)) rfl rfl rfl
                  · skip
                    refine r_ldcw hX dX10_copy_98 ko_X10_348 ?_
                    exact r_ireturn hX hQ dX10_copy_101 ⟨Nat.le_of_ble_eq_true rfl, Nat.le_of_ble_eq_true rfl⟩ (PI.mk (by rw [oCopy_i hq hr c1 c26 hs2 hs27 rfl (fun e => by first | exact (e.2.2.2.2) c35 | exact c35 e.2.2.2.2 | exact absurd e.2.2.2.2 (Int32.not_le.mpr c35) | exact absurd e.2.2.2.2 c35)]; exact ⟨rfl, hB, Ex.rf σ⟩))
      · skip
        refine r_ldc hX dX10_copy_14 ko_X10_72 ?_
        exact r_ireturn hX hQ dX10_copy_16 ⟨Nat.le_of_ble_eq_true rfl, Nat.le_of_ble_eq_true rfl⟩ (PI.mk (by rw [oCopy, if_neg (fun e => by rw [c26] at e; cases e.2)]; exact ⟨rfl, hB, Ex.rf σ⟩))
