set_option maxHeartbeats 4000000 in
set_option maxRecDepth 100000 in
theorem c_X10_reads_ {l : Launch} {D : Ds} {L : La} (hM : MAt L) (σ : Me) (A : Al) (hR : RM (σ 1) A) (hV : Va A) (B : Bs) (hB : RB σ B) (k : Int32) : Ct l yX10_reads_ cX10_reads_ 6 (some .int) { frames := 3, cells := 0, slots := 0, locals := 68 } D L σ [.ref (L.1 0), .int k] (PF L σ (oReads A B k)) := by
  refine Ct.of (by decide) (Nat.le_of_ble_eq_true rfl) ?_
  intro X hl hD hnl hX0 hQ
  have hX : Ok X cX10_reads_ RX10 "reads" { frames := 3, cells := 0, slots := 0, locals := 68 } (some .int) := hX0
  have hN2 : 2 < xn X := by rw [hnl]; decide
  have hN3 : 3 < xn X := by rw [hnl]; decide
  have hN4 : 4 < xn X := by rw [hnl]; decide
  have hN5 : 5 < xn X := by rw [hnl]; decide
  have hT := hV.1
  have hNn := hV.2.1
  have hW := hV.2.2.1
  show At X L σ 0 0 [(0, .ref (L.1 0)), (1, .int k)] 0 []
  refine r_iload_n hX dX10_reads__0 rfl ?_
  refine r_callSF (As := [.int k]) (rest := []) hX (c_X10_isSheet σ k) dX10_reads__1 cb_X10_343 rfl rfl ⟨Nat.le_of_ble_eq_true rfl, Nat.le_of_ble_eq_true rfl⟩ ⟨Nat.le_of_ble_eq_true rfl, Nat.le_of_ble_eq_true rfl⟩ (Nat.le_of_ble_eq_true rfl) ?_
  refine r_ifB_ne hX dX10_reads__4 (fun c1 => ?_) (fun c1 => ?_)
  · skip
    obtain ⟨q, hql, hq, rfl⟩ := inB_nat c1 (by decide) (by decide)
    have hzq := (hB q (by omega)).2.2.1
    rcases hs2 : B.1 q with _ | _ | _
    · skip
      refine r_aload_n hX dX10_reads__10 rfl ?_
      refine r_getR hX dX10_reads__11 fl_X10_44 (hM.1 0 (9, 0) rfl) rfl (hM.2 35 12 rfl) ?_
      refine r_iload_n hX dX10_reads__14 rfl ?_
      refine r_aldN hX dX10_reads__15 (hM.1 12 (10, 4) rfl) (by decide) (by omega) (-1) ((hB q (by omega)).1.trans (by rw [hs2]; rfl)) ?_
      refine r_if_ge hX dX10_reads__16 (fun c3 => absurd c3 (by decide)) (fun c3 => ?_)
      refine r_ldcw hX dX10_reads__19 ko_X10_347 ?_
      exact r_ireturn hX hQ dX10_reads__22 ⟨Nat.le_of_ble_eq_true rfl, Nat.le_of_ble_eq_true rfl⟩ (PF.mk (by rw [oReads_0 (by omega) c1 hs2]))
    · skip
      refine r_aload_n hX dX10_reads__10 rfl ?_
      refine r_getR hX dX10_reads__11 fl_X10_44 (hM.1 0 (9, 0) rfl) rfl (hM.2 35 12 rfl) ?_
      refine r_iload_n hX dX10_reads__14 rfl ?_
      refine r_aldN hX dX10_reads__15 (hM.1 12 (10, 4) rfl) (by decide) (by omega) (nI 0) ((hB q (by omega)).1.trans (by rw [hs2]; rfl)) ?_
      refine r_ifN_ge hX dX10_reads__16 (by decide) ?_
      refine r_iconst hX (nI 0) dX10_reads__23 rfl ?_
      refine r_istore_n hX [(0, .ref (L.1 0)), (1, .int (nI q)), (2, .int (nI 0))] dX10_reads__24 hN2 rfl ?_
      have P4 : ∀ i, i ≤ B.2.1 q → ∀ (hpk : pfx (fun i => !(wrB A B q i)) i = i), At X L σ 0 0 [(0, .ref (L.1 0)), (1, .int (nI q)), (2, .int (nI i))] 25 [] := by
        refine loopUp (B.2.1 q) ?_ ?_
        · skip
          intro hpk
          refine r_iload_n hX dX10_reads__25 rfl ?_
          refine r_aload_n hX dX10_reads__26 rfl ?_
          refine r_getR hX dX10_reads__27 fl_X10_47 (hM.1 0 (9, 0) rfl) rfl (hM.2 36 13 rfl) ?_
          refine r_iload_n hX dX10_reads__30 rfl ?_
          refine r_aldN hX dX10_reads__31 (hM.1 13 (10, 4) rfl) (by decide) (by omega) (nI (B.2.1 q)) (hB q (by omega)).2.1 ?_
          refine r_icmpN_ge hX dX10_reads__32 (by omega) (by omega) (fun c5 => ?_) (fun c5 => absurd c5 (by omega))
          refine r_ldc hX dX10_reads__118 ko_X10_92 ?_
          exact r_ireturn hX hQ dX10_reads__120 ⟨Nat.le_of_ble_eq_true rfl, Nat.le_of_ble_eq_true rfl⟩ (PF.mk (by rw [oReads_n (by omega) c1 hs2 hpk]))
        · skip
          intro i hk ih6 hpk
          have hmn := mn_le hV i
          refine r_iload_n hX dX10_reads__25 rfl ?_
          refine r_aload_n hX dX10_reads__26 rfl ?_
          refine r_getR hX dX10_reads__27 fl_X10_47 (hM.1 0 (9, 0) rfl) rfl (hM.2 36 13 rfl) ?_
          refine r_iload_n hX dX10_reads__30 rfl ?_
          refine r_aldN hX dX10_reads__31 (hM.1 13 (10, 4) rfl) (by decide) (by omega) (nI (B.2.1 q)) (hB q (by omega)).2.1 ?_
          refine r_icmpN_ge hX dX10_reads__32 (by omega) (by omega) (fun c7 => absurd c7 (by omega)) (fun c7 => ?_)
          refine r_aload_n hX dX10_reads__35 rfl ?_
          refine r_getR hX dX10_reads__36 fl_X10_50 (hM.1 0 (9, 0) rfl) rfl (hM.2 37 14 rfl) ?_
          refine r_bipush hX (nI 24) dX10_reads__39 rfl ?_
          refine r_iload_n hX dX10_reads__41 rfl ?_
          refine r_imulN hX dX10_reads__42 ?_
          refine r_iload_n hX dX10_reads__43 rfl ?_
          refine r_iaddN hX dX10_reads__44 ?_
          refine r_aldN hX dX10_reads__45 (hM.1 14 (10, 96) rfl) (by decide) (by omega) (B.2.2 q i) ((hB q (by omega)).2.2.2 i (by omega)) ?_
          refine r_istore_n hX [(0, .ref (L.1 0)), (1, .int (nI q)), (2, .int (nI i)), (3, .int (B.2.2 q i))] dX10_reads__46 hN3 rfl ?_
          refine r_aload_n hX dX10_reads__47 rfl ?_
          refine r_iload_n hX dX10_reads__48 rfl ?_
          refine r_callVF (As := [.int (nI i)]) (rest := []) hX (c_X10_isThing hM σ A hR (nI i)) dX10_reads__49 cb_X10_78 (hM.1 0 (9, 0) rfl) rfl rfl ⟨Nat.le_of_ble_eq_true rfl, Nat.le_of_ble_eq_true rfl⟩ ⟨Nat.le_of_ble_eq_true rfl, Nat.le_of_ble_eq_true rfl⟩ (Nat.le_of_ble_eq_true rfl) ?_
          refine r_ifB_eq hX dX10_reads__52 (fun c8 => ?_) (fun c8 => ?_)
          · skip
            refine r_ldc hX dX10_reads__63 ko_X10_92 ?_
            refine r_istore hX [(0, .ref (L.1 0)), (1, .int (nI q)), (2, .int (nI i)), (3, .int (B.2.2 q i)), (4, .int (-1000000005))] dX10_reads__65 hN4 rfl ?_
            refine r_aload_n hX dX10_reads__67 rfl ?_
            refine r_iload_n hX dX10_reads__68 rfl ?_
            refine r_callVF (As := [.int (nI i)]) (rest := []) hX (c_X10_isThing hM σ A hR (nI i)) dX10_reads__69 cb_X10_78 (hM.1 0 (9, 0) rfl) rfl rfl ⟨Nat.le_of_ble_eq_true rfl, Nat.le_of_ble_eq_true rfl⟩ ⟨Nat.le_of_ble_eq_true rfl, Nat.le_of_ble_eq_true rfl⟩ (Nat.le_of_ble_eq_true rfl) ?_
            refine r_ifB_eq hX dX10_reads__72 (fun c9 => ?_) (fun c9 => absurd c9 (by rw [c8]; decide))
            refine r_iconst hX (nI 0) dX10_reads__96 rfl ?_
            refine r_istore hX [(0, .ref (L.1 0)), (1, .int (nI q)), (2, .int (nI i)), (3, .int (B.2.2 q i)), (4, .int (-1000000005)), (5, .int (nI 0))] dX10_reads__97 hN5 rfl ?_
            refine r_iload_n hX dX10_reads__99 rfl ?_
            refine r_ldc hX dX10_reads__100 ko_X10_92 ?_
            refine r_icmp_eq hX dX10_reads__102 (fun c10 => ?_) (fun c10 => ?_)
            · skip
              refine r_iincN (n := 1) hX [(0, .ref (L.1 0)), (1, .int (nI q)), (2, .int (nI (i + 1))), (3, .int (B.2.2 q i)), (4, .int (-1000000005)), (5, .int (nI 0))] dX10_reads__112 rfl hN2 rfl ?_
              refine r_goto hX dX10_reads__115 ?_
              exact At.less (At.to (ls := [(0, .ref (L.1 0)), (1, .int (nI q)), (2, .int (nI (i + 1)))]) (ih6 (pfx_s hpk (wr_f1 c10))) rfl rfl rfl) (by simp)
            · skip
              refine r_iload hX dX10_reads__105 rfl ?_
              refine r_ifN_ne hX dX10_reads__107 (by decide) (fun c11 => absurd c11 (by decide)) (fun c11 => ?_)
              refine r_iload_n hX dX10_reads__110 rfl ?_
              exact r_ireturn hX hQ dX10_reads__111 ⟨Nat.le_of_ble_eq_true rfl, Nat.le_of_ble_eq_true rfl⟩ (PF.mk (by rw [oReads_y (by omega) c1 hs2 (pfx_no hpk (wr_t1 c10 (isB_ge (by omega) c8)) _ (Nat.le_of_lt hk)) hk]))
          · skip
            refine r_aload_n hX dX10_reads__55 rfl ?_
            refine r_iload_n hX dX10_reads__56 rfl ?_
            refine r_callVF (As := [.int (nI i)]) (rest := []) hX (c_X10_meanOf hM σ A hR hV i (by omega)) dX10_reads__57 cb_X10_171 (hM.1 0 (9, 0) rfl) rfl rfl ⟨Nat.le_of_ble_eq_true rfl, Nat.le_of_ble_eq_true rfl⟩ ⟨Nat.le_of_ble_eq_true rfl, Nat.le_of_ble_eq_true rfl⟩ (Nat.le_of_ble_eq_true rfl) ?_
            by_cases hcw : cw A 1 i (aW A) = 0
            · skip
              rw [mnI_0 hcw]
              have hmz : mz A i = 0 := by unfold mz; rw [if_pos hcw]
              refine r_goto hX dX10_reads__60 ?_
              refine r_istore hX [(0, .ref (L.1 0)), (1, .int (nI q)), (2, .int (nI i)), (3, .int (B.2.2 q i)), (4, .int (-1000000005))] dX10_reads__65 hN4 rfl ?_
              refine r_aload_n hX dX10_reads__67 rfl ?_
              refine r_iload_n hX dX10_reads__68 rfl ?_
              refine r_callVF (As := [.int (nI i)]) (rest := []) hX (c_X10_isThing hM σ A hR (nI i)) dX10_reads__69 cb_X10_78 (hM.1 0 (9, 0) rfl) rfl rfl ⟨Nat.le_of_ble_eq_true rfl, Nat.le_of_ble_eq_true rfl⟩ ⟨Nat.le_of_ble_eq_true rfl, Nat.le_of_ble_eq_true rfl⟩ (Nat.le_of_ble_eq_true rfl) ?_
              refine r_ifB_eq hX dX10_reads__72 (fun c12 => absurd c12 (by rw [c8]; decide)) (fun c12 => ?_)
              refine r_iload_n hX dX10_reads__75 rfl ?_
              refine r_iload hX dX10_reads__76 rfl ?_
              refine r_ldc hX dX10_reads__78 ko_X10_92 ?_
              refine r_icmp_ne hX dX10_reads__80 (fun c13 => absurd rfl c13) (fun c13 => ?_)
              refine r_iconst hX (nI 0) dX10_reads__83 rfl ?_
              refine r_goto hX dX10_reads__84 ?_
              refine r_icmp_ne hX dX10_reads__89 (fun c14 => ?_) (fun c14 => ?_)
              · skip
                refine r_iconst hX (nI 0) dX10_reads__96 rfl ?_
                refine r_istore hX [(0, .ref (L.1 0)), (1, .int (nI q)), (2, .int (nI i)), (3, .int (B.2.2 q i)), (4, .int (-1000000005)), (5, .int (nI 0))] dX10_reads__97 hN5 rfl ?_
                refine r_iload_n hX dX10_reads__99 rfl ?_
                refine r_ldc hX dX10_reads__100 ko_X10_92 ?_
                refine r_icmp_eq hX dX10_reads__102 (fun c15 => ?_) (fun c15 => ?_)
                · skip
                  refine r_iincN (n := 1) hX [(0, .ref (L.1 0)), (1, .int (nI q)), (2, .int (nI (i + 1))), (3, .int (B.2.2 q i)), (4, .int (-1000000005)), (5, .int (nI 0))] dX10_reads__112 rfl hN2 rfl ?_
                  refine r_goto hX dX10_reads__115 ?_
                  exact At.less (At.to (ls := [(0, .ref (L.1 0)), (1, .int (nI q)), (2, .int (nI (i + 1)))]) (ih6 (pfx_s hpk (wr_f1 c15))) rfl rfl rfl) (by simp)
                · skip
                  refine r_iload hX dX10_reads__105 rfl ?_
                  refine r_ifN_ne hX dX10_reads__107 (by decide) (fun c16 => absurd c16 (by decide)) (fun c16 => ?_)
                  refine r_iload_n hX dX10_reads__110 rfl ?_
                  exact r_ireturn hX hQ dX10_reads__111 ⟨Nat.le_of_ble_eq_true rfl, Nat.le_of_ble_eq_true rfl⟩ (PF.mk (by rw [oReads_y (by omega) c1 hs2 (pfx_no hpk (wr_t2 c15 (by rw [hmz]; exact c14)) _ (Nat.le_of_lt hk)) hk]))
              · skip
                refine r_iconst hX (nI 1) dX10_reads__92 rfl ?_
                refine r_goto hX dX10_reads__93 ?_
                refine r_istore hX [(0, .ref (L.1 0)), (1, .int (nI q)), (2, .int (nI i)), (3, .int (B.2.2 q i)), (4, .int (-1000000005)), (5, .int (nI 1))] dX10_reads__97 hN5 rfl ?_
                refine r_iload_n hX dX10_reads__99 rfl ?_
                refine r_ldc hX dX10_reads__100 ko_X10_92 ?_
                refine r_icmp_eq hX dX10_reads__102 (fun c17 => ?_) (fun c17 => ?_)
                · skip
                  refine r_iincN (n := 1) hX [(0, .ref (L.1 0)), (1, .int (nI q)), (2, .int (nI (i + 1))), (3, .int (B.2.2 q i)), (4, .int (-1000000005)), (5, .int (nI 1))] dX10_reads__112 rfl hN2 rfl ?_
                  refine r_goto hX dX10_reads__115 ?_
                  exact At.less (At.to (ls := [(0, .ref (L.1 0)), (1, .int (nI q)), (2, .int (nI (i + 1)))]) (ih6 (pfx_s hpk (wr_f1 c17))) rfl rfl rfl) (by simp)
                · skip
                  refine r_iload hX dX10_reads__105 rfl ?_
                  refine r_ifN_ne hX dX10_reads__107 (by decide) (fun c18 => ?_) (fun c18 => absurd c18 (by decide))
                  refine r_iincN (n := 1) hX [(0, .ref (L.1 0)), (1, .int (nI q)), (2, .int (nI (i + 1))), (3, .int (B.2.2 q i)), (4, .int (-1000000005)), (5, .int (nI 1))] dX10_reads__112 rfl hN2 rfl ?_
                  refine r_goto hX dX10_reads__115 ?_
                  exact At.less (At.to (ls := [(0, .ref (L.1 0)), (1, .int (nI q)), (2, .int (nI (i + 1)))]) (ih6 (pfx_s hpk (wr_f2 (isB_lt (by omega) (by omega) c8) (by rw [hmz]; exact c14)))) rfl rfl rfl) (by simp)
            · skip
              rw [mnI_1 hcw]
              have hmz : mz A i = mn A i := by unfold mz; rw [if_neg hcw]
              refine r_goto hX dX10_reads__60 ?_
              refine r_istore hX [(0, .ref (L.1 0)), (1, .int (nI q)), (2, .int (nI i)), (3, .int (B.2.2 q i)), (4, .int (nI (mn A i)))] dX10_reads__65 hN4 rfl ?_
              refine r_aload_n hX dX10_reads__67 rfl ?_
              refine r_iload_n hX dX10_reads__68 rfl ?_
              refine r_callVF (As := [.int (nI i)]) (rest := []) hX (c_X10_isThing hM σ A hR (nI i)) dX10_reads__69 cb_X10_78 (hM.1 0 (9, 0) rfl) rfl rfl ⟨Nat.le_of_ble_eq_true rfl, Nat.le_of_ble_eq_true rfl⟩ ⟨Nat.le_of_ble_eq_true rfl, Nat.le_of_ble_eq_true rfl⟩ (Nat.le_of_ble_eq_true rfl) ?_
              refine r_ifB_eq hX dX10_reads__72 (fun c19 => absurd c19 (by rw [c8]; decide)) (fun c19 => ?_)
              refine r_iload_n hX dX10_reads__75 rfl ?_
              refine r_iload hX dX10_reads__76 rfl ?_
              refine r_ldc hX dX10_reads__78 ko_X10_92 ?_
              refine r_icmp_ne hX dX10_reads__80 (fun c20 => ?_) (fun c20 => absurd c20 (nneg_ne (by omega) (by decide)))
              refine r_iload hX dX10_reads__87 rfl ?_
              refine r_icmp_ne hX dX10_reads__89 (fun c21 => ?_) (fun c21 => ?_)
              · skip
                refine r_iconst hX (nI 0) dX10_reads__96 rfl ?_
                refine r_istore hX [(0, .ref (L.1 0)), (1, .int (nI q)), (2, .int (nI i)), (3, .int (B.2.2 q i)), (4, .int (nI (mn A i))), (5, .int (nI 0))] dX10_reads__97 hN5 rfl ?_
                refine r_iload_n hX dX10_reads__99 rfl ?_
                refine r_ldc hX dX10_reads__100 ko_X10_92 ?_
                refine r_icmp_eq hX dX10_reads__102 (fun c22 => ?_) (fun c22 => ?_)
                · skip
                  refine r_iincN (n := 1) hX [(0, .ref (L.1 0)), (1, .int (nI q)), (2, .int (nI (i + 1))), (3, .int (B.2.2 q i)), (4, .int (nI (mn A i))), (5, .int (nI 0))] dX10_reads__112 rfl hN2 rfl ?_
                  refine r_goto hX dX10_reads__115 ?_
                  exact At.less (At.to (ls := [(0, .ref (L.1 0)), (1, .int (nI q)), (2, .int (nI (i + 1)))]) (ih6 (pfx_s hpk (wr_f1 c22))) rfl rfl rfl) (by simp)
                · skip
                  refine r_iload hX dX10_reads__105 rfl ?_
                  refine r_ifN_ne hX dX10_reads__107 (by decide) (fun c23 => absurd c23 (by decide)) (fun c23 => ?_)
                  refine r_iload_n hX dX10_reads__110 rfl ?_
                  exact r_ireturn hX hQ dX10_reads__111 ⟨Nat.le_of_ble_eq_true rfl, Nat.le_of_ble_eq_true rfl⟩ (PF.mk (by rw [oReads_y (by omega) c1 hs2 (pfx_no hpk (wr_t2 c22 (by rw [hmz]; exact c21)) _ (Nat.le_of_lt hk)) hk]))
              · skip
                refine r_iconst hX (nI 1) dX10_reads__92 rfl ?_
                refine r_goto hX dX10_reads__93 ?_
                refine r_istore hX [(0, .ref (L.1 0)), (1, .int (nI q)), (2, .int (nI i)), (3, .int (B.2.2 q i)), (4, .int (nI (mn A i))), (5, .int (nI 1))] dX10_reads__97 hN5 rfl ?_
                refine r_iload_n hX dX10_reads__99 rfl ?_
                refine r_ldc hX dX10_reads__100 ko_X10_92 ?_
                refine r_icmp_eq hX dX10_reads__102 (fun c24 => ?_) (fun c24 => ?_)
                · skip
                  refine r_iincN (n := 1) hX [(0, .ref (L.1 0)), (1, .int (nI q)), (2, .int (nI (i + 1))), (3, .int (B.2.2 q i)), (4, .int (nI (mn A i))), (5, .int (nI 1))] dX10_reads__112 rfl hN2 rfl ?_
                  refine r_goto hX dX10_reads__115 ?_
                  exact At.less (At.to (ls := [(0, .ref (L.1 0)), (1, .int (nI q)), (2, .int (nI (i + 1)))]) (ih6 (pfx_s hpk (wr_f1 c24))) rfl rfl rfl) (by simp)
                · skip
                  refine r_iload hX dX10_reads__105 rfl ?_
                  refine r_ifN_ne hX dX10_reads__107 (by decide) (fun c25 => ?_) (fun c25 => absurd c25 (by decide))
                  refine r_iincN (n := 1) hX [(0, .ref (L.1 0)), (1, .int (nI q)), (2, .int (nI (i + 1))), (3, .int (B.2.2 q i)), (4, .int (nI (mn A i))), (5, .int (nI 1))] dX10_reads__112 rfl hN2 rfl ?_
                  refine r_goto hX dX10_reads__115 ?_
                  exact At.less (At.to (ls := [(0, .ref (L.1 0)), (1, .int (nI q)), (2, .int (nI (i + 1)))]) (ih6 (pfx_s hpk (wr_f2 (isB_lt (by omega) (by omega) c8) (by rw [hmz]; exact c21)))) rfl rfl rfl) (by simp)
      exact At.to (P4 0 (Nat.zero_le _) rfl) rfl rfl rfl
    · skip
      refine r_aload_n hX dX10_reads__10 rfl ?_
      refine r_getR hX dX10_reads__11 fl_X10_44 (hM.1 0 (9, 0) rfl) rfl (hM.2 35 12 rfl) ?_
      refine r_iload_n hX dX10_reads__14 rfl ?_
      refine r_aldN hX dX10_reads__15 (hM.1 12 (10, 4) rfl) (by decide) (by omega) (nI 1) ((hB q (by omega)).1.trans (by rw [hs2]; rfl)) ?_
      refine r_ifN_ge hX dX10_reads__16 (by decide) ?_
      refine r_iconst hX (nI 0) dX10_reads__23 rfl ?_
      refine r_istore_n hX [(0, .ref (L.1 0)), (1, .int (nI q)), (2, .int (nI 0))] dX10_reads__24 hN2 rfl ?_
      have P26 : ∀ i, i ≤ B.2.1 q → ∀ (hpk : pfx (fun i => !(wrB A B q i)) i = i), At X L σ 0 0 [(0, .ref (L.1 0)), (1, .int (nI q)), (2, .int (nI i))] 25 [] := by
        refine loopUp (B.2.1 q) ?_ ?_
        · skip
          intro hpk
          refine r_iload_n hX dX10_reads__25 rfl ?_
          refine r_aload_n hX dX10_reads__26 rfl ?_
          refine r_getR hX dX10_reads__27 fl_X10_47 (hM.1 0 (9, 0) rfl) rfl (hM.2 36 13 rfl) ?_
          refine r_iload_n hX dX10_reads__30 rfl ?_
          refine r_aldN hX dX10_reads__31 (hM.1 13 (10, 4) rfl) (by decide) (by omega) (nI (B.2.1 q)) (hB q (by omega)).2.1 ?_
          refine r_icmpN_ge hX dX10_reads__32 (by omega) (by omega) (fun c27 => ?_) (fun c27 => absurd c27 (by omega))
          refine r_ldc hX dX10_reads__118 ko_X10_92 ?_
          exact r_ireturn hX hQ dX10_reads__120 ⟨Nat.le_of_ble_eq_true rfl, Nat.le_of_ble_eq_true rfl⟩ (PF.mk (by rw [oReads_n (by omega) c1 hs2 hpk]))
        · skip
          intro i hk ih28 hpk
          have hmn := mn_le hV i
          refine r_iload_n hX dX10_reads__25 rfl ?_
          refine r_aload_n hX dX10_reads__26 rfl ?_
          refine r_getR hX dX10_reads__27 fl_X10_47 (hM.1 0 (9, 0) rfl) rfl (hM.2 36 13 rfl) ?_
          refine r_iload_n hX dX10_reads__30 rfl ?_
          refine r_aldN hX dX10_reads__31 (hM.1 13 (10, 4) rfl) (by decide) (by omega) (nI (B.2.1 q)) (hB q (by omega)).2.1 ?_
          refine r_icmpN_ge hX dX10_reads__32 (by omega) (by omega) (fun c29 => absurd c29 (by omega)) (fun c29 => ?_)
          refine r_aload_n hX dX10_reads__35 rfl ?_
          refine r_getR hX dX10_reads__36 fl_X10_50 (hM.1 0 (9, 0) rfl) rfl (hM.2 37 14 rfl) ?_
          refine r_bipush hX (nI 24) dX10_reads__39 rfl ?_
          refine r_iload_n hX dX10_reads__41 rfl ?_
          refine r_imulN hX dX10_reads__42 ?_
          refine r_iload_n hX dX10_reads__43 rfl ?_
          refine r_iaddN hX dX10_reads__44 ?_
          refine r_aldN hX dX10_reads__45 (hM.1 14 (10, 96) rfl) (by decide) (by omega) (B.2.2 q i) ((hB q (by omega)).2.2.2 i (by omega)) ?_
          refine r_istore_n hX [(0, .ref (L.1 0)), (1, .int (nI q)), (2, .int (nI i)), (3, .int (B.2.2 q i))] dX10_reads__46 hN3 rfl ?_
          refine r_aload_n hX dX10_reads__47 rfl ?_
          refine r_iload_n hX dX10_reads__48 rfl ?_
          refine r_callVF (As := [.int (nI i)]) (rest := []) hX (c_X10_isThing hM σ A hR (nI i)) dX10_reads__49 cb_X10_78 (hM.1 0 (9, 0) rfl) rfl rfl ⟨Nat.le_of_ble_eq_true rfl, Nat.le_of_ble_eq_true rfl⟩ ⟨Nat.le_of_ble_eq_true rfl, Nat.le_of_ble_eq_true rfl⟩ (Nat.le_of_ble_eq_true rfl) ?_
          refine r_ifB_eq hX dX10_reads__52 (fun c30 => ?_) (fun c30 => ?_)
          · skip
            refine r_ldc hX dX10_reads__63 ko_X10_92 ?_
            refine r_istore hX [(0, .ref (L.1 0)), (1, .int (nI q)), (2, .int (nI i)), (3, .int (B.2.2 q i)), (4, .int (-1000000005))] dX10_reads__65 hN4 rfl ?_
            refine r_aload_n hX dX10_reads__67 rfl ?_
            refine r_iload_n hX dX10_reads__68 rfl ?_
            refine r_callVF (As := [.int (nI i)]) (rest := []) hX (c_X10_isThing hM σ A hR (nI i)) dX10_reads__69 cb_X10_78 (hM.1 0 (9, 0) rfl) rfl rfl ⟨Nat.le_of_ble_eq_true rfl, Nat.le_of_ble_eq_true rfl⟩ ⟨Nat.le_of_ble_eq_true rfl, Nat.le_of_ble_eq_true rfl⟩ (Nat.le_of_ble_eq_true rfl) ?_
            refine r_ifB_eq hX dX10_reads__72 (fun c31 => ?_) (fun c31 => absurd c31 (by rw [c30]; decide))
            refine r_iconst hX (nI 0) dX10_reads__96 rfl ?_
            refine r_istore hX [(0, .ref (L.1 0)), (1, .int (nI q)), (2, .int (nI i)), (3, .int (B.2.2 q i)), (4, .int (-1000000005)), (5, .int (nI 0))] dX10_reads__97 hN5 rfl ?_
            refine r_iload_n hX dX10_reads__99 rfl ?_
            refine r_ldc hX dX10_reads__100 ko_X10_92 ?_
            refine r_icmp_eq hX dX10_reads__102 (fun c32 => ?_) (fun c32 => ?_)
            · skip
              refine r_iincN (n := 1) hX [(0, .ref (L.1 0)), (1, .int (nI q)), (2, .int (nI (i + 1))), (3, .int (B.2.2 q i)), (4, .int (-1000000005)), (5, .int (nI 0))] dX10_reads__112 rfl hN2 rfl ?_
              refine r_goto hX dX10_reads__115 ?_
              exact At.less (At.to (ls := [(0, .ref (L.1 0)), (1, .int (nI q)), (2, .int (nI (i + 1)))]) (ih28 (pfx_s hpk (wr_f1 c32))) rfl rfl rfl) (by simp)
            · skip
              refine r_iload hX dX10_reads__105 rfl ?_
              refine r_ifN_ne hX dX10_reads__107 (by decide) (fun c33 => absurd c33 (by decide)) (fun c33 => ?_)
              refine r_iload_n hX dX10_reads__110 rfl ?_
              exact r_ireturn hX hQ dX10_reads__111 ⟨Nat.le_of_ble_eq_true rfl, Nat.le_of_ble_eq_true rfl⟩ (PF.mk (by rw [oReads_y (by omega) c1 hs2 (pfx_no hpk (wr_t1 c32 (isB_ge (by omega) c30)) _ (Nat.le_of_lt hk)) hk]))
          · skip
            refine r_aload_n hX dX10_reads__55 rfl ?_
            refine r_iload_n hX dX10_reads__56 rfl ?_
            refine r_callVF (As := [.int (nI i)]) (rest := []) hX (c_X10_meanOf hM σ A hR hV i (by omega)) dX10_reads__57 cb_X10_171 (hM.1 0 (9, 0) rfl) rfl rfl ⟨Nat.le_of_ble_eq_true rfl, Nat.le_of_ble_eq_true rfl⟩ ⟨Nat.le_of_ble_eq_true rfl, Nat.le_of_ble_eq_true rfl⟩ (Nat.le_of_ble_eq_true rfl) ?_
            by_cases hcw : cw A 1 i (aW A) = 0
            · skip
              rw [mnI_0 hcw]
              have hmz : mz A i = 0 := by unfold mz; rw [if_pos hcw]
              refine r_goto hX dX10_reads__60 ?_
              refine r_istore hX [(0, .ref (L.1 0)), (1, .int (nI q)), (2, .int (nI i)), (3, .int (B.2.2 q i)), (4, .int (-1000000005))] dX10_reads__65 hN4 rfl ?_
              refine r_aload_n hX dX10_reads__67 rfl ?_
              refine r_iload_n hX dX10_reads__68 rfl ?_
              refine r_callVF (As := [.int (nI i)]) (rest := []) hX (c_X10_isThing hM σ A hR (nI i)) dX10_reads__69 cb_X10_78 (hM.1 0 (9, 0) rfl) rfl rfl ⟨Nat.le_of_ble_eq_true rfl, Nat.le_of_ble_eq_true rfl⟩ ⟨Nat.le_of_ble_eq_true rfl, Nat.le_of_ble_eq_true rfl⟩ (Nat.le_of_ble_eq_true rfl) ?_
              refine r_ifB_eq hX dX10_reads__72 (fun c34 => absurd c34 (by rw [c30]; decide)) (fun c34 => ?_)
              refine r_iload_n hX dX10_reads__75 rfl ?_
              refine r_iload hX dX10_reads__76 rfl ?_
              refine r_ldc hX dX10_reads__78 ko_X10_92 ?_
              refine r_icmp_ne hX dX10_reads__80 (fun c35 => absurd rfl c35) (fun c35 => ?_)
              refine r_iconst hX (nI 0) dX10_reads__83 rfl ?_
              refine r_goto hX dX10_reads__84 ?_
              refine r_icmp_ne hX dX10_reads__89 (fun c36 => ?_) (fun c36 => ?_)
              · skip
                refine r_iconst hX (nI 0) dX10_reads__96 rfl ?_
                refine r_istore hX [(0, .ref (L.1 0)), (1, .int (nI q)), (2, .int (nI i)), (3, .int (B.2.2 q i)), (4, .int (-1000000005)), (5, .int (nI 0))] dX10_reads__97 hN5 rfl ?_
                refine r_iload_n hX dX10_reads__99 rfl ?_
                refine r_ldc hX dX10_reads__100 ko_X10_92 ?_
                refine r_icmp_eq hX dX10_reads__102 (fun c37 => ?_) (fun c37 => ?_)
                · skip
                  refine r_iincN (n := 1) hX [(0, .ref (L.1 0)), (1, .int (nI q)), (2, .int (nI (i + 1))), (3, .int (B.2.2 q i)), (4, .int (-1000000005)), (5, .int (nI 0))] dX10_reads__112 rfl hN2 rfl ?_
                  refine r_goto hX dX10_reads__115 ?_
                  exact At.less (At.to (ls := [(0, .ref (L.1 0)), (1, .int (nI q)), (2, .int (nI (i + 1)))]) (ih28 (pfx_s hpk (wr_f1 c37))) rfl rfl rfl) (by simp)
                · skip
                  refine r_iload hX dX10_reads__105 rfl ?_
                  refine r_ifN_ne hX dX10_reads__107 (by decide) (fun c38 => absurd c38 (by decide)) (fun c38 => ?_)
                  refine r_iload_n hX dX10_reads__110 rfl ?_
                  exact r_ireturn hX hQ dX10_reads__111 ⟨Nat.le_of_ble_eq_true rfl, Nat.le_of_ble_eq_true rfl⟩ (PF.mk (by rw [oReads_y (by omega) c1 hs2 (pfx_no hpk (wr_t2 c37 (by rw [hmz]; exact c36)) _ (Nat.le_of_lt hk)) hk]))
              · skip
                refine r_iconst hX (nI 1) dX10_reads__92 rfl ?_
                refine r_goto hX dX10_reads__93 ?_
                refine r_istore hX [(0, .ref (L.1 0)), (1, .int (nI q)), (2, .int (nI i)), (3, .int (B.2.2 q i)), (4, .int (-1000000005)), (5, .int (nI 1))] dX10_reads__97 hN5 rfl ?_
                refine r_iload_n hX dX10_reads__99 rfl ?_
                refine r_ldc hX dX10_reads__100 ko_X10_92 ?_
                refine r_icmp_eq hX dX10_reads__102 (fun c39 => ?_) (fun c39 => ?_)
                · skip
                  refine r_iincN (n := 1) hX [(0, .ref (L.1 0)), (1, .int (nI q)), (2, .int (nI (i + 1))), (3, .int (B.2.2 q i)), (4, .int (-1000000005)), (5, .int (nI 1))] dX10_reads__112 rfl hN2 rfl ?_
                  refine r_goto hX dX10_reads__115 ?_
                  exact At.less (At.to (ls := [(0, .ref (L.1 0)), (1, .int (nI q)), (2, .int (nI (i + 1)))]) (ih28 (pfx_s hpk (wr_f1 c39))) rfl rfl rfl) (by simp)
                · skip
                  refine r_iload hX dX10_reads__105 rfl ?_
                  refine r_ifN_ne hX dX10_reads__107 (by decide) (fun c40 => ?_) (fun c40 => absurd c40 (by decide))
                  refine r_iincN (n := 1) hX [(0, .ref (L.1 0)), (1, .int (nI q)), (2, .int (nI (i + 1))), (3, .int (B.2.2 q i)), (4, .int (-1000000005)), (5, .int (nI 1))] dX10_reads__112 rfl hN2 rfl ?_
                  refine r_goto hX dX10_reads__115 ?_
                  exact At.less (At.to (ls := [(0, .ref (L.1 0)), (1, .int (nI q)), (2, .int (nI (i + 1)))]) (ih28 (pfx_s hpk (wr_f2 (isB_lt (by omega) (by omega) c30) (by rw [hmz]; exact c36)))) rfl rfl rfl) (by simp)
            · skip
              rw [mnI_1 hcw]
              have hmz : mz A i = mn A i := by unfold mz; rw [if_neg hcw]
              refine r_goto hX dX10_reads__60 ?_
              refine r_istore hX [(0, .ref (L.1 0)), (1, .int (nI q)), (2, .int (nI i)), (3, .int (B.2.2 q i)), (4, .int (nI (mn A i)))] dX10_reads__65 hN4 rfl ?_
              refine r_aload_n hX dX10_reads__67 rfl ?_
              refine r_iload_n hX dX10_reads__68 rfl ?_
              refine r_callVF (As := [.int (nI i)]) (rest := []) hX (c_X10_isThing hM σ A hR (nI i)) dX10_reads__69 cb_X10_78 (hM.1 0 (9, 0) rfl) rfl rfl ⟨Nat.le_of_ble_eq_true rfl, Nat.le_of_ble_eq_true rfl⟩ ⟨Nat.le_of_ble_eq_true rfl, Nat.le_of_ble_eq_true rfl⟩ (Nat.le_of_ble_eq_true rfl) ?_
              refine r_ifB_eq hX dX10_reads__72 (fun c41 => absurd c41 (by rw [c30]; decide)) (fun c41 => ?_)
              refine r_iload_n hX dX10_reads__75 rfl ?_
              refine r_iload hX dX10_reads__76 rfl ?_
              refine r_ldc hX dX10_reads__78 ko_X10_92 ?_
              refine r_icmp_ne hX dX10_reads__80 (fun c42 => ?_) (fun c42 => absurd c42 (nneg_ne (by omega) (by decide)))
              refine r_iload hX dX10_reads__87 rfl ?_
              refine r_icmp_ne hX dX10_reads__89 (fun c43 => ?_) (fun c43 => ?_)
              · skip
                refine r_iconst hX (nI 0) dX10_reads__96 rfl ?_
                refine r_istore hX [(0, .ref (L.1 0)), (1, .int (nI q)), (2, .int (nI i)), (3, .int (B.2.2 q i)), (4, .int (nI (mn A i))), (5, .int (nI 0))] dX10_reads__97 hN5 rfl ?_
                refine r_iload_n hX dX10_reads__99 rfl ?_
                refine r_ldc hX dX10_reads__100 ko_X10_92 ?_
                refine r_icmp_eq hX dX10_reads__102 (fun c44 => ?_) (fun c44 => ?_)
                · skip
                  refine r_iincN (n := 1) hX [(0, .ref (L.1 0)), (1, .int (nI q)), (2, .int (nI (i + 1))), (3, .int (B.2.2 q i)), (4, .int (nI (mn A i))), (5, .int (nI 0))] dX10_reads__112 rfl hN2 rfl ?_
                  refine r_goto hX dX10_reads__115 ?_
                  exact At.less (At.to (ls := [(0, .ref (L.1 0)), (1, .int (nI q)), (2, .int (nI (i + 1)))]) (ih28 (pfx_s hpk (wr_f1 c44))) rfl rfl rfl) (by simp)
                · skip
                  refine r_iload hX dX10_reads__105 rfl ?_
                  refine r_ifN_ne hX dX10_reads__107 (by decide) (fun c45 => absurd c45 (by decide)) (fun c45 => ?_)
                  refine r_iload_n hX dX10_reads__110 rfl ?_
                  exact r_ireturn hX hQ dX10_reads__111 ⟨Nat.le_of_ble_eq_true rfl, Nat.le_of_ble_eq_true rfl⟩ (PF.mk (by rw [oReads_y (by omega) c1 hs2 (pfx_no hpk (wr_t2 c44 (by rw [hmz]; exact c43)) _ (Nat.le_of_lt hk)) hk]))
              · skip
                refine r_iconst hX (nI 1) dX10_reads__92 rfl ?_
                refine r_goto hX dX10_reads__93 ?_
                refine r_istore hX [(0, .ref (L.1 0)), (1, .int (nI q)), (2, .int (nI i)), (3, .int (B.2.2 q i)), (4, .int (nI (mn A i))), (5, .int (nI 1))] dX10_reads__97 hN5 rfl ?_
                refine r_iload_n hX dX10_reads__99 rfl ?_
                refine r_ldc hX dX10_reads__100 ko_X10_92 ?_
                refine r_icmp_eq hX dX10_reads__102 (fun c46 => ?_) (fun c46 => ?_)
                · skip
                  refine r_iincN (n := 1) hX [(0, .ref (L.1 0)), (1, .int (nI q)), (2, .int (nI (i + 1))), (3, .int (B.2.2 q i)), (4, .int (nI (mn A i))), (5, .int (nI 1))] dX10_reads__112 rfl hN2 rfl ?_
                  refine r_goto hX dX10_reads__115 ?_
                  exact At.less (At.to (ls := [(0, .ref (L.1 0)), (1, .int (nI q)), (2, .int (nI (i + 1)))]) (ih28 (pfx_s hpk (wr_f1 c46))) rfl rfl rfl) (by simp)
                · skip
                  refine r_iload hX dX10_reads__105 rfl ?_
                  refine r_ifN_ne hX dX10_reads__107 (by decide) (fun c47 => ?_) (fun c47 => absurd c47 (by decide))
                  refine r_iincN (n := 1) hX [(0, .ref (L.1 0)), (1, .int (nI q)), (2, .int (nI (i + 1))), (3, .int (B.2.2 q i)), (4, .int (nI (mn A i))), (5, .int (nI 1))] dX10_reads__112 rfl hN2 rfl ?_
                  refine r_goto hX dX10_reads__115 ?_
                  exact At.less (At.to (ls := [(0, .ref (L.1 0)), (1, .int (nI q)), (2, .int (nI (i + 1)))]) (ih28 (pfx_s hpk (wr_f2 (isB_lt (by omega) (by omega) c30) (by rw [hmz]; exact c43)))) rfl rfl rfl) (by simp)
      exact At.to (P26 0 (Nat.zero_le _) rfl) rfl rfl rfl
  · skip
    refine r_ldc hX dX10_reads__7 ko_X10_72 ?_
    exact r_ireturn hX hQ dX10_reads__9 ⟨Nat.le_of_ble_eq_true rfl, Nat.le_of_ble_eq_true rfl⟩ (PF.mk (by rw [oReads, if_neg (fun e => by rw [c1] at e; cases e)]))
