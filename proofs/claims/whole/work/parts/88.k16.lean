set_option maxHeartbeats 4000000 in
set_option maxRecDepth 100000 in
theorem c_X9_copy {l : Launch} {D : Ds} {L : La}  (hN : NL D) (hA : CAt L) (σ : Me) (B : Bs) (hB : RBc σ B) (f p t a m : Int32) : Ct l yX9_copy cX9_copy 8 (some .int) { frames := 2, cells := 0, slots := 0, locals := 44 } D L σ [.ref (L.1 100), .int f, .int p, .int t, .int a, .int m] (PI L (fun r σ2 => r = (oCopy B f p t a m).1 ∧ RBc σ2 (oCopy B f p t a m).2 ∧ Ex pBc σ σ2)) := by
  refine Ct.of (by decide) (Nat.le_of_ble_eq_true rfl) ?_
  intro X hl hD hnl hX0 hQ
  have hX : Ok X cX9_copy RX9 "copy" { frames := 2, cells := 0, slots := 0, locals := 44 } (some .int) := hX0
  have hN6 : 6 < xn X := by rw [hnl]; decide
  have hN7 : 7 < xn X := by rw [hnl]; decide
  show At X L σ 0 0 [(0, .ref (L.1 100)), (1, .int f), (2, .int p), (3, .int t), (4, .int a), (5, .int m)] 0 []
  refine r_iload_n hX dX9_copy_0 rfl ?_
  refine r_callSF (As := [.int f]) (rest := []) hX (c_X9_isSheet σ f) dX9_copy_1 cb_X9_279 rfl rfl ⟨Nat.le_of_ble_eq_true rfl, Nat.le_of_ble_eq_true rfl⟩ ⟨Nat.le_of_ble_eq_true rfl, Nat.le_of_ble_eq_true rfl⟩ (Nat.le_of_ble_eq_true rfl) ?_
  refine r_ifB_eq hX dX9_copy_4 (fun c1 => ?_) (fun c1 => ?_)
  · skip
    refine r_ldc hX dX9_copy_14 ko_X9_75 ?_
    exact r_ireturn hX hQ dX9_copy_16 ⟨Nat.le_of_ble_eq_true rfl, Nat.le_of_ble_eq_true rfl⟩ (PI.mk (by rw [oCopy, if_neg (fun e => by rw [c1] at e; cases e.1)]; exact ⟨rfl, hB, Ex.rf σ⟩))
  · skip
    obtain ⟨q, hql, hq, rfl⟩ := inB_nat c1 (by decide) (by decide)
    refine r_iload_n hX dX9_copy_7 rfl ?_
    refine r_callSF (As := [.int t]) (rest := []) hX (c_X9_isSheet σ t) dX9_copy_8 cb_X9_279 rfl rfl ⟨Nat.le_of_ble_eq_true rfl, Nat.le_of_ble_eq_true rfl⟩ ⟨Nat.le_of_ble_eq_true rfl, Nat.le_of_ble_eq_true rfl⟩ (Nat.le_of_ble_eq_true rfl) ?_
    refine r_ifB_ne hX dX9_copy_11 (fun c2 => ?_) (fun c2 => ?_)
    · skip
      obtain ⟨r, hrl, hr, rfl⟩ := inB_nat c2 (by decide) (by decide)
      refine r_aload_n hX dX9_copy_17 rfl ?_
      refine r_getR hX dX9_copy_18 fl_X9_41 (hA.1 100 (8, 0) rfl) rfl (hA.2.1 100 4 107 rfl) ?_
      refine r_iload_n hX dX9_copy_21 rfl ?_
      refine r_aald hX dX9_copy_22 (hA.1 107 (13, 4) rfl) (by decide) (by decide) (by decide) (by omega) (.ref (L.1 (110 + 2 * q))) (by rw [(hA.sh (q := q) (by omega)).2]; rfl) ?_
      refine r_astore hX [(0, .ref (L.1 100)), (1, .int (nI q)), (2, .int p), (3, .int (nI r)), (4, .int a), (5, .int m), (6, .ref (L.1 (110 + 2 * q)))] dX9_copy_23 hN6 rfl ?_
      refine r_aload_n hX dX9_copy_25 rfl ?_
      refine r_getR hX dX9_copy_26 fl_X9_41 (hA.1 100 (8, 0) rfl) rfl (hA.2.1 100 4 107 rfl) ?_
      refine r_iload_n hX dX9_copy_29 rfl ?_
      refine r_aald hX dX9_copy_30 (hA.1 107 (13, 4) rfl) (by decide) (by decide) (by decide) (by omega) (.ref (L.1 (110 + 2 * r))) (by rw [(hA.sh (q := r) (by omega)).2]; rfl) ?_
      refine r_astore hX [(0, .ref (L.1 100)), (1, .int (nI q)), (2, .int p), (3, .int (nI r)), (4, .int a), (5, .int m), (6, .ref (L.1 (110 + 2 * q))), (7, .ref (L.1 (110 + 2 * r)))] dX9_copy_31 hN7 rfl ?_
      refine r_aload hX dX9_copy_33 rfl ?_
      refine r_callVF (As := []) (rest := []) hX (c_X4_isMissing σ (110 + 2 * q) (hA.sh (q := q) (by omega)).1 (B.1 q) (hB q (by omega)).1) dX9_copy_35 cb_X9_287 (hA.sh (q := q) (by omega)).1.1 rfl rfl ⟨Nat.le_of_ble_eq_true rfl, Nat.le_of_ble_eq_true rfl⟩ ⟨Nat.le_of_ble_eq_true rfl, Nat.le_of_ble_eq_true rfl⟩ (Nat.le_of_ble_eq_true rfl) ?_
      refine r_ifB_ne hX dX9_copy_38 (fun c3 => ?_) (fun c3 => ?_)
      · skip
        have hnq := none_of c3
        refine r_ldcw hX dX9_copy_49 ko_X9_291 ?_
        exact r_ireturn hX hQ dX9_copy_52 ⟨Nat.le_of_ble_eq_true rfl, Nat.le_of_ble_eq_true rfl⟩ (PI.mk (by rw [oCopy_0 hq hr c1 c2 (Or.inl hnq)]; exact ⟨rfl, hB, Ex.rf σ⟩))
      · skip
        obtain ⟨bq, hbq⟩ := some_of c3
        have hzq := (hB q (by omega)).2.2.1
        refine r_aload hX dX9_copy_41 rfl ?_
        refine r_callVF (As := []) (rest := []) hX (c_X4_isMissing σ (110 + 2 * r) (hA.sh (q := r) (by omega)).1 (B.1 r) (hB r (by omega)).1) dX9_copy_43 cb_X9_287 (hA.sh (q := r) (by omega)).1.1 rfl rfl ⟨Nat.le_of_ble_eq_true rfl, Nat.le_of_ble_eq_true rfl⟩ ⟨Nat.le_of_ble_eq_true rfl, Nat.le_of_ble_eq_true rfl⟩ (Nat.le_of_ble_eq_true rfl) ?_
        refine r_ifB_eq hX dX9_copy_46 (fun c4 => ?_) (fun c4 => ?_)
        · skip
          obtain ⟨br, hbr⟩ := some_of c4
          have hzr := (hB r (by omega)).2.2.1
          refine r_aload hX dX9_copy_53 rfl ?_
          refine r_getIV hX dX9_copy_55 fl_X9_296 (hA.sh (q := q) (by omega)).1.1 rfl (bI bq) ((hB q (by omega)).1.trans (by rw [hbq]; rfl)) ?_
          refine r_aload hX dX9_copy_58 rfl ?_
          refine r_getIV hX dX9_copy_60 fl_X9_296 (hA.sh (q := r) (by omega)).1.1 rfl (bI br) ((hB r (by omega)).1.trans (by rw [hbr]; rfl)) ?_
          refine r_icmp_eq hX dX9_copy_63 (fun c5 => ?_) (fun c5 => ?_)
          · skip
            refine r_iload hX dX9_copy_69 rfl ?_
            refine r_if_lt hX dX9_copy_71 (fun c6 => ?_) (fun c6 => ?_)
            · skip
              refine r_ldcw hX dX9_copy_97 ko_X9_295 ?_
              exact r_ireturn hX hQ dX9_copy_100 ⟨Nat.le_of_ble_eq_true rfl, Nat.le_of_ble_eq_true rfl⟩ (PI.mk (by rw [oCopy_i hq hr c1 c2 hbq hbr (by have e := c5; revert e; cases bq <;> cases br <;> decide) (fun e => e.1 c6)]; exact ⟨rfl, hB, Ex.rf σ⟩))
            · skip
              refine r_aload hX dX9_copy_74 rfl ?_
              refine r_iload_n hX dX9_copy_76 rfl ?_
              refine r_iload hX dX9_copy_77 rfl ?_
              refine r_callVF (As := [.int p, .int m]) (rest := []) hX (by rw [hl, hD]; exact c_X4_hasRun hN σ (110 + 2 * q) (hA.sh (q := q) (by omega)).1 (B.2.1 q) (hB q (by omega)).2.1 p m) dX9_copy_79 cb_X9_312 (hA.sh (q := q) (by omega)).1.1 rfl rfl ⟨Nat.le_of_ble_eq_true rfl, Nat.le_of_ble_eq_true rfl⟩ ⟨Nat.le_of_ble_eq_true rfl, Nat.le_of_ble_eq_true rfl⟩ (Nat.le_of_ble_eq_true rfl) ?_
              refine r_ifB_eq hX dX9_copy_82 (fun c7 => ?_) (fun c7 => ?_)
              · skip
                refine r_ldcw hX dX9_copy_97 ko_X9_295 ?_
                exact r_ireturn hX hQ dX9_copy_100 ⟨Nat.le_of_ble_eq_true rfl, Nat.le_of_ble_eq_true rfl⟩ (PI.mk (by rw [oCopy_i hq hr c1 c2 hbq hbr (by have e := c5; revert e; cases bq <;> cases br <;> decide) (fun e => by have z := (hr_iff hzq e.1).mpr ⟨e.2.1, e.2.2.2.1⟩; rw [c7] at z; cases z)]; exact ⟨rfl, hB, Ex.rf σ⟩))
              · skip
                refine r_aload hX dX9_copy_85 rfl ?_
                refine r_iload hX dX9_copy_87 rfl ?_
                refine r_iload hX dX9_copy_89 rfl ?_
                refine r_callVF (As := [.int a, .int m]) (rest := []) hX (by rw [hl, hD]; exact c_X4_hasRun hN σ (110 + 2 * r) (hA.sh (q := r) (by omega)).1 (B.2.1 r) (hB r (by omega)).2.1 a m) dX9_copy_91 cb_X9_312 (hA.sh (q := r) (by omega)).1.1 rfl rfl ⟨Nat.le_of_ble_eq_true rfl, Nat.le_of_ble_eq_true rfl⟩ ⟨Nat.le_of_ble_eq_true rfl, Nat.le_of_ble_eq_true rfl⟩ (Nat.le_of_ble_eq_true rfl) ?_
                refine r_ifB_ne hX dX9_copy_94 (fun c8 => ?_) (fun c8 => ?_)
                · skip
                  have hm0 : ¬ m < 0 := c6
                  have hi1 := (hr_iff hzq hm0).mp c7
                  have hi2 := (hr_iff hzr hm0).mp c8
                  have hcp : cpI B q r p a m := ⟨hm0, hi1.1, hi2.1, hi1.2, hi2.2⟩
                  obtain ⟨u, v, rfl, rfl, huv⟩ := cp_nat hzq hcp.1 hcp.2.1 hcp.2.2.2.1
                  obtain ⟨y, rfl, hyv⟩ := cp_nat2 hzr (by omega) hcp.2.2.1 hcp.2.2.2.2
                  refine r_aload hX dX9_copy_101 rfl ?_
                  refine r_getR hX dX9_copy_103 fl_X9_299 (hA.sh (q := q) (by omega)).1.1 rfl (hA.sh (q := q) (by omega)).1.2.2 ?_
                  refine r_iload_n hX dX9_copy_106 rfl ?_
                  refine r_aload hX dX9_copy_107 rfl ?_
                  refine r_getR hX dX9_copy_109 fl_X9_299 (hA.sh (q := r) (by omega)).1.1 rfl (hA.sh (q := r) (by omega)).1.2.2 ?_
                  refine r_iload hX dX9_copy_112 rfl ?_
                  refine r_iload hX dX9_copy_114 rfl ?_
                  refine r_acopy hX dX9_copy_116 (inT_4 (List.mem_of_getElem? (i := 183) rfl) rfl) (hA.sh (q := q) (by omega)).1.2.1 (hA.sh (q := r) (by omega)).1.2.1 (by omega) (by omega) (by decide) (by decide) ⟨Nat.le_of_ble_eq_true rfl, Nat.le_of_ble_eq_true rfl⟩ (Nat.le_of_ble_eq_true rfl) ?_
                  refine r_iload hX dX9_copy_119 rfl ?_
                  exact r_ireturn hX hQ dX9_copy_121 ⟨Nat.le_of_ble_eq_true rfl, Nat.le_of_ble_eq_true rfl⟩ (PI.mk (by rw [oCopy_y hq hr (by omega) (by omega) (by omega) c1 c2 hbq hbr (by have e := c5; revert e; cases bq <;> cases br <;> decide) hcp]; exact ⟨rfl, rbc_copy hB (by omega) (by omega) (by omega) (by omega), fun c i hc => cpM_o (fun e => by rw [pBc] at hc; simp at hc; omega)⟩))
                · skip
                  refine r_ldcw hX dX9_copy_97 ko_X9_295 ?_
                  exact r_ireturn hX hQ dX9_copy_100 ⟨Nat.le_of_ble_eq_true rfl, Nat.le_of_ble_eq_true rfl⟩ (PI.mk (by rw [oCopy_i hq hr c1 c2 hbq hbr (by have e := c5; revert e; cases bq <;> cases br <;> decide) (fun e => by have z := (hr_iff hzr e.1).mpr ⟨e.2.2.1, e.2.2.2.2⟩; rw [c8] at z; cases z)]; exact ⟨rfl, hB, Ex.rf σ⟩))
          · skip
            refine r_ldc hX dX9_copy_66 ko_X9_168 ?_
            exact r_ireturn hX hQ dX9_copy_68 ⟨Nat.le_of_ble_eq_true rfl, Nat.le_of_ble_eq_true rfl⟩ (PI.mk (by rw [oCopy_k hq hr c1 c2 hbq hbr (fun e => c5 (by rw [e]))]; exact ⟨rfl, hB, Ex.rf σ⟩))
        · skip
          have hnr := none_of c4
          refine r_ldcw hX dX9_copy_49 ko_X9_291 ?_
          exact r_ireturn hX hQ dX9_copy_52 ⟨Nat.le_of_ble_eq_true rfl, Nat.le_of_ble_eq_true rfl⟩ (PI.mk (by rw [oCopy_0 hq hr c1 c2 (Or.inr hnr)]; exact ⟨rfl, hB, Ex.rf σ⟩))
    · skip
      refine r_ldc hX dX9_copy_14 ko_X9_75 ?_
      exact r_ireturn hX hQ dX9_copy_16 ⟨Nat.le_of_ble_eq_true rfl, Nat.le_of_ble_eq_true rfl⟩ (PI.mk (by rw [oCopy, if_neg (fun e => by rw [c2] at e; cases e.2)]; exact ⟨rfl, hB, Ex.rf σ⟩))

set_option maxHeartbeats 4000000 in
set_option maxRecDepth 100000 in
theorem c_X9_tell {l : Launch} {D : Ds} {L : La}  (hA : CAt L) (σ : Me) (Q : Wt) (hQw : RWc σ Q) (v : Int32) : Ct l yX9_tell cX9_tell 2 (some .int) { frames := 0, cells := 0, slots := 0, locals := 0 } D L σ [.ref (L.1 100), .int v] (PI L (fun r σ2 => r = (oTell Q v).1 ∧ RWc σ2 (oTell Q v).2 ∧ Ex pWc σ σ2)) := by
  refine Ct.of (by decide) (Nat.le_of_ble_eq_true rfl) ?_
  intro X hl hD hnl hX0 hQ
  have hX : Ok X cX9_tell RX9 "tell" { frames := 0, cells := 0, slots := 0, locals := 0 } (some .int) := hX0
  have hQ60 := hQw.2.1
  show At X L σ 0 0 [(0, .ref (L.1 100)), (1, .int v)] 0 []
  refine r_aload_n hX dX9_tell_0 rfl ?_
  refine r_getIV hX dX9_tell_1 fl_X9_55 (hA.1 100 (8, 0) rfl) rfl (nI Q.1) hQw.1 ?_
  refine r_bipush hX (nI 60) dX9_tell_4 rfl ?_
  refine r_icmpN_lt hX dX9_tell_6 (by omega) (by decide) (fun c1 => ?_) (fun c1 => ?_)
  · skip
    refine r_aload_n hX dX9_tell_12 rfl ?_
    refine r_getR hX dX9_tell_13 fl_X9_51 (hA.1 100 (8, 0) rfl) rfl (hA.2.1 100 6 109 rfl) ?_
    refine r_aload_n hX dX9_tell_16 rfl ?_
    refine r_getIV hX dX9_tell_17 fl_X9_55 (hA.1 100 (8, 0) rfl) rfl (nI Q.1) hQw.1 ?_
    refine r_iload_n hX dX9_tell_20 rfl ?_
    refine r_astN hX dX9_tell_21 (hA.1 109 (10, 60) rfl) (by decide) (by omega) ?_
    refine r_aload_n hX dX9_tell_22 rfl ?_
    refine r_dup hX dX9_tell_23 rfl ?_
    refine r_getIV hX dX9_tell_24 fl_X9_55 (hA.1 100 (8, 0) rfl) rfl (nI Q.1) (by rw [up_n (by omega)]; exact hQw.1) ?_
    refine r_iconst hX (nI 1) dX9_tell_27 rfl ?_
    refine r_iaddN hX dX9_tell_28 ?_
    refine r_putI hX dX9_tell_29 fl_X9_55 (hA.1 100 (8, 0) rfl) rfl rfl rfl rfl ?_
    refine r_aload_n hX dX9_tell_32 rfl ?_
    refine r_getIV hX dX9_tell_33 fl_X9_55 (hA.1 100 (8, 0) rfl) rfl (nI (Q.1 + 1)) up_s ?_
    exact r_ireturn hX hQ dX9_tell_36 ⟨Nat.le_of_ble_eq_true rfl, Nat.le_of_ble_eq_true rfl⟩ (PI.mk (by rw [oTell, if_neg (by omega)]; exact ⟨rfl, rwc_s hQw (by omega), Ex.up (Ex.up (Ex.rf σ) rfl) rfl⟩))
  · skip
    refine r_ldc hX dX9_tell_9 ko_X9_242 ?_
    exact r_ireturn hX hQ dX9_tell_11 ⟨Nat.le_of_ble_eq_true rfl, Nat.le_of_ble_eq_true rfl⟩ (PI.mk (by rw [oTell, if_pos (by omega)]; exact ⟨rfl, hQw, Ex.rf σ⟩))

set_option maxHeartbeats 4000000 in
set_option maxRecDepth 100000 in
theorem c_X9_count {l : Launch} {D : Ds} {L : La}  (ka : Nat) (hK : KS D ka) (hA : CAt L) (σ : Me) (A : Al) (h0 : R0 σ 200 A) (hW : RW σ 200 A) (hTx : RX' L σ 200 A) (hV : Va A) (P : Tp) (hP : RTc σ P) (Q : Wt) (hQw : RWc σ Q) (wh : Int32) : Ct l yX9_count cX9_count 2 (some .int) { frames := 3, cells := 0, slots := 0, locals := 65 } D L σ [.ref (L.1 100), .int wh] (PF L σ (oCount A P Q wh)) := by
  refine Ct.of (by decide) (Nat.le_of_ble_eq_true rfl) ?_
  intro X hl hD hnl hX0 hQ
  have hX : Ok X cX9_count RX9 "count" { frames := 3, cells := 0, slots := 0, locals := 65 } (some .int) := hX0
  have hC := hA.2.2
  have hbb := hC.2.2
  have hW24 := hV.2.2.1
  have hT6 := hV.1
  have hN12 := hV.2.1
  have hX14 := hV.2.2.2.1
  show At X L σ 0 0 [(0, .ref (L.1 100)), (1, .int wh)] 0 []
  refine r_iload_n hX dX9_count_0 rfl ?_
  by_cases e1 : wh = nI 0
  · skip
    subst e1
    refine r_tabInN (v := 0) hX 48 dX9_count_1 (by decide) (by decide) (by decide) 47 rfl (by decide) ?_
    refine r_aload_n hX dX9_count_48 rfl ?_
    refine r_getR hX dX9_count_49 fl_X9_10 (hA.1 100 (8, 0) rfl) rfl (hA.2.1 100 0 200 rfl) ?_
    refine r_getIV hX dX9_count_52 fl_X9_192 (hC.1 0 (2, 0) rfl) rfl (nI (aT A)) h0.1 ?_
    exact r_ireturn hX hQ dX9_count_55 ⟨Nat.le_of_ble_eq_true rfl, Nat.le_of_ble_eq_true rfl⟩ (PF.mk (by rw [oCount, if_pos rfl]))
  by_cases e2 : wh = nI 1
  · skip
    subst e2
    refine r_tabInN (v := 1) hX 56 dX9_count_1 (by decide) (by decide) (by decide) 55 rfl (by decide) ?_
    refine r_aload_n hX dX9_count_56 rfl ?_
    refine r_getR hX dX9_count_57 fl_X9_10 (hA.1 100 (8, 0) rfl) rfl (hA.2.1 100 0 200 rfl) ?_
    refine r_getIV hX dX9_count_60 fl_X9_107 (hC.1 0 (2, 0) rfl) rfl (nI (aN A)) h0.2.1 ?_
    exact r_ireturn hX hQ dX9_count_63 ⟨Nat.le_of_ble_eq_true rfl, Nat.le_of_ble_eq_true rfl⟩ (PF.mk (by rw [oCount, if_neg (by decide), if_pos rfl]))
  by_cases e3 : wh = nI 2
  · skip
    subst e3
    refine r_tabInN (v := 2) hX 64 dX9_count_1 (by decide) (by decide) (by decide) 63 rfl (by decide) ?_
    refine r_aload_n hX dX9_count_64 rfl ?_
    refine r_getR hX dX9_count_65 fl_X9_10 (hA.1 100 (8, 0) rfl) rfl (hA.2.1 100 0 200 rfl) ?_
    refine r_getR hX dX9_count_68 fl_X9_86 (hC.1 0 (2, 0) rfl) rfl (hC.2.1 0 5 4 rfl) ?_
    refine r_getIV hX dX9_count_71 fl_X9_176 (hC.1 4 (7, 0) rfl) rfl (nI (aW A)) hW.1 ?_
    exact r_ireturn hX hQ dX9_count_74 ⟨Nat.le_of_ble_eq_true rfl, Nat.le_of_ble_eq_true rfl⟩ (PF.mk (by rw [oCount, if_neg (by decide), if_neg (by decide), if_pos rfl]))
  by_cases e4 : wh = nI 3
  · skip
    subst e4
    refine r_tabInN (v := 3) hX 75 dX9_count_1 (by decide) (by decide) (by decide) 74 rfl (by decide) ?_
    refine r_aload_n hX dX9_count_75 rfl ?_
    refine r_getR hX dX9_count_76 fl_X9_10 (hA.1 100 (8, 0) rfl) rfl (hA.2.1 100 0 200 rfl) ?_
    refine r_getR hX dX9_count_79 fl_X9_86 (hC.1 0 (2, 0) rfl) rfl (hC.2.1 0 5 4 rfl) ?_
    refine r_callVF (As := []) (rest := []) hX (by rw [hl, hD]; exact c_X8_countTrue ka hK 200 hC σ A hW hV) dX9_count_82 cb_X9_346 (hC.1 4 (7, 0) rfl) rfl rfl ⟨Nat.le_of_ble_eq_true rfl, Nat.le_of_ble_eq_true rfl⟩ ⟨Nat.le_of_ble_eq_true rfl, Nat.le_of_ble_eq_true rfl⟩ (Nat.le_of_ble_eq_true rfl) ?_
    exact r_ireturn hX hQ dX9_count_85 ⟨Nat.le_of_ble_eq_true rfl, Nat.le_of_ble_eq_true rfl⟩ (PF.mk (by rw [oCount, if_neg (by decide), if_neg (by decide), if_neg (by decide), if_pos rfl]))
  by_cases e5 : wh = nI 4
  · skip
    subst e5
    refine r_tabInN (v := 4) hX 86 dX9_count_1 (by decide) (by decide) (by decide) 85 rfl (by decide) ?_
    refine r_aload_n hX dX9_count_86 rfl ?_
    refine r_getR hX dX9_count_87 fl_X9_10 (hA.1 100 (8, 0) rfl) rfl (hA.2.1 100 0 200 rfl) ?_
    refine r_getIV hX dX9_count_90 fl_X9_261 (hC.1 0 (2, 0) rfl) rfl (nI ((aX A).length)) h0.2.2.1 ?_
    exact r_ireturn hX hQ dX9_count_93 ⟨Nat.le_of_ble_eq_true rfl, Nat.le_of_ble_eq_true rfl⟩ (PF.mk (by rw [oCount, if_neg (by decide), if_neg (by decide), if_neg (by decide), if_neg (by decide), if_pos rfl]))
  by_cases e6 : wh = nI 5
  · skip
    subst e6
    refine r_tabInN (v := 5) hX 94 dX9_count_1 (by decide) (by decide) (by decide) 93 rfl (by decide) ?_
    refine r_aload_n hX dX9_count_94 rfl ?_
    refine r_getIV hX dX9_count_95 fl_X9_55 (hA.1 100 (8, 0) rfl) rfl (nI Q.1) hQw.1 ?_
    exact r_ireturn hX hQ dX9_count_98 ⟨Nat.le_of_ble_eq_true rfl, Nat.le_of_ble_eq_true rfl⟩ (PF.mk (by rw [oCount, if_neg (by decide), if_neg (by decide), if_neg (by decide), if_neg (by decide), if_neg (by decide), if_pos rfl]))
  by_cases e7 : wh = nI 6
  · skip
    subst e7
    refine r_tabInN (v := 6) hX 99 dX9_count_1 (by decide) (by decide) (by decide) 98 rfl (by decide) ?_
    refine r_aload_n hX dX9_count_99 rfl ?_
    refine r_getR hX dX9_count_100 fl_X9_26 (hA.1 100 (8, 0) rfl) rfl (hA.2.1 100 2 103 rfl) ?_
    refine r_getIV hX dX9_count_103 fl_X9_246 (hA.1 103 (5, 0) rfl) rfl (nI P.1) hP.1 ?_
    exact r_ireturn hX hQ dX9_count_106 ⟨Nat.le_of_ble_eq_true rfl, Nat.le_of_ble_eq_true rfl⟩ (PF.mk (by rw [oCount, if_neg (by decide), if_neg (by decide), if_neg (by decide), if_neg (by decide), if_neg (by decide), if_neg (by decide), if_pos rfl]))
  by_cases e8 : wh = nI 7
  · skip
    subst e8
    refine r_tabInN (v := 7) hX 107 dX9_count_1 (by decide) (by decide) (by decide) 106 rfl (by decide) ?_
    refine r_aload_n hX dX9_count_107 rfl ?_
    refine r_getR hX dX9_count_108 fl_X9_10 (hA.1 100 (8, 0) rfl) rfl (hA.2.1 100 0 200 rfl) ?_
    refine r_getIV hX dX9_count_111 fl_X9_243 (hC.1 0 (2, 0) rfl) rfl (aZ A) h0.2.2.2.1 ?_
    exact r_ireturn hX hQ dX9_count_114 ⟨Nat.le_of_ble_eq_true rfl, Nat.le_of_ble_eq_true rfl⟩ (PF.mk (by rw [oCount, if_neg (by decide), if_neg (by decide), if_neg (by decide), if_neg (by decide), if_neg (by decide), if_neg (by decide), if_neg (by decide), if_pos rfl]))
  refine r_tabOut hX 115 dX9_count_1 (by have := ne_toInt (by decide) e1; have := ne_toInt (by decide) e2; have := ne_toInt (by decide) e3; have := ne_toInt (by decide) e4; have := ne_toInt (by decide) e5; have := ne_toInt (by decide) e6; have := ne_toInt (by decide) e7; have := ne_toInt (by decide) e8; omega) (by decide) ?_
  refine r_ldc hX dX9_count_115 ko_X9_75 ?_
  exact r_ireturn hX hQ dX9_count_117 ⟨Nat.le_of_ble_eq_true rfl, Nat.le_of_ble_eq_true rfl⟩ (PF.mk (by rw [oCount, if_neg e1, if_neg e2, if_neg e3, if_neg e4, if_neg e5, if_neg e6, if_neg e7, if_neg e8]))

set_option maxHeartbeats 4000000 in
set_option maxRecDepth 100000 in
theorem c_X9_ask {l : Launch} {D : Ds} {L : La}  (ka : Nat) (hK : KS D ka) (hA : CAt L) (σ : Me) (Q : Ls) (hS : RSc L σ Q) (s k : Int32) : Ct l yX9_ask cX9_ask 4 (some .int) { frames := 2, cells := 0, slots := 0, locals := 42 } D L σ [.ref (L.1 100), .int s, .int k] (PF L σ (oAsk Q s k)) := by
  refine Ct.of (by decide) (Nat.le_of_ble_eq_true rfl) ?_
  intro X hl hD hnl hX0 hQ
  have hX : Ok X cX9_ask RX9 "ask" { frames := 2, cells := 0, slots := 0, locals := 42 } (some .int) := hX0
  have hN3 : 3 < xn X := by rw [hnl]; decide
  show At X L σ 0 0 [(0, .ref (L.1 100)), (1, .int s), (2, .int k)] 0 []
  refine r_iload_n hX dX9_ask_0 rfl ?_
  refine r_callSF (As := [.int s]) (rest := []) hX (c_X9_isSlot σ s) dX9_ask_1 cb_X9_321 rfl rfl ⟨Nat.le_of_ble_eq_true rfl, Nat.le_of_ble_eq_true rfl⟩ ⟨Nat.le_of_ble_eq_true rfl, Nat.le_of_ble_eq_true rfl⟩ (Nat.le_of_ble_eq_true rfl) ?_
  refine r_ifB_eq hX dX9_ask_4 (fun c1 => ?_) (fun c1 => ?_)
  · skip
    refine r_ldc hX dX9_ask_14 ko_X9_75 ?_
    exact r_ireturn hX hQ dX9_ask_16 ⟨Nat.le_of_ble_eq_true rfl, Nat.le_of_ble_eq_true rfl⟩ (PF.mk (ask_b c1).symm)
  · skip
    obtain ⟨q, hql, hq, rfl⟩ := inB_nat c1 (by decide) (by decide)
    have hq3 := (hS q (by omega)).2.1
    refine r_iload_n hX dX9_ask_7 rfl ?_
    refine r_callSF (As := [.int k]) (rest := []) hX (c_X9_isKind σ k) dX9_ask_8 cb_X9_119 rfl rfl ⟨Nat.le_of_ble_eq_true rfl, Nat.le_of_ble_eq_true rfl⟩ ⟨Nat.le_of_ble_eq_true rfl, Nat.le_of_ble_eq_true rfl⟩ (Nat.le_of_ble_eq_true rfl) ?_
    refine r_ifB_ne hX dX9_ask_11 (fun c2 => ?_) (fun c2 => ?_)
    · skip
      obtain ⟨e, hel, he, rfl⟩ := inB_nat c2 (by decide) (by decide)
      refine r_aload_n hX dX9_ask_17 rfl ?_
      refine r_getR hX dX9_ask_18 fl_X9_47 (hA.1 100 (8, 0) rfl) rfl (hA.2.1 100 5 108 rfl) ?_
      refine r_iload_n hX dX9_ask_21 rfl ?_
      refine r_aald hX dX9_ask_22 (hA.1 108 (14, 5) rfl) (by decide) (by decide) (by decide) (by omega) (.ref (L.1 (120 + 3 * q))) (by rw [(hA.sl (s := q) (by omega)).2]; rfl) ?_
      refine r_astore_n hX [(0, .ref (L.1 100)), (1, .int (nI q)), (2, .int (nI e)), (3, .ref (L.1 (120 + 3 * q)))] dX9_ask_23 hN3 rfl ?_
      refine r_aload_n hX dX9_ask_24 rfl ?_
      refine r_getIV hX dX9_ask_25 fl_X9_324 (hA.sl (s := q) (by omega)).1 rfl (nI (Q.1 q)) (hS q (by omega)).1 ?_
      refine r_ifN_ne hX dX9_ask_28 (by omega) (fun c3 => ?_) (fun c3 => ?_)
      · skip
        refine r_aload_n hX dX9_ask_35 rfl ?_
        refine r_getIV hX dX9_ask_36 fl_X9_324 (hA.sl (s := q) (by omega)).1 rfl (nI (Q.1 q)) (hS q (by omega)).1 ?_
        refine r_iconst hX (nI 1) dX9_ask_39 rfl ?_
        refine r_icmpN_ne hX dX9_ask_40 (by omega) (by decide) (fun c4 => ?_) (fun c4 => ?_)
        · skip
          refine r_ldc hX dX9_ask_54 ko_X9_168 ?_
          exact r_ireturn hX hQ dX9_ask_56 ⟨Nat.le_of_ble_eq_true rfl, Nat.le_of_ble_eq_true rfl⟩ (PF.mk (by rw [oAsk, if_pos c2, nt_is (t := 1) c1 (by omega), if_neg c3, if_neg c4, if_neg (by decide)]))
        · skip
          obtain ⟨a, ha5, ha, hb1, hb5, hk1, hk2⟩ := (hS q (by omega)).2.2.1 (by omega)
          refine r_aload_n hX dX9_ask_43 rfl ?_
          refine r_getIV hX dX9_ask_44 fl_X9_327 (hA.sl (s := q) (by omega)).1 rfl (nI a) hk1 ?_
          refine r_iload_n hX dX9_ask_47 rfl ?_
          refine r_callSF (As := [.int (nI a), .int (nI e)]) (rest := []) hX (by rw [hl, hD]; exact c_X1_isUnder ka hK σ a e (by omega) (by omega)) dX9_ask_48 cb_X9_164 rfl rfl ⟨Nat.le_of_ble_eq_true rfl, Nat.le_of_ble_eq_true rfl⟩ ⟨Nat.le_of_ble_eq_true rfl, Nat.le_of_ble_eq_true rfl⟩ (Nat.le_of_ble_eq_true rfl) ?_
          refine r_ifB_ne hX dX9_ask_51 (fun c5 => ?_) (fun c5 => ?_)
          · skip
            refine r_aload_n hX dX9_ask_57 rfl ?_
            refine r_getIV hX dX9_ask_58 fl_X9_329 (hA.sl (s := q) (by omega)).1 rfl (nI (sayN a (Q.2.2.1 q))) hk2 ?_
            exact r_ireturn hX hQ dX9_ask_61 ⟨Nat.le_of_ble_eq_true rfl, Nat.le_of_ble_eq_true rfl⟩ (PF.mk (by rw [oAsk, if_pos c2, nt_is (t := 1) c1 (by omega), if_neg c3, if_pos c4, if_pos rfl, nI_clamp (n := q) (by omega), ha, nI_clamp (n := a) (by omega), nI_clamp (n := e) (by omega), if_pos c5]))
          · skip
            refine r_ldc hX dX9_ask_54 ko_X9_168 ?_
            exact r_ireturn hX hQ dX9_ask_56 ⟨Nat.le_of_ble_eq_true rfl, Nat.le_of_ble_eq_true rfl⟩ (PF.mk (by rw [oAsk, if_pos c2, nt_is (t := 1) c1 (by omega), if_neg c3, if_pos c4, if_pos rfl, nI_clamp (n := q) (by omega), ha, nI_clamp (n := a) (by omega), nI_clamp (n := e) (by omega), if_neg (by rw [c5]; decide)]))
      · skip
        refine r_ldcw hX dX9_ask_31 ko_X9_291 ?_
        exact r_ireturn hX hQ dX9_ask_34 ⟨Nat.le_of_ble_eq_true rfl, Nat.le_of_ble_eq_true rfl⟩ (PF.mk (by rw [oAsk, if_pos c2, nt_is (t := 1) c1 (by omega), if_pos c3, if_neg (by decide)]))
    · skip
      refine r_ldc hX dX9_ask_14 ko_X9_75 ?_
      exact r_ireturn hX hQ dX9_ask_16 ⟨Nat.le_of_ble_eq_true rfl, Nat.le_of_ble_eq_true rfl⟩ (PF.mk (by rw [oAsk, if_neg (fun e => by rw [c2] at e; cases e)]))

set_option maxHeartbeats 4000000 in
set_option maxRecDepth 100000 in
theorem c_X9_item {l : Launch} {D : Ds} {L : La}  (hN : NL D) (hA : CAt L) (σ : Me) (Q : Ls) (hS : RSc L σ Q) (s p : Int32) : Ct l yX9_item cX9_item 5 (some .int) { frames := 2, cells := 0, slots := 0, locals := 43 } D L σ [.ref (L.1 100), .int s, .int p] (PF L σ (oItem Q s p)) := by
  refine Ct.of (by decide) (Nat.le_of_ble_eq_true rfl) ?_
  intro X hl hD hnl hX0 hQ
  have hX : Ok X cX9_item RX9 "item" { frames := 2, cells := 0, slots := 0, locals := 43 } (some .int) := hX0
  have hN3 : 3 < xn X := by rw [hnl]; decide
  have hN4 : 4 < xn X := by rw [hnl]; decide
  show At X L σ 0 0 [(0, .ref (L.1 100)), (1, .int s), (2, .int p)] 0 []
  refine r_iload_n hX dX9_item_0 rfl ?_
  refine r_callSF (As := [.int s]) (rest := []) hX (c_X9_isSlot σ s) dX9_item_1 cb_X9_321 rfl rfl ⟨Nat.le_of_ble_eq_true rfl, Nat.le_of_ble_eq_true rfl⟩ ⟨Nat.le_of_ble_eq_true rfl, Nat.le_of_ble_eq_true rfl⟩ (Nat.le_of_ble_eq_true rfl) ?_
  refine r_ifB_ne hX dX9_item_4 (fun c1 => ?_) (fun c1 => ?_)
  · skip
    obtain ⟨q, hql, hq, rfl⟩ := inB_nat c1 (by decide) (by decide)
    have hq3 := (hS q (by omega)).2.1
    refine r_aload_n hX dX9_item_10 rfl ?_
    refine r_getR hX dX9_item_11 fl_X9_47 (hA.1 100 (8, 0) rfl) rfl (hA.2.1 100 5 108 rfl) ?_
    refine r_iload_n hX dX9_item_14 rfl ?_
    refine r_aald hX dX9_item_15 (hA.1 108 (14, 5) rfl) (by decide) (by decide) (by decide) (by omega) (.ref (L.1 (120 + 3 * q))) (by rw [(hA.sl (s := q) (by omega)).2]; rfl) ?_
    refine r_astore_n hX [(0, .ref (L.1 100)), (1, .int (nI q)), (2, .int p), (3, .ref (L.1 (120 + 3 * q)))] dX9_item_16 hN3 rfl ?_
    refine r_aload_n hX dX9_item_17 rfl ?_
    refine r_getIV hX dX9_item_18 fl_X9_324 (hA.sl (s := q) (by omega)).1 rfl (nI (Q.1 q)) (hS q (by omega)).1 ?_
    refine r_ifN_ne hX dX9_item_21 (by omega) (fun c2 => ?_) (fun c2 => ?_)
    · skip
      refine r_aload_n hX dX9_item_28 rfl ?_
      refine r_getIV hX dX9_item_29 fl_X9_324 (hA.sl (s := q) (by omega)).1 rfl (nI (Q.1 q)) (hS q (by omega)).1 ?_
      refine r_iconst hX (nI 2) dX9_item_32 rfl ?_
      refine r_icmpN_ne hX dX9_item_33 (by omega) (by decide) (fun c3 => ?_) (fun c3 => ?_)
      · skip
        refine r_ldc hX dX9_item_43 ko_X9_168 ?_
        exact r_ireturn hX hQ dX9_item_45 ⟨Nat.le_of_ble_eq_true rfl, Nat.le_of_ble_eq_true rfl⟩ (PF.mk (by rw [oItem, nt_is (t := 2) c1 (by omega), if_neg c2, if_neg c3, if_neg (by decide)]))
      · skip
        obtain ⟨a, ha24, ha, g2, g3, g4, g5⟩ := (hS q (by omega)).2.2.2.1 (by omega)
        refine r_aload_n hX dX9_item_36 rfl ?_
        refine r_getR hX dX9_item_37 fl_X9_339 (hA.sl (s := q) (by omega)).1 rfl g2 ?_
        refine r_ifnonnull hX dX9_item_40 ?_
        refine r_aload_n hX dX9_item_46 rfl ?_
        refine r_getR hX dX9_item_47 fl_X9_339 (hA.sl (s := q) (by omega)).1 rfl g2 ?_
        refine r_iload_n hX dX9_item_50 rfl ?_
        refine r_callVF (As := [.int p]) (rest := []) hX (by rw [hl, hD]; exact c_X4_has hN σ (121 + 3 * q) g3 a g4 p) dX9_item_51 cb_X9_292 g3.1 rfl rfl ⟨Nat.le_of_ble_eq_true rfl, Nat.le_of_ble_eq_true rfl⟩ ⟨Nat.le_of_ble_eq_true rfl, Nat.le_of_ble_eq_true rfl⟩ (Nat.le_of_ble_eq_true rfl) ?_
        refine r_ifB_ne hX dX9_item_54 (fun c4 => ?_) (fun c4 => ?_)
        · skip
          obtain ⟨u, hu, rfl⟩ := isB_nat c4 (by omega)
          refine r_aload_n hX dX9_item_61 rfl ?_
          refine r_getR hX dX9_item_62 fl_X9_339 (hA.sl (s := q) (by omega)).1 rfl g2 ?_
          refine r_getR hX dX9_item_65 fl_X9_299 g3.1 rfl g3.2.2 ?_
          refine r_iload_n hX dX9_item_68 rfl ?_
          refine r_aldN hX dX9_item_69 g3.2.1 (by decide) (by omega) (Q.2.2.2 q u) (g5 u (by omega)) ?_
          refine r_istore hX [(0, .ref (L.1 100)), (1, .int (nI q)), (2, .int (nI u)), (3, .ref (L.1 (120 + 3 * q))), (4, .int (Q.2.2.2 q u))] dX9_item_70 hN4 rfl ?_
          refine r_iload hX dX9_item_72 rfl ?_
          refine r_ldc hX dX9_item_74 ko_X9_195 ?_
          refine r_icmp_ne hX dX9_item_76 (fun c5 => ?_) (fun c5 => ?_)
          · skip
            refine r_iload hX dX9_item_84 rfl ?_
            exact r_ireturn hX hQ dX9_item_86 ⟨Nat.le_of_ble_eq_true rfl, Nat.le_of_ble_eq_true rfl⟩ (PF.mk (by rw [oItem, nt_is (t := 2) c1 (by omega), if_neg c2, if_pos c3, if_pos rfl, nI_clamp (n := q) (by omega), ha, nI_clamp (n := a) (by omega), if_pos c4, nI_clamp (n := u) (by omega), if_neg c5]))
          · skip
            refine r_ldc hX dX9_item_79 ko_X9_168 ?_
            refine r_goto hX dX9_item_81 ?_
            exact r_ireturn hX hQ dX9_item_86 ⟨Nat.le_of_ble_eq_true rfl, Nat.le_of_ble_eq_true rfl⟩ (PF.mk (by rw [oItem, nt_is (t := 2) c1 (by omega), if_neg c2, if_pos c3, if_pos rfl, nI_clamp (n := q) (by omega), ha, nI_clamp (n := a) (by omega), if_pos c4, nI_clamp (n := u) (by omega), if_pos c5]))
        · skip
          refine r_ldcw hX dX9_item_57 ko_X9_295 ?_
          exact r_ireturn hX hQ dX9_item_60 ⟨Nat.le_of_ble_eq_true rfl, Nat.le_of_ble_eq_true rfl⟩ (PF.mk (by rw [oItem, nt_is (t := 2) c1 (by omega), if_neg c2, if_pos c3, if_pos rfl, nI_clamp (n := q) (by omega), ha, nI_clamp (n := a) (by omega), if_neg (fun e => by rw [c4] at e; cases e)]))
    · skip
      refine r_ldcw hX dX9_item_24 ko_X9_291 ?_
      exact r_ireturn hX hQ dX9_item_27 ⟨Nat.le_of_ble_eq_true rfl, Nat.le_of_ble_eq_true rfl⟩ (PF.mk (by rw [oItem, nt_is (t := 2) c1 (by omega), if_pos c2, if_neg (by decide)]))
  · skip
    refine r_ldc hX dX9_item_7 ko_X9_75 ?_
    exact r_ireturn hX hQ dX9_item_9 ⟨Nat.le_of_ble_eq_true rfl, Nat.le_of_ble_eq_true rfl⟩ (PF.mk (item_b c1).symm)

set_option maxHeartbeats 4000000 in
set_option maxRecDepth 100000 in
theorem c_X9_rest {l : Launch} {D : Ds} {L : La}  (hA : CAt L) (σ : Me) (Q : Ls) (hS : RSc L σ Q) (s n : Int32) : Ct l yX9_rest cX9_rest 4 (some .int) { frames := 2, cells := 0, slots := 0, locals := 42 } D L σ [.ref (L.1 100), .int s, .int n] (PF L σ (oRest Q s n)) := by
  refine Ct.of (by decide) (Nat.le_of_ble_eq_true rfl) ?_
  intro X hl hD hnl hX0 hQ
  have hX : Ok X cX9_rest RX9 "rest" { frames := 2, cells := 0, slots := 0, locals := 42 } (some .int) := hX0
  have hN3 : 3 < xn X := by rw [hnl]; decide
  show At X L σ 0 0 [(0, .ref (L.1 100)), (1, .int s), (2, .int n)] 0 []
  refine r_iload_n hX dX9_rest_0 rfl ?_
  refine r_callSF (As := [.int s]) (rest := []) hX (c_X9_isSlot σ s) dX9_rest_1 cb_X9_321 rfl rfl ⟨Nat.le_of_ble_eq_true rfl, Nat.le_of_ble_eq_true rfl⟩ ⟨Nat.le_of_ble_eq_true rfl, Nat.le_of_ble_eq_true rfl⟩ (Nat.le_of_ble_eq_true rfl) ?_
  refine r_ifB_ne hX dX9_rest_4 (fun c1 => ?_) (fun c1 => ?_)
  · skip
    obtain ⟨q, hql, hq, rfl⟩ := inB_nat c1 (by decide) (by decide)
    have hq3 := (hS q (by omega)).2.1
    refine r_aload_n hX dX9_rest_10 rfl ?_
    refine r_getR hX dX9_rest_11 fl_X9_47 (hA.1 100 (8, 0) rfl) rfl (hA.2.1 100 5 108 rfl) ?_
    refine r_iload_n hX dX9_rest_14 rfl ?_
    refine r_aald hX dX9_rest_15 (hA.1 108 (14, 5) rfl) (by decide) (by decide) (by decide) (by omega) (.ref (L.1 (120 + 3 * q))) (by rw [(hA.sl (s := q) (by omega)).2]; rfl) ?_
    refine r_astore_n hX [(0, .ref (L.1 100)), (1, .int (nI q)), (2, .int n), (3, .ref (L.1 (120 + 3 * q)))] dX9_rest_16 hN3 rfl ?_
    refine r_aload_n hX dX9_rest_17 rfl ?_
    refine r_getIV hX dX9_rest_18 fl_X9_324 (hA.sl (s := q) (by omega)).1 rfl (nI (Q.1 q)) (hS q (by omega)).1 ?_
    refine r_ifN_ne hX dX9_rest_21 (by omega) (fun c2 => ?_) (fun c2 => ?_)
    · skip
      refine r_aload_n hX dX9_rest_28 rfl ?_
      refine r_getIV hX dX9_rest_29 fl_X9_324 (hA.sl (s := q) (by omega)).1 rfl (nI (Q.1 q)) (hS q (by omega)).1 ?_
      refine r_iconst hX (nI 3) dX9_rest_32 rfl ?_
      refine r_icmpN_eq hX dX9_rest_33 (by omega) (by decide) (fun c3 => ?_) (fun c3 => ?_)
      · skip
        refine r_iload_n hX dX9_rest_39 rfl ?_
        refine r_if_ne hX dX9_rest_40 (fun c4 => ?_) (fun c4 => ?_)
        · skip
          refine r_aload_n hX dX9_rest_48 rfl ?_
          refine r_getIV hX dX9_rest_49 fl_X9_336 (hA.sl (s := q) (by omega)).1 rfl (Q.2.1 q) ((hS q (by omega)).2.2.2.2 c3) ?_
          refine r_iload_n hX dX9_rest_52 rfl ?_
          refine r_irem hX dX9_rest_53 (by assumption) ?_
          exact r_ireturn hX hQ dX9_rest_54 ⟨Nat.le_of_ble_eq_true rfl, Nat.le_of_ble_eq_true rfl⟩ (PF.mk (by rw [oRest, nt_is (t := 3) c1 (by omega), if_neg c2, if_pos c3, if_pos rfl, if_neg (show ¬ n = nI 0 from c4), nI_clamp (n := q) (by omega)]; exact rem_if _ _))
        · skip
          refine r_ldc hX dX9_rest_43 ko_X9_236 ?_
          refine r_goto hX dX9_rest_45 ?_
          exact r_ireturn hX hQ dX9_rest_54 ⟨Nat.le_of_ble_eq_true rfl, Nat.le_of_ble_eq_true rfl⟩ (PF.mk (by rw [oRest, nt_is (t := 3) c1 (by omega), if_neg c2, if_pos c3, if_pos rfl, if_pos (show n = nI 0 from c4)]))
      · skip
        refine r_ldc hX dX9_rest_36 ko_X9_168 ?_
        exact r_ireturn hX hQ dX9_rest_38 ⟨Nat.le_of_ble_eq_true rfl, Nat.le_of_ble_eq_true rfl⟩ (PF.mk (by rw [oRest, nt_is (t := 3) c1 (by omega), if_neg c2, if_neg c3, if_neg (by decide)]))
    · skip
      refine r_ldcw hX dX9_rest_24 ko_X9_291 ?_
      exact r_ireturn hX hQ dX9_rest_27 ⟨Nat.le_of_ble_eq_true rfl, Nat.le_of_ble_eq_true rfl⟩ (PF.mk (by rw [oRest, nt_is (t := 3) c1 (by omega), if_pos c2, if_neg (by decide)]))
  · skip
    refine r_ldc hX dX9_rest_7 ko_X9_75 ?_
    exact r_ireturn hX hQ dX9_rest_9 ⟨Nat.le_of_ble_eq_true rfl, Nat.le_of_ble_eq_true rfl⟩ (PF.mk (rest_b c1).symm)
