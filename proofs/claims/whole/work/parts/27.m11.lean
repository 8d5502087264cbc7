set_option maxHeartbeats 4000000 in
set_option maxRecDepth 100000 in
theorem c_X10_feed {l : Launch} {D : Ds} {L : La} (hM : MAt L) (σ : Me) (P : Tp) (hP : RT σ P) (a b c : Int32) : Ct l yX10_feed cX10_feed 6 (some .int) { frames := 0, cells := 0, slots := 0, locals := 0 } D L σ [.ref (L.1 0), .int a, .int b, .int c] (PI L (fun r σ2 => r = (oFeed P a b c).1 ∧ RT σ2 (oFeed P a b c).2 ∧ Ex pT σ σ2)) := by
  refine Ct.of (by decide) (Nat.le_of_ble_eq_true rfl) ?_
  intro X hl hD hnl hX0 hQ
  have hX : Ok X cX10_feed RX10 "feed" { frames := 0, cells := 0, slots := 0, locals := 0 } (some .int) := hX0
  have hN4 : 4 < xn X := by rw [hnl]; decide
  have hN5 : 5 < xn X := by rw [hnl]; decide
  have hP96 := hP.2.1
  show At X L σ 0 0 [(0, .ref (L.1 0)), (1, .int a), (2, .int b), (3, .int c)] 0 []
  refine r_aload_n hX dX10_feed_0 rfl ?_
  refine r_getIV hX dX10_feed_1 fl_X10_233 (hM.1 0 (9, 0) rfl) rfl (nI P.1) hP.1 ?_
  refine r_bipush hX (nI 12) dX10_feed_4 rfl ?_
  refine r_iaddN hX dX10_feed_6 ?_
  refine r_bipush hX (nI 96) dX10_feed_7 rfl ?_
  refine r_icmpN_le hX dX10_feed_9 (by omega) (by decide) (fun c1 => ?_) (fun c1 => ?_)
  · skip
    refine r_iconst hX (nI 0) dX10_feed_15 rfl ?_
    refine r_istore hX [(0, .ref (L.1 0)), (1, .int a), (2, .int b), (3, .int c), (4, .int (nI 0))] dX10_feed_16 hN4 rfl ?_
    have P2 : ∀ k, k ≤ 12 → ∀ (σk : Me) (hPk : RT σk (fdK P a b c k)) (hEk : Ex pT σ σk), At X L σk 0 0 [(0, .ref (L.1 0)), (1, .int a), (2, .int b), (3, .int c), (4, .int (nI k))] 18 [] := by
      refine loopUp 12 ?_ ?_
      · skip
        intro σk hPk hEk
        refine r_iload hX dX10_feed_18 rfl ?_
        refine r_bipush hX (nI 12) dX10_feed_20 rfl ?_
        refine r_icmpN_ge hX dX10_feed_22 (by decide) (by decide) (fun c3 => ?_) (fun c3 => absurd c3 (by decide))
        refine r_aload_n hX dX10_feed_91 rfl ?_
        refine r_getIV hX dX10_feed_92 fl_X10_233 (hM.1 0 (9, 0) rfl) rfl (nI (P.1 + 12)) hPk.1 ?_
        exact r_ireturn hX hQ dX10_feed_95 ⟨Nat.le_of_ble_eq_true rfl, Nat.le_of_ble_eq_true rfl⟩ (PI.mk (by rw [oFeed, if_pos (by omega)]; exact ⟨rfl, hPk, hEk⟩))
      · skip
        intro k hk ih4 σk hPk hEk
        refine r_iload hX dX10_feed_18 rfl ?_
        refine r_bipush hX (nI 12) dX10_feed_20 rfl ?_
        refine r_icmpN_ge hX dX10_feed_22 (by omega) (by decide) (fun c5 => absurd c5 (by omega)) (fun c5 => ?_)
        refine r_iload hX dX10_feed_25 rfl ?_
        refine r_iconst hX (nI 4) dX10_feed_27 rfl ?_
        refine r_icmpN_ge hX dX10_feed_28 (by omega) (by decide) (fun c6 => ?_) (fun c6 => ?_)
        · skip
          refine r_iload hX dX10_feed_35 rfl ?_
          refine r_bipush hX (nI 8) dX10_feed_37 rfl ?_
          refine r_icmpN_ge hX dX10_feed_39 (by omega) (by decide) (fun c7 => ?_) (fun c7 => ?_)
          · skip
            refine r_iload_n hX dX10_feed_46 rfl ?_
            refine r_istore hX [(0, .ref (L.1 0)), (1, .int a), (2, .int b), (3, .int c), (4, .int (nI k)), (5, .int c)] dX10_feed_47 hN5 rfl ?_
            refine r_aload_n hX dX10_feed_49 rfl ?_
            refine r_getR hX dX10_feed_50 fl_X10_19 (hM.1 0 (9, 0) rfl) rfl (hM.2 4 4 rfl) ?_
            refine r_aload_n hX dX10_feed_53 rfl ?_
            refine r_getIV hX dX10_feed_54 fl_X10_233 (hM.1 0 (9, 0) rfl) rfl (nI (P.1 + k)) hPk.1 ?_
            refine r_iload hX dX10_feed_57 rfl ?_
            refine r_bipush hX (nI 24) dX10_feed_59 rfl ?_
            refine r_bipush hX (nI 8) dX10_feed_61 rfl ?_
            refine r_iload hX dX10_feed_63 rfl ?_
            refine r_iconst hX (nI 4) dX10_feed_65 rfl ?_
            refine r_iremN hX dX10_feed_66 (by omega) (by decide) (by decide) ?_
            refine r_imulN hX dX10_feed_67 ?_
            refine r_isubN hX dX10_feed_68 (by omega) ?_
            refine r_ishr hX dX10_feed_69 ?_
            refine r_sipush hX (nI 255) dX10_feed_70 rfl ?_
            refine r_iand hX dX10_feed_73 ?_
            have hby : ((c >>> ((nI (24 - (8 * (k % 4)))) &&& 31)) &&& (nI 255)) = nI (by12 a b c k) := by unfold by12; rw [if_neg (by omega), if_neg (by omega)]; exact bnI_eq c (k % 4)
            rw [hby]
            refine r_astN hX dX10_feed_74 (hM.1 4 (10, 96) rfl) (by decide) (by omega) ?_
            refine r_aload_n hX dX10_feed_75 rfl ?_
            refine r_dup hX dX10_feed_76 rfl ?_
            refine r_getIV hX dX10_feed_77 fl_X10_233 (hM.1 0 (9, 0) rfl) rfl (nI (P.1 + k)) (by rw [up_n (by omega)]; exact hPk.1) ?_
            refine r_iconst hX (nI 1) dX10_feed_80 rfl ?_
            refine r_iaddN hX dX10_feed_81 ?_
            refine r_putI hX dX10_feed_82 fl_X10_233 (hM.1 0 (9, 0) rfl) rfl rfl rfl rfl ?_
            refine r_iincN (n := 1) hX [(0, .ref (L.1 0)), (1, .int a), (2, .int b), (3, .int c), (4, .int (nI (k + 1))), (5, .int c)] dX10_feed_85 rfl hN4 rfl ?_
            refine r_goto hX dX10_feed_88 ?_
            exact At.less (At.to (ls := [(0, .ref (L.1 0)), (1, .int a), (2, .int b), (3, .int c), (4, .int (nI (k + 1)))]) (ih4 _ (rt_fd hPk (by omega) up_s (by rw [up_n (by omega), up_s]) (fun j h => by rw [up_n (by omega), up_n (by omega)])) (Ex.up (Ex.up hEk rfl) rfl)) rfl rfl rfl) (by simp)
          · skip
            refine r_iload_n hX dX10_feed_42 rfl ?_
            refine r_goto hX dX10_feed_43 ?_
            refine r_istore hX [(0, .ref (L.1 0)), (1, .int a), (2, .int b), (3, .int c), (4, .int (nI k)), (5, .int b)] dX10_feed_47 hN5 rfl ?_
            refine r_aload_n hX dX10_feed_49 rfl ?_
            refine r_getR hX dX10_feed_50 fl_X10_19 (hM.1 0 (9, 0) rfl) rfl (hM.2 4 4 rfl) ?_
            refine r_aload_n hX dX10_feed_53 rfl ?_
            refine r_getIV hX dX10_feed_54 fl_X10_233 (hM.1 0 (9, 0) rfl) rfl (nI (P.1 + k)) hPk.1 ?_
            refine r_iload hX dX10_feed_57 rfl ?_
            refine r_bipush hX (nI 24) dX10_feed_59 rfl ?_
            refine r_bipush hX (nI 8) dX10_feed_61 rfl ?_
            refine r_iload hX dX10_feed_63 rfl ?_
            refine r_iconst hX (nI 4) dX10_feed_65 rfl ?_
            refine r_iremN hX dX10_feed_66 (by omega) (by decide) (by decide) ?_
            refine r_imulN hX dX10_feed_67 ?_
            refine r_isubN hX dX10_feed_68 (by omega) ?_
            refine r_ishr hX dX10_feed_69 ?_
            refine r_sipush hX (nI 255) dX10_feed_70 rfl ?_
            refine r_iand hX dX10_feed_73 ?_
            have hby : ((b >>> ((nI (24 - (8 * (k % 4)))) &&& 31)) &&& (nI 255)) = nI (by12 a b c k) := by unfold by12; rw [if_neg (by omega), if_pos c7]; exact bnI_eq b (k % 4)
            rw [hby]
            refine r_astN hX dX10_feed_74 (hM.1 4 (10, 96) rfl) (by decide) (by omega) ?_
            refine r_aload_n hX dX10_feed_75 rfl ?_
            refine r_dup hX dX10_feed_76 rfl ?_
            refine r_getIV hX dX10_feed_77 fl_X10_233 (hM.1 0 (9, 0) rfl) rfl (nI (P.1 + k)) (by rw [up_n (by omega)]; exact hPk.1) ?_
            refine r_iconst hX (nI 1) dX10_feed_80 rfl ?_
            refine r_iaddN hX dX10_feed_81 ?_
            refine r_putI hX dX10_feed_82 fl_X10_233 (hM.1 0 (9, 0) rfl) rfl rfl rfl rfl ?_
            refine r_iincN (n := 1) hX [(0, .ref (L.1 0)), (1, .int a), (2, .int b), (3, .int c), (4, .int (nI (k + 1))), (5, .int b)] dX10_feed_85 rfl hN4 rfl ?_
            refine r_goto hX dX10_feed_88 ?_
            exact At.less (At.to (ls := [(0, .ref (L.1 0)), (1, .int a), (2, .int b), (3, .int c), (4, .int (nI (k + 1)))]) (ih4 _ (rt_fd hPk (by omega) up_s (by rw [up_n (by omega), up_s]) (fun j h => by rw [up_n (by omega), up_n (by omega)])) (Ex.up (Ex.up hEk rfl) rfl)) rfl rfl rfl) (by simp)
        · skip
          refine r_iload_n hX dX10_feed_31 rfl ?_
          refine r_goto hX dX10_feed_32 ?_
          refine r_istore hX [(0, .ref (L.1 0)), (1, .int a), (2, .int b), (3, .int c), (4, .int (nI k)), (5, .int a)] dX10_feed_47 hN5 rfl ?_
          refine r_aload_n hX dX10_feed_49 rfl ?_
          refine r_getR hX dX10_feed_50 fl_X10_19 (hM.1 0 (9, 0) rfl) rfl (hM.2 4 4 rfl) ?_
          refine r_aload_n hX dX10_feed_53 rfl ?_
          refine r_getIV hX dX10_feed_54 fl_X10_233 (hM.1 0 (9, 0) rfl) rfl (nI (P.1 + k)) hPk.1 ?_
          refine r_iload hX dX10_feed_57 rfl ?_
          refine r_bipush hX (nI 24) dX10_feed_59 rfl ?_
          refine r_bipush hX (nI 8) dX10_feed_61 rfl ?_
          refine r_iload hX dX10_feed_63 rfl ?_
          refine r_iconst hX (nI 4) dX10_feed_65 rfl ?_
          refine r_iremN hX dX10_feed_66 (by omega) (by decide) (by decide) ?_
          refine r_imulN hX dX10_feed_67 ?_
          refine r_isubN hX dX10_feed_68 (by omega) ?_
          refine r_ishr hX dX10_feed_69 ?_
          refine r_sipush hX (nI 255) dX10_feed_70 rfl ?_
          refine r_iand hX dX10_feed_73 ?_
          have hby : ((a >>> ((nI (24 - (8 * (k % 4)))) &&& 31)) &&& (nI 255)) = nI (by12 a b c k) := by unfold by12; rw [if_pos c6]; exact bnI_eq a (k % 4)
          rw [hby]
          refine r_astN hX dX10_feed_74 (hM.1 4 (10, 96) rfl) (by decide) (by omega) ?_
          refine r_aload_n hX dX10_feed_75 rfl ?_
          refine r_dup hX dX10_feed_76 rfl ?_
          refine r_getIV hX dX10_feed_77 fl_X10_233 (hM.1 0 (9, 0) rfl) rfl (nI (P.1 + k)) (by rw [up_n (by omega)]; exact hPk.1) ?_
          refine r_iconst hX (nI 1) dX10_feed_80 rfl ?_
          refine r_iaddN hX dX10_feed_81 ?_
          refine r_putI hX dX10_feed_82 fl_X10_233 (hM.1 0 (9, 0) rfl) rfl rfl rfl rfl ?_
          refine r_iincN (n := 1) hX [(0, .ref (L.1 0)), (1, .int a), (2, .int b), (3, .int c), (4, .int (nI (k + 1))), (5, .int a)] dX10_feed_85 rfl hN4 rfl ?_
          refine r_goto hX dX10_feed_88 ?_
          exact At.less (At.to (ls := [(0, .ref (L.1 0)), (1, .int a), (2, .int b), (3, .int c), (4, .int (nI (k + 1)))]) (ih4 _ (rt_fd hPk (by omega) up_s (by rw [up_n (by omega), up_s]) (fun j h => by rw [up_n (by omega), up_n (by omega)])) (Ex.up (Ex.up hEk rfl) rfl)) rfl rfl rfl) (by simp)
    exact At.to (P2 0 (Nat.zero_le _) σ (rt_0 a b c hP) (Ex.rf σ)) rfl rfl rfl
  · skip
    refine r_ldc hX dX10_feed_12 ko_X10_73 ?_
    exact r_ireturn hX hQ dX10_feed_14 ⟨Nat.le_of_ble_eq_true rfl, Nat.le_of_ble_eq_true rfl⟩ (PI.mk (by rw [oFeed, if_neg (by omega)]; exact ⟨rfl, hP, Ex.rf σ⟩))

set_option maxHeartbeats 4000000 in
set_option maxRecDepth 100000 in
theorem c_X10_trim {l : Launch} {D : Ds} {L : La} (hM : MAt L) (σ : Me) (P : Tp) (hP : RT σ P) (n : Int32) : Ct l yX10_trim cX10_trim 2 (some .int) { frames := 1, cells := 0, slots := 0, locals := 22 } D L σ [.ref (L.1 0), .int n] (PI L (fun r σ2 => r = (oTrim P n).1 ∧ RT σ2 (oTrim P n).2 ∧ Ex pT σ σ2)) := by
  refine Ct.of (by decide) (Nat.le_of_ble_eq_true rfl) ?_
  intro X hl hD hnl hX0 hQ
  have hX : Ok X cX10_trim RX10 "trim" { frames := 1, cells := 0, slots := 0, locals := 22 } (some .int) := hX0
  have hP96 := hP.2.1
  show At X L σ 0 0 [(0, .ref (L.1 0)), (1, .int n)] 0 []
  refine r_iload_n hX dX10_trim_0 rfl ?_
  refine r_iconst hX (nI 0) dX10_trim_1 rfl ?_
  refine r_aload_n hX dX10_trim_2 rfl ?_
  refine r_getIV hX dX10_trim_3 fl_X10_233 (hM.1 0 (9, 0) rfl) rfl (nI P.1) hP.1 ?_
  refine r_callSF (As := [.int n, .int (nI 0), .int (nI P.1)]) (rest := []) hX (c_X10_in σ n (nI 0) (nI P.1)) dX10_trim_6 cb_X10_68 rfl rfl ⟨Nat.le_of_ble_eq_true rfl, Nat.le_of_ble_eq_true rfl⟩ ⟨Nat.le_of_ble_eq_true rfl, Nat.le_of_ble_eq_true rfl⟩ (Nat.le_of_ble_eq_true rfl) ?_
  refine r_ifB_ne hX dX10_trim_9 (fun c1 => ?_) (fun c1 => ?_)
  · skip
    obtain ⟨q, hql, hq, rfl⟩ := inB_nat c1 (by decide) (by omega)
    refine r_aload_n hX dX10_trim_15 rfl ?_
    refine r_iload_n hX dX10_trim_16 rfl ?_
    refine r_putI hX dX10_trim_17 fl_X10_233 (hM.1 0 (9, 0) rfl) rfl rfl rfl rfl ?_
    refine r_iload_n hX dX10_trim_20 rfl ?_
    exact r_ireturn hX hQ dX10_trim_21 ⟨Nat.le_of_ble_eq_true rfl, Nat.le_of_ble_eq_true rfl⟩ (PI.mk (by rw [oTrim, if_pos c1, nI_clamp (by omega)]; exact ⟨rfl, ⟨up_s, by show q ≤ 96; omega, fun k hk => by rw [up_n (by omega)]; exact hP.2.2 k (by have : k < q := hk; omega)⟩, Ex.up (Ex.rf σ) rfl⟩))
  · skip
    refine r_ldc hX dX10_trim_12 ko_X10_72 ?_
    exact r_ireturn hX hQ dX10_trim_14 ⟨Nat.le_of_ble_eq_true rfl, Nat.le_of_ble_eq_true rfl⟩ (PI.mk (by rw [oTrim, if_neg (by rw [c1]; decide)]; exact ⟨rfl, hP, Ex.rf σ⟩))

set_option maxHeartbeats 4000000 in
set_option maxRecDepth 100000 in
theorem c_X10_tell {l : Launch} {D : Ds} {L : La} (hM : MAt L) (σ : Me) (Q : Wt) (hQw : RWt σ Q) (v : Int32) : Ct l yX10_tell cX10_tell 2 (some .int) { frames := 0, cells := 0, slots := 0, locals := 0 } D L σ [.ref (L.1 0), .int v] (PI L (fun r σ2 => r = (oTell Q v).1 ∧ RWt σ2 (oTell Q v).2 ∧ Ex pW σ σ2)) := by
  refine Ct.of (by decide) (Nat.le_of_ble_eq_true rfl) ?_
  intro X hl hD hnl hX0 hQ
  have hX : Ok X cX10_tell RX10 "tell" { frames := 0, cells := 0, slots := 0, locals := 0 } (some .int) := hX0
  have hQ60 := hQw.2.1
  show At X L σ 0 0 [(0, .ref (L.1 0)), (1, .int v)] 0 []
  refine r_aload_n hX dX10_tell_0 rfl ?_
  refine r_getIV hX dX10_tell_1 fl_X10_360 (hM.1 0 (9, 0) rfl) rfl (nI Q.1) hQw.1 ?_
  refine r_bipush hX (nI 60) dX10_tell_4 rfl ?_
  refine r_icmpN_ne hX dX10_tell_6 (by omega) (by decide) (fun c1 => ?_) (fun c1 => ?_)
  · skip
    refine r_aload_n hX dX10_tell_12 rfl ?_
    refine r_getR hX dX10_tell_13 fl_X10_22 (hM.1 0 (9, 0) rfl) rfl (hM.2 6 5 rfl) ?_
    refine r_aload_n hX dX10_tell_16 rfl ?_
    refine r_getIV hX dX10_tell_17 fl_X10_360 (hM.1 0 (9, 0) rfl) rfl (nI Q.1) hQw.1 ?_
    refine r_iload_n hX dX10_tell_20 rfl ?_
    refine r_astN hX dX10_tell_21 (hM.1 5 (10, 60) rfl) (by decide) (by omega) ?_
    refine r_aload_n hX dX10_tell_22 rfl ?_
    refine r_dup hX dX10_tell_23 rfl ?_
    refine r_getIV hX dX10_tell_24 fl_X10_360 (hM.1 0 (9, 0) rfl) rfl (nI Q.1) (by rw [up_n (by omega)]; exact hQw.1) ?_
    refine r_iconst hX (nI 1) dX10_tell_27 rfl ?_
    refine r_iaddN hX dX10_tell_28 ?_
    refine r_putI hX dX10_tell_29 fl_X10_360 (hM.1 0 (9, 0) rfl) rfl rfl rfl rfl ?_
    refine r_aload_n hX dX10_tell_32 rfl ?_
    refine r_getIV hX dX10_tell_33 fl_X10_360 (hM.1 0 (9, 0) rfl) rfl (nI (Q.1 + 1)) up_s ?_
    exact r_ireturn hX hQ dX10_tell_36 ⟨Nat.le_of_ble_eq_true rfl, Nat.le_of_ble_eq_true rfl⟩ (PI.mk (by rw [oTell, if_neg c1]; exact ⟨rfl, ⟨up_s, by show Q.1 + 1 ≤ 60; omega, fun k hk => wt_s hQw k hk⟩, Ex.up (Ex.up (Ex.rf σ) rfl) rfl⟩))
  · skip
    refine r_ldc hX dX10_tell_9 ko_X10_73 ?_
    exact r_ireturn hX hQ dX10_tell_11 ⟨Nat.le_of_ble_eq_true rfl, Nat.le_of_ble_eq_true rfl⟩ (PI.mk (by rw [oTell, if_pos c1]; exact ⟨rfl, hQw, Ex.rf σ⟩))

set_option maxHeartbeats 4000000 in
set_option maxRecDepth 100000 in
theorem c_X10_textTold {l : Launch} {D : Ds} {L : La} (hM : MAt L) (σ : Me) (A : Al) (hR : RM (σ 1) A) (hV : Va A) (v wh : Int32) : Ct l yX10_textTold cX10_textTold 3 (some .int) { frames := 1, cells := 0, slots := 0, locals := 22 } D L σ [.ref (L.1 0), .int v, .int wh] (PF L σ (oTextTold A v wh)) := by
  refine Ct.of (by decide) (Nat.le_of_ble_eq_true rfl) ?_
  intro X hl hD hnl hX0 hQ
  have hX : Ok X cX10_textTold RX10 "textTold" { frames := 1, cells := 0, slots := 0, locals := 22 } (some .int) := hX0
  have hT := hV.1
  have hNn := hV.2.1
  have hW := hV.2.2.1
  have hX14 := hV.2.2.2.1
  show At X L σ 0 0 [(0, .ref (L.1 0)), (1, .int v), (2, .int wh)] 0 []
  refine r_iload_n hX dX10_textTold_0 rfl ?_
  refine r_iconst hX (nI 0) dX10_textTold_1 rfl ?_
  refine r_aload_n hX dX10_textTold_2 rfl ?_
  refine r_getR hX dX10_textTold_3 fl_X10_9 (hM.1 0 (9, 0) rfl) rfl (hM.2 0 1 rfl) ?_
  refine r_iconst hX (nI 3) dX10_textTold_6 rfl ?_
  refine r_aldN hX dX10_textTold_7 (hM.1 1 (10, 1605) rfl) (by decide) (by decide) (nI ((aX A).length)) hR.2.2.2.1 ?_
  refine r_iconst hX (nI 1) dX10_textTold_8 rfl ?_
  refine r_isub hX dX10_textTold_9 ?_
  refine r_callSF (As := [.int v, .int (nI 0), .int ((nI ((aX A).length)) - (nI 1))]) (rest := []) hX (c_X10_in σ v (nI 0) ((nI ((aX A).length)) - (nI 1))) dX10_textTold_10 cb_X10_68 rfl rfl ⟨Nat.le_of_ble_eq_true rfl, Nat.le_of_ble_eq_true rfl⟩ ⟨Nat.le_of_ble_eq_true rfl, Nat.le_of_ble_eq_true rfl⟩ (Nat.le_of_ble_eq_true rfl) ?_
  refine r_ifB_eq hX dX10_textTold_13 (fun c1 => ?_) (fun c1 => ?_)
  · skip
    refine r_ldc hX dX10_textTold_43 ko_X10_72 ?_
    exact r_ireturn hX hQ dX10_textTold_45 ⟨Nat.le_of_ble_eq_true rfl, Nat.le_of_ble_eq_true rfl⟩ (PF.mk (by rw [oTextTold, if_neg (fun e => by have e := e.1; unfold isB at e; rw [c1] at e; cases e)]))
  · skip
    obtain ⟨x, hx, rfl⟩ := isB_nat c1 (by omega)
    refine r_iload_n hX dX10_textTold_16 rfl ?_
    refine r_iconst hX (nI 0) dX10_textTold_17 rfl ?_
    refine r_iconst hX (nI 1) dX10_textTold_18 rfl ?_
    refine r_callSF (As := [.int wh, .int (nI 0), .int (nI 1)]) (rest := []) hX (c_X10_in σ wh (nI 0) (nI 1)) dX10_textTold_19 cb_X10_68 rfl rfl ⟨Nat.le_of_ble_eq_true rfl, Nat.le_of_ble_eq_true rfl⟩ ⟨Nat.le_of_ble_eq_true rfl, Nat.le_of_ble_eq_true rfl⟩ (Nat.le_of_ble_eq_true rfl) ?_
    refine r_ifB_eq hX dX10_textTold_22 (fun c2 => ?_) (fun c2 => ?_)
    · skip
      refine r_ldc hX dX10_textTold_43 ko_X10_72 ?_
      exact r_ireturn hX hQ dX10_textTold_45 ⟨Nat.le_of_ble_eq_true rfl, Nat.le_of_ble_eq_true rfl⟩ (PF.mk (by rw [oTextTold, if_neg (fun e => by have e := e.2; rw [c2] at e; cases e)]))
    · skip
      obtain ⟨r, hrl, hr, rfl⟩ := inB_nat c2 (by decide) (by decide)
      refine r_aload_n hX dX10_textTold_25 rfl ?_
      refine r_getR hX dX10_textTold_26 fl_X10_9 (hM.1 0 (9, 0) rfl) rfl (hM.2 0 1 rfl) ?_
      refine r_sipush hX (nI 149) dX10_textTold_29 rfl ?_
      refine r_bipush hX (nI 104) dX10_textTold_32 rfl ?_
      refine r_iload_n hX dX10_textTold_34 rfl ?_
      refine r_imulN hX dX10_textTold_35 ?_
      refine r_iaddN hX dX10_textTold_36 ?_
      refine r_iload_n hX dX10_textTold_37 rfl ?_
      refine r_iaddN hX dX10_textTold_38 ?_
      refine r_aldN hX dX10_textTold_39 (hM.1 1 (10, 1605) rfl) (by decide) (by omega) (if nI r = nI 0 then nI (tx A x).1 else nI (tx A x).2.1) (by rcases (show r = 0 ∨ r = 1 by omega) with rfl | rfl; exact (hR.2.2.2.2.2.2.2.2 x hx).1; exact (hR.2.2.2.2.2.2.2.2 x hx).2.1) ?_
      refine r_goto hX dX10_textTold_40 ?_
      exact r_ireturn hX hQ dX10_textTold_45 ⟨Nat.le_of_ble_eq_true rfl, Nat.le_of_ble_eq_true rfl⟩ (PF.mk (by rw [oTextTold, if_pos (show isB (nI x) (aX A).length = true ∧ inB (nI r) (nI 0) (nI 1) = true from ⟨c1, c2⟩), nI_clamp (by omega)]))

set_option maxHeartbeats 4000000 in
set_option maxRecDepth 100000 in
theorem c_X10_why {l : Launch} {D : Ds} {L : La} (hM : MAt L) (σ : Me) (A : Al) (hR : RM (σ 1) A) (hV : Va A) (v : Int32) : Ct l yX10_why cX10_why 3 (some .int) { frames := 1, cells := 0, slots := 0, locals := 23 } D L σ [.ref (L.1 0), .int v] (PF L σ (oWhy A v)) := by
  refine Ct.of (by decide) (Nat.le_of_ble_eq_true rfl) ?_
  intro X hl hD hnl hX0 hQ
  have hX : Ok X cX10_why RX10 "why" { frames := 1, cells := 0, slots := 0, locals := 23 } (some .int) := hX0
  have hN2 : 2 < xn X := by rw [hnl]; decide
  have hT := hV.1
  have hNn := hV.2.1
  have hW := hV.2.2.1
  show At X L σ 0 0 [(0, .ref (L.1 0)), (1, .int v)] 0 []
  refine r_iload_n hX dX10_why_0 rfl ?_
  refine r_iconst hX (nI 0) dX10_why_1 rfl ?_
  refine r_iconst hX (nI 2) dX10_why_2 rfl ?_
  refine r_callSF (As := [.int v, .int (nI 0), .int (nI 2)]) (rest := []) hX (c_X10_in σ v (nI 0) (nI 2)) dX10_why_3 cb_X10_68 rfl rfl ⟨Nat.le_of_ble_eq_true rfl, Nat.le_of_ble_eq_true rfl⟩ ⟨Nat.le_of_ble_eq_true rfl, Nat.le_of_ble_eq_true rfl⟩ (Nat.le_of_ble_eq_true rfl) ?_
  refine r_ifB_ne hX dX10_why_6 (fun c1 => ?_) (fun c1 => ?_)
  · skip
    obtain ⟨q, hql, hq, rfl⟩ := inB_nat c1 (by decide) (by decide)
    refine r_aload_n hX dX10_why_12 rfl ?_
    refine r_iload_n hX dX10_why_13 rfl ?_
    refine r_callVF (As := [.int (nI q)]) (rest := []) hX (c_X10_latest hM σ A hR hV q (by omega)) dX10_why_14 cb_X10_110 (hM.1 0 (9, 0) rfl) rfl rfl ⟨Nat.le_of_ble_eq_true rfl, Nat.le_of_ble_eq_true rfl⟩ ⟨Nat.le_of_ble_eq_true rfl, Nat.le_of_ble_eq_true rfl⟩ (Nat.le_of_ble_eq_true rfl) ?_
    rcases hO : lst A q (aX A).length with _ | x
    · skip
      show At X L σ 0 0 [(0, .ref (L.1 0)), (1, .int (nI q))] 17 [.int (-1)]
      refine r_istore_n hX [(0, .ref (L.1 0)), (1, .int (nI q)), (2, .int (-1))] dX10_why_17 hN2 rfl ?_
      refine r_iload_n hX dX10_why_18 rfl ?_
      refine r_if_ge hX dX10_why_19 (fun c2 => absurd c2 (by decide)) (fun c2 => ?_)
      refine r_ldc hX dX10_why_22 ko_X10_92 ?_
      refine r_goto hX dX10_why_24 ?_
      exact r_ireturn hX hQ dX10_why_28 ⟨Nat.le_of_ble_eq_true rfl, Nat.le_of_ble_eq_true rfl⟩ (PF.mk (by rw [oWhy, if_pos c1, nI_clamp (by omega), hO]; rfl))
    · skip
      show At X L σ 0 0 [(0, .ref (L.1 0)), (1, .int (nI q))] 17 [.int (nI x)]
      obtain ⟨hx, hxk⟩ := lst_lt hO
      have hX14 := hV.2.2.2.1
      refine r_istore_n hX [(0, .ref (L.1 0)), (1, .int (nI q)), (2, .int (nI x))] dX10_why_17 hN2 rfl ?_
      refine r_iload_n hX dX10_why_18 rfl ?_
      refine r_ifN_ge hX dX10_why_19 (by omega) ?_
      refine r_iload_n hX dX10_why_27 rfl ?_
      exact r_ireturn hX hQ dX10_why_28 ⟨Nat.le_of_ble_eq_true rfl, Nat.le_of_ble_eq_true rfl⟩ (PF.mk (by rw [oWhy, if_pos c1, nI_clamp (by omega), hO]; rfl))
  · skip
    refine r_ldc hX dX10_why_9 ko_X10_72 ?_
    exact r_ireturn hX hQ dX10_why_11 ⟨Nat.le_of_ble_eq_true rfl, Nat.le_of_ble_eq_true rfl⟩ (PF.mk (by rw [oWhy, if_neg (by rw [c1]; decide)]))

set_option maxHeartbeats 4000000 in
set_option maxRecDepth 100000 in
theorem c_X10_keep {l : Launch} {D : Ds} {L : La} (hM : MAt L) (σ : Me) (A : Al) (hR : RM (σ 1) A) (hV : Va A) : Ct l yX10_keep cX10_keep 1 (some .int) { frames := 1, cells := 0, slots := 0, locals := 22 } D L σ [.ref (L.1 0)] (PI L (fun r σ2 => r = nI (aW A) ∧ RK σ2 (some A) ∧ RM (σ2 1) A ∧ Ex pK σ σ2)) := by
  refine Ct.of (by decide) (Nat.le_of_ble_eq_true rfl) ?_
  intro X hl hD hnl hX0 hQ
  have hX : Ok X cX10_keep RX10 "keep" { frames := 1, cells := 0, slots := 0, locals := 22 } (some .int) := hX0
  have hT := hV.1
  have hNn := hV.2.1
  have hW := hV.2.2.1
  show At X L σ 0 0 [(0, .ref (L.1 0))] 0 []
  refine r_aload_n hX dX10_keep_0 rfl ?_
  refine r_getR hX dX10_keep_1 fl_X10_9 (hM.1 0 (9, 0) rfl) rfl (hM.2 0 1 rfl) ?_
  refine r_aload_n hX dX10_keep_4 rfl ?_
  refine r_getR hX dX10_keep_5 fl_X10_13 (hM.1 0 (9, 0) rfl) rfl (hM.2 1 2 rfl) ?_
  refine r_callSV (As := [.ref (L.1 1), .ref (L.1 2)]) (rest := []) hX (c_X10_lay σ 1 2 (hM.1 1 (10, 1605) rfl) (hM.1 2 (10, 1605) rfl) (by decide)) dX10_keep_8 cb_X10_366 rfl rfl ⟨Nat.le_of_ble_eq_true rfl, Nat.le_of_ble_eq_true rfl⟩ ⟨Nat.le_of_ble_eq_true rfl, Nat.le_of_ble_eq_true rfl⟩ (Nat.le_of_ble_eq_true rfl) (fun σ1 h2 => ?_)
  have hL3 := h2
  refine r_aload_n hX dX10_keep_11 rfl ?_
  refine r_iconst hX (nI 1) dX10_keep_12 rfl ?_
  refine r_putI hX dX10_keep_13 fl_X10_363 (hM.1 0 (9, 0) rfl) rfl rfl rfl rfl ?_
  refine r_aload_n hX dX10_keep_16 rfl ?_
  refine r_getR hX dX10_keep_17 fl_X10_9 (hM.1 0 (9, 0) rfl) rfl (hM.2 0 1 rfl) ?_
  refine r_iconst hX (nI 2) dX10_keep_20 rfl ?_
  refine r_aldN hX dX10_keep_21 (hM.1 1 (10, 1605) rfl) (by decide) (by decide) (nI (aW A)) (by rw [up_n (by omega), hL3]; simp [cpk]; exact hR.2.2.1) ?_
  exact r_ireturn hX hQ dX10_keep_22 ⟨Nat.le_of_ble_eq_true rfl, Nat.le_of_ble_eq_true rfl⟩ (PI.mk ⟨rfl, ⟨by rw [up_s]; rfl, fun B hB => by cases hB; exact ⟨RM.lt hR hV (fun j hj => by rw [up_n (by omega), hL3]; simp [cpk, hj]), hV⟩⟩, by rw [up_row (by decide), hL3]; exact RM.lt hR hV (fun j hj => by simp [cpk]), Ex.up (by rw [hL3]; exact cpk_ex) rfl⟩)

set_option maxHeartbeats 4000000 in
set_option maxRecDepth 100000 in
theorem c_X10_back {l : Launch} {D : Ds} {L : La} (hM : MAt L) (σ : Me) (A : Al) (hR : RM (σ 1) A) (hV : Va A) (o : Option Al) (hKo : RK σ o) : Ct l yX10_back cX10_back 1 (some .int) { frames := 1, cells := 0, slots := 0, locals := 22 } D L σ [.ref (L.1 0)] (PI L (fun r σ2 => r = oBack o ∧ RM (σ2 1) (oBackA A o) ∧ Ex (fun c _ => decide (c = 1)) σ σ2)) := by
  refine Ct.of (by decide) (Nat.le_of_ble_eq_true rfl) ?_
  intro X hl hD hnl hX0 hQ
  have hX : Ok X cX10_back RX10 "back" { frames := 1, cells := 0, slots := 0, locals := 22 } (some .int) := hX0
  have hT := hV.1
  have hNn := hV.2.1
  have hW := hV.2.2.1
  show At X L σ 0 0 [(0, .ref (L.1 0))] 0 []
  rcases hon : o with _ | B
  · skip
    subst hon
    obtain ⟨hK3, hKo⟩ := hKo
    refine r_aload_n hX dX10_back_0 rfl ?_
    refine r_getIV hX dX10_back_1 fl_X10_363 (hM.1 0 (9, 0) rfl) rfl (nI 0) hK3 ?_
    refine r_ifN_ne hX dX10_back_4 (by decide) (fun c1 => absurd c1 (by decide)) (fun c1 => ?_)
    refine r_ldc hX dX10_back_7 ko_X10_229 ?_
    exact r_ireturn hX hQ dX10_back_9 ⟨Nat.le_of_ble_eq_true rfl, Nat.le_of_ble_eq_true rfl⟩ (PI.mk ⟨rfl, hR, Ex.rf σ⟩)
  · skip
    subst hon
    obtain ⟨hK3, hKo⟩ := hKo
    refine r_aload_n hX dX10_back_0 rfl ?_
    refine r_getIV hX dX10_back_1 fl_X10_363 (hM.1 0 (9, 0) rfl) rfl (nI 1) hK3 ?_
    refine r_ifN_ne hX dX10_back_4 (by decide) (fun c2 => ?_) (fun c2 => absurd c2 (by decide))
    refine r_aload_n hX dX10_back_10 rfl ?_
    refine r_getR hX dX10_back_11 fl_X10_13 (hM.1 0 (9, 0) rfl) rfl (hM.2 1 2 rfl) ?_
    refine r_aload_n hX dX10_back_14 rfl ?_
    refine r_getR hX dX10_back_15 fl_X10_9 (hM.1 0 (9, 0) rfl) rfl (hM.2 0 1 rfl) ?_
    refine r_callSV (As := [.ref (L.1 2), .ref (L.1 1)]) (rest := []) hX (c_X10_lay σ 2 1 (hM.1 2 (10, 1605) rfl) (hM.1 1 (10, 1605) rfl) (by decide)) dX10_back_18 cb_X10_366 rfl rfl ⟨Nat.le_of_ble_eq_true rfl, Nat.le_of_ble_eq_true rfl⟩ ⟨Nat.le_of_ble_eq_true rfl, Nat.le_of_ble_eq_true rfl⟩ (Nat.le_of_ble_eq_true rfl) (fun σ3 h4 => ?_)
    have hL5 := h4
    refine r_aload_n hX dX10_back_21 rfl ?_
    refine r_getR hX dX10_back_22 fl_X10_9 (hM.1 0 (9, 0) rfl) rfl (hM.2 0 1 rfl) ?_
    refine r_iconst hX (nI 2) dX10_back_25 rfl ?_
    refine r_aldN hX dX10_back_26 (hM.1 1 (10, 1605) rfl) (by decide) (by decide) (nI (aW B)) (by rw [hL5]; simp [cpk]; exact (hKo B rfl).1.2.2.1) ?_
    exact r_ireturn hX hQ dX10_back_27 ⟨Nat.le_of_ble_eq_true rfl, Nat.le_of_ble_eq_true rfl⟩ (PI.mk ⟨rfl, RM.lt (hKo B rfl).1 (hKo B rfl).2 (fun j hj => by rw [hL5]; simp [cpk, hj]), by rw [hL5]; exact cpk_ex1⟩)

set_option maxHeartbeats 4000000 in
set_option maxRecDepth 100000 in
theorem c_X10_count {l : Launch} {D : Ds} {L : La} (hM : MAt L) (σ : Me) (A : Al) (hR : RM (σ 1) A) (hV : Va A) (P : Tp) (hP : RT σ P) (Q : Wt) (hQw : RWt σ Q) (wh : Int32) : Ct l yX10_count cX10_count 4 (some .int) { frames := 3, cells := 0, slots := 0, locals := 62 } D L σ [.ref (L.1 0), .int wh] (PF L σ (oCount A P Q wh)) := by
  refine Ct.of (by decide) (Nat.le_of_ble_eq_true rfl) ?_
  intro X hl hD hnl hX0 hQ
  have hX : Ok X cX10_count RX10 "count" { frames := 3, cells := 0, slots := 0, locals := 62 } (some .int) := hX0
  have hN2 : 2 < xn X := by rw [hnl]; decide
  have hN3 : 3 < xn X := by rw [hnl]; decide
  have hT := hV.1
  have hNn := hV.2.1
  have hW := hV.2.2.1
  show At X L σ 0 0 [(0, .ref (L.1 0)), (1, .int wh)] 0 []
  refine r_iload_n hX dX10_count_0 rfl ?_
  by_cases e1 : wh = nI 0
  · skip
    subst e1
    refine r_tabInN (v := 0) hX 48 dX10_count_1 (by decide) (by decide) (by decide) 47 rfl (by decide) ?_
    refine r_aload_n hX dX10_count_48 rfl ?_
    refine r_getR hX dX10_count_49 fl_X10_9 (hM.1 0 (9, 0) rfl) rfl (hM.2 0 1 rfl) ?_
    refine r_iconst hX (nI 0) dX10_count_52 rfl ?_
    refine r_aldN hX dX10_count_53 (hM.1 1 (10, 1605) rfl) (by decide) (by decide) (nI (aT A)) hR.1 ?_
    exact r_ireturn hX hQ dX10_count_54 ⟨Nat.le_of_ble_eq_true rfl, Nat.le_of_ble_eq_true rfl⟩ (PF.mk (by rw [oCount, if_pos rfl]))
  by_cases e2 : wh = nI 1
  · skip
    subst e2
    refine r_tabInN (v := 1) hX 55 dX10_count_1 (by decide) (by decide) (by decide) 54 rfl (by decide) ?_
    refine r_aload_n hX dX10_count_55 rfl ?_
    refine r_getR hX dX10_count_56 fl_X10_9 (hM.1 0 (9, 0) rfl) rfl (hM.2 0 1 rfl) ?_
    refine r_iconst hX (nI 1) dX10_count_59 rfl ?_
    refine r_aldN hX dX10_count_60 (hM.1 1 (10, 1605) rfl) (by decide) (by decide) (nI (aN A)) hR.2.1 ?_
    exact r_ireturn hX hQ dX10_count_61 ⟨Nat.le_of_ble_eq_true rfl, Nat.le_of_ble_eq_true rfl⟩ (PF.mk (by rw [oCount, if_neg (by decide), if_pos rfl]))
  by_cases e3 : wh = nI 2
  · skip
    subst e3
    refine r_tabInN (v := 2) hX 62 dX10_count_1 (by decide) (by decide) (by decide) 61 rfl (by decide) ?_
    refine r_aload_n hX dX10_count_62 rfl ?_
    refine r_getR hX dX10_count_63 fl_X10_9 (hM.1 0 (9, 0) rfl) rfl (hM.2 0 1 rfl) ?_
    refine r_iconst hX (nI 2) dX10_count_66 rfl ?_
    refine r_aldN hX dX10_count_67 (hM.1 1 (10, 1605) rfl) (by decide) (by decide) (nI (aW A)) hR.2.2.1 ?_
    exact r_ireturn hX hQ dX10_count_68 ⟨Nat.le_of_ble_eq_true rfl, Nat.le_of_ble_eq_true rfl⟩ (PF.mk (by rw [oCount, if_neg (by decide), if_neg (by decide), if_pos rfl]))
  by_cases e4 : wh = nI 3
  · skip
    subst e4
    refine r_tabInN (v := 3) hX 69 dX10_count_1 (by decide) (by decide) (by decide) 68 rfl (by decide) ?_
    refine r_iconst hX (nI 0) dX10_count_69 rfl ?_
    refine r_istore_n hX [(0, .ref (L.1 0)), (1, .int (nI 3)), (2, .int (nI 0))] dX10_count_70 hN2 rfl ?_
    refine r_iconst hX (nI 0) dX10_count_71 rfl ?_
    refine r_istore_n hX [(0, .ref (L.1 0)), (1, .int (nI 3)), (2, .int (nI 0)), (3, .int (nI 0))] dX10_count_72 hN3 rfl ?_
    have P5 : ∀ k, k ≤ aW A → At X L σ 0 0 [(0, .ref (L.1 0)), (1, .int (nI 3)), (2, .int (nI (trN A k))), (3, .int (nI k))] 73 [] := by
      refine loopUp (aW A) ?_ ?_
      · skip
        refine r_iload_n hX dX10_count_73 rfl ?_
        refine r_aload_n hX dX10_count_74 rfl ?_
        refine r_getR hX dX10_count_75 fl_X10_9 (hM.1 0 (9, 0) rfl) rfl (hM.2 0 1 rfl) ?_
        refine r_iconst hX (nI 2) dX10_count_78 rfl ?_
        refine r_aldN hX dX10_count_79 (hM.1 1 (10, 1605) rfl) (by decide) (by decide) (nI (aW A)) hR.2.2.1 ?_
        refine r_icmpN_ge hX dX10_count_80 (by omega) (by omega) (fun c6 => ?_) (fun c6 => absurd c6 (by omega))
        refine r_iload_n hX dX10_count_109 rfl ?_
        exact r_ireturn hX hQ dX10_count_110 ⟨Nat.le_of_ble_eq_true rfl, Nat.le_of_ble_eq_true rfl⟩ (PF.mk (by rw [oCount, if_neg (by decide), if_neg (by decide), if_neg (by decide), if_pos rfl]))
      · skip
        intro k hk ih7
        refine r_iload_n hX dX10_count_73 rfl ?_
        refine r_aload_n hX dX10_count_74 rfl ?_
        refine r_getR hX dX10_count_75 fl_X10_9 (hM.1 0 (9, 0) rfl) rfl (hM.2 0 1 rfl) ?_
        refine r_iconst hX (nI 2) dX10_count_78 rfl ?_
        refine r_aldN hX dX10_count_79 (hM.1 1 (10, 1605) rfl) (by decide) (by decide) (nI (aW A)) hR.2.2.1 ?_
        refine r_icmpN_ge hX dX10_count_80 (by omega) (by omega) (fun c8 => absurd c8 (by omega)) (fun c8 => ?_)
        refine r_iload_n hX dX10_count_83 rfl ?_
        refine r_aload_n hX dX10_count_84 rfl ?_
        refine r_iload_n hX dX10_count_85 rfl ?_
        refine r_iconst hX (nI 0) dX10_count_86 rfl ?_
        refine r_callVF (As := [.int (nI k), .int (nI 0)]) (rest := [.int (nI (trN A k))]) hX (c_X10_ofA hM σ A hR hV k 0 (by omega) (by omega)) dX10_count_87 cb_X10_74 (hM.1 0 (9, 0) rfl) rfl rfl ⟨Nat.le_of_ble_eq_true rfl, Nat.le_of_ble_eq_true rfl⟩ ⟨Nat.le_of_ble_eq_true rfl, Nat.le_of_ble_eq_true rfl⟩ (Nat.le_of_ble_eq_true rfl) ?_
        refine r_callSF (As := [.int (nI (aF A k 0))]) (rest := [.int (nI (trN A k))]) hX (c_X10_isTrue σ (aF A k 0) (by have := (hV.2.2.2.2.2.2.1 k hk).1; omega)) dX10_count_90 cb_X10_138 rfl rfl ⟨Nat.le_of_ble_eq_true rfl, Nat.le_of_ble_eq_true rfl⟩ ⟨Nat.le_of_ble_eq_true rfl, Nat.le_of_ble_eq_true rfl⟩ (Nat.le_of_ble_eq_true rfl) ?_
        refine r_ifB_eq hX dX10_count_93 (fun c9 => ?_) (fun c9 => ?_)
        · skip
          refine r_iconst hX (nI 0) dX10_count_100 rfl ?_
          refine r_iaddN hX dX10_count_101 ?_
          refine r_istore_n hX [(0, .ref (L.1 0)), (1, .int (nI 3)), (2, .int (nI (trN A k + 0))), (3, .int (nI k))] dX10_count_102 hN2 rfl ?_
          refine r_iincN (n := 1) hX [(0, .ref (L.1 0)), (1, .int (nI 3)), (2, .int (nI (trN A k + 0))), (3, .int (nI (k + 1)))] dX10_count_103 rfl hN3 rfl ?_
          refine r_goto hX dX10_count_106 ?_
          have q10 : trN A (k + 1) = trN A k + 0 := (by rw [trN, if_neg (by rw [c9]; decide)])
          exact At.to ih7 (by rw [q10]) rfl rfl
        · skip
          refine r_iconst hX (nI 1) dX10_count_96 rfl ?_
          refine r_goto hX dX10_count_97 ?_
          refine r_iaddN hX dX10_count_101 ?_
          refine r_istore_n hX [(0, .ref (L.1 0)), (1, .int (nI 3)), (2, .int (nI (trN A k + 1))), (3, .int (nI k))] dX10_count_102 hN2 rfl ?_
          refine r_iincN (n := 1) hX [(0, .ref (L.1 0)), (1, .int (nI 3)), (2, .int (nI (trN A k + 1))), (3, .int (nI (k + 1)))] dX10_count_103 rfl hN3 rfl ?_
          refine r_goto hX dX10_count_106 ?_
          have q11 : trN A (k + 1) = trN A k + 1 := (by rw [trN, if_pos c9])
          exact At.to ih7 (by rw [q11]) rfl rfl
    exact At.to (P5 0 (Nat.zero_le _)) rfl rfl rfl
  by_cases e12 : wh = nI 4
  · skip
    subst e12
    refine r_tabInN (v := 4) hX 111 dX10_count_1 (by decide) (by decide) (by decide) 110 rfl (by decide) ?_
    refine r_aload_n hX dX10_count_111 rfl ?_
    refine r_getR hX dX10_count_112 fl_X10_9 (hM.1 0 (9, 0) rfl) rfl (hM.2 0 1 rfl) ?_
    refine r_iconst hX (nI 3) dX10_count_115 rfl ?_
    refine r_aldN hX dX10_count_116 (hM.1 1 (10, 1605) rfl) (by decide) (by decide) (nI ((aX A).length)) hR.2.2.2.1 ?_
    exact r_ireturn hX hQ dX10_count_117 ⟨Nat.le_of_ble_eq_true rfl, Nat.le_of_ble_eq_true rfl⟩ (PF.mk (by rw [oCount, if_neg (by decide), if_neg (by decide), if_neg (by decide), if_neg (by decide), if_pos rfl]))
  by_cases e13 : wh = nI 5
  · skip
    subst e13
    refine r_tabInN (v := 5) hX 118 dX10_count_1 (by decide) (by decide) (by decide) 117 rfl (by decide) ?_
    refine r_aload_n hX dX10_count_118 rfl ?_
    refine r_getIV hX dX10_count_119 fl_X10_360 (hM.1 0 (9, 0) rfl) rfl (nI Q.1) hQw.1 ?_
    exact r_ireturn hX hQ dX10_count_122 ⟨Nat.le_of_ble_eq_true rfl, Nat.le_of_ble_eq_true rfl⟩ (PF.mk (by rw [oCount, if_neg (by decide), if_neg (by decide), if_neg (by decide), if_neg (by decide), if_neg (by decide), if_pos rfl]))
  by_cases e14 : wh = nI 6
  · skip
    subst e14
    refine r_tabInN (v := 6) hX 123 dX10_count_1 (by decide) (by decide) (by decide) 122 rfl (by decide) ?_
    refine r_aload_n hX dX10_count_123 rfl ?_
    refine r_getIV hX dX10_count_124 fl_X10_233 (hM.1 0 (9, 0) rfl) rfl (nI P.1) hP.1 ?_
    exact r_ireturn hX hQ dX10_count_127 ⟨Nat.le_of_ble_eq_true rfl, Nat.le_of_ble_eq_true rfl⟩ (PF.mk (by rw [oCount, if_neg (by decide), if_neg (by decide), if_neg (by decide), if_neg (by decide), if_neg (by decide), if_neg (by decide), if_pos rfl]))
  by_cases e15 : wh = nI 7
  · skip
    subst e15
    refine r_tabInN (v := 7) hX 128 dX10_count_1 (by decide) (by decide) (by decide) 127 rfl (by decide) ?_
    refine r_aload_n hX dX10_count_128 rfl ?_
    refine r_getR hX dX10_count_129 fl_X10_9 (hM.1 0 (9, 0) rfl) rfl (hM.2 0 1 rfl) ?_
    refine r_iconst hX (nI 4) dX10_count_132 rfl ?_
    refine r_aldN hX dX10_count_133 (hM.1 1 (10, 1605) rfl) (by decide) (by decide) (aZ A) hR.2.2.2.2.1 ?_
    exact r_ireturn hX hQ dX10_count_134 ⟨Nat.le_of_ble_eq_true rfl, Nat.le_of_ble_eq_true rfl⟩ (PF.mk (by rw [oCount, if_neg (by decide), if_neg (by decide), if_neg (by decide), if_neg (by decide), if_neg (by decide), if_neg (by decide), if_neg (by decide), if_pos rfl]))
  refine r_tabOut hX 135 dX10_count_1 (by have := ne_toInt (by decide) e1; have := ne_toInt (by decide) e2; have := ne_toInt (by decide) e3; have := ne_toInt (by decide) e4; have := ne_toInt (by decide) e12; have := ne_toInt (by decide) e13; have := ne_toInt (by decide) e14; have := ne_toInt (by decide) e15; omega) (by decide) ?_
  refine r_ldc hX dX10_count_135 ko_X10_72 ?_
  exact r_ireturn hX hQ dX10_count_137 ⟨Nat.le_of_ble_eq_true rfl, Nat.le_of_ble_eq_true rfl⟩ (PF.mk (by rw [oCount, if_neg e1, if_neg e2, if_neg e3, if_neg e4, if_neg e12, if_neg e13, if_neg e14, if_neg e15]))
