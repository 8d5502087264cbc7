set_option maxHeartbeats 4000000 in
set_option maxRecDepth 100000 in
theorem c_X10_thingTold {l : Launch} {D : Ds} {L : La} (hM : MAt L) (σ : Me) (A : Al) (hR : RM (σ 1) A) (hV : Va A) (th wh : Int32) : Ct l yX10_thingTold cX10_thingTold 3 (some .int) { frames := 9, cells := 0, slots := 0, locals := 201 } D L σ [.ref (L.1 0), .int th, .int wh] (PI L (fun r σ2 => r = oThingTold A th wh ∧ Sm σ σ2)) := by
  refine Ct.of (by decide) (Nat.le_of_ble_eq_true rfl) ?_
  intro X hl hD hnl hX0 hQ
  have hX : Ok X cX10_thingTold RX10 "thingTold" { frames := 9, cells := 0, slots := 0, locals := 201 } (some .int) := hX0
  have hT := hV.1
  have hNn := hV.2.1
  have hW := hV.2.2.1
  show At X L σ 0 0 [(0, .ref (L.1 0)), (1, .int th), (2, .int wh)] 0 []
  refine r_aload_n hX dX10_thingTold_0 rfl ?_
  refine r_iload_n hX dX10_thingTold_1 rfl ?_
  refine r_callVF (As := [.int th]) (rest := []) hX (c_X10_isThing hM σ A hR th) dX10_thingTold_2 cb_X10_78 (hM.1 0 (9, 0) rfl) rfl rfl ⟨Nat.le_of_ble_eq_true rfl, Nat.le_of_ble_eq_true rfl⟩ ⟨Nat.le_of_ble_eq_true rfl, Nat.le_of_ble_eq_true rfl⟩ (Nat.le_of_ble_eq_true rfl) ?_
  refine r_ifB_ne hX dX10_thingTold_5 (fun c1 => ?_) (fun c1 => ?_)
  · skip
    obtain ⟨t, ht, rfl⟩ := isB_nat c1 (by omega)
    refine r_iload_n hX dX10_thingTold_11 rfl ?_
    by_cases e2 : wh = nI 0
    · skip
      subst e2
      refine r_tabInN (v := 0) hX 44 dX10_thingTold_12 (by decide) (by decide) (by decide) 32 rfl (by decide) ?_
      refine r_aload_n hX dX10_thingTold_44 rfl ?_
      refine r_getR hX dX10_thingTold_45 fl_X10_9 (hM.1 0 (9, 0) rfl) rfl (hM.2 0 1 rfl) ?_
      refine r_iconst hX (nI 5) dX10_thingTold_48 rfl ?_
      refine r_iconst hX (nI 2) dX10_thingTold_49 rfl ?_
      refine r_iload_n hX dX10_thingTold_50 rfl ?_
      refine r_imulN hX dX10_thingTold_51 ?_
      refine r_iaddN hX dX10_thingTold_52 ?_
      refine r_iload_n hX dX10_thingTold_53 rfl ?_
      refine r_iaddN hX dX10_thingTold_54 ?_
      refine r_aldN hX dX10_thingTold_55 (hM.1 1 (10, 1605) rfl) (by decide) (by omega) (nI (aO A t)) (hR.2.2.2.2.2.1 _ ht).1 ?_
      exact r_ireturn hX hQ dX10_thingTold_56 ⟨Nat.le_of_ble_eq_true rfl, Nat.le_of_ble_eq_true rfl⟩ (PI.mk ⟨by rw [oThingTold, if_pos c1, if_pos rfl, nI_clamp (by omega)], (Sm.rf σ)⟩)
    by_cases e3 : wh = nI 1
    · skip
      subst e3
      refine r_tabInN (v := 1) hX 44 dX10_thingTold_12 (by decide) (by decide) (by decide) 32 rfl (by decide) ?_
      refine r_aload_n hX dX10_thingTold_44 rfl ?_
      refine r_getR hX dX10_thingTold_45 fl_X10_9 (hM.1 0 (9, 0) rfl) rfl (hM.2 0 1 rfl) ?_
      refine r_iconst hX (nI 5) dX10_thingTold_48 rfl ?_
      refine r_iconst hX (nI 2) dX10_thingTold_49 rfl ?_
      refine r_iload_n hX dX10_thingTold_50 rfl ?_
      refine r_imulN hX dX10_thingTold_51 ?_
      refine r_iaddN hX dX10_thingTold_52 ?_
      refine r_iload_n hX dX10_thingTold_53 rfl ?_
      refine r_iaddN hX dX10_thingTold_54 ?_
      refine r_aldN hX dX10_thingTold_55 (hM.1 1 (10, 1605) rfl) (by decide) (by omega) (nI (aB A t)) (hR.2.2.2.2.2.1 _ ht).2 ?_
      exact r_ireturn hX hQ dX10_thingTold_56 ⟨Nat.le_of_ble_eq_true rfl, Nat.le_of_ble_eq_true rfl⟩ (PI.mk ⟨by rw [oThingTold, if_pos c1, if_neg (by decide), if_pos rfl, nI_clamp (by omega)], (Sm.rf σ)⟩)
    by_cases e4 : wh = nI 2
    · skip
      subst e4
      refine r_tabInN (v := 2) hX 57 dX10_thingTold_12 (by decide) (by decide) (by decide) 45 rfl (by decide) ?_
      refine r_aload_n hX dX10_thingTold_57 rfl ?_
      refine r_iconst hX (nI 1) dX10_thingTold_58 rfl ?_
      refine r_iload_n hX dX10_thingTold_59 rfl ?_
      refine r_callVF (As := [.int (nI 1), .int (nI t)]) (rest := []) hX (c_X10_wordsOf hM σ A hR hV 1 t (by omega) (by omega)) dX10_thingTold_60 cb_X10_82 (hM.1 0 (9, 0) rfl) rfl rfl ⟨Nat.le_of_ble_eq_true rfl, Nat.le_of_ble_eq_true rfl⟩ ⟨Nat.le_of_ble_eq_true rfl, Nat.le_of_ble_eq_true rfl⟩ (Nat.le_of_ble_eq_true rfl) ?_
      exact r_ireturn hX hQ dX10_thingTold_63 ⟨Nat.le_of_ble_eq_true rfl, Nat.le_of_ble_eq_true rfl⟩ (PI.mk ⟨by rw [oThingTold, if_pos c1, if_neg (by decide), if_neg (by decide), if_pos rfl, nI_clamp (by omega)], (Sm.rf σ)⟩)
    by_cases e5 : wh = nI 3
    · skip
      subst e5
      refine r_tabInN (v := 3) hX 64 dX10_thingTold_12 (by decide) (by decide) (by decide) 52 rfl (by decide) ?_
      refine r_aload_n hX dX10_thingTold_64 rfl ?_
      refine r_iload_n hX dX10_thingTold_65 rfl ?_
      refine r_callVI (As := [.int (nI t)]) (rest := []) hX (c_X10_placeOf hM σ A hR hV t (by omega)) dX10_thingTold_66 cb_X10_85 (hM.1 0 (9, 0) rfl) rfl rfl ⟨Nat.le_of_ble_eq_true rfl, Nat.le_of_ble_eq_true rfl⟩ ⟨Nat.le_of_ble_eq_true rfl, Nat.le_of_ble_eq_true rfl⟩ (Nat.le_of_ble_eq_true rfl) (fun r6 σ7 h8 => ?_)
      obtain ⟨rfl, hS9⟩ := h8
      have hR10 := hS9.rm hR
      exact r_ireturn hX hQ dX10_thingTold_69 ⟨Nat.le_of_ble_eq_true rfl, Nat.le_of_ble_eq_true rfl⟩ (PI.mk ⟨by rw [oThingTold, if_pos c1, if_neg (by decide), if_neg (by decide), if_neg (by decide), if_pos rfl, nI_clamp (by omega)], (Sm.tr (Sm.rf σ) hS9)⟩)
    refine r_tabOut hX 70 dX10_thingTold_12 (by have := ne_toInt (by decide) e2; have := ne_toInt (by decide) e3; have := ne_toInt (by decide) e4; have := ne_toInt (by decide) e5; omega) (by decide) ?_
    refine r_ldc hX dX10_thingTold_70 ko_X10_72 ?_
    exact r_ireturn hX hQ dX10_thingTold_72 ⟨Nat.le_of_ble_eq_true rfl, Nat.le_of_ble_eq_true rfl⟩ (PI.mk ⟨by rw [oThingTold, if_pos c1, if_neg e2, if_neg e3, if_neg e4, if_neg e5], (Sm.rf σ)⟩)
  · skip
    refine r_ldc hX dX10_thingTold_8 ko_X10_72 ?_
    exact r_ireturn hX hQ dX10_thingTold_10 ⟨Nat.le_of_ble_eq_true rfl, Nat.le_of_ble_eq_true rfl⟩ (PI.mk ⟨by rw [oThingTold, if_neg (by rw [c1]; decide)], (Sm.rf σ)⟩)

set_option maxHeartbeats 4000000 in
set_option maxRecDepth 100000 in
theorem c_X10_nameTold {l : Launch} {D : Ds} {L : La} (hM : MAt L) (σ : Me) (A : Al) (hR : RM (σ 1) A) (hV : Va A) (nm wh : Int32) : Ct l yX10_nameTold cX10_nameTold 6 (some .int) { frames := 2, cells := 0, slots := 0, locals := 46 } D L σ [.ref (L.1 0), .int nm, .int wh] (PI L (fun r σ2 => r = oNameTold A nm wh ∧ Sm σ σ2)) := by
  refine Ct.of (by decide) (Nat.le_of_ble_eq_true rfl) ?_
  intro X hl hD hnl hX0 hQ
  have hX : Ok X cX10_nameTold RX10 "nameTold" { frames := 2, cells := 0, slots := 0, locals := 46 } (some .int) := hX0
  have hN3 : 3 < xn X := by rw [hnl]; decide
  have hN4 : 4 < xn X := by rw [hnl]; decide
  have hN5 : 5 < xn X := by rw [hnl]; decide
  have hT := hV.1
  have hNn := hV.2.1
  have hW := hV.2.2.1
  show At X L σ 0 0 [(0, .ref (L.1 0)), (1, .int nm), (2, .int wh)] 0 []
  refine r_aload_n hX dX10_nameTold_0 rfl ?_
  refine r_iload_n hX dX10_nameTold_1 rfl ?_
  refine r_callVF (As := [.int nm]) (rest := []) hX (c_X10_isName hM σ A hR nm) dX10_nameTold_2 cb_X10_89 (hM.1 0 (9, 0) rfl) rfl rfl ⟨Nat.le_of_ble_eq_true rfl, Nat.le_of_ble_eq_true rfl⟩ ⟨Nat.le_of_ble_eq_true rfl, Nat.le_of_ble_eq_true rfl⟩ (Nat.le_of_ble_eq_true rfl) ?_
  refine r_ifB_eq hX dX10_nameTold_5 (fun c1 => ?_) (fun c1 => ?_)
  · skip
    refine r_ldc hX dX10_nameTold_17 ko_X10_72 ?_
    exact r_ireturn hX hQ dX10_nameTold_19 ⟨Nat.le_of_ble_eq_true rfl, Nat.le_of_ble_eq_true rfl⟩ (PI.mk ⟨by rw [oNameTold, if_neg (by rw [c1]; decide)], (Sm.rf σ)⟩)
  · skip
    obtain ⟨n, hn, rfl⟩ := isB_nat c1 (by omega)
    refine r_iload_n hX dX10_nameTold_8 rfl ?_
    refine r_iconst hX (nI 0) dX10_nameTold_9 rfl ?_
    refine r_iconst hX (nI 2) dX10_nameTold_10 rfl ?_
    refine r_callSF (As := [.int wh, .int (nI 0), .int (nI 2)]) (rest := []) hX (c_X10_in σ wh (nI 0) (nI 2)) dX10_nameTold_11 cb_X10_68 rfl rfl ⟨Nat.le_of_ble_eq_true rfl, Nat.le_of_ble_eq_true rfl⟩ ⟨Nat.le_of_ble_eq_true rfl, Nat.le_of_ble_eq_true rfl⟩ (Nat.le_of_ble_eq_true rfl) ?_
    refine r_ifB_ne hX dX10_nameTold_14 (fun c2 => ?_) (fun c2 => ?_)
    · skip
      obtain ⟨q, hql, hq, rfl⟩ := inB_nat c2 (by decide) (by decide)
      refine r_iload_n hX dX10_nameTold_20 rfl ?_
      refine r_iconst hX (nI 2) dX10_nameTold_21 rfl ?_
      refine r_icmpN_ge hX dX10_nameTold_22 (by omega) (by decide) (fun c3 => ?_) (fun c3 => ?_)
      · skip
        refine r_ldc hX dX10_nameTold_48 ko_X10_92 ?_
        refine r_istore_n hX [(0, .ref (L.1 0)), (1, .int (nI n)), (2, .int (nI q)), (3, .int (-1000000005))] dX10_nameTold_50 hN3 rfl ?_
        refine r_iconst hX (nI 0) dX10_nameTold_51 rfl ?_
        refine r_istore hX [(0, .ref (L.1 0)), (1, .int (nI n)), (2, .int (nI q)), (3, .int (-1000000005)), (4, .int (nI 0))] dX10_nameTold_52 hN4 rfl ?_
        have P4 : ∀ k, k ≤ aW A → At X L σ 0 0 [(0, .ref (L.1 0)), (1, .int (nI n)), (2, .int (nI q)), (3, .int (nI? (fh A n k))), (4, .int (nI k))] 54 [] := by
          refine loopUp (aW A) ?_ ?_
          · skip
            refine r_iload hX dX10_nameTold_54 rfl ?_
            refine r_aload_n hX dX10_nameTold_56 rfl ?_
            refine r_getR hX dX10_nameTold_57 fl_X10_9 (hM.1 0 (9, 0) rfl) rfl (hM.2 0 1 rfl) ?_
            refine r_iconst hX (nI 2) dX10_nameTold_60 rfl ?_
            refine r_aldN hX dX10_nameTold_61 (hM.1 1 (10, 1605) rfl) (by decide) (by decide) (nI (aW A)) hR.2.2.1 ?_
            refine r_icmpN_ge hX dX10_nameTold_62 (by omega) (by omega) (fun c5 => ?_) (fun c5 => absurd c5 (by omega))
            refine r_iload_n hX dX10_nameTold_123 rfl ?_
            exact r_ireturn hX hQ dX10_nameTold_124 ⟨Nat.le_of_ble_eq_true rfl, Nat.le_of_ble_eq_true rfl⟩ (PI.mk ⟨by rw [oNameTold, if_pos c1, if_neg (by rw [show q = 2 by omega]; decide), if_neg (by rw [show q = 2 by omega]; decide), if_pos (by rw [show q = 2 by omega]), nI_clamp (by omega)], (Sm.rf σ)⟩)
          · skip
            intro k hk ih6
            have hwf := hV.2.2.2.2.2.2.1 k hk
            refine r_iload hX dX10_nameTold_54 rfl ?_
            refine r_aload_n hX dX10_nameTold_56 rfl ?_
            refine r_getR hX dX10_nameTold_57 fl_X10_9 (hM.1 0 (9, 0) rfl) rfl (hM.2 0 1 rfl) ?_
            refine r_iconst hX (nI 2) dX10_nameTold_60 rfl ?_
            refine r_aldN hX dX10_nameTold_61 (hM.1 1 (10, 1605) rfl) (by decide) (by decide) (nI (aW A)) hR.2.2.1 ?_
            refine r_icmpN_ge hX dX10_nameTold_62 (by omega) (by omega) (fun c7 => absurd c7 (by omega)) (fun c7 => ?_)
            rcases hfh : fh A n k with _ | y
            · skip
              show At X L σ 0 0 [(0, .ref (L.1 0)), (1, .int (nI n)), (2, .int (nI q)), (3, .int (-1000000005)), (4, .int (nI k))] 65 []
              skip
              refine r_aload_n hX dX10_nameTold_65 rfl ?_
              refine r_iload hX dX10_nameTold_66 rfl ?_
              refine r_iconst hX (nI 2) dX10_nameTold_68 rfl ?_
              refine r_callVF (As := [.int (nI k), .int (nI 2)]) (rest := []) hX (c_X10_ofA hM σ A hR hV k 2 (by omega) (by omega)) dX10_nameTold_69 cb_X10_74 (hM.1 0 (9, 0) rfl) rfl rfl ⟨Nat.le_of_ble_eq_true rfl, Nat.le_of_ble_eq_true rfl⟩ ⟨Nat.le_of_ble_eq_true rfl, Nat.le_of_ble_eq_true rfl⟩ (Nat.le_of_ble_eq_true rfl) ?_
              refine r_iload_n hX dX10_nameTold_72 rfl ?_
              refine r_icmpN_ne hX dX10_nameTold_73 (by omega) (by omega) (fun c8 => ?_) (fun c8 => ?_)
              · skip
                refine r_iconst hX (nI 0) dX10_nameTold_97 rfl ?_
                refine r_istore hX [(0, .ref (L.1 0)), (1, .int (nI n)), (2, .int (nI q)), (3, .int (-1000000005)), (4, .int (nI k)), (5, .int (nI 0))] dX10_nameTold_98 hN5 rfl ?_
                refine r_iload hX dX10_nameTold_100 rfl ?_
                refine r_ifN_eq hX dX10_nameTold_102 (by decide) (fun c9 => ?_) (fun c9 => absurd c9 (by decide))
                refine r_iload_n hX dX10_nameTold_115 rfl ?_
                refine r_istore_n hX [(0, .ref (L.1 0)), (1, .int (nI n)), (2, .int (nI q)), (3, .int (-1000000005)), (4, .int (nI k)), (5, .int (nI 0))] dX10_nameTold_116 hN3 rfl ?_
                refine r_iincN (n := 1) hX [(0, .ref (L.1 0)), (1, .int (nI n)), (2, .int (nI q)), (3, .int (-1000000005)), (4, .int (nI (k + 1))), (5, .int (nI 0))] dX10_nameTold_117 rfl hN4 rfl ?_
                refine r_goto hX dX10_nameTold_120 ?_
                have q10 : (nI? (fh A n (k + 1))) = (-1000000005) := (by rw [fh_n1 c8, hfh]; rfl)
                exact At.less (At.to (ls := [(0, .ref (L.1 0)), (1, .int (nI n)), (2, .int (nI q)), (3, .int (-1000000005)), (4, .int (nI (k + 1)))]) ih6 (by rw [q10]) rfl rfl) (by simp)
              · skip
                refine r_iload_n hX dX10_nameTold_76 rfl ?_
                refine r_ldc hX dX10_nameTold_77 ko_X10_92 ?_
                refine r_icmp_eq hX dX10_nameTold_79 (fun c11 => ?_) (fun c11 => absurd rfl c11)
                refine r_iconst hX (nI 1) dX10_nameTold_93 rfl ?_
                refine r_goto hX dX10_nameTold_94 ?_
                refine r_istore hX [(0, .ref (L.1 0)), (1, .int (nI n)), (2, .int (nI q)), (3, .int (-1000000005)), (4, .int (nI k)), (5, .int (nI 1))] dX10_nameTold_98 hN5 rfl ?_
                refine r_iload hX dX10_nameTold_100 rfl ?_
                refine r_ifN_eq hX dX10_nameTold_102 (by decide) (fun c12 => absurd c12 (by decide)) (fun c12 => ?_)
                refine r_aload_n hX dX10_nameTold_105 rfl ?_
                refine r_iload hX dX10_nameTold_106 rfl ?_
                refine r_iconst hX (nI 3) dX10_nameTold_108 rfl ?_
                refine r_callVF (As := [.int (nI k), .int (nI 3)]) (rest := []) hX (c_X10_ofA hM σ A hR hV k 3 (by omega) (by omega)) dX10_nameTold_109 cb_X10_74 (hM.1 0 (9, 0) rfl) rfl rfl ⟨Nat.le_of_ble_eq_true rfl, Nat.le_of_ble_eq_true rfl⟩ ⟨Nat.le_of_ble_eq_true rfl, Nat.le_of_ble_eq_true rfl⟩ (Nat.le_of_ble_eq_true rfl) ?_
                refine r_goto hX dX10_nameTold_112 ?_
                refine r_istore_n hX [(0, .ref (L.1 0)), (1, .int (nI n)), (2, .int (nI q)), (3, .int (nI (aF A k 3))), (4, .int (nI k)), (5, .int (nI 1))] dX10_nameTold_116 hN3 rfl ?_
                refine r_iincN (n := 1) hX [(0, .ref (L.1 0)), (1, .int (nI n)), (2, .int (nI q)), (3, .int (nI (aF A k 3))), (4, .int (nI (k + 1))), (5, .int (nI 1))] dX10_nameTold_117 rfl hN4 rfl ?_
                refine r_goto hX dX10_nameTold_120 ?_
                have q13 : (nI? (fh A n (k + 1))) = nI (aF A k 3) := (by rw [fh_y c8 (Or.inl hfh)]; rfl)
                exact At.less (At.to (ls := [(0, .ref (L.1 0)), (1, .int (nI n)), (2, .int (nI q)), (3, .int (nI (aF A k 3))), (4, .int (nI (k + 1)))]) ih6 (by rw [q13]) rfl rfl) (by simp)
            · skip
              show At X L σ 0 0 [(0, .ref (L.1 0)), (1, .int (nI n)), (2, .int (nI q)), (3, .int (nI y)), (4, .int (nI k))] 65 []
              have hy := fh_lt hV n k (by omega) y hfh
              refine r_aload_n hX dX10_nameTold_65 rfl ?_
              refine r_iload hX dX10_nameTold_66 rfl ?_
              refine r_iconst hX (nI 2) dX10_nameTold_68 rfl ?_
              refine r_callVF (As := [.int (nI k), .int (nI 2)]) (rest := []) hX (c_X10_ofA hM σ A hR hV k 2 (by omega) (by omega)) dX10_nameTold_69 cb_X10_74 (hM.1 0 (9, 0) rfl) rfl rfl ⟨Nat.le_of_ble_eq_true rfl, Nat.le_of_ble_eq_true rfl⟩ ⟨Nat.le_of_ble_eq_true rfl, Nat.le_of_ble_eq_true rfl⟩ (Nat.le_of_ble_eq_true rfl) ?_
              refine r_iload_n hX dX10_nameTold_72 rfl ?_
              refine r_icmpN_ne hX dX10_nameTold_73 (by omega) (by omega) (fun c14 => ?_) (fun c14 => ?_)
              · skip
                refine r_iconst hX (nI 0) dX10_nameTold_97 rfl ?_
                refine r_istore hX [(0, .ref (L.1 0)), (1, .int (nI n)), (2, .int (nI q)), (3, .int (nI y)), (4, .int (nI k)), (5, .int (nI 0))] dX10_nameTold_98 hN5 rfl ?_
                refine r_iload hX dX10_nameTold_100 rfl ?_
                refine r_ifN_eq hX dX10_nameTold_102 (by decide) (fun c15 => ?_) (fun c15 => absurd c15 (by decide))
                refine r_iload_n hX dX10_nameTold_115 rfl ?_
                refine r_istore_n hX [(0, .ref (L.1 0)), (1, .int (nI n)), (2, .int (nI q)), (3, .int (nI y)), (4, .int (nI k)), (5, .int (nI 0))] dX10_nameTold_116 hN3 rfl ?_
                refine r_iincN (n := 1) hX [(0, .ref (L.1 0)), (1, .int (nI n)), (2, .int (nI q)), (3, .int (nI y)), (4, .int (nI (k + 1))), (5, .int (nI 0))] dX10_nameTold_117 rfl hN4 rfl ?_
                refine r_goto hX dX10_nameTold_120 ?_
                have q16 : (nI? (fh A n (k + 1))) = nI y := (by rw [fh_n1 c14, hfh]; rfl)
                exact At.less (At.to (ls := [(0, .ref (L.1 0)), (1, .int (nI n)), (2, .int (nI q)), (3, .int (nI y)), (4, .int (nI (k + 1)))]) ih6 (by rw [q16]) rfl rfl) (by simp)
              · skip
                refine r_iload_n hX dX10_nameTold_76 rfl ?_
                refine r_ldc hX dX10_nameTold_77 ko_X10_92 ?_
                refine r_icmp_eq hX dX10_nameTold_79 (fun c17 => absurd c17 (nneg_ne (by omega) (by decide))) (fun c17 => ?_)
                refine r_aload_n hX dX10_nameTold_82 rfl ?_
                refine r_iload hX dX10_nameTold_83 rfl ?_
                refine r_iconst hX (nI 3) dX10_nameTold_85 rfl ?_
                refine r_callVF (As := [.int (nI k), .int (nI 3)]) (rest := []) hX (c_X10_ofA hM σ A hR hV k 3 (by omega) (by omega)) dX10_nameTold_86 cb_X10_74 (hM.1 0 (9, 0) rfl) rfl rfl ⟨Nat.le_of_ble_eq_true rfl, Nat.le_of_ble_eq_true rfl⟩ ⟨Nat.le_of_ble_eq_true rfl, Nat.le_of_ble_eq_true rfl⟩ (Nat.le_of_ble_eq_true rfl) ?_
                refine r_iload_n hX dX10_nameTold_89 rfl ?_
                refine r_icmpN_ge hX dX10_nameTold_90 (by omega) (by omega) (fun c18 => ?_) (fun c18 => ?_)
                · skip
                  refine r_iconst hX (nI 0) dX10_nameTold_97 rfl ?_
                  refine r_istore hX [(0, .ref (L.1 0)), (1, .int (nI n)), (2, .int (nI q)), (3, .int (nI y)), (4, .int (nI k)), (5, .int (nI 0))] dX10_nameTold_98 hN5 rfl ?_
                  refine r_iload hX dX10_nameTold_100 rfl ?_
                  refine r_ifN_eq hX dX10_nameTold_102 (by decide) (fun c19 => ?_) (fun c19 => absurd c19 (by decide))
                  refine r_iload_n hX dX10_nameTold_115 rfl ?_
                  refine r_istore_n hX [(0, .ref (L.1 0)), (1, .int (nI n)), (2, .int (nI q)), (3, .int (nI y)), (4, .int (nI k)), (5, .int (nI 0))] dX10_nameTold_116 hN3 rfl ?_
                  refine r_iincN (n := 1) hX [(0, .ref (L.1 0)), (1, .int (nI n)), (2, .int (nI q)), (3, .int (nI y)), (4, .int (nI (k + 1))), (5, .int (nI 0))] dX10_nameTold_117 rfl hN4 rfl ?_
                  refine r_goto hX dX10_nameTold_120 ?_
                  have q20 : (nI? (fh A n (k + 1))) = nI y := (by rw [fh_n2 hfh c18, hfh]; rfl)
                  exact At.less (At.to (ls := [(0, .ref (L.1 0)), (1, .int (nI n)), (2, .int (nI q)), (3, .int (nI y)), (4, .int (nI (k + 1)))]) ih6 (by rw [q20]) rfl rfl) (by simp)
                · skip
                  refine r_iconst hX (nI 1) dX10_nameTold_93 rfl ?_
                  refine r_goto hX dX10_nameTold_94 ?_
                  refine r_istore hX [(0, .ref (L.1 0)), (1, .int (nI n)), (2, .int (nI q)), (3, .int (nI y)), (4, .int (nI k)), (5, .int (nI 1))] dX10_nameTold_98 hN5 rfl ?_
                  refine r_iload hX dX10_nameTold_100 rfl ?_
                  refine r_ifN_eq hX dX10_nameTold_102 (by decide) (fun c21 => absurd c21 (by decide)) (fun c21 => ?_)
                  refine r_aload_n hX dX10_nameTold_105 rfl ?_
                  refine r_iload hX dX10_nameTold_106 rfl ?_
                  refine r_iconst hX (nI 3) dX10_nameTold_108 rfl ?_
                  refine r_callVF (As := [.int (nI k), .int (nI 3)]) (rest := []) hX (c_X10_ofA hM σ A hR hV k 3 (by omega) (by omega)) dX10_nameTold_109 cb_X10_74 (hM.1 0 (9, 0) rfl) rfl rfl ⟨Nat.le_of_ble_eq_true rfl, Nat.le_of_ble_eq_true rfl⟩ ⟨Nat.le_of_ble_eq_true rfl, Nat.le_of_ble_eq_true rfl⟩ (Nat.le_of_ble_eq_true rfl) ?_
                  refine r_goto hX dX10_nameTold_112 ?_
                  refine r_istore_n hX [(0, .ref (L.1 0)), (1, .int (nI n)), (2, .int (nI q)), (3, .int (nI (aF A k 3))), (4, .int (nI k)), (5, .int (nI 1))] dX10_nameTold_116 hN3 rfl ?_
                  refine r_iincN (n := 1) hX [(0, .ref (L.1 0)), (1, .int (nI n)), (2, .int (nI q)), (3, .int (nI (aF A k 3))), (4, .int (nI (k + 1))), (5, .int (nI 1))] dX10_nameTold_117 rfl hN4 rfl ?_
                  refine r_goto hX dX10_nameTold_120 ?_
                  have q22 : (nI? (fh A n (k + 1))) = nI (aF A k 3) := (by rw [fh_y c14 (Or.inr ⟨y, hfh, c18⟩)]; rfl)
                  exact At.less (At.to (ls := [(0, .ref (L.1 0)), (1, .int (nI n)), (2, .int (nI q)), (3, .int (nI (aF A k 3))), (4, .int (nI (k + 1)))]) ih6 (by rw [q22]) rfl rfl) (by simp)
        exact At.to (P4 0 (Nat.zero_le _)) rfl rfl rfl
      · skip
        refine r_iload_n hX dX10_nameTold_25 rfl ?_
        refine r_ifN_ne hX dX10_nameTold_26 (by omega) (fun c23 => ?_) (fun c23 => ?_)
        · skip
          refine r_aload_n hX dX10_nameTold_41 rfl ?_
          refine r_iconst hX (nI 2) dX10_nameTold_42 rfl ?_
          refine r_iload_n hX dX10_nameTold_43 rfl ?_
          refine r_callVF (As := [.int (nI 2), .int (nI n)]) (rest := []) hX (c_X10_wordsOf hM σ A hR hV 2 n (by omega) (by omega)) dX10_nameTold_44 cb_X10_82 (hM.1 0 (9, 0) rfl) rfl rfl ⟨Nat.le_of_ble_eq_true rfl, Nat.le_of_ble_eq_true rfl⟩ ⟨Nat.le_of_ble_eq_true rfl, Nat.le_of_ble_eq_true rfl⟩ (Nat.le_of_ble_eq_true rfl) ?_
          exact r_ireturn hX hQ dX10_nameTold_47 ⟨Nat.le_of_ble_eq_true rfl, Nat.le_of_ble_eq_true rfl⟩ (PI.mk ⟨by rw [oNameTold, if_pos c1, if_neg (by rw [show q = 1 by omega]; decide), if_pos (by rw [show q = 1 by omega]), nI_clamp (by omega)], (Sm.rf σ)⟩)
        · skip
          refine r_aload_n hX dX10_nameTold_29 rfl ?_
          refine r_getR hX dX10_nameTold_30 fl_X10_9 (hM.1 0 (9, 0) rfl) rfl (hM.2 0 1 rfl) ?_
          refine r_bipush hX (nI 17) dX10_nameTold_33 rfl ?_
          refine r_iload_n hX dX10_nameTold_35 rfl ?_
          refine r_iaddN hX dX10_nameTold_36 ?_
          refine r_aldN hX dX10_nameTold_37 (hM.1 1 (10, 1605) rfl) (by decide) (by omega) (nI (aE A n)) (hR.2.2.2.2.2.2.1 _ hn) ?_
          refine r_goto hX dX10_nameTold_38 ?_
          exact r_ireturn hX hQ dX10_nameTold_47 ⟨Nat.le_of_ble_eq_true rfl, Nat.le_of_ble_eq_true rfl⟩ (PI.mk ⟨by rw [oNameTold, if_pos c1, if_pos (by rw [show q = 0 by omega]), nI_clamp (by omega)], (Sm.rf σ)⟩)
    · skip
      refine r_ldc hX dX10_nameTold_17 ko_X10_72 ?_
      exact r_ireturn hX hQ dX10_nameTold_19 ⟨Nat.le_of_ble_eq_true rfl, Nat.le_of_ble_eq_true rfl⟩ (PI.mk ⟨by rw [oNameTold, if_pos c1, if_neg (fun e => by rw [e] at c2; exact absurd c2 (by decide)), if_neg (fun e => by rw [e] at c2; exact absurd c2 (by decide)), if_neg (fun e => by rw [e] at c2; exact absurd c2 (by decide))], (Sm.rf σ)⟩)

set_option maxHeartbeats 4000000 in
set_option maxRecDepth 100000 in
theorem c_X10_told {l : Launch} {D : Ds} {L : La} (hM : MAt L) (σ : Me) (A : Al) (hR : RM (σ 1) A) (hV : Va A) (wo wh : Int32) : Ct l yX10_told cX10_told 3 (some .int) { frames := 5, cells := 0, slots := 0, locals := 111 } D L σ [.ref (L.1 0), .int wo, .int wh] (PI L (fun r σ2 => r = oTold A wo wh ∧ Sm σ σ2)) := by
  refine Ct.of (by decide) (Nat.le_of_ble_eq_true rfl) ?_
  intro X hl hD hnl hX0 hQ
  have hX : Ok X cX10_told RX10 "told" { frames := 5, cells := 0, slots := 0, locals := 111 } (some .int) := hX0
  have hT := hV.1
  have hNn := hV.2.1
  have hW := hV.2.2.1
  show At X L σ 0 0 [(0, .ref (L.1 0)), (1, .int wo), (2, .int wh)] 0 []
  refine r_aload_n hX dX10_told_0 rfl ?_
  refine r_iload_n hX dX10_told_1 rfl ?_
  refine r_callVF (As := [.int wo]) (rest := []) hX (c_X10_isWord hM σ A hR wo) dX10_told_2 cb_X10_126 (hM.1 0 (9, 0) rfl) rfl rfl ⟨Nat.le_of_ble_eq_true rfl, Nat.le_of_ble_eq_true rfl⟩ ⟨Nat.le_of_ble_eq_true rfl, Nat.le_of_ble_eq_true rfl⟩ (Nat.le_of_ble_eq_true rfl) ?_
  refine r_ifB_eq hX dX10_told_5 (fun c1 => ?_) (fun c1 => ?_)
  · skip
    refine r_ldc hX dX10_told_18 ko_X10_72 ?_
    exact r_ireturn hX hQ dX10_told_20 ⟨Nat.le_of_ble_eq_true rfl, Nat.le_of_ble_eq_true rfl⟩ (PI.mk ⟨by rw [oTold, if_neg (by rw [c1]; decide)], (Sm.rf σ)⟩)
  · skip
    obtain ⟨w, hw, rfl⟩ := isB_nat c1 (by omega)
    have hwf := hV.2.2.2.2.2.2.1 w hw
    refine r_iload_n hX dX10_told_8 rfl ?_
    refine r_iconst hX (nI 0) dX10_told_9 rfl ?_
    refine r_bipush hX (nI 8) dX10_told_10 rfl ?_
    refine r_callSF (As := [.int wh, .int (nI 0), .int (nI 8)]) (rest := []) hX (c_X10_in σ wh (nI 0) (nI 8)) dX10_told_12 cb_X10_68 rfl rfl ⟨Nat.le_of_ble_eq_true rfl, Nat.le_of_ble_eq_true rfl⟩ ⟨Nat.le_of_ble_eq_true rfl, Nat.le_of_ble_eq_true rfl⟩ (Nat.le_of_ble_eq_true rfl) ?_
    refine r_ifB_ne hX dX10_told_15 (fun c2 => ?_) (fun c2 => ?_)
    · skip
      obtain ⟨q, hql, hq, rfl⟩ := inB_nat c2 (by decide) (by decide)
      refine r_iload_n hX dX10_told_21 rfl ?_
      rcases (show q = 0 ∨ q = 1 ∨ q = 2 ∨ q = 3 ∨ q = 4 ∨ q = 5 ∨ q = 6 ∨ q = 7 ∨ q = 8 from (by omega)) with rfl | rfl | rfl | rfl | rfl | rfl | rfl | rfl | rfl
      · skip
        refine r_tabOut hX 98 dX10_told_22 (by rw [nI_toInt (by decide)]; decide) (by decide) ?_
        refine r_aload_n hX dX10_told_98 rfl ?_
        refine r_iload_n hX dX10_told_99 rfl ?_
        refine r_iload_n hX dX10_told_100 rfl ?_
        refine r_callVF (As := [.int (nI w), .int (nI 0)]) (rest := []) hX (c_X10_ofA hM σ A hR hV w 0 (by omega) (by omega)) dX10_told_101 cb_X10_74 (hM.1 0 (9, 0) rfl) rfl rfl ⟨Nat.le_of_ble_eq_true rfl, Nat.le_of_ble_eq_true rfl⟩ ⟨Nat.le_of_ble_eq_true rfl, Nat.le_of_ble_eq_true rfl⟩ (Nat.le_of_ble_eq_true rfl) ?_
        exact r_ireturn hX hQ dX10_told_104 ⟨Nat.le_of_ble_eq_true rfl, Nat.le_of_ble_eq_true rfl⟩ (PI.mk ⟨by rw [oTold, if_pos c1, if_pos rfl, nI_clamp (by omega)], (Sm.rf σ)⟩)
      · skip
        refine r_tabOut hX 98 dX10_told_22 (by rw [nI_toInt (by decide)]; decide) (by decide) ?_
        refine r_aload_n hX dX10_told_98 rfl ?_
        refine r_iload_n hX dX10_told_99 rfl ?_
        refine r_iload_n hX dX10_told_100 rfl ?_
        refine r_callVF (As := [.int (nI w), .int (nI 1)]) (rest := []) hX (c_X10_ofA hM σ A hR hV w 1 (by omega) (by omega)) dX10_told_101 cb_X10_74 (hM.1 0 (9, 0) rfl) rfl rfl ⟨Nat.le_of_ble_eq_true rfl, Nat.le_of_ble_eq_true rfl⟩ ⟨Nat.le_of_ble_eq_true rfl, Nat.le_of_ble_eq_true rfl⟩ (Nat.le_of_ble_eq_true rfl) ?_
        exact r_ireturn hX hQ dX10_told_104 ⟨Nat.le_of_ble_eq_true rfl, Nat.le_of_ble_eq_true rfl⟩ (PI.mk ⟨by rw [oTold, if_pos c1, if_neg (by decide), if_pos rfl, nI_clamp (by omega)], (Sm.rf σ)⟩)
      · skip
        refine r_tabOut hX 98 dX10_told_22 (by rw [nI_toInt (by decide)]; decide) (by decide) ?_
        refine r_aload_n hX dX10_told_98 rfl ?_
        refine r_iload_n hX dX10_told_99 rfl ?_
        refine r_iload_n hX dX10_told_100 rfl ?_
        refine r_callVF (As := [.int (nI w), .int (nI 2)]) (rest := []) hX (c_X10_ofA hM σ A hR hV w 2 (by omega) (by omega)) dX10_told_101 cb_X10_74 (hM.1 0 (9, 0) rfl) rfl rfl ⟨Nat.le_of_ble_eq_true rfl, Nat.le_of_ble_eq_true rfl⟩ ⟨Nat.le_of_ble_eq_true rfl, Nat.le_of_ble_eq_true rfl⟩ (Nat.le_of_ble_eq_true rfl) ?_
        exact r_ireturn hX hQ dX10_told_104 ⟨Nat.le_of_ble_eq_true rfl, Nat.le_of_ble_eq_true rfl⟩ (PI.mk ⟨by rw [oTold, if_pos c1, if_neg (by decide), if_neg (by decide), if_pos rfl, nI_clamp (by omega)], (Sm.rf σ)⟩)
      · skip
        refine r_tabOut hX 98 dX10_told_22 (by rw [nI_toInt (by decide)]; decide) (by decide) ?_
        refine r_aload_n hX dX10_told_98 rfl ?_
        refine r_iload_n hX dX10_told_99 rfl ?_
        refine r_iload_n hX dX10_told_100 rfl ?_
        refine r_callVF (As := [.int (nI w), .int (nI 3)]) (rest := []) hX (c_X10_ofA hM σ A hR hV w 3 (by omega) (by omega)) dX10_told_101 cb_X10_74 (hM.1 0 (9, 0) rfl) rfl rfl ⟨Nat.le_of_ble_eq_true rfl, Nat.le_of_ble_eq_true rfl⟩ ⟨Nat.le_of_ble_eq_true rfl, Nat.le_of_ble_eq_true rfl⟩ (Nat.le_of_ble_eq_true rfl) ?_
        exact r_ireturn hX hQ dX10_told_104 ⟨Nat.le_of_ble_eq_true rfl, Nat.le_of_ble_eq_true rfl⟩ (PI.mk ⟨by rw [oTold, if_pos c1, if_neg (by decide), if_neg (by decide), if_neg (by decide), if_pos rfl, nI_clamp (by omega)], (Sm.rf σ)⟩)
      · skip
        refine r_tabOut hX 98 dX10_told_22 (by rw [nI_toInt (by decide)]; decide) (by decide) ?_
        refine r_aload_n hX dX10_told_98 rfl ?_
        refine r_iload_n hX dX10_told_99 rfl ?_
        refine r_iload_n hX dX10_told_100 rfl ?_
        refine r_callVF (As := [.int (nI w), .int (nI 4)]) (rest := []) hX (c_X10_ofA hM σ A hR hV w 4 (by omega) (by omega)) dX10_told_101 cb_X10_74 (hM.1 0 (9, 0) rfl) rfl rfl ⟨Nat.le_of_ble_eq_true rfl, Nat.le_of_ble_eq_true rfl⟩ ⟨Nat.le_of_ble_eq_true rfl, Nat.le_of_ble_eq_true rfl⟩ (Nat.le_of_ble_eq_true rfl) ?_
        exact r_ireturn hX hQ dX10_told_104 ⟨Nat.le_of_ble_eq_true rfl, Nat.le_of_ble_eq_true rfl⟩ (PI.mk ⟨by rw [oTold, if_pos c1, if_neg (by decide), if_neg (by decide), if_neg (by decide), if_neg (by decide), if_pos rfl, nI_clamp (by omega)], (Sm.rf σ)⟩)
      · skip
        refine r_tabInN (v := 5) hX 52 dX10_told_22 (by decide) (by decide) (by decide) 30 rfl (by decide) ?_
        refine r_aload_n hX dX10_told_52 rfl ?_
        refine r_iload_n hX dX10_told_53 rfl ?_
        refine r_callVI (As := [.int (nI w)]) (rest := []) hX (c_X10_weight hM σ A hR hV w (by omega)) dX10_told_54 cb_X10_129 (hM.1 0 (9, 0) rfl) rfl rfl ⟨Nat.le_of_ble_eq_true rfl, Nat.le_of_ble_eq_true rfl⟩ ⟨Nat.le_of_ble_eq_true rfl, Nat.le_of_ble_eq_true rfl⟩ (Nat.le_of_ble_eq_true rfl) (fun r3 σ4 h5 => ?_)
        obtain ⟨rfl, hS6⟩ := h5
        have hR7 := hS6.rm hR
        exact r_ireturn hX hQ dX10_told_57 ⟨Nat.le_of_ble_eq_true rfl, Nat.le_of_ble_eq_true rfl⟩ (PI.mk ⟨by rw [oTold, if_pos c1, if_neg (by decide), if_neg (by decide), if_neg (by decide), if_neg (by decide), if_neg (by decide), if_pos rfl, nI_clamp (by omega)], (Sm.tr (Sm.rf σ) hS6.sm)⟩)
      · skip
        refine r_tabInN (v := 6) hX 58 dX10_told_22 (by decide) (by decide) (by decide) 36 rfl (by decide) ?_
        refine r_aload_n hX dX10_told_58 rfl ?_
        refine r_iload_n hX dX10_told_59 rfl ?_
        refine r_iconst hX (nI 0) dX10_told_60 rfl ?_
        refine r_callVF (As := [.int (nI w), .int (nI 0)]) (rest := []) hX (c_X10_ofA hM σ A hR hV w 0 (by omega) (by omega)) dX10_told_61 cb_X10_74 (hM.1 0 (9, 0) rfl) rfl rfl ⟨Nat.le_of_ble_eq_true rfl, Nat.le_of_ble_eq_true rfl⟩ ⟨Nat.le_of_ble_eq_true rfl, Nat.le_of_ble_eq_true rfl⟩ (Nat.le_of_ble_eq_true rfl) ?_
        refine r_aload_n hX dX10_told_64 rfl ?_
        refine r_iload_n hX dX10_told_65 rfl ?_
        refine r_iconst hX (nI 4) dX10_told_66 rfl ?_
        refine r_callVF (As := [.int (nI w), .int (nI 4)]) (rest := [.int (nI (aF A w 0))]) hX (c_X10_ofA hM σ A hR hV w 4 (by omega) (by omega)) dX10_told_67 cb_X10_74 (hM.1 0 (9, 0) rfl) rfl rfl ⟨Nat.le_of_ble_eq_true rfl, Nat.le_of_ble_eq_true rfl⟩ ⟨Nat.le_of_ble_eq_true rfl, Nat.le_of_ble_eq_true rfl⟩ (Nat.le_of_ble_eq_true rfl) ?_
        refine r_callSF (As := [.int (nI (aF A w 0)), .int (nI (aF A w 4))]) (rest := []) hX (c_X10_says σ (aF A w 0) (aF A w 4) (by omega) (by omega) (by omega)) dX10_told_70 cb_X10_132 rfl rfl ⟨Nat.le_of_ble_eq_true rfl, Nat.le_of_ble_eq_true rfl⟩ ⟨Nat.le_of_ble_eq_true rfl, Nat.le_of_ble_eq_true rfl⟩ (Nat.le_of_ble_eq_true rfl) ?_
        exact r_ireturn hX hQ dX10_told_73 ⟨Nat.le_of_ble_eq_true rfl, Nat.le_of_ble_eq_true rfl⟩ (PI.mk ⟨by rw [oTold, if_pos c1, if_neg (by decide), if_neg (by decide), if_neg (by decide), if_neg (by decide), if_neg (by decide), if_neg (by decide), if_pos rfl, nI_clamp (by omega)], (Sm.rf σ)⟩)
      · skip
        refine r_tabInN (v := 7) hX 74 dX10_told_22 (by decide) (by decide) (by decide) 52 rfl (by decide) ?_
        refine r_aload_n hX dX10_told_74 rfl ?_
        refine r_iload_n hX dX10_told_75 rfl ?_
        refine r_callVI (As := [.int (nI w)]) (rest := []) hX (c_X10_sign hM σ A hR hV w (by omega)) dX10_told_76 cb_X10_135 (hM.1 0 (9, 0) rfl) rfl rfl ⟨Nat.le_of_ble_eq_true rfl, Nat.le_of_ble_eq_true rfl⟩ ⟨Nat.le_of_ble_eq_true rfl, Nat.le_of_ble_eq_true rfl⟩ (Nat.le_of_ble_eq_true rfl) (fun r8 σ9 h10 => ?_)
        obtain ⟨rfl, hS11⟩ := h10
        have hR12 := hS11.rm hR
        exact r_ireturn hX hQ dX10_told_79 ⟨Nat.le_of_ble_eq_true rfl, Nat.le_of_ble_eq_true rfl⟩ (PI.mk ⟨by rw [oTold, if_pos c1, if_neg (by decide), if_neg (by decide), if_neg (by decide), if_neg (by decide), if_neg (by decide), if_neg (by decide), if_neg (by decide), if_pos rfl, nI_clamp (by omega)], (Sm.tr (Sm.rf σ) hS11.sm)⟩)
      · skip
        refine r_tabInN (v := 8) hX 80 dX10_told_22 (by decide) (by decide) (by decide) 58 rfl (by decide) ?_
        refine r_aload_n hX dX10_told_80 rfl ?_
        refine r_iload_n hX dX10_told_81 rfl ?_
        refine r_iconst hX (nI 0) dX10_told_82 rfl ?_
        refine r_callVF (As := [.int (nI w), .int (nI 0)]) (rest := []) hX (c_X10_ofA hM σ A hR hV w 0 (by omega) (by omega)) dX10_told_83 cb_X10_74 (hM.1 0 (9, 0) rfl) rfl rfl ⟨Nat.le_of_ble_eq_true rfl, Nat.le_of_ble_eq_true rfl⟩ ⟨Nat.le_of_ble_eq_true rfl, Nat.le_of_ble_eq_true rfl⟩ (Nat.le_of_ble_eq_true rfl) ?_
        refine r_callSF (As := [.int (nI (aF A w 0))]) (rest := []) hX (c_X10_isTrue σ (aF A w 0) (by omega)) dX10_told_86 cb_X10_138 rfl rfl ⟨Nat.le_of_ble_eq_true rfl, Nat.le_of_ble_eq_true rfl⟩ ⟨Nat.le_of_ble_eq_true rfl, Nat.le_of_ble_eq_true rfl⟩ (Nat.le_of_ble_eq_true rfl) ?_
        refine r_ifB_eq hX dX10_told_89 (fun c13 => ?_) (fun c13 => ?_)
        · skip
          refine r_iconst hX (nI 0) dX10_told_96 rfl ?_
          exact r_ireturn hX hQ dX10_told_97 ⟨Nat.le_of_ble_eq_true rfl, Nat.le_of_ble_eq_true rfl⟩ (PI.mk ⟨by rw [oTold, if_pos c1, if_neg (by decide), if_neg (by decide), if_neg (by decide), if_neg (by decide), if_neg (by decide), if_neg (by decide), if_neg (by decide), if_neg (by decide), if_pos rfl, nI_clamp (by omega), bI_f c13], (Sm.rf σ)⟩)
        · skip
          refine r_iconst hX (nI 1) dX10_told_92 rfl ?_
          refine r_goto hX dX10_told_93 ?_
          exact r_ireturn hX hQ dX10_told_97 ⟨Nat.le_of_ble_eq_true rfl, Nat.le_of_ble_eq_true rfl⟩ (PI.mk ⟨by rw [oTold, if_pos c1, if_neg (by decide), if_neg (by decide), if_neg (by decide), if_neg (by decide), if_neg (by decide), if_neg (by decide), if_neg (by decide), if_neg (by decide), if_pos rfl, nI_clamp (by omega), bI_t c13], (Sm.rf σ)⟩)
    · skip
      refine r_ldc hX dX10_told_18 ko_X10_72 ?_
      exact r_ireturn hX hQ dX10_told_20 ⟨Nat.le_of_ble_eq_true rfl, Nat.le_of_ble_eq_true rfl⟩ (PI.mk ⟨by rw [oTold, if_pos c1, if_neg (fun e => by rw [e] at c2; exact absurd c2 (by decide)), if_neg (fun e => by rw [e] at c2; exact absurd c2 (by decide)), if_neg (fun e => by rw [e] at c2; exact absurd c2 (by decide)), if_neg (fun e => by rw [e] at c2; exact absurd c2 (by decide)), if_neg (fun e => by rw [e] at c2; exact absurd c2 (by decide)), if_neg (fun e => by rw [e] at c2; exact absurd c2 (by decide)), if_neg (fun e => by rw [e] at c2; exact absurd c2 (by decide)), if_neg (fun e => by rw [e] at c2; exact absurd c2 (by decide)), if_neg (fun e => by rw [e] at c2; exact absurd c2 (by decide))], (Sm.rf σ)⟩)

set_option maxHeartbeats 4000000 in
set_option maxRecDepth 100000 in
theorem c_X10_as {l : Launch} {D : Ds} {L : La} (hM : MAt L) (σ : Me) (A : Al) (hR : RM (σ 1) A) (hV : Va A) (wo kd : Int32) : Ct l yX10_as cX10_as 3 (some .int) { frames := 2, cells := 0, slots := 0, locals := 43 } D L σ [.ref (L.1 0), .int wo, .int kd] (PF L σ (oAs A wo kd)) := by
  refine Ct.of (by decide) (Nat.le_of_ble_eq_true rfl) ?_
  intro X hl hD hnl hX0 hQ
  have hX : Ok X cX10_as RX10 "as" { frames := 2, cells := 0, slots := 0, locals := 43 } (some .int) := hX0
  have hT := hV.1
  have hNn := hV.2.1
  have hW := hV.2.2.1
  show At X L σ 0 0 [(0, .ref (L.1 0)), (1, .int wo), (2, .int kd)] 0 []
  refine r_aload_n hX dX10_as_0 rfl ?_
  refine r_iload_n hX dX10_as_1 rfl ?_
  refine r_callVF (As := [.int wo]) (rest := []) hX (c_X10_isWord hM σ A hR wo) dX10_as_2 cb_X10_126 (hM.1 0 (9, 0) rfl) rfl rfl ⟨Nat.le_of_ble_eq_true rfl, Nat.le_of_ble_eq_true rfl⟩ ⟨Nat.le_of_ble_eq_true rfl, Nat.le_of_ble_eq_true rfl⟩ (Nat.le_of_ble_eq_true rfl) ?_
  refine r_ifB_eq hX dX10_as_5 (fun c1 => ?_) (fun c1 => ?_)
  · skip
    refine r_ldc hX dX10_as_17 ko_X10_72 ?_
    exact r_ireturn hX hQ dX10_as_19 ⟨Nat.le_of_ble_eq_true rfl, Nat.le_of_ble_eq_true rfl⟩ (PF.mk (by rw [oAs, if_neg (fun e => by rw [e.1] at c1; cases c1)]))
  · skip
    obtain ⟨w, hw, rfl⟩ := isB_nat c1 (by omega)
    have hwf := hV.2.2.2.2.2.2.1 w hw
    refine r_iload_n hX dX10_as_8 rfl ?_
    refine r_iconst hX (nI 0) dX10_as_9 rfl ?_
    refine r_iconst hX (nI 5) dX10_as_10 rfl ?_
    refine r_callSF (As := [.int kd, .int (nI 0), .int (nI 5)]) (rest := []) hX (c_X10_in σ kd (nI 0) (nI 5)) dX10_as_11 cb_X10_68 rfl rfl ⟨Nat.le_of_ble_eq_true rfl, Nat.le_of_ble_eq_true rfl⟩ ⟨Nat.le_of_ble_eq_true rfl, Nat.le_of_ble_eq_true rfl⟩ (Nat.le_of_ble_eq_true rfl) ?_
    refine r_ifB_ne hX dX10_as_14 (fun c2 => ?_) (fun c2 => ?_)
    · skip
      obtain ⟨q, hql, hq, rfl⟩ := inB_nat c2 (by decide) (by decide)
      refine r_aload_n hX dX10_as_20 rfl ?_
      refine r_iload_n hX dX10_as_21 rfl ?_
      refine r_iconst hX (nI 0) dX10_as_22 rfl ?_
      refine r_callVF (As := [.int (nI w), .int (nI 0)]) (rest := []) hX (c_X10_ofA hM σ A hR hV w 0 (by omega) (by omega)) dX10_as_23 cb_X10_74 (hM.1 0 (9, 0) rfl) rfl rfl ⟨Nat.le_of_ble_eq_true rfl, Nat.le_of_ble_eq_true rfl⟩ ⟨Nat.le_of_ble_eq_true rfl, Nat.le_of_ble_eq_true rfl⟩ (Nat.le_of_ble_eq_true rfl) ?_
      refine r_iload_n hX dX10_as_26 rfl ?_
      refine r_callSF (As := [.int (nI (aF A w 0)), .int (nI q)]) (rest := []) hX (c_X10_isUnder σ (aF A w 0) q (by omega) (by omega)) dX10_as_27 cb_X10_106 rfl rfl ⟨Nat.le_of_ble_eq_true rfl, Nat.le_of_ble_eq_true rfl⟩ ⟨Nat.le_of_ble_eq_true rfl, Nat.le_of_ble_eq_true rfl⟩ (Nat.le_of_ble_eq_true rfl) ?_
      refine r_ifB_eq hX dX10_as_30 (fun c3 => ?_) (fun c3 => ?_)
      · skip
        refine r_ldc hX dX10_as_42 ko_X10_141 ?_
        exact r_ireturn hX hQ dX10_as_44 ⟨Nat.le_of_ble_eq_true rfl, Nat.le_of_ble_eq_true rfl⟩ (PF.mk (by rw [oAs, if_pos ⟨c1, c2⟩, nI_clamp (by omega), nI_clamp (by omega), if_neg (by rw [c3]; decide)]))
      · skip
        refine r_aload_n hX dX10_as_33 rfl ?_
        refine r_iload_n hX dX10_as_34 rfl ?_
        refine r_iconst hX (nI 4) dX10_as_35 rfl ?_
        refine r_callVF (As := [.int (nI w), .int (nI 4)]) (rest := []) hX (c_X10_ofA hM σ A hR hV w 4 (by omega) (by omega)) dX10_as_36 cb_X10_74 (hM.1 0 (9, 0) rfl) rfl rfl ⟨Nat.le_of_ble_eq_true rfl, Nat.le_of_ble_eq_true rfl⟩ ⟨Nat.le_of_ble_eq_true rfl, Nat.le_of_ble_eq_true rfl⟩ (Nat.le_of_ble_eq_true rfl) ?_
        refine r_goto hX dX10_as_39 ?_
        exact r_ireturn hX hQ dX10_as_44 ⟨Nat.le_of_ble_eq_true rfl, Nat.le_of_ble_eq_true rfl⟩ (PF.mk (by rw [oAs, if_pos ⟨c1, c2⟩, nI_clamp (by omega), nI_clamp (by omega), if_pos c3]))
    · skip
      refine r_ldc hX dX10_as_17 ko_X10_72 ?_
      exact r_ireturn hX hQ dX10_as_19 ⟨Nat.le_of_ble_eq_true rfl, Nat.le_of_ble_eq_true rfl⟩ (PF.mk (by rw [oAs, if_neg (fun e => by rw [e.2] at c2; cases c2)]))

set_option maxHeartbeats 4000000 in
set_option maxRecDepth 100000 in
theorem c_X10_mean {l : Launch} {D : Ds} {L : La} (hM : MAt L) (σ : Me) (A : Al) (hR : RM (σ 1) A) (hV : Va A) (th wh : Int32) : Ct l yX10_mean cX10_mean 3 (some .int) { frames := 6, cells := 0, slots := 0, locals := 135 } D L σ [.ref (L.1 0), .int th, .int wh] (PI L (fun r σ2 => r = oMean A th wh ∧ Sm σ σ2)) := by
  refine Ct.of (by decide) (Nat.le_of_ble_eq_true rfl) ?_
  intro X hl hD hnl hX0 hQ
  have hX : Ok X cX10_mean RX10 "mean" { frames := 6, cells := 0, slots := 0, locals := 135 } (some .int) := hX0
  have hT := hV.1
  have hNn := hV.2.1
  have hW := hV.2.2.1
  show At X L σ 0 0 [(0, .ref (L.1 0)), (1, .int th), (2, .int wh)] 0 []
  refine r_aload_n hX dX10_mean_0 rfl ?_
  refine r_iload_n hX dX10_mean_1 rfl ?_
  refine r_callVF (As := [.int th]) (rest := []) hX (c_X10_isThing hM σ A hR th) dX10_mean_2 cb_X10_78 (hM.1 0 (9, 0) rfl) rfl rfl ⟨Nat.le_of_ble_eq_true rfl, Nat.le_of_ble_eq_true rfl⟩ ⟨Nat.le_of_ble_eq_true rfl, Nat.le_of_ble_eq_true rfl⟩ (Nat.le_of_ble_eq_true rfl) ?_
  refine r_ifB_eq hX dX10_mean_5 (fun c1 => ?_) (fun c1 => ?_)
  · skip
    refine r_ldc hX dX10_mean_17 ko_X10_72 ?_
    exact r_ireturn hX hQ dX10_mean_19 ⟨Nat.le_of_ble_eq_true rfl, Nat.le_of_ble_eq_true rfl⟩ (PI.mk ⟨by rw [oMean, if_neg (by rw [c1]; decide)], (Sm.rf σ)⟩)
  · skip
    obtain ⟨t, ht, rfl⟩ := isB_nat c1 (by omega)
    have g0 := cw_le A 1 t (aW A)
    have g2 := sW_le hV t _ (Nat.le_refl _)
    have g3 := sM_le hV t _ (Nat.le_refl _)
    have g4 := sG_le hV t _ (Nat.le_refl _)
    have g5 := sS_le hV t _ (Nat.le_refl _)
    refine r_iload_n hX dX10_mean_8 rfl ?_
    refine r_iconst hX (nI 0) dX10_mean_9 rfl ?_
    refine r_iconst hX (nI 5) dX10_mean_10 rfl ?_
    refine r_callSF (As := [.int wh, .int (nI 0), .int (nI 5)]) (rest := []) hX (c_X10_in σ wh (nI 0) (nI 5)) dX10_mean_11 cb_X10_68 rfl rfl ⟨Nat.le_of_ble_eq_true rfl, Nat.le_of_ble_eq_true rfl⟩ ⟨Nat.le_of_ble_eq_true rfl, Nat.le_of_ble_eq_true rfl⟩ (Nat.le_of_ble_eq_true rfl) ?_
    refine r_ifB_ne hX dX10_mean_14 (fun c2 => ?_) (fun c2 => ?_)
    · skip
      obtain ⟨q, hql, hq, rfl⟩ := inB_nat c2 (by decide) (by decide)
      refine r_aload_n hX dX10_mean_20 rfl ?_
      refine r_iload_n hX dX10_mean_21 rfl ?_
      refine r_callVV (As := [.int (nI t)]) (rest := []) hX (c_X10_sums hM σ A hR hV t (by omega)) dX10_mean_22 cb_X10_174 (hM.1 0 (9, 0) rfl) rfl rfl ⟨Nat.le_of_ble_eq_true rfl, Nat.le_of_ble_eq_true rfl⟩ ⟨Nat.le_of_ble_eq_true rfl, Nat.le_of_ble_eq_true rfl⟩ (Nat.le_of_ble_eq_true rfl) (fun σ3 h4 => ?_)
      obtain ⟨hU6, hS5⟩ := h4
      have hR7 := hS5.rm hR
      refine r_iload_n hX dX10_mean_25 rfl ?_
      rcases (show q = 0 ∨ q = 1 ∨ q = 2 ∨ q = 3 ∨ q = 4 ∨ q = 5 from (by omega)) with rfl | rfl | rfl | rfl | rfl | rfl
      · skip
        refine r_tabInN (v := 0) hX 60 dX10_mean_26 (by decide) (by decide) (by decide) 34 rfl (by decide) ?_
        refine r_aload_n hX dX10_mean_60 rfl ?_
        refine r_iload_n hX dX10_mean_61 rfl ?_
        refine r_callVF (As := [.int (nI t)]) (rest := []) hX (c_X10_meanOf hM σ3 A hR7 hV t (by omega)) dX10_mean_62 cb_X10_171 (hM.1 0 (9, 0) rfl) rfl rfl ⟨Nat.le_of_ble_eq_true rfl, Nat.le_of_ble_eq_true rfl⟩ ⟨Nat.le_of_ble_eq_true rfl, Nat.le_of_ble_eq_true rfl⟩ (Nat.le_of_ble_eq_true rfl) ?_
        exact r_ireturn hX hQ dX10_mean_65 ⟨Nat.le_of_ble_eq_true rfl, Nat.le_of_ble_eq_true rfl⟩ (PI.mk ⟨by rw [oMean, if_pos c1, if_pos rfl, nI_clamp (by omega)], (Sm.tr (Sm.rf σ) hS5.sm)⟩)
      · skip
        refine r_tabInN (v := 1) hX 66 dX10_mean_26 (by decide) (by decide) (by decide) 40 rfl (by decide) ?_
        refine r_aload_n hX dX10_mean_66 rfl ?_
        refine r_getIV hX dX10_mean_67 fl_X10_156 (hM.1 0 (9, 0) rfl) rfl (nI (sm A t (wtN A) (aW A))) hU6.2.2.1 ?_
        refine r_ifN_ne hX dX10_mean_70 (by omega) (fun c8 => ?_) (fun c8 => ?_)
        · skip
          refine r_bipush hX (nI 100) dX10_mean_78 rfl ?_
          refine r_aload_n hX dX10_mean_80 rfl ?_
          refine r_getIV hX dX10_mean_81 fl_X10_159 (hM.1 0 (9, 0) rfl) rfl (nI (sm A t (gM A) (aW A))) hU6.2.2.2.1 ?_
          refine r_imulN hX dX10_mean_84 ?_
          refine r_aload_n hX dX10_mean_85 rfl ?_
          refine r_getIV hX dX10_mean_86 fl_X10_156 (hM.1 0 (9, 0) rfl) rfl (nI (sm A t (wtN A) (aW A))) hU6.2.2.1 ?_
          refine r_idivN hX dX10_mean_89 (by omega) (by omega) (by omega) ?_
          exact r_ireturn hX hQ dX10_mean_90 ⟨Nat.le_of_ble_eq_true rfl, Nat.le_of_ble_eq_true rfl⟩ (PI.mk ⟨by rw [oMean, if_pos c1, if_neg (by decide), if_pos rfl, nI_clamp (by omega), wdI, sW, sM, if_neg c8], (Sm.tr (Sm.rf σ) hS5.sm)⟩)
        · skip
          refine r_ldc hX dX10_mean_73 ko_X10_92 ?_
          refine r_goto hX dX10_mean_75 ?_
          exact r_ireturn hX hQ dX10_mean_90 ⟨Nat.le_of_ble_eq_true rfl, Nat.le_of_ble_eq_true rfl⟩ (PI.mk ⟨by rw [oMean, if_pos c1, if_neg (by decide), if_pos rfl, nI_clamp (by omega), wdI, sW, sM, if_pos c8], (Sm.tr (Sm.rf σ) hS5.sm)⟩)
      · skip
        refine r_tabInN (v := 2) hX 91 dX10_mean_26 (by decide) (by decide) (by decide) 65 rfl (by decide) ?_
        refine r_aload_n hX dX10_mean_91 rfl ?_
        refine r_getIV hX dX10_mean_92 fl_X10_156 (hM.1 0 (9, 0) rfl) rfl (nI (sm A t (wtN A) (aW A))) hU6.2.2.1 ?_
        refine r_ifN_ne hX dX10_mean_95 (by omega) (fun c9 => ?_) (fun c9 => ?_)
        · skip
          refine r_aload_n hX dX10_mean_103 rfl ?_
          refine r_getIV hX dX10_mean_104 fl_X10_162 (hM.1 0 (9, 0) rfl) rfl (nI (sm A t (gG A) (aW A))) hU6.2.2.2.2.1 ?_
          refine r_aload_n hX dX10_mean_107 rfl ?_
          refine r_getIV hX dX10_mean_108 fl_X10_156 (hM.1 0 (9, 0) rfl) rfl (nI (sm A t (wtN A) (aW A))) hU6.2.2.1 ?_
          refine r_idivN hX dX10_mean_111 (by omega) (by omega) (by omega) ?_
          exact r_ireturn hX hQ dX10_mean_112 ⟨Nat.le_of_ble_eq_true rfl, Nat.le_of_ble_eq_true rfl⟩ (PI.mk ⟨by rw [oMean, if_pos c1, if_neg (by decide), if_neg (by decide), if_pos rfl, nI_clamp (by omega), gdI, sW, sG, if_neg c9], (Sm.tr (Sm.rf σ) hS5.sm)⟩)
        · skip
          refine r_ldc hX dX10_mean_98 ko_X10_92 ?_
          refine r_goto hX dX10_mean_100 ?_
          exact r_ireturn hX hQ dX10_mean_112 ⟨Nat.le_of_ble_eq_true rfl, Nat.le_of_ble_eq_true rfl⟩ (PI.mk ⟨by rw [oMean, if_pos c1, if_neg (by decide), if_neg (by decide), if_pos rfl, nI_clamp (by omega), gdI, sW, sG, if_pos c9], (Sm.tr (Sm.rf σ) hS5.sm)⟩)
      · skip
        refine r_tabInN (v := 3) hX 113 dX10_mean_26 (by decide) (by decide) (by decide) 87 rfl (by decide) ?_
        refine r_aload_n hX dX10_mean_113 rfl ?_
        refine r_iload_n hX dX10_mean_114 rfl ?_
        refine r_iconst hX (nI 0) dX10_mean_115 rfl ?_
        refine r_callVF (As := [.int (nI t), .int (nI 0)]) (rest := []) hX (c_X10_spanOf hM σ3 A hR7 hV t 0 _ _ (by omega) (by decide) hU6.1 hU6.2.2.2.2.2 (by omega) (by omega)) dX10_mean_116 cb_X10_177 (hM.1 0 (9, 0) rfl) rfl rfl ⟨Nat.le_of_ble_eq_true rfl, Nat.le_of_ble_eq_true rfl⟩ ⟨Nat.le_of_ble_eq_true rfl, Nat.le_of_ble_eq_true rfl⟩ (Nat.le_of_ble_eq_true rfl) ?_
        exact r_ireturn hX hQ dX10_mean_119 ⟨Nat.le_of_ble_eq_true rfl, Nat.le_of_ble_eq_true rfl⟩ (PI.mk ⟨by rw [oMean, if_pos c1, if_neg (by decide), if_neg (by decide), if_neg (by decide), if_pos rfl, nI_clamp (by omega), sS], (Sm.tr (Sm.rf σ) hS5.sm)⟩)
      · skip
        refine r_tabInN (v := 4) hX 120 dX10_mean_26 (by decide) (by decide) (by decide) 94 rfl (by decide) ?_
        refine r_aload_n hX dX10_mean_120 rfl ?_
        refine r_iload_n hX dX10_mean_121 rfl ?_
        refine r_iconst hX (nI 1) dX10_mean_122 rfl ?_
        refine r_callVF (As := [.int (nI t), .int (nI 1)]) (rest := []) hX (c_X10_spanOf hM σ3 A hR7 hV t 1 _ _ (by omega) (by decide) hU6.1 hU6.2.2.2.2.2 (by omega) (by omega)) dX10_mean_123 cb_X10_177 (hM.1 0 (9, 0) rfl) rfl rfl ⟨Nat.le_of_ble_eq_true rfl, Nat.le_of_ble_eq_true rfl⟩ ⟨Nat.le_of_ble_eq_true rfl, Nat.le_of_ble_eq_true rfl⟩ (Nat.le_of_ble_eq_true rfl) ?_
        exact r_ireturn hX hQ dX10_mean_126 ⟨Nat.le_of_ble_eq_true rfl, Nat.le_of_ble_eq_true rfl⟩ (PI.mk ⟨by rw [oMean, if_pos c1, if_neg (by decide), if_neg (by decide), if_neg (by decide), if_neg (by decide), if_pos rfl, nI_clamp (by omega), sS], (Sm.tr (Sm.rf σ) hS5.sm)⟩)
      · skip
        refine r_tabOut hX 127 dX10_mean_26 (by rw [nI_toInt (by decide)]; decide) (by decide) ?_
        refine r_aload_n hX dX10_mean_127 rfl ?_
        refine r_iload_n hX dX10_mean_128 rfl ?_
        refine r_callVF (As := [.int (nI t)]) (rest := []) hX (c_X10_starWorth hM σ3 A hR7 hV t (by omega)) dX10_mean_129 cb_X10_181 (hM.1 0 (9, 0) rfl) rfl rfl ⟨Nat.le_of_ble_eq_true rfl, Nat.le_of_ble_eq_true rfl⟩ ⟨Nat.le_of_ble_eq_true rfl, Nat.le_of_ble_eq_true rfl⟩ (Nat.le_of_ble_eq_true rfl) ?_
        exact r_ireturn hX hQ dX10_mean_132 ⟨Nat.le_of_ble_eq_true rfl, Nat.le_of_ble_eq_true rfl⟩ (PI.mk ⟨by rw [oMean, if_pos c1, if_neg (by decide), if_neg (by decide), if_neg (by decide), if_neg (by decide), if_neg (by decide), if_pos rfl, nI_clamp (by omega)], (Sm.tr (Sm.rf σ) hS5.sm)⟩)
    · skip
      refine r_ldc hX dX10_mean_17 ko_X10_72 ?_
      exact r_ireturn hX hQ dX10_mean_19 ⟨Nat.le_of_ble_eq_true rfl, Nat.le_of_ble_eq_true rfl⟩ (PI.mk ⟨by rw [oMean, if_pos c1, if_neg (fun e => by rw [e] at c2; exact absurd c2 (by decide)), if_neg (fun e => by rw [e] at c2; exact absurd c2 (by decide)), if_neg (fun e => by rw [e] at c2; exact absurd c2 (by decide)), if_neg (fun e => by rw [e] at c2; exact absurd c2 (by decide)), if_neg (fun e => by rw [e] at c2; exact absurd c2 (by decide)), if_neg (fun e => by rw [e] at c2; exact absurd c2 (by decide))], (Sm.rf σ)⟩)

set_option maxHeartbeats 4000000 in
set_option maxRecDepth 100000 in
theorem c_X10_shelf {l : Launch} {D : Ds} {L : La} (hM : MAt L) (σ : Me) (A : Al) (hR : RM (σ 1) A) (hV : Va A) (p : Int32) : Ct l yX10_shelf cX10_shelf 2 (some .int) { frames := 9, cells := 0, slots := 0, locals := 203 } D L σ [.ref (L.1 0), .int p] (PI L (fun r σ2 => r = oShelf A p ∧ Sm σ σ2)) := by
  refine Ct.of (by decide) (Nat.le_of_ble_eq_true rfl) ?_
  intro X hl hD hnl hX0 hQ
  have hX : Ok X cX10_shelf RX10 "shelf" { frames := 9, cells := 0, slots := 0, locals := 203 } (some .int) := hX0
  show At X L σ 0 0 [(0, .ref (L.1 0)), (1, .int p)] 0 []
  refine r_iload_n hX dX10_shelf_0 rfl ?_
  refine r_if_ge hX dX10_shelf_1 (fun c1 => ?_) (fun c1 => ?_)
  · skip
    refine r_aload_n hX dX10_shelf_9 rfl ?_
    refine r_iload_n hX dX10_shelf_10 rfl ?_
    refine r_callVI (As := [.int p]) (rest := []) hX (c_X10_shelfAt hM σ A hR hV p ) dX10_shelf_11 cb_X10_193 (hM.1 0 (9, 0) rfl) rfl rfl ⟨Nat.le_of_ble_eq_true rfl, Nat.le_of_ble_eq_true rfl⟩ ⟨Nat.le_of_ble_eq_true rfl, Nat.le_of_ble_eq_true rfl⟩ (Nat.le_of_ble_eq_true rfl) (fun r2 σ3 h4 => ?_)
    obtain ⟨rfl, hS5⟩ := h4
    have hR6 := hS5.rm hR
    exact r_ireturn hX hQ dX10_shelf_14 ⟨Nat.le_of_ble_eq_true rfl, Nat.le_of_ble_eq_true rfl⟩ (PI.mk ⟨by rw [oShelf, if_neg (sgn_ge c1)], (Sm.tr (Sm.rf σ) hS5)⟩)
  · skip
    refine r_ldc hX dX10_shelf_4 ko_X10_72 ?_
    refine r_goto hX dX10_shelf_6 ?_
    exact r_ireturn hX hQ dX10_shelf_14 ⟨Nat.le_of_ble_eq_true rfl, Nat.le_of_ble_eq_true rfl⟩ (PI.mk ⟨by rw [oShelf, if_pos (sgn_lt c1)], (Sm.rf σ)⟩)
