set_option maxHeartbeats 4000000 in
set_option maxRecDepth 100000 in
theorem c_X10_changed {l : Launch} {D : Ds} {L : La} (hM : MAt L) (σ : Me) (A : Al) (hR : RM (σ 1) A) (hV : Va A) (th wh : Int32) : Ct l yX10_changed cX10_changed 8 (some .int) { frames := 3, cells := 0, slots := 0, locals := 72 } D L σ [.ref (L.1 0), .int th, .int wh] (PF L σ (oChanged A th wh)) := by
  refine Ct.of (by decide) (Nat.le_of_ble_eq_true rfl) ?_
  intro X hl hD hnl hX0 hQ
  have hX : Ok X cX10_changed RX10 "changed" { frames := 3, cells := 0, slots := 0, locals := 72 } (some .int) := hX0
  have hN3 : 3 < xn X := by rw [hnl]; decide
  have hN4 : 4 < xn X := by rw [hnl]; decide
  have hN5 : 5 < xn X := by rw [hnl]; decide
  have hN6 : 6 < xn X := by rw [hnl]; decide
  have hN7 : 7 < xn X := by rw [hnl]; decide
  have hT := hV.1
  have hNn := hV.2.1
  have hW := hV.2.2.1
  show At X L σ 0 0 [(0, .ref (L.1 0)), (1, .int th), (2, .int wh)] 0 []
  refine r_aload_n hX dX10_changed_0 rfl ?_
  refine r_iload_n hX dX10_changed_1 rfl ?_
  refine r_callVF (As := [.int th]) (rest := []) hX (c_X10_isThing hM σ A hR th) dX10_changed_2 cb_X10_78 (hM.1 0 (9, 0) rfl) rfl rfl ⟨Nat.le_of_ble_eq_true rfl, Nat.le_of_ble_eq_true rfl⟩ ⟨Nat.le_of_ble_eq_true rfl, Nat.le_of_ble_eq_true rfl⟩ (Nat.le_of_ble_eq_true rfl) ?_
  refine r_ifB_eq hX dX10_changed_5 (fun c1 => ?_) (fun c1 => ?_)
  · skip
    refine r_ldc hX dX10_changed_17 ko_X10_72 ?_
    exact r_ireturn hX hQ dX10_changed_19 ⟨Nat.le_of_ble_eq_true rfl, Nat.le_of_ble_eq_true rfl⟩ (PF.mk (by rw [oChanged, if_neg (fun e => by have e := e.1; rw [c1] at e; cases e)]))
  · skip
    obtain ⟨t, ht, rfl⟩ := isB_nat c1 (by omega)
    refine r_iload_n hX dX10_changed_8 rfl ?_
    refine r_iconst hX (nI 0) dX10_changed_9 rfl ?_
    refine r_iconst hX (nI 1) dX10_changed_10 rfl ?_
    refine r_callSF (As := [.int wh, .int (nI 0), .int (nI 1)]) (rest := []) hX (c_X10_in σ wh (nI 0) (nI 1)) dX10_changed_11 cb_X10_68 rfl rfl ⟨Nat.le_of_ble_eq_true rfl, Nat.le_of_ble_eq_true rfl⟩ ⟨Nat.le_of_ble_eq_true rfl, Nat.le_of_ble_eq_true rfl⟩ (Nat.le_of_ble_eq_true rfl) ?_
    refine r_ifB_ne hX dX10_changed_14 (fun c2 => ?_) (fun c2 => ?_)
    · skip
      obtain ⟨r, hrl, hr, rfl⟩ := inB_nat c2 (by decide) (by decide)
      refine r_ldc hX dX10_changed_20 ko_X10_92 ?_
      refine r_istore_n hX [(0, .ref (L.1 0)), (1, .int (nI t)), (2, .int (nI r)), (3, .int (-1000000005))] dX10_changed_22 hN3 rfl ?_
      refine r_iconst hX (-1) dX10_changed_23 rfl ?_
      refine r_istore hX [(0, .ref (L.1 0)), (1, .int (nI t)), (2, .int (nI r)), (3, .int (-1000000005)), (4, .int (-1))] dX10_changed_24 hN4 rfl ?_
      refine r_iconst hX (nI 0) dX10_changed_26 rfl ?_
      refine r_istore hX [(0, .ref (L.1 0)), (1, .int (nI t)), (2, .int (nI r)), (3, .int (-1000000005)), (4, .int (-1)), (5, .int (nI 0))] dX10_changed_27 hN5 rfl ?_
      have P3 : ∀ k, k ≤ aW A → At X L σ 0 0 [(0, .ref (L.1 0)), (1, .int (nI t)), (2, .int (nI r)), (3, .int (chH (chK A t k))), (4, .int (chM (chK A t k))), (5, .int (nI k))] 29 [] := by
        refine loopUp (aW A) ?_ ?_
        · skip
          refine r_iload hX dX10_changed_29 rfl ?_
          refine r_aload_n hX dX10_changed_31 rfl ?_
          refine r_getR hX dX10_changed_32 fl_X10_9 (hM.1 0 (9, 0) rfl) rfl (hM.2 0 1 rfl) ?_
          refine r_iconst hX (nI 2) dX10_changed_35 rfl ?_
          refine r_aldN hX dX10_changed_36 (hM.1 1 (10, 1605) rfl) (by decide) (by decide) (nI (aW A)) hR.2.2.1 ?_
          refine r_icmpN_ge hX dX10_changed_37 (by omega) (by omega) (fun c4 => ?_) (fun c4 => absurd c4 (by omega))
          rcases hch : chK A t (aW A) with _ | p
          · skip
            show At X L σ 0 0 [(0, .ref (L.1 0)), (1, .int (nI t)), (2, .int (nI r)), (3, .int (-1000000005)), (4, .int (-1)), (5, .int (nI (aW A)))] 111 []
            refine r_iload_n hX dX10_changed_111 rfl ?_
            refine r_ldc hX dX10_changed_112 ko_X10_92 ?_
            refine r_icmp_ne hX dX10_changed_114 (fun c5 => absurd rfl c5) (fun c5 => ?_)
            refine r_ldc hX dX10_changed_117 ko_X10_92 ?_
            refine r_goto hX dX10_changed_119 ?_
            exact r_ireturn hX hQ dX10_changed_132 ⟨Nat.le_of_ble_eq_true rfl, Nat.le_of_ble_eq_true rfl⟩ (PF.mk (by rw [oChanged, if_pos ⟨c1, c2⟩, nI_clamp (by omega), hch]))
          · skip
            show At X L σ 0 0 [(0, .ref (L.1 0)), (1, .int (nI t)), (2, .int (nI r)), (3, .int (nI p.1)), (4, .int (nI p.2)), (5, .int (nI (aW A)))] 111 []
            have hpl := chK_lt hV (Nat.le_refl _) hch
            refine r_iload_n hX dX10_changed_111 rfl ?_
            refine r_ldc hX dX10_changed_112 ko_X10_92 ?_
            refine r_icmp_ne hX dX10_changed_114 (fun c6 => ?_) (fun c6 => absurd c6 (nneg_ne (by omega) (by decide)))
            refine r_iload_n hX dX10_changed_122 rfl ?_
            refine r_ifN_ne hX dX10_changed_123 (by omega) (fun c7 => ?_) (fun c7 => ?_)
            · skip
              refine r_iload hX dX10_changed_130 rfl ?_
              exact r_ireturn hX hQ dX10_changed_132 ⟨Nat.le_of_ble_eq_true rfl, Nat.le_of_ble_eq_true rfl⟩ (PF.mk (by rw [oChanged, if_pos ⟨c1, c2⟩, nI_clamp (by omega), hch]; show _ = (if nI r = nI 0 then nI p.1 else nI p.2); rw [if_neg (by rw [show r = 1 by omega]; decide)]))
            · skip
              refine r_iload_n hX dX10_changed_126 rfl ?_
              refine r_goto hX dX10_changed_127 ?_
              exact r_ireturn hX hQ dX10_changed_132 ⟨Nat.le_of_ble_eq_true rfl, Nat.le_of_ble_eq_true rfl⟩ (PF.mk (by rw [oChanged, if_pos ⟨c1, c2⟩, nI_clamp (by omega), hch]; show _ = (if nI r = nI 0 then nI p.1 else nI p.2); rw [if_pos (by rw [show r = 0 by omega])]))
        · skip
          intro k hk ih8
          have hb1 := va_sm hV hk (f := 1) (by decide)
          have hb3 := va_sm hV hk (f := 3) (by decide)
          refine r_iload hX dX10_changed_29 rfl ?_
          refine r_aload_n hX dX10_changed_31 rfl ?_
          refine r_getR hX dX10_changed_32 fl_X10_9 (hM.1 0 (9, 0) rfl) rfl (hM.2 0 1 rfl) ?_
          refine r_iconst hX (nI 2) dX10_changed_35 rfl ?_
          refine r_aldN hX dX10_changed_36 (hM.1 1 (10, 1605) rfl) (by decide) (by decide) (nI (aW A)) hR.2.2.1 ?_
          refine r_icmpN_ge hX dX10_changed_37 (by omega) (by omega) (fun c9 => absurd c9 (by omega)) (fun c9 => ?_)
          rcases hch : chK A t k with _ | p
          · skip
            show At X L σ 0 0 [(0, .ref (L.1 0)), (1, .int (nI t)), (2, .int (nI r)), (3, .int (-1000000005)), (4, .int (-1)), (5, .int (nI k))] 40 []
            refine r_aload_n hX dX10_changed_40 rfl ?_
            refine r_iload hX dX10_changed_41 rfl ?_
            refine r_iconst hX (nI 3) dX10_changed_43 rfl ?_
            refine r_callVF (As := [.int (nI k), .int (nI 3)]) (rest := []) hX (c_X10_ofA hM σ A hR hV k 3 (by omega) (by omega)) dX10_changed_44 cb_X10_74 (hM.1 0 (9, 0) rfl) rfl rfl ⟨Nat.le_of_ble_eq_true rfl, Nat.le_of_ble_eq_true rfl⟩ ⟨Nat.le_of_ble_eq_true rfl, Nat.le_of_ble_eq_true rfl⟩ (Nat.le_of_ble_eq_true rfl) ?_
            refine r_istore hX [(0, .ref (L.1 0)), (1, .int (nI t)), (2, .int (nI r)), (3, .int (-1000000005)), (4, .int (-1)), (5, .int (nI k)), (6, .int (nI (aF A k 3)))] dX10_changed_47 hN6 rfl ?_
            refine r_aload_n hX dX10_changed_49 rfl ?_
            refine r_iload hX dX10_changed_50 rfl ?_
            refine r_iconst hX (nI 1) dX10_changed_52 rfl ?_
            refine r_callVF (As := [.int (nI k), .int (nI 1)]) (rest := []) hX (c_X10_ofA hM σ A hR hV k 1 (by omega) (by omega)) dX10_changed_53 cb_X10_74 (hM.1 0 (9, 0) rfl) rfl rfl ⟨Nat.le_of_ble_eq_true rfl, Nat.le_of_ble_eq_true rfl⟩ ⟨Nat.le_of_ble_eq_true rfl, Nat.le_of_ble_eq_true rfl⟩ (Nat.le_of_ble_eq_true rfl) ?_
            refine r_iload_n hX dX10_changed_56 rfl ?_
            refine r_icmpN_ne hX dX10_changed_57 (by omega) (by omega) (fun c10 => ?_) (fun c10 => ?_)
            · skip
              refine r_iconst hX (-1) dX10_changed_70 rfl ?_
              refine r_istore hX [(0, .ref (L.1 0)), (1, .int (nI t)), (2, .int (nI r)), (3, .int (-1000000005)), (4, .int (-1)), (5, .int (nI k)), (6, .int (nI (aF A k 3))), (7, .int (-1))] dX10_changed_71 hN7 rfl ?_
              refine r_iload hX dX10_changed_73 rfl ?_
              refine r_iload hX dX10_changed_75 rfl ?_
              refine r_icmp_gt hX dX10_changed_77 (fun c11 => absurd c11 (by decide)) (fun c11 => ?_)
              refine r_iload hX dX10_changed_80 rfl ?_
              refine r_if_lt hX dX10_changed_82 (fun c12 => ?_) (fun c12 => absurd c12 (by decide))
              refine r_iincN (n := 1) hX [(0, .ref (L.1 0)), (1, .int (nI t)), (2, .int (nI r)), (3, .int (-1000000005)), (4, .int (-1)), (5, .int (nI (k + 1))), (6, .int (nI (aF A k 3))), (7, .int (-1))] dX10_changed_105 rfl hN5 rfl ?_
              refine r_goto hX dX10_changed_108 ?_
              have q13 : (chH (chK A t (k + 1))) = (-1000000005) := (by rw [chK_no c10, hch]; rfl)
              have q14 : (chM (chK A t (k + 1))) = (-1) := (by rw [chK_no c10, hch]; rfl)
              exact At.less (At.to (ls := [(0, .ref (L.1 0)), (1, .int (nI t)), (2, .int (nI r)), (3, .int (-1000000005)), (4, .int (-1)), (5, .int (nI (k + 1)))]) ih8 (by rw [q13, q14]) rfl rfl) (by simp)
            · skip
              refine r_aload_n hX dX10_changed_60 rfl ?_
              refine r_iload_n hX dX10_changed_61 rfl ?_
              refine r_iload hX dX10_changed_62 rfl ?_
              refine r_callVF (As := [.int (nI t), .int (nI (aF A k 3))]) (rest := []) hX (c_X10_differ hM σ A hR hV t (aF A k 3) k (by omega) (by omega) hk c10 rfl) dX10_changed_64 cb_X10_212 (hM.1 0 (9, 0) rfl) rfl rfl ⟨Nat.le_of_ble_eq_true rfl, Nat.le_of_ble_eq_true rfl⟩ ⟨Nat.le_of_ble_eq_true rfl, Nat.le_of_ble_eq_true rfl⟩ (Nat.le_of_ble_eq_true rfl) ?_
              refine r_goto hX dX10_changed_67 ?_
              rcases hdf : dfO A t (aF A k 3) with _ | b
              · skip
                show At X L σ 0 0 [(0, .ref (L.1 0)), (1, .int (nI t)), (2, .int (nI r)), (3, .int (-1000000005)), (4, .int (-1)), (5, .int (nI k)), (6, .int (nI (aF A k 3)))] 71 [.int (-1)]
                refine r_istore hX [(0, .ref (L.1 0)), (1, .int (nI t)), (2, .int (nI r)), (3, .int (-1000000005)), (4, .int (-1)), (5, .int (nI k)), (6, .int (nI (aF A k 3))), (7, .int (-1))] dX10_changed_71 hN7 rfl ?_
                refine r_iload hX dX10_changed_73 rfl ?_
                refine r_iload hX dX10_changed_75 rfl ?_
                refine r_icmp_gt hX dX10_changed_77 (fun c15 => absurd c15 (by decide)) (fun c15 => ?_)
                refine r_iload hX dX10_changed_80 rfl ?_
                refine r_if_lt hX dX10_changed_82 (fun c16 => ?_) (fun c16 => absurd c16 (by decide))
                refine r_iincN (n := 1) hX [(0, .ref (L.1 0)), (1, .int (nI t)), (2, .int (nI r)), (3, .int (-1000000005)), (4, .int (-1)), (5, .int (nI (k + 1))), (6, .int (nI (aF A k 3))), (7, .int (-1))] dX10_changed_105 rfl hN5 rfl ?_
                refine r_goto hX dX10_changed_108 ?_
                have q17 : (chH (chK A t (k + 1))) = (-1000000005) := (by rw [chK_0 c10 hdf, hch]; rfl)
                have q18 : (chM (chK A t (k + 1))) = (-1) := (by rw [chK_0 c10 hdf, hch]; rfl)
                exact At.less (At.to (ls := [(0, .ref (L.1 0)), (1, .int (nI t)), (2, .int (nI r)), (3, .int (-1000000005)), (4, .int (-1)), (5, .int (nI (k + 1)))]) ih8 (by rw [q17, q18]) rfl rfl) (by simp)
              · skip
                show At X L σ 0 0 [(0, .ref (L.1 0)), (1, .int (nI t)), (2, .int (nI r)), (3, .int (-1000000005)), (4, .int (-1)), (5, .int (nI k)), (6, .int (nI (aF A k 3)))] 71 [.int (nI b)]
                have hbl := dfO_lt hV hdf
                refine r_istore hX [(0, .ref (L.1 0)), (1, .int (nI t)), (2, .int (nI r)), (3, .int (-1000000005)), (4, .int (-1)), (5, .int (nI k)), (6, .int (nI (aF A k 3))), (7, .int (nI b))] dX10_changed_71 hN7 rfl ?_
                refine r_iload hX dX10_changed_73 rfl ?_
                refine r_iload hX dX10_changed_75 rfl ?_
                refine r_icmp_gt hX dX10_changed_77 (fun c19 => ?_) (fun c19 => absurd (nlt1 (by omega) (by decide)) c19)
                refine r_iload hX dX10_changed_98 rfl ?_
                refine r_istore_n hX [(0, .ref (L.1 0)), (1, .int (nI t)), (2, .int (nI r)), (3, .int (nI (aF A k 3))), (4, .int (-1)), (5, .int (nI k)), (6, .int (nI (aF A k 3))), (7, .int (nI b))] dX10_changed_100 hN3 rfl ?_
                refine r_iload hX dX10_changed_101 rfl ?_
                refine r_istore hX [(0, .ref (L.1 0)), (1, .int (nI t)), (2, .int (nI r)), (3, .int (nI (aF A k 3))), (4, .int (nI b)), (5, .int (nI k)), (6, .int (nI (aF A k 3))), (7, .int (nI b))] dX10_changed_103 hN4 rfl ?_
                refine r_iincN (n := 1) hX [(0, .ref (L.1 0)), (1, .int (nI t)), (2, .int (nI r)), (3, .int (nI (aF A k 3))), (4, .int (nI b)), (5, .int (nI (k + 1))), (6, .int (nI (aF A k 3))), (7, .int (nI b))] dX10_changed_105 rfl hN5 rfl ?_
                refine r_goto hX dX10_changed_108 ?_
                have q20 : (chH (chK A t (k + 1))) = nI (aF A k 3) := (by rw [chK_1 c10 hdf hch]; rfl)
                have q21 : (chM (chK A t (k + 1))) = nI b := (by rw [chK_1 c10 hdf hch]; rfl)
                exact At.less (At.to (ls := [(0, .ref (L.1 0)), (1, .int (nI t)), (2, .int (nI r)), (3, .int (nI (aF A k 3))), (4, .int (nI b)), (5, .int (nI (k + 1)))]) ih8 (by rw [q20, q21]) rfl rfl) (by simp)
          · skip
            show At X L σ 0 0 [(0, .ref (L.1 0)), (1, .int (nI t)), (2, .int (nI r)), (3, .int (nI p.1)), (4, .int (nI p.2)), (5, .int (nI k))] 40 []
            have hpl := chK_lt hV (by omega) hch
            refine r_aload_n hX dX10_changed_40 rfl ?_
            refine r_iload hX dX10_changed_41 rfl ?_
            refine r_iconst hX (nI 3) dX10_changed_43 rfl ?_
            refine r_callVF (As := [.int (nI k), .int (nI 3)]) (rest := []) hX (c_X10_ofA hM σ A hR hV k 3 (by omega) (by omega)) dX10_changed_44 cb_X10_74 (hM.1 0 (9, 0) rfl) rfl rfl ⟨Nat.le_of_ble_eq_true rfl, Nat.le_of_ble_eq_true rfl⟩ ⟨Nat.le_of_ble_eq_true rfl, Nat.le_of_ble_eq_true rfl⟩ (Nat.le_of_ble_eq_true rfl) ?_
            refine r_istore hX [(0, .ref (L.1 0)), (1, .int (nI t)), (2, .int (nI r)), (3, .int (nI p.1)), (4, .int (nI p.2)), (5, .int (nI k)), (6, .int (nI (aF A k 3)))] dX10_changed_47 hN6 rfl ?_
            refine r_aload_n hX dX10_changed_49 rfl ?_
            refine r_iload hX dX10_changed_50 rfl ?_
            refine r_iconst hX (nI 1) dX10_changed_52 rfl ?_
            refine r_callVF (As := [.int (nI k), .int (nI 1)]) (rest := []) hX (c_X10_ofA hM σ A hR hV k 1 (by omega) (by omega)) dX10_changed_53 cb_X10_74 (hM.1 0 (9, 0) rfl) rfl rfl ⟨Nat.le_of_ble_eq_true rfl, Nat.le_of_ble_eq_true rfl⟩ ⟨Nat.le_of_ble_eq_true rfl, Nat.le_of_ble_eq_true rfl⟩ (Nat.le_of_ble_eq_true rfl) ?_
            refine r_iload_n hX dX10_changed_56 rfl ?_
            refine r_icmpN_ne hX dX10_changed_57 (by omega) (by omega) (fun c22 => ?_) (fun c22 => ?_)
            · skip
              refine r_iconst hX (-1) dX10_changed_70 rfl ?_
              refine r_istore hX [(0, .ref (L.1 0)), (1, .int (nI t)), (2, .int (nI r)), (3, .int (nI p.1)), (4, .int (nI p.2)), (5, .int (nI k)), (6, .int (nI (aF A k 3))), (7, .int (-1))] dX10_changed_71 hN7 rfl ?_
              refine r_iload hX dX10_changed_73 rfl ?_
              refine r_iload hX dX10_changed_75 rfl ?_
              refine r_icmp_gt hX dX10_changed_77 (fun c23 => absurd c23 (nlt2 (by omega) (by decide))) (fun c23 => ?_)
              refine r_iload hX dX10_changed_80 rfl ?_
              refine r_if_lt hX dX10_changed_82 (fun c24 => ?_) (fun c24 => absurd c24 (by decide))
              refine r_iincN (n := 1) hX [(0, .ref (L.1 0)), (1, .int (nI t)), (2, .int (nI r)), (3, .int (nI p.1)), (4, .int (nI p.2)), (5, .int (nI (k + 1))), (6, .int (nI (aF A k 3))), (7, .int (-1))] dX10_changed_105 rfl hN5 rfl ?_
              refine r_goto hX dX10_changed_108 ?_
              have q25 : (chH (chK A t (k + 1))) = nI p.1 := (by rw [chK_no c22, hch]; rfl)
              have q26 : (chM (chK A t (k + 1))) = nI p.2 := (by rw [chK_no c22, hch]; rfl)
              exact At.less (At.to (ls := [(0, .ref (L.1 0)), (1, .int (nI t)), (2, .int (nI r)), (3, .int (nI p.1)), (4, .int (nI p.2)), (5, .int (nI (k + 1)))]) ih8 (by rw [q25, q26]) rfl rfl) (by simp)
            · skip
              refine r_aload_n hX dX10_changed_60 rfl ?_
              refine r_iload_n hX dX10_changed_61 rfl ?_
              refine r_iload hX dX10_changed_62 rfl ?_
              refine r_callVF (As := [.int (nI t), .int (nI (aF A k 3))]) (rest := []) hX (c_X10_differ hM σ A hR hV t (aF A k 3) k (by omega) (by omega) hk c22 rfl) dX10_changed_64 cb_X10_212 (hM.1 0 (9, 0) rfl) rfl rfl ⟨Nat.le_of_ble_eq_true rfl, Nat.le_of_ble_eq_true rfl⟩ ⟨Nat.le_of_ble_eq_true rfl, Nat.le_of_ble_eq_true rfl⟩ (Nat.le_of_ble_eq_true rfl) ?_
              refine r_goto hX dX10_changed_67 ?_
              rcases hdf : dfO A t (aF A k 3) with _ | b
              · skip
                show At X L σ 0 0 [(0, .ref (L.1 0)), (1, .int (nI t)), (2, .int (nI r)), (3, .int (nI p.1)), (4, .int (nI p.2)), (5, .int (nI k)), (6, .int (nI (aF A k 3)))] 71 [.int (-1)]
                refine r_istore hX [(0, .ref (L.1 0)), (1, .int (nI t)), (2, .int (nI r)), (3, .int (nI p.1)), (4, .int (nI p.2)), (5, .int (nI k)), (6, .int (nI (aF A k 3))), (7, .int (-1))] dX10_changed_71 hN7 rfl ?_
                refine r_iload hX dX10_changed_73 rfl ?_
                refine r_iload hX dX10_changed_75 rfl ?_
                refine r_icmp_gt hX dX10_changed_77 (fun c27 => absurd c27 (nlt2 (by omega) (by decide))) (fun c27 => ?_)
                refine r_iload hX dX10_changed_80 rfl ?_
                refine r_if_lt hX dX10_changed_82 (fun c28 => ?_) (fun c28 => absurd c28 (by decide))
                refine r_iincN (n := 1) hX [(0, .ref (L.1 0)), (1, .int (nI t)), (2, .int (nI r)), (3, .int (nI p.1)), (4, .int (nI p.2)), (5, .int (nI (k + 1))), (6, .int (nI (aF A k 3))), (7, .int (-1))] dX10_changed_105 rfl hN5 rfl ?_
                refine r_goto hX dX10_changed_108 ?_
                have q29 : (chH (chK A t (k + 1))) = nI p.1 := (by rw [chK_0 c22 hdf, hch]; rfl)
                have q30 : (chM (chK A t (k + 1))) = nI p.2 := (by rw [chK_0 c22 hdf, hch]; rfl)
                exact At.less (At.to (ls := [(0, .ref (L.1 0)), (1, .int (nI t)), (2, .int (nI r)), (3, .int (nI p.1)), (4, .int (nI p.2)), (5, .int (nI (k + 1)))]) ih8 (by rw [q29, q30]) rfl rfl) (by simp)
              · skip
                show At X L σ 0 0 [(0, .ref (L.1 0)), (1, .int (nI t)), (2, .int (nI r)), (3, .int (nI p.1)), (4, .int (nI p.2)), (5, .int (nI k)), (6, .int (nI (aF A k 3)))] 71 [.int (nI b)]
                have hbl := dfO_lt hV hdf
                refine r_istore hX [(0, .ref (L.1 0)), (1, .int (nI t)), (2, .int (nI r)), (3, .int (nI p.1)), (4, .int (nI p.2)), (5, .int (nI k)), (6, .int (nI (aF A k 3))), (7, .int (nI b))] dX10_changed_71 hN7 rfl ?_
                refine r_iload hX dX10_changed_73 rfl ?_
                refine r_iload hX dX10_changed_75 rfl ?_
                refine r_icmpN_gt hX dX10_changed_77 (by omega) (by omega) (fun c31 => ?_) (fun c31 => ?_)
                · skip
                  refine r_iload hX dX10_changed_98 rfl ?_
                  refine r_istore_n hX [(0, .ref (L.1 0)), (1, .int (nI t)), (2, .int (nI r)), (3, .int (nI (aF A k 3))), (4, .int (nI p.2)), (5, .int (nI k)), (6, .int (nI (aF A k 3))), (7, .int (nI b))] dX10_changed_100 hN3 rfl ?_
                  refine r_iload hX dX10_changed_101 rfl ?_
                  refine r_istore hX [(0, .ref (L.1 0)), (1, .int (nI t)), (2, .int (nI r)), (3, .int (nI (aF A k 3))), (4, .int (nI b)), (5, .int (nI k)), (6, .int (nI (aF A k 3))), (7, .int (nI b))] dX10_changed_103 hN4 rfl ?_
                  refine r_iincN (n := 1) hX [(0, .ref (L.1 0)), (1, .int (nI t)), (2, .int (nI r)), (3, .int (nI (aF A k 3))), (4, .int (nI b)), (5, .int (nI (k + 1))), (6, .int (nI (aF A k 3))), (7, .int (nI b))] dX10_changed_105 rfl hN5 rfl ?_
                  refine r_goto hX dX10_changed_108 ?_
                  have q32 : (chH (chK A t (k + 1))) = nI (aF A k 3) := (by rw [chK_y c22 hdf hch (Or.inl c31)]; rfl)
                  have q33 : (chM (chK A t (k + 1))) = nI b := (by rw [chK_y c22 hdf hch (Or.inl c31)]; rfl)
                  exact At.less (At.to (ls := [(0, .ref (L.1 0)), (1, .int (nI t)), (2, .int (nI r)), (3, .int (nI (aF A k 3))), (4, .int (nI b)), (5, .int (nI (k + 1)))]) ih8 (by rw [q32, q33]) rfl rfl) (by simp)
                · skip
                  refine r_iload hX dX10_changed_80 rfl ?_
                  refine r_ifN_lt hX dX10_changed_82 (by omega) ?_
                  refine r_iload hX dX10_changed_85 rfl ?_
                  refine r_iload hX dX10_changed_87 rfl ?_
                  refine r_icmpN_ne hX dX10_changed_89 (by omega) (by omega) (fun c34 => ?_) (fun c34 => ?_)
                  · skip
                    refine r_iincN (n := 1) hX [(0, .ref (L.1 0)), (1, .int (nI t)), (2, .int (nI r)), (3, .int (nI p.1)), (4, .int (nI p.2)), (5, .int (nI (k + 1))), (6, .int (nI (aF A k 3))), (7, .int (nI b))] dX10_changed_105 rfl hN5 rfl ?_
                    refine r_goto hX dX10_changed_108 ?_
                    have q35 : (chH (chK A t (k + 1))) = nI p.1 := (by rw [chK_n c22 hdf hch (fun q => q.elim (fun q => absurd q (by omega)) (fun q => c34 q.1))]; rfl)
                    have q36 : (chM (chK A t (k + 1))) = nI p.2 := (by rw [chK_n c22 hdf hch (fun q => q.elim (fun q => absurd q (by omega)) (fun q => c34 q.1))]; rfl)
                    exact At.less (At.to (ls := [(0, .ref (L.1 0)), (1, .int (nI t)), (2, .int (nI r)), (3, .int (nI p.1)), (4, .int (nI p.2)), (5, .int (nI (k + 1)))]) ih8 (by rw [q35, q36]) rfl rfl) (by simp)
                  · skip
                    refine r_iload hX dX10_changed_92 rfl ?_
                    refine r_iload_n hX dX10_changed_94 rfl ?_
                    refine r_icmpN_ge hX dX10_changed_95 (by omega) (by omega) (fun c37 => ?_) (fun c37 => ?_)
                    · skip
                      refine r_iincN (n := 1) hX [(0, .ref (L.1 0)), (1, .int (nI t)), (2, .int (nI r)), (3, .int (nI p.1)), (4, .int (nI p.2)), (5, .int (nI (k + 1))), (6, .int (nI (aF A k 3))), (7, .int (nI b))] dX10_changed_105 rfl hN5 rfl ?_
                      refine r_goto hX dX10_changed_108 ?_
                      have q38 : (chH (chK A t (k + 1))) = nI p.1 := (by rw [chK_n c22 hdf hch (fun q => q.elim (fun q => absurd q (by omega)) (fun q => absurd q.2 (by omega)))]; rfl)
                      have q39 : (chM (chK A t (k + 1))) = nI p.2 := (by rw [chK_n c22 hdf hch (fun q => q.elim (fun q => absurd q (by omega)) (fun q => absurd q.2 (by omega)))]; rfl)
                      exact At.less (At.to (ls := [(0, .ref (L.1 0)), (1, .int (nI t)), (2, .int (nI r)), (3, .int (nI p.1)), (4, .int (nI p.2)), (5, .int (nI (k + 1)))]) ih8 (by rw [q38, q39]) rfl rfl) (by simp)
                    · skip
                      refine r_iload hX dX10_changed_98 rfl ?_
                      refine r_istore_n hX [(0, .ref (L.1 0)), (1, .int (nI t)), (2, .int (nI r)), (3, .int (nI (aF A k 3))), (4, .int (nI p.2)), (5, .int (nI k)), (6, .int (nI (aF A k 3))), (7, .int (nI b))] dX10_changed_100 hN3 rfl ?_
                      refine r_iload hX dX10_changed_101 rfl ?_
                      refine r_istore hX [(0, .ref (L.1 0)), (1, .int (nI t)), (2, .int (nI r)), (3, .int (nI (aF A k 3))), (4, .int (nI b)), (5, .int (nI k)), (6, .int (nI (aF A k 3))), (7, .int (nI b))] dX10_changed_103 hN4 rfl ?_
                      refine r_iincN (n := 1) hX [(0, .ref (L.1 0)), (1, .int (nI t)), (2, .int (nI r)), (3, .int (nI (aF A k 3))), (4, .int (nI b)), (5, .int (nI (k + 1))), (6, .int (nI (aF A k 3))), (7, .int (nI b))] dX10_changed_105 rfl hN5 rfl ?_
                      refine r_goto hX dX10_changed_108 ?_
                      have q40 : (chH (chK A t (k + 1))) = nI (aF A k 3) := (by rw [chK_y c22 hdf hch (Or.inr ⟨c34, c37⟩)]; rfl)
                      have q41 : (chM (chK A t (k + 1))) = nI b := (by rw [chK_y c22 hdf hch (Or.inr ⟨c34, c37⟩)]; rfl)
                      exact At.less (At.to (ls := [(0, .ref (L.1 0)), (1, .int (nI t)), (2, .int (nI r)), (3, .int (nI (aF A k 3))), (4, .int (nI b)), (5, .int (nI (k + 1)))]) ih8 (by rw [q40, q41]) rfl rfl) (by simp)
      exact At.to (P3 0 (Nat.zero_le _)) rfl rfl rfl
    · skip
      refine r_ldc hX dX10_changed_17 ko_X10_72 ?_
      exact r_ireturn hX hQ dX10_changed_19 ⟨Nat.le_of_ble_eq_true rfl, Nat.le_of_ble_eq_true rfl⟩ (PF.mk (by rw [oChanged, if_neg (fun e => by have e := e.2; rw [c2] at e; cases e)]))

set_option maxHeartbeats 4000000 in
set_option maxRecDepth 100000 in
theorem c_X10_counted {l : Launch} {D : Ds} {L : La} (hM : MAt L) (σ : Me) (A : Al) (hR : RM (σ 1) A) (hV : Va A) (v b : Nat) (hv : v < 2 ^ 31) : Ct l yX10_counted cX10_counted 5 (some .int) { frames := 4, cells := 0, slots := 0, locals := 89 } D L σ [.ref (L.1 0), .int (nI v), .int (nI b)] (PI L (fun r σ2 => r = nI (ctN A v b (aW A)) ∧ Sm σ σ2)) := by
  refine Ct.of (by decide) (Nat.le_of_ble_eq_true rfl) ?_
  intro X hl hD hnl hX0 hQ
  have hX : Ok X cX10_counted RX10 "counted" { frames := 4, cells := 0, slots := 0, locals := 89 } (some .int) := hX0
  have hN3 : 3 < xn X := by rw [hnl]; decide
  have hN4 : 4 < xn X := by rw [hnl]; decide
  have hT := hV.1
  have hNn := hV.2.1
  have hW := hV.2.2.1
  show At X L σ 0 0 [(0, .ref (L.1 0)), (1, .int (nI v)), (2, .int (nI b))] 0 []
  refine r_iconst hX (nI 0) dX10_counted_0 rfl ?_
  refine r_istore_n hX [(0, .ref (L.1 0)), (1, .int (nI v)), (2, .int (nI b)), (3, .int (nI 0))] dX10_counted_1 hN3 rfl ?_
  refine r_iconst hX (nI 0) dX10_counted_2 rfl ?_
  refine r_istore hX [(0, .ref (L.1 0)), (1, .int (nI v)), (2, .int (nI b)), (3, .int (nI 0)), (4, .int (nI 0))] dX10_counted_3 hN4 rfl ?_
  have P1 : ∀ k, k ≤ aW A → ∀ (σk : Me) (hSk : Sm σ σk), At X L σk 0 0 [(0, .ref (L.1 0)), (1, .int (nI v)), (2, .int (nI b)), (3, .int (nI (ctN A v b k))), (4, .int (nI k))] 5 [] := by
    refine loopUp (aW A) ?_ ?_
    · skip
      intro σk hSk
      have hRk := hSk.rm hR
      refine r_iload hX dX10_counted_5 rfl ?_
      refine r_aload_n hX dX10_counted_7 rfl ?_
      refine r_getR hX dX10_counted_8 fl_X10_9 (hM.1 0 (9, 0) rfl) rfl (hM.2 0 1 rfl) ?_
      refine r_iconst hX (nI 2) dX10_counted_11 rfl ?_
      refine r_aldN hX dX10_counted_12 (hM.1 1 (10, 1605) rfl) (by decide) (by decide) (nI (aW A)) hRk.2.2.1 ?_
      refine r_icmpN_ge hX dX10_counted_13 (by omega) (by omega) (fun c2 => ?_) (fun c2 => absurd c2 (by omega))
      refine r_iload_n hX dX10_counted_54 rfl ?_
      exact r_ireturn hX hQ dX10_counted_55 ⟨Nat.le_of_ble_eq_true rfl, Nat.le_of_ble_eq_true rfl⟩ (PI.mk ⟨rfl, hSk⟩)
    · skip
      intro k hk ih3 σk hSk
      have hRk := hSk.rm hR
      have hs := sgN_le A k
      have hwf := hV.2.2.2.2.2.2.1 k hk
      refine r_iload hX dX10_counted_5 rfl ?_
      refine r_aload_n hX dX10_counted_7 rfl ?_
      refine r_getR hX dX10_counted_8 fl_X10_9 (hM.1 0 (9, 0) rfl) rfl (hM.2 0 1 rfl) ?_
      refine r_iconst hX (nI 2) dX10_counted_11 rfl ?_
      refine r_aldN hX dX10_counted_12 (hM.1 1 (10, 1605) rfl) (by decide) (by decide) (nI (aW A)) hRk.2.2.1 ?_
      refine r_icmpN_ge hX dX10_counted_13 (by omega) (by omega) (fun c4 => absurd c4 (by omega)) (fun c4 => ?_)
      refine r_iload_n hX dX10_counted_16 rfl ?_
      refine r_aload_n hX dX10_counted_17 rfl ?_
      refine r_iload hX dX10_counted_18 rfl ?_
      refine r_callVI (As := [.int (nI k)]) (rest := [.int (nI (ctN A v b k))]) hX (c_X10_sign hM σk A hRk hV k (by omega)) dX10_counted_20 cb_X10_135 (hM.1 0 (9, 0) rfl) rfl rfl ⟨Nat.le_of_ble_eq_true rfl, Nat.le_of_ble_eq_true rfl⟩ ⟨Nat.le_of_ble_eq_true rfl, Nat.le_of_ble_eq_true rfl⟩ (Nat.le_of_ble_eq_true rfl) (fun r5 σ6 h7 => ?_)
      obtain ⟨rfl, hS8⟩ := h7
      have hR9 := hS8.rm hRk
      refine r_iload_n hX dX10_counted_23 rfl ?_
      refine r_icmpN_lt hX dX10_counted_24 (by omega) (by omega) (fun c10 => ?_) (fun c10 => ?_)
      · skip
        refine r_iconst hX (nI 0) dX10_counted_45 rfl ?_
        refine r_iaddN hX dX10_counted_46 ?_
        refine r_istore_n hX [(0, .ref (L.1 0)), (1, .int (nI v)), (2, .int (nI b)), (3, .int (nI (ctN A v b k + 0))), (4, .int (nI k))] dX10_counted_47 hN3 rfl ?_
        refine r_iincN (n := 1) hX [(0, .ref (L.1 0)), (1, .int (nI v)), (2, .int (nI b)), (3, .int (nI (ctN A v b k + 0))), (4, .int (nI (k + 1)))] dX10_counted_48 rfl hN4 rfl ?_
        refine r_goto hX dX10_counted_51 ?_
        have q11 : ctN A v b (k + 1) = ctN A v b k + 0 := (by rw [ctN, if_neg (fun q => absurd q.1 (by omega))])
        exact At.to (ih3 _ (Sm.tr hSk hS8.sm)) (by rw [q11]) rfl rfl
      · skip
        refine r_aload_n hX dX10_counted_27 rfl ?_
        refine r_iload hX dX10_counted_28 rfl ?_
        refine r_iconst hX (nI 0) dX10_counted_30 rfl ?_
        refine r_callVF (As := [.int (nI k), .int (nI 0)]) (rest := [.int (nI (ctN A v b k))]) hX (c_X10_ofA hM σ6 A hR9 hV k 0 (by omega) (by omega)) dX10_counted_31 cb_X10_74 (hM.1 0 (9, 0) rfl) rfl rfl ⟨Nat.le_of_ble_eq_true rfl, Nat.le_of_ble_eq_true rfl⟩ ⟨Nat.le_of_ble_eq_true rfl, Nat.le_of_ble_eq_true rfl⟩ (Nat.le_of_ble_eq_true rfl) ?_
        refine r_callSF (As := [.int (nI (aF A k 0))]) (rest := [.int (nI (ctN A v b k))]) hX (c_X10_isTrue σ6 (aF A k 0) (by omega)) dX10_counted_34 cb_X10_138 rfl rfl ⟨Nat.le_of_ble_eq_true rfl, Nat.le_of_ble_eq_true rfl⟩ ⟨Nat.le_of_ble_eq_true rfl, Nat.le_of_ble_eq_true rfl⟩ (Nat.le_of_ble_eq_true rfl) ?_
        refine r_iload_n hX dX10_counted_37 rfl ?_
        refine r_icmp_ne hX dX10_counted_38 (fun c12 => ?_) (fun c12 => ?_)
        · skip
          refine r_iconst hX (nI 0) dX10_counted_45 rfl ?_
          refine r_iaddN hX dX10_counted_46 ?_
          refine r_istore_n hX [(0, .ref (L.1 0)), (1, .int (nI v)), (2, .int (nI b)), (3, .int (nI (ctN A v b k + 0))), (4, .int (nI k))] dX10_counted_47 hN3 rfl ?_
          refine r_iincN (n := 1) hX [(0, .ref (L.1 0)), (1, .int (nI v)), (2, .int (nI b)), (3, .int (nI (ctN A v b k + 0))), (4, .int (nI (k + 1)))] dX10_counted_48 rfl hN4 rfl ?_
          refine r_goto hX dX10_counted_51 ?_
          have q13 : ctN A v b (k + 1) = ctN A v b k + 0 := (by rw [ctN, if_neg (fun q => c12 q.2)])
          exact At.to (ih3 _ (Sm.tr hSk hS8.sm)) (by rw [q13]) rfl rfl
        · skip
          refine r_iconst hX (nI 1) dX10_counted_41 rfl ?_
          refine r_goto hX dX10_counted_42 ?_
          refine r_iaddN hX dX10_counted_46 ?_
          refine r_istore_n hX [(0, .ref (L.1 0)), (1, .int (nI v)), (2, .int (nI b)), (3, .int (nI (ctN A v b k + 1))), (4, .int (nI k))] dX10_counted_47 hN3 rfl ?_
          refine r_iincN (n := 1) hX [(0, .ref (L.1 0)), (1, .int (nI v)), (2, .int (nI b)), (3, .int (nI (ctN A v b k + 1))), (4, .int (nI (k + 1)))] dX10_counted_48 rfl hN4 rfl ?_
          refine r_goto hX dX10_counted_51 ?_
          have q14 : ctN A v b (k + 1) = ctN A v b k + 1 := (by rw [ctN, if_pos ⟨c10, c12⟩])
          exact At.to (ih3 _ (Sm.tr hSk hS8.sm)) (by rw [q14]) rfl rfl
  exact At.to (P1 0 (Nat.zero_le _) σ (Sm.rf σ)) rfl rfl rfl

set_option maxHeartbeats 4000000 in
set_option maxRecDepth 100000 in
theorem c_X10_off {l : Launch} {D : Ds} {L : La} (hM : MAt L) (σ : Me) (A : Al) (hR : RM (σ 1) A) (hV : Va A) (v wh : Int32) : Ct l yX10_off cX10_off 3 (some .int) { frames := 5, cells := 0, slots := 0, locals := 113 } D L σ [.ref (L.1 0), .int v, .int wh] (PI L (fun r σ2 => r = oOff A v wh ∧ Sm σ σ2)) := by
  refine Ct.of (by decide) (Nat.le_of_ble_eq_true rfl) ?_
  intro X hl hD hnl hX0 hQ
  have hX : Ok X cX10_off RX10 "off" { frames := 5, cells := 0, slots := 0, locals := 113 } (some .int) := hX0
  have hT := hV.1
  have hNn := hV.2.1
  have hW := hV.2.2.1
  show At X L σ 0 0 [(0, .ref (L.1 0)), (1, .int v), (2, .int wh)] 0 []
  refine r_iload_n hX dX10_off_0 rfl ?_
  refine r_iconst hX (nI 0) dX10_off_1 rfl ?_
  refine r_bipush hX (nI 10) dX10_off_2 rfl ?_
  refine r_callSF (As := [.int v, .int (nI 0), .int (nI 10)]) (rest := []) hX (c_X10_in σ v (nI 0) (nI 10)) dX10_off_4 cb_X10_68 rfl rfl ⟨Nat.le_of_ble_eq_true rfl, Nat.le_of_ble_eq_true rfl⟩ ⟨Nat.le_of_ble_eq_true rfl, Nat.le_of_ble_eq_true rfl⟩ (Nat.le_of_ble_eq_true rfl) ?_
  refine r_ifB_eq hX dX10_off_7 (fun c1 => ?_) (fun c1 => ?_)
  · skip
    refine r_ldc hX dX10_off_37 ko_X10_72 ?_
    exact r_ireturn hX hQ dX10_off_39 ⟨Nat.le_of_ble_eq_true rfl, Nat.le_of_ble_eq_true rfl⟩ (PI.mk ⟨by rw [oOff, if_neg (fun e => by have e := e.1; rw [c1] at e; cases e)], (Sm.rf σ)⟩)
  · skip
    obtain ⟨q, hql, hq, rfl⟩ := inB_nat c1 (by decide) (by decide)
    refine r_iload_n hX dX10_off_10 rfl ?_
    refine r_iconst hX (nI 0) dX10_off_11 rfl ?_
    refine r_iconst hX (nI 1) dX10_off_12 rfl ?_
    refine r_callSF (As := [.int wh, .int (nI 0), .int (nI 1)]) (rest := []) hX (c_X10_in σ wh (nI 0) (nI 1)) dX10_off_13 cb_X10_68 rfl rfl ⟨Nat.le_of_ble_eq_true rfl, Nat.le_of_ble_eq_true rfl⟩ ⟨Nat.le_of_ble_eq_true rfl, Nat.le_of_ble_eq_true rfl⟩ (Nat.le_of_ble_eq_true rfl) ?_
    refine r_ifB_eq hX dX10_off_16 (fun c2 => ?_) (fun c2 => ?_)
    · skip
      refine r_ldc hX dX10_off_37 ko_X10_72 ?_
      exact r_ireturn hX hQ dX10_off_39 ⟨Nat.le_of_ble_eq_true rfl, Nat.le_of_ble_eq_true rfl⟩ (PI.mk ⟨by rw [oOff, if_neg (fun e => by have e := e.2; rw [c2] at e; cases e)], (Sm.rf σ)⟩)
    · skip
      obtain ⟨r, hrl, hr, rfl⟩ := inB_nat c2 (by decide) (by decide)
      refine r_aload_n hX dX10_off_19 rfl ?_
      refine r_iload_n hX dX10_off_20 rfl ?_
      refine r_iload_n hX dX10_off_21 rfl ?_
      refine r_iconst hX (nI 1) dX10_off_22 rfl ?_
      refine r_icmpN_ne hX dX10_off_23 (by omega) (by decide) (fun c3 => ?_) (fun c3 => ?_)
      · skip
        refine r_iconst hX (nI 0) dX10_off_30 rfl ?_
        refine r_callVI (As := [.int (nI q), .int (nI 0)]) (rest := []) hX (c_X10_counted hM σ A hR hV q 0 (by omega)) dX10_off_31 cb_X10_215 (hM.1 0 (9, 0) rfl) rfl rfl ⟨Nat.le_of_ble_eq_true rfl, Nat.le_of_ble_eq_true rfl⟩ ⟨Nat.le_of_ble_eq_true rfl, Nat.le_of_ble_eq_true rfl⟩ (Nat.le_of_ble_eq_true rfl) (fun r4 σ5 h6 => ?_)
        obtain ⟨rfl, hS7⟩ := h6
        have hR8 := hS7.rm hR
        refine r_goto hX dX10_off_34 ?_
        exact r_ireturn hX hQ dX10_off_39 ⟨Nat.le_of_ble_eq_true rfl, Nat.le_of_ble_eq_true rfl⟩ (PI.mk ⟨by rw [oOff, if_pos ⟨c1, c2⟩, nI_clamp (by omega), nI_clamp (by omega), show r = 0 by omega], (Sm.tr (Sm.rf σ) hS7)⟩)
      · skip
        refine r_iconst hX (nI 1) dX10_off_26 rfl ?_
        refine r_goto hX dX10_off_27 ?_
        refine r_callVI (As := [.int (nI q), .int (nI 1)]) (rest := []) hX (c_X10_counted hM σ A hR hV q 1 (by omega)) dX10_off_31 cb_X10_215 (hM.1 0 (9, 0) rfl) rfl rfl ⟨Nat.le_of_ble_eq_true rfl, Nat.le_of_ble_eq_true rfl⟩ ⟨Nat.le_of_ble_eq_true rfl, Nat.le_of_ble_eq_true rfl⟩ (Nat.le_of_ble_eq_true rfl) (fun r9 σ10 h11 => ?_)
        obtain ⟨rfl, hS12⟩ := h11
        have hR13 := hS12.rm hR
        refine r_goto hX dX10_off_34 ?_
        exact r_ireturn hX hQ dX10_off_39 ⟨Nat.le_of_ble_eq_true rfl, Nat.le_of_ble_eq_true rfl⟩ (PI.mk ⟨by rw [oOff, if_pos ⟨c1, c2⟩, nI_clamp (by omega), nI_clamp (by omega), show r = 1 by omega], (Sm.tr (Sm.rf σ) hS12)⟩)

set_option maxHeartbeats 4000000 in
set_option maxRecDepth 100000 in
theorem c_X10_bound {l : Launch} {D : Ds} {L : La} (hM : MAt L) (σ : Me) (A : Al) (hR : RM (σ 1) A) (hV : Va A) (wh : Int32) : Ct l yX10_bound cX10_bound 6 (some .int) { frames := 5, cells := 0, slots := 0, locals := 113 } D L σ [.ref (L.1 0), .int wh] (PI L (fun r σ2 => r = oBound A wh ∧ Sm σ σ2)) := by
  refine Ct.of (by decide) (Nat.le_of_ble_eq_true rfl) ?_
  intro X hl hD hnl hX0 hQ
  have hX : Ok X cX10_bound RX10 "bound" { frames := 5, cells := 0, slots := 0, locals := 113 } (some .int) := hX0
  have hN2 : 2 < xn X := by rw [hnl]; decide
  have hN3 : 3 < xn X := by rw [hnl]; decide
  have hN4 : 4 < xn X := by rw [hnl]; decide
  have hN5 : 5 < xn X := by rw [hnl]; decide
  have hT := hV.1
  have hNn := hV.2.1
  have hW := hV.2.2.1
  show At X L σ 0 0 [(0, .ref (L.1 0)), (1, .int wh)] 0 []
  refine r_iload_n hX dX10_bound_0 rfl ?_
  refine r_iconst hX (nI 0) dX10_bound_1 rfl ?_
  refine r_iconst hX (nI 1) dX10_bound_2 rfl ?_
  refine r_callSF (As := [.int wh, .int (nI 0), .int (nI 1)]) (rest := []) hX (c_X10_in σ wh (nI 0) (nI 1)) dX10_bound_3 cb_X10_68 rfl rfl ⟨Nat.le_of_ble_eq_true rfl, Nat.le_of_ble_eq_true rfl⟩ ⟨Nat.le_of_ble_eq_true rfl, Nat.le_of_ble_eq_true rfl⟩ (Nat.le_of_ble_eq_true rfl) ?_
  refine r_ifB_ne hX dX10_bound_6 (fun c1 => ?_) (fun c1 => ?_)
  · skip
    obtain ⟨r, hrl, hr, rfl⟩ := inB_nat c1 (by decide) (by decide)
    refine r_bipush hX (nI 10) dX10_bound_12 rfl ?_
    refine r_istore_n hX [(0, .ref (L.1 0)), (1, .int (nI r)), (2, .int (nI 10))] dX10_bound_14 hN2 rfl ?_
    refine r_aload_n hX dX10_bound_15 rfl ?_
    refine r_bipush hX (nI 10) dX10_bound_16 rfl ?_
    refine r_iconst hX (nI 0) dX10_bound_18 rfl ?_
    refine r_callVI (As := [.int (nI 10), .int (nI 0)]) (rest := []) hX (c_X10_counted hM σ A hR hV 10 0 (by omega)) dX10_bound_19 cb_X10_215 (hM.1 0 (9, 0) rfl) rfl rfl ⟨Nat.le_of_ble_eq_true rfl, Nat.le_of_ble_eq_true rfl⟩ ⟨Nat.le_of_ble_eq_true rfl, Nat.le_of_ble_eq_true rfl⟩ (Nat.le_of_ble_eq_true rfl) (fun r2 σ3 h4 => ?_)
    obtain ⟨rfl, hS5⟩ := h4
    have hR6 := hS5.rm hR
    refine r_aload_n hX dX10_bound_22 rfl ?_
    refine r_bipush hX (nI 10) dX10_bound_23 rfl ?_
    refine r_iconst hX (nI 1) dX10_bound_25 rfl ?_
    refine r_callVI (As := [.int (nI 10), .int (nI 1)]) (rest := [.int (nI (ctN A 10 0 (aW A)))]) hX (c_X10_counted hM σ3 A hR6 hV 10 1 (by omega)) dX10_bound_26 cb_X10_215 (hM.1 0 (9, 0) rfl) rfl rfl ⟨Nat.le_of_ble_eq_true rfl, Nat.le_of_ble_eq_true rfl⟩ ⟨Nat.le_of_ble_eq_true rfl, Nat.le_of_ble_eq_true rfl⟩ (Nat.le_of_ble_eq_true rfl) (fun r7 σ8 h9 => ?_)
    obtain ⟨rfl, hS10⟩ := h9
    have hR11 := hS10.rm hR6
    refine r_isub hX dX10_bound_29 ?_
    refine r_istore_n hX [(0, .ref (L.1 0)), (1, .int (nI r)), (2, .int (nI 10)), (3, .int ((nI (ctN A 10 0 (aW A))) - (nI (ctN A 10 1 (aW A)))))] dX10_bound_30 hN3 rfl ?_
    refine r_bipush hX (nI 9) dX10_bound_31 rfl ?_
    refine r_istore hX [(0, .ref (L.1 0)), (1, .int (nI r)), (2, .int (nI 10)), (3, .int ((nI (ctN A 10 0 (aW A))) - (nI (ctN A 10 1 (aW A))))), (4, .int (nI 9))] dX10_bound_33 hN4 rfl ?_
    have P12 : ∀ i, i ≤ 10 → ∀ (σk : Me) (hSk : Sm σ σk), At X L σk 0 0 [(0, .ref (L.1 0)), (1, .int (nI r)), (2, .int (nI (bdK A i))), (3, .int (gnI A (bdK A i))), (4, .int (nI 9 - nI i))] 35 [] := by
      refine loopUp 10 ?_ ?_
      · skip
        intro σk hSk
        have hRk := hSk.rm hR
        rw [show nI 9 - nI 10 = (-1) from by decide]
        refine r_iload hX dX10_bound_35 rfl ?_
        refine r_if_lt hX dX10_bound_37 (fun c13 => ?_) (fun c13 => absurd c13 (by decide))
        refine r_iload_n hX dX10_bound_89 rfl ?_
        refine r_ifN_ne hX dX10_bound_90 (by omega) (fun c14 => ?_) (fun c14 => ?_)
        · skip
          refine r_iload_n hX dX10_bound_97 rfl ?_
          exact r_ireturn hX hQ dX10_bound_98 ⟨Nat.le_of_ble_eq_true rfl, Nat.le_of_ble_eq_true rfl⟩ (PI.mk ⟨by rw [oBound, if_pos c1, if_neg (by rw [show r = 1 by omega]; decide)], hSk⟩)
        · skip
          refine r_iload_n hX dX10_bound_93 rfl ?_
          refine r_goto hX dX10_bound_94 ?_
          exact r_ireturn hX hQ dX10_bound_98 ⟨Nat.le_of_ble_eq_true rfl, Nat.le_of_ble_eq_true rfl⟩ (PI.mk ⟨by rw [oBound, if_pos c1, if_pos (by rw [show r = 0 by omega])], hSk⟩)
      · skip
        intro i hk ih15 σk hSk
        have hRk := hSk.rm hR
        have hbk := bdK_le A i
        rw [pk_sub (show i ≤ 9 by omega)]
        refine r_iload hX dX10_bound_35 rfl ?_
        refine r_ifN_lt hX dX10_bound_37 (by omega) ?_
        refine r_aload_n hX dX10_bound_40 rfl ?_
        refine r_iload hX dX10_bound_41 rfl ?_
        refine r_iconst hX (nI 0) dX10_bound_43 rfl ?_
        refine r_callVI (As := [.int (nI (9 - i)), .int (nI 0)]) (rest := []) hX (c_X10_counted hM σk A hRk hV (9 - i) 0 (by omega)) dX10_bound_44 cb_X10_215 (hM.1 0 (9, 0) rfl) rfl rfl ⟨Nat.le_of_ble_eq_true rfl, Nat.le_of_ble_eq_true rfl⟩ ⟨Nat.le_of_ble_eq_true rfl, Nat.le_of_ble_eq_true rfl⟩ (Nat.le_of_ble_eq_true rfl) (fun r16 σ17 h18 => ?_)
        obtain ⟨rfl, hS19⟩ := h18
        have hR20 := hS19.rm hRk
        refine r_aload_n hX dX10_bound_47 rfl ?_
        refine r_iload hX dX10_bound_48 rfl ?_
        refine r_iconst hX (nI 1) dX10_bound_50 rfl ?_
        refine r_callVI (As := [.int (nI (9 - i)), .int (nI 1)]) (rest := [.int (nI (ctN A (9 - i) 0 (aW A)))]) hX (c_X10_counted hM σ17 A hR20 hV (9 - i) 1 (by omega)) dX10_bound_51 cb_X10_215 (hM.1 0 (9, 0) rfl) rfl rfl ⟨Nat.le_of_ble_eq_true rfl, Nat.le_of_ble_eq_true rfl⟩ ⟨Nat.le_of_ble_eq_true rfl, Nat.le_of_ble_eq_true rfl⟩ (Nat.le_of_ble_eq_true rfl) (fun r21 σ22 h23 => ?_)
        obtain ⟨rfl, hS24⟩ := h23
        have hR25 := hS24.rm hR20
        refine r_isub hX dX10_bound_54 ?_
        refine r_istore hX [(0, .ref (L.1 0)), (1, .int (nI r)), (2, .int (nI (bdK A i))), (3, .int (gnI A (bdK A i))), (4, .int (nI (9 - i))), (5, .int ((nI (ctN A (9 - i) 0 (aW A))) - (nI (ctN A (9 - i) 1 (aW A)))))] dX10_bound_55 hN5 rfl ?_
        refine r_iload hX dX10_bound_57 rfl ?_
        refine r_iload_n hX dX10_bound_59 rfl ?_
        refine r_icmp_le hX dX10_bound_60 (fun c26 => ?_) (fun c26 => ?_)
        · skip
          refine r_iload_n hX dX10_bound_68 rfl ?_
          refine r_istore_n hX [(0, .ref (L.1 0)), (1, .int (nI r)), (2, .int (nI (bdK A i))), (3, .int (gnI A (bdK A i))), (4, .int (nI (9 - i))), (5, .int ((nI (ctN A (9 - i) 0 (aW A))) - (nI (ctN A (9 - i) 1 (aW A)))))] dX10_bound_69 hN2 rfl ?_
          refine r_iload hX dX10_bound_70 rfl ?_
          refine r_iload_n hX dX10_bound_72 rfl ?_
          refine r_icmp_le hX dX10_bound_73 (fun c27 => ?_) (fun c27 => absurd c26 c27)
          refine r_iload_n hX dX10_bound_81 rfl ?_
          refine r_istore_n hX [(0, .ref (L.1 0)), (1, .int (nI r)), (2, .int (nI (bdK A i))), (3, .int (gnI A (bdK A i))), (4, .int (nI (9 - i))), (5, .int ((nI (ctN A (9 - i) 0 (aW A))) - (nI (ctN A (9 - i) 1 (aW A)))))] dX10_bound_82 hN3 rfl ?_
          refine r_iinc hX (nI (9 - i) + (-1)) [(0, .ref (L.1 0)), (1, .int (nI r)), (2, .int (nI (bdK A i))), (3, .int (gnI A (bdK A i))), (4, .int (nI (9 - i) + (-1))), (5, .int ((nI (ctN A (9 - i) 0 (aW A))) - (nI (ctN A (9 - i) 1 (aW A)))))] dX10_bound_83 rfl rfl hN4 rfl ?_
          refine r_goto hX dX10_bound_86 ?_
          have q28 : bdK A (i + 1) = bdK A i := (by rw [bdK, if_neg (show ¬ gnI A (bdK A i) < gnI A (9 - i) from Int32.not_lt.mpr c26)])
          have q29 : (gnI A (bdK A (i + 1))) = (gnI A (bdK A i)) := (by rw [bdK, if_neg (show ¬ gnI A (bdK A i) < gnI A (9 - i) from Int32.not_lt.mpr c26)]; try rfl)
          have q30 : (nI 9 - nI (i + 1)) = (nI (9 - i) + (-1)) := (dec9 i hk)
          exact At.less (At.to (ls := [(0, .ref (L.1 0)), (1, .int (nI r)), (2, .int (nI (bdK A i))), (3, .int (gnI A (bdK A i))), (4, .int (nI (9 - i) + (-1)))]) (ih15 _ (Sm.tr (Sm.tr hSk hS19) hS24)) (by rw [q30, q29, q28]) rfl rfl) (by simp)
        · skip
          refine r_iload hX dX10_bound_63 rfl ?_
          refine r_goto hX dX10_bound_65 ?_
          refine r_istore_n hX [(0, .ref (L.1 0)), (1, .int (nI r)), (2, .int (nI (9 - i))), (3, .int (gnI A (bdK A i))), (4, .int (nI (9 - i))), (5, .int ((nI (ctN A (9 - i) 0 (aW A))) - (nI (ctN A (9 - i) 1 (aW A)))))] dX10_bound_69 hN2 rfl ?_
          refine r_iload hX dX10_bound_70 rfl ?_
          refine r_iload_n hX dX10_bound_72 rfl ?_
          refine r_icmp_le hX dX10_bound_73 (fun c31 => absurd c31 c26) (fun c31 => ?_)
          refine r_iload hX dX10_bound_76 rfl ?_
          refine r_goto hX dX10_bound_78 ?_
          refine r_istore_n hX [(0, .ref (L.1 0)), (1, .int (nI r)), (2, .int (nI (9 - i))), (3, .int ((nI (ctN A (9 - i) 0 (aW A))) - (nI (ctN A (9 - i) 1 (aW A))))), (4, .int (nI (9 - i))), (5, .int ((nI (ctN A (9 - i) 0 (aW A))) - (nI (ctN A (9 - i) 1 (aW A)))))] dX10_bound_82 hN3 rfl ?_
          refine r_iinc hX (nI (9 - i) + (-1)) [(0, .ref (L.1 0)), (1, .int (nI r)), (2, .int (nI (9 - i))), (3, .int ((nI (ctN A (9 - i) 0 (aW A))) - (nI (ctN A (9 - i) 1 (aW A))))), (4, .int (nI (9 - i) + (-1))), (5, .int ((nI (ctN A (9 - i) 0 (aW A))) - (nI (ctN A (9 - i) 1 (aW A)))))] dX10_bound_83 rfl rfl hN4 rfl ?_
          refine r_goto hX dX10_bound_86 ?_
          have q32 : bdK A (i + 1) = 9 - i := (by rw [bdK, if_pos (show gnI A (bdK A i) < gnI A (9 - i) from Int32.not_le.mp c26)])
          have q33 : (gnI A (bdK A (i + 1))) = ((nI (ctN A (9 - i) 0 (aW A))) - (nI (ctN A (9 - i) 1 (aW A)))) := (by rw [bdK, if_pos (show gnI A (bdK A i) < gnI A (9 - i) from Int32.not_le.mp c26)]; try rfl)
          have q34 : (nI 9 - nI (i + 1)) = (nI (9 - i) + (-1)) := (dec9 i hk)
          exact At.less (At.to (ls := [(0, .ref (L.1 0)), (1, .int (nI r)), (2, .int (nI (9 - i))), (3, .int ((nI (ctN A (9 - i) 0 (aW A))) - (nI (ctN A (9 - i) 1 (aW A))))), (4, .int (nI (9 - i) + (-1)))]) (ih15 _ (Sm.tr (Sm.tr hSk hS19) hS24)) (by rw [q34, q33, q32]) rfl rfl) (by simp)
    exact At.to (P12 0 (Nat.zero_le _) _ (Sm.tr (Sm.tr (Sm.rf σ) hS5) hS10)) (by rw [show nI 9 - nI 0 = nI 9 from by decide]; rfl) rfl rfl
  · skip
    refine r_ldc hX dX10_bound_9 ko_X10_72 ?_
    exact r_ireturn hX hQ dX10_bound_11 ⟨Nat.le_of_ble_eq_true rfl, Nat.le_of_ble_eq_true rfl⟩ (PI.mk ⟨by rw [oBound, if_neg (by rw [c1]; decide)], (Sm.rf σ)⟩)
