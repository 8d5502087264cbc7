set_option maxHeartbeats 4000000 in
set_option maxRecDepth 100000 in
theorem c_X10_pour {l : Launch} {D : Ds} {L : La} (hM : MAt L) (σ : Me) (A : Al) (hR : RM (σ 1) A) (hV : Va A) (B : Bs) (hB : RB σ B) (k o : Int32) : Ct l yX10_pour cX10_pour 6 (some .int) { frames := 3, cells := 0, slots := 0, locals := 64 } D L σ [.ref (L.1 0), .int k, .int o] (PI L (fun r σ2 => r = (oPour A B k o).1 ∧ RM (σ2 1) (oPour A B k o).2 ∧ S1 σ σ2)) := by
  refine Ct.of (by decide) (Nat.le_of_ble_eq_true rfl) ?_
  intro X hl hD hnl hX0 hQ
  have hX : Ok X cX10_pour RX10 "pour" { frames := 3, cells := 0, slots := 0, locals := 64 } (some .int) := hX0
  have hN3 : 3 < xn X := by rw [hnl]; decide
  have hN4 : 4 < xn X := by rw [hnl]; decide
  have hN5 : 5 < xn X := by rw [hnl]; decide
  have hT := hV.1
  have hNn := hV.2.1
  have hW := hV.2.2.1
  show At X L σ 0 0 [(0, .ref (L.1 0)), (1, .int k), (2, .int o)] 0 []
  refine r_iload_n hX dX10_pour_0 rfl ?_
  refine r_callSF (As := [.int k]) (rest := []) hX (c_X10_isSheet σ k) dX10_pour_1 cb_X10_343 rfl rfl ⟨Nat.le_of_ble_eq_true rfl, Nat.le_of_ble_eq_true rfl⟩ ⟨Nat.le_of_ble_eq_true rfl, Nat.le_of_ble_eq_true rfl⟩ (Nat.le_of_ble_eq_true rfl) ?_
  refine r_ifB_eq hX dX10_pour_4 (fun c1 => ?_) (fun c1 => ?_)
  · skip
    refine r_ldc hX dX10_pour_15 ko_X10_72 ?_
    exact r_ireturn hX hQ dX10_pour_17 ⟨Nat.le_of_ble_eq_true rfl, Nat.le_of_ble_eq_true rfl⟩ (PI.mk (by rw [oPour, if_neg (fun e => by rw [c1] at e; cases e.1)]; exact ⟨rfl, hR, S1.rf σ⟩))
  · skip
    obtain ⟨q, hql, hq, rfl⟩ := inB_nat c1 (by decide) (by decide)
    refine r_aload_n hX dX10_pour_7 rfl ?_
    refine r_iload_n hX dX10_pour_8 rfl ?_
    refine r_callVF (As := [.int o]) (rest := []) hX (c_X10_isOf hM σ A hR o) dX10_pour_9 cb_X10_93 (hM.1 0 (9, 0) rfl) rfl rfl ⟨Nat.le_of_ble_eq_true rfl, Nat.le_of_ble_eq_true rfl⟩ ⟨Nat.le_of_ble_eq_true rfl, Nat.le_of_ble_eq_true rfl⟩ (Nat.le_of_ble_eq_true rfl) ?_
    refine r_ifB_ne hX dX10_pour_12 (fun c2 => ?_) (fun c2 => ?_)
    · skip
      obtain ⟨p, hp, rfl, hp1, hp2⟩ := of_nat hV c2
      have hzq := (hB q (by omega)).2.2.1
      rcases hs3 : B.1 q with _ | _ | _
      · skip
        refine r_aload_n hX dX10_pour_18 rfl ?_
        refine r_getR hX dX10_pour_19 fl_X10_44 (hM.1 0 (9, 0) rfl) rfl (hM.2 35 12 rfl) ?_
        refine r_iload_n hX dX10_pour_22 rfl ?_
        refine r_aldN hX dX10_pour_23 (hM.1 12 (10, 4) rfl) (by decide) (by omega) (-1) ((hB q (by omega)).1.trans (by rw [hs3]; rfl)) ?_
        refine r_if_ge hX dX10_pour_24 (fun c4 => absurd c4 (by decide)) (fun c4 => ?_)
        refine r_ldcw hX dX10_pour_27 ko_X10_347 ?_
        exact r_ireturn hX hQ dX10_pour_30 ⟨Nat.le_of_ble_eq_true rfl, Nat.le_of_ble_eq_true rfl⟩ (PI.mk (by rw [oPour_0 (by omega) c1 c2 hs3]; exact ⟨rfl, hR, S1.rf σ⟩))
      · skip
        refine r_aload_n hX dX10_pour_18 rfl ?_
        refine r_getR hX dX10_pour_19 fl_X10_44 (hM.1 0 (9, 0) rfl) rfl (hM.2 35 12 rfl) ?_
        refine r_iload_n hX dX10_pour_22 rfl ?_
        refine r_aldN hX dX10_pour_23 (hM.1 12 (10, 4) rfl) (by decide) (by omega) (nI 0) ((hB q (by omega)).1.trans (by rw [hs3]; rfl)) ?_
        refine r_ifN_ge hX dX10_pour_24 (by decide) ?_
        refine r_aload_n hX dX10_pour_31 rfl ?_
        refine r_iload_n hX dX10_pour_32 rfl ?_
        refine r_callVF (As := [.int (nI q)]) (rest := []) hX (c_X10_told_ hM σ B hB q (by omega)) dX10_pour_33 cb_X10_351 (hM.1 0 (9, 0) rfl) rfl rfl ⟨Nat.le_of_ble_eq_true rfl, Nat.le_of_ble_eq_true rfl⟩ ⟨Nat.le_of_ble_eq_true rfl, Nat.le_of_ble_eq_true rfl⟩ (Nat.le_of_ble_eq_true rfl) ?_
        refine r_istore_n hX [(0, .ref (L.1 0)), (1, .int (nI q)), (2, .int (nI p)), (3, .int (nI (tdN B q)))] dX10_pour_36 hN3 rfl ?_
        refine r_aload_n hX dX10_pour_37 rfl ?_
        refine r_getR hX dX10_pour_38 fl_X10_9 (hM.1 0 (9, 0) rfl) rfl (hM.2 0 1 rfl) ?_
        refine r_iconst hX (nI 2) dX10_pour_41 rfl ?_
        refine r_aldN hX dX10_pour_42 (hM.1 1 (10, 1605) rfl) (by decide) (by decide) (nI (aW A)) hR.2.2.1 ?_
        refine r_iload_n hX dX10_pour_43 rfl ?_
        refine r_iaddN hX dX10_pour_44 ?_
        refine r_bipush hX (nI 24) dX10_pour_45 rfl ?_
        refine r_icmpN_le hX dX10_pour_47 (by have : tdN B q ≤ B.2.1 q := pfx_le _ _; omega) (by decide) (fun c5 => ?_) (fun c5 => ?_)
        · skip
          refine r_iconst hX (nI 0) dX10_pour_53 rfl ?_
          refine r_istore hX [(0, .ref (L.1 0)), (1, .int (nI q)), (2, .int (nI p)), (3, .int (nI (tdN B q))), (4, .int (nI 0))] dX10_pour_54 hN4 rfl ?_
          have P6 : ∀ i, i ≤ tdN B q → ∀ (σk : Me) (hRk : RM (σk 1) (prK A (p / 100) (p % 100) (B.2.2 q) i)) (hSk : S1 σ σk), At X L σk 0 0 [(0, .ref (L.1 0)), (1, .int (nI q)), (2, .int (nI p)), (3, .int (nI (tdN B q))), (4, .int (nI i))] 56 [] := by
            refine loopUp (tdN B q) ?_ ?_
            · skip
              intro σk hRk hSk
              refine r_iload hX dX10_pour_56 rfl ?_
              refine r_iload_n hX dX10_pour_58 rfl ?_
              refine r_icmpN_ge hX dX10_pour_59 (by have : tdN B q ≤ B.2.1 q := pfx_le _ _; omega) (by have : tdN B q ≤ B.2.1 q := pfx_le _ _; omega) (fun c7 => ?_) (fun c7 => absurd c7 (by omega))
              refine r_iload_n hX dX10_pour_105 rfl ?_
              exact r_ireturn hX hQ dX10_pour_106 ⟨Nat.le_of_ble_eq_true rfl, Nat.le_of_ble_eq_true rfl⟩ (PI.mk (by rw [oPour_y (by omega) (by omega) c1 c2 hs3 (by omega)]; exact ⟨rfl, hRk, hSk⟩))
            · skip
              intro i hk ih8 σk hRk hSk
              have htl := pfx_le (fun i => atB (B.2.2 q i)) (B.2.1 q)
              have htl2 : i < B.2.1 q := Nat.lt_of_lt_of_le hk htl
              obtain ⟨a, ha9, hae, ha1, ha5⟩ := at_nat (pfx_all (m := B.2.1 q) hk)
              refine r_iload hX dX10_pour_56 rfl ?_
              refine r_iload_n hX dX10_pour_58 rfl ?_
              refine r_icmpN_ge hX dX10_pour_59 (by have : tdN B q ≤ B.2.1 q := pfx_le _ _; omega) (by have : tdN B q ≤ B.2.1 q := pfx_le _ _; omega) (fun c9 => absurd c9 (by omega)) (fun c9 => ?_)
              refine r_aload_n hX dX10_pour_62 rfl ?_
              refine r_getR hX dX10_pour_63 fl_X10_50 (hM.1 0 (9, 0) rfl) rfl (hM.2 37 14 rfl) ?_
              refine r_bipush hX (nI 24) dX10_pour_66 rfl ?_
              refine r_iload_n hX dX10_pour_68 rfl ?_
              refine r_imulN hX dX10_pour_69 ?_
              refine r_iload hX dX10_pour_70 rfl ?_
              refine r_iaddN hX dX10_pour_72 ?_
              refine r_aldN hX dX10_pour_73 (hM.1 14 (10, 96) rfl) (by decide) (by omega) (nI a) ((hSk 14 _ (by decide) rfl).trans (((hB q (by omega)).2.2.2 i (by omega)).trans hae)) ?_
              refine r_istore hX [(0, .ref (L.1 0)), (1, .int (nI q)), (2, .int (nI p)), (3, .int (nI (tdN B q))), (4, .int (nI i)), (5, .int (nI a))] dX10_pour_74 hN5 rfl ?_
              refine r_aload_n hX dX10_pour_76 rfl ?_
              refine r_iconst hX (nI 0) dX10_pour_77 rfl ?_
              refine r_iload_n hX dX10_pour_78 rfl ?_
              refine r_bipush hX (nI 100) dX10_pour_79 rfl ?_
              refine r_idivN hX dX10_pour_81 (by omega) (by decide) (by decide) ?_
              refine r_iload_n hX dX10_pour_82 rfl ?_
              refine r_bipush hX (nI 100) dX10_pour_83 rfl ?_
              refine r_iremN hX dX10_pour_85 (by omega) (by decide) (by decide) ?_
              refine r_iload hX dX10_pour_86 rfl ?_
              refine r_bipush hX (nI 10) dX10_pour_88 rfl ?_
              refine r_idivN hX dX10_pour_90 (by omega) (by decide) (by decide) ?_
              refine r_iload hX dX10_pour_91 rfl ?_
              refine r_bipush hX (nI 10) dX10_pour_93 rfl ?_
              refine r_iremN hX dX10_pour_95 (by omega) (by decide) (by decide) ?_
              refine r_callVV (As := [.int (nI 0), .int (nI (p / 100)), .int (nI (p % 100)), .int (nI (a / 10)), .int (nI (a % 10))]) (rest := []) hX (c_X10_adds hM σk (prK A (p / 100) (p % 100) (B.2.2 q) i) hRk (va_prK hV hp1 hp2 i (by omega) (fun x hx => pfx_all (m := B.2.1 q) (show x < tdN B q by omega))) 0 (p / 100) (p % 100) (a / 10) (a % 10) (by rw [(prK_W A (p / 100) (p % 100) (B.2.2 q) i).1]; omega)) dX10_pour_96 cb_X10_99 (hM.1 0 (9, 0) rfl) rfl rfl ⟨Nat.le_of_ble_eq_true rfl, Nat.le_of_ble_eq_true rfl⟩ ⟨Nat.le_of_ble_eq_true rfl, Nat.le_of_ble_eq_true rfl⟩ (Nat.le_of_ble_eq_true rfl) (fun σ10 h11 => ?_)
              obtain ⟨hR12, hO13⟩ := h11
              refine r_iincN (n := 1) hX [(0, .ref (L.1 0)), (1, .int (nI q)), (2, .int (nI p)), (3, .int (nI (tdN B q))), (4, .int (nI (i + 1))), (5, .int (nI a))] dX10_pour_99 rfl hN4 rfl ?_
              refine r_goto hX dX10_pour_102 ?_
              exact At.less (At.to (ls := [(0, .ref (L.1 0)), (1, .int (nI q)), (2, .int (nI p)), (3, .int (nI (tdN B q))), (4, .int (nI (i + 1)))]) (ih8 _ (by rw [prK, hae, nI_clamp (n := a) (by omega)]; exact hR12) (S1.tr hSk hO13.s1)) rfl rfl rfl) (by simp)
          exact At.to (P6 0 (Nat.zero_le _) σ hR (S1.rf σ)) rfl rfl rfl
        · skip
          refine r_ldc hX dX10_pour_50 ko_X10_73 ?_
          exact r_ireturn hX hQ dX10_pour_52 ⟨Nat.le_of_ble_eq_true rfl, Nat.le_of_ble_eq_true rfl⟩ (PI.mk (by rw [oPour_f (by omega) c1 c2 hs3 (by omega)]; exact ⟨rfl, hR, S1.rf σ⟩))
      · skip
        refine r_aload_n hX dX10_pour_18 rfl ?_
        refine r_getR hX dX10_pour_19 fl_X10_44 (hM.1 0 (9, 0) rfl) rfl (hM.2 35 12 rfl) ?_
        refine r_iload_n hX dX10_pour_22 rfl ?_
        refine r_aldN hX dX10_pour_23 (hM.1 12 (10, 4) rfl) (by decide) (by omega) (nI 1) ((hB q (by omega)).1.trans (by rw [hs3]; rfl)) ?_
        refine r_ifN_ge hX dX10_pour_24 (by decide) ?_
        refine r_aload_n hX dX10_pour_31 rfl ?_
        refine r_iload_n hX dX10_pour_32 rfl ?_
        refine r_callVF (As := [.int (nI q)]) (rest := []) hX (c_X10_told_ hM σ B hB q (by omega)) dX10_pour_33 cb_X10_351 (hM.1 0 (9, 0) rfl) rfl rfl ⟨Nat.le_of_ble_eq_true rfl, Nat.le_of_ble_eq_true rfl⟩ ⟨Nat.le_of_ble_eq_true rfl, Nat.le_of_ble_eq_true rfl⟩ (Nat.le_of_ble_eq_true rfl) ?_
        refine r_istore_n hX [(0, .ref (L.1 0)), (1, .int (nI q)), (2, .int (nI p)), (3, .int (nI (tdN B q)))] dX10_pour_36 hN3 rfl ?_
        refine r_aload_n hX dX10_pour_37 rfl ?_
        refine r_getR hX dX10_pour_38 fl_X10_9 (hM.1 0 (9, 0) rfl) rfl (hM.2 0 1 rfl) ?_
        refine r_iconst hX (nI 2) dX10_pour_41 rfl ?_
        refine r_aldN hX dX10_pour_42 (hM.1 1 (10, 1605) rfl) (by decide) (by decide) (nI (aW A)) hR.2.2.1 ?_
        refine r_iload_n hX dX10_pour_43 rfl ?_
        refine r_iaddN hX dX10_pour_44 ?_
        refine r_bipush hX (nI 24) dX10_pour_45 rfl ?_
        refine r_icmpN_le hX dX10_pour_47 (by have : tdN B q ≤ B.2.1 q := pfx_le _ _; omega) (by decide) (fun c14 => ?_) (fun c14 => ?_)
        · skip
          refine r_iconst hX (nI 0) dX10_pour_53 rfl ?_
          refine r_istore hX [(0, .ref (L.1 0)), (1, .int (nI q)), (2, .int (nI p)), (3, .int (nI (tdN B q))), (4, .int (nI 0))] dX10_pour_54 hN4 rfl ?_
          have P15 : ∀ i, i ≤ tdN B q → ∀ (σk : Me) (hRk : RM (σk 1) (prK A (p / 100) (p % 100) (B.2.2 q) i)) (hSk : S1 σ σk), At X L σk 0 0 [(0, .ref (L.1 0)), (1, .int (nI q)), (2, .int (nI p)), (3, .int (nI (tdN B q))), (4, .int (nI i))] 56 [] := by
            refine loopUp (tdN B q) ?_ ?_
            · skip
              intro σk hRk hSk
              refine r_iload hX dX10_pour_56 rfl ?_
              refine r_iload_n hX dX10_pour_58 rfl ?_
              refine r_icmpN_ge hX dX10_pour_59 (by have : tdN B q ≤ B.2.1 q := pfx_le _ _; omega) (by have : tdN B q ≤ B.2.1 q := pfx_le _ _; omega) (fun c16 => ?_) (fun c16 => absurd c16 (by omega))
              refine r_iload_n hX dX10_pour_105 rfl ?_
              exact r_ireturn hX hQ dX10_pour_106 ⟨Nat.le_of_ble_eq_true rfl, Nat.le_of_ble_eq_true rfl⟩ (PI.mk (by rw [oPour_y (by omega) (by omega) c1 c2 hs3 (by omega)]; exact ⟨rfl, hRk, hSk⟩))
            · skip
              intro i hk ih17 σk hRk hSk
              have htl := pfx_le (fun i => atB (B.2.2 q i)) (B.2.1 q)
              have htl2 : i < B.2.1 q := Nat.lt_of_lt_of_le hk htl
              obtain ⟨a, ha9, hae, ha1, ha5⟩ := at_nat (pfx_all (m := B.2.1 q) hk)
              refine r_iload hX dX10_pour_56 rfl ?_
              refine r_iload_n hX dX10_pour_58 rfl ?_
              refine r_icmpN_ge hX dX10_pour_59 (by have : tdN B q ≤ B.2.1 q := pfx_le _ _; omega) (by have : tdN B q ≤ B.2.1 q := pfx_le _ _; omega) (fun c18 => absurd c18 (by omega)) (fun c18 => ?_)
              refine r_aload_n hX dX10_pour_62 rfl ?_
              refine r_getR hX dX10_pour_63 fl_X10_50 (hM.1 0 (9, 0) rfl) rfl (hM.2 37 14 rfl) ?_
              refine r_bipush hX (nI 24) dX10_pour_66 rfl ?_
              refine r_iload_n hX dX10_pour_68 rfl ?_
              refine r_imulN hX dX10_pour_69 ?_
              refine r_iload hX dX10_pour_70 rfl ?_
              refine r_iaddN hX dX10_pour_72 ?_
              refine r_aldN hX dX10_pour_73 (hM.1 14 (10, 96) rfl) (by decide) (by omega) (nI a) ((hSk 14 _ (by decide) rfl).trans (((hB q (by omega)).2.2.2 i (by omega)).trans hae)) ?_
              refine r_istore hX [(0, .ref (L.1 0)), (1, .int (nI q)), (2, .int (nI p)), (3, .int (nI (tdN B q))), (4, .int (nI i)), (5, .int (nI a))] dX10_pour_74 hN5 rfl ?_
              refine r_aload_n hX dX10_pour_76 rfl ?_
              refine r_iconst hX (nI 0) dX10_pour_77 rfl ?_
              refine r_iload_n hX dX10_pour_78 rfl ?_
              refine r_bipush hX (nI 100) dX10_pour_79 rfl ?_
              refine r_idivN hX dX10_pour_81 (by omega) (by decide) (by decide) ?_
              refine r_iload_n hX dX10_pour_82 rfl ?_
              refine r_bipush hX (nI 100) dX10_pour_83 rfl ?_
              refine r_iremN hX dX10_pour_85 (by omega) (by decide) (by decide) ?_
              refine r_iload hX dX10_pour_86 rfl ?_
              refine r_bipush hX (nI 10) dX10_pour_88 rfl ?_
              refine r_idivN hX dX10_pour_90 (by omega) (by decide) (by decide) ?_
              refine r_iload hX dX10_pour_91 rfl ?_
              refine r_bipush hX (nI 10) dX10_pour_93 rfl ?_
              refine r_iremN hX dX10_pour_95 (by omega) (by decide) (by decide) ?_
              refine r_callVV (As := [.int (nI 0), .int (nI (p / 100)), .int (nI (p % 100)), .int (nI (a / 10)), .int (nI (a % 10))]) (rest := []) hX (c_X10_adds hM σk (prK A (p / 100) (p % 100) (B.2.2 q) i) hRk (va_prK hV hp1 hp2 i (by omega) (fun x hx => pfx_all (m := B.2.1 q) (show x < tdN B q by omega))) 0 (p / 100) (p % 100) (a / 10) (a % 10) (by rw [(prK_W A (p / 100) (p % 100) (B.2.2 q) i).1]; omega)) dX10_pour_96 cb_X10_99 (hM.1 0 (9, 0) rfl) rfl rfl ⟨Nat.le_of_ble_eq_true rfl, Nat.le_of_ble_eq_true rfl⟩ ⟨Nat.le_of_ble_eq_true rfl, Nat.le_of_ble_eq_true rfl⟩ (Nat.le_of_ble_eq_true rfl) (fun σ19 h20 => ?_)
              obtain ⟨hR21, hO22⟩ := h20
              refine r_iincN (n := 1) hX [(0, .ref (L.1 0)), (1, .int (nI q)), (2, .int (nI p)), (3, .int (nI (tdN B q))), (4, .int (nI (i + 1))), (5, .int (nI a))] dX10_pour_99 rfl hN4 rfl ?_
              refine r_goto hX dX10_pour_102 ?_
              exact At.less (At.to (ls := [(0, .ref (L.1 0)), (1, .int (nI q)), (2, .int (nI p)), (3, .int (nI (tdN B q))), (4, .int (nI (i + 1)))]) (ih17 _ (by rw [prK, hae, nI_clamp (n := a) (by omega)]; exact hR21) (S1.tr hSk hO22.s1)) rfl rfl rfl) (by simp)
          exact At.to (P15 0 (Nat.zero_le _) σ hR (S1.rf σ)) rfl rfl rfl
        · skip
          refine r_ldc hX dX10_pour_50 ko_X10_73 ?_
          exact r_ireturn hX hQ dX10_pour_52 ⟨Nat.le_of_ble_eq_true rfl, Nat.le_of_ble_eq_true rfl⟩ (PI.mk (by rw [oPour_f (by omega) c1 c2 hs3 (by omega)]; exact ⟨rfl, hR, S1.rf σ⟩))
    · skip
      refine r_ldc hX dX10_pour_15 ko_X10_72 ?_
      exact r_ireturn hX hQ dX10_pour_17 ⟨Nat.le_of_ble_eq_true rfl, Nat.le_of_ble_eq_true rfl⟩ (PI.mk (by rw [oPour, if_neg (fun e => by rw [c2] at e; cases e.2)]; exact ⟨rfl, hR, S1.rf σ⟩))
