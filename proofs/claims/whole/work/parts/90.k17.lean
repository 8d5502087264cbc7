set_option maxHeartbeats 4000000 in
set_option maxRecDepth 100000 in
theorem c_X2_sortAt {l : Launch} {D : Ds} {L : La}  (hA : CAt L) (σ : Me) (P : Tp) (hP : RTc σ P) (p : Nat) (hp : p < 2 ^ 31) : Ct l yX2_sortAt cX2_sortAt 3 (some .int) { frames := 0, cells := 0, slots := 0, locals := 0 } D L σ [.ref (L.1 105), .int (nI p)] (PF L σ (nI (srtN (cl P p)))) := by
  refine Ct.of (by decide) (Nat.le_of_ble_eq_true rfl) ?_
  intro X hl hD hnl hX0 hQ
  have hX : Ok X cX2_sortAt RX2 "sortAt" { frames := 0, cells := 0, slots := 0, locals := 0 } (some .int) := hX0
  have hN2 : 2 < xn X := by rw [hnl]; decide
  have hP96 := hP.2.1
  show At X L σ 0 0 [(0, .ref (L.1 105)), (1, .int (nI p))] 0 []
  refine r_iload_n hX dX2_sortAt_0 rfl ?_
  refine r_ifN_lt hX dX2_sortAt_1 (by omega) ?_
  refine r_iload_n hX dX2_sortAt_4 rfl ?_
  refine r_aload_n hX dX2_sortAt_5 rfl ?_
  refine r_getR hX dX2_sortAt_6 fl_X2_37 (hA.1 105 (1, 0) rfl) rfl (hA.2.1 105 0 103 rfl) ?_
  refine r_getIV hX dX2_sortAt_9 fl_X2_63 (hA.1 103 (5, 0) rfl) rfl (nI P.1) hP.1 ?_
  refine r_icmpN_lt hX dX2_sortAt_12 (by omega) (by omega) (fun c1 => ?_) (fun c1 => ?_)
  · skip
    refine r_aload_n hX dX2_sortAt_17 rfl ?_
    refine r_getR hX dX2_sortAt_18 fl_X2_37 (hA.1 105 (1, 0) rfl) rfl (hA.2.1 105 0 103 rfl) ?_
    refine r_getR hX dX2_sortAt_21 fl_X2_68 (hA.1 103 (5, 0) rfl) rfl (hA.2.1 103 0 104 rfl) ?_
    refine r_iload_n hX dX2_sortAt_24 rfl ?_
    refine r_baldN hX dX2_sortAt_25 (hA.1 104 (11, 96) rfl) (by decide) (by omega) (sb (P.2 p)) (hP.2.2 p (by omega)).1 ?_
    have hb := (hP.2.2 p (by omega)).2
    by_cases hv : P.2 p < 128
    · skip
      rw [sb_lt hv]
      refine r_istore_n hX [(0, .ref (L.1 105)), (1, .int (nI p)), (2, .int (nI (P.2 p)))] dX2_sortAt_26 hN2 rfl ?_
      refine r_iload_n hX dX2_sortAt_27 rfl ?_
      refine r_bipush hX (nI 97) dX2_sortAt_28 rfl ?_
      refine r_icmpN_lt hX dX2_sortAt_30 (by omega) (by decide) (fun c2 => ?_) (fun c2 => ?_)
      · skip
        refine r_iload_n hX dX2_sortAt_43 rfl ?_
        refine r_bipush hX (nI 48) dX2_sortAt_44 rfl ?_
        refine r_icmpN_lt hX dX2_sortAt_46 (by omega) (by decide) (fun c3 => ?_) (fun c3 => ?_)
        · skip
          refine r_iconst hX (nI 1) dX2_sortAt_59 rfl ?_
          exact r_ireturn hX hQ dX2_sortAt_60 ⟨Nat.le_of_ble_eq_true rfl, Nat.le_of_ble_eq_true rfl⟩ (PF.mk (by rw [cl_mrk (by omega) (by omega) (by omega)]; rfl))
        · skip
          refine r_iload_n hX dX2_sortAt_49 rfl ?_
          refine r_bipush hX (nI 57) dX2_sortAt_50 rfl ?_
          refine r_icmpN_gt hX dX2_sortAt_52 (by omega) (by decide) (fun c4 => ?_) (fun c4 => ?_)
          · skip
            refine r_iconst hX (nI 1) dX2_sortAt_59 rfl ?_
            exact r_ireturn hX hQ dX2_sortAt_60 ⟨Nat.le_of_ble_eq_true rfl, Nat.le_of_ble_eq_true rfl⟩ (PF.mk (by rw [cl_mrk (by omega) (by omega) (by omega)]; rfl))
          · skip
            refine r_iconst hX (nI 3) dX2_sortAt_55 rfl ?_
            refine r_goto hX dX2_sortAt_56 ?_
            exact r_ireturn hX hQ dX2_sortAt_60 ⟨Nat.le_of_ble_eq_true rfl, Nat.le_of_ble_eq_true rfl⟩ (PF.mk (by rw [cl_dig (by omega) (by omega) (by omega)]; rfl))
      · skip
        refine r_iload_n hX dX2_sortAt_33 rfl ?_
        refine r_bipush hX (nI 122) dX2_sortAt_34 rfl ?_
        refine r_icmpN_gt hX dX2_sortAt_36 (by omega) (by decide) (fun c5 => ?_) (fun c5 => ?_)
        · skip
          refine r_iload_n hX dX2_sortAt_43 rfl ?_
          refine r_bipush hX (nI 48) dX2_sortAt_44 rfl ?_
          refine r_icmpN_lt hX dX2_sortAt_46 (by omega) (by decide) (fun c6 => ?_) (fun c6 => ?_)
          · skip
            refine r_iconst hX (nI 1) dX2_sortAt_59 rfl ?_
            exact r_ireturn hX hQ dX2_sortAt_60 ⟨Nat.le_of_ble_eq_true rfl, Nat.le_of_ble_eq_true rfl⟩ (PF.mk (by rw [cl_mrk (by omega) (by omega) (by omega)]; rfl))
          · skip
            refine r_iload_n hX dX2_sortAt_49 rfl ?_
            refine r_bipush hX (nI 57) dX2_sortAt_50 rfl ?_
            refine r_icmpN_gt hX dX2_sortAt_52 (by omega) (by decide) (fun c7 => ?_) (fun c7 => ?_)
            · skip
              refine r_iconst hX (nI 1) dX2_sortAt_59 rfl ?_
              exact r_ireturn hX hQ dX2_sortAt_60 ⟨Nat.le_of_ble_eq_true rfl, Nat.le_of_ble_eq_true rfl⟩ (PF.mk (by rw [cl_mrk (by omega) (by omega) (by omega)]; rfl))
            · skip
              refine r_iconst hX (nI 3) dX2_sortAt_55 rfl ?_
              refine r_goto hX dX2_sortAt_56 ?_
              exact r_ireturn hX hQ dX2_sortAt_60 ⟨Nat.le_of_ble_eq_true rfl, Nat.le_of_ble_eq_true rfl⟩ (PF.mk (by rw [cl_dig (by omega) (by omega) (by omega)]; rfl))
        · skip
          refine r_iconst hX (nI 2) dX2_sortAt_39 rfl ?_
          refine r_goto hX dX2_sortAt_40 ?_
          exact r_ireturn hX hQ dX2_sortAt_60 ⟨Nat.le_of_ble_eq_true rfl, Nat.le_of_ble_eq_true rfl⟩ (PF.mk (by rw [cl_let (by omega) (by omega) (by omega)]; rfl))
    · skip
      have hneg := sb_neg _ hb (by omega)
      refine r_istore_n hX [(0, .ref (L.1 105)), (1, .int (nI p)), (2, .int (sb (P.2 p)))] dX2_sortAt_26 hN2 rfl ?_
      refine r_iload_n hX dX2_sortAt_27 rfl ?_
      refine r_bipush hX (nI 97) dX2_sortAt_28 rfl ?_
      refine r_icmp_lt hX dX2_sortAt_30 (fun c8 => ?_) (fun c8 => absurd (nlt1 (by decide) hneg) c8)
      refine r_iload_n hX dX2_sortAt_43 rfl ?_
      refine r_bipush hX (nI 48) dX2_sortAt_44 rfl ?_
      refine r_icmp_lt hX dX2_sortAt_46 (fun c9 => ?_) (fun c9 => absurd (nlt1 (by decide) hneg) c9)
      refine r_iconst hX (nI 1) dX2_sortAt_59 rfl ?_
      exact r_ireturn hX hQ dX2_sortAt_60 ⟨Nat.le_of_ble_eq_true rfl, Nat.le_of_ble_eq_true rfl⟩ (PF.mk (by rw [cl_mrk (by omega) (by omega) (by omega)]; rfl))
  · skip
    refine r_iconst hX (nI 0) dX2_sortAt_15 rfl ?_
    exact r_ireturn hX hQ dX2_sortAt_16 ⟨Nat.le_of_ble_eq_true rfl, Nat.le_of_ble_eq_true rfl⟩ (PF.mk (by rw [cl_end (by omega)]; rfl))

set_option maxHeartbeats 4000000 in
set_option maxRecDepth 100000 in
theorem c_X2_step {l : Launch} {D : Ds} {L : La}  (hA : CAt L) (σ : Me) (P : Tp) (hP : RTc σ P) (e n0 : Nat) (ww : Bool) (he : e ≤ P.1) (hn0 : n0 ≤ 4) (h6 : σ 105 6 = nI n0) (h8 : σ 105 8 = nI e) (hww : ww = (decide (n0 = 2) || decide (n0 = 3))) : Ct l yX2_step cX2_step 3 none { frames := 1, cells := 0, slots := 0, locals := 22 } D L σ [.ref (L.1 105)] (PV L (fun σ2 => RLc σ2 (nx P e ww) ∧ Ex pXc σ σ2)) := by
  refine Ct.of (by decide) (Nat.le_of_ble_eq_true rfl) ?_
  intro X hl hD hnl hX0 hQ
  have hX : Ok X cX2_step RX2 "step" { frames := 1, cells := 0, slots := 0, locals := 22 } none := hX0
  have hN1 : 1 < xn X := by rw [hnl]; decide
  have hN2 : 2 < xn X := by rw [hnl]; decide
  have hP96 := hP.2.1
  have hsk := skp_ok P he
  show At X L σ 0 0 [(0, .ref (L.1 105))] 0 []
  refine r_aload_n hX dX2_step_0 rfl ?_
  refine r_getIV hX dX2_step_1 fl_X2_34 (hA.1 105 (1, 0) rfl) rfl (nI e) h8 ?_
  refine r_istore_n hX [(0, .ref (L.1 105)), (1, .int (nI e))] dX2_step_4 hN1 rfl ?_
  refine r_aload_n hX dX2_step_5 rfl ?_
  refine r_getIV hX dX2_step_6 fl_X2_28 (hA.1 105 (1, 0) rfl) rfl (nI n0) h6 ?_
  refine r_iconst hX (nI 2) dX2_step_9 rfl ?_
  refine r_icmpN_eq hX dX2_step_10 (by omega) (by decide) (fun c1 => ?_) (fun c1 => ?_)
  · skip
    refine r_iconst hX (nI 1) dX2_step_21 rfl ?_
    refine r_goto hX dX2_step_22 ?_
    have hwt : ww = true := by rw [hww]; simp; omega
    refine r_istore_n hX [(0, .ref (L.1 105)), (1, .int (nI e)), (2, .int (nI 1))] dX2_step_26 hN2 rfl ?_
    refine r_aload_n hX dX2_step_27 rfl ?_
    refine r_iload_n hX dX2_step_28 rfl ?_
    refine r_putI hX dX2_step_29 fl_X2_31 (hA.1 105 (1, 0) rfl) rfl rfl rfl rfl ?_
    have P2 : ∀ k, k ≤ skp P e - e → ∀ (σk : Me) (h7k : σk 105 7 = nI (e + k)) (hEk : Ex pXc σ σk), At X L σk 0 0 [(0, .ref (L.1 105)), (1, .int (nI e)), (2, .int (nI 1))] 32 [] := by
      refine loopUp (skp P e - e) ?_ ?_
      · skip
        intro σk h7k hEk
        rw [show e + (skp P e - e) = skp P e by omega] at h7k
        refine r_aload_n hX dX2_step_32 rfl ?_
        refine r_getIV hX dX2_step_33 fl_X2_31 (hA.1 105 (1, 0) rfl) rfl (nI (skp P e)) h7k ?_
        refine r_aload_n hX dX2_step_36 rfl ?_
        refine r_getR hX dX2_step_37 fl_X2_37 (hA.1 105 (1, 0) rfl) rfl (hA.2.1 105 0 103 rfl) ?_
        refine r_getIV hX dX2_step_40 fl_X2_63 (hA.1 103 (5, 0) rfl) rfl (nI P.1) ((hP.xc hEk)).1 ?_
        refine r_icmpN_ge hX dX2_step_43 (by omega) (by omega) (fun c3 => ?_) (fun c3 => ?_)
        · skip
          refine r_aload_n hX dX2_step_76 rfl ?_
          refine r_aload_n hX dX2_step_77 rfl ?_
          refine r_getIV hX dX2_step_78 fl_X2_31 (hA.1 105 (1, 0) rfl) rfl (nI (skp P e)) h7k ?_
          refine r_putI hX dX2_step_81 fl_X2_34 (hA.1 105 (1, 0) rfl) rfl rfl rfl rfl ?_
          refine r_aload_n hX dX2_step_84 rfl ?_
          refine r_aload_n hX dX2_step_85 rfl ?_
          refine r_aload_n hX dX2_step_86 rfl ?_
          refine r_getIV hX dX2_step_87 fl_X2_31 (hA.1 105 (1, 0) rfl) rfl (nI (skp P e)) (by rw [up_n (by omega)]; exact h7k) ?_
          refine r_callVF (As := [.int (nI (skp P e))]) (rest := [.ref (L.1 105)]) hX (c_X2_sortAt hA (up σk 105 8 (nI (skp P e))) P (hP.xc (Ex.up hEk rfl)) (skp P e) (by omega)) dX2_step_90 cb_X2_72 (hA.1 105 (1, 0) rfl) rfl rfl ⟨Nat.le_of_ble_eq_true rfl, Nat.le_of_ble_eq_true rfl⟩ ⟨Nat.le_of_ble_eq_true rfl, Nat.le_of_ble_eq_true rfl⟩ (Nat.le_of_ble_eq_true rfl) ?_
          rcases (show cl P (skp P e) = 0 ∨ cl P (skp P e) = 1 ∨ cl P (skp P e) = 2 ∨ cl P (skp P e) = 3 by have := cl_le P (skp P e); omega) with hcl | hcl | hcl | hcl <;> rw [hcl]
          · skip
            show At X L (up σk 105 8 (nI (skp P e))) 0 0 [(0, .ref (L.1 105)), (1, .int (nI e)), (2, .int (nI 1))] 93 [.int (nI 0), .ref (L.1 105)]
            refine r_putI hX dX2_step_93 fl_X2_28 (hA.1 105 (1, 0) rfl) rfl rfl rfl rfl ?_
            refine r_aload_n hX dX2_step_96 rfl ?_
            refine r_getIV hX dX2_step_97 fl_X2_28 (hA.1 105 (1, 0) rfl) rfl (nI 0) up_s ?_
            refine r_ifN_ne hX dX2_step_100 (by decide) (fun c4 => absurd c4 (by decide)) (fun c4 => ?_)
            exact r_return hX hQ dX2_step_103 ⟨Nat.le_of_ble_eq_true rfl, Nat.le_of_ble_eq_true rfl⟩ (PV.mk ⟨⟨(show (up (up σk 105 8 (nI (skp P e))) 105 6 (nI 0)) 105 6 = nI 0 from up_s).trans (congrArg nI (by unfold nxN; rw [if_neg (fun z => by have z := z.1; unfold wwB nx at z; simp only [hcl] at z; cases z)]; show 0 = srtN (cl P (skp P e)); rw [hcl]; rfl)), (by rw [up_n (by omega), up_n (by omega)]; exact h7k), Eq.trans (b := nI (skp P e)) (by rw [up_n (by omega), up_s]) (congrArg nI (show _ = lxE P (skp P e) from by unfold lxE; rw [if_pos hcl]))⟩, (Ex.up (Ex.up hEk rfl) rfl)⟩)
          · skip
            show At X L (up σk 105 8 (nI (skp P e))) 0 0 [(0, .ref (L.1 105)), (1, .int (nI e)), (2, .int (nI 1))] 93 [.int (nI 2), .ref (L.1 105)]
            have hKl : skp P e < P.1 := cl_in (by rw [hcl]; decide)
            obtain ⟨rn, hrn⟩ : ∃ r, r = rnn P 1 (skp P e) := ⟨_, rfl⟩
            obtain ⟨r1, r2, r3, r4⟩ := rnn_ok P 1 hsk.2.1
            have rp := rnn_pos hcl hKl
            rw [← hrn] at r1 r2 r3 r4 rp
            refine r_putI hX dX2_step_93 fl_X2_28 (hA.1 105 (1, 0) rfl) rfl rfl rfl rfl ?_
            refine r_aload_n hX dX2_step_96 rfl ?_
            refine r_getIV hX dX2_step_97 fl_X2_28 (hA.1 105 (1, 0) rfl) rfl (nI 2) up_s ?_
            refine r_ifN_ne hX dX2_step_100 (by decide) (fun c5 => ?_) (fun c5 => absurd c5 (by decide))
            refine r_aload_n hX dX2_step_104 rfl ?_
            refine r_dup hX dX2_step_105 rfl ?_
            refine r_getIV hX dX2_step_106 fl_X2_34 (hA.1 105 (1, 0) rfl) rfl (nI (skp P e)) (by rw [up_n (by omega), up_s]) ?_
            refine r_iconst hX (nI 1) dX2_step_109 rfl ?_
            refine r_iaddN hX dX2_step_110 ?_
            refine r_putI hX dX2_step_111 fl_X2_34 (hA.1 105 (1, 0) rfl) rfl rfl rfl rfl ?_
            have P6 : ∀ j, j ≤ rn - (skp P e + 1) → ∀ (σj : Me) (h7j : σj 105 7 = nI (skp P e)) (h6j : σj 105 6 = nI 2) (h8j : σj 105 8 = nI (skp P e + 1 + j)) (hEj : Ex pXc σ σj), At X L σj 0 0 [(0, .ref (L.1 105)), (1, .int (nI e)), (2, .int (nI 1))] 114 [] := by
              refine loopUp (rn - (skp P e + 1)) ?_ ?_
              · skip
                intro σj h7j h6j h8j hEj
                rw [show skp P e + 1 + (rn - (skp P e + 1)) = rn by omega] at h8j
                refine r_aload_n hX dX2_step_114 rfl ?_
                refine r_getIV hX dX2_step_115 fl_X2_28 (hA.1 105 (1, 0) rfl) rfl (nI 2) h6j ?_
                refine r_iconst hX (nI 1) dX2_step_118 rfl ?_
                refine r_icmpN_eq hX dX2_step_119 (by decide) (by decide) (fun c7 => absurd c7 (by decide)) (fun c7 => ?_)
                refine r_aload_n hX dX2_step_122 rfl ?_
                refine r_getIV hX dX2_step_123 fl_X2_34 (hA.1 105 (1, 0) rfl) rfl (nI rn) h8j ?_
                refine r_aload_n hX dX2_step_126 rfl ?_
                refine r_getR hX dX2_step_127 fl_X2_37 (hA.1 105 (1, 0) rfl) rfl (hA.2.1 105 0 103 rfl) ?_
                refine r_getIV hX dX2_step_130 fl_X2_63 (hA.1 103 (5, 0) rfl) rfl (nI P.1) ((hP.xc hEj)).1 ?_
                refine r_icmpN_ge hX dX2_step_133 (by omega) (by omega) (fun c8 => ?_) (fun c8 => ?_)
                · skip
                  refine r_aload_n hX dX2_step_164 rfl ?_
                  refine r_getIV hX dX2_step_165 fl_X2_28 (hA.1 105 (1, 0) rfl) rfl (nI 2) h6j ?_
                  refine r_iconst hX (nI 1) dX2_step_168 rfl ?_
                  refine r_icmpN_eq hX dX2_step_169 (by decide) (by decide) (fun c9 => absurd c9 (by decide)) (fun c9 => ?_)
                  refine r_iload_n hX dX2_step_172 rfl ?_
                  refine r_ifN_eq hX dX2_step_173 (by decide) (fun c10 => absurd c10 (by decide)) (fun c10 => ?_)
                  refine r_aload_n hX dX2_step_176 rfl ?_
                  refine r_getIV hX dX2_step_177 fl_X2_31 (hA.1 105 (1, 0) rfl) rfl (nI (skp P e)) h7j ?_
                  refine r_iload_n hX dX2_step_180 rfl ?_
                  refine r_icmpN_ne hX dX2_step_181 (by omega) (by omega) (fun c11 => ?_) (fun c11 => ?_)
                  · skip
                    exact r_return hX hQ dX2_step_189 ⟨Nat.le_of_ble_eq_true rfl, Nat.le_of_ble_eq_true rfl⟩ (PV.mk ⟨⟨(show σj 105 6 = nI 2 from h6j).trans (congrArg nI (by unfold nxN; rw [if_neg (fun z => by have z := z.2; change (ww && decide (skp P e = e)) = true at z; rw [decide_eq_false (show ¬ skp P e = e from c11), Bool.and_false] at z; cases z)]; show 2 = srtN (cl P (skp P e)); rw [hcl]; rfl)), h7j, Eq.trans (b := nI rn) h8j (congrArg nI (show _ = lxE P (skp P e) from by unfold lxE; rw [hcl]; exact hrn))⟩, hEj⟩)
                  · skip
                    refine r_aload_n hX dX2_step_184 rfl ?_
                    refine r_iconst hX (nI 4) dX2_step_185 rfl ?_
                    refine r_putI hX dX2_step_186 fl_X2_28 (hA.1 105 (1, 0) rfl) rfl rfl rfl rfl ?_
                    exact r_return hX hQ dX2_step_189 ⟨Nat.le_of_ble_eq_true rfl, Nat.le_of_ble_eq_true rfl⟩ (PV.mk ⟨⟨(show (up σj 105 6 (nI 4)) 105 6 = nI 4 from up_s).trans (congrArg nI (by unfold nxN; rw [if_pos ⟨by unfold wwB nx; simp only [hcl]; rfl, by show (ww && decide (skp P e = e)) = true; rw [show ww = true from hwt, decide_eq_true (show skp P e = e from c11)]; rfl⟩])), (by rw [up_n (by omega)]; exact h7j), Eq.trans (b := nI rn) (by rw [up_n (by omega)]; exact h8j) (congrArg nI (show _ = lxE P (skp P e) from by unfold lxE; rw [hcl]; exact hrn))⟩, (Ex.up hEj rfl)⟩)
                · skip
                  refine r_aload_n hX dX2_step_136 rfl ?_
                  refine r_aload_n hX dX2_step_137 rfl ?_
                  refine r_getIV hX dX2_step_138 fl_X2_34 (hA.1 105 (1, 0) rfl) rfl (nI rn) h8j ?_
                  refine r_callVF (As := [.int (nI rn)]) (rest := []) hX (c_X2_sortAt hA σj P (hP.xc hEj) rn (by omega)) dX2_step_141 cb_X2_72 (hA.1 105 (1, 0) rfl) rfl rfl ⟨Nat.le_of_ble_eq_true rfl, Nat.le_of_ble_eq_true rfl⟩ ⟨Nat.le_of_ble_eq_true rfl, Nat.le_of_ble_eq_true rfl⟩ (Nat.le_of_ble_eq_true rfl) ?_
                  refine r_aload_n hX dX2_step_144 rfl ?_
                  refine r_getIV hX dX2_step_145 fl_X2_28 (hA.1 105 (1, 0) rfl) rfl (nI 2) h6j ?_
                  refine r_icmpN_ne hX dX2_step_148 (by first | omega | exact Nat.lt_of_le_of_lt (srt_le _) (by decide)) (by decide) (fun c12 => ?_) (fun c12 => absurd c12 (fun z => r4 ⟨by omega, by have q := srt_inj (cl_le P rn) (by decide) (show srtN (cl P rn) = srtN 1 from z); unfold cl at q; rw [if_pos (by omega)] at q; exact q⟩))
                  refine r_aload_n hX dX2_step_164 rfl ?_
                  refine r_getIV hX dX2_step_165 fl_X2_28 (hA.1 105 (1, 0) rfl) rfl (nI 2) h6j ?_
                  refine r_iconst hX (nI 1) dX2_step_168 rfl ?_
                  refine r_icmpN_eq hX dX2_step_169 (by decide) (by decide) (fun c13 => absurd c13 (by decide)) (fun c13 => ?_)
                  refine r_iload_n hX dX2_step_172 rfl ?_
                  refine r_ifN_eq hX dX2_step_173 (by decide) (fun c14 => absurd c14 (by decide)) (fun c14 => ?_)
                  refine r_aload_n hX dX2_step_176 rfl ?_
                  refine r_getIV hX dX2_step_177 fl_X2_31 (hA.1 105 (1, 0) rfl) rfl (nI (skp P e)) h7j ?_
                  refine r_iload_n hX dX2_step_180 rfl ?_
                  refine r_icmpN_ne hX dX2_step_181 (by omega) (by omega) (fun c15 => ?_) (fun c15 => ?_)
                  · skip
                    exact r_return hX hQ dX2_step_189 ⟨Nat.le_of_ble_eq_true rfl, Nat.le_of_ble_eq_true rfl⟩ (PV.mk ⟨⟨(show σj 105 6 = nI 2 from h6j).trans (congrArg nI (by unfold nxN; rw [if_neg (fun z => by have z := z.2; change (ww && decide (skp P e = e)) = true at z; rw [decide_eq_false (show ¬ skp P e = e from c15), Bool.and_false] at z; cases z)]; show 2 = srtN (cl P (skp P e)); rw [hcl]; rfl)), h7j, Eq.trans (b := nI rn) h8j (congrArg nI (show _ = lxE P (skp P e) from by unfold lxE; rw [hcl]; exact hrn))⟩, hEj⟩)
                  · skip
                    refine r_aload_n hX dX2_step_184 rfl ?_
                    refine r_iconst hX (nI 4) dX2_step_185 rfl ?_
                    refine r_putI hX dX2_step_186 fl_X2_28 (hA.1 105 (1, 0) rfl) rfl rfl rfl rfl ?_
                    exact r_return hX hQ dX2_step_189 ⟨Nat.le_of_ble_eq_true rfl, Nat.le_of_ble_eq_true rfl⟩ (PV.mk ⟨⟨(show (up σj 105 6 (nI 4)) 105 6 = nI 4 from up_s).trans (congrArg nI (by unfold nxN; rw [if_pos ⟨by unfold wwB nx; simp only [hcl]; rfl, by show (ww && decide (skp P e = e)) = true; rw [show ww = true from hwt, decide_eq_true (show skp P e = e from c15)]; rfl⟩])), (by rw [up_n (by omega)]; exact h7j), Eq.trans (b := nI rn) (by rw [up_n (by omega)]; exact h8j) (congrArg nI (show _ = lxE P (skp P e) from by unfold lxE; rw [hcl]; exact hrn))⟩, (Ex.up hEj rfl)⟩)
              · skip
                intro j hj ih16 σj h7j h6j h8j hEj
                refine r_aload_n hX dX2_step_114 rfl ?_
                refine r_getIV hX dX2_step_115 fl_X2_28 (hA.1 105 (1, 0) rfl) rfl (nI 2) h6j ?_
                refine r_iconst hX (nI 1) dX2_step_118 rfl ?_
                refine r_icmpN_eq hX dX2_step_119 (by decide) (by decide) (fun c17 => absurd c17 (by decide)) (fun c17 => ?_)
                refine r_aload_n hX dX2_step_122 rfl ?_
                refine r_getIV hX dX2_step_123 fl_X2_34 (hA.1 105 (1, 0) rfl) rfl (nI ((skp P e) + 1 + j)) h8j ?_
                refine r_aload_n hX dX2_step_126 rfl ?_
                refine r_getR hX dX2_step_127 fl_X2_37 (hA.1 105 (1, 0) rfl) rfl (hA.2.1 105 0 103 rfl) ?_
                refine r_getIV hX dX2_step_130 fl_X2_63 (hA.1 103 (5, 0) rfl) rfl (nI P.1) ((hP.xc hEj)).1 ?_
                refine r_icmpN_ge hX dX2_step_133 (by omega) (by omega) (fun c18 => absurd c18 (by omega)) (fun c18 => ?_)
                refine r_aload_n hX dX2_step_136 rfl ?_
                refine r_aload_n hX dX2_step_137 rfl ?_
                refine r_getIV hX dX2_step_138 fl_X2_34 (hA.1 105 (1, 0) rfl) rfl (nI ((skp P e) + 1 + j)) h8j ?_
                refine r_callVF (As := [.int (nI ((skp P e) + 1 + j))]) (rest := []) hX (c_X2_sortAt hA σj P (hP.xc hEj) ((skp P e) + 1 + j) (by omega)) dX2_step_141 cb_X2_72 (hA.1 105 (1, 0) rfl) rfl rfl ⟨Nat.le_of_ble_eq_true rfl, Nat.le_of_ble_eq_true rfl⟩ ⟨Nat.le_of_ble_eq_true rfl, Nat.le_of_ble_eq_true rfl⟩ (Nat.le_of_ble_eq_true rfl) ?_
                refine r_aload_n hX dX2_step_144 rfl ?_
                refine r_getIV hX dX2_step_145 fl_X2_28 (hA.1 105 (1, 0) rfl) rfl (nI 2) h6j ?_
                refine r_icmpN_ne hX dX2_step_148 (by first | omega | exact Nat.lt_of_le_of_lt (srt_le _) (by decide)) (by decide) (fun c19 => absurd (show srtN (cl P (skp P e + 1 + j)) = 2 by have q := r3 (skp P e + 1 + j) (by omega) (by omega); unfold cl; rw [if_pos (by omega), q]; rfl) c19) (fun c19 => ?_)
                refine r_aload_n hX dX2_step_151 rfl ?_
                refine r_dup hX dX2_step_152 rfl ?_
                refine r_getIV hX dX2_step_153 fl_X2_34 (hA.1 105 (1, 0) rfl) rfl (nI ((skp P e) + 1 + j)) h8j ?_
                refine r_iconst hX (nI 1) dX2_step_156 rfl ?_
                refine r_iaddN hX dX2_step_157 ?_
                refine r_putI hX dX2_step_158 fl_X2_34 (hA.1 105 (1, 0) rfl) rfl rfl rfl rfl ?_
                refine r_goto hX dX2_step_161 ?_
                exact At.to (ih16 (up σj 105 8 (nI ((skp P e) + 1 + j + 1))) ((up_n (by omega)).trans h7j) ((up_n (by omega)).trans h6j) up_s (Ex.up hEj rfl)) rfl rfl rfl
            exact At.to (P6 0 (Nat.zero_le _) (up (up (up σk 105 8 (nI (skp P e))) 105 6 (nI 2)) 105 8 (nI ((skp P e) + 1))) (by rw [up_n (by omega), up_n (by omega), up_n (by omega)]; exact h7k) (by rw [up_n (by omega), up_s]) up_s (Ex.up (Ex.up (Ex.up hEk rfl) rfl) rfl)) rfl rfl rfl
          · skip
            show At X L (up σk 105 8 (nI (skp P e))) 0 0 [(0, .ref (L.1 105)), (1, .int (nI e)), (2, .int (nI 1))] 93 [.int (nI 3), .ref (L.1 105)]
            have hKl : skp P e < P.1 := cl_in (by rw [hcl]; decide)
            obtain ⟨rn, hrn⟩ : ∃ r, r = rnn P 2 (skp P e) := ⟨_, rfl⟩
            obtain ⟨r1, r2, r3, r4⟩ := rnn_ok P 2 hsk.2.1
            have rp := rnn_pos hcl hKl
            rw [← hrn] at r1 r2 r3 r4 rp
            refine r_putI hX dX2_step_93 fl_X2_28 (hA.1 105 (1, 0) rfl) rfl rfl rfl rfl ?_
            refine r_aload_n hX dX2_step_96 rfl ?_
            refine r_getIV hX dX2_step_97 fl_X2_28 (hA.1 105 (1, 0) rfl) rfl (nI 3) up_s ?_
            refine r_ifN_ne hX dX2_step_100 (by decide) (fun c20 => ?_) (fun c20 => absurd c20 (by decide))
            refine r_aload_n hX dX2_step_104 rfl ?_
            refine r_dup hX dX2_step_105 rfl ?_
            refine r_getIV hX dX2_step_106 fl_X2_34 (hA.1 105 (1, 0) rfl) rfl (nI (skp P e)) (by rw [up_n (by omega), up_s]) ?_
            refine r_iconst hX (nI 1) dX2_step_109 rfl ?_
            refine r_iaddN hX dX2_step_110 ?_
            refine r_putI hX dX2_step_111 fl_X2_34 (hA.1 105 (1, 0) rfl) rfl rfl rfl rfl ?_
            have P21 : ∀ j, j ≤ rn - (skp P e + 1) → ∀ (σj : Me) (h7j : σj 105 7 = nI (skp P e)) (h6j : σj 105 6 = nI 3) (h8j : σj 105 8 = nI (skp P e + 1 + j)) (hEj : Ex pXc σ σj), At X L σj 0 0 [(0, .ref (L.1 105)), (1, .int (nI e)), (2, .int (nI 1))] 114 [] := by
              refine loopUp (rn - (skp P e + 1)) ?_ ?_
              · skip
                intro σj h7j h6j h8j hEj
                rw [show skp P e + 1 + (rn - (skp P e + 1)) = rn by omega] at h8j
                refine r_aload_n hX dX2_step_114 rfl ?_
                refine r_getIV hX dX2_step_115 fl_X2_28 (hA.1 105 (1, 0) rfl) rfl (nI 3) h6j ?_
                refine r_iconst hX (nI 1) dX2_step_118 rfl ?_
                refine r_icmpN_eq hX dX2_step_119 (by decide) (by decide) (fun c22 => absurd c22 (by decide)) (fun c22 => ?_)
                refine r_aload_n hX dX2_step_122 rfl ?_
                refine r_getIV hX dX2_step_123 fl_X2_34 (hA.1 105 (1, 0) rfl) rfl (nI rn) h8j ?_
                refine r_aload_n hX dX2_step_126 rfl ?_
                refine r_getR hX dX2_step_127 fl_X2_37 (hA.1 105 (1, 0) rfl) rfl (hA.2.1 105 0 103 rfl) ?_
                refine r_getIV hX dX2_step_130 fl_X2_63 (hA.1 103 (5, 0) rfl) rfl (nI P.1) ((hP.xc hEj)).1 ?_
                refine r_icmpN_ge hX dX2_step_133 (by omega) (by omega) (fun c23 => ?_) (fun c23 => ?_)
                · skip
                  refine r_aload_n hX dX2_step_164 rfl ?_
                  refine r_getIV hX dX2_step_165 fl_X2_28 (hA.1 105 (1, 0) rfl) rfl (nI 3) h6j ?_
                  refine r_iconst hX (nI 1) dX2_step_168 rfl ?_
                  refine r_icmpN_eq hX dX2_step_169 (by decide) (by decide) (fun c24 => absurd c24 (by decide)) (fun c24 => ?_)
                  refine r_iload_n hX dX2_step_172 rfl ?_
                  refine r_ifN_eq hX dX2_step_173 (by decide) (fun c25 => absurd c25 (by decide)) (fun c25 => ?_)
                  refine r_aload_n hX dX2_step_176 rfl ?_
                  refine r_getIV hX dX2_step_177 fl_X2_31 (hA.1 105 (1, 0) rfl) rfl (nI (skp P e)) h7j ?_
                  refine r_iload_n hX dX2_step_180 rfl ?_
                  refine r_icmpN_ne hX dX2_step_181 (by omega) (by omega) (fun c26 => ?_) (fun c26 => ?_)
                  · skip
                    exact r_return hX hQ dX2_step_189 ⟨Nat.le_of_ble_eq_true rfl, Nat.le_of_ble_eq_true rfl⟩ (PV.mk ⟨⟨(show σj 105 6 = nI 3 from h6j).trans (congrArg nI (by unfold nxN; rw [if_neg (fun z => by have z := z.2; change (ww && decide (skp P e = e)) = true at z; rw [decide_eq_false (show ¬ skp P e = e from c26), Bool.and_false] at z; cases z)]; show 3 = srtN (cl P (skp P e)); rw [hcl]; rfl)), h7j, Eq.trans (b := nI rn) h8j (congrArg nI (show _ = lxE P (skp P e) from by unfold lxE; rw [hcl]; exact hrn))⟩, hEj⟩)
                  · skip
                    refine r_aload_n hX dX2_step_184 rfl ?_
                    refine r_iconst hX (nI 4) dX2_step_185 rfl ?_
                    refine r_putI hX dX2_step_186 fl_X2_28 (hA.1 105 (1, 0) rfl) rfl rfl rfl rfl ?_
                    exact r_return hX hQ dX2_step_189 ⟨Nat.le_of_ble_eq_true rfl, Nat.le_of_ble_eq_true rfl⟩ (PV.mk ⟨⟨(show (up σj 105 6 (nI 4)) 105 6 = nI 4 from up_s).trans (congrArg nI (by unfold nxN; rw [if_pos ⟨by unfold wwB nx; simp only [hcl]; rfl, by show (ww && decide (skp P e = e)) = true; rw [show ww = true from hwt, decide_eq_true (show skp P e = e from c26)]; rfl⟩])), (by rw [up_n (by omega)]; exact h7j), Eq.trans (b := nI rn) (by rw [up_n (by omega)]; exact h8j) (congrArg nI (show _ = lxE P (skp P e) from by unfold lxE; rw [hcl]; exact hrn))⟩, (Ex.up hEj rfl)⟩)
                · skip
                  refine r_aload_n hX dX2_step_136 rfl ?_
                  refine r_aload_n hX dX2_step_137 rfl ?_
                  refine r_getIV hX dX2_step_138 fl_X2_34 (hA.1 105 (1, 0) rfl) rfl (nI rn) h8j ?_
                  refine r_callVF (As := [.int (nI rn)]) (rest := []) hX (c_X2_sortAt hA σj P (hP.xc hEj) rn (by omega)) dX2_step_141 cb_X2_72 (hA.1 105 (1, 0) rfl) rfl rfl ⟨Nat.le_of_ble_eq_true rfl, Nat.le_of_ble_eq_true rfl⟩ ⟨Nat.le_of_ble_eq_true rfl, Nat.le_of_ble_eq_true rfl⟩ (Nat.le_of_ble_eq_true rfl) ?_
                  refine r_aload_n hX dX2_step_144 rfl ?_
                  refine r_getIV hX dX2_step_145 fl_X2_28 (hA.1 105 (1, 0) rfl) rfl (nI 3) h6j ?_
                  refine r_icmpN_ne hX dX2_step_148 (by first | omega | exact Nat.lt_of_le_of_lt (srt_le _) (by decide)) (by decide) (fun c27 => ?_) (fun c27 => absurd c27 (fun z => r4 ⟨by omega, by have q := srt_inj (cl_le P rn) (by decide) (show srtN (cl P rn) = srtN 2 from z); unfold cl at q; rw [if_pos (by omega)] at q; exact q⟩))
                  refine r_aload_n hX dX2_step_164 rfl ?_
                  refine r_getIV hX dX2_step_165 fl_X2_28 (hA.1 105 (1, 0) rfl) rfl (nI 3) h6j ?_
                  refine r_iconst hX (nI 1) dX2_step_168 rfl ?_
                  refine r_icmpN_eq hX dX2_step_169 (by decide) (by decide) (fun c28 => absurd c28 (by decide)) (fun c28 => ?_)
                  refine r_iload_n hX dX2_step_172 rfl ?_
                  refine r_ifN_eq hX dX2_step_173 (by decide) (fun c29 => absurd c29 (by decide)) (fun c29 => ?_)
                  refine r_aload_n hX dX2_step_176 rfl ?_
                  refine r_getIV hX dX2_step_177 fl_X2_31 (hA.1 105 (1, 0) rfl) rfl (nI (skp P e)) h7j ?_
                  refine r_iload_n hX dX2_step_180 rfl ?_
                  refine r_icmpN_ne hX dX2_step_181 (by omega) (by omega) (fun c30 => ?_) (fun c30 => ?_)
                  · skip
                    exact r_return hX hQ dX2_step_189 ⟨Nat.le_of_ble_eq_true rfl, Nat.le_of_ble_eq_true rfl⟩ (PV.mk ⟨⟨(show σj 105 6 = nI 3 from h6j).trans (congrArg nI (by unfold nxN; rw [if_neg (fun z => by have z := z.2; change (ww && decide (skp P e = e)) = true at z; rw [decide_eq_false (show ¬ skp P e = e from c30), Bool.and_false] at z; cases z)]; show 3 = srtN (cl P (skp P e)); rw [hcl]; rfl)), h7j, Eq.trans (b := nI rn) h8j (congrArg nI (show _ = lxE P (skp P e) from by unfold lxE; rw [hcl]; exact hrn))⟩, hEj⟩)
                  · skip
                    refine r_aload_n hX dX2_step_184 rfl ?_
                    refine r_iconst hX (nI 4) dX2_step_185 rfl ?_
                    refine r_putI hX dX2_step_186 fl_X2_28 (hA.1 105 (1, 0) rfl) rfl rfl rfl rfl ?_
                    exact r_return hX hQ dX2_step_189 ⟨Nat.le_of_ble_eq_true rfl, Nat.le_of_ble_eq_true rfl⟩ (PV.mk ⟨⟨(show (up σj 105 6 (nI 4)) 105 6 = nI 4 from up_s).trans (congrArg nI (by unfold nxN; rw [if_pos ⟨by unfold wwB nx; simp only [hcl]; rfl, by show (ww && decide (skp P e = e)) = true; rw [show ww = true from hwt, decide_eq_true (show skp P e = e from c30)]; rfl⟩])), (by rw [up_n (by omega)]; exact h7j), Eq.trans (b := nI rn) (by rw [up_n (by omega)]; exact h8j) (congrArg nI (show _ = lxE P (skp P e) from by unfold lxE; rw [hcl]; exact hrn))⟩, (Ex.up hEj rfl)⟩)
              · skip
                intro j hj ih31 σj h7j h6j h8j hEj
                refine r_aload_n hX dX2_step_114 rfl ?_
                refine r_getIV hX dX2_step_115 fl_X2_28 (hA.1 105 (1, 0) rfl) rfl (nI 3) h6j ?_
                refine r_iconst hX (nI 1) dX2_step_118 rfl ?_
                refine r_icmpN_eq hX dX2_step_119 (by decide) (by decide) (fun c32 => absurd c32 (by decide)) (fun c32 => ?_)
                refine r_aload_n hX dX2_step_122 rfl ?_
                refine r_getIV hX dX2_step_123 fl_X2_34 (hA.1 105 (1, 0) rfl) rfl (nI ((skp P e) + 1 + j)) h8j ?_
                refine r_aload_n hX dX2_step_126 rfl ?_
                refine r_getR hX dX2_step_127 fl_X2_37 (hA.1 105 (1, 0) rfl) rfl (hA.2.1 105 0 103 rfl) ?_
                refine r_getIV hX dX2_step_130 fl_X2_63 (hA.1 103 (5, 0) rfl) rfl (nI P.1) ((hP.xc hEj)).1 ?_
                refine r_icmpN_ge hX dX2_step_133 (by omega) (by omega) (fun c33 => absurd c33 (by omega)) (fun c33 => ?_)
                refine r_aload_n hX dX2_step_136 rfl ?_
                refine r_aload_n hX dX2_step_137 rfl ?_
                refine r_getIV hX dX2_step_138 fl_X2_34 (hA.1 105 (1, 0) rfl) rfl (nI ((skp P e) + 1 + j)) h8j ?_
                refine r_callVF (As := [.int (nI ((skp P e) + 1 + j))]) (rest := []) hX (c_X2_sortAt hA σj P (hP.xc hEj) ((skp P e) + 1 + j) (by omega)) dX2_step_141 cb_X2_72 (hA.1 105 (1, 0) rfl) rfl rfl ⟨Nat.le_of_ble_eq_true rfl, Nat.le_of_ble_eq_true rfl⟩ ⟨Nat.le_of_ble_eq_true rfl, Nat.le_of_ble_eq_true rfl⟩ (Nat.le_of_ble_eq_true rfl) ?_
                refine r_aload_n hX dX2_step_144 rfl ?_
                refine r_getIV hX dX2_step_145 fl_X2_28 (hA.1 105 (1, 0) rfl) rfl (nI 3) h6j ?_
                refine r_icmpN_ne hX dX2_step_148 (by first | omega | exact Nat.lt_of_le_of_lt (srt_le _) (by decide)) (by decide) (fun c34 => absurd (show srtN (cl P (skp P e + 1 + j)) = 3 by have q := r3 (skp P e + 1 + j) (by omega) (by omega); unfold cl; rw [if_pos (by omega), q]; rfl) c34) (fun c34 => ?_)
                refine r_aload_n hX dX2_step_151 rfl ?_
                refine r_dup hX dX2_step_152 rfl ?_
                refine r_getIV hX dX2_step_153 fl_X2_34 (hA.1 105 (1, 0) rfl) rfl (nI ((skp P e) + 1 + j)) h8j ?_
                refine r_iconst hX (nI 1) dX2_step_156 rfl ?_
                refine r_iaddN hX dX2_step_157 ?_
                refine r_putI hX dX2_step_158 fl_X2_34 (hA.1 105 (1, 0) rfl) rfl rfl rfl rfl ?_
                refine r_goto hX dX2_step_161 ?_
                exact At.to (ih31 (up σj 105 8 (nI ((skp P e) + 1 + j + 1))) ((up_n (by omega)).trans h7j) ((up_n (by omega)).trans h6j) up_s (Ex.up hEj rfl)) rfl rfl rfl
            exact At.to (P21 0 (Nat.zero_le _) (up (up (up σk 105 8 (nI (skp P e))) 105 6 (nI 3)) 105 8 (nI ((skp P e) + 1))) (by rw [up_n (by omega), up_n (by omega), up_n (by omega)]; exact h7k) (by rw [up_n (by omega), up_s]) up_s (Ex.up (Ex.up (Ex.up hEk rfl) rfl) rfl)) rfl rfl rfl
          · skip
            show At X L (up σk 105 8 (nI (skp P e))) 0 0 [(0, .ref (L.1 105)), (1, .int (nI e)), (2, .int (nI 1))] 93 [.int (nI 1), .ref (L.1 105)]
            have hKl : skp P e < P.1 := cl_in (by rw [hcl]; decide)
            refine r_putI hX dX2_step_93 fl_X2_28 (hA.1 105 (1, 0) rfl) rfl rfl rfl rfl ?_
            refine r_aload_n hX dX2_step_96 rfl ?_
            refine r_getIV hX dX2_step_97 fl_X2_28 (hA.1 105 (1, 0) rfl) rfl (nI 1) up_s ?_
            refine r_ifN_ne hX dX2_step_100 (by decide) (fun c35 => ?_) (fun c35 => absurd c35 (by decide))
            refine r_aload_n hX dX2_step_104 rfl ?_
            refine r_dup hX dX2_step_105 rfl ?_
            refine r_getIV hX dX2_step_106 fl_X2_34 (hA.1 105 (1, 0) rfl) rfl (nI (skp P e)) (by rw [up_n (by omega), up_s]) ?_
            refine r_iconst hX (nI 1) dX2_step_109 rfl ?_
            refine r_iaddN hX dX2_step_110 ?_
            refine r_putI hX dX2_step_111 fl_X2_34 (hA.1 105 (1, 0) rfl) rfl rfl rfl rfl ?_
            refine r_aload_n hX dX2_step_114 rfl ?_
            refine r_getIV hX dX2_step_115 fl_X2_28 (hA.1 105 (1, 0) rfl) rfl (nI 1) (by rw [up_n (by omega), up_s]) ?_
            refine r_iconst hX (nI 1) dX2_step_118 rfl ?_
            refine r_icmpN_eq hX dX2_step_119 (by decide) (by decide) (fun c36 => ?_) (fun c36 => absurd c36 (by decide))
            refine r_aload_n hX dX2_step_164 rfl ?_
            refine r_getIV hX dX2_step_165 fl_X2_28 (hA.1 105 (1, 0) rfl) rfl (nI 1) (by rw [up_n (by omega), up_s]) ?_
            refine r_iconst hX (nI 1) dX2_step_168 rfl ?_
            refine r_icmpN_eq hX dX2_step_169 (by decide) (by decide) (fun c37 => ?_) (fun c37 => absurd c37 (by decide))
            exact r_return hX hQ dX2_step_189 ⟨Nat.le_of_ble_eq_true rfl, Nat.le_of_ble_eq_true rfl⟩ (PV.mk ⟨⟨(show (up (up (up σk 105 8 (nI (skp P e))) 105 6 (nI 1)) 105 8 (nI ((skp P e) + 1))) 105 6 = nI 1 from (by rw [up_n (by omega), up_s])).trans (congrArg nI (by unfold nxN; rw [if_neg (fun z => by have z := z.1; unfold wwB nx at z; simp only [hcl] at z; cases z)]; show 1 = srtN (cl P (skp P e)); rw [hcl]; rfl)), (by rw [up_n (by omega), up_n (by omega), up_n (by omega)]; exact h7k), Eq.trans (b := nI ((skp P e) + 1)) up_s (congrArg nI (show _ = lxE P (skp P e) from by unfold lxE; rw [hcl]; rfl))⟩, (Ex.up (Ex.up (Ex.up hEk rfl) rfl) rfl)⟩)
        · skip
          refine r_aload_n hX dX2_step_46 rfl ?_
          refine r_getR hX dX2_step_47 fl_X2_37 (hA.1 105 (1, 0) rfl) rfl (hA.2.1 105 0 103 rfl) ?_
          refine r_getR hX dX2_step_50 fl_X2_68 (hA.1 103 (5, 0) rfl) rfl (hA.2.1 103 0 104 rfl) ?_
          refine r_aload_n hX dX2_step_53 rfl ?_
          refine r_getIV hX dX2_step_54 fl_X2_31 (hA.1 105 (1, 0) rfl) rfl (nI (skp P e)) h7k ?_
          refine r_baldN hX dX2_step_57 (hA.1 104 (11, 96) rfl) (by decide) (by omega) (sb (P.2 (skp P e))) (((hP.xc hEk)).2.2 (skp P e) (by omega)).1 ?_
          refine r_bipush hX (nI 32) dX2_step_58 rfl ?_
          refine r_icmp_ne hX dX2_step_60 (fun c38 => ?_) (fun c38 => absurd ((sb_eq (hP.2.2 _ (by omega)).2 (by decide)).mp c38) (fun z => hsk.2.2.2 ⟨by omega, z⟩))
          refine r_aload_n hX dX2_step_76 rfl ?_
          refine r_aload_n hX dX2_step_77 rfl ?_
          refine r_getIV hX dX2_step_78 fl_X2_31 (hA.1 105 (1, 0) rfl) rfl (nI (skp P e)) h7k ?_
          refine r_putI hX dX2_step_81 fl_X2_34 (hA.1 105 (1, 0) rfl) rfl rfl rfl rfl ?_
          refine r_aload_n hX dX2_step_84 rfl ?_
          refine r_aload_n hX dX2_step_85 rfl ?_
          refine r_aload_n hX dX2_step_86 rfl ?_
          refine r_getIV hX dX2_step_87 fl_X2_31 (hA.1 105 (1, 0) rfl) rfl (nI (skp P e)) (by rw [up_n (by omega)]; exact h7k) ?_
          refine r_callVF (As := [.int (nI (skp P e))]) (rest := [.ref (L.1 105)]) hX (c_X2_sortAt hA (up σk 105 8 (nI (skp P e))) P (hP.xc (Ex.up hEk rfl)) (skp P e) (by omega)) dX2_step_90 cb_X2_72 (hA.1 105 (1, 0) rfl) rfl rfl ⟨Nat.le_of_ble_eq_true rfl, Nat.le_of_ble_eq_true rfl⟩ ⟨Nat.le_of_ble_eq_true rfl, Nat.le_of_ble_eq_true rfl⟩ (Nat.le_of_ble_eq_true rfl) ?_
          rcases (show cl P (skp P e) = 0 ∨ cl P (skp P e) = 1 ∨ cl P (skp P e) = 2 ∨ cl P (skp P e) = 3 by have := cl_le P (skp P e); omega) with hcl | hcl | hcl | hcl <;> rw [hcl]
          · skip
            show At X L (up σk 105 8 (nI (skp P e))) 0 0 [(0, .ref (L.1 105)), (1, .int (nI e)), (2, .int (nI 1))] 93 [.int (nI 0), .ref (L.1 105)]
            refine r_putI hX dX2_step_93 fl_X2_28 (hA.1 105 (1, 0) rfl) rfl rfl rfl rfl ?_
            refine r_aload_n hX dX2_step_96 rfl ?_
            refine r_getIV hX dX2_step_97 fl_X2_28 (hA.1 105 (1, 0) rfl) rfl (nI 0) up_s ?_
            refine r_ifN_ne hX dX2_step_100 (by decide) (fun c39 => absurd c39 (by decide)) (fun c39 => ?_)
            exact r_return hX hQ dX2_step_103 ⟨Nat.le_of_ble_eq_true rfl, Nat.le_of_ble_eq_true rfl⟩ (PV.mk ⟨⟨(show (up (up σk 105 8 (nI (skp P e))) 105 6 (nI 0)) 105 6 = nI 0 from up_s).trans (congrArg nI (by unfold nxN; rw [if_neg (fun z => by have z := z.1; unfold wwB nx at z; simp only [hcl] at z; cases z)]; show 0 = srtN (cl P (skp P e)); rw [hcl]; rfl)), (by rw [up_n (by omega), up_n (by omega)]; exact h7k), Eq.trans (b := nI (skp P e)) (by rw [up_n (by omega), up_s]) (congrArg nI (show _ = lxE P (skp P e) from by unfold lxE; rw [if_pos hcl]))⟩, (Ex.up (Ex.up hEk rfl) rfl)⟩)
          · skip
            show At X L (up σk 105 8 (nI (skp P e))) 0 0 [(0, .ref (L.1 105)), (1, .int (nI e)), (2, .int (nI 1))] 93 [.int (nI 2), .ref (L.1 105)]
            have hKl : skp P e < P.1 := cl_in (by rw [hcl]; decide)
            obtain ⟨rn, hrn⟩ : ∃ r, r = rnn P 1 (skp P e) := ⟨_, rfl⟩
            obtain ⟨r1, r2, r3, r4⟩ := rnn_ok P 1 hsk.2.1
            have rp := rnn_pos hcl hKl
            rw [← hrn] at r1 r2 r3 r4 rp
            refine r_putI hX dX2_step_93 fl_X2_28 (hA.1 105 (1, 0) rfl) rfl rfl rfl rfl ?_
            refine r_aload_n hX dX2_step_96 rfl ?_
            refine r_getIV hX dX2_step_97 fl_X2_28 (hA.1 105 (1, 0) rfl) rfl (nI 2) up_s ?_
            refine r_ifN_ne hX dX2_step_100 (by decide) (fun c40 => ?_) (fun c40 => absurd c40 (by decide))
            refine r_aload_n hX dX2_step_104 rfl ?_
            refine r_dup hX dX2_step_105 rfl ?_
            refine r_getIV hX dX2_step_106 fl_X2_34 (hA.1 105 (1, 0) rfl) rfl (nI (skp P e)) (by rw [up_n (by omega), up_s]) ?_
            refine r_iconst hX (nI 1) dX2_step_109 rfl ?_
            refine r_iaddN hX dX2_step_110 ?_
            refine r_putI hX dX2_step_111 fl_X2_34 (hA.1 105 (1, 0) rfl) rfl rfl rfl rfl ?_
            have P41 : ∀ j, j ≤ rn - (skp P e + 1) → ∀ (σj : Me) (h7j : σj 105 7 = nI (skp P e)) (h6j : σj 105 6 = nI 2) (h8j : σj 105 8 = nI (skp P e + 1 + j)) (hEj : Ex pXc σ σj), At X L σj 0 0 [(0, .ref (L.1 105)), (1, .int (nI e)), (2, .int (nI 1))] 114 [] := by
              refine loopUp (rn - (skp P e + 1)) ?_ ?_
              · skip
                intro σj h7j h6j h8j hEj
                rw [show skp P e + 1 + (rn - (skp P e + 1)) = rn by omega] at h8j
                refine r_aload_n hX dX2_step_114 rfl ?_
                refine r_getIV hX dX2_step_115 fl_X2_28 (hA.1 105 (1, 0) rfl) rfl (nI 2) h6j ?_
                refine r_iconst hX (nI 1) dX2_step_118 rfl ?_
                refine r_icmpN_eq hX dX2_step_119 (by decide) (by decide) (fun c42 => absurd c42 (by decide)) (fun c42 => ?_)
                refine r_aload_n hX dX2_step_122 rfl ?_
                refine r_getIV hX dX2_step_123 fl_X2_34 (hA.1 105 (1, 0) rfl) rfl (nI rn) h8j ?_
                refine r_aload_n hX dX2_step_126 rfl ?_
                refine r_getR hX dX2_step_127 fl_X2_37 (hA.1 105 (1, 0) rfl) rfl (hA.2.1 105 0 103 rfl) ?_
                refine r_getIV hX dX2_step_130 fl_X2_63 (hA.1 103 (5, 0) rfl) rfl (nI P.1) ((hP.xc hEj)).1 ?_
                refine r_icmpN_ge hX dX2_step_133 (by omega) (by omega) (fun c43 => ?_) (fun c43 => ?_)
                · skip
                  refine r_aload_n hX dX2_step_164 rfl ?_
                  refine r_getIV hX dX2_step_165 fl_X2_28 (hA.1 105 (1, 0) rfl) rfl (nI 2) h6j ?_
                  refine r_iconst hX (nI 1) dX2_step_168 rfl ?_
                  refine r_icmpN_eq hX dX2_step_169 (by decide) (by decide) (fun c44 => absurd c44 (by decide)) (fun c44 => ?_)
                  refine r_iload_n hX dX2_step_172 rfl ?_
                  refine r_ifN_eq hX dX2_step_173 (by decide) (fun c45 => absurd c45 (by decide)) (fun c45 => ?_)
                  refine r_aload_n hX dX2_step_176 rfl ?_
                  refine r_getIV hX dX2_step_177 fl_X2_31 (hA.1 105 (1, 0) rfl) rfl (nI (skp P e)) h7j ?_
                  refine r_iload_n hX dX2_step_180 rfl ?_
                  refine r_icmpN_ne hX dX2_step_181 (by omega) (by omega) (fun c46 => ?_) (fun c46 => ?_)
                  · skip
                    exact r_return hX hQ dX2_step_189 ⟨Nat.le_of_ble_eq_true rfl, Nat.le_of_ble_eq_true rfl⟩ (PV.mk ⟨⟨(show σj 105 6 = nI 2 from h6j).trans (congrArg nI (by unfold nxN; rw [if_neg (fun z => by have z := z.2; change (ww && decide (skp P e = e)) = true at z; rw [decide_eq_false (show ¬ skp P e = e from c46), Bool.and_false] at z; cases z)]; show 2 = srtN (cl P (skp P e)); rw [hcl]; rfl)), h7j, Eq.trans (b := nI rn) h8j (congrArg nI (show _ = lxE P (skp P e) from by unfold lxE; rw [hcl]; exact hrn))⟩, hEj⟩)
                  · skip
                    refine r_aload_n hX dX2_step_184 rfl ?_
                    refine r_iconst hX (nI 4) dX2_step_185 rfl ?_
                    refine r_putI hX dX2_step_186 fl_X2_28 (hA.1 105 (1, 0) rfl) rfl rfl rfl rfl ?_
                    exact r_return hX hQ dX2_step_189 ⟨Nat.le_of_ble_eq_true rfl, Nat.le_of_ble_eq_true rfl⟩ (PV.mk ⟨⟨(show (up σj 105 6 (nI 4)) 105 6 = nI 4 from up_s).trans (congrArg nI (by unfold nxN; rw [if_pos ⟨by unfold wwB nx; simp only [hcl]; rfl, by show (ww && decide (skp P e = e)) = true; rw [show ww = true from hwt, decide_eq_true (show skp P e = e from c46)]; rfl⟩])), (by rw [up_n (by omega)]; exact h7j), Eq.trans (b := nI rn) (by rw [up_n (by omega)]; exact h8j) (congrArg nI (show _ = lxE P (skp P e) from by unfold lxE; rw [hcl]; exact hrn))⟩, (Ex.up hEj rfl)⟩)
                · skip
                  refine r_aload_n hX dX2_step_136 rfl ?_
                  refine r_aload_n hX dX2_step_137 rfl ?_
                  refine r_getIV hX dX2_step_138 fl_X2_34 (hA.1 105 (1, 0) rfl) rfl (nI rn) h8j ?_
                  refine r_callVF (As := [.int (nI rn)]) (rest := []) hX (c_X2_sortAt hA σj P (hP.xc hEj) rn (by omega)) dX2_step_141 cb_X2_72 (hA.1 105 (1, 0) rfl) rfl rfl ⟨Nat.le_of_ble_eq_true rfl, Nat.le_of_ble_eq_true rfl⟩ ⟨Nat.le_of_ble_eq_true rfl, Nat.le_of_ble_eq_true rfl⟩ (Nat.le_of_ble_eq_true rfl) ?_
                  refine r_aload_n hX dX2_step_144 rfl ?_
                  refine r_getIV hX dX2_step_145 fl_X2_28 (hA.1 105 (1, 0) rfl) rfl (nI 2) h6j ?_
                  refine r_icmpN_ne hX dX2_step_148 (by first | omega | exact Nat.lt_of_le_of_lt (srt_le _) (by decide)) (by decide) (fun c47 => ?_) (fun c47 => absurd c47 (fun z => r4 ⟨by omega, by have q := srt_inj (cl_le P rn) (by decide) (show srtN (cl P rn) = srtN 1 from z); unfold cl at q; rw [if_pos (by omega)] at q; exact q⟩))
                  refine r_aload_n hX dX2_step_164 rfl ?_
                  refine r_getIV hX dX2_step_165 fl_X2_28 (hA.1 105 (1, 0) rfl) rfl (nI 2) h6j ?_
                  refine r_iconst hX (nI 1) dX2_step_168 rfl ?_
                  refine r_icmpN_eq hX dX2_step_169 (by decide) (by decide) (fun c48 => absurd c48 (by decide)) (fun c48 => ?_)
                  refine r_iload_n hX dX2_step_172 rfl ?_
                  refine r_ifN_eq hX dX2_step_173 (by decide) (fun c49 => absurd c49 (by decide)) (fun c49 => ?_)
                  refine r_aload_n hX dX2_step_176 rfl ?_
                  refine r_getIV hX dX2_step_177 fl_X2_31 (hA.1 105 (1, 0) rfl) rfl (nI (skp P e)) h7j ?_
                  refine r_iload_n hX dX2_step_180 rfl ?_
                  refine r_icmpN_ne hX dX2_step_181 (by omega) (by omega) (fun c50 => ?_) (fun c50 => ?_)
                  · skip
                    exact r_return hX hQ dX2_step_189 ⟨Nat.le_of_ble_eq_true rfl, Nat.le_of_ble_eq_true rfl⟩ (PV.mk ⟨⟨(show σj 105 6 = nI 2 from h6j).trans (congrArg nI (by unfold nxN; rw [if_neg (fun z => by have z := z.2; change (ww && decide (skp P e = e)) = true at z; rw [decide_eq_false (show ¬ skp P e = e from c50), Bool.and_false] at z; cases z)]; show 2 = srtN (cl P (skp P e)); rw [hcl]; rfl)), h7j, Eq.trans (b := nI rn) h8j (congrArg nI (show _ = lxE P (skp P e) from by unfold lxE; rw [hcl]; exact hrn))⟩, hEj⟩)
                  · skip
                    refine r_aload_n hX dX2_step_184 rfl ?_
                    refine r_iconst hX (nI 4) dX2_step_185 rfl ?_
                    refine r_putI hX dX2_step_186 fl_X2_28 (hA.1 105 (1, 0) rfl) rfl rfl rfl rfl ?_
                    exact r_return hX hQ dX2_step_189 ⟨Nat.le_of_ble_eq_true rfl, Nat.le_of_ble_eq_true rfl⟩ (PV.mk ⟨⟨(show (up σj 105 6 (nI 4)) 105 6 = nI 4 from up_s).trans (congrArg nI (by unfold nxN; rw [if_pos ⟨by unfold wwB nx; simp only [hcl]; rfl, by show (ww && decide (skp P e = e)) = true; rw [show ww = true from hwt, decide_eq_true (show skp P e = e from c50)]; rfl⟩])), (by rw [up_n (by omega)]; exact h7j), Eq.trans (b := nI rn) (by rw [up_n (by omega)]; exact h8j) (congrArg nI (show _ = lxE P (skp P e) from by unfold lxE; rw [hcl]; exact hrn))⟩, (Ex.up hEj rfl)⟩)
              · skip
                intro j hj ih51 σj h7j h6j h8j hEj
                refine r_aload_n hX dX2_step_114 rfl ?_
                refine r_getIV hX dX2_step_115 fl_X2_28 (hA.1 105 (1, 0) rfl) rfl (nI 2) h6j ?_
                refine r_iconst hX (nI 1) dX2_step_118 rfl ?_
                refine r_icmpN_eq hX dX2_step_119 (by decide) (by decide) (fun c52 => absurd c52 (by decide)) (fun c52 => ?_)
                refine r_aload_n hX dX2_step_122 rfl ?_
                refine r_getIV hX dX2_step_123 fl_X2_34 (hA.1 105 (1, 0) rfl) rfl (nI ((skp P e) + 1 + j)) h8j ?_
                refine r_aload_n hX dX2_step_126 rfl ?_
                refine r_getR hX dX2_step_127 fl_X2_37 (hA.1 105 (1, 0) rfl) rfl (hA.2.1 105 0 103 rfl) ?_
                refine r_getIV hX dX2_step_130 fl_X2_63 (hA.1 103 (5, 0) rfl) rfl (nI P.1) ((hP.xc hEj)).1 ?_
                refine r_icmpN_ge hX dX2_step_133 (by omega) (by omega) (fun c53 => absurd c53 (by omega)) (fun c53 => ?_)
                refine r_aload_n hX dX2_step_136 rfl ?_
                refine r_aload_n hX dX2_step_137 rfl ?_
                refine r_getIV hX dX2_step_138 fl_X2_34 (hA.1 105 (1, 0) rfl) rfl (nI ((skp P e) + 1 + j)) h8j ?_
                refine r_callVF (As := [.int (nI ((skp P e) + 1 + j))]) (rest := []) hX (c_X2_sortAt hA σj P (hP.xc hEj) ((skp P e) + 1 + j) (by omega)) dX2_step_141 cb_X2_72 (hA.1 105 (1, 0) rfl) rfl rfl ⟨Nat.le_of_ble_eq_true rfl, Nat.le_of_ble_eq_true rfl⟩ ⟨Nat.le_of_ble_eq_true rfl, Nat.le_of_ble_eq_true rfl⟩ (Nat.le_of_ble_eq_true rfl) ?_
                refine r_aload_n hX dX2_step_144 rfl ?_
                refine r_getIV hX dX2_step_145 fl_X2_28 (hA.1 105 (1, 0) rfl) rfl (nI 2) h6j ?_
                refine r_icmpN_ne hX dX2_step_148 (by first | omega | exact Nat.lt_of_le_of_lt (srt_le _) (by decide)) (by decide) (fun c54 => absurd (show srtN (cl P (skp P e + 1 + j)) = 2 by have q := r3 (skp P e + 1 + j) (by omega) (by omega); unfold cl; rw [if_pos (by omega), q]; rfl) c54) (fun c54 => ?_)
                refine r_aload_n hX dX2_step_151 rfl ?_
                refine r_dup hX dX2_step_152 rfl ?_
                refine r_getIV hX dX2_step_153 fl_X2_34 (hA.1 105 (1, 0) rfl) rfl (nI ((skp P e) + 1 + j)) h8j ?_
                refine r_iconst hX (nI 1) dX2_step_156 rfl ?_
                refine r_iaddN hX dX2_step_157 ?_
                refine r_putI hX dX2_step_158 fl_X2_34 (hA.1 105 (1, 0) rfl) rfl rfl rfl rfl ?_
                refine r_goto hX dX2_step_161 ?_
                exact At.to (ih51 (up σj 105 8 (nI ((skp P e) + 1 + j + 1))) ((up_n (by omega)).trans h7j) ((up_n (by omega)).trans h6j) up_s (Ex.up hEj rfl)) rfl rfl rfl
            exact At.to (P41 0 (Nat.zero_le _) (up (up (up σk 105 8 (nI (skp P e))) 105 6 (nI 2)) 105 8 (nI ((skp P e) + 1))) (by rw [up_n (by omega), up_n (by omega), up_n (by omega)]; exact h7k) (by rw [up_n (by omega), up_s]) up_s (Ex.up (Ex.up (Ex.up hEk rfl) rfl) rfl)) rfl rfl rfl
          · skip
            show At X L (up σk 105 8 (nI (skp P e))) 0 0 [(0, .ref (L.1 105)), (1, .int (nI e)), (2, .int (nI 1))] 93 [.int (nI 3), .ref (L.1 105)]
            have hKl : skp P e < P.1 := cl_in (by rw [hcl]; decide)
            obtain ⟨rn, hrn⟩ : ∃ r, r = rnn P 2 (skp P e) := ⟨_, rfl⟩
            obtain ⟨r1, r2, r3, r4⟩ := rnn_ok P 2 hsk.2.1
            have rp := rnn_pos hcl hKl
            rw [← hrn] at r1 r2 r3 r4 rp
            refine r_putI hX dX2_step_93 fl_X2_28 (hA.1 105 (1, 0) rfl) rfl rfl rfl rfl ?_
            refine r_aload_n hX dX2_step_96 rfl ?_
            refine r_getIV hX dX2_step_97 fl_X2_28 (hA.1 105 (1, 0) rfl) rfl (nI 3) up_s ?_
            refine r_ifN_ne hX dX2_step_100 (by decide) (fun c55 => ?_) (fun c55 => absurd c55 (by decide))
            refine r_aload_n hX dX2_step_104 rfl ?_
            refine r_dup hX dX2_step_105 rfl ?_
            refine r_getIV hX dX2_step_106 fl_X2_34 (hA.1 105 (1, 0) rfl) rfl (nI (skp P e)) (by rw [up_n (by omega), up_s]) ?_
            refine r_iconst hX (nI 1) dX2_step_109 rfl ?_
            refine r_iaddN hX dX2_step_110 ?_
            refine r_putI hX dX2_step_111 fl_X2_34 (hA.1 105 (1, 0) rfl) rfl rfl rfl rfl ?_
            have P56 : ∀ j, j ≤ rn - (skp P e + 1) → ∀ (σj : Me) (h7j : σj 105 7 = nI (skp P e)) (h6j : σj 105 6 = nI 3) (h8j : σj 105 8 = nI (skp P e + 1 + j)) (hEj : Ex pXc σ σj), At X L σj 0 0 [(0, .ref (L.1 105)), (1, .int (nI e)), (2, .int (nI 1))] 114 [] := by
              refine loopUp (rn - (skp P e + 1)) ?_ ?_
              · skip
                intro σj h7j h6j h8j hEj
                rw [show skp P e + 1 + (rn - (skp P e + 1)) = rn by omega] at h8j
                refine r_aload_n hX dX2_step_114 rfl ?_
                refine r_getIV hX dX2_step_115 fl_X2_28 (hA.1 105 (1, 0) rfl) rfl (nI 3) h6j ?_
                refine r_iconst hX (nI 1) dX2_step_118 rfl ?_
                refine r_icmpN_eq hX dX2_step_119 (by decide) (by decide) (fun c57 => absurd c57 (by decide)) (fun c57 => ?_)
                refine r_aload_n hX dX2_step_122 rfl ?_
                refine r_getIV hX dX2_step_123 fl_X2_34 (hA.1 105 (1, 0) rfl) rfl (nI rn) h8j ?_
                refine r_aload_n hX dX2_step_126 rfl ?_
                refine r_getR hX dX2_step_127 fl_X2_37 (hA.1 105 (1, 0) rfl) rfl (hA.2.1 105 0 103 rfl) ?_
                refine r_getIV hX dX2_step_130 fl_X2_63 (hA.1 103 (5, 0) rfl) rfl (nI P.1) ((hP.xc hEj)).1 ?_
                refine r_icmpN_ge hX dX2_step_133 (by omega) (by omega) (fun c58 => ?_) (fun c58 => ?_)
                · skip
                  refine r_aload_n hX dX2_step_164 rfl ?_
                  refine r_getIV hX dX2_step_165 fl_X2_28 (hA.1 105 (1, 0) rfl) rfl (nI 3) h6j ?_
                  refine r_iconst hX (nI 1) dX2_step_168 rfl ?_
                  refine r_icmpN_eq hX dX2_step_169 (by decide) (by decide) (fun c59 => absurd c59 (by decide)) (fun c59 => ?_)
                  refine r_iload_n hX dX2_step_172 rfl ?_
                  refine r_ifN_eq hX dX2_step_173 (by decide) (fun c60 => absurd c60 (by decide)) (fun c60 => ?_)
                  refine r_aload_n hX dX2_step_176 rfl ?_
                  refine r_getIV hX dX2_step_177 fl_X2_31 (hA.1 105 (1, 0) rfl) rfl (nI (skp P e)) h7j ?_
                  refine r_iload_n hX dX2_step_180 rfl ?_
                  refine r_icmpN_ne hX dX2_step_181 (by omega) (by omega) (fun c61 => ?_) (fun c61 => ?_)
                  · skip
                    exact r_return hX hQ dX2_step_189 ⟨Nat.le_of_ble_eq_true rfl, Nat.le_of_ble_eq_true rfl⟩ (PV.mk ⟨⟨(show σj 105 6 = nI 3 from h6j).trans (congrArg nI (by unfold nxN; rw [if_neg (fun z => by have z := z.2; change (ww && decide (skp P e = e)) = true at z; rw [decide_eq_false (show ¬ skp P e = e from c61), Bool.and_false] at z; cases z)]; show 3 = srtN (cl P (skp P e)); rw [hcl]; rfl)), h7j, Eq.trans (b := nI rn) h8j (congrArg nI (show _ = lxE P (skp P e) from by unfold lxE; rw [hcl]; exact hrn))⟩, hEj⟩)
                  · skip
                    refine r_aload_n hX dX2_step_184 rfl ?_
                    refine r_iconst hX (nI 4) dX2_step_185 rfl ?_
                    refine r_putI hX dX2_step_186 fl_X2_28 (hA.1 105 (1, 0) rfl) rfl rfl rfl rfl ?_
                    exact r_return hX hQ dX2_step_189 ⟨Nat.le_of_ble_eq_true rfl, Nat.le_of_ble_eq_true rfl⟩ (PV.mk ⟨⟨(show (up σj 105 6 (nI 4)) 105 6 = nI 4 from up_s).trans (congrArg nI (by unfold nxN; rw [if_pos ⟨by unfold wwB nx; simp only [hcl]; rfl, by show (ww && decide (skp P e = e)) = true; rw [show ww = true from hwt, decide_eq_true (show skp P e = e from c61)]; rfl⟩])), (by rw [up_n (by omega)]; exact h7j), Eq.trans (b := nI rn) (by rw [up_n (by omega)]; exact h8j) (congrArg nI (show _ = lxE P (skp P e) from by unfold lxE; rw [hcl]; exact hrn))⟩, (Ex.up hEj rfl)⟩)
                · skip
                  refine r_aload_n hX dX2_step_136 rfl ?_
                  refine r_aload_n hX dX2_step_137 rfl ?_
                  refine r_getIV hX dX2_step_138 fl_X2_34 (hA.1 105 (1, 0) rfl) rfl (nI rn) h8j ?_
                  refine r_callVF (As := [.int (nI rn)]) (rest := []) hX (c_X2_sortAt hA σj P (hP.xc hEj) rn (by omega)) dX2_step_141 cb_X2_72 (hA.1 105 (1, 0) rfl) rfl rfl ⟨Nat.le_of_ble_eq_true rfl, Nat.le_of_ble_eq_true rfl⟩ ⟨Nat.le_of_ble_eq_true rfl, Nat.le_of_ble_eq_true rfl⟩ (Nat.le_of_ble_eq_true rfl) ?_
                  refine r_aload_n hX dX2_step_144 rfl ?_
                  refine r_getIV hX dX2_step_145 fl_X2_28 (hA.1 105 (1, 0) rfl) rfl (nI 3) h6j ?_
                  refine r_icmpN_ne hX dX2_step_148 (by first | omega | exact Nat.lt_of_le_of_lt (srt_le _) (by decide)) (by decide) (fun c62 => ?_) (fun c62 => absurd c62 (fun z => r4 ⟨by omega, by have q := srt_inj (cl_le P rn) (by decide) (show srtN (cl P rn) = srtN 2 from z); unfold cl at q; rw [if_pos (by omega)] at q; exact q⟩))
                  refine r_aload_n hX dX2_step_164 rfl ?_
                  refine r_getIV hX dX2_step_165 fl_X2_28 (hA.1 105 (1, 0) rfl) rfl (nI 3) h6j ?_
                  refine r_iconst hX (nI 1) dX2_step_168 rfl ?_
                  refine r_icmpN_eq hX dX2_step_169 (by decide) (by decide) (fun c63 => absurd c63 (by decide)) (fun c63 => ?_)
                  refine r_iload_n hX dX2_step_172 rfl ?_
                  refine r_ifN_eq hX dX2_step_173 (by decide) (fun c64 => absurd c64 (by decide)) (fun c64 => ?_)
                  refine r_aload_n hX dX2_step_176 rfl ?_
                  refine r_getIV hX dX2_step_177 fl_X2_31 (hA.1 105 (1, 0) rfl) rfl (nI (skp P e)) h7j ?_
                  refine r_iload_n hX dX2_step_180 rfl ?_
                  refine r_icmpN_ne hX dX2_step_181 (by omega) (by omega) (fun c65 => ?_) (fun c65 => ?_)
                  · skip
                    exact r_return hX hQ dX2_step_189 ⟨Nat.le_of_ble_eq_true rfl, Nat.le_of_ble_eq_true rfl⟩ (PV.mk ⟨⟨(show σj 105 6 = nI 3 from h6j).trans (congrArg nI (by unfold nxN; rw [if_neg (fun z => by have z := z.2; change (ww && decide (skp P e = e)) = true at z; rw [decide_eq_false (show ¬ skp P e = e from c65), Bool.and_false] at z; cases z)]; show 3 = srtN (cl P (skp P e)); rw [hcl]; rfl)), h7j, Eq.trans (b := nI rn) h8j (congrArg nI (show _ = lxE P (skp P e) from by unfold lxE; rw [hcl]; exact hrn))⟩, hEj⟩)
                  · skip
                    refine r_aload_n hX dX2_step_184 rfl ?_
                    refine r_iconst hX (nI 4) dX2_step_185 rfl ?_
                    refine r_putI hX dX2_step_186 fl_X2_28 (hA.1 105 (1, 0) rfl) rfl rfl rfl rfl ?_
                    exact r_return hX hQ dX2_step_189 ⟨Nat.le_of_ble_eq_true rfl, Nat.le_of_ble_eq_true rfl⟩ (PV.mk ⟨⟨(show (up σj 105 6 (nI 4)) 105 6 = nI 4 from up_s).trans (congrArg nI (by unfold nxN; rw [if_pos ⟨by unfold wwB nx; simp only [hcl]; rfl, by show (ww && decide (skp P e = e)) = true; rw [show ww = true from hwt, decide_eq_true (show skp P e = e from c65)]; rfl⟩])), (by rw [up_n (by omega)]; exact h7j), Eq.trans (b := nI rn) (by rw [up_n (by omega)]; exact h8j) (congrArg nI (show _ = lxE P (skp P e) from by unfold lxE; rw [hcl]; exact hrn))⟩, (Ex.up hEj rfl)⟩)
              · skip
                intro j hj ih66 σj h7j h6j h8j hEj
                refine r_aload_n hX dX2_step_114 rfl ?_
                refine r_getIV hX dX2_step_115 fl_X2_28 (hA.1 105 (1, 0) rfl) rfl (nI 3) h6j ?_
                refine r_iconst hX (nI 1) dX2_step_118 rfl ?_
                refine r_icmpN_eq hX dX2_step_119 (by decide) (by decide) (fun c67 => absurd c67 (by decide)) (fun c67 => ?_)
                refine r_aload_n hX dX2_step_122 rfl ?_
                refine r_getIV hX dX2_step_123 fl_X2_34 (hA.1 105 (1, 0) rfl) rfl (nI ((skp P e) + 1 + j)) h8j ?_
                refine r_aload_n hX dX2_step_126 rfl ?_
                refine r_getR hX dX2_step_127 fl_X2_37 (hA.1 105 (1, 0) rfl) rfl (hA.2.1 105 0 103 rfl) ?_
                refine r_getIV hX dX2_step_130 fl_X2_63 (hA.1 103 (5, 0) rfl) rfl (nI P.1) ((hP.xc hEj)).1 ?_
                refine r_icmpN_ge hX dX2_step_133 (by omega) (by omega) (fun c68 => absurd c68 (by omega)) (fun c68 => ?_)
                refine r_aload_n hX dX2_step_136 rfl ?_
                refine r_aload_n hX dX2_step_137 rfl ?_
                refine r_getIV hX dX2_step_138 fl_X2_34 (hA.1 105 (1, 0) rfl) rfl (nI ((skp P e) + 1 + j)) h8j ?_
                refine r_callVF (As := [.int (nI ((skp P e) + 1 + j))]) (rest := []) hX (c_X2_sortAt hA σj P (hP.xc hEj) ((skp P e) + 1 + j) (by omega)) dX2_step_141 cb_X2_72 (hA.1 105 (1, 0) rfl) rfl rfl ⟨Nat.le_of_ble_eq_true rfl, Nat.le_of_ble_eq_true rfl⟩ ⟨Nat.le_of_ble_eq_true rfl, Nat.le_of_ble_eq_true rfl⟩ (Nat.le_of_ble_eq_true rfl) ?_
                refine r_aload_n hX dX2_step_144 rfl ?_
                refine r_getIV hX dX2_step_145 fl_X2_28 (hA.1 105 (1, 0) rfl) rfl (nI 3) h6j ?_
                refine r_icmpN_ne hX dX2_step_148 (by first | omega | exact Nat.lt_of_le_of_lt (srt_le _) (by decide)) (by decide) (fun c69 => absurd (show srtN (cl P (skp P e + 1 + j)) = 3 by have q := r3 (skp P e + 1 + j) (by omega) (by omega); unfold cl; rw [if_pos (by omega), q]; rfl) c69) (fun c69 => ?_)
                refine r_aload_n hX dX2_step_151 rfl ?_
                refine r_dup hX dX2_step_152 rfl ?_
                refine r_getIV hX dX2_step_153 fl_X2_34 (hA.1 105 (1, 0) rfl) rfl (nI ((skp P e) + 1 + j)) h8j ?_
                refine r_iconst hX (nI 1) dX2_step_156 rfl ?_
                refine r_iaddN hX dX2_step_157 ?_
                refine r_putI hX dX2_step_158 fl_X2_34 (hA.1 105 (1, 0) rfl) rfl rfl rfl rfl ?_
                refine r_goto hX dX2_step_161 ?_
                exact At.to (ih66 (up σj 105 8 (nI ((skp P e) + 1 + j + 1))) ((up_n (by omega)).trans h7j) ((up_n (by omega)).trans h6j) up_s (Ex.up hEj rfl)) rfl rfl rfl
            exact At.to (P56 0 (Nat.zero_le _) (up (up (up σk 105 8 (nI (skp P e))) 105 6 (nI 3)) 105 8 (nI ((skp P e) + 1))) (by rw [up_n (by omega), up_n (by omega), up_n (by omega)]; exact h7k) (by rw [up_n (by omega), up_s]) up_s (Ex.up (Ex.up (Ex.up hEk rfl) rfl) rfl)) rfl rfl rfl
          · skip
            show At X L (up σk 105 8 (nI (skp P e))) 0 0 [(0, .ref (L.1 105)), (1, .int (nI e)), (2, .int (nI 1))] 93 [.int (nI 1), .ref (L.1 105)]
            have hKl : skp P e < P.1 := cl_in (by rw [hcl]; decide)
            refine r_putI hX dX2_step_93 fl_X2_28 (hA.1 105 (1, 0) rfl) rfl rfl rfl rfl ?_
            refine r_aload_n hX dX2_step_96 rfl ?_
            refine r_getIV hX dX2_step_97 fl_X2_28 (hA.1 105 (1, 0) rfl) rfl (nI 1) up_s ?_
            refine r_ifN_ne hX dX2_step_100 (by decide) (fun c70 => ?_) (fun c70 => absurd c70 (by decide))
            refine r_aload_n hX dX2_step_104 rfl ?_
            refine r_dup hX dX2_step_105 rfl ?_
            refine r_getIV hX dX2_step_106 fl_X2_34 (hA.1 105 (1, 0) rfl) rfl (nI (skp P e)) (by rw [up_n (by omega), up_s]) ?_
            refine r_iconst hX (nI 1) dX2_step_109 rfl ?_
            refine r_iaddN hX dX2_step_110 ?_
            refine r_putI hX dX2_step_111 fl_X2_34 (hA.1 105 (1, 0) rfl) rfl rfl rfl rfl ?_
            refine r_aload_n hX dX2_step_114 rfl ?_
            refine r_getIV hX dX2_step_115 fl_X2_28 (hA.1 105 (1, 0) rfl) rfl (nI 1) (by rw [up_n (by omega), up_s]) ?_
            refine r_iconst hX (nI 1) dX2_step_118 rfl ?_
            refine r_icmpN_eq hX dX2_step_119 (by decide) (by decide) (fun c71 => ?_) (fun c71 => absurd c71 (by decide))
            refine r_aload_n hX dX2_step_164 rfl ?_
            refine r_getIV hX dX2_step_165 fl_X2_28 (hA.1 105 (1, 0) rfl) rfl (nI 1) (by rw [up_n (by omega), up_s]) ?_
            refine r_iconst hX (nI 1) dX2_step_168 rfl ?_
            refine r_icmpN_eq hX dX2_step_169 (by decide) (by decide) (fun c72 => ?_) (fun c72 => absurd c72 (by decide))
            exact r_return hX hQ dX2_step_189 ⟨Nat.le_of_ble_eq_true rfl, Nat.le_of_ble_eq_true rfl⟩ (PV.mk ⟨⟨(show (up (up (up σk 105 8 (nI (skp P e))) 105 6 (nI 1)) 105 8 (nI ((skp P e) + 1))) 105 6 = nI 1 from (by rw [up_n (by omega), up_s])).trans (congrArg nI (by unfold nxN; rw [if_neg (fun z => by have z := z.1; unfold wwB nx at z; simp only [hcl] at z; cases z)]; show 1 = srtN (cl P (skp P e)); rw [hcl]; rfl)), (by rw [up_n (by omega), up_n (by omega), up_n (by omega)]; exact h7k), Eq.trans (b := nI ((skp P e) + 1)) up_s (congrArg nI (show _ = lxE P (skp P e) from by unfold lxE; rw [hcl]; rfl))⟩, (Ex.up (Ex.up (Ex.up hEk rfl) rfl) rfl)⟩)
      · skip
        intro k hk ih73 σk h7k hEk
        refine r_aload_n hX dX2_step_32 rfl ?_
        refine r_getIV hX dX2_step_33 fl_X2_31 (hA.1 105 (1, 0) rfl) rfl (nI (e + k)) h7k ?_
        refine r_aload_n hX dX2_step_36 rfl ?_
        refine r_getR hX dX2_step_37 fl_X2_37 (hA.1 105 (1, 0) rfl) rfl (hA.2.1 105 0 103 rfl) ?_
        refine r_getIV hX dX2_step_40 fl_X2_63 (hA.1 103 (5, 0) rfl) rfl (nI P.1) ((hP.xc hEk)).1 ?_
        refine r_icmpN_ge hX dX2_step_43 (by omega) (by omega) (fun c74 => absurd c74 (by omega)) (fun c74 => ?_)
        refine r_aload_n hX dX2_step_46 rfl ?_
        refine r_getR hX dX2_step_47 fl_X2_37 (hA.1 105 (1, 0) rfl) rfl (hA.2.1 105 0 103 rfl) ?_
        refine r_getR hX dX2_step_50 fl_X2_68 (hA.1 103 (5, 0) rfl) rfl (hA.2.1 103 0 104 rfl) ?_
        refine r_aload_n hX dX2_step_53 rfl ?_
        refine r_getIV hX dX2_step_54 fl_X2_31 (hA.1 105 (1, 0) rfl) rfl (nI (e + k)) h7k ?_
        refine r_baldN hX dX2_step_57 (hA.1 104 (11, 96) rfl) (by decide) (by omega) (sb (P.2 (e + k))) (((hP.xc hEk)).2.2 (e + k) (by omega)).1 ?_
        refine r_bipush hX (nI 32) dX2_step_58 rfl ?_
        refine r_icmp_ne hX dX2_step_60 (fun c75 => absurd ((sb_eq (hP.2.2 _ (by omega)).2 (by decide)).mpr (hsk.2.2.1 _ (by omega) (by omega))) c75) (fun c75 => ?_)
        refine r_aload_n hX dX2_step_63 rfl ?_
        refine r_dup hX dX2_step_64 rfl ?_
        refine r_getIV hX dX2_step_65 fl_X2_31 (hA.1 105 (1, 0) rfl) rfl (nI (e + k)) h7k ?_
        refine r_iconst hX (nI 1) dX2_step_68 rfl ?_
        refine r_iaddN hX dX2_step_69 ?_
        refine r_putI hX dX2_step_70 fl_X2_31 (hA.1 105 (1, 0) rfl) rfl rfl rfl rfl ?_
        refine r_goto hX dX2_step_73 ?_
        exact At.to (ih73 (up σk 105 7 (nI (e + k + 1))) up_s (Ex.up hEk rfl)) rfl rfl rfl
    exact At.to (P2 0 (Nat.zero_le _) (up σ 105 7 (nI e)) up_s (Ex.up (Ex.rf σ) rfl)) rfl rfl rfl
  · skip
    refine r_aload_n hX dX2_step_13 rfl ?_
    refine r_getIV hX dX2_step_14 fl_X2_28 (hA.1 105 (1, 0) rfl) rfl (nI n0) h6 ?_
    refine r_iconst hX (nI 3) dX2_step_17 rfl ?_
    refine r_icmpN_ne hX dX2_step_18 (by omega) (by decide) (fun c76 => ?_) (fun c76 => ?_)
    · skip
      refine r_iconst hX (nI 0) dX2_step_25 rfl ?_
      have hwt : ww = false := by rw [hww]; simp; omega
      refine r_istore_n hX [(0, .ref (L.1 105)), (1, .int (nI e)), (2, .int (nI 0))] dX2_step_26 hN2 rfl ?_
      refine r_aload_n hX dX2_step_27 rfl ?_
      refine r_iload_n hX dX2_step_28 rfl ?_
      refine r_putI hX dX2_step_29 fl_X2_31 (hA.1 105 (1, 0) rfl) rfl rfl rfl rfl ?_
      have P77 : ∀ k, k ≤ skp P e - e → ∀ (σk : Me) (h7k : σk 105 7 = nI (e + k)) (hEk : Ex pXc σ σk), At X L σk 0 0 [(0, .ref (L.1 105)), (1, .int (nI e)), (2, .int (nI 0))] 32 [] := by
        refine loopUp (skp P e - e) ?_ ?_
        · skip
          intro σk h7k hEk
          rw [show e + (skp P e - e) = skp P e by omega] at h7k
          refine r_aload_n hX dX2_step_32 rfl ?_
          refine r_getIV hX dX2_step_33 fl_X2_31 (hA.1 105 (1, 0) rfl) rfl (nI (skp P e)) h7k ?_
          refine r_aload_n hX dX2_step_36 rfl ?_
          refine r_getR hX dX2_step_37 fl_X2_37 (hA.1 105 (1, 0) rfl) rfl (hA.2.1 105 0 103 rfl) ?_
          refine r_getIV hX dX2_step_40 fl_X2_63 (hA.1 103 (5, 0) rfl) rfl (nI P.1) ((hP.xc hEk)).1 ?_
          refine r_icmpN_ge hX dX2_step_43 (by omega) (by omega) (fun c78 => ?_) (fun c78 => ?_)
          · skip
            refine r_aload_n hX dX2_step_76 rfl ?_
            refine r_aload_n hX dX2_step_77 rfl ?_
            refine r_getIV hX dX2_step_78 fl_X2_31 (hA.1 105 (1, 0) rfl) rfl (nI (skp P e)) h7k ?_
            refine r_putI hX dX2_step_81 fl_X2_34 (hA.1 105 (1, 0) rfl) rfl rfl rfl rfl ?_
            refine r_aload_n hX dX2_step_84 rfl ?_
            refine r_aload_n hX dX2_step_85 rfl ?_
            refine r_aload_n hX dX2_step_86 rfl ?_
            refine r_getIV hX dX2_step_87 fl_X2_31 (hA.1 105 (1, 0) rfl) rfl (nI (skp P e)) (by rw [up_n (by omega)]; exact h7k) ?_
            refine r_callVF (As := [.int (nI (skp P e))]) (rest := [.ref (L.1 105)]) hX (c_X2_sortAt hA (up σk 105 8 (nI (skp P e))) P (hP.xc (Ex.up hEk rfl)) (skp P e) (by omega)) dX2_step_90 cb_X2_72 (hA.1 105 (1, 0) rfl) rfl rfl ⟨Nat.le_of_ble_eq_true rfl, Nat.le_of_ble_eq_true rfl⟩ ⟨Nat.le_of_ble_eq_true rfl, Nat.le_of_ble_eq_true rfl⟩ (Nat.le_of_ble_eq_true rfl) ?_
            rcases (show cl P (skp P e) = 0 ∨ cl P (skp P e) = 1 ∨ cl P (skp P e) = 2 ∨ cl P (skp P e) = 3 by have := cl_le P (skp P e); omega) with hcl | hcl | hcl | hcl <;> rw [hcl]
            · skip
              show At X L (up σk 105 8 (nI (skp P e))) 0 0 [(0, .ref (L.1 105)), (1, .int (nI e)), (2, .int (nI 0))] 93 [.int (nI 0), .ref (L.1 105)]
              refine r_putI hX dX2_step_93 fl_X2_28 (hA.1 105 (1, 0) rfl) rfl rfl rfl rfl ?_
              refine r_aload_n hX dX2_step_96 rfl ?_
              refine r_getIV hX dX2_step_97 fl_X2_28 (hA.1 105 (1, 0) rfl) rfl (nI 0) up_s ?_
              refine r_ifN_ne hX dX2_step_100 (by decide) (fun c79 => absurd c79 (by decide)) (fun c79 => ?_)
              exact r_return hX hQ dX2_step_103 ⟨Nat.le_of_ble_eq_true rfl, Nat.le_of_ble_eq_true rfl⟩ (PV.mk ⟨⟨(show (up (up σk 105 8 (nI (skp P e))) 105 6 (nI 0)) 105 6 = nI 0 from up_s).trans (congrArg nI (by unfold nxN; rw [if_neg (fun z => by have z := z.1; unfold wwB nx at z; simp only [hcl] at z; cases z)]; show 0 = srtN (cl P (skp P e)); rw [hcl]; rfl)), (by rw [up_n (by omega), up_n (by omega)]; exact h7k), Eq.trans (b := nI (skp P e)) (by rw [up_n (by omega), up_s]) (congrArg nI (show _ = lxE P (skp P e) from by unfold lxE; rw [if_pos hcl]))⟩, (Ex.up (Ex.up hEk rfl) rfl)⟩)
            · skip
              show At X L (up σk 105 8 (nI (skp P e))) 0 0 [(0, .ref (L.1 105)), (1, .int (nI e)), (2, .int (nI 0))] 93 [.int (nI 2), .ref (L.1 105)]
              have hKl : skp P e < P.1 := cl_in (by rw [hcl]; decide)
              obtain ⟨rn, hrn⟩ : ∃ r, r = rnn P 1 (skp P e) := ⟨_, rfl⟩
              obtain ⟨r1, r2, r3, r4⟩ := rnn_ok P 1 hsk.2.1
              have rp := rnn_pos hcl hKl
              rw [← hrn] at r1 r2 r3 r4 rp
              refine r_putI hX dX2_step_93 fl_X2_28 (hA.1 105 (1, 0) rfl) rfl rfl rfl rfl ?_
              refine r_aload_n hX dX2_step_96 rfl ?_
              refine r_getIV hX dX2_step_97 fl_X2_28 (hA.1 105 (1, 0) rfl) rfl (nI 2) up_s ?_
              refine r_ifN_ne hX dX2_step_100 (by decide) (fun c80 => ?_) (fun c80 => absurd c80 (by decide))
              refine r_aload_n hX dX2_step_104 rfl ?_
              refine r_dup hX dX2_step_105 rfl ?_
              refine r_getIV hX dX2_step_106 fl_X2_34 (hA.1 105 (1, 0) rfl) rfl (nI (skp P e)) (by rw [up_n (by omega), up_s]) ?_
              refine r_iconst hX (nI 1) dX2_step_109 rfl ?_
              refine r_iaddN hX dX2_step_110 ?_
              refine r_putI hX dX2_step_111 fl_X2_34 (hA.1 105 (1, 0) rfl) rfl rfl rfl rfl ?_
              have P81 : ∀ j, j ≤ rn - (skp P e + 1) → ∀ (σj : Me) (h7j : σj 105 7 = nI (skp P e)) (h6j : σj 105 6 = nI 2) (h8j : σj 105 8 = nI (skp P e + 1 + j)) (hEj : Ex pXc σ σj), At X L σj 0 0 [(0, .ref (L.1 105)), (1, .int (nI e)), (2, .int (nI 0))] 114 [] := by
                refine loopUp (rn - (skp P e + 1)) ?_ ?_
                · skip
                  intro σj h7j h6j h8j hEj
                  rw [show skp P e + 1 + (rn - (skp P e + 1)) = rn by omega] at h8j
                  refine r_aload_n hX dX2_step_114 rfl ?_
                  refine r_getIV hX dX2_step_115 fl_X2_28 (hA.1 105 (1, 0) rfl) rfl (nI 2) h6j ?_
                  refine r_iconst hX (nI 1) dX2_step_118 rfl ?_
                  refine r_icmpN_eq hX dX2_step_119 (by decide) (by decide) (fun c82 => absurd c82 (by decide)) (fun c82 => ?_)
                  refine r_aload_n hX dX2_step_122 rfl ?_
                  refine r_getIV hX dX2_step_123 fl_X2_34 (hA.1 105 (1, 0) rfl) rfl (nI rn) h8j ?_
                  refine r_aload_n hX dX2_step_126 rfl ?_
                  refine r_getR hX dX2_step_127 fl_X2_37 (hA.1 105 (1, 0) rfl) rfl (hA.2.1 105 0 103 rfl) ?_
                  refine r_getIV hX dX2_step_130 fl_X2_63 (hA.1 103 (5, 0) rfl) rfl (nI P.1) ((hP.xc hEj)).1 ?_
                  refine r_icmpN_ge hX dX2_step_133 (by omega) (by omega) (fun c83 => ?_) (fun c83 => ?_)
                  · skip
                    refine r_aload_n hX dX2_step_164 rfl ?_
                    refine r_getIV hX dX2_step_165 fl_X2_28 (hA.1 105 (1, 0) rfl) rfl (nI 2) h6j ?_
                    refine r_iconst hX (nI 1) dX2_step_168 rfl ?_
                    refine r_icmpN_eq hX dX2_step_169 (by decide) (by decide) (fun c84 => absurd c84 (by decide)) (fun c84 => ?_)
                    refine r_iload_n hX dX2_step_172 rfl ?_
                    refine r_ifN_eq hX dX2_step_173 (by decide) (fun c85 => ?_) (fun c85 => absurd c85 (by decide))
                    exact r_return hX hQ dX2_step_189 ⟨Nat.le_of_ble_eq_true rfl, Nat.le_of_ble_eq_true rfl⟩ (PV.mk ⟨⟨(show σj 105 6 = nI 2 from h6j).trans (congrArg nI (by unfold nxN; rw [if_neg (fun z => by have z := z.2; change (ww && decide (skp P e = e)) = true at z; rw [show ww = false from hwt] at z; cases z)]; show 2 = srtN (cl P (skp P e)); rw [hcl]; rfl)), h7j, Eq.trans (b := nI rn) h8j (congrArg nI (show _ = lxE P (skp P e) from by unfold lxE; rw [hcl]; exact hrn))⟩, hEj⟩)
                  · skip
                    refine r_aload_n hX dX2_step_136 rfl ?_
                    refine r_aload_n hX dX2_step_137 rfl ?_
                    refine r_getIV hX dX2_step_138 fl_X2_34 (hA.1 105 (1, 0) rfl) rfl (nI rn) h8j ?_
                    refine r_callVF (As := [.int (nI rn)]) (rest := []) hX (c_X2_sortAt hA σj P (hP.xc hEj) rn (by omega)) dX2_step_141 cb_X2_72 (hA.1 105 (1, 0) rfl) rfl rfl ⟨Nat.le_of_ble_eq_true rfl, Nat.le_of_ble_eq_true rfl⟩ ⟨Nat.le_of_ble_eq_true rfl, Nat.le_of_ble_eq_true rfl⟩ (Nat.le_of_ble_eq_true rfl) ?_
                    refine r_aload_n hX dX2_step_144 rfl ?_
                    refine r_getIV hX dX2_step_145 fl_X2_28 (hA.1 105 (1, 0) rfl) rfl (nI 2) h6j ?_
                    refine r_icmpN_ne hX dX2_step_148 (by first | omega | exact Nat.lt_of_le_of_lt (srt_le _) (by decide)) (by decide) (fun c86 => ?_) (fun c86 => absurd c86 (fun z => r4 ⟨by omega, by have q := srt_inj (cl_le P rn) (by decide) (show srtN (cl P rn) = srtN 1 from z); unfold cl at q; rw [if_pos (by omega)] at q; exact q⟩))
                    refine r_aload_n hX dX2_step_164 rfl ?_
                    refine r_getIV hX dX2_step_165 fl_X2_28 (hA.1 105 (1, 0) rfl) rfl (nI 2) h6j ?_
                    refine r_iconst hX (nI 1) dX2_step_168 rfl ?_
                    refine r_icmpN_eq hX dX2_step_169 (by decide) (by decide) (fun c87 => absurd c87 (by decide)) (fun c87 => ?_)
                    refine r_iload_n hX dX2_step_172 rfl ?_
                    refine r_ifN_eq hX dX2_step_173 (by decide) (fun c88 => ?_) (fun c88 => absurd c88 (by decide))
                    exact r_return hX hQ dX2_step_189 ⟨Nat.le_of_ble_eq_true rfl, Nat.le_of_ble_eq_true rfl⟩ (PV.mk ⟨⟨(show σj 105 6 = nI 2 from h6j).trans (congrArg nI (by unfold nxN; rw [if_neg (fun z => by have z := z.2; change (ww && decide (skp P e = e)) = true at z; rw [show ww = false from hwt] at z; cases z)]; show 2 = srtN (cl P (skp P e)); rw [hcl]; rfl)), h7j, Eq.trans (b := nI rn) h8j (congrArg nI (show _ = lxE P (skp P e) from by unfold lxE; rw [hcl]; exact hrn))⟩, hEj⟩)
                · skip
                  intro j hj ih89 σj h7j h6j h8j hEj
                  refine r_aload_n hX dX2_step_114 rfl ?_
                  refine r_getIV hX dX2_step_115 fl_X2_28 (hA.1 105 (1, 0) rfl) rfl (nI 2) h6j ?_
                  refine r_iconst hX (nI 1) dX2_step_118 rfl ?_
                  refine r_icmpN_eq hX dX2_step_119 (by decide) (by decide) (fun c90 => absurd c90 (by decide)) (fun c90 => ?_)
                  refine r_aload_n hX dX2_step_122 rfl ?_
                  refine r_getIV hX dX2_step_123 fl_X2_34 (hA.1 105 (1, 0) rfl) rfl (nI ((skp P e) + 1 + j)) h8j ?_
                  refine r_aload_n hX dX2_step_126 rfl ?_
                  refine r_getR hX dX2_step_127 fl_X2_37 (hA.1 105 (1, 0) rfl) rfl (hA.2.1 105 0 103 rfl) ?_
                  refine r_getIV hX dX2_step_130 fl_X2_63 (hA.1 103 (5, 0) rfl) rfl (nI P.1) ((hP.xc hEj)).1 ?_
                  refine r_icmpN_ge hX dX2_step_133 (by omega) (by omega) (fun c91 => absurd c91 (by omega)) (fun c91 => ?_)
                  refine r_aload_n hX dX2_step_136 rfl ?_
                  refine r_aload_n hX dX2_step_137 rfl ?_
                  refine r_getIV hX dX2_step_138 fl_X2_34 (hA.1 105 (1, 0) rfl) rfl (nI ((skp P e) + 1 + j)) h8j ?_
                  refine r_callVF (As := [.int (nI ((skp P e) + 1 + j))]) (rest := []) hX (c_X2_sortAt hA σj P (hP.xc hEj) ((skp P e) + 1 + j) (by omega)) dX2_step_141 cb_X2_72 (hA.1 105 (1, 0) rfl) rfl rfl ⟨Nat.le_of_ble_eq_true rfl, Nat.le_of_ble_eq_true rfl⟩ ⟨Nat.le_of_ble_eq_true rfl, Nat.le_of_ble_eq_true rfl⟩ (Nat.le_of_ble_eq_true rfl) ?_
                  refine r_aload_n hX dX2_step_144 rfl ?_
                  refine r_getIV hX dX2_step_145 fl_X2_28 (hA.1 105 (1, 0) rfl) rfl (nI 2) h6j ?_
                  refine r_icmpN_ne hX dX2_step_148 (by first | omega | exact Nat.lt_of_le_of_lt (srt_le _) (by decide)) (by decide) (fun c92 => absurd (show srtN (cl P (skp P e + 1 + j)) = 2 by have q := r3 (skp P e + 1 + j) (by omega) (by omega); unfold cl; rw [if_pos (by omega), q]; rfl) c92) (fun c92 => ?_)
                  refine r_aload_n hX dX2_step_151 rfl ?_
                  refine r_dup hX dX2_step_152 rfl ?_
                  refine r_getIV hX dX2_step_153 fl_X2_34 (hA.1 105 (1, 0) rfl) rfl (nI ((skp P e) + 1 + j)) h8j ?_
                  refine r_iconst hX (nI 1) dX2_step_156 rfl ?_
                  refine r_iaddN hX dX2_step_157 ?_
                  refine r_putI hX dX2_step_158 fl_X2_34 (hA.1 105 (1, 0) rfl) rfl rfl rfl rfl ?_
                  refine r_goto hX dX2_step_161 ?_
                  exact At.to (ih89 (up σj 105 8 (nI ((skp P e) + 1 + j + 1))) ((up_n (by omega)).trans h7j) ((up_n (by omega)).trans h6j) up_s (Ex.up hEj rfl)) rfl rfl rfl
              exact At.to (P81 0 (Nat.zero_le _) (up (up (up σk 105 8 (nI (skp P e))) 105 6 (nI 2)) 105 8 (nI ((skp P e) + 1))) (by rw [up_n (by omega), up_n (by omega), up_n (by omega)]; exact h7k) (by rw [up_n (by omega), up_s]) up_s (Ex.up (Ex.up (Ex.up hEk rfl) rfl) rfl)) rfl rfl rfl
            · skip
              show At X L (up σk 105 8 (nI (skp P e))) 0 0 [(0, .ref (L.1 105)), (1, .int (nI e)), (2, .int (nI 0))] 93 [.int (nI 3), .ref (L.1 105)]
              have hKl : skp P e < P.1 := cl_in (by rw [hcl]; decide)
              obtain ⟨rn, hrn⟩ : ∃ r, r = rnn P 2 (skp P e) := ⟨_, rfl⟩
              obtain ⟨r1, r2, r3, r4⟩ := rnn_ok P 2 hsk.2.1
              have rp := rnn_pos hcl hKl
              rw [← hrn] at r1 r2 r3 r4 rp
              refine r_putI hX dX2_step_93 fl_X2_28 (hA.1 105 (1, 0) rfl) rfl rfl rfl rfl ?_
              refine r_aload_n hX dX2_step_96 rfl ?_
              refine r_getIV hX dX2_step_97 fl_X2_28 (hA.1 105 (1, 0) rfl) rfl (nI 3) up_s ?_
              refine r_ifN_ne hX dX2_step_100 (by decide) (fun c93 => ?_) (fun c93 => absurd c93 (by decide))
              refine r_aload_n hX dX2_step_104 rfl ?_
              refine r_dup hX dX2_step_105 rfl ?_
              refine r_getIV hX dX2_step_106 fl_X2_34 (hA.1 105 (1, 0) rfl) rfl (nI (skp P e)) (by rw [up_n (by omega), up_s]) ?_
              refine r_iconst hX (nI 1) dX2_step_109 rfl ?_
              refine r_iaddN hX dX2_step_110 ?_
              refine r_putI hX dX2_step_111 fl_X2_34 (hA.1 105 (1, 0) rfl) rfl rfl rfl rfl ?_
              have P94 : ∀ j, j ≤ rn - (skp P e + 1) → ∀ (σj : Me) (h7j : σj 105 7 = nI (skp P e)) (h6j : σj 105 6 = nI 3) (h8j : σj 105 8 = nI (skp P e + 1 + j)) (hEj : Ex pXc σ σj), At X L σj 0 0 [(0, .ref (L.1 105)), (1, .int (nI e)), (2, .int (nI 0))] 114 [] := by
                refine loopUp (rn - (skp P e + 1)) ?_ ?_
                · skip
                  intro σj h7j h6j h8j hEj
                  rw [show skp P e + 1 + (rn - (skp P e + 1)) = rn by omega] at h8j
                  refine r_aload_n hX dX2_step_114 rfl ?_
                  refine r_getIV hX dX2_step_115 fl_X2_28 (hA.1 105 (1, 0) rfl) rfl (nI 3) h6j ?_
                  refine r_iconst hX (nI 1) dX2_step_118 rfl ?_
                  refine r_icmpN_eq hX dX2_step_119 (by decide) (by decide) (fun c95 => absurd c95 (by decide)) (fun c95 => ?_)
                  refine r_aload_n hX dX2_step_122 rfl ?_
                  refine r_getIV hX dX2_step_123 fl_X2_34 (hA.1 105 (1, 0) rfl) rfl (nI rn) h8j ?_
                  refine r_aload_n hX dX2_step_126 rfl ?_
                  refine r_getR hX dX2_step_127 fl_X2_37 (hA.1 105 (1, 0) rfl) rfl (hA.2.1 105 0 103 rfl) ?_
                  refine r_getIV hX dX2_step_130 fl_X2_63 (hA.1 103 (5, 0) rfl) rfl (nI P.1) ((hP.xc hEj)).1 ?_
                  refine r_icmpN_ge hX dX2_step_133 (by omega) (by omega) (fun c96 => ?_) (fun c96 => ?_)
                  · skip
                    refine r_aload_n hX dX2_step_164 rfl ?_
                    refine r_getIV hX dX2_step_165 fl_X2_28 (hA.1 105 (1, 0) rfl) rfl (nI 3) h6j ?_
                    refine r_iconst hX (nI 1) dX2_step_168 rfl ?_
                    refine r_icmpN_eq hX dX2_step_169 (by decide) (by decide) (fun c97 => absurd c97 (by decide)) (fun c97 => ?_)
                    refine r_iload_n hX dX2_step_172 rfl ?_
                    refine r_ifN_eq hX dX2_step_173 (by decide) (fun c98 => ?_) (fun c98 => absurd c98 (by decide))
                    exact r_return hX hQ dX2_step_189 ⟨Nat.le_of_ble_eq_true rfl, Nat.le_of_ble_eq_true rfl⟩ (PV.mk ⟨⟨(show σj 105 6 = nI 3 from h6j).trans (congrArg nI (by unfold nxN; rw [if_neg (fun z => by have z := z.2; change (ww && decide (skp P e = e)) = true at z; rw [show ww = false from hwt] at z; cases z)]; show 3 = srtN (cl P (skp P e)); rw [hcl]; rfl)), h7j, Eq.trans (b := nI rn) h8j (congrArg nI (show _ = lxE P (skp P e) from by unfold lxE; rw [hcl]; exact hrn))⟩, hEj⟩)
                  · skip
                    refine r_aload_n hX dX2_step_136 rfl ?_
                    refine r_aload_n hX dX2_step_137 rfl ?_
                    refine r_getIV hX dX2_step_138 fl_X2_34 (hA.1 105 (1, 0) rfl) rfl (nI rn) h8j ?_
                    refine r_callVF (As := [.int (nI rn)]) (rest := []) hX (c_X2_sortAt hA σj P (hP.xc hEj) rn (by omega)) dX2_step_141 cb_X2_72 (hA.1 105 (1, 0) rfl) rfl rfl ⟨Nat.le_of_ble_eq_true rfl, Nat.le_of_ble_eq_true rfl⟩ ⟨Nat.le_of_ble_eq_true rfl, Nat.le_of_ble_eq_true rfl⟩ (Nat.le_of_ble_eq_true rfl) ?_
                    refine r_aload_n hX dX2_step_144 rfl ?_
                    refine r_getIV hX dX2_step_145 fl_X2_28 (hA.1 105 (1, 0) rfl) rfl (nI 3) h6j ?_
                    refine r_icmpN_ne hX dX2_step_148 (by first | omega | exact Nat.lt_of_le_of_lt (srt_le _) (by decide)) (by decide) (fun c99 => ?_) (fun c99 => absurd c99 (fun z => r4 ⟨by omega, by have q := srt_inj (cl_le P rn) (by decide) (show srtN (cl P rn) = srtN 2 from z); unfold cl at q; rw [if_pos (by omega)] at q; exact q⟩))
                    refine r_aload_n hX dX2_step_164 rfl ?_
                    refine r_getIV hX dX2_step_165 fl_X2_28 (hA.1 105 (1, 0) rfl) rfl (nI 3) h6j ?_
                    refine r_iconst hX (nI 1) dX2_step_168 rfl ?_
                    refine r_icmpN_eq hX dX2_step_169 (by decide) (by decide) (fun c100 => absurd c100 (by decide)) (fun c100 => ?_)
                    refine r_iload_n hX dX2_step_172 rfl ?_
                    refine r_ifN_eq hX dX2_step_173 (by decide) (fun c101 => ?_) (fun c101 => absurd c101 (by decide))
                    exact r_return hX hQ dX2_step_189 ⟨Nat.le_of_ble_eq_true rfl, Nat.le_of_ble_eq_true rfl⟩ (PV.mk ⟨⟨(show σj 105 6 = nI 3 from h6j).trans (congrArg nI (by unfold nxN; rw [if_neg (fun z => by have z := z.2; change (ww && decide (skp P e = e)) = true at z; rw [show ww = false from hwt] at z; cases z)]; show 3 = srtN (cl P (skp P e)); rw [hcl]; rfl)), h7j, Eq.trans (b := nI rn) h8j (congrArg nI (show _ = lxE P (skp P e) from by unfold lxE; rw [hcl]; exact hrn))⟩, hEj⟩)
                · skip
                  intro j hj ih102 σj h7j h6j h8j hEj
                  refine r_aload_n hX dX2_step_114 rfl ?_
                  refine r_getIV hX dX2_step_115 fl_X2_28 (hA.1 105 (1, 0) rfl) rfl (nI 3) h6j ?_
                  refine r_iconst hX (nI 1) dX2_step_118 rfl ?_
                  refine r_icmpN_eq hX dX2_step_119 (by decide) (by decide) (fun c103 => absurd c103 (by decide)) (fun c103 => ?_)
                  refine r_aload_n hX dX2_step_122 rfl ?_
                  refine r_getIV hX dX2_step_123 fl_X2_34 (hA.1 105 (1, 0) rfl) rfl (nI ((skp P e) + 1 + j)) h8j ?_
                  refine r_aload_n hX dX2_step_126 rfl ?_
                  refine r_getR hX dX2_step_127 fl_X2_37 (hA.1 105 (1, 0) rfl) rfl (hA.2.1 105 0 103 rfl) ?_
                  refine r_getIV hX dX2_step_130 fl_X2_63 (hA.1 103 (5, 0) rfl) rfl (nI P.1) ((hP.xc hEj)).1 ?_
                  refine r_icmpN_ge hX dX2_step_133 (by omega) (by omega) (fun c104 => absurd c104 (by omega)) (fun c104 => ?_)
                  refine r_aload_n hX dX2_step_136 rfl ?_
                  refine r_aload_n hX dX2_step_137 rfl ?_
                  refine r_getIV hX dX2_step_138 fl_X2_34 (hA.1 105 (1, 0) rfl) rfl (nI ((skp P e) + 1 + j)) h8j ?_
                  refine r_callVF (As := [.int (nI ((skp P e) + 1 + j))]) (rest := []) hX (c_X2_sortAt hA σj P (hP.xc hEj) ((skp P e) + 1 + j) (by omega)) dX2_step_141 cb_X2_72 (hA.1 105 (1, 0) rfl) rfl rfl ⟨Nat.le_of_ble_eq_true rfl, Nat.le_of_ble_eq_true rfl⟩ ⟨Nat.le_of_ble_eq_true rfl, Nat.le_of_ble_eq_true rfl⟩ (Nat.le_of_ble_eq_true rfl) ?_
                  refine r_aload_n hX dX2_step_144 rfl ?_
                  refine r_getIV hX dX2_step_145 fl_X2_28 (hA.1 105 (1, 0) rfl) rfl (nI 3) h6j ?_
                  refine r_icmpN_ne hX dX2_step_148 (by first | omega | exact Nat.lt_of_le_of_lt (srt_le _) (by decide)) (by decide) (fun c105 => absurd (show srtN (cl P (skp P e + 1 + j)) = 3 by have q := r3 (skp P e + 1 + j) (by omega) (by omega); unfold cl; rw [if_pos (by omega), q]; rfl) c105) (fun c105 => ?_)
                  refine r_aload_n hX dX2_step_151 rfl ?_
                  refine r_dup hX dX2_step_152 rfl ?_
                  refine r_getIV hX dX2_step_153 fl_X2_34 (hA.1 105 (1, 0) rfl) rfl (nI ((skp P e) + 1 + j)) h8j ?_
                  refine r_iconst hX (nI 1) dX2_step_156 rfl ?_
                  refine r_iaddN hX dX2_step_157 ?_
                  refine r_putI hX dX2_step_158 fl_X2_34 (hA.1 105 (1, 0) rfl) rfl rfl rfl rfl ?_
                  refine r_goto hX dX2_step_161 ?_
                  exact At.to (ih102 (up σj 105 8 (nI ((skp P e) + 1 + j + 1))) ((up_n (by omega)).trans h7j) ((up_n (by omega)).trans h6j) up_s (Ex.up hEj rfl)) rfl rfl rfl
              exact At.to (P94 0 (Nat.zero_le _) (up (up (up σk 105 8 (nI (skp P e))) 105 6 (nI 3)) 105 8 (nI ((skp P e) + 1))) (by rw [up_n (by omega), up_n (by omega), up_n (by omega)]; exact h7k) (by rw [up_n (by omega), up_s]) up_s (Ex.up (Ex.up (Ex.up hEk rfl) rfl) rfl)) rfl rfl rfl
            · skip
              show At X L (up σk 105 8 (nI (skp P e))) 0 0 [(0, .ref (L.1 105)), (1, .int (nI e)), (2, .int (nI 0))] 93 [.int (nI 1), .ref (L.1 105)]
              have hKl : skp P e < P.1 := cl_in (by rw [hcl]; decide)
              refine r_putI hX dX2_step_93 fl_X2_28 (hA.1 105 (1, 0) rfl) rfl rfl rfl rfl ?_
              refine r_aload_n hX dX2_step_96 rfl ?_
              refine r_getIV hX dX2_step_97 fl_X2_28 (hA.1 105 (1, 0) rfl) rfl (nI 1) up_s ?_
              refine r_ifN_ne hX dX2_step_100 (by decide) (fun c106 => ?_) (fun c106 => absurd c106 (by decide))
              refine r_aload_n hX dX2_step_104 rfl ?_
              refine r_dup hX dX2_step_105 rfl ?_
              refine r_getIV hX dX2_step_106 fl_X2_34 (hA.1 105 (1, 0) rfl) rfl (nI (skp P e)) (by rw [up_n (by omega), up_s]) ?_
              refine r_iconst hX (nI 1) dX2_step_109 rfl ?_
              refine r_iaddN hX dX2_step_110 ?_
              refine r_putI hX dX2_step_111 fl_X2_34 (hA.1 105 (1, 0) rfl) rfl rfl rfl rfl ?_
              refine r_aload_n hX dX2_step_114 rfl ?_
              refine r_getIV hX dX2_step_115 fl_X2_28 (hA.1 105 (1, 0) rfl) rfl (nI 1) (by rw [up_n (by omega), up_s]) ?_
              refine r_iconst hX (nI 1) dX2_step_118 rfl ?_
              refine r_icmpN_eq hX dX2_step_119 (by decide) (by decide) (fun c107 => ?_) (fun c107 => absurd c107 (by decide))
              refine r_aload_n hX dX2_step_164 rfl ?_
              refine r_getIV hX dX2_step_165 fl_X2_28 (hA.1 105 (1, 0) rfl) rfl (nI 1) (by rw [up_n (by omega), up_s]) ?_
              refine r_iconst hX (nI 1) dX2_step_168 rfl ?_
              refine r_icmpN_eq hX dX2_step_169 (by decide) (by decide) (fun c108 => ?_) (fun c108 => absurd c108 (by decide))
              exact r_return hX hQ dX2_step_189 ⟨Nat.le_of_ble_eq_true rfl, Nat.le_of_ble_eq_true rfl⟩ (PV.mk ⟨⟨(show (up (up (up σk 105 8 (nI (skp P e))) 105 6 (nI 1)) 105 8 (nI ((skp P e) + 1))) 105 6 = nI 1 from (by rw [up_n (by omega), up_s])).trans (congrArg nI (by unfold nxN; rw [if_neg (fun z => by have z := z.1; unfold wwB nx at z; simp only [hcl] at z; cases z)]; show 1 = srtN (cl P (skp P e)); rw [hcl]; rfl)), (by rw [up_n (by omega), up_n (by omega), up_n (by omega)]; exact h7k), Eq.trans (b := nI ((skp P e) + 1)) up_s (congrArg nI (show _ = lxE P (skp P e) from by unfold lxE; rw [hcl]; rfl))⟩, (Ex.up (Ex.up (Ex.up hEk rfl) rfl) rfl)⟩)
          · skip
            refine r_aload_n hX dX2_step_46 rfl ?_
            refine r_getR hX dX2_step_47 fl_X2_37 (hA.1 105 (1, 0) rfl) rfl (hA.2.1 105 0 103 rfl) ?_
            refine r_getR hX dX2_step_50 fl_X2_68 (hA.1 103 (5, 0) rfl) rfl (hA.2.1 103 0 104 rfl) ?_
            refine r_aload_n hX dX2_step_53 rfl ?_
            refine r_getIV hX dX2_step_54 fl_X2_31 (hA.1 105 (1, 0) rfl) rfl (nI (skp P e)) h7k ?_
            refine r_baldN hX dX2_step_57 (hA.1 104 (11, 96) rfl) (by decide) (by omega) (sb (P.2 (skp P e))) (((hP.xc hEk)).2.2 (skp P e) (by omega)).1 ?_
            refine r_bipush hX (nI 32) dX2_step_58 rfl ?_
            refine r_icmp_ne hX dX2_step_60 (fun c109 => ?_) (fun c109 => absurd ((sb_eq (hP.2.2 _ (by omega)).2 (by decide)).mp c109) (fun z => hsk.2.2.2 ⟨by omega, z⟩))
            refine r_aload_n hX dX2_step_76 rfl ?_
            refine r_aload_n hX dX2_step_77 rfl ?_
            refine r_getIV hX dX2_step_78 fl_X2_31 (hA.1 105 (1, 0) rfl) rfl (nI (skp P e)) h7k ?_
            refine r_putI hX dX2_step_81 fl_X2_34 (hA.1 105 (1, 0) rfl) rfl rfl rfl rfl ?_
            refine r_aload_n hX dX2_step_84 rfl ?_
            refine r_aload_n hX dX2_step_85 rfl ?_
            refine r_aload_n hX dX2_step_86 rfl ?_
            refine r_getIV hX dX2_step_87 fl_X2_31 (hA.1 105 (1, 0) rfl) rfl (nI (skp P e)) (by rw [up_n (by omega)]; exact h7k) ?_
            refine r_callVF (As := [.int (nI (skp P e))]) (rest := [.ref (L.1 105)]) hX (c_X2_sortAt hA (up σk 105 8 (nI (skp P e))) P (hP.xc (Ex.up hEk rfl)) (skp P e) (by omega)) dX2_step_90 cb_X2_72 (hA.1 105 (1, 0) rfl) rfl rfl ⟨Nat.le_of_ble_eq_true rfl, Nat.le_of_ble_eq_true rfl⟩ ⟨Nat.le_of_ble_eq_true rfl, Nat.le_of_ble_eq_true rfl⟩ (Nat.le_of_ble_eq_true rfl) ?_
            rcases (show cl P (skp P e) = 0 ∨ cl P (skp P e) = 1 ∨ cl P (skp P e) = 2 ∨ cl P (skp P e) = 3 by have := cl_le P (skp P e); omega) with hcl | hcl | hcl | hcl <;> rw [hcl]
            · skip
              show At X L (up σk 105 8 (nI (skp P e))) 0 0 [(0, .ref (L.1 105)), (1, .int (nI e)), (2, .int (nI 0))] 93 [.int (nI 0), .ref (L.1 105)]
              refine r_putI hX dX2_step_93 fl_X2_28 (hA.1 105 (1, 0) rfl) rfl rfl rfl rfl ?_
              refine r_aload_n hX dX2_step_96 rfl ?_
              refine r_getIV hX dX2_step_97 fl_X2_28 (hA.1 105 (1, 0) rfl) rfl (nI 0) up_s ?_
              refine r_ifN_ne hX dX2_step_100 (by decide) (fun c110 => absurd c110 (by decide)) (fun c110 => ?_)
              exact r_return hX hQ dX2_step_103 ⟨Nat.le_of_ble_eq_true rfl, Nat.le_of_ble_eq_true rfl⟩ (PV.mk ⟨⟨(show (up (up σk 105 8 (nI (skp P e))) 105 6 (nI 0)) 105 6 = nI 0 from up_s).trans (congrArg nI (by unfold nxN; rw [if_neg (fun z => by have z := z.1; unfold wwB nx at z; simp only [hcl] at z; cases z)]; show 0 = srtN (cl P (skp P e)); rw [hcl]; rfl)), (by rw [up_n (by omega), up_n (by omega)]; exact h7k), Eq.trans (b := nI (skp P e)) (by rw [up_n (by omega), up_s]) (congrArg nI (show _ = lxE P (skp P e) from by unfold lxE; rw [if_pos hcl]))⟩, (Ex.up (Ex.up hEk rfl) rfl)⟩)
            · skip
              show At X L (up σk 105 8 (nI (skp P e))) 0 0 [(0, .ref (L.1 105)), (1, .int (nI e)), (2, .int (nI 0))] 93 [.int (nI 2), .ref (L.1 105)]
              have hKl : skp P e < P.1 := cl_in (by rw [hcl]; decide)
              obtain ⟨rn, hrn⟩ : ∃ r, r = rnn P 1 (skp P e) := ⟨_, rfl⟩
              obtain ⟨r1, r2, r3, r4⟩ := rnn_ok P 1 hsk.2.1
              have rp := rnn_pos hcl hKl
              rw [← hrn] at r1 r2 r3 r4 rp
              refine r_putI hX dX2_step_93 fl_X2_28 (hA.1 105 (1, 0) rfl) rfl rfl rfl rfl ?_
              refine r_aload_n hX dX2_step_96 rfl ?_
              refine r_getIV hX dX2_step_97 fl_X2_28 (hA.1 105 (1, 0) rfl) rfl (nI 2) up_s ?_
              refine r_ifN_ne hX dX2_step_100 (by decide) (fun c111 => ?_) (fun c111 => absurd c111 (by decide))
              refine r_aload_n hX dX2_step_104 rfl ?_
              refine r_dup hX dX2_step_105 rfl ?_
              refine r_getIV hX dX2_step_106 fl_X2_34 (hA.1 105 (1, 0) rfl) rfl (nI (skp P e)) (by rw [up_n (by omega), up_s]) ?_
              refine r_iconst hX (nI 1) dX2_step_109 rfl ?_
              refine r_iaddN hX dX2_step_110 ?_
              refine r_putI hX dX2_step_111 fl_X2_34 (hA.1 105 (1, 0) rfl) rfl rfl rfl rfl ?_
              have P112 : ∀ j, j ≤ rn - (skp P e + 1) → ∀ (σj : Me) (h7j : σj 105 7 = nI (skp P e)) (h6j : σj 105 6 = nI 2) (h8j : σj 105 8 = nI (skp P e + 1 + j)) (hEj : Ex pXc σ σj), At X L σj 0 0 [(0, .ref (L.1 105)), (1, .int (nI e)), (2, .int (nI 0))] 114 [] := by
                refine loopUp (rn - (skp P e + 1)) ?_ ?_
                · skip
                  intro σj h7j h6j h8j hEj
                  rw [show skp P e + 1 + (rn - (skp P e + 1)) = rn by omega] at h8j
                  refine r_aload_n hX dX2_step_114 rfl ?_
                  refine r_getIV hX dX2_step_115 fl_X2_28 (hA.1 105 (1, 0) rfl) rfl (nI 2) h6j ?_
                  refine r_iconst hX (nI 1) dX2_step_118 rfl ?_
                  refine r_icmpN_eq hX dX2_step_119 (by decide) (by decide) (fun c113 => absurd c113 (by decide)) (fun c113 => ?_)
                  refine r_aload_n hX dX2_step_122 rfl ?_
                  refine r_getIV hX dX2_step_123 fl_X2_34 (hA.1 105 (1, 0) rfl) rfl (nI rn) h8j ?_
                  refine r_aload_n hX dX2_step_126 rfl ?_
                  refine r_getR hX dX2_step_127 fl_X2_37 (hA.1 105 (1, 0) rfl) rfl (hA.2.1 105 0 103 rfl) ?_
                  refine r_getIV hX dX2_step_130 fl_X2_63 (hA.1 103 (5, 0) rfl) rfl (nI P.1) ((hP.xc hEj)).1 ?_
                  refine r_icmpN_ge hX dX2_step_133 (by omega) (by omega) (fun c114 => ?_) (fun c114 => ?_)
                  · skip
                    refine r_aload_n hX dX2_step_164 rfl ?_
                    refine r_getIV hX dX2_step_165 fl_X2_28 (hA.1 105 (1, 0) rfl) rfl (nI 2) h6j ?_
                    refine r_iconst hX (nI 1) dX2_step_168 rfl ?_
                    refine r_icmpN_eq hX dX2_step_169 (by decide) (by decide) (fun c115 => absurd c115 (by decide)) (fun c115 => ?_)
                    refine r_iload_n hX dX2_step_172 rfl ?_
                    refine r_ifN_eq hX dX2_step_173 (by decide) (fun c116 => ?_) (fun c116 => absurd c116 (by decide))
                    exact r_return hX hQ dX2_step_189 ⟨Nat.le_of_ble_eq_true rfl, Nat.le_of_ble_eq_true rfl⟩ (PV.mk ⟨⟨(show σj 105 6 = nI 2 from h6j).trans (congrArg nI (by unfold nxN; rw [if_neg (fun z => by have z := z.2; change (ww && decide (skp P e = e)) = true at z; rw [show ww = false from hwt] at z; cases z)]; show 2 = srtN (cl P (skp P e)); rw [hcl]; rfl)), h7j, Eq.trans (b := nI rn) h8j (congrArg nI (show _ = lxE P (skp P e) from by unfold lxE; rw [hcl]; exact hrn))⟩, hEj⟩)
                  · skip
                    refine r_aload_n hX dX2_step_136 rfl ?_
                    refine r_aload_n hX dX2_step_137 rfl ?_
                    refine r_getIV hX dX2_step_138 fl_X2_34 (hA.1 105 (1, 0) rfl) rfl (nI rn) h8j ?_
                    refine r_callVF (As := [.int (nI rn)]) (rest := []) hX (c_X2_sortAt hA σj P (hP.xc hEj) rn (by omega)) dX2_step_141 cb_X2_72 (hA.1 105 (1, 0) rfl) rfl rfl ⟨Nat.le_of_ble_eq_true rfl, Nat.le_of_ble_eq_true rfl⟩ ⟨Nat.le_of_ble_eq_true rfl, Nat.le_of_ble_eq_true rfl⟩ (Nat.le_of_ble_eq_true rfl) ?_
                    refine r_aload_n hX dX2_step_144 rfl ?_
                    refine r_getIV hX dX2_step_145 fl_X2_28 (hA.1 105 (1, 0) rfl) rfl (nI 2) h6j ?_
                    refine r_icmpN_ne hX dX2_step_148 (by first | omega | exact Nat.lt_of_le_of_lt (srt_le _) (by decide)) (by decide) (fun c117 => ?_) (fun c117 => absurd c117 (fun z => r4 ⟨by omega, by have q := srt_inj (cl_le P rn) (by decide) (show srtN (cl P rn) = srtN 1 from z); unfold cl at q; rw [if_pos (by omega)] at q; exact q⟩))
                    refine r_aload_n hX dX2_step_164 rfl ?_
                    refine r_getIV hX dX2_step_165 fl_X2_28 (hA.1 105 (1, 0) rfl) rfl (nI 2) h6j ?_
                    refine r_iconst hX (nI 1) dX2_step_168 rfl ?_
                    refine r_icmpN_eq hX dX2_step_169 (by decide) (by decide) (fun c118 => absurd c118 (by decide)) (fun c118 => ?_)
                    refine r_iload_n hX dX2_step_172 rfl ?_
                    refine r_ifN_eq hX dX2_step_173 (by decide) (fun c119 => ?_) (fun c119 => absurd c119 (by decide))
                    exact r_return hX hQ dX2_step_189 ⟨Nat.le_of_ble_eq_true rfl, Nat.le_of_ble_eq_true rfl⟩ (PV.mk ⟨⟨(show σj 105 6 = nI 2 from h6j).trans (congrArg nI (by unfold nxN; rw [if_neg (fun z => by have z := z.2; change (ww && decide (skp P e = e)) = true at z; rw [show ww = false from hwt] at z; cases z)]; show 2 = srtN (cl P (skp P e)); rw [hcl]; rfl)), h7j, Eq.trans (b := nI rn) h8j (congrArg nI (show _ = lxE P (skp P e) from by unfold lxE; rw [hcl]; exact hrn))⟩, hEj⟩)
                · skip
                  intro j hj ih120 σj h7j h6j h8j hEj
                  refine r_aload_n hX dX2_step_114 rfl ?_
                  refine r_getIV hX dX2_step_115 fl_X2_28 (hA.1 105 (1, 0) rfl) rfl (nI 2) h6j ?_
                  refine r_iconst hX (nI 1) dX2_step_118 rfl ?_
                  refine r_icmpN_eq hX dX2_step_119 (by decide) (by decide) (fun c121 => absurd c121 (by decide)) (fun c121 => ?_)
                  refine r_aload_n hX dX2_step_122 rfl ?_
                  refine r_getIV hX dX2_step_123 fl_X2_34 (hA.1 105 (1, 0) rfl) rfl (nI ((skp P e) + 1 + j)) h8j ?_
                  refine r_aload_n hX dX2_step_126 rfl ?_
                  refine r_getR hX dX2_step_127 fl_X2_37 (hA.1 105 (1, 0) rfl) rfl (hA.2.1 105 0 103 rfl) ?_
                  refine r_getIV hX dX2_step_130 fl_X2_63 (hA.1 103 (5, 0) rfl) rfl (nI P.1) ((hP.xc hEj)).1 ?_
                  refine r_icmpN_ge hX dX2_step_133 (by omega) (by omega) (fun c122 => absurd c122 (by omega)) (fun c122 => ?_)
                  refine r_aload_n hX dX2_step_136 rfl ?_
                  refine r_aload_n hX dX2_step_137 rfl ?_
                  refine r_getIV hX dX2_step_138 fl_X2_34 (hA.1 105 (1, 0) rfl) rfl (nI ((skp P e) + 1 + j)) h8j ?_
                  refine r_callVF (As := [.int (nI ((skp P e) + 1 + j))]) (rest := []) hX (c_X2_sortAt hA σj P (hP.xc hEj) ((skp P e) + 1 + j) (by omega)) dX2_step_141 cb_X2_72 (hA.1 105 (1, 0) rfl) rfl rfl ⟨Nat.le_of_ble_eq_true rfl, Nat.le_of_ble_eq_true rfl⟩ ⟨Nat.le_of_ble_eq_true rfl, Nat.le_of_ble_eq_true rfl⟩ (Nat.le_of_ble_eq_true rfl) ?_
                  refine r_aload_n hX dX2_step_144 rfl ?_
                  refine r_getIV hX dX2_step_145 fl_X2_28 (hA.1 105 (1, 0) rfl) rfl (nI 2) h6j ?_
                  refine r_icmpN_ne hX dX2_step_148 (by first | omega | exact Nat.lt_of_le_of_lt (srt_le _) (by decide)) (by decide) (fun c123 => absurd (show srtN (cl P (skp P e + 1 + j)) = 2 by have q := r3 (skp P e + 1 + j) (by omega) (by omega); unfold cl; rw [if_pos (by omega), q]; rfl) c123) (fun c123 => ?_)
                  refine r_aload_n hX dX2_step_151 rfl ?_
                  refine r_dup hX dX2_step_152 rfl ?_
                  refine r_getIV hX dX2_step_153 fl_X2_34 (hA.1 105 (1, 0) rfl) rfl (nI ((skp P e) + 1 + j)) h8j ?_
                  refine r_iconst hX (nI 1) dX2_step_156 rfl ?_
                  refine r_iaddN hX dX2_step_157 ?_
                  refine r_putI hX dX2_step_158 fl_X2_34 (hA.1 105 (1, 0) rfl) rfl rfl rfl rfl ?_
                  refine r_goto hX dX2_step_161 ?_
                  exact At.to (ih120 (up σj 105 8 (nI ((skp P e) + 1 + j + 1))) ((up_n (by omega)).trans h7j) ((up_n (by omega)).trans h6j) up_s (Ex.up hEj rfl)) rfl rfl rfl
              exact At.to (P112 0 (Nat.zero_le _) (up (up (up σk 105 8 (nI (skp P e))) 105 6 (nI 2)) 105 8 (nI ((skp P e) + 1))) (by rw [up_n (by omega), up_n (by omega), up_n (by omega)]; exact h7k) (by rw [up_n (by omega), up_s]) up_s (Ex.up (Ex.up (Ex.up hEk rfl) rfl) rfl)) rfl rfl rfl
            · skip
              show At X L (up σk 105 8 (nI (skp P e))) 0 0 [(0, .ref (L.1 105)), (1, .int (nI e)), (2, .int (nI 0))] 93 [.int (nI 3), .ref (L.1 105)]
              have hKl : skp P e < P.1 := cl_in (by rw [hcl]; decide)
              obtain ⟨rn, hrn⟩ : ∃ r, r = rnn P 2 (skp P e) := ⟨_, rfl⟩
              obtain ⟨r1, r2, r3, r4⟩ := rnn_ok P 2 hsk.2.1
              have rp := rnn_pos hcl hKl
              rw [← hrn] at r1 r2 r3 r4 rp
              refine r_putI hX dX2_step_93 fl_X2_28 (hA.1 105 (1, 0) rfl) rfl rfl rfl rfl ?_
              refine r_aload_n hX dX2_step_96 rfl ?_
              refine r_getIV hX dX2_step_97 fl_X2_28 (hA.1 105 (1, 0) rfl) rfl (nI 3) up_s ?_
              refine r_ifN_ne hX dX2_step_100 (by decide) (fun c124 => ?_) (fun c124 => absurd c124 (by decide))
              refine r_aload_n hX dX2_step_104 rfl ?_
              refine r_dup hX dX2_step_105 rfl ?_
              refine r_getIV hX dX2_step_106 fl_X2_34 (hA.1 105 (1, 0) rfl) rfl (nI (skp P e)) (by rw [up_n (by omega), up_s]) ?_
              refine r_iconst hX (nI 1) dX2_step_109 rfl ?_
              refine r_iaddN hX dX2_step_110 ?_
              refine r_putI hX dX2_step_111 fl_X2_34 (hA.1 105 (1, 0) rfl) rfl rfl rfl rfl ?_
              have P125 : ∀ j, j ≤ rn - (skp P e + 1) → ∀ (σj : Me) (h7j : σj 105 7 = nI (skp P e)) (h6j : σj 105 6 = nI 3) (h8j : σj 105 8 = nI (skp P e + 1 + j)) (hEj : Ex pXc σ σj), At X L σj 0 0 [(0, .ref (L.1 105)), (1, .int (nI e)), (2, .int (nI 0))] 114 [] := by
                refine loopUp (rn - (skp P e + 1)) ?_ ?_
                · skip
                  intro σj h7j h6j h8j hEj
                  rw [show skp P e + 1 + (rn - (skp P e + 1)) = rn by omega] at h8j
                  refine r_aload_n hX dX2_step_114 rfl ?_
                  refine r_getIV hX dX2_step_115 fl_X2_28 (hA.1 105 (1, 0) rfl) rfl (nI 3) h6j ?_
                  refine r_iconst hX (nI 1) dX2_step_118 rfl ?_
                  refine r_icmpN_eq hX dX2_step_119 (by decide) (by decide) (fun c126 => absurd c126 (by decide)) (fun c126 => ?_)
                  refine r_aload_n hX dX2_step_122 rfl ?_
                  refine r_getIV hX dX2_step_123 fl_X2_34 (hA.1 105 (1, 0) rfl) rfl (nI rn) h8j ?_
                  refine r_aload_n hX dX2_step_126 rfl ?_
                  refine r_getR hX dX2_step_127 fl_X2_37 (hA.1 105 (1, 0) rfl) rfl (hA.2.1 105 0 103 rfl) ?_
                  refine r_getIV hX dX2_step_130 fl_X2_63 (hA.1 103 (5, 0) rfl) rfl (nI P.1) ((hP.xc hEj)).1 ?_
                  refine r_icmpN_ge hX dX2_step_133 (by omega) (by omega) (fun c127 => ?_) (fun c127 => ?_)
                  · skip
                    refine r_aload_n hX dX2_step_164 rfl ?_
                    refine r_getIV hX dX2_step_165 fl_X2_28 (hA.1 105 (1, 0) rfl) rfl (nI 3) h6j ?_
                    refine r_iconst hX (nI 1) dX2_step_168 rfl ?_
                    refine r_icmpN_eq hX dX2_step_169 (by decide) (by decide) (fun c128 => absurd c128 (by decide)) (fun c128 => ?_)
                    refine r_iload_n hX dX2_step_172 rfl ?_
                    refine r_ifN_eq hX dX2_step_173 (by decide) (fun c129 => ?_) (fun c129 => absurd c129 (by decide))
                    exact r_return hX hQ dX2_step_189 ⟨Nat.le_of_ble_eq_true rfl, Nat.le_of_ble_eq_true rfl⟩ (PV.mk ⟨⟨(show σj 105 6 = nI 3 from h6j).trans (congrArg nI (by unfold nxN; rw [if_neg (fun z => by have z := z.2; change (ww && decide (skp P e = e)) = true at z; rw [show ww = false from hwt] at z; cases z)]; show 3 = srtN (cl P (skp P e)); rw [hcl]; rfl)), h7j, Eq.trans (b := nI rn) h8j (congrArg nI (show _ = lxE P (skp P e) from by unfold lxE; rw [hcl]; exact hrn))⟩, hEj⟩)
                  · skip
                    refine r_aload_n hX dX2_step_136 rfl ?_
                    refine r_aload_n hX dX2_step_137 rfl ?_
                    refine r_getIV hX dX2_step_138 fl_X2_34 (hA.1 105 (1, 0) rfl) rfl (nI rn) h8j ?_
                    refine r_callVF (As := [.int (nI rn)]) (rest := []) hX (c_X2_sortAt hA σj P (hP.xc hEj) rn (by omega)) dX2_step_141 cb_X2_72 (hA.1 105 (1, 0) rfl) rfl rfl ⟨Nat.le_of_ble_eq_true rfl, Nat.le_of_ble_eq_true rfl⟩ ⟨Nat.le_of_ble_eq_true rfl, Nat.le_of_ble_eq_true rfl⟩ (Nat.le_of_ble_eq_true rfl) ?_
                    refine r_aload_n hX dX2_step_144 rfl ?_
                    refine r_getIV hX dX2_step_145 fl_X2_28 (hA.1 105 (1, 0) rfl) rfl (nI 3) h6j ?_
                    refine r_icmpN_ne hX dX2_step_148 (by first | omega | exact Nat.lt_of_le_of_lt (srt_le _) (by decide)) (by decide) (fun c130 => ?_) (fun c130 => absurd c130 (fun z => r4 ⟨by omega, by have q := srt_inj (cl_le P rn) (by decide) (show srtN (cl P rn) = srtN 2 from z); unfold cl at q; rw [if_pos (by omega)] at q; exact q⟩))
                    refine r_aload_n hX dX2_step_164 rfl ?_
                    refine r_getIV hX dX2_step_165 fl_X2_28 (hA.1 105 (1, 0) rfl) rfl (nI 3) h6j ?_
                    refine r_iconst hX (nI 1) dX2_step_168 rfl ?_
                    refine r_icmpN_eq hX dX2_step_169 (by decide) (by decide) (fun c131 => absurd c131 (by decide)) (fun c131 => ?_)
                    refine r_iload_n hX dX2_step_172 rfl ?_
                    refine r_ifN_eq hX dX2_step_173 (by decide) (fun c132 => ?_) (fun c132 => absurd c132 (by decide))
                    exact r_return hX hQ dX2_step_189 ⟨Nat.le_of_ble_eq_true rfl, Nat.le_of_ble_eq_true rfl⟩ (PV.mk ⟨⟨(show σj 105 6 = nI 3 from h6j).trans (congrArg nI (by unfold nxN; rw [if_neg (fun z => by have z := z.2; change (ww && decide (skp P e = e)) = true at z; rw [show ww = false from hwt] at z; cases z)]; show 3 = srtN (cl P (skp P e)); rw [hcl]; rfl)), h7j, Eq.trans (b := nI rn) h8j (congrArg nI (show _ = lxE P (skp P e) from by unfold lxE; rw [hcl]; exact hrn))⟩, hEj⟩)
                · skip
                  intro j hj ih133 σj h7j h6j h8j hEj
                  refine r_aload_n hX dX2_step_114 rfl ?_
                  refine r_getIV hX dX2_step_115 fl_X2_28 (hA.1 105 (1, 0) rfl) rfl (nI 3) h6j ?_
                  refine r_iconst hX (nI 1) dX2_step_118 rfl ?_
                  refine r_icmpN_eq hX dX2_step_119 (by decide) (by decide) (fun c134 => absurd c134 (by decide)) (fun c134 => ?_)
                  refine r_aload_n hX dX2_step_122 rfl ?_
                  refine r_getIV hX dX2_step_123 fl_X2_34 (hA.1 105 (1, 0) rfl) rfl (nI ((skp P e) + 1 + j)) h8j ?_
                  refine r_aload_n hX dX2_step_126 rfl ?_
                  refine r_getR hX dX2_step_127 fl_X2_37 (hA.1 105 (1, 0) rfl) rfl (hA.2.1 105 0 103 rfl) ?_
                  refine r_getIV hX dX2_step_130 fl_X2_63 (hA.1 103 (5, 0) rfl) rfl (nI P.1) ((hP.xc hEj)).1 ?_
                  refine r_icmpN_ge hX dX2_step_133 (by omega) (by omega) (fun c135 => absurd c135 (by omega)) (fun c135 => ?_)
                  refine r_aload_n hX dX2_step_136 rfl ?_
                  refine r_aload_n hX dX2_step_137 rfl ?_
                  refine r_getIV hX dX2_step_138 fl_X2_34 (hA.1 105 (1, 0) rfl) rfl (nI ((skp P e) + 1 + j)) h8j ?_
                  refine r_callVF (As := [.int (nI ((skp P e) + 1 + j))]) (rest := []) hX (c_X2_sortAt hA σj P (hP.xc hEj) ((skp P e) + 1 + j) (by omega)) dX2_step_141 cb_X2_72 (hA.1 105 (1, 0) rfl) rfl rfl ⟨Nat.le_of_ble_eq_true rfl, Nat.le_of_ble_eq_true rfl⟩ ⟨Nat.le_of_ble_eq_true rfl, Nat.le_of_ble_eq_true rfl⟩ (Nat.le_of_ble_eq_true rfl) ?_
                  refine r_aload_n hX dX2_step_144 rfl ?_
                  refine r_getIV hX dX2_step_145 fl_X2_28 (hA.1 105 (1, 0) rfl) rfl (nI 3) h6j ?_
                  refine r_icmpN_ne hX dX2_step_148 (by first | omega | exact Nat.lt_of_le_of_lt (srt_le _) (by decide)) (by decide) (fun c136 => absurd (show srtN (cl P (skp P e + 1 + j)) = 3 by have q := r3 (skp P e + 1 + j) (by omega) (by omega); unfold cl; rw [if_pos (by omega), q]; rfl) c136) (fun c136 => ?_)
                  refine r_aload_n hX dX2_step_151 rfl ?_
                  refine r_dup hX dX2_step_152 rfl ?_
                  refine r_getIV hX dX2_step_153 fl_X2_34 (hA.1 105 (1, 0) rfl) rfl (nI ((skp P e) + 1 + j)) h8j ?_
                  refine r_iconst hX (nI 1) dX2_step_156 rfl ?_
                  refine r_iaddN hX dX2_step_157 ?_
                  refine r_putI hX dX2_step_158 fl_X2_34 (hA.1 105 (1, 0) rfl) rfl rfl rfl rfl ?_
                  refine r_goto hX dX2_step_161 ?_
                  exact At.to (ih133 (up σj 105 8 (nI ((skp P e) + 1 + j + 1))) ((up_n (by omega)).trans h7j) ((up_n (by omega)).trans h6j) up_s (Ex.up hEj rfl)) rfl rfl rfl
              exact At.to (P125 0 (Nat.zero_le _) (up (up (up σk 105 8 (nI (skp P e))) 105 6 (nI 3)) 105 8 (nI ((skp P e) + 1))) (by rw [up_n (by omega), up_n (by omega), up_n (by omega)]; exact h7k) (by rw [up_n (by omega), up_s]) up_s (Ex.up (Ex.up (Ex.up hEk rfl) rfl) rfl)) rfl rfl rfl
            · skip
              show At X L (up σk 105 8 (nI (skp P e))) 0 0 [(0, .ref (L.1 105)), (1, .int (nI e)), (2, .int (nI 0))] 93 [.int (nI 1), .ref (L.1 105)]
              have hKl : skp P e < P.1 := cl_in (by rw [hcl]; decide)
              refine r_putI hX dX2_step_93 fl_X2_28 (hA.1 105 (1, 0) rfl) rfl rfl rfl rfl ?_
              refine r_aload_n hX dX2_step_96 rfl ?_
              refine r_getIV hX dX2_step_97 fl_X2_28 (hA.1 105 (1, 0) rfl) rfl (nI 1) up_s ?_
              refine r_ifN_ne hX dX2_step_100 (by decide) (fun c137 => ?_) (fun c137 => absurd c137 (by decide))
              refine r_aload_n hX dX2_step_104 rfl ?_
              refine r_dup hX dX2_step_105 rfl ?_
              refine r_getIV hX dX2_step_106 fl_X2_34 (hA.1 105 (1, 0) rfl) rfl (nI (skp P e)) (by rw [up_n (by omega), up_s]) ?_
              refine r_iconst hX (nI 1) dX2_step_109 rfl ?_
              refine r_iaddN hX dX2_step_110 ?_
              refine r_putI hX dX2_step_111 fl_X2_34 (hA.1 105 (1, 0) rfl) rfl rfl rfl rfl ?_
              refine r_aload_n hX dX2_step_114 rfl ?_
              refine r_getIV hX dX2_step_115 fl_X2_28 (hA.1 105 (1, 0) rfl) rfl (nI 1) (by rw [up_n (by omega), up_s]) ?_
              refine r_iconst hX (nI 1) dX2_step_118 rfl ?_
              refine r_icmpN_eq hX dX2_step_119 (by decide) (by decide) (fun c138 => ?_) (fun c138 => absurd c138 (by decide))
              refine r_aload_n hX dX2_step_164 rfl ?_
              refine r_getIV hX dX2_step_165 fl_X2_28 (hA.1 105 (1, 0) rfl) rfl (nI 1) (by rw [up_n (by omega), up_s]) ?_
              refine r_iconst hX (nI 1) dX2_step_168 rfl ?_
              refine r_icmpN_eq hX dX2_step_169 (by decide) (by decide) (fun c139 => ?_) (fun c139 => absurd c139 (by decide))
              exact r_return hX hQ dX2_step_189 ⟨Nat.le_of_ble_eq_true rfl, Nat.le_of_ble_eq_true rfl⟩ (PV.mk ⟨⟨(show (up (up (up σk 105 8 (nI (skp P e))) 105 6 (nI 1)) 105 8 (nI ((skp P e) + 1))) 105 6 = nI 1 from (by rw [up_n (by omega), up_s])).trans (congrArg nI (by unfold nxN; rw [if_neg (fun z => by have z := z.1; unfold wwB nx at z; simp only [hcl] at z; cases z)]; show 1 = srtN (cl P (skp P e)); rw [hcl]; rfl)), (by rw [up_n (by omega), up_n (by omega), up_n (by omega)]; exact h7k), Eq.trans (b := nI ((skp P e) + 1)) up_s (congrArg nI (show _ = lxE P (skp P e) from by unfold lxE; rw [hcl]; rfl))⟩, (Ex.up (Ex.up (Ex.up hEk rfl) rfl) rfl)⟩)
        · skip
          intro k hk ih140 σk h7k hEk
          refine r_aload_n hX dX2_step_32 rfl ?_
          refine r_getIV hX dX2_step_33 fl_X2_31 (hA.1 105 (1, 0) rfl) rfl (nI (e + k)) h7k ?_
          refine r_aload_n hX dX2_step_36 rfl ?_
          refine r_getR hX dX2_step_37 fl_X2_37 (hA.1 105 (1, 0) rfl) rfl (hA.2.1 105 0 103 rfl) ?_
          refine r_getIV hX dX2_step_40 fl_X2_63 (hA.1 103 (5, 0) rfl) rfl (nI P.1) ((hP.xc hEk)).1 ?_
          refine r_icmpN_ge hX dX2_step_43 (by omega) (by omega) (fun c141 => absurd c141 (by omega)) (fun c141 => ?_)
          refine r_aload_n hX dX2_step_46 rfl ?_
          refine r_getR hX dX2_step_47 fl_X2_37 (hA.1 105 (1, 0) rfl) rfl (hA.2.1 105 0 103 rfl) ?_
          refine r_getR hX dX2_step_50 fl_X2_68 (hA.1 103 (5, 0) rfl) rfl (hA.2.1 103 0 104 rfl) ?_
          refine r_aload_n hX dX2_step_53 rfl ?_
          refine r_getIV hX dX2_step_54 fl_X2_31 (hA.1 105 (1, 0) rfl) rfl (nI (e + k)) h7k ?_
          refine r_baldN hX dX2_step_57 (hA.1 104 (11, 96) rfl) (by decide) (by omega) (sb (P.2 (e + k))) (((hP.xc hEk)).2.2 (e + k) (by omega)).1 ?_
          refine r_bipush hX (nI 32) dX2_step_58 rfl ?_
          refine r_icmp_ne hX dX2_step_60 (fun c142 => absurd ((sb_eq (hP.2.2 _ (by omega)).2 (by decide)).mpr (hsk.2.2.1 _ (by omega) (by omega))) c142) (fun c142 => ?_)
          refine r_aload_n hX dX2_step_63 rfl ?_
          refine r_dup hX dX2_step_64 rfl ?_
          refine r_getIV hX dX2_step_65 fl_X2_31 (hA.1 105 (1, 0) rfl) rfl (nI (e + k)) h7k ?_
          refine r_iconst hX (nI 1) dX2_step_68 rfl ?_
          refine r_iaddN hX dX2_step_69 ?_
          refine r_putI hX dX2_step_70 fl_X2_31 (hA.1 105 (1, 0) rfl) rfl rfl rfl rfl ?_
          refine r_goto hX dX2_step_73 ?_
          exact At.to (ih140 (up σk 105 7 (nI (e + k + 1))) up_s (Ex.up hEk rfl)) rfl rfl rfl
      exact At.to (P77 0 (Nat.zero_le _) (up σ 105 7 (nI e)) up_s (Ex.up (Ex.rf σ) rfl)) rfl rfl rfl
    · skip
      refine r_iconst hX (nI 1) dX2_step_21 rfl ?_
      refine r_goto hX dX2_step_22 ?_
      have hwt : ww = true := by rw [hww]; simp; omega
      refine r_istore_n hX [(0, .ref (L.1 105)), (1, .int (nI e)), (2, .int (nI 1))] dX2_step_26 hN2 rfl ?_
      refine r_aload_n hX dX2_step_27 rfl ?_
      refine r_iload_n hX dX2_step_28 rfl ?_
      refine r_putI hX dX2_step_29 fl_X2_31 (hA.1 105 (1, 0) rfl) rfl rfl rfl rfl ?_
      have P143 : ∀ k, k ≤ skp P e - e → ∀ (σk : Me) (h7k : σk 105 7 = nI (e + k)) (hEk : Ex pXc σ σk), At X L σk 0 0 [(0, .ref (L.1 105)), (1, .int (nI e)), (2, .int (nI 1))] 32 [] := by
        refine loopUp (skp P e - e) ?_ ?_
        · skip
          intro σk h7k hEk
          rw [show e + (skp P e - e) = skp P e by omega] at h7k
          refine r_aload_n hX dX2_step_32 rfl ?_
          refine r_getIV hX dX2_step_33 fl_X2_31 (hA.1 105 (1, 0) rfl) rfl (nI (skp P e)) h7k ?_
          refine r_aload_n hX dX2_step_36 rfl ?_
          refine r_getR hX dX2_step_37 fl_X2_37 (hA.1 105 (1, 0) rfl) rfl (hA.2.1 105 0 103 rfl) ?_
          refine r_getIV hX dX2_step_40 fl_X2_63 (hA.1 103 (5, 0) rfl) rfl (nI P.1) ((hP.xc hEk)).1 ?_
          refine r_icmpN_ge hX dX2_step_43 (by omega) (by omega) (fun c144 => ?_) (fun c144 => ?_)
          · skip
            refine r_aload_n hX dX2_step_76 rfl ?_
            refine r_aload_n hX dX2_step_77 rfl ?_
            refine r_getIV hX dX2_step_78 fl_X2_31 (hA.1 105 (1, 0) rfl) rfl (nI (skp P e)) h7k ?_
            refine r_putI hX dX2_step_81 fl_X2_34 (hA.1 105 (1, 0) rfl) rfl rfl rfl rfl ?_
            refine r_aload_n hX dX2_step_84 rfl ?_
            refine r_aload_n hX dX2_step_85 rfl ?_
            refine r_aload_n hX dX2_step_86 rfl ?_
            refine r_getIV hX dX2_step_87 fl_X2_31 (hA.1 105 (1, 0) rfl) rfl (nI (skp P e)) (by rw [up_n (by omega)]; exact h7k) ?_
            refine r_callVF (As := [.int (nI (skp P e))]) (rest := [.ref (L.1 105)]) hX (c_X2_sortAt hA (up σk 105 8 (nI (skp P e))) P (hP.xc (Ex.up hEk rfl)) (skp P e) (by omega)) dX2_step_90 cb_X2_72 (hA.1 105 (1, 0) rfl) rfl rfl ⟨Nat.le_of_ble_eq_true rfl, Nat.le_of_ble_eq_true rfl⟩ ⟨Nat.le_of_ble_eq_true rfl, Nat.le_of_ble_eq_true rfl⟩ (Nat.le_of_ble_eq_true rfl) ?_
            rcases (show cl P (skp P e) = 0 ∨ cl P (skp P e) = 1 ∨ cl P (skp P e) = 2 ∨ cl P (skp P e) = 3 by have := cl_le P (skp P e); omega) with hcl | hcl | hcl | hcl <;> rw [hcl]
            · skip
              show At X L (up σk 105 8 (nI (skp P e))) 0 0 [(0, .ref (L.1 105)), (1, .int (nI e)), (2, .int (nI 1))] 93 [.int (nI 0), .ref (L.1 105)]
              refine r_putI hX dX2_step_93 fl_X2_28 (hA.1 105 (1, 0) rfl) rfl rfl rfl rfl ?_
              refine r_aload_n hX dX2_step_96 rfl ?_
              refine r_getIV hX dX2_step_97 fl_X2_28 (hA.1 105 (1, 0) rfl) rfl (nI 0) up_s ?_
              refine r_ifN_ne hX dX2_step_100 (by decide) (fun c145 => absurd c145 (by decide)) (fun c145 => ?_)
              exact r_return hX hQ dX2_step_103 ⟨Nat.le_of_ble_eq_true rfl, Nat.le_of_ble_eq_true rfl⟩ (PV.mk ⟨⟨(show (up (up σk 105 8 (nI (skp P e))) 105 6 (nI 0)) 105 6 = nI 0 from up_s).trans (congrArg nI (by unfold nxN; rw [if_neg (fun z => by have z := z.1; unfold wwB nx at z; simp only [hcl] at z; cases z)]; show 0 = srtN (cl P (skp P e)); rw [hcl]; rfl)), (by rw [up_n (by omega), up_n (by omega)]; exact h7k), Eq.trans (b := nI (skp P e)) (by rw [up_n (by omega), up_s]) (congrArg nI (show _ = lxE P (skp P e) from by unfold lxE; rw [if_pos hcl]))⟩, (Ex.up (Ex.up hEk rfl) rfl)⟩)
            · skip
              show At X L (up σk 105 8 (nI (skp P e))) 0 0 [(0, .ref (L.1 105)), (1, .int (nI e)), (2, .int (nI 1))] 93 [.int (nI 2), .ref (L.1 105)]
              have hKl : skp P e < P.1 := cl_in (by rw [hcl]; decide)
              obtain ⟨rn, hrn⟩ : ∃ r, r = rnn P 1 (skp P e) := ⟨_, rfl⟩
              obtain ⟨r1, r2, r3, r4⟩ := rnn_ok P 1 hsk.2.1
              have rp := rnn_pos hcl hKl
              rw [← hrn] at r1 r2 r3 r4 rp
              refine r_putI hX dX2_step_93 fl_X2_28 (hA.1 105 (1, 0) rfl) rfl rfl rfl rfl ?_
              refine r_aload_n hX dX2_step_96 rfl ?_
              refine r_getIV hX dX2_step_97 fl_X2_28 (hA.1 105 (1, 0) rfl) rfl (nI 2) up_s ?_
              refine r_ifN_ne hX dX2_step_100 (by decide) (fun c146 => ?_) (fun c146 => absurd c146 (by decide))
              refine r_aload_n hX dX2_step_104 rfl ?_
              refine r_dup hX dX2_step_105 rfl ?_
              refine r_getIV hX dX2_step_106 fl_X2_34 (hA.1 105 (1, 0) rfl) rfl (nI (skp P e)) (by rw [up_n (by omega), up_s]) ?_
              refine r_iconst hX (nI 1) dX2_step_109 rfl ?_
              refine r_iaddN hX dX2_step_110 ?_
              refine r_putI hX dX2_step_111 fl_X2_34 (hA.1 105 (1, 0) rfl) rfl rfl rfl rfl ?_
              have P147 : ∀ j, j ≤ rn - (skp P e + 1) → ∀ (σj : Me) (h7j : σj 105 7 = nI (skp P e)) (h6j : σj 105 6 = nI 2) (h8j : σj 105 8 = nI (skp P e + 1 + j)) (hEj : Ex pXc σ σj), At X L σj 0 0 [(0, .ref (L.1 105)), (1, .int (nI e)), (2, .int (nI 1))] 114 [] := by
                refine loopUp (rn - (skp P e + 1)) ?_ ?_
                · skip
                  intro σj h7j h6j h8j hEj
                  rw [show skp P e + 1 + (rn - (skp P e + 1)) = rn by omega] at h8j
                  refine r_aload_n hX dX2_step_114 rfl ?_
                  refine r_getIV hX dX2_step_115 fl_X2_28 (hA.1 105 (1, 0) rfl) rfl (nI 2) h6j ?_
                  refine r_iconst hX (nI 1) dX2_step_118 rfl ?_
                  refine r_icmpN_eq hX dX2_step_119 (by decide) (by decide) (fun c148 => absurd c148 (by decide)) (fun c148 => ?_)
                  refine r_aload_n hX dX2_step_122 rfl ?_
                  refine r_getIV hX dX2_step_123 fl_X2_34 (hA.1 105 (1, 0) rfl) rfl (nI rn) h8j ?_
                  refine r_aload_n hX dX2_step_126 rfl ?_
                  refine r_getR hX dX2_step_127 fl_X2_37 (hA.1 105 (1, 0) rfl) rfl (hA.2.1 105 0 103 rfl) ?_
                  refine r_getIV hX dX2_step_130 fl_X2_63 (hA.1 103 (5, 0) rfl) rfl (nI P.1) ((hP.xc hEj)).1 ?_
                  refine r_icmpN_ge hX dX2_step_133 (by omega) (by omega) (fun c149 => ?_) (fun c149 => ?_)
                  · skip
                    refine r_aload_n hX dX2_step_164 rfl ?_
                    refine r_getIV hX dX2_step_165 fl_X2_28 (hA.1 105 (1, 0) rfl) rfl (nI 2) h6j ?_
                    refine r_iconst hX (nI 1) dX2_step_168 rfl ?_
                    refine r_icmpN_eq hX dX2_step_169 (by decide) (by decide) (fun c150 => absurd c150 (by decide)) (fun c150 => ?_)
                    refine r_iload_n hX dX2_step_172 rfl ?_
                    refine r_ifN_eq hX dX2_step_173 (by decide) (fun c151 => absurd c151 (by decide)) (fun c151 => ?_)
                    refine r_aload_n hX dX2_step_176 rfl ?_
                    refine r_getIV hX dX2_step_177 fl_X2_31 (hA.1 105 (1, 0) rfl) rfl (nI (skp P e)) h7j ?_
                    refine r_iload_n hX dX2_step_180 rfl ?_
                    refine r_icmpN_ne hX dX2_step_181 (by omega) (by omega) (fun c152 => ?_) (fun c152 => ?_)
                    · skip
                      exact r_return hX hQ dX2_step_189 ⟨Nat.le_of_ble_eq_true rfl, Nat.le_of_ble_eq_true rfl⟩ (PV.mk ⟨⟨(show σj 105 6 = nI 2 from h6j).trans (congrArg nI (by unfold nxN; rw [if_neg (fun z => by have z := z.2; change (ww && decide (skp P e = e)) = true at z; rw [decide_eq_false (show ¬ skp P e = e from c152), Bool.and_false] at z; cases z)]; show 2 = srtN (cl P (skp P e)); rw [hcl]; rfl)), h7j, Eq.trans (b := nI rn) h8j (congrArg nI (show _ = lxE P (skp P e) from by unfold lxE; rw [hcl]; exact hrn))⟩, hEj⟩)
                    · skip
                      refine r_aload_n hX dX2_step_184 rfl ?_
                      refine r_iconst hX (nI 4) dX2_step_185 rfl ?_
                      refine r_putI hX dX2_step_186 fl_X2_28 (hA.1 105 (1, 0) rfl) rfl rfl rfl rfl ?_
                      exact r_return hX hQ dX2_step_189 ⟨Nat.le_of_ble_eq_true rfl, Nat.le_of_ble_eq_true rfl⟩ (PV.mk ⟨⟨(show (up σj 105 6 (nI 4)) 105 6 = nI 4 from up_s).trans (congrArg nI (by unfold nxN; rw [if_pos ⟨by unfold wwB nx; simp only [hcl]; rfl, by show (ww && decide (skp P e = e)) = true; rw [show ww = true from hwt, decide_eq_true (show skp P e = e from c152)]; rfl⟩])), (by rw [up_n (by omega)]; exact h7j), Eq.trans (b := nI rn) (by rw [up_n (by omega)]; exact h8j) (congrArg nI (show _ = lxE P (skp P e) from by unfold lxE; rw [hcl]; exact hrn))⟩, (Ex.up hEj rfl)⟩)
                  · skip
                    refine r_aload_n hX dX2_step_136 rfl ?_
                    refine r_aload_n hX dX2_step_137 rfl ?_
                    refine r_getIV hX dX2_step_138 fl_X2_34 (hA.1 105 (1, 0) rfl) rfl (nI rn) h8j ?_
                    refine r_callVF (As := [.int (nI rn)]) (rest := []) hX (c_X2_sortAt hA σj P (hP.xc hEj) rn (by omega)) dX2_step_141 cb_X2_72 (hA.1 105 (1, 0) rfl) rfl rfl ⟨Nat.le_of_ble_eq_true rfl, Nat.le_of_ble_eq_true rfl⟩ ⟨Nat.le_of_ble_eq_true rfl, Nat.le_of_ble_eq_true rfl⟩ (Nat.le_of_ble_eq_true rfl) ?_
                    refine r_aload_n hX dX2_step_144 rfl ?_
                    refine r_getIV hX dX2_step_145 fl_X2_28 (hA.1 105 (1, 0) rfl) rfl (nI 2) h6j ?_
                    refine r_icmpN_ne hX dX2_step_148 (by first | omega | exact Nat.lt_of_le_of_lt (srt_le _) (by decide)) (by decide) (fun c153 => ?_) (fun c153 => absurd c153 (fun z => r4 ⟨by omega, by have q := srt_inj (cl_le P rn) (by decide) (show srtN (cl P rn) = srtN 1 from z); unfold cl at q; rw [if_pos (by omega)] at q; exact q⟩))
                    refine r_aload_n hX dX2_step_164 rfl ?_
                    refine r_getIV hX dX2_step_165 fl_X2_28 (hA.1 105 (1, 0) rfl) rfl (nI 2) h6j ?_
                    refine r_iconst hX (nI 1) dX2_step_168 rfl ?_
                    refine r_icmpN_eq hX dX2_step_169 (by decide) (by decide) (fun c154 => absurd c154 (by decide)) (fun c154 => ?_)
                    refine r_iload_n hX dX2_step_172 rfl ?_
                    refine r_ifN_eq hX dX2_step_173 (by decide) (fun c155 => absurd c155 (by decide)) (fun c155 => ?_)
                    refine r_aload_n hX dX2_step_176 rfl ?_
                    refine r_getIV hX dX2_step_177 fl_X2_31 (hA.1 105 (1, 0) rfl) rfl (nI (skp P e)) h7j ?_
                    refine r_iload_n hX dX2_step_180 rfl ?_
                    refine r_icmpN_ne hX dX2_step_181 (by omega) (by omega) (fun c156 => ?_) (fun c156 => ?_)
                    · skip
                      exact r_return hX hQ dX2_step_189 ⟨Nat.le_of_ble_eq_true rfl, Nat.le_of_ble_eq_true rfl⟩ (PV.mk ⟨⟨(show σj 105 6 = nI 2 from h6j).trans (congrArg nI (by unfold nxN; rw [if_neg (fun z => by have z := z.2; change (ww && decide (skp P e = e)) = true at z; rw [decide_eq_false (show ¬ skp P e = e from c156), Bool.and_false] at z; cases z)]; show 2 = srtN (cl P (skp P e)); rw [hcl]; rfl)), h7j, Eq.trans (b := nI rn) h8j (congrArg nI (show _ = lxE P (skp P e) from by unfold lxE; rw [hcl]; exact hrn))⟩, hEj⟩)
                    · skip
                      refine r_aload_n hX dX2_step_184 rfl ?_
                      refine r_iconst hX (nI 4) dX2_step_185 rfl ?_
                      refine r_putI hX dX2_step_186 fl_X2_28 (hA.1 105 (1, 0) rfl) rfl rfl rfl rfl ?_
                      exact r_return hX hQ dX2_step_189 ⟨Nat.le_of_ble_eq_true rfl, Nat.le_of_ble_eq_true rfl⟩ (PV.mk ⟨⟨(show (up σj 105 6 (nI 4)) 105 6 = nI 4 from up_s).trans (congrArg nI (by unfold nxN; rw [if_pos ⟨by unfold wwB nx; simp only [hcl]; rfl, by show (ww && decide (skp P e = e)) = true; rw [show ww = true from hwt, decide_eq_true (show skp P e = e from c156)]; rfl⟩])), (by rw [up_n (by omega)]; exact h7j), Eq.trans (b := nI rn) (by rw [up_n (by omega)]; exact h8j) (congrArg nI (show _ = lxE P (skp P e) from by unfold lxE; rw [hcl]; exact hrn))⟩, (Ex.up hEj rfl)⟩)
                · skip
                  intro j hj ih157 σj h7j h6j h8j hEj
                  refine r_aload_n hX dX2_step_114 rfl ?_
                  refine r_getIV hX dX2_step_115 fl_X2_28 (hA.1 105 (1, 0) rfl) rfl (nI 2) h6j ?_
                  refine r_iconst hX (nI 1) dX2_step_118 rfl ?_
                  refine r_icmpN_eq hX dX2_step_119 (by decide) (by decide) (fun c158 => absurd c158 (by decide)) (fun c158 => ?_)
                  refine r_aload_n hX dX2_step_122 rfl ?_
                  refine r_getIV hX dX2_step_123 fl_X2_34 (hA.1 105 (1, 0) rfl) rfl (nI ((skp P e) + 1 + j)) h8j ?_
                  refine r_aload_n hX dX2_step_126 rfl ?_
                  refine r_getR hX dX2_step_127 fl_X2_37 (hA.1 105 (1, 0) rfl) rfl (hA.2.1 105 0 103 rfl) ?_
                  refine r_getIV hX dX2_step_130 fl_X2_63 (hA.1 103 (5, 0) rfl) rfl (nI P.1) ((hP.xc hEj)).1 ?_
                  refine r_icmpN_ge hX dX2_step_133 (by omega) (by omega) (fun c159 => absurd c159 (by omega)) (fun c159 => ?_)
                  refine r_aload_n hX dX2_step_136 rfl ?_
                  refine r_aload_n hX dX2_step_137 rfl ?_
                  refine r_getIV hX dX2_step_138 fl_X2_34 (hA.1 105 (1, 0) rfl) rfl (nI ((skp P e) + 1 + j)) h8j ?_
                  refine r_callVF (As := [.int (nI ((skp P e) + 1 + j))]) (rest := []) hX (c_X2_sortAt hA σj P (hP.xc hEj) ((skp P e) + 1 + j) (by omega)) dX2_step_141 cb_X2_72 (hA.1 105 (1, 0) rfl) rfl rfl ⟨Nat.le_of_ble_eq_true rfl, Nat.le_of_ble_eq_true rfl⟩ ⟨Nat.le_of_ble_eq_true rfl, Nat.le_of_ble_eq_true rfl⟩ (Nat.le_of_ble_eq_true rfl) ?_
                  refine r_aload_n hX dX2_step_144 rfl ?_
                  refine r_getIV hX dX2_step_145 fl_X2_28 (hA.1 105 (1, 0) rfl) rfl (nI 2) h6j ?_
                  refine r_icmpN_ne hX dX2_step_148 (by first | omega | exact Nat.lt_of_le_of_lt (srt_le _) (by decide)) (by decide) (fun c160 => absurd (show srtN (cl P (skp P e + 1 + j)) = 2 by have q := r3 (skp P e + 1 + j) (by omega) (by omega); unfold cl; rw [if_pos (by omega), q]; rfl) c160) (fun c160 => ?_)
                  refine r_aload_n hX dX2_step_151 rfl ?_
                  refine r_dup hX dX2_step_152 rfl ?_
                  refine r_getIV hX dX2_step_153 fl_X2_34 (hA.1 105 (1, 0) rfl) rfl (nI ((skp P e) + 1 + j)) h8j ?_
                  refine r_iconst hX (nI 1) dX2_step_156 rfl ?_
                  refine r_iaddN hX dX2_step_157 ?_
                  refine r_putI hX dX2_step_158 fl_X2_34 (hA.1 105 (1, 0) rfl) rfl rfl rfl rfl ?_
                  refine r_goto hX dX2_step_161 ?_
                  exact At.to (ih157 (up σj 105 8 (nI ((skp P e) + 1 + j + 1))) ((up_n (by omega)).trans h7j) ((up_n (by omega)).trans h6j) up_s (Ex.up hEj rfl)) rfl rfl rfl
              exact At.to (P147 0 (Nat.zero_le _) (up (up (up σk 105 8 (nI (skp P e))) 105 6 (nI 2)) 105 8 (nI ((skp P e) + 1))) (by rw [up_n (by omega), up_n (by omega), up_n (by omega)]; exact h7k) (by rw [up_n (by omega), up_s]) up_s (Ex.up (Ex.up (Ex.up hEk rfl) rfl) rfl)) rfl rfl rfl
            · skip
              show At X L (up σk 105 8 (nI (skp P e))) 0 0 [(0, .ref (L.1 105)), (1, .int (nI e)), (2, .int (nI 1))] 93 [.int (nI 3), .ref (L.1 105)]
              have hKl : skp P e < P.1 := cl_in (by rw [hcl]; decide)
              obtain ⟨rn, hrn⟩ : ∃ r, r = rnn P 2 (skp P e) := ⟨_, rfl⟩
              obtain ⟨r1, r2, r3, r4⟩ := rnn_ok P 2 hsk.2.1
              have rp := rnn_pos hcl hKl
              rw [← hrn] at r1 r2 r3 r4 rp
              refine r_putI hX dX2_step_93 fl_X2_28 (hA.1 105 (1, 0) rfl) rfl rfl rfl rfl ?_
              refine r_aload_n hX dX2_step_96 rfl ?_
              refine r_getIV hX dX2_step_97 fl_X2_28 (hA.1 105 (1, 0) rfl) rfl (nI 3) up_s ?_
              refine r_ifN_ne hX dX2_step_100 (by decide) (fun c161 => ?_) (fun c161 => absurd c161 (by decide))
              refine r_aload_n hX dX2_step_104 rfl ?_
              refine r_dup hX dX2_step_105 rfl ?_
              refine r_getIV hX dX2_step_106 fl_X2_34 (hA.1 105 (1, 0) rfl) rfl (nI (skp P e)) (by rw [up_n (by omega), up_s]) ?_
              refine r_iconst hX (nI 1) dX2_step_109 rfl ?_
              refine r_iaddN hX dX2_step_110 ?_
              refine r_putI hX dX2_step_111 fl_X2_34 (hA.1 105 (1, 0) rfl) rfl rfl rfl rfl ?_
              have P162 : ∀ j, j ≤ rn - (skp P e + 1) → ∀ (σj : Me) (h7j : σj 105 7 = nI (skp P e)) (h6j : σj 105 6 = nI 3) (h8j : σj 105 8 = nI (skp P e + 1 + j)) (hEj : Ex pXc σ σj), At X L σj 0 0 [(0, .ref (L.1 105)), (1, .int (nI e)), (2, .int (nI 1))] 114 [] := by
                refine loopUp (rn - (skp P e + 1)) ?_ ?_
                · skip
                  intro σj h7j h6j h8j hEj
                  rw [show skp P e + 1 + (rn - (skp P e + 1)) = rn by omega] at h8j
                  refine r_aload_n hX dX2_step_114 rfl ?_
                  refine r_getIV hX dX2_step_115 fl_X2_28 (hA.1 105 (1, 0) rfl) rfl (nI 3) h6j ?_
                  refine r_iconst hX (nI 1) dX2_step_118 rfl ?_
                  refine r_icmpN_eq hX dX2_step_119 (by decide) (by decide) (fun c163 => absurd c163 (by decide)) (fun c163 => ?_)
                  refine r_aload_n hX dX2_step_122 rfl ?_
                  refine r_getIV hX dX2_step_123 fl_X2_34 (hA.1 105 (1, 0) rfl) rfl (nI rn) h8j ?_
                  refine r_aload_n hX dX2_step_126 rfl ?_
                  refine r_getR hX dX2_step_127 fl_X2_37 (hA.1 105 (1, 0) rfl) rfl (hA.2.1 105 0 103 rfl) ?_
                  refine r_getIV hX dX2_step_130 fl_X2_63 (hA.1 103 (5, 0) rfl) rfl (nI P.1) ((hP.xc hEj)).1 ?_
                  refine r_icmpN_ge hX dX2_step_133 (by omega) (by omega) (fun c164 => ?_) (fun c164 => ?_)
                  · skip
                    refine r_aload_n hX dX2_step_164 rfl ?_
                    refine r_getIV hX dX2_step_165 fl_X2_28 (hA.1 105 (1, 0) rfl) rfl (nI 3) h6j ?_
                    refine r_iconst hX (nI 1) dX2_step_168 rfl ?_
                    refine r_icmpN_eq hX dX2_step_169 (by decide) (by decide) (fun c165 => absurd c165 (by decide)) (fun c165 => ?_)
                    refine r_iload_n hX dX2_step_172 rfl ?_
                    refine r_ifN_eq hX dX2_step_173 (by decide) (fun c166 => absurd c166 (by decide)) (fun c166 => ?_)
                    refine r_aload_n hX dX2_step_176 rfl ?_
                    refine r_getIV hX dX2_step_177 fl_X2_31 (hA.1 105 (1, 0) rfl) rfl (nI (skp P e)) h7j ?_
                    refine r_iload_n hX dX2_step_180 rfl ?_
                    refine r_icmpN_ne hX dX2_step_181 (by omega) (by omega) (fun c167 => ?_) (fun c167 => ?_)
                    · skip
                      exact r_return hX hQ dX2_step_189 ⟨Nat.le_of_ble_eq_true rfl, Nat.le_of_ble_eq_true rfl⟩ (PV.mk ⟨⟨(show σj 105 6 = nI 3 from h6j).trans (congrArg nI (by unfold nxN; rw [if_neg (fun z => by have z := z.2; change (ww && decide (skp P e = e)) = true at z; rw [decide_eq_false (show ¬ skp P e = e from c167), Bool.and_false] at z; cases z)]; show 3 = srtN (cl P (skp P e)); rw [hcl]; rfl)), h7j, Eq.trans (b := nI rn) h8j (congrArg nI (show _ = lxE P (skp P e) from by unfold lxE; rw [hcl]; exact hrn))⟩, hEj⟩)
                    · skip
                      refine r_aload_n hX dX2_step_184 rfl ?_
                      refine r_iconst hX (nI 4) dX2_step_185 rfl ?_
                      refine r_putI hX dX2_step_186 fl_X2_28 (hA.1 105 (1, 0) rfl) rfl rfl rfl rfl ?_
                      exact r_return hX hQ dX2_step_189 ⟨Nat.le_of_ble_eq_true rfl, Nat.le_of_ble_eq_true rfl⟩ (PV.mk ⟨⟨(show (up σj 105 6 (nI 4)) 105 6 = nI 4 from up_s).trans (congrArg nI (by unfold nxN; rw [if_pos ⟨by unfold wwB nx; simp only [hcl]; rfl, by show (ww && decide (skp P e = e)) = true; rw [show ww = true from hwt, decide_eq_true (show skp P e = e from c167)]; rfl⟩])), (by rw [up_n (by omega)]; exact h7j), Eq.trans (b := nI rn) (by rw [up_n (by omega)]; exact h8j) (congrArg nI (show _ = lxE P (skp P e) from by unfold lxE; rw [hcl]; exact hrn))⟩, (Ex.up hEj rfl)⟩)
                  · skip
                    refine r_aload_n hX dX2_step_136 rfl ?_
                    refine r_aload_n hX dX2_step_137 rfl ?_
                    refine r_getIV hX dX2_step_138 fl_X2_34 (hA.1 105 (1, 0) rfl) rfl (nI rn) h8j ?_
                    refine r_callVF (As := [.int (nI rn)]) (rest := []) hX (c_X2_sortAt hA σj P (hP.xc hEj) rn (by omega)) dX2_step_141 cb_X2_72 (hA.1 105 (1, 0) rfl) rfl rfl ⟨Nat.le_of_ble_eq_true rfl, Nat.le_of_ble_eq_true rfl⟩ ⟨Nat.le_of_ble_eq_true rfl, Nat.le_of_ble_eq_true rfl⟩ (Nat.le_of_ble_eq_true rfl) ?_
                    refine r_aload_n hX dX2_step_144 rfl ?_
                    refine r_getIV hX dX2_step_145 fl_X2_28 (hA.1 105 (1, 0) rfl) rfl (nI 3) h6j ?_
                    refine r_icmpN_ne hX dX2_step_148 (by first | omega | exact Nat.lt_of_le_of_lt (srt_le _) (by decide)) (by decide) (fun c168 => ?_) (fun c168 => absurd c168 (fun z => r4 ⟨by omega, by have q := srt_inj (cl_le P rn) (by decide) (show srtN (cl P rn) = srtN 2 from z); unfold cl at q; rw [if_pos (by omega)] at q; exact q⟩))
                    refine r_aload_n hX dX2_step_164 rfl ?_
                    refine r_getIV hX dX2_step_165 fl_X2_28 (hA.1 105 (1, 0) rfl) rfl (nI 3) h6j ?_
                    refine r_iconst hX (nI 1) dX2_step_168 rfl ?_
                    refine r_icmpN_eq hX dX2_step_169 (by decide) (by decide) (fun c169 => absurd c169 (by decide)) (fun c169 => ?_)
                    refine r_iload_n hX dX2_step_172 rfl ?_
                    refine r_ifN_eq hX dX2_step_173 (by decide) (fun c170 => absurd c170 (by decide)) (fun c170 => ?_)
                    refine r_aload_n hX dX2_step_176 rfl ?_
                    refine r_getIV hX dX2_step_177 fl_X2_31 (hA.1 105 (1, 0) rfl) rfl (nI (skp P e)) h7j ?_
                    refine r_iload_n hX dX2_step_180 rfl ?_
                    refine r_icmpN_ne hX dX2_step_181 (by omega) (by omega) (fun c171 => ?_) (fun c171 => ?_)
                    · skip
                      exact r_return hX hQ dX2_step_189 ⟨Nat.le_of_ble_eq_true rfl, Nat.le_of_ble_eq_true rfl⟩ (PV.mk ⟨⟨(show σj 105 6 = nI 3 from h6j).trans (congrArg nI (by unfold nxN; rw [if_neg (fun z => by have z := z.2; change (ww && decide (skp P e = e)) = true at z; rw [decide_eq_false (show ¬ skp P e = e from c171), Bool.and_false] at z; cases z)]; show 3 = srtN (cl P (skp P e)); rw [hcl]; rfl)), h7j, Eq.trans (b := nI rn) h8j (congrArg nI (show _ = lxE P (skp P e) from by unfold lxE; rw [hcl]; exact hrn))⟩, hEj⟩)
                    · skip
                      refine r_aload_n hX dX2_step_184 rfl ?_
                      refine r_iconst hX (nI 4) dX2_step_185 rfl ?_
                      refine r_putI hX dX2_step_186 fl_X2_28 (hA.1 105 (1, 0) rfl) rfl rfl rfl rfl ?_
                      exact r_return hX hQ dX2_step_189 ⟨Nat.le_of_ble_eq_true rfl, Nat.le_of_ble_eq_true rfl⟩ (PV.mk ⟨⟨(show (up σj 105 6 (nI 4)) 105 6 = nI 4 from up_s).trans (congrArg nI (by unfold nxN; rw [if_pos ⟨by unfold wwB nx; simp only [hcl]; rfl, by show (ww && decide (skp P e = e)) = true; rw [show ww = true from hwt, decide_eq_true (show skp P e = e from c171)]; rfl⟩])), (by rw [up_n (by omega)]; exact h7j), Eq.trans (b := nI rn) (by rw [up_n (by omega)]; exact h8j) (congrArg nI (show _ = lxE P (skp P e) from by unfold lxE; rw [hcl]; exact hrn))⟩, (Ex.up hEj rfl)⟩)
                · skip
                  intro j hj ih172 σj h7j h6j h8j hEj
                  refine r_aload_n hX dX2_step_114 rfl ?_
                  refine r_getIV hX dX2_step_115 fl_X2_28 (hA.1 105 (1, 0) rfl) rfl (nI 3) h6j ?_
                  refine r_iconst hX (nI 1) dX2_step_118 rfl ?_
                  refine r_icmpN_eq hX dX2_step_119 (by decide) (by decide) (fun c173 => absurd c173 (by decide)) (fun c173 => ?_)
                  refine r_aload_n hX dX2_step_122 rfl ?_
                  refine r_getIV hX dX2_step_123 fl_X2_34 (hA.1 105 (1, 0) rfl) rfl (nI ((skp P e) + 1 + j)) h8j ?_
                  refine r_aload_n hX dX2_step_126 rfl ?_
                  refine r_getR hX dX2_step_127 fl_X2_37 (hA.1 105 (1, 0) rfl) rfl (hA.2.1 105 0 103 rfl) ?_
                  refine r_getIV hX dX2_step_130 fl_X2_63 (hA.1 103 (5, 0) rfl) rfl (nI P.1) ((hP.xc hEj)).1 ?_
                  refine r_icmpN_ge hX dX2_step_133 (by omega) (by omega) (fun c174 => absurd c174 (by omega)) (fun c174 => ?_)
                  refine r_aload_n hX dX2_step_136 rfl ?_
                  refine r_aload_n hX dX2_step_137 rfl ?_
                  refine r_getIV hX dX2_step_138 fl_X2_34 (hA.1 105 (1, 0) rfl) rfl (nI ((skp P e) + 1 + j)) h8j ?_
                  refine r_callVF (As := [.int (nI ((skp P e) + 1 + j))]) (rest := []) hX (c_X2_sortAt hA σj P (hP.xc hEj) ((skp P e) + 1 + j) (by omega)) dX2_step_141 cb_X2_72 (hA.1 105 (1, 0) rfl) rfl rfl ⟨Nat.le_of_ble_eq_true rfl, Nat.le_of_ble_eq_true rfl⟩ ⟨Nat.le_of_ble_eq_true rfl, Nat.le_of_ble_eq_true rfl⟩ (Nat.le_of_ble_eq_true rfl) ?_
                  refine r_aload_n hX dX2_step_144 rfl ?_
                  refine r_getIV hX dX2_step_145 fl_X2_28 (hA.1 105 (1, 0) rfl) rfl (nI 3) h6j ?_
                  refine r_icmpN_ne hX dX2_step_148 (by first | omega | exact Nat.lt_of_le_of_lt (srt_le _) (by decide)) (by decide) (fun c175 => absurd (show srtN (cl P (skp P e + 1 + j)) = 3 by have q := r3 (skp P e + 1 + j) (by omega) (by omega); unfold cl; rw [if_pos (by omega), q]; rfl) c175) (fun c175 => ?_)
                  refine r_aload_n hX dX2_step_151 rfl ?_
                  refine r_dup hX dX2_step_152 rfl ?_
                  refine r_getIV hX dX2_step_153 fl_X2_34 (hA.1 105 (1, 0) rfl) rfl (nI ((skp P e) + 1 + j)) h8j ?_
                  refine r_iconst hX (nI 1) dX2_step_156 rfl ?_
                  refine r_iaddN hX dX2_step_157 ?_
                  refine r_putI hX dX2_step_158 fl_X2_34 (hA.1 105 (1, 0) rfl) rfl rfl rfl rfl ?_
                  refine r_goto hX dX2_step_161 ?_
                  exact At.to (ih172 (up σj 105 8 (nI ((skp P e) + 1 + j + 1))) ((up_n (by omega)).trans h7j) ((up_n (by omega)).trans h6j) up_s (Ex.up hEj rfl)) rfl rfl rfl
              exact At.to (P162 0 (Nat.zero_le _) (up (up (up σk 105 8 (nI (skp P e))) 105 6 (nI 3)) 105 8 (nI ((skp P e) + 1))) (by rw [up_n (by omega), up_n (by omega), up_n (by omega)]; exact h7k) (by rw [up_n (by omega), up_s]) up_s (Ex.up (Ex.up (Ex.up hEk rfl) rfl) rfl)) rfl rfl rfl
            · skip
              show At X L (up σk 105 8 (nI (skp P e))) 0 0 [(0, .ref (L.1 105)), (1, .int (nI e)), (2, .int (nI 1))] 93 [.int (nI 1), .ref (L.1 105)]
              have hKl : skp P e < P.1 := cl_in (by rw [hcl]; decide)
              refine r_putI hX dX2_step_93 fl_X2_28 (hA.1 105 (1, 0) rfl) rfl rfl rfl rfl ?_
              refine r_aload_n hX dX2_step_96 rfl ?_
              refine r_getIV hX dX2_step_97 fl_X2_28 (hA.1 105 (1, 0) rfl) rfl (nI 1) up_s ?_
              refine r_ifN_ne hX dX2_step_100 (by decide) (fun c176 => ?_) (fun c176 => absurd c176 (by decide))
              refine r_aload_n hX dX2_step_104 rfl ?_
              refine r_dup hX dX2_step_105 rfl ?_
              refine r_getIV hX dX2_step_106 fl_X2_34 (hA.1 105 (1, 0) rfl) rfl (nI (skp P e)) (by rw [up_n (by omega), up_s]) ?_
              refine r_iconst hX (nI 1) dX2_step_109 rfl ?_
              refine r_iaddN hX dX2_step_110 ?_
              refine r_putI hX dX2_step_111 fl_X2_34 (hA.1 105 (1, 0) rfl) rfl rfl rfl rfl ?_
              refine r_aload_n hX dX2_step_114 rfl ?_
              refine r_getIV hX dX2_step_115 fl_X2_28 (hA.1 105 (1, 0) rfl) rfl (nI 1) (by rw [up_n (by omega), up_s]) ?_
              refine r_iconst hX (nI 1) dX2_step_118 rfl ?_
              refine r_icmpN_eq hX dX2_step_119 (by decide) (by decide) (fun c177 => ?_) (fun c177 => absurd c177 (by decide))
              refine r_aload_n hX dX2_step_164 rfl ?_
              refine r_getIV hX dX2_step_165 fl_X2_28 (hA.1 105 (1, 0) rfl) rfl (nI 1) (by rw [up_n (by omega), up_s]) ?_
              refine r_iconst hX (nI 1) dX2_step_168 rfl ?_
              refine r_icmpN_eq hX dX2_step_169 (by decide) (by decide) (fun c178 => ?_) (fun c178 => absurd c178 (by decide))
              exact r_return hX hQ dX2_step_189 ⟨Nat.le_of_ble_eq_true rfl, Nat.le_of_ble_eq_true rfl⟩ (PV.mk ⟨⟨(show (up (up (up σk 105 8 (nI (skp P e))) 105 6 (nI 1)) 105 8 (nI ((skp P e) + 1))) 105 6 = nI 1 from (by rw [up_n (by omega), up_s])).trans (congrArg nI (by unfold nxN; rw [if_neg (fun z => by have z := z.1; unfold wwB nx at z; simp only [hcl] at z; cases z)]; show 1 = srtN (cl P (skp P e)); rw [hcl]; rfl)), (by rw [up_n (by omega), up_n (by omega), up_n (by omega)]; exact h7k), Eq.trans (b := nI ((skp P e) + 1)) up_s (congrArg nI (show _ = lxE P (skp P e) from by unfold lxE; rw [hcl]; rfl))⟩, (Ex.up (Ex.up (Ex.up hEk rfl) rfl) rfl)⟩)
          · skip
            refine r_aload_n hX dX2_step_46 rfl ?_
            refine r_getR hX dX2_step_47 fl_X2_37 (hA.1 105 (1, 0) rfl) rfl (hA.2.1 105 0 103 rfl) ?_
            refine r_getR hX dX2_step_50 fl_X2_68 (hA.1 103 (5, 0) rfl) rfl (hA.2.1 103 0 104 rfl) ?_
            refine r_aload_n hX dX2_step_53 rfl ?_
            refine r_getIV hX dX2_step_54 fl_X2_31 (hA.1 105 (1, 0) rfl) rfl (nI (skp P e)) h7k ?_
            refine r_baldN hX dX2_step_57 (hA.1 104 (11, 96) rfl) (by decide) (by omega) (sb (P.2 (skp P e))) (((hP.xc hEk)).2.2 (skp P e) (by omega)).1 ?_
            refine r_bipush hX (nI 32) dX2_step_58 rfl ?_
            refine r_icmp_ne hX dX2_step_60 (fun c179 => ?_) (fun c179 => absurd ((sb_eq (hP.2.2 _ (by omega)).2 (by decide)).mp c179) (fun z => hsk.2.2.2 ⟨by omega, z⟩))
            refine r_aload_n hX dX2_step_76 rfl ?_
            refine r_aload_n hX dX2_step_77 rfl ?_
            refine r_getIV hX dX2_step_78 fl_X2_31 (hA.1 105 (1, 0) rfl) rfl (nI (skp P e)) h7k ?_
            refine r_putI hX dX2_step_81 fl_X2_34 (hA.1 105 (1, 0) rfl) rfl rfl rfl rfl ?_
            refine r_aload_n hX dX2_step_84 rfl ?_
            refine r_aload_n hX dX2_step_85 rfl ?_
            refine r_aload_n hX dX2_step_86 rfl ?_
            refine r_getIV hX dX2_step_87 fl_X2_31 (hA.1 105 (1, 0) rfl) rfl (nI (skp P e)) (by rw [up_n (by omega)]; exact h7k) ?_
            refine r_callVF (As := [.int (nI (skp P e))]) (rest := [.ref (L.1 105)]) hX (c_X2_sortAt hA (up σk 105 8 (nI (skp P e))) P (hP.xc (Ex.up hEk rfl)) (skp P e) (by omega)) dX2_step_90 cb_X2_72 (hA.1 105 (1, 0) rfl) rfl rfl ⟨Nat.le_of_ble_eq_true rfl, Nat.le_of_ble_eq_true rfl⟩ ⟨Nat.le_of_ble_eq_true rfl, Nat.le_of_ble_eq_true rfl⟩ (Nat.le_of_ble_eq_true rfl) ?_
            rcases (show cl P (skp P e) = 0 ∨ cl P (skp P e) = 1 ∨ cl P (skp P e) = 2 ∨ cl P (skp P e) = 3 by have := cl_le P (skp P e); omega) with hcl | hcl | hcl | hcl <;> rw [hcl]
            · skip
              show At X L (up σk 105 8 (nI (skp P e))) 0 0 [(0, .ref (L.1 105)), (1, .int (nI e)), (2, .int (nI 1))] 93 [.int (nI 0), .ref (L.1 105)]
              refine r_putI hX dX2_step_93 fl_X2_28 (hA.1 105 (1, 0) rfl) rfl rfl rfl rfl ?_
              refine r_aload_n hX dX2_step_96 rfl ?_
              refine r_getIV hX dX2_step_97 fl_X2_28 (hA.1 105 (1, 0) rfl) rfl (nI 0) up_s ?_
              refine r_ifN_ne hX dX2_step_100 (by decide) (fun c180 => absurd c180 (by decide)) (fun c180 => ?_)
              exact r_return hX hQ dX2_step_103 ⟨Nat.le_of_ble_eq_true rfl, Nat.le_of_ble_eq_true rfl⟩ (PV.mk ⟨⟨(show (up (up σk 105 8 (nI (skp P e))) 105 6 (nI 0)) 105 6 = nI 0 from up_s).trans (congrArg nI (by unfold nxN; rw [if_neg (fun z => by have z := z.1; unfold wwB nx at z; simp only [hcl] at z; cases z)]; show 0 = srtN (cl P (skp P e)); rw [hcl]; rfl)), (by rw [up_n (by omega), up_n (by omega)]; exact h7k), Eq.trans (b := nI (skp P e)) (by rw [up_n (by omega), up_s]) (congrArg nI (show _ = lxE P (skp P e) from by unfold lxE; rw [if_pos hcl]))⟩, (Ex.up (Ex.up hEk rfl) rfl)⟩)
            · skip
              show At X L (up σk 105 8 (nI (skp P e))) 0 0 [(0, .ref (L.1 105)), (1, .int (nI e)), (2, .int (nI 1))] 93 [.int (nI 2), .ref (L.1 105)]
              have hKl : skp P e < P.1 := cl_in (by rw [hcl]; decide)
              obtain ⟨rn, hrn⟩ : ∃ r, r = rnn P 1 (skp P e) := ⟨_, rfl⟩
              obtain ⟨r1, r2, r3, r4⟩ := rnn_ok P 1 hsk.2.1
              have rp := rnn_pos hcl hKl
              rw [← hrn] at r1 r2 r3 r4 rp
              refine r_putI hX dX2_step_93 fl_X2_28 (hA.1 105 (1, 0) rfl) rfl rfl rfl rfl ?_
              refine r_aload_n hX dX2_step_96 rfl ?_
              refine r_getIV hX dX2_step_97 fl_X2_28 (hA.1 105 (1, 0) rfl) rfl (nI 2) up_s ?_
              refine r_ifN_ne hX dX2_step_100 (by decide) (fun c181 => ?_) (fun c181 => absurd c181 (by decide))
              refine r_aload_n hX dX2_step_104 rfl ?_
              refine r_dup hX dX2_step_105 rfl ?_
              refine r_getIV hX dX2_step_106 fl_X2_34 (hA.1 105 (1, 0) rfl) rfl (nI (skp P e)) (by rw [up_n (by omega), up_s]) ?_
              refine r_iconst hX (nI 1) dX2_step_109 rfl ?_
              refine r_iaddN hX dX2_step_110 ?_
              refine r_putI hX dX2_step_111 fl_X2_34 (hA.1 105 (1, 0) rfl) rfl rfl rfl rfl ?_
              have P182 : ∀ j, j ≤ rn - (skp P e + 1) → ∀ (σj : Me) (h7j : σj 105 7 = nI (skp P e)) (h6j : σj 105 6 = nI 2) (h8j : σj 105 8 = nI (skp P e + 1 + j)) (hEj : Ex pXc σ σj), At X L σj 0 0 [(0, .ref (L.1 105)), (1, .int (nI e)), (2, .int (nI 1))] 114 [] := by
                refine loopUp (rn - (skp P e + 1)) ?_ ?_
                · skip
                  intro σj h7j h6j h8j hEj
                  rw [show skp P e + 1 + (rn - (skp P e + 1)) = rn by omega] at h8j
                  refine r_aload_n hX dX2_step_114 rfl ?_
                  refine r_getIV hX dX2_step_115 fl_X2_28 (hA.1 105 (1, 0) rfl) rfl (nI 2) h6j ?_
                  refine r_iconst hX (nI 1) dX2_step_118 rfl ?_
                  refine r_icmpN_eq hX dX2_step_119 (by decide) (by decide) (fun c183 => absurd c183 (by decide)) (fun c183 => ?_)
                  refine r_aload_n hX dX2_step_122 rfl ?_
                  refine r_getIV hX dX2_step_123 fl_X2_34 (hA.1 105 (1, 0) rfl) rfl (nI rn) h8j ?_
                  refine r_aload_n hX dX2_step_126 rfl ?_
                  refine r_getR hX dX2_step_127 fl_X2_37 (hA.1 105 (1, 0) rfl) rfl (hA.2.1 105 0 103 rfl) ?_
                  refine r_getIV hX dX2_step_130 fl_X2_63 (hA.1 103 (5, 0) rfl) rfl (nI P.1) ((hP.xc hEj)).1 ?_
                  refine r_icmpN_ge hX dX2_step_133 (by omega) (by omega) (fun c184 => ?_) (fun c184 => ?_)
                  · skip
                    refine r_aload_n hX dX2_step_164 rfl ?_
                    refine r_getIV hX dX2_step_165 fl_X2_28 (hA.1 105 (1, 0) rfl) rfl (nI 2) h6j ?_
                    refine r_iconst hX (nI 1) dX2_step_168 rfl ?_
                    refine r_icmpN_eq hX dX2_step_169 (by decide) (by decide) (fun c185 => absurd c185 (by decide)) (fun c185 => ?_)
                    refine r_iload_n hX dX2_step_172 rfl ?_
                    refine r_ifN_eq hX dX2_step_173 (by decide) (fun c186 => absurd c186 (by decide)) (fun c186 => ?_)
                    refine r_aload_n hX dX2_step_176 rfl ?_
                    refine r_getIV hX dX2_step_177 fl_X2_31 (hA.1 105 (1, 0) rfl) rfl (nI (skp P e)) h7j ?_
                    refine r_iload_n hX dX2_step_180 rfl ?_
                    refine r_icmpN_ne hX dX2_step_181 (by omega) (by omega) (fun c187 => ?_) (fun c187 => ?_)
                    · skip
                      exact r_return hX hQ dX2_step_189 ⟨Nat.le_of_ble_eq_true rfl, Nat.le_of_ble_eq_true rfl⟩ (PV.mk ⟨⟨(show σj 105 6 = nI 2 from h6j).trans (congrArg nI (by unfold nxN; rw [if_neg (fun z => by have z := z.2; change (ww && decide (skp P e = e)) = true at z; rw [decide_eq_false (show ¬ skp P e = e from c187), Bool.and_false] at z; cases z)]; show 2 = srtN (cl P (skp P e)); rw [hcl]; rfl)), h7j, Eq.trans (b := nI rn) h8j (congrArg nI (show _ = lxE P (skp P e) from by unfold lxE; rw [hcl]; exact hrn))⟩, hEj⟩)
                    · skip
                      refine r_aload_n hX dX2_step_184 rfl ?_
                      refine r_iconst hX (nI 4) dX2_step_185 rfl ?_
                      refine r_putI hX dX2_step_186 fl_X2_28 (hA.1 105 (1, 0) rfl) rfl rfl rfl rfl ?_
                      exact r_return hX hQ dX2_step_189 ⟨Nat.le_of_ble_eq_true rfl, Nat.le_of_ble_eq_true rfl⟩ (PV.mk ⟨⟨(show (up σj 105 6 (nI 4)) 105 6 = nI 4 from up_s).trans (congrArg nI (by unfold nxN; rw [if_pos ⟨by unfold wwB nx; simp only [hcl]; rfl, by show (ww && decide (skp P e = e)) = true; rw [show ww = true from hwt, decide_eq_true (show skp P e = e from c187)]; rfl⟩])), (by rw [up_n (by omega)]; exact h7j), Eq.trans (b := nI rn) (by rw [up_n (by omega)]; exact h8j) (congrArg nI (show _ = lxE P (skp P e) from by unfold lxE; rw [hcl]; exact hrn))⟩, (Ex.up hEj rfl)⟩)
                  · skip
                    refine r_aload_n hX dX2_step_136 rfl ?_
                    refine r_aload_n hX dX2_step_137 rfl ?_
                    refine r_getIV hX dX2_step_138 fl_X2_34 (hA.1 105 (1, 0) rfl) rfl (nI rn) h8j ?_
                    refine r_callVF (As := [.int (nI rn)]) (rest := []) hX (c_X2_sortAt hA σj P (hP.xc hEj) rn (by omega)) dX2_step_141 cb_X2_72 (hA.1 105 (1, 0) rfl) rfl rfl ⟨Nat.le_of_ble_eq_true rfl, Nat.le_of_ble_eq_true rfl⟩ ⟨Nat.le_of_ble_eq_true rfl, Nat.le_of_ble_eq_true rfl⟩ (Nat.le_of_ble_eq_true rfl) ?_
                    refine r_aload_n hX dX2_step_144 rfl ?_
                    refine r_getIV hX dX2_step_145 fl_X2_28 (hA.1 105 (1, 0) rfl) rfl (nI 2) h6j ?_
                    refine r_icmpN_ne hX dX2_step_148 (by first | omega | exact Nat.lt_of_le_of_lt (srt_le _) (by decide)) (by decide) (fun c188 => ?_) (fun c188 => absurd c188 (fun z => r4 ⟨by omega, by have q := srt_inj (cl_le P rn) (by decide) (show srtN (cl P rn) = srtN 1 from z); unfold cl at q; rw [if_pos (by omega)] at q; exact q⟩))
                    refine r_aload_n hX dX2_step_164 rfl ?_
                    refine r_getIV hX dX2_step_165 fl_X2_28 (hA.1 105 (1, 0) rfl) rfl (nI 2) h6j ?_
                    refine r_iconst hX (nI 1) dX2_step_168 rfl ?_
                    refine r_icmpN_eq hX dX2_step_169 (by decide) (by decide) (fun c189 => absurd c189 (by decide)) (fun c189 => ?_)
                    refine r_iload_n hX dX2_step_172 rfl ?_
                    refine r_ifN_eq hX dX2_step_173 (by decide) (fun c190 => absurd c190 (by decide)) (fun c190 => ?_)
                    refine r_aload_n hX dX2_step_176 rfl ?_
                    refine r_getIV hX dX2_step_177 fl_X2_31 (hA.1 105 (1, 0) rfl) rfl (nI (skp P e)) h7j ?_
                    refine r_iload_n hX dX2_step_180 rfl ?_
                    refine r_icmpN_ne hX dX2_step_181 (by omega) (by omega) (fun c191 => ?_) (fun c191 => ?_)
                    · skip
                      exact r_return hX hQ dX2_step_189 ⟨Nat.le_of_ble_eq_true rfl, Nat.le_of_ble_eq_true rfl⟩ (PV.mk ⟨⟨(show σj 105 6 = nI 2 from h6j).trans (congrArg nI (by unfold nxN; rw [if_neg (fun z => by have z := z.2; change (ww && decide (skp P e = e)) = true at z; rw [decide_eq_false (show ¬ skp P e = e from c191), Bool.and_false] at z; cases z)]; show 2 = srtN (cl P (skp P e)); rw [hcl]; rfl)), h7j, Eq.trans (b := nI rn) h8j (congrArg nI (show _ = lxE P (skp P e) from by unfold lxE; rw [hcl]; exact hrn))⟩, hEj⟩)
                    · skip
                      refine r_aload_n hX dX2_step_184 rfl ?_
                      refine r_iconst hX (nI 4) dX2_step_185 rfl ?_
                      refine r_putI hX dX2_step_186 fl_X2_28 (hA.1 105 (1, 0) rfl) rfl rfl rfl rfl ?_
                      exact r_return hX hQ dX2_step_189 ⟨Nat.le_of_ble_eq_true rfl, Nat.le_of_ble_eq_true rfl⟩ (PV.mk ⟨⟨(show (up σj 105 6 (nI 4)) 105 6 = nI 4 from up_s).trans (congrArg nI (by unfold nxN; rw [if_pos ⟨by unfold wwB nx; simp only [hcl]; rfl, by show (ww && decide (skp P e = e)) = true; rw [show ww = true from hwt, decide_eq_true (show skp P e = e from c191)]; rfl⟩])), (by rw [up_n (by omega)]; exact h7j), Eq.trans (b := nI rn) (by rw [up_n (by omega)]; exact h8j) (congrArg nI (show _ = lxE P (skp P e) from by unfold lxE; rw [hcl]; exact hrn))⟩, (Ex.up hEj rfl)⟩)
                · skip
                  intro j hj ih192 σj h7j h6j h8j hEj
                  refine r_aload_n hX dX2_step_114 rfl ?_
                  refine r_getIV hX dX2_step_115 fl_X2_28 (hA.1 105 (1, 0) rfl) rfl (nI 2) h6j ?_
                  refine r_iconst hX (nI 1) dX2_step_118 rfl ?_
                  refine r_icmpN_eq hX dX2_step_119 (by decide) (by decide) (fun c193 => absurd c193 (by decide)) (fun c193 => ?_)
                  refine r_aload_n hX dX2_step_122 rfl ?_
                  refine r_getIV hX dX2_step_123 fl_X2_34 (hA.1 105 (1, 0) rfl) rfl (nI ((skp P e) + 1 + j)) h8j ?_
                  refine r_aload_n hX dX2_step_126 rfl ?_
                  refine r_getR hX dX2_step_127 fl_X2_37 (hA.1 105 (1, 0) rfl) rfl (hA.2.1 105 0 103 rfl) ?_
                  refine r_getIV hX dX2_step_130 fl_X2_63 (hA.1 103 (5, 0) rfl) rfl (nI P.1) ((hP.xc hEj)).1 ?_
                  refine r_icmpN_ge hX dX2_step_133 (by omega) (by omega) (fun c194 => absurd c194 (by omega)) (fun c194 => ?_)
                  refine r_aload_n hX dX2_step_136 rfl ?_
                  refine r_aload_n hX dX2_step_137 rfl ?_
                  refine r_getIV hX dX2_step_138 fl_X2_34 (hA.1 105 (1, 0) rfl) rfl (nI ((skp P e) + 1 + j)) h8j ?_
                  refine r_callVF (As := [.int (nI ((skp P e) + 1 + j))]) (rest := []) hX (c_X2_sortAt hA σj P (hP.xc hEj) ((skp P e) + 1 + j) (by omega)) dX2_step_141 cb_X2_72 (hA.1 105 (1, 0) rfl) rfl rfl ⟨Nat.le_of_ble_eq_true rfl, Nat.le_of_ble_eq_true rfl⟩ ⟨Nat.le_of_ble_eq_true rfl, Nat.le_of_ble_eq_true rfl⟩ (Nat.le_of_ble_eq_true rfl) ?_
                  refine r_aload_n hX dX2_step_144 rfl ?_
                  refine r_getIV hX dX2_step_145 fl_X2_28 (hA.1 105 (1, 0) rfl) rfl (nI 2) h6j ?_
                  refine r_icmpN_ne hX dX2_step_148 (by first | omega | exact Nat.lt_of_le_of_lt (srt_le _) (by decide)) (by decide) (fun c195 => absurd (show srtN (cl P (skp P e + 1 + j)) = 2 by have q := r3 (skp P e + 1 + j) (by omega) (by omega); unfold cl; rw [if_pos (by omega), q]; rfl) c195) (fun c195 => ?_)
                  refine r_aload_n hX dX2_step_151 rfl ?_
                  refine r_dup hX dX2_step_152 rfl ?_
                  refine r_getIV hX dX2_step_153 fl_X2_34 (hA.1 105 (1, 0) rfl) rfl (nI ((skp P e) + 1 + j)) h8j ?_
                  refine r_iconst hX (nI 1) dX2_step_156 rfl ?_
                  refine r_iaddN hX dX2_step_157 ?_
                  refine r_putI hX dX2_step_158 fl_X2_34 (hA.1 105 (1, 0) rfl) rfl rfl rfl rfl ?_
                  refine r_goto hX dX2_step_161 ?_
                  exact At.to (ih192 (up σj 105 8 (nI ((skp P e) + 1 + j + 1))) ((up_n (by omega)).trans h7j) ((up_n (by omega)).trans h6j) up_s (Ex.up hEj rfl)) rfl rfl rfl
              exact At.to (P182 0 (Nat.zero_le _) (up (up (up σk 105 8 (nI (skp P e))) 105 6 (nI 2)) 105 8 (nI ((skp P e) + 1))) (by rw [up_n (by omega), up_n (by omega), up_n (by omega)]; exact h7k) (by rw [up_n (by omega), up_s]) up_s (Ex.up (Ex.up (Ex.up hEk rfl) rfl) rfl)) rfl rfl rfl
            · skip
              show At X L (up σk 105 8 (nI (skp P e))) 0 0 [(0, .ref (L.1 105)), (1, .int (nI e)), (2, .int (nI 1))] 93 [.int (nI 3), .ref (L.1 105)]
              have hKl : skp P e < P.1 := cl_in (by rw [hcl]; decide)
              obtain ⟨rn, hrn⟩ : ∃ r, r = rnn P 2 (skp P e) := ⟨_, rfl⟩
              obtain ⟨r1, r2, r3, r4⟩ := rnn_ok P 2 hsk.2.1
              have rp := rnn_pos hcl hKl
              rw [← hrn] at r1 r2 r3 r4 rp
              refine r_putI hX dX2_step_93 fl_X2_28 (hA.1 105 (1, 0) rfl) rfl rfl rfl rfl ?_
              refine r_aload_n hX dX2_step_96 rfl ?_
              refine r_getIV hX dX2_step_97 fl_X2_28 (hA.1 105 (1, 0) rfl) rfl (nI 3) up_s ?_
              refine r_ifN_ne hX dX2_step_100 (by decide) (fun c196 => ?_) (fun c196 => absurd c196 (by decide))
              refine r_aload_n hX dX2_step_104 rfl ?_
              refine r_dup hX dX2_step_105 rfl ?_
              refine r_getIV hX dX2_step_106 fl_X2_34 (hA.1 105 (1, 0) rfl) rfl (nI (skp P e)) (by rw [up_n (by omega), up_s]) ?_
              refine r_iconst hX (nI 1) dX2_step_109 rfl ?_
              refine r_iaddN hX dX2_step_110 ?_
              refine r_putI hX dX2_step_111 fl_X2_34 (hA.1 105 (1, 0) rfl) rfl rfl rfl rfl ?_
              have P197 : ∀ j, j ≤ rn - (skp P e + 1) → ∀ (σj : Me) (h7j : σj 105 7 = nI (skp P e)) (h6j : σj 105 6 = nI 3) (h8j : σj 105 8 = nI (skp P e + 1 + j)) (hEj : Ex pXc σ σj), At X L σj 0 0 [(0, .ref (L.1 105)), (1, .int (nI e)), (2, .int (nI 1))] 114 [] := by
                refine loopUp (rn - (skp P e + 1)) ?_ ?_
                · skip
                  intro σj h7j h6j h8j hEj
                  rw [show skp P e + 1 + (rn - (skp P e + 1)) = rn by omega] at h8j
                  refine r_aload_n hX dX2_step_114 rfl ?_
                  refine r_getIV hX dX2_step_115 fl_X2_28 (hA.1 105 (1, 0) rfl) rfl (nI 3) h6j ?_
                  refine r_iconst hX (nI 1) dX2_step_118 rfl ?_
                  refine r_icmpN_eq hX dX2_step_119 (by decide) (by decide) (fun c198 => absurd c198 (by decide)) (fun c198 => ?_)
                  refine r_aload_n hX dX2_step_122 rfl ?_
                  refine r_getIV hX dX2_step_123 fl_X2_34 (hA.1 105 (1, 0) rfl) rfl (nI rn) h8j ?_
                  refine r_aload_n hX dX2_step_126 rfl ?_
                  refine r_getR hX dX2_step_127 fl_X2_37 (hA.1 105 (1, 0) rfl) rfl (hA.2.1 105 0 103 rfl) ?_
                  refine r_getIV hX dX2_step_130 fl_X2_63 (hA.1 103 (5, 0) rfl) rfl (nI P.1) ((hP.xc hEj)).1 ?_
                  refine r_icmpN_ge hX dX2_step_133 (by omega) (by omega) (fun c199 => ?_) (fun c199 => ?_)
                  · skip
                    refine r_aload_n hX dX2_step_164 rfl ?_
                    refine r_getIV hX dX2_step_165 fl_X2_28 (hA.1 105 (1, 0) rfl) rfl (nI 3) h6j ?_
                    refine r_iconst hX (nI 1) dX2_step_168 rfl ?_
                    refine r_icmpN_eq hX dX2_step_169 (by decide) (by decide) (fun c200 => absurd c200 (by decide)) (fun c200 => ?_)
                    refine r_iload_n hX dX2_step_172 rfl ?_
                    refine r_ifN_eq hX dX2_step_173 (by decide) (fun c201 => absurd c201 (by decide)) (fun c201 => ?_)
                    refine r_aload_n hX dX2_step_176 rfl ?_
                    refine r_getIV hX dX2_step_177 fl_X2_31 (hA.1 105 (1, 0) rfl) rfl (nI (skp P e)) h7j ?_
                    refine r_iload_n hX dX2_step_180 rfl ?_
                    refine r_icmpN_ne hX dX2_step_181 (by omega) (by omega) (fun c202 => ?_) (fun c202 => ?_)
                    · skip
                      exact r_return hX hQ dX2_step_189 ⟨Nat.le_of_ble_eq_true rfl, Nat.le_of_ble_eq_true rfl⟩ (PV.mk ⟨⟨(show σj 105 6 = nI 3 from h6j).trans (congrArg nI (by unfold nxN; rw [if_neg (fun z => by have z := z.2; change (ww && decide (skp P e = e)) = true at z; rw [decide_eq_false (show ¬ skp P e = e from c202), Bool.and_false] at z; cases z)]; show 3 = srtN (cl P (skp P e)); rw [hcl]; rfl)), h7j, Eq.trans (b := nI rn) h8j (congrArg nI (show _ = lxE P (skp P e) from by unfold lxE; rw [hcl]; exact hrn))⟩, hEj⟩)
                    · skip
                      refine r_aload_n hX dX2_step_184 rfl ?_
                      refine r_iconst hX (nI 4) dX2_step_185 rfl ?_
                      refine r_putI hX dX2_step_186 fl_X2_28 (hA.1 105 (1, 0) rfl) rfl rfl rfl rfl ?_
                      exact r_return hX hQ dX2_step_189 ⟨Nat.le_of_ble_eq_true rfl, Nat.le_of_ble_eq_true rfl⟩ (PV.mk ⟨⟨(show (up σj 105 6 (nI 4)) 105 6 = nI 4 from up_s).trans (congrArg nI (by unfold nxN; rw [if_pos ⟨by unfold wwB nx; simp only [hcl]; rfl, by show (ww && decide (skp P e = e)) = true; rw [show ww = true from hwt, decide_eq_true (show skp P e = e from c202)]; rfl⟩])), (by rw [up_n (by omega)]; exact h7j), Eq.trans (b := nI rn) (by rw [up_n (by omega)]; exact h8j) (congrArg nI (show _ = lxE P (skp P e) from by unfold lxE; rw [hcl]; exact hrn))⟩, (Ex.up hEj rfl)⟩)
                  · skip
                    refine r_aload_n hX dX2_step_136 rfl ?_
                    refine r_aload_n hX dX2_step_137 rfl ?_
                    refine r_getIV hX dX2_step_138 fl_X2_34 (hA.1 105 (1, 0) rfl) rfl (nI rn) h8j ?_
                    refine r_callVF (As := [.int (nI rn)]) (rest := []) hX (c_X2_sortAt hA σj P (hP.xc hEj) rn (by omega)) dX2_step_141 cb_X2_72 (hA.1 105 (1, 0) rfl) rfl rfl ⟨Nat.le_of_ble_eq_true rfl, Nat.le_of_ble_eq_true rfl⟩ ⟨Nat.le_of_ble_eq_true rfl, Nat.le_of_ble_eq_true rfl⟩ (Nat.le_of_ble_eq_true rfl) ?_
                    refine r_aload_n hX dX2_step_144 rfl ?_
                    refine r_getIV hX dX2_step_145 fl_X2_28 (hA.1 105 (1, 0) rfl) rfl (nI 3) h6j ?_
                    refine r_icmpN_ne hX dX2_step_148 (by first | omega | exact Nat.lt_of_le_of_lt (srt_le _) (by decide)) (by decide) (fun c203 => ?_) (fun c203 => absurd c203 (fun z => r4 ⟨by omega, by have q := srt_inj (cl_le P rn) (by decide) (show srtN (cl P rn) = srtN 2 from z); unfold cl at q; rw [if_pos (by omega)] at q; exact q⟩))
                    refine r_aload_n hX dX2_step_164 rfl ?_
                    refine r_getIV hX dX2_step_165 fl_X2_28 (hA.1 105 (1, 0) rfl) rfl (nI 3) h6j ?_
                    refine r_iconst hX (nI 1) dX2_step_168 rfl ?_
                    refine r_icmpN_eq hX dX2_step_169 (by decide) (by decide) (fun c204 => absurd c204 (by decide)) (fun c204 => ?_)
                    refine r_iload_n hX dX2_step_172 rfl ?_
                    refine r_ifN_eq hX dX2_step_173 (by decide) (fun c205 => absurd c205 (by decide)) (fun c205 => ?_)
                    refine r_aload_n hX dX2_step_176 rfl ?_
                    refine r_getIV hX dX2_step_177 fl_X2_31 (hA.1 105 (1, 0) rfl) rfl (nI (skp P e)) h7j ?_
                    refine r_iload_n hX dX2_step_180 rfl ?_
                    refine r_icmpN_ne hX dX2_step_181 (by omega) (by omega) (fun c206 => ?_) (fun c206 => ?_)
                    · skip
                      exact r_return hX hQ dX2_step_189 ⟨Nat.le_of_ble_eq_true rfl, Nat.le_of_ble_eq_true rfl⟩ (PV.mk ⟨⟨(show σj 105 6 = nI 3 from h6j).trans (congrArg nI (by unfold nxN; rw [if_neg (fun z => by have z := z.2; change (ww && decide (skp P e = e)) = true at z; rw [decide_eq_false (show ¬ skp P e = e from c206), Bool.and_false] at z; cases z)]; show 3 = srtN (cl P (skp P e)); rw [hcl]; rfl)), h7j, Eq.trans (b := nI rn) h8j (congrArg nI (show _ = lxE P (skp P e) from by unfold lxE; rw [hcl]; exact hrn))⟩, hEj⟩)
                    · skip
                      refine r_aload_n hX dX2_step_184 rfl ?_
                      refine r_iconst hX (nI 4) dX2_step_185 rfl ?_
                      refine r_putI hX dX2_step_186 fl_X2_28 (hA.1 105 (1, 0) rfl) rfl rfl rfl rfl ?_
                      exact r_return hX hQ dX2_step_189 ⟨Nat.le_of_ble_eq_true rfl, Nat.le_of_ble_eq_true rfl⟩ (PV.mk ⟨⟨(show (up σj 105 6 (nI 4)) 105 6 = nI 4 from up_s).trans (congrArg nI (by unfold nxN; rw [if_pos ⟨by unfold wwB nx; simp only [hcl]; rfl, by show (ww && decide (skp P e = e)) = true; rw [show ww = true from hwt, decide_eq_true (show skp P e = e from c206)]; rfl⟩])), (by rw [up_n (by omega)]; exact h7j), Eq.trans (b := nI rn) (by rw [up_n (by omega)]; exact h8j) (congrArg nI (show _ = lxE P (skp P e) from by unfold lxE; rw [hcl]; exact hrn))⟩, (Ex.up hEj rfl)⟩)
                · skip
                  intro j hj ih207 σj h7j h6j h8j hEj
                  refine r_aload_n hX dX2_step_114 rfl ?_
                  refine r_getIV hX dX2_step_115 fl_X2_28 (hA.1 105 (1, 0) rfl) rfl (nI 3) h6j ?_
                  refine r_iconst hX (nI 1) dX2_step_118 rfl ?_
                  refine r_icmpN_eq hX dX2_step_119 (by decide) (by decide) (fun c208 => absurd c208 (by decide)) (fun c208 => ?_)
                  refine r_aload_n hX dX2_step_122 rfl ?_
                  refine r_getIV hX dX2_step_123 fl_X2_34 (hA.1 105 (1, 0) rfl) rfl (nI ((skp P e) + 1 + j)) h8j ?_
                  refine r_aload_n hX dX2_step_126 rfl ?_
                  refine r_getR hX dX2_step_127 fl_X2_37 (hA.1 105 (1, 0) rfl) rfl (hA.2.1 105 0 103 rfl) ?_
                  refine r_getIV hX dX2_step_130 fl_X2_63 (hA.1 103 (5, 0) rfl) rfl (nI P.1) ((hP.xc hEj)).1 ?_
                  refine r_icmpN_ge hX dX2_step_133 (by omega) (by omega) (fun c209 => absurd c209 (by omega)) (fun c209 => ?_)
                  refine r_aload_n hX dX2_step_136 rfl ?_
                  refine r_aload_n hX dX2_step_137 rfl ?_
                  refine r_getIV hX dX2_step_138 fl_X2_34 (hA.1 105 (1, 0) rfl) rfl (nI ((skp P e) + 1 + j)) h8j ?_
                  refine r_callVF (As := [.int (nI ((skp P e) + 1 + j))]) (rest := []) hX (c_X2_sortAt hA σj P (hP.xc hEj) ((skp P e) + 1 + j) (by omega)) dX2_step_141 cb_X2_72 (hA.1 105 (1, 0) rfl) rfl rfl ⟨Nat.le_of_ble_eq_true rfl, Nat.le_of_ble_eq_true rfl⟩ ⟨Nat.le_of_ble_eq_true rfl, Nat.le_of_ble_eq_true rfl⟩ (Nat.le_of_ble_eq_true rfl) ?_
                  refine r_aload_n hX dX2_step_144 rfl ?_
                  refine r_getIV hX dX2_step_145 fl_X2_28 (hA.1 105 (1, 0) rfl) rfl (nI 3) h6j ?_
                  refine r_icmpN_ne hX dX2_step_148 (by first | omega | exact Nat.lt_of_le_of_lt (srt_le _) (by decide)) (by decide) (fun c210 => absurd (show srtN (cl P (skp P e + 1 + j)) = 3 by have q := r3 (skp P e + 1 + j) (by omega) (by omega); unfold cl; rw [if_pos (by omega), q]; rfl) c210) (fun c210 => ?_)
                  refine r_aload_n hX dX2_step_151 rfl ?_
                  refine r_dup hX dX2_step_152 rfl ?_
                  refine r_getIV hX dX2_step_153 fl_X2_34 (hA.1 105 (1, 0) rfl) rfl (nI ((skp P e) + 1 + j)) h8j ?_
                  refine r_iconst hX (nI 1) dX2_step_156 rfl ?_
                  refine r_iaddN hX dX2_step_157 ?_
                  refine r_putI hX dX2_step_158 fl_X2_34 (hA.1 105 (1, 0) rfl) rfl rfl rfl rfl ?_
                  refine r_goto hX dX2_step_161 ?_
                  exact At.to (ih207 (up σj 105 8 (nI ((skp P e) + 1 + j + 1))) ((up_n (by omega)).trans h7j) ((up_n (by omega)).trans h6j) up_s (Ex.up hEj rfl)) rfl rfl rfl
              exact At.to (P197 0 (Nat.zero_le _) (up (up (up σk 105 8 (nI (skp P e))) 105 6 (nI 3)) 105 8 (nI ((skp P e) + 1))) (by rw [up_n (by omega), up_n (by omega), up_n (by omega)]; exact h7k) (by rw [up_n (by omega), up_s]) up_s (Ex.up (Ex.up (Ex.up hEk rfl) rfl) rfl)) rfl rfl rfl
            · skip
              show At X L (up σk 105 8 (nI (skp P e))) 0 0 [(0, .ref (L.1 105)), (1, .int (nI e)), (2, .int (nI 1))] 93 [.int (nI 1), .ref (L.1 105)]
              have hKl : skp P e < P.1 := cl_in (by rw [hcl]; decide)
              refine r_putI hX dX2_step_93 fl_X2_28 (hA.1 105 (1, 0) rfl) rfl rfl rfl rfl ?_
              refine r_aload_n hX dX2_step_96 rfl ?_
              refine r_getIV hX dX2_step_97 fl_X2_28 (hA.1 105 (1, 0) rfl) rfl (nI 1) up_s ?_
              refine r_ifN_ne hX dX2_step_100 (by decide) (fun c211 => ?_) (fun c211 => absurd c211 (by decide))
              refine r_aload_n hX dX2_step_104 rfl ?_
              refine r_dup hX dX2_step_105 rfl ?_
              refine r_getIV hX dX2_step_106 fl_X2_34 (hA.1 105 (1, 0) rfl) rfl (nI (skp P e)) (by rw [up_n (by omega), up_s]) ?_
              refine r_iconst hX (nI 1) dX2_step_109 rfl ?_
              refine r_iaddN hX dX2_step_110 ?_
              refine r_putI hX dX2_step_111 fl_X2_34 (hA.1 105 (1, 0) rfl) rfl rfl rfl rfl ?_
              refine r_aload_n hX dX2_step_114 rfl ?_
              refine r_getIV hX dX2_step_115 fl_X2_28 (hA.1 105 (1, 0) rfl) rfl (nI 1) (by rw [up_n (by omega), up_s]) ?_
              refine r_iconst hX (nI 1) dX2_step_118 rfl ?_
              refine r_icmpN_eq hX dX2_step_119 (by decide) (by decide) (fun c212 => ?_) (fun c212 => absurd c212 (by decide))
              refine r_aload_n hX dX2_step_164 rfl ?_
              refine r_getIV hX dX2_step_165 fl_X2_28 (hA.1 105 (1, 0) rfl) rfl (nI 1) (by rw [up_n (by omega), up_s]) ?_
              refine r_iconst hX (nI 1) dX2_step_168 rfl ?_
              refine r_icmpN_eq hX dX2_step_169 (by decide) (by decide) (fun c213 => ?_) (fun c213 => absurd c213 (by decide))
              exact r_return hX hQ dX2_step_189 ⟨Nat.le_of_ble_eq_true rfl, Nat.le_of_ble_eq_true rfl⟩ (PV.mk ⟨⟨(show (up (up (up σk 105 8 (nI (skp P e))) 105 6 (nI 1)) 105 8 (nI ((skp P e) + 1))) 105 6 = nI 1 from (by rw [up_n (by omega), up_s])).trans (congrArg nI (by unfold nxN; rw [if_neg (fun z => by have z := z.1; unfold wwB nx at z; simp only [hcl] at z; cases z)]; show 1 = srtN (cl P (skp P e)); rw [hcl]; rfl)), (by rw [up_n (by omega), up_n (by omega), up_n (by omega)]; exact h7k), Eq.trans (b := nI ((skp P e) + 1)) up_s (congrArg nI (show _ = lxE P (skp P e) from by unfold lxE; rw [hcl]; rfl))⟩, (Ex.up (Ex.up (Ex.up hEk rfl) rfl) rfl)⟩)
        · skip
          intro k hk ih214 σk h7k hEk
          refine r_aload_n hX dX2_step_32 rfl ?_
          refine r_getIV hX dX2_step_33 fl_X2_31 (hA.1 105 (1, 0) rfl) rfl (nI (e + k)) h7k ?_
          refine r_aload_n hX dX2_step_36 rfl ?_
          refine r_getR hX dX2_step_37 fl_X2_37 (hA.1 105 (1, 0) rfl) rfl (hA.2.1 105 0 103 rfl) ?_
          refine r_getIV hX dX2_step_40 fl_X2_63 (hA.1 103 (5, 0) rfl) rfl (nI P.1) ((hP.xc hEk)).1 ?_
          refine r_icmpN_ge hX dX2_step_43 (by omega) (by omega) (fun c215 => absurd c215 (by omega)) (fun c215 => ?_)
          refine r_aload_n hX dX2_step_46 rfl ?_
          refine r_getR hX dX2_step_47 fl_X2_37 (hA.1 105 (1, 0) rfl) rfl (hA.2.1 105 0 103 rfl) ?_
          refine r_getR hX dX2_step_50 fl_X2_68 (hA.1 103 (5, 0) rfl) rfl (hA.2.1 103 0 104 rfl) ?_
          refine r_aload_n hX dX2_step_53 rfl ?_
          refine r_getIV hX dX2_step_54 fl_X2_31 (hA.1 105 (1, 0) rfl) rfl (nI (e + k)) h7k ?_
          refine r_baldN hX dX2_step_57 (hA.1 104 (11, 96) rfl) (by decide) (by omega) (sb (P.2 (e + k))) (((hP.xc hEk)).2.2 (e + k) (by omega)).1 ?_
          refine r_bipush hX (nI 32) dX2_step_58 rfl ?_
          refine r_icmp_ne hX dX2_step_60 (fun c216 => absurd ((sb_eq (hP.2.2 _ (by omega)).2 (by decide)).mpr (hsk.2.2.1 _ (by omega) (by omega))) c216) (fun c216 => ?_)
          refine r_aload_n hX dX2_step_63 rfl ?_
          refine r_dup hX dX2_step_64 rfl ?_
          refine r_getIV hX dX2_step_65 fl_X2_31 (hA.1 105 (1, 0) rfl) rfl (nI (e + k)) h7k ?_
          refine r_iconst hX (nI 1) dX2_step_68 rfl ?_
          refine r_iaddN hX dX2_step_69 ?_
          refine r_putI hX dX2_step_70 fl_X2_31 (hA.1 105 (1, 0) rfl) rfl rfl rfl rfl ?_
          refine r_goto hX dX2_step_73 ?_
          exact At.to (ih214 (up σk 105 7 (nI (e + k + 1))) up_s (Ex.up hEk rfl)) rfl rfl rfl
      exact At.to (P143 0 (Nat.zero_le _) (up σ 105 7 (nI e)) up_s (Ex.up (Ex.rf σ) rfl)) rfl rfl rfl
