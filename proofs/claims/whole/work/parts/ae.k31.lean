set_option maxHeartbeats 4000000 in
set_option maxRecDepth 100000 in
theorem c_X9_check1 {l : Launch} {D : Ds} {L : La}  (hA : CAt L) (hWl : Wl L) (hTr : TrC L) (σ : Me) (Q : Wt) (hQw : RWc σ Q) (B : Al) (hI : L.2.2 100 8 = some 220) (hCi : RAt L 220) (h0 : R0 σ 220 B) (hW : RW σ 220 B) (hTx : RX' L σ 220 B) (hV : Va B) (hLT : LT L 220) (n h : Int32) (hT9 : L.2.2 100 9 = some 240) (hCt : RAt L 240) : Ct l yX9_check cX9_check 7 (some .int) { frames := 6, cells := 0, slots := 0, locals := 149 } D L σ [.ref (L.1 100), .int n, .int h] (PNI (fun r L2 σ2 => r = oCheck Q (some B) n h ∧ ChP L σ L2 σ2)) := by
  refine Ct.of (by decide) (Nat.le_of_ble_eq_true rfl) ?_
  intro X hl hD hnl hX0 hQ
  have hX : Ok X cX9_check RX9 "check" { frames := 6, cells := 0, slots := 0, locals := 149 } (some .int) := hX0
  have hN3 : 3 < xn X := by rw [hnl]; decide
  have hN4 : 4 < xn X := by rw [hnl]; decide
  have hN5 : 5 < xn X := by rw [hnl]; decide
  have hN6 : 6 < xn X := by rw [hnl]; decide
  have hC := hA.2.2
  have hQ60 := hQw.2.1
  have hB6 := hV.1
  show At X L σ 0 0 [(0, .ref (L.1 100)), (1, .int n), (2, .int h)] 0 []
  refine r_aload_n hX dX9_check_0 rfl ?_
  refine r_getIV hX dX9_check_1 fl_X9_55 (hA.1 100 (8, 0) rfl) rfl (nI Q.1) hQw.1 ?_
  refine r_istore_n hX [(0, .ref (L.1 100)), (1, .int n), (2, .int h), (3, .int (nI Q.1))] dX9_check_4 hN3 rfl ?_
  refine r_aload_n hX dX9_check_5 rfl ?_
  refine r_iconst hX (nI 0) dX9_check_6 rfl ?_
  refine r_putI hX dX9_check_7 fl_X9_55 (hA.1 100 (8, 0) rfl) rfl rfl rfl rfl ?_
  refine r_iload_n hX dX9_check_10 rfl ?_
  refine r_iconst hX (nI 1) dX9_check_11 rfl ?_
  refine r_bipush hX (nI 30) dX9_check_12 rfl ?_
  refine r_callSF (As := [.int n, .int (nI 1), .int (nI 30)]) (rest := []) hX (c_X9_within (up σ 100 7 (nI 0)) n (nI 1) (nI 30)) dX9_check_14 cb_X9_67 rfl rfl ⟨Nat.le_of_ble_eq_true rfl, Nat.le_of_ble_eq_true rfl⟩ ⟨Nat.le_of_ble_eq_true rfl, Nat.le_of_ble_eq_true rfl⟩ (Nat.le_of_ble_eq_true rfl) ?_
  refine r_ifB_eq hX dX9_check_17 (fun c1 => ?_) (fun c1 => ?_)
  · skip
    refine r_ldc hX dX9_check_27 ko_X9_75 ?_
    exact r_ireturn hX hQ dX9_check_29 ⟨Nat.le_of_ble_eq_true rfl, Nat.le_of_ble_eq_true rfl⟩ (PNI.mk ⟨(ck_bad (fun e => by have e := e.1; rw [c1] at e; cases e)).symm, ChP.no hA hWl hTr⟩)
  · skip
    obtain ⟨q, hql, hq, rfl⟩ := inB_nat c1 (by decide) (by decide)
    refine r_iload_n hX dX9_check_20 rfl ?_
    refine r_callSF (As := [.int h]) (rest := []) hX (c_X9_isHour (up σ 100 7 (nI 0)) h) dX9_check_21 cb_X9_101 rfl rfl ⟨Nat.le_of_ble_eq_true rfl, Nat.le_of_ble_eq_true rfl⟩ ⟨Nat.le_of_ble_eq_true rfl, Nat.le_of_ble_eq_true rfl⟩ (Nat.le_of_ble_eq_true rfl) ?_
    refine r_ifB_ne hX dX9_check_24 (fun c2 => ?_) (fun c2 => ?_)
    · skip
      obtain ⟨y, hyl, hy, rfl⟩ := inB_nat c2 (by decide) (by decide)
      refine r_aload_n hX dX9_check_30 rfl ?_
      refine r_getR hX dX9_check_31 fl_X9_59 (hA.1 100 (8, 0) rfl) rfl hI ?_
      refine r_ifnull hX dX9_check_34 ?_
      refine r_aload_n hX dX9_check_37 rfl ?_
      refine r_getR hX dX9_check_38 fl_X9_59 (hA.1 100 (8, 0) rfl) rfl hI ?_
      refine r_getIV hX dX9_check_41 fl_X9_192 (hCi.1 0 (2, 0) rfl) rfl (nI (aT B)) ((up_n (by decide)).trans h0.1) ?_
      refine r_ifN_ne hX dX9_check_44 (by omega) (fun c3 => ?_) (fun c3 => ?_)
      · skip
        refine r_aload_n hX dX9_check_50 rfl ?_
        refine r_getR hX dX9_check_51 fl_X9_62 (hA.1 100 (8, 0) rfl) rfl hT9 ?_
        refine r_ifnonnull hX dX9_check_54 ?_
        refine r_aload_n hX dX9_check_68 rfl ?_
        refine r_getR hX dX9_check_69 fl_X9_62 (hA.1 100 (8, 0) rfl) rfl hT9 ?_
        refine r_aload_n hX dX9_check_72 rfl ?_
        refine r_getR hX dX9_check_73 fl_X9_59 (hA.1 100 (8, 0) rfl) rfl hI ?_
        refine r_callVT (As := [.ref (L.1 (220 + 0))]) (rest := []) hX (c_X3_become 240 220 hCt hCi (by decide) (up σ 100 7 (nI 0)) B (h0.lay (fun c i h1 h2 => up_n (by omega))) (hW.lay (fun c i h1 h2 => up_n (by omega))) (hTx.kept (fun c i h1 h2 => up_n (by omega))) hV hLT) dX9_check_76 cb_X9_343 (hCt.1 0 (2, 0) rfl) rfl rfl ⟨Nat.le_of_ble_eq_true rfl, Nat.le_of_ble_eq_true rfl⟩ ⟨Nat.le_of_ble_eq_true rfl, Nat.le_of_ble_eq_true rfl⟩ (Nat.le_of_ble_eq_true rfl) (fun T6 σ4 h5 => ?_)
        obtain ⟨hRCb, hTa, hTb, hMo⟩ := h5
        have hBc : Bc L 240 220 T6 := ⟨hTa, hTb⟩
        have hAz : CAt (L.1, L.2.1, T6) := hBc.cat (by decide) hA
        have hWz : Wl (L.1, L.2.1, T6) := hBc.wl hWl hCi
        have hLXz : LX (fun d => d = 100 ∨ pRm 240 d) L (L.1, L.2.1, T6) := LX.tr (LX.rf _ L) (hBc.lx.mono (fun d hd => by have hd : d = 240 + 5 := hd; unfold pRm; omega))
        have hCtz : RAt (L.1, L.2.1, T6) 240 := hBc.rat (Or.inl rfl) hCt
        have h9z : (L.1, L.2.1, T6).2.2 100 9 = some (240 + 0) := (hTb 100 9 (by decide)).trans hT9
        have h8z : (L.1, L.2.1, T6).2.2 100 8 = L.2.2 100 8 := (hTb 100 8 (by decide)).trans ((hI).trans hI.symm)
        have hadz : (L.1, L.2.1, T6).1 100 = L.1 100 := rfl
        have hMz : ∀ d i, ¬ pRm 240 d → (d ≠ 100 ∨ i ≠ 7) → σ4 d i = σ d i := fun d i hd h7 => (hMo d i (by unfold pRm at hd; omega)).trans (up_n h7)
        have hM7 : σ4 100 7 = nI 0 := (hMo 100 7 (by decide)).trans up_s
        refine r_iconst hX (nI 0) dX9_check_79 rfl ?_
        refine r_istore hX [(0, .ref (L.1 100)), (1, .int (nI q)), (2, .int (nI y)), (3, .int (nI Q.1)), (4, .int (nI 0))] dX9_check_80 hN4 rfl ?_
        have P7 : ∀ k, k ≤ q → ∀ (σk : Me) (hRk : RC (L.1, L.2.1, T6) σk 240 (rgS B y Q k).1) (hbk : (rgS B y Q k).2.2 = true) (hct : (rgS B y Q k).2.1 = 2 * k) (hSk : Cb 240 σ4 σk), At X (L.1, L.2.1, T6) σk 0 0 [(0, .ref (L.1 100)), (1, .int (nI q)), (2, .int (nI y)), (3, .int (nI Q.1)), (4, .int (nI k))] 82 [] := by
          refine loopUp q ?_ ?_
          · skip
            intro σk hRk hbk hct hSk
            refine r_iload hX dX9_check_82 rfl ?_
            refine r_iload_n hX dX9_check_84 rfl ?_
            refine r_icmpN_ge hX dX9_check_85 (by omega) (by omega) (fun c8 => ?_) (fun c8 => absurd c8 (by omega))
            refine r_iload_n hX dX9_check_166 rfl ?_
            refine r_iconst hX (nI 2) dX9_check_167 rfl ?_
            refine r_iload_n hX dX9_check_168 rfl ?_
            refine r_imulN hX dX9_check_169 ?_
            refine r_icmpN_le hX dX9_check_170 (by omega) (by omega) (fun c9 => ?_) (fun c9 => ?_)
            · skip
              refine r_iconst hX (nI 0) dX9_check_181 rfl ?_
              exact r_ireturn hX hQ dX9_check_182 ⟨Nat.le_of_ble_eq_true rfl, Nat.le_of_ble_eq_true rfl⟩ (PNI.mk ⟨((ck_y ⟨c1, c2⟩ hq hy c3 (m := 2 * q) hct).trans (if_pos ⟨rfl, by have := (rgS_ok hV (by omega : 0 < aT B) hy Q q).2.2; omega⟩)).symm, ⟨hAz, hWz, hLXz, hadz, h8z, Or.inr ⟨h9z, hCtz⟩, (hSk 100 7 (by unfold sc; decide) (by decide)).trans hM7, fun d i h1 h2 h3 => (hSk d i h1 h2).trans (hMz d i (by unfold pRm; omega) h3)⟩⟩)
            · skip
              refine r_iconst hX (nI 1) dX9_check_173 rfl ?_
              refine r_iconst hX (nI 2) dX9_check_174 rfl ?_
              refine r_iload_n hX dX9_check_175 rfl ?_
              refine r_imulN hX dX9_check_176 ?_
              refine r_iaddN hX dX9_check_177 ?_
              refine r_goto hX dX9_check_178 ?_
              exact r_ireturn hX hQ dX9_check_182 ⟨Nat.le_of_ble_eq_true rfl, Nat.le_of_ble_eq_true rfl⟩ (PNI.mk ⟨((ck_y ⟨c1, c2⟩ hq hy c3 (m := 2 * q) hct).trans (if_neg (by omega))).symm, ⟨hAz, hWz, hLXz, hadz, h8z, Or.inr ⟨h9z, hCtz⟩, (hSk 100 7 (by unfold sc; decide) (by decide)).trans hM7, fun d i h1 h2 h3 => (hSk d i h1 h2).trans (hMz d i (by unfold pRm; omega) h3)⟩⟩)
          · skip
            intro k hk ih10 σk hRk hbk hct hSk
            have hvk := rgS_ok hV (by omega : 0 < aT B) hy Q k
            have hbr : byR (rgS B y Q k).1 ≤ 5 := by unfold byR; have := byS_in (rgS B y Q k).1; split <;> omega
            have hbt := byT_lt hvk.1 (by rw [hvk.2.1]; omega)
            have hv6 := hvk.1.1
            refine r_iload hX dX9_check_82 rfl ?_
            refine r_iload_n hX dX9_check_84 rfl ?_
            refine r_icmpN_ge hX dX9_check_85 (by omega) (by omega) (fun c11 => absurd c11 (by omega)) (fun c11 => ?_)
            refine r_aload_n hX dX9_check_88 rfl ?_
            refine r_getR hX dX9_check_89 fl_X9_62 (hAz.1 100 (8, 0) rfl) rfl h9z ?_
            refine r_iload_n hX dX9_check_92 rfl ?_
            refine r_callVI (As := [.int (nI y)]) (rest := []) hX (c_X3_buyerComes 240 hCtz σk (rgS B y Q k).1 hRk.1 hRk.2.1 hRk.2.2 hvk.1 y (by rw [hvk.2.1]; omega) hy) dX9_check_93 cb_X9_237 (hCtz.1 0 (2, 0) rfl) rfl rfl ⟨Nat.le_of_ble_eq_true rfl, Nat.le_of_ble_eq_true rfl⟩ ⟨Nat.le_of_ble_eq_true rfl, Nat.le_of_ble_eq_true rfl⟩ (Nat.le_of_ble_eq_true rfl) (fun r12 σ13 h14 => ?_)
            obtain ⟨rfl, hRCk, hSk2⟩ := h14
            refine r_istore hX [(0, .ref (L.1 100)), (1, .int (nI q)), (2, .int (nI y)), (3, .int (nI Q.1)), (4, .int (nI k)), (5, .int (nI (10 * (byT (rgS B y Q k).1).1 + byR (rgS B y Q k).1)))] dX9_check_96 hN5 rfl ?_
            refine r_iconst hX (nI 2) dX9_check_98 rfl ?_
            refine r_iload hX dX9_check_99 rfl ?_
            refine r_imulN hX dX9_check_101 ?_
            refine r_istore hX [(0, .ref (L.1 100)), (1, .int (nI q)), (2, .int (nI y)), (3, .int (nI Q.1)), (4, .int (nI k)), (5, .int (nI (10 * (byT (rgS B y Q k).1).1 + byR (rgS B y Q k).1))), (6, .int (nI (2 * k)))] dX9_check_102 hN6 rfl ?_
            refine r_iload hX dX9_check_104 rfl ?_
            refine r_iload_n hX dX9_check_106 rfl ?_
            refine r_icmpN_ge hX dX9_check_107 (by omega) (by omega) (fun c15 => ?_) (fun c15 => ?_)
            · skip
              refine r_iconst hX (nI 1) dX9_check_125 rfl ?_
              refine r_iload hX dX9_check_126 rfl ?_
              refine r_iaddN hX dX9_check_128 ?_
              exact r_ireturn hX hQ dX9_check_129 ⟨Nat.le_of_ble_eq_true rfl, Nat.le_of_ble_eq_true rfl⟩ (PNI.mk ⟨(ck_s ⟨c1, c2⟩ hq hy c3 hk (m := 2 * k) ((rgS_n hbk (fun e => by have e := e.1; rw [hct] at e; omega)).trans (by rw [hct])) (by omega)).symm, ⟨hAz, hWz, hLXz, hadz, h8z, Or.inr ⟨h9z, hCtz⟩, ((Cb.tr hSk hSk2) 100 7 (by unfold sc; decide) (by decide)).trans hM7, fun d i h1 h2 h3 => ((Cb.tr hSk hSk2) d i h1 h2).trans (hMz d i (by unfold pRm; omega) h3)⟩⟩)
            · skip
              refine r_aload_n hX dX9_check_110 rfl ?_
              refine r_getR hX dX9_check_111 fl_X9_51 (hAz.1 100 (8, 0) rfl) rfl (hAz.2.1 100 6 109 rfl) ?_
              refine r_iload hX dX9_check_114 rfl ?_
              refine r_aldN hX dX9_check_116 (hAz.1 109 (10, 60) rfl) (by decide) (by omega) (Q.2 (2 * k)) (((Cb.tr hSk hSk2) 109 (2 * k) (by unfold sc; decide) (by decide)).trans ((hMz 109 (2 * k) (by unfold pRm; decide) (Or.inl (by decide))).trans (hQw.2.2 (2 * k) (by omega)))) ?_
              refine r_iload hX dX9_check_117 rfl ?_
              refine r_bipush hX (nI 10) dX9_check_119 rfl ?_
              refine r_idivN hX dX9_check_121 (by omega) (by decide) (by decide) ?_
              refine r_icmp_eq hX dX9_check_122 (fun c16 => ?_) (fun c16 => ?_)
              · skip
                refine r_iload hX dX9_check_130 rfl ?_
                refine r_iconst hX (nI 1) dX9_check_132 rfl ?_
                refine r_iaddN hX dX9_check_133 ?_
                refine r_iload_n hX dX9_check_134 rfl ?_
                refine r_icmpN_ge hX dX9_check_135 (by omega) (by omega) (fun c17 => ?_) (fun c17 => ?_)
                · skip
                  refine r_iconst hX (nI 2) dX9_check_155 rfl ?_
                  refine r_iload hX dX9_check_156 rfl ?_
                  refine r_iaddN hX dX9_check_158 ?_
                  exact r_ireturn hX hQ dX9_check_159 ⟨Nat.le_of_ble_eq_true rfl, Nat.le_of_ble_eq_true rfl⟩ (PNI.mk ⟨((ck_s ⟨c1, c2⟩ hq hy c3 hk (m := 2 * k + 1) ((rgS_m hbk (by rw [hct]; omega) (by rw [hct]; have e := c16; rw [ck_d hbr] at e; exact e) (fun e => by have e := e.1; rw [hct] at e; omega)).trans (by rw [hct])) (by omega)).trans (congrArg nI (by omega))).symm, ⟨hAz, hWz, hLXz, hadz, h8z, Or.inr ⟨h9z, hCtz⟩, ((Cb.tr hSk hSk2) 100 7 (by unfold sc; decide) (by decide)).trans hM7, fun d i h1 h2 h3 => ((Cb.tr hSk hSk2) d i h1 h2).trans (hMz d i (by unfold pRm; omega) h3)⟩⟩)
                · skip
                  refine r_aload_n hX dX9_check_138 rfl ?_
                  refine r_getR hX dX9_check_139 fl_X9_51 (hAz.1 100 (8, 0) rfl) rfl (hAz.2.1 100 6 109 rfl) ?_
                  refine r_iload hX dX9_check_142 rfl ?_
                  refine r_iconst hX (nI 1) dX9_check_144 rfl ?_
                  refine r_iaddN hX dX9_check_145 ?_
                  refine r_aldN hX dX9_check_146 (hAz.1 109 (10, 60) rfl) (by decide) (by omega) (Q.2 (2 * k + 1)) (((Cb.tr hSk hSk2) 109 (2 * k + 1) (by unfold sc; decide) (by decide)).trans ((hMz 109 (2 * k + 1) (by unfold pRm; decide) (Or.inl (by decide))).trans (hQw.2.2 (2 * k + 1) (by omega)))) ?_
                  refine r_iload hX dX9_check_147 rfl ?_
                  refine r_bipush hX (nI 10) dX9_check_149 rfl ?_
                  refine r_iremN hX dX9_check_151 (by omega) (by decide) (by decide) ?_
                  refine r_icmp_eq hX dX9_check_152 (fun c18 => ?_) (fun c18 => ?_)
                  · skip
                    refine r_iincN (n := 1) hX [(0, .ref (L.1 100)), (1, .int (nI q)), (2, .int (nI y)), (3, .int (nI Q.1)), (4, .int (nI (k + 1))), (5, .int (nI (10 * (byT (rgS B y Q k).1).1 + byR (rgS B y Q k).1))), (6, .int (nI (2 * k)))] dX9_check_160 rfl hN4 rfl ?_
                    refine r_goto hX dX9_check_163 ?_
                    have hy2 := rgS_y hbk (by rw [hct]; omega) (by rw [hct]; have e := c16; rw [ck_d hbr] at e; exact e) (by rw [hct]; omega) (by rw [hct]; have e := c18; rw [ck_r hbr] at e; exact e)
                    exact At.less (At.to (ls := [(0, .ref (L.1 100)), (1, .int (nI q)), (2, .int (nI y)), (3, .int (nI Q.1)), (4, .int (nI (k + 1)))]) (ih10 _ (by rw [hy2]; exact hRCk) (by rw [hy2]) (by rw [hy2]; show _ + 1 + 1 = _; rw [hct]; omega) (Cb.tr hSk hSk2)) rfl rfl rfl) (by simp)
                  · skip
                    refine r_iconst hX (nI 2) dX9_check_155 rfl ?_
                    refine r_iload hX dX9_check_156 rfl ?_
                    refine r_iaddN hX dX9_check_158 ?_
                    exact r_ireturn hX hQ dX9_check_159 ⟨Nat.le_of_ble_eq_true rfl, Nat.le_of_ble_eq_true rfl⟩ (PNI.mk ⟨((ck_s ⟨c1, c2⟩ hq hy c3 hk (m := 2 * k + 1) ((rgS_m hbk (by rw [hct]; omega) (by rw [hct]; have e := c16; rw [ck_d hbr] at e; exact e) (fun e => by have e := e.2; rw [hct] at e; exact c18 (by rw [ck_r hbr]; exact e))).trans (by rw [hct])) (by omega)).trans (congrArg nI (by omega))).symm, ⟨hAz, hWz, hLXz, hadz, h8z, Or.inr ⟨h9z, hCtz⟩, ((Cb.tr hSk hSk2) 100 7 (by unfold sc; decide) (by decide)).trans hM7, fun d i h1 h2 h3 => ((Cb.tr hSk hSk2) d i h1 h2).trans (hMz d i (by unfold pRm; omega) h3)⟩⟩)
              · skip
                refine r_iconst hX (nI 1) dX9_check_125 rfl ?_
                refine r_iload hX dX9_check_126 rfl ?_
                refine r_iaddN hX dX9_check_128 ?_
                exact r_ireturn hX hQ dX9_check_129 ⟨Nat.le_of_ble_eq_true rfl, Nat.le_of_ble_eq_true rfl⟩ (PNI.mk ⟨(ck_s ⟨c1, c2⟩ hq hy c3 hk (m := 2 * k) ((rgS_n hbk (fun e => by have e := e.2; rw [hct] at e; exact c16 (by rw [ck_d hbr]; exact e))).trans (by rw [hct])) (by omega)).symm, ⟨hAz, hWz, hLXz, hadz, h8z, Or.inr ⟨h9z, hCtz⟩, ((Cb.tr hSk hSk2) 100 7 (by unfold sc; decide) (by decide)).trans hM7, fun d i h1 h2 h3 => ((Cb.tr hSk hSk2) d i h1 h2).trans (hMz d i (by unfold pRm; omega) h3)⟩⟩)
        exact At.to (P7 0 (Nat.zero_le _) σ4 hRCb rfl rfl (Cb.rf 240 _)) rfl rfl rfl
      · skip
        refine r_ldc hX dX9_check_47 ko_X9_236 ?_
        exact r_ireturn hX hQ dX9_check_49 ⟨Nat.le_of_ble_eq_true rfl, Nat.le_of_ble_eq_true rfl⟩ (PNI.mk ⟨(ck_no ⟨c1, c2⟩ c3).symm, ChP.no hA hWl hTr⟩)
    · skip
      refine r_ldc hX dX9_check_27 ko_X9_75 ?_
      exact r_ireturn hX hQ dX9_check_29 ⟨Nat.le_of_ble_eq_true rfl, Nat.le_of_ble_eq_true rfl⟩ (PNI.mk ⟨(ck_bad (fun e => by have e := e.2; rw [c2] at e; cases e)).symm, ChP.no hA hWl hTr⟩)

set_option maxHeartbeats 4000000 in
set_option maxRecDepth 100000 in
theorem c_X9_check0 {l : Launch} {D : Ds} {L : La}  (hN : NL D) (hAO : AO D) (hA : CAt L) (hWl : Wl L) (hTr : TrC L) (σ : Me) (Q : Wt) (hQw : RWc σ Q) (B : Al) (hI : L.2.2 100 8 = some 220) (hCi : RAt L 220) (h0 : R0 σ 220 B) (hW : RW σ 220 B) (hTx : RX' L σ 220 B) (hV : Va B) (hLT : LT L 220) (n h : Int32) (hT9 : L.2.2 100 9 = none) (hfr : ∀ i, i < 14 → L.2.1 (240 + i) = none) : Ct l yX9_check cX9_check 7 (some .int) { frames := 6, cells := 14, slots := 275, locals := 149 } D L σ [.ref (L.1 100), .int n, .int h] (PNI (fun r L2 σ2 => r = oCheck Q (some B) n h ∧ ChP L σ L2 σ2)) := by
  refine Ct.of (by decide) (Nat.le_of_ble_eq_true rfl) ?_
  intro X hl hD hnl hX0 hQ
  have hX : Ok X cX9_check RX9 "check" { frames := 6, cells := 14, slots := 275, locals := 149 } (some .int) := hX0
  have hN3 : 3 < xn X := by rw [hnl]; decide
  have hN4 : 4 < xn X := by rw [hnl]; decide
  have hN5 : 5 < xn X := by rw [hnl]; decide
  have hN6 : 6 < xn X := by rw [hnl]; decide
  have hC := hA.2.2
  have hNx : NL (xD X) := by rw [hD]; exact hN
  have hAO2 : AO (xD X) := by rw [hD]; exact hAO
  have hQ60 := hQw.2.1
  have hB6 := hV.1
  show At X L σ 0 0 [(0, .ref (L.1 100)), (1, .int n), (2, .int h)] 0 []
  refine r_aload_n hX dX9_check_0 rfl ?_
  refine r_getIV hX dX9_check_1 fl_X9_55 (hA.1 100 (8, 0) rfl) rfl (nI Q.1) hQw.1 ?_
  refine r_istore_n hX [(0, .ref (L.1 100)), (1, .int n), (2, .int h), (3, .int (nI Q.1))] dX9_check_4 hN3 rfl ?_
  refine r_aload_n hX dX9_check_5 rfl ?_
  refine r_iconst hX (nI 0) dX9_check_6 rfl ?_
  refine r_putI hX dX9_check_7 fl_X9_55 (hA.1 100 (8, 0) rfl) rfl rfl rfl rfl ?_
  refine r_iload_n hX dX9_check_10 rfl ?_
  refine r_iconst hX (nI 1) dX9_check_11 rfl ?_
  refine r_bipush hX (nI 30) dX9_check_12 rfl ?_
  refine r_callSF (As := [.int n, .int (nI 1), .int (nI 30)]) (rest := []) hX (c_X9_within (up σ 100 7 (nI 0)) n (nI 1) (nI 30)) dX9_check_14 cb_X9_67 rfl rfl ⟨Nat.le_of_ble_eq_true rfl, Nat.le_of_ble_eq_true rfl⟩ ⟨Nat.le_of_ble_eq_true rfl, Nat.le_of_ble_eq_true rfl⟩ (Nat.le_of_ble_eq_true rfl) ?_
  refine r_ifB_eq hX dX9_check_17 (fun c1 => ?_) (fun c1 => ?_)
  · skip
    refine r_ldc hX dX9_check_27 ko_X9_75 ?_
    exact r_ireturn hX hQ dX9_check_29 ⟨Nat.le_of_ble_eq_true rfl, Nat.le_of_ble_eq_true rfl⟩ (PNI.mk ⟨(ck_bad (fun e => by have e := e.1; rw [c1] at e; cases e)).symm, ChP.no hA hWl hTr⟩)
  · skip
    obtain ⟨q, hql, hq, rfl⟩ := inB_nat c1 (by decide) (by decide)
    refine r_iload_n hX dX9_check_20 rfl ?_
    refine r_callSF (As := [.int h]) (rest := []) hX (c_X9_isHour (up σ 100 7 (nI 0)) h) dX9_check_21 cb_X9_101 rfl rfl ⟨Nat.le_of_ble_eq_true rfl, Nat.le_of_ble_eq_true rfl⟩ ⟨Nat.le_of_ble_eq_true rfl, Nat.le_of_ble_eq_true rfl⟩ (Nat.le_of_ble_eq_true rfl) ?_
    refine r_ifB_ne hX dX9_check_24 (fun c2 => ?_) (fun c2 => ?_)
    · skip
      obtain ⟨y, hyl, hy, rfl⟩ := inB_nat c2 (by decide) (by decide)
      refine r_aload_n hX dX9_check_30 rfl ?_
      refine r_getR hX dX9_check_31 fl_X9_59 (hA.1 100 (8, 0) rfl) rfl hI ?_
      refine r_ifnull hX dX9_check_34 ?_
      refine r_aload_n hX dX9_check_37 rfl ?_
      refine r_getR hX dX9_check_38 fl_X9_59 (hA.1 100 (8, 0) rfl) rfl hI ?_
      refine r_getIV hX dX9_check_41 fl_X9_192 (hCi.1 0 (2, 0) rfl) rfl (nI (aT B)) ((up_n (by decide)).trans h0.1) ?_
      refine r_ifN_ne hX dX9_check_44 (by omega) (fun c3 => ?_) (fun c3 => ?_)
      · skip
        refine r_aload_n hX dX9_check_50 rfl ?_
        refine r_getN hX dX9_check_51 fl_X9_62 (hA.1 100 (8, 0) rfl) rfl hT9 ?_
        refine r_ifnonnullN hX dX9_check_54 ?_
        refine r_aload_n hX dX9_check_57 rfl ?_
        refine r_new hX (240 + 0) (fun L' => [(0, .ref (L'.1 100)), (1, .int (nI q)), (2, .int (nI y)), (3, .int (nI Q.1))]) (fun L' => [.ref (L'.1 100)]) dX9_check_58 nb_X9_7 (hfr 0 (by decide)) hWl ⟨Nat.le_of_ble_eq_true rfl, Nat.le_of_ble_eq_true rfl⟩ (fun L' h => ⟨(by have e0 : L'.1 100 = L.1 100 := (h.1 _ (by omega)).1; rw [e0]), (by have e0 : L'.1 100 = L.1 100 := (h.1 _ (by omega)).1; rw [e0])⟩) (fun L4 hNw5 => ?_)
        have wl7 : Wl L4 := Wl.nw hWl (hfr 0 (by decide)) hNw5
        have sh8 : L4.2.1 (240 + 0) = some (2, 0) := hNw5.2.1
        refine r_dup hX dX9_check_61 rfl ?_
        have hAn : CAt L4 := hA.nw hNw5 rfl (by decide)
        refine r_callIN (As := []) (rest := [.ref (L4.1 (240 + 0)), .ref (L4.1 100)]) hX (hN (xs X) (by rw [← hD]; exact hX.2.2.2.2.2.1.2.2.1) _ (List.mem_of_getElem? (i := 0) rfl)) (c_X3_init hNx hAO2 240 (by decide) sh8 (fun i h1 h2 => (hNw5.1 _ (by omega)).2.1.trans (hfr i (by omega))) wl7 (zr (up σ 100 7 (nI 0)) (240 + 0))) dX9_check_62 cn_X3_init rfl rfl ⟨Nat.le_of_ble_eq_true rfl, Nat.le_of_ble_eq_true rfl⟩ ⟨Nat.le_of_ble_eq_true rfl, Nat.le_of_ble_eq_true rfl⟩ (Nat.le_of_ble_eq_true rfl) (fun v12 L9 σ10 h11 => ?_)
        obtain ⟨rfl, h11⟩ := h11
        have hRn := h11
        have hAm : CAt L9 := hAn.room hRn (by decide)
        have hMk : ∀ d i, ¬ pRm 240 d → σ10 d i = (up σ 100 7 (nI 0)) d i := fun d i hd => (hRn.2.2.2.2.2.2.2 d i hd).trans (zr_n (by unfold pRm at hd; omega))
        have hCim : RAt L9 220 := (hCi.nw hNw5 (by decide)).room hRn (by decide)
        have tg13 : L9.2.2 100 8 = some (220 + 0) := ((hRn.1 100 (by unfold pRm; decide)).2.2 8).trans (((hNw5.1 100 (by decide)).2.2 8).trans hI)
        refine At.to (ls' := [(0, .ref (L9.1 100)), (1, .int (nI q)), (2, .int (nI y)), (3, .int (nI Q.1))]) (st' := [.ref (L9.1 (240 + 0)), .ref (L9.1 100)]) ?_ (by rw [(show L9.1 (100) = L4.1 (100) from (hRn.1 (100) (by unfold pRm; decide)).1)] <;> rfl) (by rw [(show L9.1 (100) = L4.1 (100) from (hRn.1 (100) (by unfold pRm; decide)).1), (show L9.1 (240 + 0) = L4.1 (240 + 0) from hRn.2.1)] <;> rfl) rfl
        refine r_putR hX (some (240 + 0)) dX9_check_65 fl_X9_62 (hAm.1 100 (8, 0) rfl) rfl (Or.inl rfl) ?_
        have hAu : CAt (ut L9 (100) 9 (some (240 + 0))) := hAm.ut (by decide) rfl
        have hCtu : RAt (ut L9 (100) 9 (some (240 + 0))) 240 := hRn.2.2.1.ut (by decide)
        have hCiu : RAt (ut L9 (100) 9 (some (240 + 0))) 220 := hCim.ut (by decide)
        have hLXu : LX (fun d => d = 100 ∨ pRm 240 d) L (ut L9 (100) 9 (some (240 + 0))) := (LX.ut (LX.tr (LX.nw (LX.rf _ L) hNw5 (by first | exact Or.inl rfl | exact Or.inr ⟨by decide, by decide⟩)) (LX.mono hRn.1 (fun d hd => Or.inr hd))) (by first | exact Or.inl rfl | exact Or.inr ⟨by decide, by decide⟩))
        have h0n : R0 σ10 220 B := h0.lay (fun c i h1 h2 => (hMk c i (by unfold pRm; omega)).trans (up_n (by omega)))
        have hWn : RW σ10 220 B := hW.lay (fun c i h1 h2 => (hMk c i (by unfold pRm; omega)).trans (up_n (by omega)))
        have hTxn : RX' (ut L9 (100) 9 (some (240 + 0))) σ10 220 B := (hTx.kept (fun c i h1 h2 => (hMk c i (by unfold pRm; omega)).trans (up_n (by omega)))).lx hLXu (fun d y hd _ e => by unfold pRm at e; omega) (fun j _ => (hLXu 225 (by unfold pRm; omega)).2.2 j)
        have hLTn : LT (ut L9 (100) 9 (some (240 + 0))) 220 := hLT.rm hA hLXu hfr (by decide)
        refine r_aload_n hX dX9_check_68 rfl ?_
        refine r_getR hX dX9_check_69 fl_X9_62 (hAu.1 100 (8, 0) rfl) rfl ut_s ?_
        refine r_aload_n hX dX9_check_72 rfl ?_
        refine r_getR hX dX9_check_73 fl_X9_59 (hAu.1 100 (8, 0) rfl) rfl ((ut_n (by omega)).trans tg13) ?_
        refine r_callVT (As := [.ref (L9.1 (220 + 0))]) (rest := []) hX (c_X3_become 240 220 hCtu hCiu (by decide) σ10 B h0n hWn hTxn hV hLTn) dX9_check_76 cb_X9_343 (hCtu.1 0 (2, 0) rfl) rfl rfl ⟨Nat.le_of_ble_eq_true rfl, Nat.le_of_ble_eq_true rfl⟩ ⟨Nat.le_of_ble_eq_true rfl, Nat.le_of_ble_eq_true rfl⟩ (Nat.le_of_ble_eq_true rfl) (fun T16 σ14 h15 => ?_)
        obtain ⟨hRCb, hTa, hTb, hMo⟩ := h15
        have hBc : Bc (ut L9 (100) 9 (some (240 + 0))) 240 220 T16 := ⟨hTa, hTb⟩
        have hAz : CAt ((ut L9 (100) 9 (some (240 + 0))).1, (ut L9 (100) 9 (some (240 + 0))).2.1, T16) := hBc.cat (by decide) hAu
        have hWz : Wl ((ut L9 (100) 9 (some (240 + 0))).1, (ut L9 (100) 9 (some (240 + 0))).2.1, T16) := hBc.wl (Wl.ut hRn.2.2.2.1 (fun t ht => by cases ht; exact ⟨_, (hRn.2.2.1.1 0 (2, 0) rfl)⟩)) hCiu
        have hLXz : LX (fun d => d = 100 ∨ pRm 240 d) L ((ut L9 (100) 9 (some (240 + 0))).1, (ut L9 (100) 9 (some (240 + 0))).2.1, T16) := LX.tr hLXu (hBc.lx.mono (fun d hd => by have hd : d = 240 + 5 := hd; unfold pRm; omega))
        have hCtz : RAt ((ut L9 (100) 9 (some (240 + 0))).1, (ut L9 (100) 9 (some (240 + 0))).2.1, T16) 240 := hBc.rat (Or.inl rfl) hCtu
        have h9z : ((ut L9 (100) 9 (some (240 + 0))).1, (ut L9 (100) 9 (some (240 + 0))).2.1, T16).2.2 100 9 = some (240 + 0) := (hTb 100 9 (by decide)).trans ut_s
        have h8z : ((ut L9 (100) 9 (some (240 + 0))).1, (ut L9 (100) 9 (some (240 + 0))).2.1, T16).2.2 100 8 = L.2.2 100 8 := (hTb 100 8 (by decide)).trans ((((ut_n (by omega)).trans tg13)).trans hI.symm)
        have hadz : ((ut L9 (100) 9 (some (240 + 0))).1, (ut L9 (100) 9 (some (240 + 0))).2.1, T16).1 100 = L.1 100 := (hRn.1 100 (by unfold pRm; decide)).1.trans (hNw5.1 100 (by decide)).1
        have hMz : ∀ d i, ¬ pRm 240 d → (d ≠ 100 ∨ i ≠ 7) → σ14 d i = σ d i := fun d i hd h7 => (hMo d i (by unfold pRm at hd; omega)).trans ((hMk d i hd).trans (up_n h7))
        have hM7 : σ14 100 7 = nI 0 := (hMo 100 7 (by decide)).trans ((hMk 100 7 (by unfold pRm; decide)).trans up_s)
        refine r_iconst hX (nI 0) dX9_check_79 rfl ?_
        refine r_istore hX [(0, .ref (L9.1 100)), (1, .int (nI q)), (2, .int (nI y)), (3, .int (nI Q.1)), (4, .int (nI 0))] dX9_check_80 hN4 rfl ?_
        have P17 : ∀ k, k ≤ q → ∀ (σk : Me) (hRk : RC ((ut L9 (100) 9 (some (240 + 0))).1, (ut L9 (100) 9 (some (240 + 0))).2.1, T16) σk 240 (rgS B y Q k).1) (hbk : (rgS B y Q k).2.2 = true) (hct : (rgS B y Q k).2.1 = 2 * k) (hSk : Cb 240 σ14 σk), At X ((ut L9 (100) 9 (some (240 + 0))).1, (ut L9 (100) 9 (some (240 + 0))).2.1, T16) σk 14 275 [(0, .ref (L9.1 100)), (1, .int (nI q)), (2, .int (nI y)), (3, .int (nI Q.1)), (4, .int (nI k))] 82 [] := by
          refine loopUp q ?_ ?_
          · skip
            intro σk hRk hbk hct hSk
            refine r_iload hX dX9_check_82 rfl ?_
            refine r_iload_n hX dX9_check_84 rfl ?_
            refine r_icmpN_ge hX dX9_check_85 (by omega) (by omega) (fun c18 => ?_) (fun c18 => absurd c18 (by omega))
            refine r_iload_n hX dX9_check_166 rfl ?_
            refine r_iconst hX (nI 2) dX9_check_167 rfl ?_
            refine r_iload_n hX dX9_check_168 rfl ?_
            refine r_imulN hX dX9_check_169 ?_
            refine r_icmpN_le hX dX9_check_170 (by omega) (by omega) (fun c19 => ?_) (fun c19 => ?_)
            · skip
              refine r_iconst hX (nI 0) dX9_check_181 rfl ?_
              exact r_ireturn hX hQ dX9_check_182 ⟨Nat.le_of_ble_eq_true rfl, Nat.le_of_ble_eq_true rfl⟩ (PNI.mk ⟨((ck_y ⟨c1, c2⟩ hq hy c3 (m := 2 * q) hct).trans (if_pos ⟨rfl, by have := (rgS_ok hV (by omega : 0 < aT B) hy Q q).2.2; omega⟩)).symm, ⟨hAz, hWz, hLXz, hadz, h8z, Or.inr ⟨h9z, hCtz⟩, (hSk 100 7 (by unfold sc; decide) (by decide)).trans hM7, fun d i h1 h2 h3 => (hSk d i h1 h2).trans (hMz d i (by unfold pRm; omega) h3)⟩⟩)
            · skip
              refine r_iconst hX (nI 1) dX9_check_173 rfl ?_
              refine r_iconst hX (nI 2) dX9_check_174 rfl ?_
              refine r_iload_n hX dX9_check_175 rfl ?_
              refine r_imulN hX dX9_check_176 ?_
              refine r_iaddN hX dX9_check_177 ?_
              refine r_goto hX dX9_check_178 ?_
              exact r_ireturn hX hQ dX9_check_182 ⟨Nat.le_of_ble_eq_true rfl, Nat.le_of_ble_eq_true rfl⟩ (PNI.mk ⟨((ck_y ⟨c1, c2⟩ hq hy c3 (m := 2 * q) hct).trans (if_neg (by omega))).symm, ⟨hAz, hWz, hLXz, hadz, h8z, Or.inr ⟨h9z, hCtz⟩, (hSk 100 7 (by unfold sc; decide) (by decide)).trans hM7, fun d i h1 h2 h3 => (hSk d i h1 h2).trans (hMz d i (by unfold pRm; omega) h3)⟩⟩)
          · skip
            intro k hk ih20 σk hRk hbk hct hSk
            have hvk := rgS_ok hV (by omega : 0 < aT B) hy Q k
            have hbr : byR (rgS B y Q k).1 ≤ 5 := by unfold byR; have := byS_in (rgS B y Q k).1; split <;> omega
            have hbt := byT_lt hvk.1 (by rw [hvk.2.1]; omega)
            have hv6 := hvk.1.1
            refine r_iload hX dX9_check_82 rfl ?_
            refine r_iload_n hX dX9_check_84 rfl ?_
            refine r_icmpN_ge hX dX9_check_85 (by omega) (by omega) (fun c21 => absurd c21 (by omega)) (fun c21 => ?_)
            refine r_aload_n hX dX9_check_88 rfl ?_
            refine r_getR hX dX9_check_89 fl_X9_62 (hAz.1 100 (8, 0) rfl) rfl h9z ?_
            refine r_iload_n hX dX9_check_92 rfl ?_
            refine r_callVI (As := [.int (nI y)]) (rest := []) hX (c_X3_buyerComes 240 hCtz σk (rgS B y Q k).1 hRk.1 hRk.2.1 hRk.2.2 hvk.1 y (by rw [hvk.2.1]; omega) hy) dX9_check_93 cb_X9_237 (hCtz.1 0 (2, 0) rfl) rfl rfl ⟨Nat.le_of_ble_eq_true rfl, Nat.le_of_ble_eq_true rfl⟩ ⟨Nat.le_of_ble_eq_true rfl, Nat.le_of_ble_eq_true rfl⟩ (Nat.le_of_ble_eq_true rfl) (fun r22 σ23 h24 => ?_)
            obtain ⟨rfl, hRCk, hSk2⟩ := h24
            refine r_istore hX [(0, .ref (L9.1 100)), (1, .int (nI q)), (2, .int (nI y)), (3, .int (nI Q.1)), (4, .int (nI k)), (5, .int (nI (10 * (byT (rgS B y Q k).1).1 + byR (rgS B y Q k).1)))] dX9_check_96 hN5 rfl ?_
            refine r_iconst hX (nI 2) dX9_check_98 rfl ?_
            refine r_iload hX dX9_check_99 rfl ?_
            refine r_imulN hX dX9_check_101 ?_
            refine r_istore hX [(0, .ref (L9.1 100)), (1, .int (nI q)), (2, .int (nI y)), (3, .int (nI Q.1)), (4, .int (nI k)), (5, .int (nI (10 * (byT (rgS B y Q k).1).1 + byR (rgS B y Q k).1))), (6, .int (nI (2 * k)))] dX9_check_102 hN6 rfl ?_
            refine r_iload hX dX9_check_104 rfl ?_
            refine r_iload_n hX dX9_check_106 rfl ?_
            refine r_icmpN_ge hX dX9_check_107 (by omega) (by omega) (fun c25 => ?_) (fun c25 => ?_)
            · skip
              refine r_iconst hX (nI 1) dX9_check_125 rfl ?_
              refine r_iload hX dX9_check_126 rfl ?_
              refine r_iaddN hX dX9_check_128 ?_
              exact r_ireturn hX hQ dX9_check_129 ⟨Nat.le_of_ble_eq_true rfl, Nat.le_of_ble_eq_true rfl⟩ (PNI.mk ⟨(ck_s ⟨c1, c2⟩ hq hy c3 hk (m := 2 * k) ((rgS_n hbk (fun e => by have e := e.1; rw [hct] at e; omega)).trans (by rw [hct])) (by omega)).symm, ⟨hAz, hWz, hLXz, hadz, h8z, Or.inr ⟨h9z, hCtz⟩, ((Cb.tr hSk hSk2) 100 7 (by unfold sc; decide) (by decide)).trans hM7, fun d i h1 h2 h3 => ((Cb.tr hSk hSk2) d i h1 h2).trans (hMz d i (by unfold pRm; omega) h3)⟩⟩)
            · skip
              refine r_aload_n hX dX9_check_110 rfl ?_
              refine r_getR hX dX9_check_111 fl_X9_51 (hAz.1 100 (8, 0) rfl) rfl (hAz.2.1 100 6 109 rfl) ?_
              refine r_iload hX dX9_check_114 rfl ?_
              refine r_aldN hX dX9_check_116 (hAz.1 109 (10, 60) rfl) (by decide) (by omega) (Q.2 (2 * k)) (((Cb.tr hSk hSk2) 109 (2 * k) (by unfold sc; decide) (by decide)).trans ((hMz 109 (2 * k) (by unfold pRm; decide) (Or.inl (by decide))).trans (hQw.2.2 (2 * k) (by omega)))) ?_
              refine r_iload hX dX9_check_117 rfl ?_
              refine r_bipush hX (nI 10) dX9_check_119 rfl ?_
              refine r_idivN hX dX9_check_121 (by omega) (by decide) (by decide) ?_
              refine r_icmp_eq hX dX9_check_122 (fun c26 => ?_) (fun c26 => ?_)
              · skip
                refine r_iload hX dX9_check_130 rfl ?_
                refine r_iconst hX (nI 1) dX9_check_132 rfl ?_
                refine r_iaddN hX dX9_check_133 ?_
                refine r_iload_n hX dX9_check_134 rfl ?_
                refine r_icmpN_ge hX dX9_check_135 (by omega) (by omega) (fun c27 => ?_) (fun c27 => ?_)
                · skip
                  refine r_iconst hX (nI 2) dX9_check_155 rfl ?_
                  refine r_iload hX dX9_check_156 rfl ?_
                  refine r_iaddN hX dX9_check_158 ?_
                  exact r_ireturn hX hQ dX9_check_159 ⟨Nat.le_of_ble_eq_true rfl, Nat.le_of_ble_eq_true rfl⟩ (PNI.mk ⟨((ck_s ⟨c1, c2⟩ hq hy c3 hk (m := 2 * k + 1) ((rgS_m hbk (by rw [hct]; omega) (by rw [hct]; have e := c26; rw [ck_d hbr] at e; exact e) (fun e => by have e := e.1; rw [hct] at e; omega)).trans (by rw [hct])) (by omega)).trans (congrArg nI (by omega))).symm, ⟨hAz, hWz, hLXz, hadz, h8z, Or.inr ⟨h9z, hCtz⟩, ((Cb.tr hSk hSk2) 100 7 (by unfold sc; decide) (by decide)).trans hM7, fun d i h1 h2 h3 => ((Cb.tr hSk hSk2) d i h1 h2).trans (hMz d i (by unfold pRm; omega) h3)⟩⟩)
                · skip
                  refine r_aload_n hX dX9_check_138 rfl ?_
                  refine r_getR hX dX9_check_139 fl_X9_51 (hAz.1 100 (8, 0) rfl) rfl (hAz.2.1 100 6 109 rfl) ?_
                  refine r_iload hX dX9_check_142 rfl ?_
                  refine r_iconst hX (nI 1) dX9_check_144 rfl ?_
                  refine r_iaddN hX dX9_check_145 ?_
                  refine r_aldN hX dX9_check_146 (hAz.1 109 (10, 60) rfl) (by decide) (by omega) (Q.2 (2 * k + 1)) (((Cb.tr hSk hSk2) 109 (2 * k + 1) (by unfold sc; decide) (by decide)).trans ((hMz 109 (2 * k + 1) (by unfold pRm; decide) (Or.inl (by decide))).trans (hQw.2.2 (2 * k + 1) (by omega)))) ?_
                  refine r_iload hX dX9_check_147 rfl ?_
                  refine r_bipush hX (nI 10) dX9_check_149 rfl ?_
                  refine r_iremN hX dX9_check_151 (by omega) (by decide) (by decide) ?_
                  refine r_icmp_eq hX dX9_check_152 (fun c28 => ?_) (fun c28 => ?_)
                  · skip
                    refine r_iincN (n := 1) hX [(0, .ref (L9.1 100)), (1, .int (nI q)), (2, .int (nI y)), (3, .int (nI Q.1)), (4, .int (nI (k + 1))), (5, .int (nI (10 * (byT (rgS B y Q k).1).1 + byR (rgS B y Q k).1))), (6, .int (nI (2 * k)))] dX9_check_160 rfl hN4 rfl ?_
                    refine r_goto hX dX9_check_163 ?_
                    have hy2 := rgS_y hbk (by rw [hct]; omega) (by rw [hct]; have e := c26; rw [ck_d hbr] at e; exact e) (by rw [hct]; omega) (by rw [hct]; have e := c28; rw [ck_r hbr] at e; exact e)
                    exact At.less (At.to (ls := [(0, .ref (L9.1 100)), (1, .int (nI q)), (2, .int (nI y)), (3, .int (nI Q.1)), (4, .int (nI (k + 1)))]) (ih20 _ (by rw [hy2]; exact hRCk) (by rw [hy2]) (by rw [hy2]; show _ + 1 + 1 = _; rw [hct]; omega) (Cb.tr hSk hSk2)) rfl rfl rfl) (by simp)
                  · skip
                    refine r_iconst hX (nI 2) dX9_check_155 rfl ?_
                    refine r_iload hX dX9_check_156 rfl ?_
                    refine r_iaddN hX dX9_check_158 ?_
                    exact r_ireturn hX hQ dX9_check_159 ⟨Nat.le_of_ble_eq_true rfl, Nat.le_of_ble_eq_true rfl⟩ (PNI.mk ⟨((ck_s ⟨c1, c2⟩ hq hy c3 hk (m := 2 * k + 1) ((rgS_m hbk (by rw [hct]; omega) (by rw [hct]; have e := c26; rw [ck_d hbr] at e; exact e) (fun e => by have e := e.2; rw [hct] at e; exact c28 (by rw [ck_r hbr]; exact e))).trans (by rw [hct])) (by omega)).trans (congrArg nI (by omega))).symm, ⟨hAz, hWz, hLXz, hadz, h8z, Or.inr ⟨h9z, hCtz⟩, ((Cb.tr hSk hSk2) 100 7 (by unfold sc; decide) (by decide)).trans hM7, fun d i h1 h2 h3 => ((Cb.tr hSk hSk2) d i h1 h2).trans (hMz d i (by unfold pRm; omega) h3)⟩⟩)
              · skip
                refine r_iconst hX (nI 1) dX9_check_125 rfl ?_
                refine r_iload hX dX9_check_126 rfl ?_
                refine r_iaddN hX dX9_check_128 ?_
                exact r_ireturn hX hQ dX9_check_129 ⟨Nat.le_of_ble_eq_true rfl, Nat.le_of_ble_eq_true rfl⟩ (PNI.mk ⟨(ck_s ⟨c1, c2⟩ hq hy c3 hk (m := 2 * k) ((rgS_n hbk (fun e => by have e := e.2; rw [hct] at e; exact c26 (by rw [ck_d hbr]; exact e))).trans (by rw [hct])) (by omega)).symm, ⟨hAz, hWz, hLXz, hadz, h8z, Or.inr ⟨h9z, hCtz⟩, ((Cb.tr hSk hSk2) 100 7 (by unfold sc; decide) (by decide)).trans hM7, fun d i h1 h2 h3 => ((Cb.tr hSk hSk2) d i h1 h2).trans (hMz d i (by unfold pRm; omega) h3)⟩⟩)
        exact At.to (P17 0 (Nat.zero_le _) σ14 hRCb rfl rfl (Cb.rf 240 _)) rfl rfl rfl
      · skip
        refine r_ldc hX dX9_check_47 ko_X9_236 ?_
        exact r_ireturn hX hQ dX9_check_49 ⟨Nat.le_of_ble_eq_true rfl, Nat.le_of_ble_eq_true rfl⟩ (PNI.mk ⟨(ck_no ⟨c1, c2⟩ c3).symm, ChP.no hA hWl hTr⟩)
    · skip
      refine r_ldc hX dX9_check_27 ko_X9_75 ?_
      exact r_ireturn hX hQ dX9_check_29 ⟨Nat.le_of_ble_eq_true rfl, Nat.le_of_ble_eq_true rfl⟩ (PNI.mk ⟨(ck_bad (fun e => by have e := e.2; rw [c2] at e; cases e)).symm, ChP.no hA hWl hTr⟩)
