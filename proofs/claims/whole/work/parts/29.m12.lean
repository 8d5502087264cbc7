set_option maxHeartbeats 4000000 in
set_option maxRecDepth 100000 in
theorem c_X10_byteAt {l : Launch} {D : Ds} {L : La} (hM : MAt L) (σ : Me) (P : Tp) (hP : RT σ P) (k : Nat) (hk : k < 2 ^ 31) : Ct l yX10_byteAt cX10_byteAt 2 (some .int) { frames := 0, cells := 0, slots := 0, locals := 0 } D L σ [.ref (L.1 0), .int (nI k)] (PF L σ (bt P k)) := by
  refine Ct.of (by decide) (Nat.le_of_ble_eq_true rfl) ?_
  intro X hl hD hnl hX0 hQ
  have hX : Ok X cX10_byteAt RX10 "byteAt" { frames := 0, cells := 0, slots := 0, locals := 0 } (some .int) := hX0
  have hP96 := hP.2.1
  show At X L σ 0 0 [(0, .ref (L.1 0)), (1, .int (nI k))] 0 []
  refine r_iload_n hX dX10_byteAt_0 rfl ?_
  refine r_aload_n hX dX10_byteAt_1 rfl ?_
  refine r_getIV hX dX10_byteAt_2 fl_X10_233 (hM.1 0 (9, 0) rfl) rfl (nI P.1) hP.1 ?_
  refine r_icmpN_ge hX dX10_byteAt_5 (by omega) (by omega) (fun c1 => ?_) (fun c1 => ?_)
  · skip
    refine r_iconst hX (-1) dX10_byteAt_17 rfl ?_
    exact r_ireturn hX hQ dX10_byteAt_18 ⟨Nat.le_of_ble_eq_true rfl, Nat.le_of_ble_eq_true rfl⟩ (PF.mk (by unfold bt; rw [if_neg (by omega)]))
  · skip
    refine r_aload_n hX dX10_byteAt_8 rfl ?_
    refine r_getR hX dX10_byteAt_9 fl_X10_19 (hM.1 0 (9, 0) rfl) rfl (hM.2 4 4 rfl) ?_
    refine r_iload_n hX dX10_byteAt_12 rfl ?_
    refine r_aldN hX dX10_byteAt_13 (hM.1 4 (10, 96) rfl) (by decide) (by omega) (nI (P.2 k)) (hP.2.2 _ (by omega)).1 ?_
    refine r_goto hX dX10_byteAt_14 ?_
    exact r_ireturn hX hQ dX10_byteAt_18 ⟨Nat.le_of_ble_eq_true rfl, Nat.le_of_ble_eq_true rfl⟩ (PF.mk (by unfold bt; rw [if_pos c1]))

set_option maxHeartbeats 4000000 in
set_option maxRecDepth 100000 in
theorem c_X10_isLetter {l : Launch} {D : Ds} {L : La}  (σ : Me) (c : Int32) : Ct l yX10_isLetter cX10_isLetter 1 (some .boolean) { frames := 1, cells := 0, slots := 0, locals := 22 } D L σ [.int c] (PF L σ (bI (inB c (nI 97) (nI 122)))) := by
  refine Ct.of (by decide) (Nat.le_of_ble_eq_true rfl) ?_
  intro X hl hD hnl hX0 hQ
  have hX : Ok X cX10_isLetter RX10 "isLetter" { frames := 1, cells := 0, slots := 0, locals := 22 } (some .boolean) := hX0
  show At X L σ 0 0 [(0, .int c)] 0 []
  refine r_iload_n hX dX10_isLetter_0 rfl ?_
  refine r_bipush hX (nI 97) dX10_isLetter_1 rfl ?_
  refine r_bipush hX (nI 122) dX10_isLetter_3 rfl ?_
  refine r_callSF (As := [.int c, .int (nI 97), .int (nI 122)]) (rest := []) hX (c_X10_in σ c (nI 97) (nI 122)) dX10_isLetter_5 cb_X10_68 rfl rfl ⟨Nat.le_of_ble_eq_true rfl, Nat.le_of_ble_eq_true rfl⟩ ⟨Nat.le_of_ble_eq_true rfl, Nat.le_of_ble_eq_true rfl⟩ (Nat.le_of_ble_eq_true rfl) ?_
  exact r_zreturn hX hQ dX10_isLetter_8 ⟨Nat.le_of_ble_eq_true rfl, Nat.le_of_ble_eq_true rfl⟩ (nar_bI _) (PF.mk rfl)

set_option maxHeartbeats 4000000 in
set_option maxRecDepth 100000 in
theorem c_X10_isDigit {l : Launch} {D : Ds} {L : La}  (σ : Me) (c : Int32) : Ct l yX10_isDigit cX10_isDigit 1 (some .boolean) { frames := 1, cells := 0, slots := 0, locals := 22 } D L σ [.int c] (PF L σ (bI (inB c (nI 48) (nI 57)))) := by
  refine Ct.of (by decide) (Nat.le_of_ble_eq_true rfl) ?_
  intro X hl hD hnl hX0 hQ
  have hX : Ok X cX10_isDigit RX10 "isDigit" { frames := 1, cells := 0, slots := 0, locals := 22 } (some .boolean) := hX0
  show At X L σ 0 0 [(0, .int c)] 0 []
  refine r_iload_n hX dX10_isDigit_0 rfl ?_
  refine r_bipush hX (nI 48) dX10_isDigit_1 rfl ?_
  refine r_bipush hX (nI 57) dX10_isDigit_3 rfl ?_
  refine r_callSF (As := [.int c, .int (nI 48), .int (nI 57)]) (rest := []) hX (c_X10_in σ c (nI 48) (nI 57)) dX10_isDigit_5 cb_X10_68 rfl rfl ⟨Nat.le_of_ble_eq_true rfl, Nat.le_of_ble_eq_true rfl⟩ ⟨Nat.le_of_ble_eq_true rfl, Nat.le_of_ble_eq_true rfl⟩ (Nat.le_of_ble_eq_true rfl) ?_
  exact r_zreturn hX hQ dX10_isDigit_8 ⟨Nat.le_of_ble_eq_true rfl, Nat.le_of_ble_eq_true rfl⟩ (nar_bI _) (PF.mk rfl)

set_option maxHeartbeats 4000000 in
set_option maxRecDepth 100000 in
theorem c_X10_next {l : Launch} {D : Ds} {L : La} (hM : MAt L) (σ : Me) (P : Tp) (hP : RT σ P) (e : Nat) (ww : Bool) (h20 : σ 0 20 = nI e) (h25 : σ 0 25 = bI ww) (hle : e ≤ P.1) : Ct l yX10_next cX10_next 3 none { frames := 2, cells := 0, slots := 0, locals := 42 } D L σ [.ref (L.1 0)] (PV L (fun σ2 => RLx σ2 P (nx P e ww) ∧ Ex pX σ σ2)) := by
  refine Ct.of (by decide) (Nat.le_of_ble_eq_true rfl) ?_
  intro X hl hD hnl hX0 hQ
  have hX : Ok X cX10_next RX10 "next" { frames := 2, cells := 0, slots := 0, locals := 42 } none := hX0
  have hN1 : 1 < xn X := by rw [hnl]; decide
  have hN2 : 2 < xn X := by rw [hnl]; decide
  have hP96 := hP.2.1
  obtain ⟨g1, g2, g3, g4⟩ := skp_ok P hle
  show At X L σ 0 0 [(0, .ref (L.1 0))] 0 []
  refine r_aload_n hX dX10_next_0 rfl ?_
  refine r_getIV hX dX10_next_1 fl_X10_236 (hM.1 0 (9, 0) rfl) rfl (bI ww) h25 ?_
  refine r_istore_n hX [(0, .ref (L.1 0)), (1, .int (bI ww))] dX10_next_4 hN1 rfl ?_
  have P1 : ∀ k, k ≤ skp P e - e → ∀ (σk : Me) (h20 : σk 0 20 = nI (e + k)) (h25 : σk 0 25 = bI ww) (hEk : Ex pX σ σk), At X L σk 0 0 [(0, .ref (L.1 0)), (1, .int (bI (ww && decide (k = 0))))] 5 [] := by
    refine loopUp (skp P e - e) ?_ ?_
    · skip
      intro σk h20 h25 hEk
      have hPk := hP.ex hEk
      obtain ⟨s, hs⟩ : ∃ z, z = skp P e := ⟨_, rfl⟩
      rw [show e + (skp P e - e) = s by omega] at h20
      rw [← hs] at g1 g2 g3 g4
      obtain ⟨adj, hadj⟩ : ∃ z, z = (ww && decide (s = e)) := ⟨_, rfl⟩
      rw [show (ww && decide (skp P e - e = 0)) = adj from by rw [hadj]; congr 1; exact decide_eq_decide.mpr (by omega)]
      refine r_aload_n hX dX10_next_5 rfl ?_
      refine r_aload_n hX dX10_next_6 rfl ?_
      refine r_getIV hX dX10_next_7 fl_X10_240 (hM.1 0 (9, 0) rfl) rfl (nI s) h20 ?_
      refine r_callVF (As := [.int (nI s)]) (rest := []) hX (c_X10_byteAt hM σk P hPk s (by omega)) dX10_next_10 cb_X10_243 (hM.1 0 (9, 0) rfl) rfl rfl ⟨Nat.le_of_ble_eq_true rfl, Nat.le_of_ble_eq_true rfl⟩ ⟨Nat.le_of_ble_eq_true rfl, Nat.le_of_ble_eq_true rfl⟩ (Nat.le_of_ble_eq_true rfl) ?_
      refine r_bipush hX (nI 32) dX10_next_13 rfl ?_
      refine r_icmp_ne hX dX10_next_15 (fun c2 => ?_) (fun c2 => absurd c2 (sp_out (fun k hk => (hP.2.2 k hk).2) g4))
      refine r_aload_n hX dX10_next_33 rfl ?_
      refine r_aload_n hX dX10_next_34 rfl ?_
      refine r_getIV hX dX10_next_35 fl_X10_240 (hM.1 0 (9, 0) rfl) rfl (nI s) h20 ?_
      refine r_putI hX dX10_next_38 fl_X10_246 (hM.1 0 (9, 0) rfl) rfl rfl rfl rfl ?_
      refine r_aload_n hX dX10_next_41 rfl ?_
      refine r_iconst hX (nI 0) dX10_next_42 rfl ?_
      refine r_putI hX dX10_next_43 fl_X10_249 (hM.1 0 (9, 0) rfl) rfl rfl rfl rfl ?_
      refine r_aload_n hX dX10_next_46 rfl ?_
      refine r_iconst hX (nI 0) dX10_next_47 rfl ?_
      refine r_putI hX dX10_next_48 fl_X10_252 (hM.1 0 (9, 0) rfl) rfl rfl rfl rfl ?_
      refine r_aload_n hX dX10_next_51 rfl ?_
      refine r_aload_n hX dX10_next_52 rfl ?_
      refine r_getIV hX dX10_next_53 fl_X10_240 (hM.1 0 (9, 0) rfl) rfl (nI s) (by rw [up_n (by omega), up_n (by omega), up_n (by omega)]; exact h20) ?_
      refine r_callVF (As := [.int (nI s)]) (rest := []) hX (c_X10_byteAt hM (up (up (up σk 0 21 (nI s)) 0 23 (nI 0)) 0 24 (nI 0)) P (RT.ex hPk (Ex.up (Ex.up (Ex.up (Ex.rf _) rfl) rfl) rfl)) s (by omega)) dX10_next_56 cb_X10_243 (hM.1 0 (9, 0) rfl) rfl rfl ⟨Nat.le_of_ble_eq_true rfl, Nat.le_of_ble_eq_true rfl⟩ ⟨Nat.le_of_ble_eq_true rfl, Nat.le_of_ble_eq_true rfl⟩ (Nat.le_of_ble_eq_true rfl) ?_
      rcases cl_cases P (fun k hk => (hP.2.2 k hk).2) s with ⟨hc, hsP, hbt⟩ | ⟨hc, hsP, hbt, hLt⟩ | ⟨hc, hsP, hbt, hLt, hDg⟩ | ⟨hc, hsP, hbt, hLt, hDg⟩
      · skip
        rw [hbt]
        refine r_istore_n hX [(0, .ref (L.1 0)), (1, .int (bI adj)), (2, .int (-1))] dX10_next_59 hN2 rfl ?_
        refine r_aload_n hX dX10_next_60 rfl ?_
        refine r_iload_n hX dX10_next_61 rfl ?_
        refine r_callSF (As := [.int (-1)]) (rest := [.ref (L.1 0)]) hX (c_X10_isLetter (up (up (up σk 0 21 (nI s)) 0 23 (nI 0)) 0 24 (nI 0)) (-1)) dX10_next_62 cb_X10_255 rfl rfl ⟨Nat.le_of_ble_eq_true rfl, Nat.le_of_ble_eq_true rfl⟩ ⟨Nat.le_of_ble_eq_true rfl, Nat.le_of_ble_eq_true rfl⟩ (Nat.le_of_ble_eq_true rfl) ?_
        refine r_ifB_ne hX dX10_next_65 (fun c3 => absurd c3 (by rw [(inB_m1 _ _ (by decide))]; decide)) (fun c3 => ?_)
        refine r_iload_n hX dX10_next_68 rfl ?_
        refine r_callSF (As := [.int (-1)]) (rest := [.ref (L.1 0)]) hX (c_X10_isDigit (up (up (up σk 0 21 (nI s)) 0 23 (nI 0)) 0 24 (nI 0)) (-1)) dX10_next_69 cb_X10_258 rfl rfl ⟨Nat.le_of_ble_eq_true rfl, Nat.le_of_ble_eq_true rfl⟩ ⟨Nat.le_of_ble_eq_true rfl, Nat.le_of_ble_eq_true rfl⟩ (Nat.le_of_ble_eq_true rfl) ?_
        refine r_ifB_eq hX dX10_next_72 (fun c4 => ?_) (fun c4 => absurd c4 (by rw [(inB_m1 _ _ (by decide))]; decide))
        refine r_iconst hX (nI 0) dX10_next_79 rfl ?_
        refine r_putI hX dX10_next_80 fl_X10_236 (hM.1 0 (9, 0) rfl) rfl rfl rfl rfl ?_
        refine r_aload_n hX dX10_next_83 rfl ?_
        refine r_iload_n hX dX10_next_84 rfl ?_
        refine r_if_ge hX dX10_next_85 (fun c5 => absurd c5 (by decide)) (fun c5 => ?_)
        refine r_iconst hX (nI 0) dX10_next_88 rfl ?_
        refine r_goto hX dX10_next_89 ?_
        refine r_putI hX dX10_next_115 fl_X10_261 (hM.1 0 (9, 0) rfl) rfl rfl rfl rfl ?_
        refine r_aload_n hX dX10_next_118 rfl ?_
        refine r_getIV hX dX10_next_119 fl_X10_261 (hM.1 0 (9, 0) rfl) rfl (nI 0) up_s ?_
        refine r_iconst hX (nI 1) dX10_next_122 rfl ?_
        refine r_icmpN_ne hX dX10_next_123 (by decide) (by decide) (fun c6 => ?_) (fun c6 => absurd c6 (by decide))
        refine r_aload_n hX dX10_next_189 rfl ?_
        refine r_getIV hX dX10_next_190 fl_X10_261 (hM.1 0 (9, 0) rfl) rfl (nI 0) up_s ?_
        refine r_iconst hX (nI 2) dX10_next_193 rfl ?_
        refine r_icmpN_ne hX dX10_next_194 (by decide) (by decide) (fun c7 => ?_) (fun c7 => absurd c7 (by decide))
        refine r_aload_n hX dX10_next_272 rfl ?_
        refine r_getIV hX dX10_next_273 fl_X10_261 (hM.1 0 (9, 0) rfl) rfl (nI 0) up_s ?_
        refine r_iconst hX (nI 3) dX10_next_276 rfl ?_
        refine r_icmpN_ne hX dX10_next_277 (by decide) (by decide) (fun c8 => ?_) (fun c8 => absurd c8 (by decide))
        refine r_aload_n hX dX10_next_295 rfl ?_
        refine r_aload_n hX dX10_next_296 rfl ?_
        refine r_getIV hX dX10_next_297 fl_X10_236 (hM.1 0 (9, 0) rfl) rfl (nI 0) (by rw [up_n (by omega), up_s]) ?_
        refine r_ifN_eq hX dX10_next_300 (by decide) (fun c9 => ?_) (fun c9 => absurd c9 (by decide))
        refine r_aload_n hX dX10_next_307 rfl ?_
        refine r_getIV hX dX10_next_308 fl_X10_261 (hM.1 0 (9, 0) rfl) rfl (nI 0) up_s ?_
        refine r_iconst hX (nI 2) dX10_next_311 rfl ?_
        refine r_icmpN_ne hX dX10_next_312 (by decide) (by decide) (fun c10 => ?_) (fun c10 => absurd c10 (by decide))
        refine r_aload_n hX dX10_next_327 rfl ?_
        refine r_getIV hX dX10_next_328 fl_X10_261 (hM.1 0 (9, 0) rfl) rfl (nI 0) up_s ?_
        refine r_putI hX dX10_next_331 fl_X10_261 (hM.1 0 (9, 0) rfl) rfl rfl rfl rfl ?_
        exact r_return hX hQ dX10_next_334 ⟨Nat.le_of_ble_eq_true rfl, Nat.le_of_ble_eq_true rfl⟩ (PV.mk (by have hlx : lxE P s = s := (by unfold lxE; rw [hc]; simp); have hq : nx P e ww = (s, 0, s, adj) := (by unfold nx; rw [← hs, hc, hlx, ← hadj]); rw [hq]; exact ⟨⟨(by rw [up_n (by omega), up_n (by omega), up_n (by omega), up_n (by omega), up_n (by omega), up_n (by omega)]; exact h20), (by rw [up_n (by omega), up_n (by omega), up_n (by omega), up_n (by omega), up_n (by omega), up_s]), (Eq.trans (b := nI 0) up_s (congrArg nI (by unfold mkN wwB; simp []; try omega))), (Eq.trans (b := nI 0) (by rw [up_n (by omega), up_n (by omega), up_n (by omega), up_n (by omega), up_s]) (congrArg nI (by unfold szN wwB; simp))), (Eq.trans (b := nI 0) (by rw [up_n (by omega), up_n (by omega), up_n (by omega), up_s]) (congrArg nI (by unfold vlN; simp))), (Eq.trans (b := nI 0) (by rw [up_n (by omega), up_n (by omega), up_s]) (bI_f rfl).symm)⟩, (Ex.up (Ex.up (Ex.up (Ex.up (Ex.up (Ex.up hEk rfl) rfl) rfl) rfl) rfl) rfl)⟩))
      · skip
        rw [hbt]
        have h256 := (hP.2.2 s hsP).2
        refine r_istore_n hX [(0, .ref (L.1 0)), (1, .int (bI adj)), (2, .int (nI (P.2 s)))] dX10_next_59 hN2 rfl ?_
        refine r_aload_n hX dX10_next_60 rfl ?_
        refine r_iload_n hX dX10_next_61 rfl ?_
        refine r_callSF (As := [.int (nI (P.2 s))]) (rest := [.ref (L.1 0)]) hX (c_X10_isLetter (up (up (up σk 0 21 (nI s)) 0 23 (nI 0)) 0 24 (nI 0)) (nI (P.2 s))) dX10_next_62 cb_X10_255 rfl rfl ⟨Nat.le_of_ble_eq_true rfl, Nat.le_of_ble_eq_true rfl⟩ ⟨Nat.le_of_ble_eq_true rfl, Nat.le_of_ble_eq_true rfl⟩ (Nat.le_of_ble_eq_true rfl) ?_
        refine r_ifB_ne hX dX10_next_65 (fun c11 => ?_) (fun c11 => absurd c11 (by rw [hLt]; decide))
        refine r_iconst hX (nI 1) dX10_next_75 rfl ?_
        refine r_goto hX dX10_next_76 ?_
        refine r_putI hX dX10_next_80 fl_X10_236 (hM.1 0 (9, 0) rfl) rfl rfl rfl rfl ?_
        refine r_aload_n hX dX10_next_83 rfl ?_
        refine r_iload_n hX dX10_next_84 rfl ?_
        refine r_ifN_ge hX dX10_next_85 (by omega) ?_
        refine r_iload_n hX dX10_next_92 rfl ?_
        refine r_callSF (As := [.int (nI (P.2 s))]) (rest := [.ref (L.1 0)]) hX (c_X10_isLetter (up (up (up (up σk 0 21 (nI s)) 0 23 (nI 0)) 0 24 (nI 0)) 0 25 (nI 1)) (nI (P.2 s))) dX10_next_93 cb_X10_255 rfl rfl ⟨Nat.le_of_ble_eq_true rfl, Nat.le_of_ble_eq_true rfl⟩ ⟨Nat.le_of_ble_eq_true rfl, Nat.le_of_ble_eq_true rfl⟩ (Nat.le_of_ble_eq_true rfl) ?_
        refine r_ifB_eq hX dX10_next_96 (fun c12 => absurd c12 (by rw [hLt]; decide)) (fun c12 => ?_)
        refine r_iconst hX (nI 1) dX10_next_99 rfl ?_
        refine r_goto hX dX10_next_100 ?_
        refine r_putI hX dX10_next_115 fl_X10_261 (hM.1 0 (9, 0) rfl) rfl rfl rfl rfl ?_
        have P13 : ∀ j, j ≤ rnn P 1 s - s → ∀ (σj : Me) (h20 : σj 0 20 = nI (s + j)) (h21 : σj 0 21 = nI s) (h22 : σj 0 22 = nI 1) (h23 : σj 0 23 = nI j) (h24 : σj 0 24 = nI (if j = 0 then 0 else P.2 s)) (h25 : σj 0 25 = nI 1) (hEj : Ex pX σ σj), At X L σj 0 0 [(0, .ref (L.1 0)), (1, .int (bI adj)), (2, .int (nI (P.2 s)))] 118 [] := by
          refine loopUp (rnn P 1 s - s) ?_ ?_
          · skip
            intro σj h20 h21 h22 h23 h24 h25 hEj
            have hPj := hP.ex hEj
            obtain ⟨r1, r2, r3, r4⟩ := rnn_ok P 1 g2
            have hpos := rnn_pos hc hsP
            rw [show s + (rnn P 1 s - s) = rnn P 1 s by omega] at h20
            refine r_aload_n hX dX10_next_118 rfl ?_
            refine r_getIV hX dX10_next_119 fl_X10_261 (hM.1 0 (9, 0) rfl) rfl (nI 1) h22 ?_
            refine r_iconst hX (nI 1) dX10_next_122 rfl ?_
            refine r_icmpN_ne hX dX10_next_123 (by decide) (by decide) (fun c14 => absurd c14 (by decide)) (fun c14 => ?_)
            refine r_aload_n hX dX10_next_126 rfl ?_
            refine r_aload_n hX dX10_next_127 rfl ?_
            refine r_getIV hX dX10_next_128 fl_X10_240 (hM.1 0 (9, 0) rfl) rfl (nI (rnn P 1 s)) h20 ?_
            refine r_callVF (As := [.int (nI (rnn P 1 s))]) (rest := []) hX (c_X10_byteAt hM σj P hPj (rnn P 1 s) (by omega)) dX10_next_131 cb_X10_243 (hM.1 0 (9, 0) rfl) rfl rfl ⟨Nat.le_of_ble_eq_true rfl, Nat.le_of_ble_eq_true rfl⟩ ⟨Nat.le_of_ble_eq_true rfl, Nat.le_of_ble_eq_true rfl⟩ (Nat.le_of_ble_eq_true rfl) ?_
            refine r_callSF (As := [.int (bt P (rnn P 1 s))]) (rest := []) hX (c_X10_isLetter σj (bt P (rnn P 1 s))) dX10_next_134 cb_X10_255 rfl rfl ⟨Nat.le_of_ble_eq_true rfl, Nat.le_of_ble_eq_true rfl⟩ ⟨Nat.le_of_ble_eq_true rfl, Nat.le_of_ble_eq_true rfl⟩ (Nat.le_of_ble_eq_true rfl) ?_
            refine r_ifB_eq hX dX10_next_137 (fun c15 => ?_) (fun c15 => absurd c15 (by rw [let_out (fun k hk => (hP.2.2 k hk).2) r4]; decide))
            refine r_aload_n hX dX10_next_189 rfl ?_
            refine r_getIV hX dX10_next_190 fl_X10_261 (hM.1 0 (9, 0) rfl) rfl (nI 1) h22 ?_
            refine r_iconst hX (nI 2) dX10_next_193 rfl ?_
            refine r_icmpN_ne hX dX10_next_194 (by decide) (by decide) (fun c16 => ?_) (fun c16 => absurd c16 (by decide))
            refine r_aload_n hX dX10_next_272 rfl ?_
            refine r_getIV hX dX10_next_273 fl_X10_261 (hM.1 0 (9, 0) rfl) rfl (nI 1) h22 ?_
            refine r_iconst hX (nI 3) dX10_next_276 rfl ?_
            refine r_icmpN_ne hX dX10_next_277 (by decide) (by decide) (fun c17 => ?_) (fun c17 => absurd c17 (by decide))
            refine r_aload_n hX dX10_next_295 rfl ?_
            refine r_aload_n hX dX10_next_296 rfl ?_
            refine r_getIV hX dX10_next_297 fl_X10_236 (hM.1 0 (9, 0) rfl) rfl (nI 1) h25 ?_
            refine r_ifN_eq hX dX10_next_300 (by decide) (fun c18 => absurd c18 (by decide)) (fun c18 => ?_)
            refine r_iload_n hX dX10_next_303 rfl ?_
            refine r_ifB_ne hX dX10_next_304 (fun c19 => ?_) (fun c19 => ?_)
            · skip
              refine r_iconst hX (nI 4) dX10_next_323 rfl ?_
              refine r_goto hX dX10_next_324 ?_
              refine r_putI hX dX10_next_331 fl_X10_261 (hM.1 0 (9, 0) rfl) rfl rfl rfl rfl ?_
              exact r_return hX hQ dX10_next_334 ⟨Nat.le_of_ble_eq_true rfl, Nat.le_of_ble_eq_true rfl⟩ (PV.mk (by have hlx : lxE P s = rnn P 1 s := (by unfold lxE; rw [hc]; simp); have hq : nx P e ww = (s, 1, rnn P 1 s, adj) := (by unfold nx; rw [← hs, hc, hlx, ← hadj]); rw [hq]; exact ⟨⟨(by rw [up_n (by omega)]; exact h20), (by rw [up_n (by omega)]; exact h21), (Eq.trans (b := nI 4) up_s (congrArg nI (by unfold mkN wwB; simp [c19]; try omega))), (Eq.trans (b := nI (rnn P 1 s - s)) (by rw [up_n (by omega)]; exact h23) (congrArg nI (by unfold szN wwB; simp))), (Eq.trans (b := nI (if rnn P 1 s - s = 0 then 0 else P.2 s)) (by rw [up_n (by omega)]; exact h24) (congrArg nI (by unfold vlN; simp; omega))), (Eq.trans (b := nI 1) (by rw [up_n (by omega)]; exact h25) (bI_t rfl).symm)⟩, (Ex.up hEj rfl)⟩))
            · skip
              refine r_aload_n hX dX10_next_307 rfl ?_
              refine r_getIV hX dX10_next_308 fl_X10_261 (hM.1 0 (9, 0) rfl) rfl (nI 1) h22 ?_
              refine r_iconst hX (nI 2) dX10_next_311 rfl ?_
              refine r_icmpN_ne hX dX10_next_312 (by decide) (by decide) (fun c20 => ?_) (fun c20 => absurd c20 (by decide))
              refine r_aload_n hX dX10_next_327 rfl ?_
              refine r_getIV hX dX10_next_328 fl_X10_261 (hM.1 0 (9, 0) rfl) rfl (nI 1) h22 ?_
              refine r_putI hX dX10_next_331 fl_X10_261 (hM.1 0 (9, 0) rfl) rfl rfl rfl rfl ?_
              exact r_return hX hQ dX10_next_334 ⟨Nat.le_of_ble_eq_true rfl, Nat.le_of_ble_eq_true rfl⟩ (PV.mk (by have hlx : lxE P s = rnn P 1 s := (by unfold lxE; rw [hc]; simp); have hq : nx P e ww = (s, 1, rnn P 1 s, adj) := (by unfold nx; rw [← hs, hc, hlx, ← hadj]); rw [hq]; exact ⟨⟨(by rw [up_n (by omega)]; exact h20), (by rw [up_n (by omega)]; exact h21), (Eq.trans (b := nI 1) up_s (congrArg nI (by unfold mkN wwB; simp [c19]; try omega))), (Eq.trans (b := nI (rnn P 1 s - s)) (by rw [up_n (by omega)]; exact h23) (congrArg nI (by unfold szN wwB; simp))), (Eq.trans (b := nI (if rnn P 1 s - s = 0 then 0 else P.2 s)) (by rw [up_n (by omega)]; exact h24) (congrArg nI (by unfold vlN; simp; omega))), (Eq.trans (b := nI 1) (by rw [up_n (by omega)]; exact h25) (bI_t rfl).symm)⟩, (Ex.up hEj rfl)⟩))
          · skip
            intro j hj ih21 σj h20 h21 h22 h23 h24 h25 hEj
            have hPj := hP.ex hEj
            obtain ⟨r1, r2, r3, r4⟩ := rnn_ok P 1 g2
            refine r_aload_n hX dX10_next_118 rfl ?_
            refine r_getIV hX dX10_next_119 fl_X10_261 (hM.1 0 (9, 0) rfl) rfl (nI 1) h22 ?_
            refine r_iconst hX (nI 1) dX10_next_122 rfl ?_
            refine r_icmpN_ne hX dX10_next_123 (by decide) (by decide) (fun c22 => absurd c22 (by decide)) (fun c22 => ?_)
            refine r_aload_n hX dX10_next_126 rfl ?_
            refine r_aload_n hX dX10_next_127 rfl ?_
            refine r_getIV hX dX10_next_128 fl_X10_240 (hM.1 0 (9, 0) rfl) rfl (nI (s + j)) h20 ?_
            refine r_callVF (As := [.int (nI (s + j))]) (rest := []) hX (c_X10_byteAt hM σj P hPj (s + j) (by omega)) dX10_next_131 cb_X10_243 (hM.1 0 (9, 0) rfl) rfl rfl ⟨Nat.le_of_ble_eq_true rfl, Nat.le_of_ble_eq_true rfl⟩ ⟨Nat.le_of_ble_eq_true rfl, Nat.le_of_ble_eq_true rfl⟩ (Nat.le_of_ble_eq_true rfl) ?_
            have hcj := r3 (s + j) (by omega) (by omega)
            have hj256 := (hP.2.2 (s + j) (by omega)).2
            rw [bt_lt (show s + j < P.1 by omega)]
            refine r_callSF (As := [.int (nI (P.2 (s + j)))]) (rest := []) hX (c_X10_isLetter σj (nI (P.2 (s + j)))) dX10_next_134 cb_X10_255 rfl rfl ⟨Nat.le_of_ble_eq_true rfl, Nat.le_of_ble_eq_true rfl⟩ ⟨Nat.le_of_ble_eq_true rfl, Nat.le_of_ble_eq_true rfl⟩ (Nat.le_of_ble_eq_true rfl) ?_
            refine r_ifB_eq hX dX10_next_137 (fun c23 => absurd c23 (by rw [let_in hcj]; decide)) (fun c23 => ?_)
            refine r_aload_n hX dX10_next_140 rfl ?_
            refine r_aload_n hX dX10_next_141 rfl ?_
            refine r_getIV hX dX10_next_142 fl_X10_249 (hM.1 0 (9, 0) rfl) rfl (nI j) h23 ?_
            refine r_ifN_ne hX dX10_next_145 (by omega) (fun c24 => ?_) (fun c24 => ?_)
            · skip
              refine r_aload_n hX dX10_next_159 rfl ?_
              refine r_getIV hX dX10_next_160 fl_X10_252 (hM.1 0 (9, 0) rfl) rfl (nI (if j = 0 then 0 else P.2 s)) h24 ?_
              refine r_putI hX dX10_next_163 fl_X10_252 (hM.1 0 (9, 0) rfl) rfl rfl rfl rfl ?_
              refine r_aload_n hX dX10_next_166 rfl ?_
              refine r_dup hX dX10_next_167 rfl ?_
              refine r_getIV hX dX10_next_168 fl_X10_249 (hM.1 0 (9, 0) rfl) rfl (nI j) (by rw [up_n (by omega)]; exact h23) ?_
              refine r_iconst hX (nI 1) dX10_next_171 rfl ?_
              refine r_iaddN hX dX10_next_172 ?_
              refine r_putI hX dX10_next_173 fl_X10_249 (hM.1 0 (9, 0) rfl) rfl rfl rfl rfl ?_
              refine r_aload_n hX dX10_next_176 rfl ?_
              refine r_dup hX dX10_next_177 rfl ?_
              refine r_getIV hX dX10_next_178 fl_X10_240 (hM.1 0 (9, 0) rfl) rfl (nI (s + j)) (by rw [up_n (by omega), up_n (by omega)]; exact h20) ?_
              refine r_iconst hX (nI 1) dX10_next_181 rfl ?_
              refine r_iaddN hX dX10_next_182 ?_
              refine r_putI hX dX10_next_183 fl_X10_240 (hM.1 0 (9, 0) rfl) rfl rfl rfl rfl ?_
              refine r_goto hX dX10_next_186 ?_
              exact At.to (ih21 _ up_s (by rw [up_n (by omega), up_n (by omega), up_n (by omega)]; exact h21) (by rw [up_n (by omega), up_n (by omega), up_n (by omega)]; exact h22) (by rw [up_n (by omega), up_s]) (Eq.trans (b := nI (if j = 0 then 0 else P.2 s)) (by rw [up_n (by omega), up_n (by omega), up_s]) (by rw [if_neg c24, if_neg (by omega)])) (by rw [up_n (by omega), up_n (by omega), up_n (by omega)]; exact h25) (Ex.up (Ex.up (Ex.up hEj rfl) rfl) rfl)) rfl rfl rfl
            · skip
              refine r_aload_n hX dX10_next_148 rfl ?_
              refine r_aload_n hX dX10_next_149 rfl ?_
              refine r_getIV hX dX10_next_150 fl_X10_240 (hM.1 0 (9, 0) rfl) rfl (nI (s + j)) h20 ?_
              refine r_callVF (As := [.int (nI (s + j))]) (rest := [.ref (L.1 0)]) hX (c_X10_byteAt hM σj P hPj (s + j) (by omega)) dX10_next_153 cb_X10_243 (hM.1 0 (9, 0) rfl) rfl rfl ⟨Nat.le_of_ble_eq_true rfl, Nat.le_of_ble_eq_true rfl⟩ ⟨Nat.le_of_ble_eq_true rfl, Nat.le_of_ble_eq_true rfl⟩ (Nat.le_of_ble_eq_true rfl) ?_
              have hcj := r3 (s + j) (by omega) (by omega)
              have hj256 := (hP.2.2 (s + j) (by omega)).2
              rw [bt_lt (show s + j < P.1 by omega)]
              refine r_goto hX dX10_next_156 ?_
              refine r_putI hX dX10_next_163 fl_X10_252 (hM.1 0 (9, 0) rfl) rfl rfl rfl rfl ?_
              refine r_aload_n hX dX10_next_166 rfl ?_
              refine r_dup hX dX10_next_167 rfl ?_
              refine r_getIV hX dX10_next_168 fl_X10_249 (hM.1 0 (9, 0) rfl) rfl (nI j) (by rw [up_n (by omega)]; exact h23) ?_
              refine r_iconst hX (nI 1) dX10_next_171 rfl ?_
              refine r_iaddN hX dX10_next_172 ?_
              refine r_putI hX dX10_next_173 fl_X10_249 (hM.1 0 (9, 0) rfl) rfl rfl rfl rfl ?_
              refine r_aload_n hX dX10_next_176 rfl ?_
              refine r_dup hX dX10_next_177 rfl ?_
              refine r_getIV hX dX10_next_178 fl_X10_240 (hM.1 0 (9, 0) rfl) rfl (nI (s + j)) (by rw [up_n (by omega), up_n (by omega)]; exact h20) ?_
              refine r_iconst hX (nI 1) dX10_next_181 rfl ?_
              refine r_iaddN hX dX10_next_182 ?_
              refine r_putI hX dX10_next_183 fl_X10_240 (hM.1 0 (9, 0) rfl) rfl rfl rfl rfl ?_
              refine r_goto hX dX10_next_186 ?_
              exact At.to (ih21 _ up_s (by rw [up_n (by omega), up_n (by omega), up_n (by omega)]; exact h21) (by rw [up_n (by omega), up_n (by omega), up_n (by omega)]; exact h22) (by rw [up_n (by omega), up_s]) (Eq.trans (b := nI (P.2 (s + j))) (by rw [up_n (by omega), up_n (by omega), up_s]) (by rw [show s + j = s by omega, if_neg (by omega)])) (by rw [up_n (by omega), up_n (by omega), up_n (by omega)]; exact h25) (Ex.up (Ex.up (Ex.up hEj rfl) rfl) rfl)) rfl rfl rfl
        exact At.to (P13 0 (Nat.zero_le _) _ (by rw [up_n (by omega), up_n (by omega), up_n (by omega), up_n (by omega), up_n (by omega)]; exact h20) (by rw [up_n (by omega), up_n (by omega), up_n (by omega), up_n (by omega), up_s]) up_s (by rw [up_n (by omega), up_n (by omega), up_n (by omega), up_s]) (Eq.trans (b := nI 0) (by rw [up_n (by omega), up_n (by omega), up_s]) rfl) (by rw [up_n (by omega), up_s]) (Ex.up (Ex.up (Ex.up (Ex.up (Ex.up hEk rfl) rfl) rfl) rfl) rfl)) rfl rfl rfl
      · skip
        rw [hbt]
        have h256 := (hP.2.2 s hsP).2
        refine r_istore_n hX [(0, .ref (L.1 0)), (1, .int (bI adj)), (2, .int (nI (P.2 s)))] dX10_next_59 hN2 rfl ?_
        refine r_aload_n hX dX10_next_60 rfl ?_
        refine r_iload_n hX dX10_next_61 rfl ?_
        refine r_callSF (As := [.int (nI (P.2 s))]) (rest := [.ref (L.1 0)]) hX (c_X10_isLetter (up (up (up σk 0 21 (nI s)) 0 23 (nI 0)) 0 24 (nI 0)) (nI (P.2 s))) dX10_next_62 cb_X10_255 rfl rfl ⟨Nat.le_of_ble_eq_true rfl, Nat.le_of_ble_eq_true rfl⟩ ⟨Nat.le_of_ble_eq_true rfl, Nat.le_of_ble_eq_true rfl⟩ (Nat.le_of_ble_eq_true rfl) ?_
        refine r_ifB_ne hX dX10_next_65 (fun c25 => absurd c25 (by rw [hLt]; decide)) (fun c25 => ?_)
        refine r_iload_n hX dX10_next_68 rfl ?_
        refine r_callSF (As := [.int (nI (P.2 s))]) (rest := [.ref (L.1 0)]) hX (c_X10_isDigit (up (up (up σk 0 21 (nI s)) 0 23 (nI 0)) 0 24 (nI 0)) (nI (P.2 s))) dX10_next_69 cb_X10_258 rfl rfl ⟨Nat.le_of_ble_eq_true rfl, Nat.le_of_ble_eq_true rfl⟩ ⟨Nat.le_of_ble_eq_true rfl, Nat.le_of_ble_eq_true rfl⟩ (Nat.le_of_ble_eq_true rfl) ?_
        refine r_ifB_eq hX dX10_next_72 (fun c26 => absurd c26 (by rw [hDg]; decide)) (fun c26 => ?_)
        refine r_iconst hX (nI 1) dX10_next_75 rfl ?_
        refine r_goto hX dX10_next_76 ?_
        refine r_putI hX dX10_next_80 fl_X10_236 (hM.1 0 (9, 0) rfl) rfl rfl rfl rfl ?_
        refine r_aload_n hX dX10_next_83 rfl ?_
        refine r_iload_n hX dX10_next_84 rfl ?_
        refine r_ifN_ge hX dX10_next_85 (by omega) ?_
        refine r_iload_n hX dX10_next_92 rfl ?_
        refine r_callSF (As := [.int (nI (P.2 s))]) (rest := [.ref (L.1 0)]) hX (c_X10_isLetter (up (up (up (up σk 0 21 (nI s)) 0 23 (nI 0)) 0 24 (nI 0)) 0 25 (nI 1)) (nI (P.2 s))) dX10_next_93 cb_X10_255 rfl rfl ⟨Nat.le_of_ble_eq_true rfl, Nat.le_of_ble_eq_true rfl⟩ ⟨Nat.le_of_ble_eq_true rfl, Nat.le_of_ble_eq_true rfl⟩ (Nat.le_of_ble_eq_true rfl) ?_
        refine r_ifB_eq hX dX10_next_96 (fun c27 => ?_) (fun c27 => absurd c27 (by rw [hLt]; decide))
        refine r_iload_n hX dX10_next_103 rfl ?_
        refine r_callSF (As := [.int (nI (P.2 s))]) (rest := [.ref (L.1 0)]) hX (c_X10_isDigit (up (up (up (up σk 0 21 (nI s)) 0 23 (nI 0)) 0 24 (nI 0)) 0 25 (nI 1)) (nI (P.2 s))) dX10_next_104 cb_X10_258 rfl rfl ⟨Nat.le_of_ble_eq_true rfl, Nat.le_of_ble_eq_true rfl⟩ ⟨Nat.le_of_ble_eq_true rfl, Nat.le_of_ble_eq_true rfl⟩ (Nat.le_of_ble_eq_true rfl) ?_
        refine r_ifB_eq hX dX10_next_107 (fun c28 => absurd c28 (by rw [hDg]; decide)) (fun c28 => ?_)
        refine r_iconst hX (nI 2) dX10_next_110 rfl ?_
        refine r_goto hX dX10_next_111 ?_
        refine r_putI hX dX10_next_115 fl_X10_261 (hM.1 0 (9, 0) rfl) rfl rfl rfl rfl ?_
        refine r_aload_n hX dX10_next_118 rfl ?_
        refine r_getIV hX dX10_next_119 fl_X10_261 (hM.1 0 (9, 0) rfl) rfl (nI 2) up_s ?_
        refine r_iconst hX (nI 1) dX10_next_122 rfl ?_
        refine r_icmpN_ne hX dX10_next_123 (by decide) (by decide) (fun c29 => ?_) (fun c29 => absurd c29 (by decide))
        have P30 : ∀ j, j ≤ rnn P 2 s - s → ∀ (σj : Me) (h20 : σj 0 20 = nI (s + j)) (h21 : σj 0 21 = nI s) (h22 : σj 0 22 = nI 2) (h23 : σj 0 23 = nI j) (h24 : σj 0 24 = nI (vD P s j)) (h25 : σj 0 25 = nI 1) (hEj : Ex pX σ σj), At X L σj 0 0 [(0, .ref (L.1 0)), (1, .int (bI adj)), (2, .int (nI (P.2 s)))] 189 [] := by
          refine loopUp (rnn P 2 s - s) ?_ ?_
          · skip
            intro σj h20 h21 h22 h23 h24 h25 hEj
            have hPj := hP.ex hEj
            obtain ⟨r1, r2, r3, r4⟩ := rnn_ok P 2 g2
            have hpos := rnn_pos hc hsP
            rw [show s + (rnn P 2 s - s) = rnn P 2 s by omega] at h20
            refine r_aload_n hX dX10_next_189 rfl ?_
            refine r_getIV hX dX10_next_190 fl_X10_261 (hM.1 0 (9, 0) rfl) rfl (nI 2) h22 ?_
            refine r_iconst hX (nI 2) dX10_next_193 rfl ?_
            refine r_icmpN_ne hX dX10_next_194 (by decide) (by decide) (fun c31 => absurd c31 (by decide)) (fun c31 => ?_)
            refine r_aload_n hX dX10_next_197 rfl ?_
            refine r_aload_n hX dX10_next_198 rfl ?_
            refine r_getIV hX dX10_next_199 fl_X10_240 (hM.1 0 (9, 0) rfl) rfl (nI (rnn P 2 s)) h20 ?_
            refine r_callVF (As := [.int (nI (rnn P 2 s))]) (rest := []) hX (c_X10_byteAt hM σj P hPj (rnn P 2 s) (by omega)) dX10_next_202 cb_X10_243 (hM.1 0 (9, 0) rfl) rfl rfl ⟨Nat.le_of_ble_eq_true rfl, Nat.le_of_ble_eq_true rfl⟩ ⟨Nat.le_of_ble_eq_true rfl, Nat.le_of_ble_eq_true rfl⟩ (Nat.le_of_ble_eq_true rfl) ?_
            refine r_callSF (As := [.int (bt P (rnn P 2 s))]) (rest := []) hX (c_X10_isDigit σj (bt P (rnn P 2 s))) dX10_next_205 cb_X10_258 rfl rfl ⟨Nat.le_of_ble_eq_true rfl, Nat.le_of_ble_eq_true rfl⟩ ⟨Nat.le_of_ble_eq_true rfl, Nat.le_of_ble_eq_true rfl⟩ (Nat.le_of_ble_eq_true rfl) ?_
            refine r_ifB_eq hX dX10_next_208 (fun c32 => ?_) (fun c32 => absurd c32 (by rw [dig_out (fun k hk => (hP.2.2 k hk).2) r4]; decide))
            refine r_aload_n hX dX10_next_272 rfl ?_
            refine r_getIV hX dX10_next_273 fl_X10_261 (hM.1 0 (9, 0) rfl) rfl (nI 2) h22 ?_
            refine r_iconst hX (nI 3) dX10_next_276 rfl ?_
            refine r_icmpN_ne hX dX10_next_277 (by decide) (by decide) (fun c33 => ?_) (fun c33 => absurd c33 (by decide))
            refine r_aload_n hX dX10_next_295 rfl ?_
            refine r_aload_n hX dX10_next_296 rfl ?_
            refine r_getIV hX dX10_next_297 fl_X10_236 (hM.1 0 (9, 0) rfl) rfl (nI 1) h25 ?_
            refine r_ifN_eq hX dX10_next_300 (by decide) (fun c34 => absurd c34 (by decide)) (fun c34 => ?_)
            refine r_iload_n hX dX10_next_303 rfl ?_
            refine r_ifB_ne hX dX10_next_304 (fun c35 => ?_) (fun c35 => ?_)
            · skip
              refine r_iconst hX (nI 4) dX10_next_323 rfl ?_
              refine r_goto hX dX10_next_324 ?_
              refine r_putI hX dX10_next_331 fl_X10_261 (hM.1 0 (9, 0) rfl) rfl rfl rfl rfl ?_
              exact r_return hX hQ dX10_next_334 ⟨Nat.le_of_ble_eq_true rfl, Nat.le_of_ble_eq_true rfl⟩ (PV.mk (by have hlx : lxE P s = rnn P 2 s := (by unfold lxE; rw [hc]; simp); have hq : nx P e ww = (s, 2, rnn P 2 s, adj) := (by unfold nx; rw [← hs, hc, hlx, ← hadj]); rw [hq]; exact ⟨⟨(by rw [up_n (by omega)]; exact h20), (by rw [up_n (by omega)]; exact h21), (Eq.trans (b := nI 4) up_s (congrArg nI (by unfold mkN wwB; simp [c35]; try omega))), (Eq.trans (b := nI (rnn P 2 s - s)) (by rw [up_n (by omega)]; exact h23) (congrArg nI (by unfold szN wwB; simp))), (Eq.trans (b := nI (vD P s (rnn P 2 s - s))) (by rw [up_n (by omega)]; exact h24) (congrArg nI (by unfold vlN; simp))), (Eq.trans (b := nI 1) (by rw [up_n (by omega)]; exact h25) (bI_t rfl).symm)⟩, (Ex.up hEj rfl)⟩))
            · skip
              refine r_aload_n hX dX10_next_307 rfl ?_
              refine r_getIV hX dX10_next_308 fl_X10_261 (hM.1 0 (9, 0) rfl) rfl (nI 2) h22 ?_
              refine r_iconst hX (nI 2) dX10_next_311 rfl ?_
              refine r_icmpN_ne hX dX10_next_312 (by decide) (by decide) (fun c36 => absurd c36 (by decide)) (fun c36 => ?_)
              refine r_aload_n hX dX10_next_315 rfl ?_
              refine r_getIV hX dX10_next_316 fl_X10_249 (hM.1 0 (9, 0) rfl) rfl (nI (rnn P 2 s - s)) h23 ?_
              refine r_iconst hX (nI 4) dX10_next_319 rfl ?_
              refine r_icmpN_le hX dX10_next_320 (by omega) (by decide) (fun c37 => ?_) (fun c37 => ?_)
              · skip
                refine r_aload_n hX dX10_next_327 rfl ?_
                refine r_getIV hX dX10_next_328 fl_X10_261 (hM.1 0 (9, 0) rfl) rfl (nI 2) h22 ?_
                refine r_putI hX dX10_next_331 fl_X10_261 (hM.1 0 (9, 0) rfl) rfl rfl rfl rfl ?_
                exact r_return hX hQ dX10_next_334 ⟨Nat.le_of_ble_eq_true rfl, Nat.le_of_ble_eq_true rfl⟩ (PV.mk (by have hlx : lxE P s = rnn P 2 s := (by unfold lxE; rw [hc]; simp); have hq : nx P e ww = (s, 2, rnn P 2 s, adj) := (by unfold nx; rw [← hs, hc, hlx, ← hadj]); rw [hq]; exact ⟨⟨(by rw [up_n (by omega)]; exact h20), (by rw [up_n (by omega)]; exact h21), (Eq.trans (b := nI 2) up_s (congrArg nI (by unfold mkN wwB; simp [c35, c37]; try omega))), (Eq.trans (b := nI (rnn P 2 s - s)) (by rw [up_n (by omega)]; exact h23) (congrArg nI (by unfold szN wwB; simp))), (Eq.trans (b := nI (vD P s (rnn P 2 s - s))) (by rw [up_n (by omega)]; exact h24) (congrArg nI (by unfold vlN; simp))), (Eq.trans (b := nI 1) (by rw [up_n (by omega)]; exact h25) (bI_t rfl).symm)⟩, (Ex.up hEj rfl)⟩))
              · skip
                refine r_iconst hX (nI 4) dX10_next_323 rfl ?_
                refine r_goto hX dX10_next_324 ?_
                refine r_putI hX dX10_next_331 fl_X10_261 (hM.1 0 (9, 0) rfl) rfl rfl rfl rfl ?_
                exact r_return hX hQ dX10_next_334 ⟨Nat.le_of_ble_eq_true rfl, Nat.le_of_ble_eq_true rfl⟩ (PV.mk (by have hlx : lxE P s = rnn P 2 s := (by unfold lxE; rw [hc]; simp); have hq : nx P e ww = (s, 2, rnn P 2 s, adj) := (by unfold nx; rw [← hs, hc, hlx, ← hadj]); rw [hq]; exact ⟨⟨(by rw [up_n (by omega)]; exact h20), (by rw [up_n (by omega)]; exact h21), (Eq.trans (b := nI 4) up_s (congrArg nI (by unfold mkN wwB; simp [c35, c37]; try omega))), (Eq.trans (b := nI (rnn P 2 s - s)) (by rw [up_n (by omega)]; exact h23) (congrArg nI (by unfold szN wwB; simp))), (Eq.trans (b := nI (vD P s (rnn P 2 s - s))) (by rw [up_n (by omega)]; exact h24) (congrArg nI (by unfold vlN; simp))), (Eq.trans (b := nI 1) (by rw [up_n (by omega)]; exact h25) (bI_t rfl).symm)⟩, (Ex.up hEj rfl)⟩))
          · skip
            intro j hj ih38 σj h20 h21 h22 h23 h24 h25 hEj
            have hPj := hP.ex hEj
            obtain ⟨r1, r2, r3, r4⟩ := rnn_ok P 2 g2
            refine r_aload_n hX dX10_next_189 rfl ?_
            refine r_getIV hX dX10_next_190 fl_X10_261 (hM.1 0 (9, 0) rfl) rfl (nI 2) h22 ?_
            refine r_iconst hX (nI 2) dX10_next_193 rfl ?_
            refine r_icmpN_ne hX dX10_next_194 (by decide) (by decide) (fun c39 => absurd c39 (by decide)) (fun c39 => ?_)
            refine r_aload_n hX dX10_next_197 rfl ?_
            refine r_aload_n hX dX10_next_198 rfl ?_
            refine r_getIV hX dX10_next_199 fl_X10_240 (hM.1 0 (9, 0) rfl) rfl (nI (s + j)) h20 ?_
            refine r_callVF (As := [.int (nI (s + j))]) (rest := []) hX (c_X10_byteAt hM σj P hPj (s + j) (by omega)) dX10_next_202 cb_X10_243 (hM.1 0 (9, 0) rfl) rfl rfl ⟨Nat.le_of_ble_eq_true rfl, Nat.le_of_ble_eq_true rfl⟩ ⟨Nat.le_of_ble_eq_true rfl, Nat.le_of_ble_eq_true rfl⟩ (Nat.le_of_ble_eq_true rfl) ?_
            have hcj := r3 (s + j) (by omega) (by omega)
            have hj256 := (hP.2.2 (s + j) (by omega)).2
            rw [bt_lt (show s + j < P.1 by omega)]
            refine r_callSF (As := [.int (nI (P.2 (s + j)))]) (rest := []) hX (c_X10_isDigit σj (nI (P.2 (s + j)))) dX10_next_205 cb_X10_258 rfl rfl ⟨Nat.le_of_ble_eq_true rfl, Nat.le_of_ble_eq_true rfl⟩ ⟨Nat.le_of_ble_eq_true rfl, Nat.le_of_ble_eq_true rfl⟩ (Nat.le_of_ble_eq_true rfl) ?_
            refine r_ifB_eq hX dX10_next_208 (fun c40 => absurd c40 (by rw [inB_mk (dig_in hcj).1 (dig_in hcj).2 (by decide)]; decide)) (fun c40 => ?_)
            refine r_aload_n hX dX10_next_211 rfl ?_
            refine r_aload_n hX dX10_next_212 rfl ?_
            refine r_getIV hX dX10_next_213 fl_X10_249 (hM.1 0 (9, 0) rfl) rfl (nI j) h23 ?_
            refine r_iconst hX (nI 4) dX10_next_216 rfl ?_
            refine r_icmpN_ge hX dX10_next_217 (by omega) (by decide) (fun c41 => ?_) (fun c41 => ?_)
            · skip
              refine r_aload_n hX dX10_next_242 rfl ?_
              refine r_getIV hX dX10_next_243 fl_X10_252 (hM.1 0 (9, 0) rfl) rfl (nI (vD P s j)) h24 ?_
              refine r_putI hX dX10_next_246 fl_X10_252 (hM.1 0 (9, 0) rfl) rfl rfl rfl rfl ?_
              refine r_aload_n hX dX10_next_249 rfl ?_
              refine r_dup hX dX10_next_250 rfl ?_
              refine r_getIV hX dX10_next_251 fl_X10_249 (hM.1 0 (9, 0) rfl) rfl (nI j) (by rw [up_n (by omega)]; exact h23) ?_
              refine r_iconst hX (nI 1) dX10_next_254 rfl ?_
              refine r_iaddN hX dX10_next_255 ?_
              refine r_putI hX dX10_next_256 fl_X10_249 (hM.1 0 (9, 0) rfl) rfl rfl rfl rfl ?_
              refine r_aload_n hX dX10_next_259 rfl ?_
              refine r_dup hX dX10_next_260 rfl ?_
              refine r_getIV hX dX10_next_261 fl_X10_240 (hM.1 0 (9, 0) rfl) rfl (nI (s + j)) (by rw [up_n (by omega), up_n (by omega)]; exact h20) ?_
              refine r_iconst hX (nI 1) dX10_next_264 rfl ?_
              refine r_iaddN hX dX10_next_265 ?_
              refine r_putI hX dX10_next_266 fl_X10_240 (hM.1 0 (9, 0) rfl) rfl rfl rfl rfl ?_
              refine r_goto hX dX10_next_269 ?_
              exact At.to (ih38 _ up_s (by rw [up_n (by omega), up_n (by omega), up_n (by omega)]; exact h21) (by rw [up_n (by omega), up_n (by omega), up_n (by omega)]; exact h22) (by rw [up_n (by omega), up_s]) (Eq.trans (b := nI (vD P s j)) (by rw [up_n (by omega), up_n (by omega), up_s]) (by rw [vD, if_neg (by omega)])) (by rw [up_n (by omega), up_n (by omega), up_n (by omega)]; exact h25) (Ex.up (Ex.up (Ex.up hEj rfl) rfl) rfl)) rfl rfl rfl
            · skip
              refine r_bipush hX (nI 10) dX10_next_220 rfl ?_
              refine r_aload_n hX dX10_next_222 rfl ?_
              refine r_getIV hX dX10_next_223 fl_X10_252 (hM.1 0 (9, 0) rfl) rfl (nI (vD P s j)) h24 ?_
              refine r_imulN hX dX10_next_226 ?_
              refine r_aload_n hX dX10_next_227 rfl ?_
              refine r_aload_n hX dX10_next_228 rfl ?_
              refine r_getIV hX dX10_next_229 fl_X10_240 (hM.1 0 (9, 0) rfl) rfl (nI (s + j)) h20 ?_
              refine r_callVF (As := [.int (nI (s + j))]) (rest := [.int (nI (10 * (vD P s j))), .ref (L.1 0)]) hX (c_X10_byteAt hM σj P hPj (s + j) (by omega)) dX10_next_232 cb_X10_243 (hM.1 0 (9, 0) rfl) rfl rfl ⟨Nat.le_of_ble_eq_true rfl, Nat.le_of_ble_eq_true rfl⟩ ⟨Nat.le_of_ble_eq_true rfl, Nat.le_of_ble_eq_true rfl⟩ (Nat.le_of_ble_eq_true rfl) ?_
              have hcj := r3 (s + j) (by omega) (by omega)
              have hj256 := (hP.2.2 (s + j) (by omega)).2
              rw [bt_lt (show s + j < P.1 by omega)]
              have hdg := dig_in hcj
              refine r_iaddN hX dX10_next_235 ?_
              refine r_bipush hX (nI 48) dX10_next_236 rfl ?_
              refine r_isubN hX dX10_next_238 (by omega) ?_
              refine r_goto hX dX10_next_239 ?_
              refine r_putI hX dX10_next_246 fl_X10_252 (hM.1 0 (9, 0) rfl) rfl rfl rfl rfl ?_
              refine r_aload_n hX dX10_next_249 rfl ?_
              refine r_dup hX dX10_next_250 rfl ?_
              refine r_getIV hX dX10_next_251 fl_X10_249 (hM.1 0 (9, 0) rfl) rfl (nI j) (by rw [up_n (by omega)]; exact h23) ?_
              refine r_iconst hX (nI 1) dX10_next_254 rfl ?_
              refine r_iaddN hX dX10_next_255 ?_
              refine r_putI hX dX10_next_256 fl_X10_249 (hM.1 0 (9, 0) rfl) rfl rfl rfl rfl ?_
              refine r_aload_n hX dX10_next_259 rfl ?_
              refine r_dup hX dX10_next_260 rfl ?_
              refine r_getIV hX dX10_next_261 fl_X10_240 (hM.1 0 (9, 0) rfl) rfl (nI (s + j)) (by rw [up_n (by omega), up_n (by omega)]; exact h20) ?_
              refine r_iconst hX (nI 1) dX10_next_264 rfl ?_
              refine r_iaddN hX dX10_next_265 ?_
              refine r_putI hX dX10_next_266 fl_X10_240 (hM.1 0 (9, 0) rfl) rfl rfl rfl rfl ?_
              refine r_goto hX dX10_next_269 ?_
              exact At.to (ih38 _ up_s (by rw [up_n (by omega), up_n (by omega), up_n (by omega)]; exact h21) (by rw [up_n (by omega), up_n (by omega), up_n (by omega)]; exact h22) (by rw [up_n (by omega), up_s]) (Eq.trans (b := nI (10 * (vD P s j) + (P.2 (s + j)) - 48)) (by rw [up_n (by omega), up_n (by omega), up_s]) (by rw [vD, if_pos c41]; congr 1; omega)) (by rw [up_n (by omega), up_n (by omega), up_n (by omega)]; exact h25) (Ex.up (Ex.up (Ex.up hEj rfl) rfl) rfl)) rfl rfl rfl
        exact At.to (P30 0 (Nat.zero_le _) _ (by rw [up_n (by omega), up_n (by omega), up_n (by omega), up_n (by omega), up_n (by omega)]; exact h20) (by rw [up_n (by omega), up_n (by omega), up_n (by omega), up_n (by omega), up_s]) up_s (by rw [up_n (by omega), up_n (by omega), up_n (by omega), up_s]) (Eq.trans (b := nI 0) (by rw [up_n (by omega), up_n (by omega), up_s]) rfl) (by rw [up_n (by omega), up_s]) (Ex.up (Ex.up (Ex.up (Ex.up (Ex.up hEk rfl) rfl) rfl) rfl) rfl)) rfl rfl rfl
      · skip
        rw [hbt]
        have h256 := (hP.2.2 s hsP).2
        refine r_istore_n hX [(0, .ref (L.1 0)), (1, .int (bI adj)), (2, .int (nI (P.2 s)))] dX10_next_59 hN2 rfl ?_
        refine r_aload_n hX dX10_next_60 rfl ?_
        refine r_iload_n hX dX10_next_61 rfl ?_
        refine r_callSF (As := [.int (nI (P.2 s))]) (rest := [.ref (L.1 0)]) hX (c_X10_isLetter (up (up (up σk 0 21 (nI s)) 0 23 (nI 0)) 0 24 (nI 0)) (nI (P.2 s))) dX10_next_62 cb_X10_255 rfl rfl ⟨Nat.le_of_ble_eq_true rfl, Nat.le_of_ble_eq_true rfl⟩ ⟨Nat.le_of_ble_eq_true rfl, Nat.le_of_ble_eq_true rfl⟩ (Nat.le_of_ble_eq_true rfl) ?_
        refine r_ifB_ne hX dX10_next_65 (fun c42 => absurd c42 (by rw [hLt]; decide)) (fun c42 => ?_)
        refine r_iload_n hX dX10_next_68 rfl ?_
        refine r_callSF (As := [.int (nI (P.2 s))]) (rest := [.ref (L.1 0)]) hX (c_X10_isDigit (up (up (up σk 0 21 (nI s)) 0 23 (nI 0)) 0 24 (nI 0)) (nI (P.2 s))) dX10_next_69 cb_X10_258 rfl rfl ⟨Nat.le_of_ble_eq_true rfl, Nat.le_of_ble_eq_true rfl⟩ ⟨Nat.le_of_ble_eq_true rfl, Nat.le_of_ble_eq_true rfl⟩ (Nat.le_of_ble_eq_true rfl) ?_
        refine r_ifB_eq hX dX10_next_72 (fun c43 => ?_) (fun c43 => absurd c43 (by rw [hDg]; decide))
        refine r_iconst hX (nI 0) dX10_next_79 rfl ?_
        refine r_putI hX dX10_next_80 fl_X10_236 (hM.1 0 (9, 0) rfl) rfl rfl rfl rfl ?_
        refine r_aload_n hX dX10_next_83 rfl ?_
        refine r_iload_n hX dX10_next_84 rfl ?_
        refine r_ifN_ge hX dX10_next_85 (by omega) ?_
        refine r_iload_n hX dX10_next_92 rfl ?_
        refine r_callSF (As := [.int (nI (P.2 s))]) (rest := [.ref (L.1 0)]) hX (c_X10_isLetter (up (up (up (up σk 0 21 (nI s)) 0 23 (nI 0)) 0 24 (nI 0)) 0 25 (nI 0)) (nI (P.2 s))) dX10_next_93 cb_X10_255 rfl rfl ⟨Nat.le_of_ble_eq_true rfl, Nat.le_of_ble_eq_true rfl⟩ ⟨Nat.le_of_ble_eq_true rfl, Nat.le_of_ble_eq_true rfl⟩ (Nat.le_of_ble_eq_true rfl) ?_
        refine r_ifB_eq hX dX10_next_96 (fun c44 => ?_) (fun c44 => absurd c44 (by rw [hLt]; decide))
        refine r_iload_n hX dX10_next_103 rfl ?_
        refine r_callSF (As := [.int (nI (P.2 s))]) (rest := [.ref (L.1 0)]) hX (c_X10_isDigit (up (up (up (up σk 0 21 (nI s)) 0 23 (nI 0)) 0 24 (nI 0)) 0 25 (nI 0)) (nI (P.2 s))) dX10_next_104 cb_X10_258 rfl rfl ⟨Nat.le_of_ble_eq_true rfl, Nat.le_of_ble_eq_true rfl⟩ ⟨Nat.le_of_ble_eq_true rfl, Nat.le_of_ble_eq_true rfl⟩ (Nat.le_of_ble_eq_true rfl) ?_
        refine r_ifB_eq hX dX10_next_107 (fun c45 => ?_) (fun c45 => absurd c45 (by rw [hDg]; decide))
        refine r_iconst hX (nI 3) dX10_next_114 rfl ?_
        refine r_putI hX dX10_next_115 fl_X10_261 (hM.1 0 (9, 0) rfl) rfl rfl rfl rfl ?_
        refine r_aload_n hX dX10_next_118 rfl ?_
        refine r_getIV hX dX10_next_119 fl_X10_261 (hM.1 0 (9, 0) rfl) rfl (nI 3) up_s ?_
        refine r_iconst hX (nI 1) dX10_next_122 rfl ?_
        refine r_icmpN_ne hX dX10_next_123 (by decide) (by decide) (fun c46 => ?_) (fun c46 => absurd c46 (by decide))
        refine r_aload_n hX dX10_next_189 rfl ?_
        refine r_getIV hX dX10_next_190 fl_X10_261 (hM.1 0 (9, 0) rfl) rfl (nI 3) up_s ?_
        refine r_iconst hX (nI 2) dX10_next_193 rfl ?_
        refine r_icmpN_ne hX dX10_next_194 (by decide) (by decide) (fun c47 => ?_) (fun c47 => absurd c47 (by decide))
        refine r_aload_n hX dX10_next_272 rfl ?_
        refine r_getIV hX dX10_next_273 fl_X10_261 (hM.1 0 (9, 0) rfl) rfl (nI 3) up_s ?_
        refine r_iconst hX (nI 3) dX10_next_276 rfl ?_
        refine r_icmpN_ne hX dX10_next_277 (by decide) (by decide) (fun c48 => absurd c48 (by decide)) (fun c48 => ?_)
        refine r_aload_n hX dX10_next_280 rfl ?_
        refine r_iload_n hX dX10_next_281 rfl ?_
        refine r_putI hX dX10_next_282 fl_X10_252 (hM.1 0 (9, 0) rfl) rfl rfl rfl rfl ?_
        refine r_aload_n hX dX10_next_285 rfl ?_
        refine r_dup hX dX10_next_286 rfl ?_
        refine r_getIV hX dX10_next_287 fl_X10_240 (hM.1 0 (9, 0) rfl) rfl (nI s) (by rw [up_n (by omega), up_n (by omega), up_n (by omega), up_n (by omega), up_n (by omega), up_n (by omega)]; exact h20) ?_
        refine r_iconst hX (nI 1) dX10_next_290 rfl ?_
        refine r_iaddN hX dX10_next_291 ?_
        refine r_putI hX dX10_next_292 fl_X10_240 (hM.1 0 (9, 0) rfl) rfl rfl rfl rfl ?_
        refine r_aload_n hX dX10_next_295 rfl ?_
        refine r_aload_n hX dX10_next_296 rfl ?_
        refine r_getIV hX dX10_next_297 fl_X10_236 (hM.1 0 (9, 0) rfl) rfl (nI 0) (by rw [up_n (by omega), up_n (by omega), up_n (by omega), up_s]) ?_
        refine r_ifN_eq hX dX10_next_300 (by decide) (fun c49 => ?_) (fun c49 => absurd c49 (by decide))
        refine r_aload_n hX dX10_next_307 rfl ?_
        refine r_getIV hX dX10_next_308 fl_X10_261 (hM.1 0 (9, 0) rfl) rfl (nI 3) (by rw [up_n (by omega), up_n (by omega), up_s]) ?_
        refine r_iconst hX (nI 2) dX10_next_311 rfl ?_
        refine r_icmpN_ne hX dX10_next_312 (by decide) (by decide) (fun c50 => ?_) (fun c50 => absurd c50 (by decide))
        refine r_aload_n hX dX10_next_327 rfl ?_
        refine r_getIV hX dX10_next_328 fl_X10_261 (hM.1 0 (9, 0) rfl) rfl (nI 3) (by rw [up_n (by omega), up_n (by omega), up_s]) ?_
        refine r_putI hX dX10_next_331 fl_X10_261 (hM.1 0 (9, 0) rfl) rfl rfl rfl rfl ?_
        exact r_return hX hQ dX10_next_334 ⟨Nat.le_of_ble_eq_true rfl, Nat.le_of_ble_eq_true rfl⟩ (PV.mk (by have hlx : lxE P s = s + 1 := (by unfold lxE; rw [hc]; simp); have hq : nx P e ww = (s, 3, s + 1, adj) := (by unfold nx; rw [← hs, hc, hlx, ← hadj]); rw [hq]; exact ⟨⟨(by rw [up_n (by omega), up_s]), (by rw [up_n (by omega), up_n (by omega), up_n (by omega), up_n (by omega), up_n (by omega), up_n (by omega), up_n (by omega), up_s]), (Eq.trans (b := nI 3) up_s (congrArg nI (by unfold mkN wwB; simp []; try omega))), (Eq.trans (b := nI 0) (by rw [up_n (by omega), up_n (by omega), up_n (by omega), up_n (by omega), up_n (by omega), up_n (by omega), up_s]) (congrArg nI (by unfold szN wwB; simp))), (Eq.trans (b := nI (P.2 s)) (by rw [up_n (by omega), up_n (by omega), up_s]) (congrArg nI (by unfold vlN; simp))), (Eq.trans (b := nI 0) (by rw [up_n (by omega), up_n (by omega), up_n (by omega), up_n (by omega), up_s]) (bI_f rfl).symm)⟩, (Ex.up (Ex.up (Ex.up (Ex.up (Ex.up (Ex.up (Ex.up (Ex.up hEk rfl) rfl) rfl) rfl) rfl) rfl) rfl) rfl)⟩))
    · skip
      intro k hk ih51 σk h20 h25 hEk
      have hPk := hP.ex hEk
      refine r_aload_n hX dX10_next_5 rfl ?_
      refine r_aload_n hX dX10_next_6 rfl ?_
      refine r_getIV hX dX10_next_7 fl_X10_240 (hM.1 0 (9, 0) rfl) rfl (nI (e + k)) h20 ?_
      refine r_callVF (As := [.int (nI (e + k))]) (rest := []) hX (c_X10_byteAt hM σk P hPk (e + k) (by omega)) dX10_next_10 cb_X10_243 (hM.1 0 (9, 0) rfl) rfl rfl ⟨Nat.le_of_ble_eq_true rfl, Nat.le_of_ble_eq_true rfl⟩ ⟨Nat.le_of_ble_eq_true rfl, Nat.le_of_ble_eq_true rfl⟩ (Nat.le_of_ble_eq_true rfl) ?_
      rw [show bt P (e + k) = nI 32 from by rw [bt_lt (by omega), g3 (e + k) (by omega) (by omega)]]
      refine r_bipush hX (nI 32) dX10_next_13 rfl ?_
      refine r_icmpN_ne hX dX10_next_15 (by decide) (by decide) (fun c52 => absurd c52 (by decide)) (fun c52 => ?_)
      refine r_aload_n hX dX10_next_18 rfl ?_
      refine r_dup hX dX10_next_19 rfl ?_
      refine r_getIV hX dX10_next_20 fl_X10_240 (hM.1 0 (9, 0) rfl) rfl (nI (e + k)) h20 ?_
      refine r_iconst hX (nI 1) dX10_next_23 rfl ?_
      refine r_iaddN hX dX10_next_24 ?_
      refine r_putI hX dX10_next_25 fl_X10_240 (hM.1 0 (9, 0) rfl) rfl rfl rfl rfl ?_
      refine r_iconst hX (nI 0) dX10_next_28 rfl ?_
      refine r_istore_n hX [(0, .ref (L.1 0)), (1, .int (nI 0))] dX10_next_29 hN1 rfl ?_
      refine r_goto hX dX10_next_30 ?_
      have q53 : bI (ww && decide ((k + 1) = 0)) = nI 0 := (by simp [bI])
      exact At.to (ih51 _ up_s (by rw [up_n (by omega)]; exact h25) (Ex.up hEk rfl)) (by rw [q53]) rfl rfl
  exact At.to (P1 0 (Nat.zero_le _) σ h20 h25 (Ex.rf σ)) (by simp) rfl rfl
