set_option maxHeartbeats 4000000 in
set_option maxRecDepth 100000 in
theorem c_X10_isMark {l : Launch} {D : Ds} {L : La} (hM : MAt L) (σ : Me) (P : Tp) (key o nt : Nat) (q : Lx) (C : List Nat) (n : Nat) (hps : PS σ P key o nt q C n) (lok : Lok P q) (c : Nat) (hc : c < 256) : Ct l yX10_isMark cX10_isMark 2 (some .boolean) { frames := 0, cells := 0, slots := 0, locals := 0 } D L σ [.ref (L.1 0), .int (nI c)] (PF L σ (bI (sgB P q c))) := by
  refine Ct.of (by decide) (Nat.le_of_ble_eq_true rfl) ?_
  intro X hl hD hnl hX0 hQ
  have hX : Ok X cX10_isMark RX10 "isMark" { frames := 0, cells := 0, slots := 0, locals := 0 } (some .boolean) := hX0
  have hlx := lex_le (fun k hk => (hps.1.2.2 k hk).2) lok
  have hP96 := hps.1.2.1
  show At X L σ 0 0 [(0, .ref (L.1 0)), (1, .int (nI c))] 0 []
  refine r_aload_n hX dX10_isMark_0 rfl ?_
  refine r_getIV hX dX10_isMark_1 fl_X10_264 (hM.1 0 (9, 0) rfl) rfl (nI 0) hps.2.2.1 ?_
  refine r_ifN_ne hX dX10_isMark_4 (by decide) (fun c1 => absurd c1 (by decide)) (fun c1 => ?_)
  refine r_aload_n hX dX10_isMark_7 rfl ?_
  refine r_getIV hX dX10_isMark_8 fl_X10_261 (hM.1 0 (9, 0) rfl) rfl (nI (mkN q)) hps.2.1.2.2.1 ?_
  refine r_iconst hX (nI 3) dX10_isMark_11 rfl ?_
  refine r_icmpN_ne hX dX10_isMark_12 (by omega) (by decide) (fun c2 => ?_) (fun c2 => ?_)
  · skip
    refine r_iconst hX (nI 0) dX10_isMark_27 rfl ?_
    exact r_zreturn hX hQ dX10_isMark_28 ⟨Nat.le_of_ble_eq_true rfl, Nat.le_of_ble_eq_true rfl⟩ rfl (PF.mk (bI_f (by unfold sgB; rw [decide_eq_false (fun e => c2 (mk3.mpr e))]; rfl)).symm)
  · skip
    refine r_aload_n hX dX10_isMark_15 rfl ?_
    refine r_getIV hX dX10_isMark_16 fl_X10_252 (hM.1 0 (9, 0) rfl) rfl (nI (vlN P q)) hps.2.1.2.2.2.2.1 ?_
    refine r_iload_n hX dX10_isMark_19 rfl ?_
    refine r_icmpN_ne hX dX10_isMark_20 (by omega) (by omega) (fun c3 => ?_) (fun c3 => ?_)
    · skip
      refine r_iconst hX (nI 0) dX10_isMark_27 rfl ?_
      exact r_zreturn hX hQ dX10_isMark_28 ⟨Nat.le_of_ble_eq_true rfl, Nat.le_of_ble_eq_true rfl⟩ rfl (PF.mk (bI_f (by unfold sgB; rw [decide_eq_false (p := P.2 q.1 = c) (fun e => c3 ((show vlN P q = P.2 q.1 by unfold vlN; rw [if_neg (by rw [(mk3.mp c2)]; decide), if_neg (by rw [(mk3.mp c2)]; decide), if_pos (mk3.mp c2)]).trans e)), Bool.and_false])).symm)
    · skip
      refine r_iconst hX (nI 1) dX10_isMark_23 rfl ?_
      refine r_goto hX dX10_isMark_24 ?_
      exact r_zreturn hX hQ dX10_isMark_28 ⟨Nat.le_of_ble_eq_true rfl, Nat.le_of_ble_eq_true rfl⟩ rfl (PF.mk (bI_t (by unfold sgB; rw [decide_eq_true (mk3.mp c2), decide_eq_true (p := P.2 q.1 = c) ((show vlN P q = P.2 q.1 by unfold vlN; rw [if_neg (by rw [(mk3.mp c2)]; decide), if_neg (by rw [(mk3.mp c2)]; decide), if_pos (mk3.mp c2)]).symm.trans c3)]; rfl)).symm)

set_option maxHeartbeats 4000000 in
set_option maxRecDepth 100000 in
theorem c_X10_isMarkB {l : Launch} {D : Ds} {L : La} (hM : MAt L) (σ : Me) (h26 : σ 0 26 = nI 1) (c : Int32) : Ct l yX10_isMark cX10_isMark 2 (some .boolean) { frames := 0, cells := 0, slots := 0, locals := 0 } D L σ [.ref (L.1 0), .int c] (PF L σ (nI 0)) := by
  refine Ct.of (by decide) (Nat.le_of_ble_eq_true rfl) ?_
  intro X hl hD hnl hX0 hQ
  have hX : Ok X cX10_isMark RX10 "isMark" { frames := 0, cells := 0, slots := 0, locals := 0 } (some .boolean) := hX0
  show At X L σ 0 0 [(0, .ref (L.1 0)), (1, .int c)] 0 []
  refine r_aload_n hX dX10_isMark_0 rfl ?_
  refine r_getIV hX dX10_isMark_1 fl_X10_264 (hM.1 0 (9, 0) rfl) rfl (nI 1) h26 ?_
  refine r_ifN_ne hX dX10_isMark_4 (by decide) (fun c1 => ?_) (fun c1 => absurd c1 (by decide))
  refine r_iconst hX (nI 0) dX10_isMark_27 rfl ?_
  exact r_zreturn hX hQ dX10_isMark_28 ⟨Nat.le_of_ble_eq_true rfl, Nat.le_of_ble_eq_true rfl⟩ rfl (PF.mk rfl)

set_option maxHeartbeats 4000000 in
set_option maxRecDepth 100000 in
theorem c_X10_emit {l : Launch} {D : Ds} {L : La} (hM : MAt L) (σ : Me) (P : Tp) (key o nt : Nat) (q : Lx) (C : List Nat) (n : Nat) (hps : PS σ P key o nt q C n) (lok : Lok P q) (v : Nat) (hC : C.length < 100) : Ct l yX10_emit cX10_emit 2 none { frames := 0, cells := 0, slots := 0, locals := 0 } D L σ [.ref (L.1 0), .int (nI v)] (PV L (fun σ2 => PS σ2 P key o nt q (C ++ [v]) n ∧ Ex pY σ σ2)) := by
  refine Ct.of (by decide) (Nat.le_of_ble_eq_true rfl) ?_
  intro X hl hD hnl hX0 hQ
  have hX : Ok X cX10_emit RX10 "emit" { frames := 0, cells := 0, slots := 0, locals := 0 } none := hX0
  have hlx := lex_le (fun k hk => (hps.1.2.2 k hk).2) lok
  have hP96 := hps.1.2.1
  show At X L σ 0 0 [(0, .ref (L.1 0)), (1, .int (nI v))] 0 []
  refine r_aload_n hX dX10_emit_0 rfl ?_
  refine r_getIV hX dX10_emit_1 fl_X10_264 (hM.1 0 (9, 0) rfl) rfl (nI 0) hps.2.2.1 ?_
  refine r_ifN_ne hX dX10_emit_4 (by decide) (fun c1 => absurd c1 (by decide)) (fun c1 => ?_)
  refine r_aload_n hX dX10_emit_7 rfl ?_
  refine r_getR hX dX10_emit_8 fl_X10_38 (hM.1 0 (9, 0) rfl) rfl (hM.2 33 10 rfl) ?_
  refine r_aload_n hX dX10_emit_11 rfl ?_
  refine r_getIV hX dX10_emit_12 fl_X10_270 (hM.1 0 (9, 0) rfl) rfl (nI ((C).length)) hps.2.2.2.2.2.2.1 ?_
  refine r_iload_n hX dX10_emit_15 rfl ?_
  refine r_astN hX dX10_emit_16 (hM.1 10 (10, 100) rfl) (by decide) (by omega) ?_
  refine r_aload_n hX dX10_emit_17 rfl ?_
  refine r_dup hX dX10_emit_18 rfl ?_
  refine r_getIV hX dX10_emit_19 fl_X10_270 (hM.1 0 (9, 0) rfl) rfl (nI ((C).length)) (by rw [up_n (by omega)]; exact hps.2.2.2.2.2.2.1) ?_
  refine r_iconst hX (nI 1) dX10_emit_22 rfl ?_
  refine r_iaddN hX dX10_emit_23 ?_
  refine r_putI hX dX10_emit_24 fl_X10_270 (hM.1 0 (9, 0) rfl) rfl rfl rfl rfl ?_
  exact r_return hX hQ dX10_emit_27 ⟨Nat.le_of_ble_eq_true rfl, Nat.le_of_ble_eq_true rfl⟩ (PV.mk ⟨hps.emit v, Ex.up (Ex.up (Ex.rf σ) rfl) rfl⟩)

set_option maxHeartbeats 4000000 in
set_option maxRecDepth 100000 in
theorem c_X10_emitB {l : Launch} {D : Ds} {L : La} (hM : MAt L) (σ : Me) (h26 : σ 0 26 = nI 1) (v : Int32) : Ct l yX10_emit cX10_emit 2 none { frames := 0, cells := 0, slots := 0, locals := 0 } D L σ [.ref (L.1 0), .int v] (PV L (fun σ2 => σ2 = σ)) := by
  refine Ct.of (by decide) (Nat.le_of_ble_eq_true rfl) ?_
  intro X hl hD hnl hX0 hQ
  have hX : Ok X cX10_emit RX10 "emit" { frames := 0, cells := 0, slots := 0, locals := 0 } none := hX0
  show At X L σ 0 0 [(0, .ref (L.1 0)), (1, .int v)] 0 []
  refine r_aload_n hX dX10_emit_0 rfl ?_
  refine r_getIV hX dX10_emit_1 fl_X10_264 (hM.1 0 (9, 0) rfl) rfl (nI 1) h26 ?_
  refine r_ifN_ne hX dX10_emit_4 (by decide) (fun c1 => ?_) (fun c1 => absurd c1 (by decide))
  exact r_return hX hQ dX10_emit_27 ⟨Nat.le_of_ble_eq_true rfl, Nat.le_of_ble_eq_true rfl⟩ (PV.mk rfl)

set_option maxHeartbeats 4000000 in
set_option maxRecDepth 100000 in
theorem c_X10_fails {l : Launch} {D : Ds} {L : La} (hM : MAt L) (σ : Me) (P : Tp) (key o nt : Nat) (q : Lx) (C : List Nat) (n : Nat) (hps : PS σ P key o nt q C n) (lok : Lok P q) : Ct l yX10_fails cX10_fails 1 none { frames := 0, cells := 0, slots := 0, locals := 0 } D L σ [.ref (L.1 0)] (PV L (fun σ2 => (σ2 0 26 = nI 1 ∧ σ2 0 27 = nI q.1) ∧ Ex pY σ σ2)) := by
  refine Ct.of (by decide) (Nat.le_of_ble_eq_true rfl) ?_
  intro X hl hD hnl hX0 hQ
  have hX : Ok X cX10_fails RX10 "fails" { frames := 0, cells := 0, slots := 0, locals := 0 } none := hX0
  have hlx := lex_le (fun k hk => (hps.1.2.2 k hk).2) lok
  have hP96 := hps.1.2.1
  show At X L σ 0 0 [(0, .ref (L.1 0))] 0 []
  refine r_aload_n hX dX10_fails_0 rfl ?_
  refine r_getIV hX dX10_fails_1 fl_X10_264 (hM.1 0 (9, 0) rfl) rfl (nI 0) hps.2.2.1 ?_
  refine r_ifN_ne hX dX10_fails_4 (by decide) (fun c1 => absurd c1 (by decide)) (fun c1 => ?_)
  refine r_aload_n hX dX10_fails_7 rfl ?_
  refine r_iconst hX (nI 1) dX10_fails_8 rfl ?_
  refine r_putI hX dX10_fails_9 fl_X10_264 (hM.1 0 (9, 0) rfl) rfl rfl rfl rfl ?_
  refine r_aload_n hX dX10_fails_12 rfl ?_
  refine r_aload_n hX dX10_fails_13 rfl ?_
  refine r_getIV hX dX10_fails_14 fl_X10_246 (hM.1 0 (9, 0) rfl) rfl (nI q.1) (by rw [up_n (by omega)]; exact hps.2.1.2.1) ?_
  refine r_putI hX dX10_fails_17 fl_X10_267 (hM.1 0 (9, 0) rfl) rfl rfl rfl rfl ?_
  exact r_return hX hQ dX10_fails_20 ⟨Nat.le_of_ble_eq_true rfl, Nat.le_of_ble_eq_true rfl⟩ (PV.mk ⟨⟨by rw [up_n (by omega), up_s], up_s⟩, Ex.up (Ex.up (Ex.rf σ) rfl) rfl⟩)

set_option maxHeartbeats 4000000 in
set_option maxRecDepth 100000 in
theorem c_X10_failsB {l : Launch} {D : Ds} {L : La} (hM : MAt L) (σ : Me) (h26 : σ 0 26 = nI 1) : Ct l yX10_fails cX10_fails 1 none { frames := 0, cells := 0, slots := 0, locals := 0 } D L σ [.ref (L.1 0)] (PV L (fun σ2 => σ2 = σ)) := by
  refine Ct.of (by decide) (Nat.le_of_ble_eq_true rfl) ?_
  intro X hl hD hnl hX0 hQ
  have hX : Ok X cX10_fails RX10 "fails" { frames := 0, cells := 0, slots := 0, locals := 0 } none := hX0
  show At X L σ 0 0 [(0, .ref (L.1 0))] 0 []
  refine r_aload_n hX dX10_fails_0 rfl ?_
  refine r_getIV hX dX10_fails_1 fl_X10_264 (hM.1 0 (9, 0) rfl) rfl (nI 1) h26 ?_
  refine r_ifN_ne hX dX10_fails_4 (by decide) (fun c1 => ?_) (fun c1 => absurd c1 (by decide))
  exact r_return hX hQ dX10_fails_20 ⟨Nat.le_of_ble_eq_true rfl, Nat.le_of_ble_eq_true rfl⟩ (PV.mk rfl)
