set_option maxHeartbeats 4000000 in
set_option maxRecDepth 100000 in
theorem c_X10_in {l : Launch} {D : Ds} {L : La}  (σ : Me) (v lo hi : Int32) : Ct l yX10_in cX10_in 3 (some .boolean) { frames := 0, cells := 0, slots := 0, locals := 0 } D L σ [.int v, .int lo, .int hi] (PF L σ (bI (inB v lo hi))) := by
  refine Ct.of (by decide) (Nat.le_of_ble_eq_true rfl) ?_
  intro X hl hD hnl hX0 hQ
  have hX : Ok X cX10_in RX10 "in" { frames := 0, cells := 0, slots := 0, locals := 0 } (some .boolean) := hX0
  show At X L σ 0 0 [(0, .int v), (1, .int lo), (2, .int hi)] 0 []
  refine r_iload_n hX dX10_in_0 rfl ?_
  refine r_iload_n hX dX10_in_1 rfl ?_
  refine r_icmp_lt hX dX10_in_2 (fun c1 => ?_) (fun c1 => ?_)
  · skip
    refine r_iconst hX (nI 0) dX10_in_14 rfl ?_
    exact r_zreturn hX hQ dX10_in_15 ⟨Nat.le_of_ble_eq_true rfl, Nat.le_of_ble_eq_true rfl⟩ rfl (PF.mk (by clear  hQ hX hX0  hl hD hnl; grind [inB, bI]))
  · skip
    refine r_iload_n hX dX10_in_5 rfl ?_
    refine r_iload_n hX dX10_in_6 rfl ?_
    refine r_icmp_gt hX dX10_in_7 (fun c2 => ?_) (fun c2 => ?_)
    · skip
      refine r_iconst hX (nI 0) dX10_in_14 rfl ?_
      exact r_zreturn hX hQ dX10_in_15 ⟨Nat.le_of_ble_eq_true rfl, Nat.le_of_ble_eq_true rfl⟩ rfl (PF.mk (by clear  hQ hX hX0  hl hD hnl; grind [inB, bI]))
    · skip
      refine r_iconst hX (nI 1) dX10_in_10 rfl ?_
      refine r_goto hX dX10_in_11 ?_
      exact r_zreturn hX hQ dX10_in_15 ⟨Nat.le_of_ble_eq_true rfl, Nat.le_of_ble_eq_true rfl⟩ rfl (PF.mk (by clear  hQ hX hX0  hl hD hnl; grind [inB, bI]))

set_option maxHeartbeats 4000000 in
set_option maxRecDepth 100000 in
theorem c_X10_held {l : Launch} {D : Ds} {L : La}  (σ : Me) (v m : Int32) : Ct l yX10_held cX10_held 2 (some .int) { frames := 0, cells := 0, slots := 0, locals := 0 } D L σ [.int v, .int m] (PF L σ (hdI v m)) := by
  refine Ct.of (by decide) (Nat.le_of_ble_eq_true rfl) ?_
  intro X hl hD hnl hX0 hQ
  have hX : Ok X cX10_held RX10 "held" { frames := 0, cells := 0, slots := 0, locals := 0 } (some .int) := hX0
  show At X L σ 0 0 [(0, .int v), (1, .int m)] 0 []
  refine r_iload_n hX dX10_held_0 rfl ?_
  refine r_if_ge hX dX10_held_1 (fun c1 => ?_) (fun c1 => ?_)
  · skip
    refine r_iload_n hX dX10_held_8 rfl ?_
    refine r_iload_n hX dX10_held_9 rfl ?_
    refine r_icmp_le hX dX10_held_10 (fun c2 => ?_) (fun c2 => ?_)
    · skip
      refine r_iload_n hX dX10_held_17 rfl ?_
      exact r_ireturn hX hQ dX10_held_18 ⟨Nat.le_of_ble_eq_true rfl, Nat.le_of_ble_eq_true rfl⟩ (PF.mk (by clear  hQ hX hX0  hl hD hnl; grind [hdI]))
    · skip
      refine r_iload_n hX dX10_held_13 rfl ?_
      refine r_goto hX dX10_held_14 ?_
      exact r_ireturn hX hQ dX10_held_18 ⟨Nat.le_of_ble_eq_true rfl, Nat.le_of_ble_eq_true rfl⟩ (PF.mk (by clear  hQ hX hX0  hl hD hnl; grind [hdI]))
  · skip
    refine r_iconst hX (nI 0) dX10_held_4 rfl ?_
    refine r_goto hX dX10_held_5 ?_
    exact r_ireturn hX hQ dX10_held_18 ⟨Nat.le_of_ble_eq_true rfl, Nat.le_of_ble_eq_true rfl⟩ (PF.mk (by clear  hQ hX hX0  hl hD hnl; grind [hdI]))

set_option maxHeartbeats 4000000 in
set_option maxRecDepth 100000 in
theorem c_X10_apart {l : Launch} {D : Ds} {L : La}  (σ : Me) (a b : Nat) (ha : a < 2 ^ 31) (hb : b < 2 ^ 31) : Ct l yX10_apart cX10_apart 2 (some .int) { frames := 0, cells := 0, slots := 0, locals := 0 } D L σ [.int (nI a), .int (nI b)] (PF L σ (nI (apN a b))) := by
  refine Ct.of (by decide) (Nat.le_of_ble_eq_true rfl) ?_
  intro X hl hD hnl hX0 hQ
  have hX : Ok X cX10_apart RX10 "apart" { frames := 0, cells := 0, slots := 0, locals := 0 } (some .int) := hX0
  show At X L σ 0 0 [(0, .int (nI a)), (1, .int (nI b))] 0 []
  refine r_iload_n hX dX10_apart_0 rfl ?_
  refine r_iload_n hX dX10_apart_1 rfl ?_
  refine r_icmpN_ge hX dX10_apart_2 (by omega) (by omega) (fun c1 => ?_) (fun c1 => ?_)
  · skip
    refine r_iload_n hX dX10_apart_11 rfl ?_
    refine r_iload_n hX dX10_apart_12 rfl ?_
    refine r_isubN hX dX10_apart_13 (by omega) ?_
    exact r_ireturn hX hQ dX10_apart_14 ⟨Nat.le_of_ble_eq_true rfl, Nat.le_of_ble_eq_true rfl⟩ (PF.mk (by unfold apN; first | rw [if_pos (by omega)] | rw [if_neg (by omega)]))
  · skip
    refine r_iload_n hX dX10_apart_5 rfl ?_
    refine r_iload_n hX dX10_apart_6 rfl ?_
    refine r_isubN hX dX10_apart_7 (by omega) ?_
    refine r_goto hX dX10_apart_8 ?_
    exact r_ireturn hX hQ dX10_apart_14 ⟨Nat.le_of_ble_eq_true rfl, Nat.le_of_ble_eq_true rfl⟩ (PF.mk (by unfold apN; first | rw [if_pos (by omega)] | rw [if_neg (by omega)]))

set_option maxHeartbeats 4000000 in
/-- ones(set): how many bits -/
theorem c_X10_ones {l : Launch} {D : Ds} {L : La} (σ : Me) (q : Nat) (hq : q < 4096) : Ct l yX10_ones cX10_ones 3 (some .int) { frames := 0, cells := 0, slots := 0, locals := 0 } D L σ [.int (nI q)] (PF L σ (nI (pc12 q))) := by
  refine Ct.of (by decide) (Nat.le_of_ble_eq_true rfl) ?_
  intro X hl hD hnl hX hQ
  have hX : Ok X cX10_ones RX10 "ones" { frames := 0, cells := 0, slots := 0, locals := 0 } (some .int) := hX
  have hN1 : 1 < xn X := by rw [hnl]; decide
  have hN2 : 2 < xn X := by rw [hnl]; decide
  show At X L σ 0 0 [(0, .int (nI q))] 0 []
  refine r_iconst hX (nI 0) dX10_ones_0 rfl ?_
  refine r_istore_n hX [(0, .int (nI q)), (1, .int (nI 0))] dX10_ones_1 hN1 rfl ?_
  refine r_iload_n hX dX10_ones_2 rfl ?_
  refine r_istore_n hX [(0, .int (nI q)), (1, .int (nI 0)), (2, .int (nI q))] dX10_ones_3 hN2 rfl ?_
  have key : ∀ (d a b : Nat), a < 4096 → a < d → b + pc12 a = pc12 q → At X L σ 0 0 [(0, .int (nI q)), (1, .int (nI b)), (2, .int (nI a))] 4 [] := by
    intro d
    induction d with
    | zero => intro a b _ h; exact absurd h (by omega)
    | succ d ih =>
      intro a b ha hd2 hs
      refine r_iload_n hX dX10_ones_4 rfl ?_
      refine r_ifN_eq hX dX10_ones_5 (by omega) (fun c1 => ?_) (fun c1 => ?_)
      · subst c1
        refine r_iload_n hX dX10_ones_20 rfl ?_
        exact r_ireturn hX hQ dX10_ones_21 ⟨Nat.le_refl 0, Nat.le_refl 0⟩ (PF.mk (by rw [← hs, pc12_0]; rfl))
      · obtain ⟨h1, h2⟩ := pc12_step a ha (by omega)
        refine r_iincN (n := 1) hX [(0, .int (nI q)), (1, .int (nI (b + 1))), (2, .int (nI a))] dX10_ones_8 rfl hN1 rfl ?_
        refine r_iload_n hX dX10_ones_11 rfl ?_
        refine r_iload_n hX dX10_ones_12 rfl ?_
        refine r_iconst hX (nI 1) dX10_ones_13 rfl ?_
        refine r_isubN hX dX10_ones_14 (by omega) ?_
        refine r_iand hX dX10_ones_15 ?_
        rw [fa_and a (a - 1)]
        refine r_istore_n hX [(0, .int (nI q)), (1, .int (nI (b + 1))), (2, .int (nI (a &&& (a - 1))))] dX10_ones_16 hN2 rfl ?_
        refine r_goto hX dX10_ones_17 ?_
        exact ih _ _ (by omega) (by omega) (by omega)
  exact key (q + 1) q 0 hq (by omega) (by omega)

set_option maxHeartbeats 4000000 in
set_option maxRecDepth 100000 in
theorem c_X10_lay {l : Launch} {D : Ds} {L : La}  (σ : Me) (a b : Nat) (ha : L.2.1 a = some (10, 1605)) (hb : L.2.1 b = some (10, 1605)) (hab : a ≠ b) : Ct l yX10_lay cX10_lay 3 none { frames := 0, cells := 0, slots := 0, locals := 0 } D L σ [.ref (L.1 a), .ref (L.1 b)] (PV L (fun σ2 => σ2 = cpk σ a b 1605)) := by
  refine Ct.of (by decide) (Nat.le_of_ble_eq_true rfl) ?_
  intro X hl hD hnl hX0 hQ
  have hX : Ok X cX10_lay RX10 "lay" { frames := 0, cells := 0, slots := 0, locals := 0 } none := hX0
  have hN2 : 2 < xn X := by rw [hnl]; decide
  show At X L σ 0 0 [(0, .ref (L.1 a)), (1, .ref (L.1 b))] 0 []
  refine r_iconst hX (nI 0) dX10_lay_0 rfl ?_
  refine r_istore_n hX [(0, .ref (L.1 a)), (1, .ref (L.1 b)), (2, .int (nI 0))] dX10_lay_1 hN2 rfl ?_
  have P1 : ∀ k, k ≤ 1605 → At X L (cpk σ a b k) 0 0 [(0, .ref (L.1 a)), (1, .ref (L.1 b)), (2, .int (nI k))] 2 [] := by
    refine loopUp 1605 ?_ ?_
    · skip
      refine r_iload_n hX dX10_lay_2 rfl ?_
      refine r_sipush hX (nI 1605) dX10_lay_3 rfl ?_
      refine r_icmpN_ge hX dX10_lay_6 (by decide) (by decide) (fun c2 => ?_) (fun c2 => absurd c2 (by decide))
      exact r_return hX hQ dX10_lay_21 ⟨Nat.le_of_ble_eq_true rfl, Nat.le_of_ble_eq_true rfl⟩ (PV.mk rfl)
    · skip
      intro k hk4 ih3
      refine r_iload_n hX dX10_lay_2 rfl ?_
      refine r_sipush hX (nI 1605) dX10_lay_3 rfl ?_
      refine r_icmpN_ge hX dX10_lay_6 (by omega) (by decide) (fun c5 => absurd c5 (by omega)) (fun c5 => ?_)
      refine r_aload_n hX dX10_lay_9 rfl ?_
      refine r_iload_n hX dX10_lay_10 rfl ?_
      refine r_aload_n hX dX10_lay_11 rfl ?_
      refine r_iload_n hX dX10_lay_12 rfl ?_
      refine r_aldN hX dX10_lay_13 ha (by decide) (by omega) (σ a k) (cpk_o σ hab) ?_
      refine r_astN hX dX10_lay_14 hb (by decide) (by omega) ?_
      refine r_iincN (n := 1) hX [(0, .ref (L.1 a)), (1, .ref (L.1 b)), (2, .int (nI (k + 1)))] dX10_lay_15 rfl hN2 rfl ?_
      refine r_goto hX dX10_lay_18 ?_
      exact At.to ih3 rfl rfl (cpk_s σ).symm
  exact At.to (P1 0 (Nat.zero_le _)) rfl rfl (cpk_0 σ a b)

set_option maxHeartbeats 4000000 in
set_option maxRecDepth 100000 in
theorem c_X10_isThing {l : Launch} {D : Ds} {L : La} (hM : MAt L) (σ : Me) (A : Al) (hR : RM (σ 1) A) (v : Int32) : Ct l yX10_isThing cX10_isThing 2 (some .boolean) { frames := 1, cells := 0, slots := 0, locals := 22 } D L σ [.ref (L.1 0), .int v] (PF L σ (bI (isB v (aT A)))) := by
  refine Ct.of (by decide) (Nat.le_of_ble_eq_true rfl) ?_
  intro X hl hD hnl hX0 hQ
  have hX : Ok X cX10_isThing RX10 "isThing" { frames := 1, cells := 0, slots := 0, locals := 22 } (some .boolean) := hX0
  show At X L σ 0 0 [(0, .ref (L.1 0)), (1, .int v)] 0 []
  refine r_iload_n hX dX10_isThing_0 rfl ?_
  refine r_iconst hX (nI 0) dX10_isThing_1 rfl ?_
  refine r_aload_n hX dX10_isThing_2 rfl ?_
  refine r_getR hX dX10_isThing_3 fl_X10_9 (hM.1 0 (9, 0) rfl) rfl (hM.2 0 1 rfl) ?_
  refine r_iconst hX (nI 0) dX10_isThing_6 rfl ?_
  refine r_aldN hX dX10_isThing_7 (hM.1 1 (10, 1605) rfl) (by decide) (by decide) (nI (aT A)) hR.1 ?_
  refine r_iconst hX (nI 1) dX10_isThing_8 rfl ?_
  refine r_isub hX dX10_isThing_9 ?_
  refine r_callSF (As := [.int v, .int (nI 0), .int ((nI (aT A)) - (nI 1))]) (rest := []) hX (c_X10_in σ v (nI 0) ((nI (aT A)) - (nI 1))) dX10_isThing_10 cb_X10_68 rfl rfl ⟨Nat.le_of_ble_eq_true rfl, Nat.le_of_ble_eq_true rfl⟩ ⟨Nat.le_of_ble_eq_true rfl, Nat.le_of_ble_eq_true rfl⟩ (Nat.le_of_ble_eq_true rfl) ?_
  exact r_zreturn hX hQ dX10_isThing_13 ⟨Nat.le_of_ble_eq_true rfl, Nat.le_of_ble_eq_true rfl⟩ (nar_bI _) (PF.mk rfl)

set_option maxHeartbeats 4000000 in
set_option maxRecDepth 100000 in
theorem c_X10_isName {l : Launch} {D : Ds} {L : La} (hM : MAt L) (σ : Me) (A : Al) (hR : RM (σ 1) A) (v : Int32) : Ct l yX10_isName cX10_isName 2 (some .boolean) { frames := 1, cells := 0, slots := 0, locals := 22 } D L σ [.ref (L.1 0), .int v] (PF L σ (bI (isB v (aN A)))) := by
  refine Ct.of (by decide) (Nat.le_of_ble_eq_true rfl) ?_
  intro X hl hD hnl hX0 hQ
  have hX : Ok X cX10_isName RX10 "isName" { frames := 1, cells := 0, slots := 0, locals := 22 } (some .boolean) := hX0
  show At X L σ 0 0 [(0, .ref (L.1 0)), (1, .int v)] 0 []
  refine r_iload_n hX dX10_isName_0 rfl ?_
  refine r_iconst hX (nI 0) dX10_isName_1 rfl ?_
  refine r_aload_n hX dX10_isName_2 rfl ?_
  refine r_getR hX dX10_isName_3 fl_X10_9 (hM.1 0 (9, 0) rfl) rfl (hM.2 0 1 rfl) ?_
  refine r_iconst hX (nI 1) dX10_isName_6 rfl ?_
  refine r_aldN hX dX10_isName_7 (hM.1 1 (10, 1605) rfl) (by decide) (by decide) (nI (aN A)) hR.2.1 ?_
  refine r_iconst hX (nI 1) dX10_isName_8 rfl ?_
  refine r_isub hX dX10_isName_9 ?_
  refine r_callSF (As := [.int v, .int (nI 0), .int ((nI (aN A)) - (nI 1))]) (rest := []) hX (c_X10_in σ v (nI 0) ((nI (aN A)) - (nI 1))) dX10_isName_10 cb_X10_68 rfl rfl ⟨Nat.le_of_ble_eq_true rfl, Nat.le_of_ble_eq_true rfl⟩ ⟨Nat.le_of_ble_eq_true rfl, Nat.le_of_ble_eq_true rfl⟩ (Nat.le_of_ble_eq_true rfl) ?_
  exact r_zreturn hX hQ dX10_isName_13 ⟨Nat.le_of_ble_eq_true rfl, Nat.le_of_ble_eq_true rfl⟩ (nar_bI _) (PF.mk rfl)

set_option maxHeartbeats 4000000 in
set_option maxRecDepth 100000 in
theorem c_X10_isWord {l : Launch} {D : Ds} {L : La} (hM : MAt L) (σ : Me) (A : Al) (hR : RM (σ 1) A) (v : Int32) : Ct l yX10_isWord cX10_isWord 2 (some .boolean) { frames := 1, cells := 0, slots := 0, locals := 22 } D L σ [.ref (L.1 0), .int v] (PF L σ (bI (isB v (aW A)))) := by
  refine Ct.of (by decide) (Nat.le_of_ble_eq_true rfl) ?_
  intro X hl hD hnl hX0 hQ
  have hX : Ok X cX10_isWord RX10 "isWord" { frames := 1, cells := 0, slots := 0, locals := 22 } (some .boolean) := hX0
  show At X L σ 0 0 [(0, .ref (L.1 0)), (1, .int v)] 0 []
  refine r_iload_n hX dX10_isWord_0 rfl ?_
  refine r_iconst hX (nI 0) dX10_isWord_1 rfl ?_
  refine r_aload_n hX dX10_isWord_2 rfl ?_
  refine r_getR hX dX10_isWord_3 fl_X10_9 (hM.1 0 (9, 0) rfl) rfl (hM.2 0 1 rfl) ?_
  refine r_iconst hX (nI 2) dX10_isWord_6 rfl ?_
  refine r_aldN hX dX10_isWord_7 (hM.1 1 (10, 1605) rfl) (by decide) (by decide) (nI (aW A)) hR.2.2.1 ?_
  refine r_iconst hX (nI 1) dX10_isWord_8 rfl ?_
  refine r_isub hX dX10_isWord_9 ?_
  refine r_callSF (As := [.int v, .int (nI 0), .int ((nI (aW A)) - (nI 1))]) (rest := []) hX (c_X10_in σ v (nI 0) ((nI (aW A)) - (nI 1))) dX10_isWord_10 cb_X10_68 rfl rfl ⟨Nat.le_of_ble_eq_true rfl, Nat.le_of_ble_eq_true rfl⟩ ⟨Nat.le_of_ble_eq_true rfl, Nat.le_of_ble_eq_true rfl⟩ (Nat.le_of_ble_eq_true rfl) ?_
  exact r_zreturn hX hQ dX10_isWord_13 ⟨Nat.le_of_ble_eq_true rfl, Nat.le_of_ble_eq_true rfl⟩ (nar_bI _) (PF.mk rfl)

set_option maxHeartbeats 4000000 in
set_option maxRecDepth 100000 in
theorem c_X10_of {l : Launch} {D : Ds} {L : La} (hM : MAt L) (σ : Me) (w f : Nat) (h : 29 + 5 * w + f < 1605) : Ct l yX10_of cX10_of 3 (some .int) { frames := 0, cells := 0, slots := 0, locals := 0 } D L σ [.ref (L.1 0), .int (nI w), .int (nI f)] (PF L σ (σ 1 (29 + 5 * w + f))) := by
  refine Ct.of (by decide) (Nat.le_of_ble_eq_true rfl) ?_
  intro X hl hD hnl hX0 hQ
  have hX : Ok X cX10_of RX10 "of" { frames := 0, cells := 0, slots := 0, locals := 0 } (some .int) := hX0
  show At X L σ 0 0 [(0, .ref (L.1 0)), (1, .int (nI w)), (2, .int (nI f))] 0 []
  refine r_aload_n hX dX10_of_0 rfl ?_
  refine r_getR hX dX10_of_1 fl_X10_9 (hM.1 0 (9, 0) rfl) rfl (hM.2 0 1 rfl) ?_
  refine r_bipush hX (nI 29) dX10_of_4 rfl ?_
  refine r_iconst hX (nI 5) dX10_of_6 rfl ?_
  refine r_iload_n hX dX10_of_7 rfl ?_
  refine r_imulN hX dX10_of_8 ?_
  refine r_iaddN hX dX10_of_9 ?_
  refine r_iload_n hX dX10_of_10 rfl ?_
  refine r_iaddN hX dX10_of_11 ?_
  refine r_aldN hX dX10_of_12 (hM.1 1 (10, 1605) rfl) (by decide) (by omega) (σ 1 (29 + (5 * w) + f)) rfl ?_
  exact r_ireturn hX hQ dX10_of_13 ⟨Nat.le_of_ble_eq_true rfl, Nat.le_of_ble_eq_true rfl⟩ (PF.mk rfl)

theorem c_X10_ofA {l : Launch} {D : Ds} {L : La} (hM : MAt L) (σ : Me) (A : Al) (hR : RM (σ 1) A) (hV : Va A) (w f : Nat) (hw : w < aW A) (hf : f < 5) : Ct l yX10_of cX10_of 3 (some .int) { frames := 0, cells := 0, slots := 0, locals := 0 } D L σ [.ref (L.1 0), .int (nI w), .int (nI f)] (PF L σ (nI (aF A w f))) := by
  have h := c_X10_of (l := l) (D := D) hM σ w f (by have := hV.2.2.1; omega)
  rw [hR.2.2.2.2.2.2.2.1 w f hw hf] at h
  exact h

set_option maxHeartbeats 4000000 in
set_option maxRecDepth 100000 in
theorem c_X10_wordsOf {l : Launch} {D : Ds} {L : La} (hM : MAt L) (σ : Me) (A : Al) (hR : RM (σ 1) A) (hV : Va A) (f x : Nat) (hf : f < 5) (hx : x < 2 ^ 31) : Ct l yX10_wordsOf cX10_wordsOf 5 (some .int) { frames := 1, cells := 0, slots := 0, locals := 22 } D L σ [.ref (L.1 0), .int (nI f), .int (nI x)] (PF L σ (nI (cw A f x (aW A)))) := by
  refine Ct.of (by decide) (Nat.le_of_ble_eq_true rfl) ?_
  intro X hl hD hnl hX0 hQ
  have hX : Ok X cX10_wordsOf RX10 "wordsOf" { frames := 1, cells := 0, slots := 0, locals := 22 } (some .int) := hX0
  have hN3 : 3 < xn X := by rw [hnl]; decide
  have hN4 : 4 < xn X := by rw [hnl]; decide
  have hW := hV.2.2.1
  show At X L σ 0 0 [(0, .ref (L.1 0)), (1, .int (nI f)), (2, .int (nI x))] 0 []
  refine r_iconst hX (nI 0) dX10_wordsOf_0 rfl ?_
  refine r_istore_n hX [(0, .ref (L.1 0)), (1, .int (nI f)), (2, .int (nI x)), (3, .int (nI 0))] dX10_wordsOf_1 hN3 rfl ?_
  refine r_iconst hX (nI 0) dX10_wordsOf_2 rfl ?_
  refine r_istore hX [(0, .ref (L.1 0)), (1, .int (nI f)), (2, .int (nI x)), (3, .int (nI 0)), (4, .int (nI 0))] dX10_wordsOf_3 hN4 rfl ?_
  have P1 : ∀ k, k ≤ aW A → At X L σ 0 0 [(0, .ref (L.1 0)), (1, .int (nI f)), (2, .int (nI x)), (3, .int (nI (cw A f x k))), (4, .int (nI k))] 5 [] := by
    refine loopUp (aW A) ?_ ?_
    · skip
      refine r_iload hX dX10_wordsOf_5 rfl ?_
      refine r_aload_n hX dX10_wordsOf_7 rfl ?_
      refine r_getR hX dX10_wordsOf_8 fl_X10_9 (hM.1 0 (9, 0) rfl) rfl (hM.2 0 1 rfl) ?_
      refine r_iconst hX (nI 2) dX10_wordsOf_11 rfl ?_
      refine r_aldN hX dX10_wordsOf_12 (hM.1 1 (10, 1605) rfl) (by decide) (by decide) (nI (aW A)) hR.2.2.1 ?_
      refine r_icmpN_ge hX dX10_wordsOf_13 (by omega) (by omega) (fun c2 => ?_) (fun c2 => absurd c2 (by omega))
      refine r_iload_n hX dX10_wordsOf_41 rfl ?_
      exact r_ireturn hX hQ dX10_wordsOf_42 ⟨Nat.le_of_ble_eq_true rfl, Nat.le_of_ble_eq_true rfl⟩ (PF.mk rfl)
    · skip
      intro k hk ih3
      have hb := va_sm hV hk hf
      refine r_iload hX dX10_wordsOf_5 rfl ?_
      refine r_aload_n hX dX10_wordsOf_7 rfl ?_
      refine r_getR hX dX10_wordsOf_8 fl_X10_9 (hM.1 0 (9, 0) rfl) rfl (hM.2 0 1 rfl) ?_
      refine r_iconst hX (nI 2) dX10_wordsOf_11 rfl ?_
      refine r_aldN hX dX10_wordsOf_12 (hM.1 1 (10, 1605) rfl) (by decide) (by decide) (nI (aW A)) hR.2.2.1 ?_
      refine r_icmpN_ge hX dX10_wordsOf_13 (by omega) (by omega) (fun c4 => absurd c4 (by omega)) (fun c4 => ?_)
      refine r_iload_n hX dX10_wordsOf_16 rfl ?_
      refine r_aload_n hX dX10_wordsOf_17 rfl ?_
      refine r_iload hX dX10_wordsOf_18 rfl ?_
      refine r_iload_n hX dX10_wordsOf_20 rfl ?_
      refine r_callVF (As := [.int (nI k), .int (nI f)]) (rest := [.int (nI (cw A f x k))]) hX (c_X10_ofA hM σ A hR hV k f (by omega) (by omega)) dX10_wordsOf_21 cb_X10_74 (hM.1 0 (9, 0) rfl) rfl rfl ⟨Nat.le_of_ble_eq_true rfl, Nat.le_of_ble_eq_true rfl⟩ ⟨Nat.le_of_ble_eq_true rfl, Nat.le_of_ble_eq_true rfl⟩ (Nat.le_of_ble_eq_true rfl) ?_
      refine r_iload_n hX dX10_wordsOf_24 rfl ?_
      refine r_icmpN_ne hX dX10_wordsOf_25 (by omega) (by omega) (fun c5 => ?_) (fun c5 => ?_)
      · skip
        refine r_iconst hX (nI 0) dX10_wordsOf_32 rfl ?_
        refine r_iaddN hX dX10_wordsOf_33 ?_
        refine r_istore_n hX [(0, .ref (L.1 0)), (1, .int (nI f)), (2, .int (nI x)), (3, .int (nI (cw A f x k + 0))), (4, .int (nI k))] dX10_wordsOf_34 hN3 rfl ?_
        refine r_iincN (n := 1) hX [(0, .ref (L.1 0)), (1, .int (nI f)), (2, .int (nI x)), (3, .int (nI (cw A f x k + 0))), (4, .int (nI (k + 1)))] dX10_wordsOf_35 rfl hN4 rfl ?_
        refine r_goto hX dX10_wordsOf_38 ?_
        have q6 : cw A f x (k + 1) = cw A f x k + 0 := (by grind [cw])
        exact At.to ih3 (by rw [q6]) rfl rfl
      · skip
        refine r_iconst hX (nI 1) dX10_wordsOf_28 rfl ?_
        refine r_goto hX dX10_wordsOf_29 ?_
        refine r_iaddN hX dX10_wordsOf_33 ?_
        refine r_istore_n hX [(0, .ref (L.1 0)), (1, .int (nI f)), (2, .int (nI x)), (3, .int (nI (cw A f x k + 1))), (4, .int (nI k))] dX10_wordsOf_34 hN3 rfl ?_
        refine r_iincN (n := 1) hX [(0, .ref (L.1 0)), (1, .int (nI f)), (2, .int (nI x)), (3, .int (nI (cw A f x k + 1))), (4, .int (nI (k + 1)))] dX10_wordsOf_35 rfl hN4 rfl ?_
        refine r_goto hX dX10_wordsOf_38 ?_
        have q7 : cw A f x (k + 1) = cw A f x k + 1 := (by grind [cw])
        exact At.to ih3 (by rw [q7]) rfl rfl
  exact At.to (P1 0 (Nat.zero_le _)) rfl rfl rfl

set_option maxHeartbeats 4000000 in
set_option maxRecDepth 100000 in
theorem c_X10_isAt {l : Launch} {D : Ds} {L : La}  (σ : Me) (v : Int32) : Ct l yX10_isAt cX10_isAt 1 (some .boolean) { frames := 1, cells := 0, slots := 0, locals := 22 } D L σ [.int v] (PF L σ (bI (atB v))) := by
  refine Ct.of (by decide) (Nat.le_of_ble_eq_true rfl) ?_
  intro X hl hD hnl hX0 hQ
  have hX : Ok X cX10_isAt RX10 "isAt" { frames := 1, cells := 0, slots := 0, locals := 22 } (some .boolean) := hX0
  show At X L σ 0 0 [(0, .int v)] 0 []
  refine r_iload_n hX dX10_isAt_0 rfl ?_
  refine r_iconst hX (nI 0) dX10_isAt_1 rfl ?_
  refine r_sipush hX (nI 9999) dX10_isAt_2 rfl ?_
  refine r_callSF (As := [.int v, .int (nI 0), .int (nI 9999)]) (rest := []) hX (c_X10_in σ v (nI 0) (nI 9999)) dX10_isAt_5 cb_X10_68 rfl rfl ⟨Nat.le_of_ble_eq_true rfl, Nat.le_of_ble_eq_true rfl⟩ ⟨Nat.le_of_ble_eq_true rfl, Nat.le_of_ble_eq_true rfl⟩ (Nat.le_of_ble_eq_true rfl) ?_
  refine r_ifB_eq hX dX10_isAt_8 (fun c1 => ?_) (fun c1 => ?_)
  · skip
    refine r_iconst hX (nI 0) dX10_isAt_27 rfl ?_
    exact r_zreturn hX hQ dX10_isAt_28 ⟨Nat.le_of_ble_eq_true rfl, Nat.le_of_ble_eq_true rfl⟩ rfl (PF.mk (by clear  hQ hX hX0  hl hD hnl; grind [atB, bI]))
  · skip
    refine r_iload_n hX dX10_isAt_11 rfl ?_
    refine r_bipush hX (nI 10) dX10_isAt_12 rfl ?_
    refine r_irem hX dX10_isAt_14 (by decide) ?_
    refine r_iconst hX (nI 1) dX10_isAt_15 rfl ?_
    refine r_iconst hX (nI 5) dX10_isAt_16 rfl ?_
    refine r_callSF (As := [.int (rem v (nI 10)), .int (nI 1), .int (nI 5)]) (rest := []) hX (c_X10_in σ (rem v (nI 10)) (nI 1) (nI 5)) dX10_isAt_17 cb_X10_68 rfl rfl ⟨Nat.le_of_ble_eq_true rfl, Nat.le_of_ble_eq_true rfl⟩ ⟨Nat.le_of_ble_eq_true rfl, Nat.le_of_ble_eq_true rfl⟩ (Nat.le_of_ble_eq_true rfl) ?_
    refine r_ifB_eq hX dX10_isAt_20 (fun c2 => ?_) (fun c2 => ?_)
    · skip
      refine r_iconst hX (nI 0) dX10_isAt_27 rfl ?_
      exact r_zreturn hX hQ dX10_isAt_28 ⟨Nat.le_of_ble_eq_true rfl, Nat.le_of_ble_eq_true rfl⟩ rfl (PF.mk (by clear  hQ hX hX0  hl hD hnl; grind [atB, bI]))
    · skip
      refine r_iconst hX (nI 1) dX10_isAt_23 rfl ?_
      refine r_goto hX dX10_isAt_24 ?_
      exact r_zreturn hX hQ dX10_isAt_28 ⟨Nat.le_of_ble_eq_true rfl, Nat.le_of_ble_eq_true rfl⟩ rfl (PF.mk (by clear  hQ hX hX0  hl hD hnl; grind [atB, bI]))

set_option maxHeartbeats 4000000 in
set_option maxRecDepth 100000 in
theorem c_X10_isOf {l : Launch} {D : Ds} {L : La} (hM : MAt L) (σ : Me) (A : Al) (hR : RM (σ 1) A) (v : Int32) : Ct l yX10_isOf cX10_isOf 2 (some .boolean) { frames := 2, cells := 0, slots := 0, locals := 43 } D L σ [.ref (L.1 0), .int v] (PF L σ (bI (ofB A v))) := by
  refine Ct.of (by decide) (Nat.le_of_ble_eq_true rfl) ?_
  intro X hl hD hnl hX0 hQ
  have hX : Ok X cX10_isOf RX10 "isOf" { frames := 2, cells := 0, slots := 0, locals := 43 } (some .boolean) := hX0
  show At X L σ 0 0 [(0, .ref (L.1 0)), (1, .int v)] 0 []
  refine r_iload_n hX dX10_isOf_0 rfl ?_
  refine r_if_lt hX dX10_isOf_1 (fun c1 => ?_) (fun c1 => ?_)
  · skip
    refine r_iconst hX (nI 0) dX10_isOf_30 rfl ?_
    exact r_zreturn hX hQ dX10_isOf_31 ⟨Nat.le_of_ble_eq_true rfl, Nat.le_of_ble_eq_true rfl⟩ rfl (PF.mk (by clear  hQ hX hX0  hl hD hnl; grind [ofB, bI]))
  · skip
    refine r_aload_n hX dX10_isOf_4 rfl ?_
    refine r_iload_n hX dX10_isOf_5 rfl ?_
    refine r_bipush hX (nI 100) dX10_isOf_6 rfl ?_
    refine r_idiv hX dX10_isOf_8 (by decide) ?_
    refine r_callVF (As := [.int (v / (nI 100))]) (rest := []) hX (c_X10_isThing hM σ A hR (v / (nI 100))) dX10_isOf_9 cb_X10_78 (hM.1 0 (9, 0) rfl) rfl rfl ⟨Nat.le_of_ble_eq_true rfl, Nat.le_of_ble_eq_true rfl⟩ ⟨Nat.le_of_ble_eq_true rfl, Nat.le_of_ble_eq_true rfl⟩ (Nat.le_of_ble_eq_true rfl) ?_
    refine r_ifB_eq hX dX10_isOf_12 (fun c2 => ?_) (fun c2 => ?_)
    · skip
      refine r_iconst hX (nI 0) dX10_isOf_30 rfl ?_
      exact r_zreturn hX hQ dX10_isOf_31 ⟨Nat.le_of_ble_eq_true rfl, Nat.le_of_ble_eq_true rfl⟩ rfl (PF.mk (by clear  hQ hX hX0  hl hD hnl; grind [ofB, bI]))
    · skip
      refine r_aload_n hX dX10_isOf_15 rfl ?_
      refine r_iload_n hX dX10_isOf_16 rfl ?_
      refine r_bipush hX (nI 100) dX10_isOf_17 rfl ?_
      refine r_irem hX dX10_isOf_19 (by decide) ?_
      refine r_callVF (As := [.int (rem v (nI 100))]) (rest := []) hX (c_X10_isName hM σ A hR (rem v (nI 100))) dX10_isOf_20 cb_X10_89 (hM.1 0 (9, 0) rfl) rfl rfl ⟨Nat.le_of_ble_eq_true rfl, Nat.le_of_ble_eq_true rfl⟩ ⟨Nat.le_of_ble_eq_true rfl, Nat.le_of_ble_eq_true rfl⟩ (Nat.le_of_ble_eq_true rfl) ?_
      refine r_ifB_eq hX dX10_isOf_23 (fun c3 => ?_) (fun c3 => ?_)
      · skip
        refine r_iconst hX (nI 0) dX10_isOf_30 rfl ?_
        exact r_zreturn hX hQ dX10_isOf_31 ⟨Nat.le_of_ble_eq_true rfl, Nat.le_of_ble_eq_true rfl⟩ rfl (PF.mk (by clear  hQ hX hX0  hl hD hnl; grind [ofB, bI]))
      · skip
        refine r_iconst hX (nI 1) dX10_isOf_26 rfl ?_
        refine r_goto hX dX10_isOf_27 ?_
        exact r_zreturn hX hQ dX10_isOf_31 ⟨Nat.le_of_ble_eq_true rfl, Nat.le_of_ble_eq_true rfl⟩ rfl (PF.mk (by clear  hQ hX hX0  hl hD hnl; grind [ofB, bI]))

set_option maxHeartbeats 4000000 in
set_option maxRecDepth 100000 in
theorem c_X10_above {l : Launch} {D : Ds} {L : La}  (σ : Me) (k : Nat) (hk : k ≤ 5) : Ct l yX10_above cX10_above 1 (some .int) { frames := 0, cells := 0, slots := 0, locals := 0 } D L σ [.int (nI k)] (PF L σ (abI k)) := by
  refine Ct.of (by decide) (Nat.le_of_ble_eq_true rfl) ?_
  intro X hl hD hnl hX0 hQ
  have hX : Ok X cX10_above RX10 "above" { frames := 0, cells := 0, slots := 0, locals := 0 } (some .int) := hX0
  show At X L σ 0 0 [(0, .int (nI k))] 0 []
  rcases (show k = 0 ∨ k = 1 ∨ k = 2 ∨ k = 3 ∨ k = 4 ∨ k = 5 from (by omega)) with rfl | rfl | rfl | rfl | rfl | rfl
  · skip
    refine r_iload_n hX dX10_above_0 rfl ?_
    refine r_tabInN (v := 0) hX 36 dX10_above_1 (by decide) (by decide) (by decide) 35 rfl (by decide) ?_
    refine r_iconst hX (-1) dX10_above_36 rfl ?_
    exact r_ireturn hX hQ dX10_above_37 ⟨Nat.le_of_ble_eq_true rfl, Nat.le_of_ble_eq_true rfl⟩ (PF.mk rfl)
  · skip
    refine r_iload_n hX dX10_above_0 rfl ?_
    refine r_tabInN (v := 1) hX 42 dX10_above_1 (by decide) (by decide) (by decide) 41 rfl (by decide) ?_
    refine r_iconst hX (nI 0) dX10_above_42 rfl ?_
    exact r_ireturn hX hQ dX10_above_43 ⟨Nat.le_of_ble_eq_true rfl, Nat.le_of_ble_eq_true rfl⟩ (PF.mk rfl)
  · skip
    refine r_iload_n hX dX10_above_0 rfl ?_
    refine r_tabInN (v := 2) hX 42 dX10_above_1 (by decide) (by decide) (by decide) 41 rfl (by decide) ?_
    refine r_iconst hX (nI 0) dX10_above_42 rfl ?_
    exact r_ireturn hX hQ dX10_above_43 ⟨Nat.le_of_ble_eq_true rfl, Nat.le_of_ble_eq_true rfl⟩ (PF.mk rfl)
  · skip
    refine r_iload_n hX dX10_above_0 rfl ?_
    refine r_tabInN (v := 3) hX 38 dX10_above_1 (by decide) (by decide) (by decide) 37 rfl (by decide) ?_
    refine r_iconst hX (nI 1) dX10_above_38 rfl ?_
    exact r_ireturn hX hQ dX10_above_39 ⟨Nat.le_of_ble_eq_true rfl, Nat.le_of_ble_eq_true rfl⟩ (PF.mk rfl)
  · skip
    refine r_iload_n hX dX10_above_0 rfl ?_
    refine r_tabInN (v := 4) hX 40 dX10_above_1 (by decide) (by decide) (by decide) 39 rfl (by decide) ?_
    refine r_iconst hX (nI 2) dX10_above_40 rfl ?_
    exact r_ireturn hX hQ dX10_above_41 ⟨Nat.le_of_ble_eq_true rfl, Nat.le_of_ble_eq_true rfl⟩ (PF.mk rfl)
  · skip
    refine r_iload_n hX dX10_above_0 rfl ?_
    refine r_tabOut hX 42 dX10_above_1 (by rw [nI_toInt (by decide)]; decide) (by decide) ?_
    refine r_iconst hX (nI 0) dX10_above_42 rfl ?_
    exact r_ireturn hX hQ dX10_above_43 ⟨Nat.le_of_ble_eq_true rfl, Nat.le_of_ble_eq_true rfl⟩ (PF.mk rfl)

set_option maxHeartbeats 4000000 in
set_option maxRecDepth 100000 in
theorem c_X10_isUnder {l : Launch} {D : Ds} {L : La}  (σ : Me) (k a : Nat) (hk : k ≤ 5) (ha : a ≤ 5) : Ct l yX10_isUnder cX10_isUnder 3 (some .boolean) { frames := 1, cells := 0, slots := 0, locals := 20 } D L σ [.int (nI k), .int (nI a)] (PF L σ (bI (undB k a))) := by
  refine Ct.of (by decide) (Nat.le_of_ble_eq_true rfl) ?_
  intro X hl hD hnl hX0 hQ
  have hX : Ok X cX10_isUnder RX10 "isUnder" { frames := 1, cells := 0, slots := 0, locals := 20 } (some .boolean) := hX0
  have hN2 : 2 < xn X := by rw [hnl]; decide
  show At X L σ 0 0 [(0, .int (nI k)), (1, .int (nI a))] 0 []
  rcases (show k = 0 ∨ k = 1 ∨ k = 2 ∨ k = 3 ∨ k = 4 ∨ k = 5 from (by omega)) with rfl | rfl | rfl | rfl | rfl | rfl
  · skip
    refine r_iload_n hX dX10_isUnder_0 rfl ?_
    refine r_istore_n hX [(0, .int (nI 0)), (1, .int (nI a)), (2, .int (nI 0))] dX10_isUnder_1 hN2 rfl ?_
    refine r_iload_n hX dX10_isUnder_2 rfl ?_
    refine r_ifN_lt hX dX10_isUnder_3 (by decide) ?_
    refine r_iload_n hX dX10_isUnder_6 rfl ?_
    refine r_iload_n hX dX10_isUnder_7 rfl ?_
    refine r_icmpN_eq hX dX10_isUnder_8 (by decide) (by omega) (fun c1 => ?_) (fun c1 => ?_)
    · skip
      refine r_iload_n hX dX10_isUnder_19 rfl ?_
      refine r_iload_n hX dX10_isUnder_20 rfl ?_
      refine r_icmpN_ne hX dX10_isUnder_21 (by decide) (by omega) (fun c2 => ?_) (fun c2 => ?_)
      · skip
        refine r_iconst hX (nI 0) dX10_isUnder_28 rfl ?_
        exact r_zreturn hX hQ dX10_isUnder_29 ⟨Nat.le_of_ble_eq_true rfl, Nat.le_of_ble_eq_true rfl⟩ rfl (PF.mk (by clear  hQ hX hX0 hN2 hl hD hnl; grind [undB, bI]))
      · skip
        refine r_iconst hX (nI 1) dX10_isUnder_24 rfl ?_
        refine r_goto hX dX10_isUnder_25 ?_
        exact r_zreturn hX hQ dX10_isUnder_29 ⟨Nat.le_of_ble_eq_true rfl, Nat.le_of_ble_eq_true rfl⟩ rfl (PF.mk (by clear  hQ hX hX0 hN2 hl hD hnl; grind [undB, bI]))
    · skip
      refine r_iload_n hX dX10_isUnder_11 rfl ?_
      refine r_callSF (As := [.int (nI 0)]) (rest := []) hX (c_X10_above σ 0 (by decide)) dX10_isUnder_12 cb_X10_103 rfl rfl ⟨Nat.le_of_ble_eq_true rfl, Nat.le_of_ble_eq_true rfl⟩ ⟨Nat.le_of_ble_eq_true rfl, Nat.le_of_ble_eq_true rfl⟩ (Nat.le_of_ble_eq_true rfl) ?_
      refine r_istore_n hX [(0, .int (nI 0)), (1, .int (nI a)), (2, .int (-1))] dX10_isUnder_15 hN2 rfl ?_
      refine r_goto hX dX10_isUnder_16 ?_
      refine r_iload_n hX dX10_isUnder_2 rfl ?_
      refine r_if_lt hX dX10_isUnder_3 (fun c3 => ?_) (fun c3 => absurd c3 (by decide))
      refine r_iload_n hX dX10_isUnder_19 rfl ?_
      refine r_iload_n hX dX10_isUnder_20 rfl ?_
      refine r_icmp_ne hX dX10_isUnder_21 (fun c4 => ?_) (fun c4 => absurd c4 (nneg_ne' (by omega) (by decide)))
      refine r_iconst hX (nI 0) dX10_isUnder_28 rfl ?_
      exact r_zreturn hX hQ dX10_isUnder_29 ⟨Nat.le_of_ble_eq_true rfl, Nat.le_of_ble_eq_true rfl⟩ rfl (PF.mk (by clear  hQ hX hX0 hN2 hl hD hnl; grind [undB, bI]))
  · skip
    refine r_iload_n hX dX10_isUnder_0 rfl ?_
    refine r_istore_n hX [(0, .int (nI 1)), (1, .int (nI a)), (2, .int (nI 1))] dX10_isUnder_1 hN2 rfl ?_
    refine r_iload_n hX dX10_isUnder_2 rfl ?_
    refine r_ifN_lt hX dX10_isUnder_3 (by decide) ?_
    refine r_iload_n hX dX10_isUnder_6 rfl ?_
    refine r_iload_n hX dX10_isUnder_7 rfl ?_
    refine r_icmpN_eq hX dX10_isUnder_8 (by decide) (by omega) (fun c5 => ?_) (fun c5 => ?_)
    · skip
      refine r_iload_n hX dX10_isUnder_19 rfl ?_
      refine r_iload_n hX dX10_isUnder_20 rfl ?_
      refine r_icmpN_ne hX dX10_isUnder_21 (by decide) (by omega) (fun c6 => ?_) (fun c6 => ?_)
      · skip
        refine r_iconst hX (nI 0) dX10_isUnder_28 rfl ?_
        exact r_zreturn hX hQ dX10_isUnder_29 ⟨Nat.le_of_ble_eq_true rfl, Nat.le_of_ble_eq_true rfl⟩ rfl (PF.mk (by clear  hQ hX hX0 hN2 hl hD hnl; grind [undB, bI]))
      · skip
        refine r_iconst hX (nI 1) dX10_isUnder_24 rfl ?_
        refine r_goto hX dX10_isUnder_25 ?_
        exact r_zreturn hX hQ dX10_isUnder_29 ⟨Nat.le_of_ble_eq_true rfl, Nat.le_of_ble_eq_true rfl⟩ rfl (PF.mk (by clear  hQ hX hX0 hN2 hl hD hnl; grind [undB, bI]))
    · skip
      refine r_iload_n hX dX10_isUnder_11 rfl ?_
      refine r_callSF (As := [.int (nI 1)]) (rest := []) hX (c_X10_above σ 1 (by decide)) dX10_isUnder_12 cb_X10_103 rfl rfl ⟨Nat.le_of_ble_eq_true rfl, Nat.le_of_ble_eq_true rfl⟩ ⟨Nat.le_of_ble_eq_true rfl, Nat.le_of_ble_eq_true rfl⟩ (Nat.le_of_ble_eq_true rfl) ?_
      refine r_istore_n hX [(0, .int (nI 1)), (1, .int (nI a)), (2, .int (nI 0))] dX10_isUnder_15 hN2 rfl ?_
      refine r_goto hX dX10_isUnder_16 ?_
      refine r_iload_n hX dX10_isUnder_2 rfl ?_
      refine r_ifN_lt hX dX10_isUnder_3 (by decide) ?_
      refine r_iload_n hX dX10_isUnder_6 rfl ?_
      refine r_iload_n hX dX10_isUnder_7 rfl ?_
      refine r_icmpN_eq hX dX10_isUnder_8 (by decide) (by omega) (fun c7 => ?_) (fun c7 => ?_)
      · skip
        refine r_iload_n hX dX10_isUnder_19 rfl ?_
        refine r_iload_n hX dX10_isUnder_20 rfl ?_
        refine r_icmpN_ne hX dX10_isUnder_21 (by decide) (by omega) (fun c8 => ?_) (fun c8 => ?_)
        · skip
          refine r_iconst hX (nI 0) dX10_isUnder_28 rfl ?_
          exact r_zreturn hX hQ dX10_isUnder_29 ⟨Nat.le_of_ble_eq_true rfl, Nat.le_of_ble_eq_true rfl⟩ rfl (PF.mk (by clear  hQ hX hX0 hN2 hl hD hnl; grind [undB, bI]))
        · skip
          refine r_iconst hX (nI 1) dX10_isUnder_24 rfl ?_
          refine r_goto hX dX10_isUnder_25 ?_
          exact r_zreturn hX hQ dX10_isUnder_29 ⟨Nat.le_of_ble_eq_true rfl, Nat.le_of_ble_eq_true rfl⟩ rfl (PF.mk (by clear  hQ hX hX0 hN2 hl hD hnl; grind [undB, bI]))
      · skip
        refine r_iload_n hX dX10_isUnder_11 rfl ?_
        refine r_callSF (As := [.int (nI 0)]) (rest := []) hX (c_X10_above σ 0 (by decide)) dX10_isUnder_12 cb_X10_103 rfl rfl ⟨Nat.le_of_ble_eq_true rfl, Nat.le_of_ble_eq_true rfl⟩ ⟨Nat.le_of_ble_eq_true rfl, Nat.le_of_ble_eq_true rfl⟩ (Nat.le_of_ble_eq_true rfl) ?_
        refine r_istore_n hX [(0, .int (nI 1)), (1, .int (nI a)), (2, .int (-1))] dX10_isUnder_15 hN2 rfl ?_
        refine r_goto hX dX10_isUnder_16 ?_
        refine r_iload_n hX dX10_isUnder_2 rfl ?_
        refine r_if_lt hX dX10_isUnder_3 (fun c9 => ?_) (fun c9 => absurd c9 (by decide))
        refine r_iload_n hX dX10_isUnder_19 rfl ?_
        refine r_iload_n hX dX10_isUnder_20 rfl ?_
        refine r_icmp_ne hX dX10_isUnder_21 (fun c10 => ?_) (fun c10 => absurd c10 (nneg_ne' (by omega) (by decide)))
        refine r_iconst hX (nI 0) dX10_isUnder_28 rfl ?_
        exact r_zreturn hX hQ dX10_isUnder_29 ⟨Nat.le_of_ble_eq_true rfl, Nat.le_of_ble_eq_true rfl⟩ rfl (PF.mk (by clear  hQ hX hX0 hN2 hl hD hnl; grind [undB, bI]))
  · skip
    refine r_iload_n hX dX10_isUnder_0 rfl ?_
    refine r_istore_n hX [(0, .int (nI 2)), (1, .int (nI a)), (2, .int (nI 2))] dX10_isUnder_1 hN2 rfl ?_
    refine r_iload_n hX dX10_isUnder_2 rfl ?_
    refine r_ifN_lt hX dX10_isUnder_3 (by decide) ?_
    refine r_iload_n hX dX10_isUnder_6 rfl ?_
    refine r_iload_n hX dX10_isUnder_7 rfl ?_
    refine r_icmpN_eq hX dX10_isUnder_8 (by decide) (by omega) (fun c11 => ?_) (fun c11 => ?_)
    · skip
      refine r_iload_n hX dX10_isUnder_19 rfl ?_
      refine r_iload_n hX dX10_isUnder_20 rfl ?_
      refine r_icmpN_ne hX dX10_isUnder_21 (by decide) (by omega) (fun c12 => ?_) (fun c12 => ?_)
      · skip
        refine r_iconst hX (nI 0) dX10_isUnder_28 rfl ?_
        exact r_zreturn hX hQ dX10_isUnder_29 ⟨Nat.le_of_ble_eq_true rfl, Nat.le_of_ble_eq_true rfl⟩ rfl (PF.mk (by clear  hQ hX hX0 hN2 hl hD hnl; grind [undB, bI]))
      · skip
        refine r_iconst hX (nI 1) dX10_isUnder_24 rfl ?_
        refine r_goto hX dX10_isUnder_25 ?_
        exact r_zreturn hX hQ dX10_isUnder_29 ⟨Nat.le_of_ble_eq_true rfl, Nat.le_of_ble_eq_true rfl⟩ rfl (PF.mk (by clear  hQ hX hX0 hN2 hl hD hnl; grind [undB, bI]))
    · skip
      refine r_iload_n hX dX10_isUnder_11 rfl ?_
      refine r_callSF (As := [.int (nI 2)]) (rest := []) hX (c_X10_above σ 2 (by decide)) dX10_isUnder_12 cb_X10_103 rfl rfl ⟨Nat.le_of_ble_eq_true rfl, Nat.le_of_ble_eq_true rfl⟩ ⟨Nat.le_of_ble_eq_true rfl, Nat.le_of_ble_eq_true rfl⟩ (Nat.le_of_ble_eq_true rfl) ?_
      refine r_istore_n hX [(0, .int (nI 2)), (1, .int (nI a)), (2, .int (nI 0))] dX10_isUnder_15 hN2 rfl ?_
      refine r_goto hX dX10_isUnder_16 ?_
      refine r_iload_n hX dX10_isUnder_2 rfl ?_
      refine r_ifN_lt hX dX10_isUnder_3 (by decide) ?_
      refine r_iload_n hX dX10_isUnder_6 rfl ?_
      refine r_iload_n hX dX10_isUnder_7 rfl ?_
      refine r_icmpN_eq hX dX10_isUnder_8 (by decide) (by omega) (fun c13 => ?_) (fun c13 => ?_)
      · skip
        refine r_iload_n hX dX10_isUnder_19 rfl ?_
        refine r_iload_n hX dX10_isUnder_20 rfl ?_
        refine r_icmpN_ne hX dX10_isUnder_21 (by decide) (by omega) (fun c14 => ?_) (fun c14 => ?_)
        · skip
          refine r_iconst hX (nI 0) dX10_isUnder_28 rfl ?_
          exact r_zreturn hX hQ dX10_isUnder_29 ⟨Nat.le_of_ble_eq_true rfl, Nat.le_of_ble_eq_true rfl⟩ rfl (PF.mk (by clear  hQ hX hX0 hN2 hl hD hnl; grind [undB, bI]))
        · skip
          refine r_iconst hX (nI 1) dX10_isUnder_24 rfl ?_
          refine r_goto hX dX10_isUnder_25 ?_
          exact r_zreturn hX hQ dX10_isUnder_29 ⟨Nat.le_of_ble_eq_true rfl, Nat.le_of_ble_eq_true rfl⟩ rfl (PF.mk (by clear  hQ hX hX0 hN2 hl hD hnl; grind [undB, bI]))
      · skip
        refine r_iload_n hX dX10_isUnder_11 rfl ?_
        refine r_callSF (As := [.int (nI 0)]) (rest := []) hX (c_X10_above σ 0 (by decide)) dX10_isUnder_12 cb_X10_103 rfl rfl ⟨Nat.le_of_ble_eq_true rfl, Nat.le_of_ble_eq_true rfl⟩ ⟨Nat.le_of_ble_eq_true rfl, Nat.le_of_ble_eq_true rfl⟩ (Nat.le_of_ble_eq_true rfl) ?_
        refine r_istore_n hX [(0, .int (nI 2)), (1, .int (nI a)), (2, .int (-1))] dX10_isUnder_15 hN2 rfl ?_
        refine r_goto hX dX10_isUnder_16 ?_
        refine r_iload_n hX dX10_isUnder_2 rfl ?_
        refine r_if_lt hX dX10_isUnder_3 (fun c15 => ?_) (fun c15 => absurd c15 (by decide))
        refine r_iload_n hX dX10_isUnder_19 rfl ?_
        refine r_iload_n hX dX10_isUnder_20 rfl ?_
        refine r_icmp_ne hX dX10_isUnder_21 (fun c16 => ?_) (fun c16 => absurd c16 (nneg_ne' (by omega) (by decide)))
        refine r_iconst hX (nI 0) dX10_isUnder_28 rfl ?_
        exact r_zreturn hX hQ dX10_isUnder_29 ⟨Nat.le_of_ble_eq_true rfl, Nat.le_of_ble_eq_true rfl⟩ rfl (PF.mk (by clear  hQ hX hX0 hN2 hl hD hnl; grind [undB, bI]))
  · skip
    refine r_iload_n hX dX10_isUnder_0 rfl ?_
    refine r_istore_n hX [(0, .int (nI 3)), (1, .int (nI a)), (2, .int (nI 3))] dX10_isUnder_1 hN2 rfl ?_
    refine r_iload_n hX dX10_isUnder_2 rfl ?_
    refine r_ifN_lt hX dX10_isUnder_3 (by decide) ?_
    refine r_iload_n hX dX10_isUnder_6 rfl ?_
    refine r_iload_n hX dX10_isUnder_7 rfl ?_
    refine r_icmpN_eq hX dX10_isUnder_8 (by decide) (by omega) (fun c17 => ?_) (fun c17 => ?_)
    · skip
      refine r_iload_n hX dX10_isUnder_19 rfl ?_
      refine r_iload_n hX dX10_isUnder_20 rfl ?_
      refine r_icmpN_ne hX dX10_isUnder_21 (by decide) (by omega) (fun c18 => ?_) (fun c18 => ?_)
      · skip
        refine r_iconst hX (nI 0) dX10_isUnder_28 rfl ?_
        exact r_zreturn hX hQ dX10_isUnder_29 ⟨Nat.le_of_ble_eq_true rfl, Nat.le_of_ble_eq_true rfl⟩ rfl (PF.mk (by clear  hQ hX hX0 hN2 hl hD hnl; grind [undB, bI]))
      · skip
        refine r_iconst hX (nI 1) dX10_isUnder_24 rfl ?_
        refine r_goto hX dX10_isUnder_25 ?_
        exact r_zreturn hX hQ dX10_isUnder_29 ⟨Nat.le_of_ble_eq_true rfl, Nat.le_of_ble_eq_true rfl⟩ rfl (PF.mk (by clear  hQ hX hX0 hN2 hl hD hnl; grind [undB, bI]))
    · skip
      refine r_iload_n hX dX10_isUnder_11 rfl ?_
      refine r_callSF (As := [.int (nI 3)]) (rest := []) hX (c_X10_above σ 3 (by decide)) dX10_isUnder_12 cb_X10_103 rfl rfl ⟨Nat.le_of_ble_eq_true rfl, Nat.le_of_ble_eq_true rfl⟩ ⟨Nat.le_of_ble_eq_true rfl, Nat.le_of_ble_eq_true rfl⟩ (Nat.le_of_ble_eq_true rfl) ?_
      refine r_istore_n hX [(0, .int (nI 3)), (1, .int (nI a)), (2, .int (nI 1))] dX10_isUnder_15 hN2 rfl ?_
      refine r_goto hX dX10_isUnder_16 ?_
      refine r_iload_n hX dX10_isUnder_2 rfl ?_
      refine r_ifN_lt hX dX10_isUnder_3 (by decide) ?_
      refine r_iload_n hX dX10_isUnder_6 rfl ?_
      refine r_iload_n hX dX10_isUnder_7 rfl ?_
      refine r_icmpN_eq hX dX10_isUnder_8 (by decide) (by omega) (fun c19 => ?_) (fun c19 => ?_)
      · skip
        refine r_iload_n hX dX10_isUnder_19 rfl ?_
        refine r_iload_n hX dX10_isUnder_20 rfl ?_
        refine r_icmpN_ne hX dX10_isUnder_21 (by decide) (by omega) (fun c20 => ?_) (fun c20 => ?_)
        · skip
          refine r_iconst hX (nI 0) dX10_isUnder_28 rfl ?_
          exact r_zreturn hX hQ dX10_isUnder_29 ⟨Nat.le_of_ble_eq_true rfl, Nat.le_of_ble_eq_true rfl⟩ rfl (PF.mk (by clear  hQ hX hX0 hN2 hl hD hnl; grind [undB, bI]))
        · skip
          refine r_iconst hX (nI 1) dX10_isUnder_24 rfl ?_
          refine r_goto hX dX10_isUnder_25 ?_
          exact r_zreturn hX hQ dX10_isUnder_29 ⟨Nat.le_of_ble_eq_true rfl, Nat.le_of_ble_eq_true rfl⟩ rfl (PF.mk (by clear  hQ hX hX0 hN2 hl hD hnl; grind [undB, bI]))
      · skip
        refine r_iload_n hX dX10_isUnder_11 rfl ?_
        refine r_callSF (As := [.int (nI 1)]) (rest := []) hX (c_X10_above σ 1 (by decide)) dX10_isUnder_12 cb_X10_103 rfl rfl ⟨Nat.le_of_ble_eq_true rfl, Nat.le_of_ble_eq_true rfl⟩ ⟨Nat.le_of_ble_eq_true rfl, Nat.le_of_ble_eq_true rfl⟩ (Nat.le_of_ble_eq_true rfl) ?_
        refine r_istore_n hX [(0, .int (nI 3)), (1, .int (nI a)), (2, .int (nI 0))] dX10_isUnder_15 hN2 rfl ?_
        refine r_goto hX dX10_isUnder_16 ?_
        refine r_iload_n hX dX10_isUnder_2 rfl ?_
        refine r_ifN_lt hX dX10_isUnder_3 (by decide) ?_
        refine r_iload_n hX dX10_isUnder_6 rfl ?_
        refine r_iload_n hX dX10_isUnder_7 rfl ?_
        refine r_icmpN_eq hX dX10_isUnder_8 (by decide) (by omega) (fun c21 => ?_) (fun c21 => ?_)
        · skip
          refine r_iload_n hX dX10_isUnder_19 rfl ?_
          refine r_iload_n hX dX10_isUnder_20 rfl ?_
          refine r_icmpN_ne hX dX10_isUnder_21 (by decide) (by omega) (fun c22 => ?_) (fun c22 => ?_)
          · skip
            refine r_iconst hX (nI 0) dX10_isUnder_28 rfl ?_
            exact r_zreturn hX hQ dX10_isUnder_29 ⟨Nat.le_of_ble_eq_true rfl, Nat.le_of_ble_eq_true rfl⟩ rfl (PF.mk (by clear  hQ hX hX0 hN2 hl hD hnl; grind [undB, bI]))
          · skip
            refine r_iconst hX (nI 1) dX10_isUnder_24 rfl ?_
            refine r_goto hX dX10_isUnder_25 ?_
            exact r_zreturn hX hQ dX10_isUnder_29 ⟨Nat.le_of_ble_eq_true rfl, Nat.le_of_ble_eq_true rfl⟩ rfl (PF.mk (by clear  hQ hX hX0 hN2 hl hD hnl; grind [undB, bI]))
        · skip
          refine r_iload_n hX dX10_isUnder_11 rfl ?_
          refine r_callSF (As := [.int (nI 0)]) (rest := []) hX (c_X10_above σ 0 (by decide)) dX10_isUnder_12 cb_X10_103 rfl rfl ⟨Nat.le_of_ble_eq_true rfl, Nat.le_of_ble_eq_true rfl⟩ ⟨Nat.le_of_ble_eq_true rfl, Nat.le_of_ble_eq_true rfl⟩ (Nat.le_of_ble_eq_true rfl) ?_
          refine r_istore_n hX [(0, .int (nI 3)), (1, .int (nI a)), (2, .int (-1))] dX10_isUnder_15 hN2 rfl ?_
          refine r_goto hX dX10_isUnder_16 ?_
          refine r_iload_n hX dX10_isUnder_2 rfl ?_
          refine r_if_lt hX dX10_isUnder_3 (fun c23 => ?_) (fun c23 => absurd c23 (by decide))
          refine r_iload_n hX dX10_isUnder_19 rfl ?_
          refine r_iload_n hX dX10_isUnder_20 rfl ?_
          refine r_icmp_ne hX dX10_isUnder_21 (fun c24 => ?_) (fun c24 => absurd c24 (nneg_ne' (by omega) (by decide)))
          refine r_iconst hX (nI 0) dX10_isUnder_28 rfl ?_
          exact r_zreturn hX hQ dX10_isUnder_29 ⟨Nat.le_of_ble_eq_true rfl, Nat.le_of_ble_eq_true rfl⟩ rfl (PF.mk (by clear  hQ hX hX0 hN2 hl hD hnl; grind [undB, bI]))
  · skip
    refine r_iload_n hX dX10_isUnder_0 rfl ?_
    refine r_istore_n hX [(0, .int (nI 4)), (1, .int (nI a)), (2, .int (nI 4))] dX10_isUnder_1 hN2 rfl ?_
    refine r_iload_n hX dX10_isUnder_2 rfl ?_
    refine r_ifN_lt hX dX10_isUnder_3 (by decide) ?_
    refine r_iload_n hX dX10_isUnder_6 rfl ?_
    refine r_iload_n hX dX10_isUnder_7 rfl ?_
    refine r_icmpN_eq hX dX10_isUnder_8 (by decide) (by omega) (fun c25 => ?_) (fun c25 => ?_)
    · skip
      refine r_iload_n hX dX10_isUnder_19 rfl ?_
      refine r_iload_n hX dX10_isUnder_20 rfl ?_
      refine r_icmpN_ne hX dX10_isUnder_21 (by decide) (by omega) (fun c26 => ?_) (fun c26 => ?_)
      · skip
        refine r_iconst hX (nI 0) dX10_isUnder_28 rfl ?_
        exact r_zreturn hX hQ dX10_isUnder_29 ⟨Nat.le_of_ble_eq_true rfl, Nat.le_of_ble_eq_true rfl⟩ rfl (PF.mk (by clear  hQ hX hX0 hN2 hl hD hnl; grind [undB, bI]))
      · skip
        refine r_iconst hX (nI 1) dX10_isUnder_24 rfl ?_
        refine r_goto hX dX10_isUnder_25 ?_
        exact r_zreturn hX hQ dX10_isUnder_29 ⟨Nat.le_of_ble_eq_true rfl, Nat.le_of_ble_eq_true rfl⟩ rfl (PF.mk (by clear  hQ hX hX0 hN2 hl hD hnl; grind [undB, bI]))
    · skip
      refine r_iload_n hX dX10_isUnder_11 rfl ?_
      refine r_callSF (As := [.int (nI 4)]) (rest := []) hX (c_X10_above σ 4 (by decide)) dX10_isUnder_12 cb_X10_103 rfl rfl ⟨Nat.le_of_ble_eq_true rfl, Nat.le_of_ble_eq_true rfl⟩ ⟨Nat.le_of_ble_eq_true rfl, Nat.le_of_ble_eq_true rfl⟩ (Nat.le_of_ble_eq_true rfl) ?_
      refine r_istore_n hX [(0, .int (nI 4)), (1, .int (nI a)), (2, .int (nI 2))] dX10_isUnder_15 hN2 rfl ?_
      refine r_goto hX dX10_isUnder_16 ?_
      refine r_iload_n hX dX10_isUnder_2 rfl ?_
      refine r_ifN_lt hX dX10_isUnder_3 (by decide) ?_
      refine r_iload_n hX dX10_isUnder_6 rfl ?_
      refine r_iload_n hX dX10_isUnder_7 rfl ?_
      refine r_icmpN_eq hX dX10_isUnder_8 (by decide) (by omega) (fun c27 => ?_) (fun c27 => ?_)
      · skip
        refine r_iload_n hX dX10_isUnder_19 rfl ?_
        refine r_iload_n hX dX10_isUnder_20 rfl ?_
        refine r_icmpN_ne hX dX10_isUnder_21 (by decide) (by omega) (fun c28 => ?_) (fun c28 => ?_)
        · skip
          refine r_iconst hX (nI 0) dX10_isUnder_28 rfl ?_
          exact r_zreturn hX hQ dX10_isUnder_29 ⟨Nat.le_of_ble_eq_true rfl, Nat.le_of_ble_eq_true rfl⟩ rfl (PF.mk (by clear  hQ hX hX0 hN2 hl hD hnl; grind [undB, bI]))
        · skip
          refine r_iconst hX (nI 1) dX10_isUnder_24 rfl ?_
          refine r_goto hX dX10_isUnder_25 ?_
          exact r_zreturn hX hQ dX10_isUnder_29 ⟨Nat.le_of_ble_eq_true rfl, Nat.le_of_ble_eq_true rfl⟩ rfl (PF.mk (by clear  hQ hX hX0 hN2 hl hD hnl; grind [undB, bI]))
      · skip
        refine r_iload_n hX dX10_isUnder_11 rfl ?_
        refine r_callSF (As := [.int (nI 2)]) (rest := []) hX (c_X10_above σ 2 (by decide)) dX10_isUnder_12 cb_X10_103 rfl rfl ⟨Nat.le_of_ble_eq_true rfl, Nat.le_of_ble_eq_true rfl⟩ ⟨Nat.le_of_ble_eq_true rfl, Nat.le_of_ble_eq_true rfl⟩ (Nat.le_of_ble_eq_true rfl) ?_
        refine r_istore_n hX [(0, .int (nI 4)), (1, .int (nI a)), (2, .int (nI 0))] dX10_isUnder_15 hN2 rfl ?_
        refine r_goto hX dX10_isUnder_16 ?_
        refine r_iload_n hX dX10_isUnder_2 rfl ?_
        refine r_ifN_lt hX dX10_isUnder_3 (by decide) ?_
        refine r_iload_n hX dX10_isUnder_6 rfl ?_
        refine r_iload_n hX dX10_isUnder_7 rfl ?_
        refine r_icmpN_eq hX dX10_isUnder_8 (by decide) (by omega) (fun c29 => ?_) (fun c29 => ?_)
        · skip
          refine r_iload_n hX dX10_isUnder_19 rfl ?_
          refine r_iload_n hX dX10_isUnder_20 rfl ?_
          refine r_icmpN_ne hX dX10_isUnder_21 (by decide) (by omega) (fun c30 => ?_) (fun c30 => ?_)
          · skip
            refine r_iconst hX (nI 0) dX10_isUnder_28 rfl ?_
            exact r_zreturn hX hQ dX10_isUnder_29 ⟨Nat.le_of_ble_eq_true rfl, Nat.le_of_ble_eq_true rfl⟩ rfl (PF.mk (by clear  hQ hX hX0 hN2 hl hD hnl; grind [undB, bI]))
          · skip
            refine r_iconst hX (nI 1) dX10_isUnder_24 rfl ?_
            refine r_goto hX dX10_isUnder_25 ?_
            exact r_zreturn hX hQ dX10_isUnder_29 ⟨Nat.le_of_ble_eq_true rfl, Nat.le_of_ble_eq_true rfl⟩ rfl (PF.mk (by clear  hQ hX hX0 hN2 hl hD hnl; grind [undB, bI]))
        · skip
          refine r_iload_n hX dX10_isUnder_11 rfl ?_
          refine r_callSF (As := [.int (nI 0)]) (rest := []) hX (c_X10_above σ 0 (by decide)) dX10_isUnder_12 cb_X10_103 rfl rfl ⟨Nat.le_of_ble_eq_true rfl, Nat.le_of_ble_eq_true rfl⟩ ⟨Nat.le_of_ble_eq_true rfl, Nat.le_of_ble_eq_true rfl⟩ (Nat.le_of_ble_eq_true rfl) ?_
          refine r_istore_n hX [(0, .int (nI 4)), (1, .int (nI a)), (2, .int (-1))] dX10_isUnder_15 hN2 rfl ?_
          refine r_goto hX dX10_isUnder_16 ?_
          refine r_iload_n hX dX10_isUnder_2 rfl ?_
          refine r_if_lt hX dX10_isUnder_3 (fun c31 => ?_) (fun c31 => absurd c31 (by decide))
          refine r_iload_n hX dX10_isUnder_19 rfl ?_
          refine r_iload_n hX dX10_isUnder_20 rfl ?_
          refine r_icmp_ne hX dX10_isUnder_21 (fun c32 => ?_) (fun c32 => absurd c32 (nneg_ne' (by omega) (by decide)))
          refine r_iconst hX (nI 0) dX10_isUnder_28 rfl ?_
          exact r_zreturn hX hQ dX10_isUnder_29 ⟨Nat.le_of_ble_eq_true rfl, Nat.le_of_ble_eq_true rfl⟩ rfl (PF.mk (by clear  hQ hX hX0 hN2 hl hD hnl; grind [undB, bI]))
  · skip
    refine r_iload_n hX dX10_isUnder_0 rfl ?_
    refine r_istore_n hX [(0, .int (nI 5)), (1, .int (nI a)), (2, .int (nI 5))] dX10_isUnder_1 hN2 rfl ?_
    refine r_iload_n hX dX10_isUnder_2 rfl ?_
    refine r_ifN_lt hX dX10_isUnder_3 (by decide) ?_
    refine r_iload_n hX dX10_isUnder_6 rfl ?_
    refine r_iload_n hX dX10_isUnder_7 rfl ?_
    refine r_icmpN_eq hX dX10_isUnder_8 (by decide) (by omega) (fun c33 => ?_) (fun c33 => ?_)
    · skip
      refine r_iload_n hX dX10_isUnder_19 rfl ?_
      refine r_iload_n hX dX10_isUnder_20 rfl ?_
      refine r_icmpN_ne hX dX10_isUnder_21 (by decide) (by omega) (fun c34 => ?_) (fun c34 => ?_)
      · skip
        refine r_iconst hX (nI 0) dX10_isUnder_28 rfl ?_
        exact r_zreturn hX hQ dX10_isUnder_29 ⟨Nat.le_of_ble_eq_true rfl, Nat.le_of_ble_eq_true rfl⟩ rfl (PF.mk (by clear  hQ hX hX0 hN2 hl hD hnl; grind [undB, bI]))
      · skip
        refine r_iconst hX (nI 1) dX10_isUnder_24 rfl ?_
        refine r_goto hX dX10_isUnder_25 ?_
        exact r_zreturn hX hQ dX10_isUnder_29 ⟨Nat.le_of_ble_eq_true rfl, Nat.le_of_ble_eq_true rfl⟩ rfl (PF.mk (by clear  hQ hX hX0 hN2 hl hD hnl; grind [undB, bI]))
    · skip
      refine r_iload_n hX dX10_isUnder_11 rfl ?_
      refine r_callSF (As := [.int (nI 5)]) (rest := []) hX (c_X10_above σ 5 (by decide)) dX10_isUnder_12 cb_X10_103 rfl rfl ⟨Nat.le_of_ble_eq_true rfl, Nat.le_of_ble_eq_true rfl⟩ ⟨Nat.le_of_ble_eq_true rfl, Nat.le_of_ble_eq_true rfl⟩ (Nat.le_of_ble_eq_true rfl) ?_
      refine r_istore_n hX [(0, .int (nI 5)), (1, .int (nI a)), (2, .int (nI 0))] dX10_isUnder_15 hN2 rfl ?_
      refine r_goto hX dX10_isUnder_16 ?_
      refine r_iload_n hX dX10_isUnder_2 rfl ?_
      refine r_ifN_lt hX dX10_isUnder_3 (by decide) ?_
      refine r_iload_n hX dX10_isUnder_6 rfl ?_
      refine r_iload_n hX dX10_isUnder_7 rfl ?_
      refine r_icmpN_eq hX dX10_isUnder_8 (by decide) (by omega) (fun c35 => ?_) (fun c35 => ?_)
      · skip
        refine r_iload_n hX dX10_isUnder_19 rfl ?_
        refine r_iload_n hX dX10_isUnder_20 rfl ?_
        refine r_icmpN_ne hX dX10_isUnder_21 (by decide) (by omega) (fun c36 => ?_) (fun c36 => ?_)
        · skip
          refine r_iconst hX (nI 0) dX10_isUnder_28 rfl ?_
          exact r_zreturn hX hQ dX10_isUnder_29 ⟨Nat.le_of_ble_eq_true rfl, Nat.le_of_ble_eq_true rfl⟩ rfl (PF.mk (by clear  hQ hX hX0 hN2 hl hD hnl; grind [undB, bI]))
        · skip
          refine r_iconst hX (nI 1) dX10_isUnder_24 rfl ?_
          refine r_goto hX dX10_isUnder_25 ?_
          exact r_zreturn hX hQ dX10_isUnder_29 ⟨Nat.le_of_ble_eq_true rfl, Nat.le_of_ble_eq_true rfl⟩ rfl (PF.mk (by clear  hQ hX hX0 hN2 hl hD hnl; grind [undB, bI]))
      · skip
        refine r_iload_n hX dX10_isUnder_11 rfl ?_
        refine r_callSF (As := [.int (nI 0)]) (rest := []) hX (c_X10_above σ 0 (by decide)) dX10_isUnder_12 cb_X10_103 rfl rfl ⟨Nat.le_of_ble_eq_true rfl, Nat.le_of_ble_eq_true rfl⟩ ⟨Nat.le_of_ble_eq_true rfl, Nat.le_of_ble_eq_true rfl⟩ (Nat.le_of_ble_eq_true rfl) ?_
        refine r_istore_n hX [(0, .int (nI 5)), (1, .int (nI a)), (2, .int (-1))] dX10_isUnder_15 hN2 rfl ?_
        refine r_goto hX dX10_isUnder_16 ?_
        refine r_iload_n hX dX10_isUnder_2 rfl ?_
        refine r_if_lt hX dX10_isUnder_3 (fun c37 => ?_) (fun c37 => absurd c37 (by decide))
        refine r_iload_n hX dX10_isUnder_19 rfl ?_
        refine r_iload_n hX dX10_isUnder_20 rfl ?_
        refine r_icmp_ne hX dX10_isUnder_21 (fun c38 => ?_) (fun c38 => absurd c38 (nneg_ne' (by omega) (by decide)))
        refine r_iconst hX (nI 0) dX10_isUnder_28 rfl ?_
        exact r_zreturn hX hQ dX10_isUnder_29 ⟨Nat.le_of_ble_eq_true rfl, Nat.le_of_ble_eq_true rfl⟩ rfl (PF.mk (by clear  hQ hX hX0 hN2 hl hD hnl; grind [undB, bI]))

set_option maxHeartbeats 4000000 in
set_option maxRecDepth 100000 in
theorem c_X10_isTrue {l : Launch} {D : Ds} {L : La}  (σ : Me) (k : Nat) (hk : k ≤ 5) : Ct l yX10_isTrue cX10_isTrue 1 (some .boolean) { frames := 2, cells := 0, slots := 0, locals := 42 } D L σ [.int (nI k)] (PF L σ (bI (trB k))) := by
  refine Ct.of (by decide) (Nat.le_of_ble_eq_true rfl) ?_
  intro X hl hD hnl hX0 hQ
  have hX : Ok X cX10_isTrue RX10 "isTrue" { frames := 2, cells := 0, slots := 0, locals := 42 } (some .boolean) := hX0
  show At X L σ 0 0 [(0, .int (nI k))] 0 []
  refine r_iload_n hX dX10_isTrue_0 rfl ?_
  refine r_iconst hX (nI 5) dX10_isTrue_1 rfl ?_
  refine r_icmpN_eq hX dX10_isTrue_2 (by omega) (by decide) (fun c1 => ?_) (fun c1 => ?_)
  · skip
    refine r_iconst hX (nI 0) dX10_isTrue_17 rfl ?_
    exact r_zreturn hX hQ dX10_isTrue_18 ⟨Nat.le_of_ble_eq_true rfl, Nat.le_of_ble_eq_true rfl⟩ rfl (PF.mk (by clear  hQ hX hX0  hl hD hnl; grind [trB, bI]))
  · skip
    refine r_iload_n hX dX10_isTrue_5 rfl ?_
    refine r_iconst hX (nI 2) dX10_isTrue_6 rfl ?_
    refine r_callSF (As := [.int (nI k), .int (nI 2)]) (rest := []) hX (c_X10_isUnder σ k 2 (by omega) (by omega)) dX10_isTrue_7 cb_X10_106 rfl rfl ⟨Nat.le_of_ble_eq_true rfl, Nat.le_of_ble_eq_true rfl⟩ ⟨Nat.le_of_ble_eq_true rfl, Nat.le_of_ble_eq_true rfl⟩ (Nat.le_of_ble_eq_true rfl) ?_
    refine r_ifB_ne hX dX10_isTrue_10 (fun c2 => ?_) (fun c2 => ?_)
    · skip
      refine r_iconst hX (nI 0) dX10_isTrue_17 rfl ?_
      exact r_zreturn hX hQ dX10_isTrue_18 ⟨Nat.le_of_ble_eq_true rfl, Nat.le_of_ble_eq_true rfl⟩ rfl (PF.mk (by clear  hQ hX hX0  hl hD hnl; grind [trB, bI]))
    · skip
      refine r_iconst hX (nI 1) dX10_isTrue_13 rfl ?_
      refine r_goto hX dX10_isTrue_14 ?_
      exact r_zreturn hX hQ dX10_isTrue_18 ⟨Nat.le_of_ble_eq_true rfl, Nat.le_of_ble_eq_true rfl⟩ rfl (PF.mk (by clear  hQ hX hX0  hl hD hnl; grind [trB, bI]))

set_option maxHeartbeats 4000000 in
set_option maxRecDepth 100000 in
theorem c_X10_says {l : Launch} {D : Ds} {L : La}  (σ : Me) (k q : Nat) (hk : k ≤ 5) (h1 : 1 ≤ q) (h5 : q ≤ 5) : Ct l yX10_says cX10_says 2 (some .int) { frames := 0, cells := 0, slots := 0, locals := 0 } D L σ [.int (nI k), .int (nI q)] (PF L σ (nI (sayN k q))) := by
  refine Ct.of (by decide) (Nat.le_of_ble_eq_true rfl) ?_
  intro X hl hD hnl hX0 hQ
  have hX : Ok X cX10_says RX10 "says" { frames := 0, cells := 0, slots := 0, locals := 0 } (some .int) := hX0
  show At X L σ 0 0 [(0, .int (nI k)), (1, .int (nI q))] 0 []
  rcases (show k = 0 ∨ k = 1 ∨ k = 2 ∨ k = 3 ∨ k = 4 ∨ k = 5 from (by omega)) with rfl | rfl | rfl | rfl | rfl | rfl
  · skip
    refine r_iload_n hX dX10_says_0 rfl ?_
    refine r_tabOut hX 56 dX10_says_1 (by rw [nI_toInt (by decide)]; decide) (by decide) ?_
    refine r_bipush hX (nI 20) dX10_says_56 rfl ?_
    refine r_iload_n hX dX10_says_58 rfl ?_
    refine r_imulN hX dX10_says_59 ?_
    exact r_ireturn hX hQ dX10_says_60 ⟨Nat.le_of_ble_eq_true rfl, Nat.le_of_ble_eq_true rfl⟩ (PF.mk rfl)
  · skip
    refine r_iload_n hX dX10_says_0 rfl ?_
    refine r_tabOut hX 56 dX10_says_1 (by rw [nI_toInt (by decide)]; decide) (by decide) ?_
    refine r_bipush hX (nI 20) dX10_says_56 rfl ?_
    refine r_iload_n hX dX10_says_58 rfl ?_
    refine r_imulN hX dX10_says_59 ?_
    exact r_ireturn hX hQ dX10_says_60 ⟨Nat.le_of_ble_eq_true rfl, Nat.le_of_ble_eq_true rfl⟩ (PF.mk rfl)
  · skip
    refine r_iload_n hX dX10_says_0 rfl ?_
    refine r_tabInN (v := 2) hX 40 dX10_says_1 (by decide) (by decide) (by decide) 39 rfl (by decide) ?_
    refine r_bipush hX (nI 50) dX10_says_40 rfl ?_
    exact r_ireturn hX hQ dX10_says_42 ⟨Nat.le_of_ble_eq_true rfl, Nat.le_of_ble_eq_true rfl⟩ (PF.mk rfl)
  · skip
    refine r_iload_n hX dX10_says_0 rfl ?_
    refine r_tabInN (v := 3) hX 32 dX10_says_1 (by decide) (by decide) (by decide) 31 rfl (by decide) ?_
    refine r_bipush hX (nI 20) dX10_says_32 rfl ?_
    refine r_iload_n hX dX10_says_34 rfl ?_
    refine r_imulN hX dX10_says_35 ?_
    refine r_bipush hX (nI 20) dX10_says_36 rfl ?_
    refine r_isubN hX dX10_says_38 (by omega) ?_
    exact r_ireturn hX hQ dX10_says_39 ⟨Nat.le_of_ble_eq_true rfl, Nat.le_of_ble_eq_true rfl⟩ (PF.mk rfl)
  · skip
    refine r_iload_n hX dX10_says_0 rfl ?_
    refine r_tabInN (v := 4) hX 43 dX10_says_1 (by decide) (by decide) (by decide) 42 rfl (by decide) ?_
    refine r_bipush hX (nI 50) dX10_says_43 rfl ?_
    refine r_iload_n hX dX10_says_45 rfl ?_
    refine r_iaddN hX dX10_says_46 ?_
    exact r_ireturn hX hQ dX10_says_47 ⟨Nat.le_of_ble_eq_true rfl, Nat.le_of_ble_eq_true rfl⟩ (PF.mk rfl)
  · skip
    refine r_iload_n hX dX10_says_0 rfl ?_
    refine r_tabInN (v := 5) hX 48 dX10_says_1 (by decide) (by decide) (by decide) 47 rfl (by decide) ?_
    refine r_bipush hX (nI 100) dX10_says_48 rfl ?_
    refine r_bipush hX (nI 20) dX10_says_50 rfl ?_
    refine r_iload_n hX dX10_says_52 rfl ?_
    refine r_imulN hX dX10_says_53 ?_
    refine r_isubN hX dX10_says_54 (by omega) ?_
    exact r_ireturn hX hQ dX10_says_55 ⟨Nat.le_of_ble_eq_true rfl, Nat.le_of_ble_eq_true rfl⟩ (PF.mk rfl)
