set_option maxHeartbeats 4000000 in
set_option maxRecDepth 100000 in
theorem c_X10_latest {l : Launch} {D : Ds} {L : La} (hM : MAt L) (σ : Me) (A : Al) (hR : RM (σ 1) A) (hV : Va A) (y : Nat) (hy : y ≤ 2) : Ct l yX10_latest cX10_latest 4 (some .int) { frames := 0, cells := 0, slots := 0, locals := 0 } D L σ [.ref (L.1 0), .int (nI y)] (PF L σ (oI (lst A y (aX A).length))) := by
  refine Ct.of (by decide) (Nat.le_of_ble_eq_true rfl) ?_
  intro X hl hD hnl hX0 hQ
  have hX : Ok X cX10_latest RX10 "latest" { frames := 0, cells := 0, slots := 0, locals := 0 } (some .int) := hX0
  have hN2 : 2 < xn X := by rw [hnl]; decide
  have hN3 : 3 < xn X := by rw [hnl]; decide
  have hX14 := hV.2.2.2.1
  show At X L σ 0 0 [(0, .ref (L.1 0)), (1, .int (nI y))] 0 []
  refine r_iconst hX (-1) dX10_latest_0 rfl ?_
  refine r_istore_n hX [(0, .ref (L.1 0)), (1, .int (nI y)), (2, .int (-1))] dX10_latest_1 hN2 rfl ?_
  refine r_iconst hX (nI 0) dX10_latest_2 rfl ?_
  refine r_istore_n hX [(0, .ref (L.1 0)), (1, .int (nI y)), (2, .int (-1)), (3, .int (nI 0))] dX10_latest_3 hN3 rfl ?_
  have P1 : ∀ k, k ≤ (aX A).length → At X L σ 0 0 [(0, .ref (L.1 0)), (1, .int (nI y)), (2, .int (oI (lst A y k))), (3, .int (nI k))] 4 [] := by
    refine loopUp ((aX A).length) ?_ ?_
    · skip
      refine r_iload_n hX dX10_latest_4 rfl ?_
      refine r_aload_n hX dX10_latest_5 rfl ?_
      refine r_getR hX dX10_latest_6 fl_X10_9 (hM.1 0 (9, 0) rfl) rfl (hM.2 0 1 rfl) ?_
      refine r_iconst hX (nI 3) dX10_latest_9 rfl ?_
      refine r_aldN hX dX10_latest_10 (hM.1 1 (10, 1605) rfl) (by decide) (by decide) (nI ((aX A).length)) hR.2.2.2.1 ?_
      refine r_icmpN_ge hX dX10_latest_11 (by omega) (by omega) (fun c2 => ?_) (fun c2 => absurd c2 (by omega))
      refine r_iload_n hX dX10_latest_45 rfl ?_
      exact r_ireturn hX hQ dX10_latest_46 ⟨Nat.le_of_ble_eq_true rfl, Nat.le_of_ble_eq_true rfl⟩ (PF.mk rfl)
    · skip
      intro k hk ih3
      have hb : (tx A k).1 ≤ 2 := (okT_at hV hk).1
      refine r_iload_n hX dX10_latest_4 rfl ?_
      refine r_aload_n hX dX10_latest_5 rfl ?_
      refine r_getR hX dX10_latest_6 fl_X10_9 (hM.1 0 (9, 0) rfl) rfl (hM.2 0 1 rfl) ?_
      refine r_iconst hX (nI 3) dX10_latest_9 rfl ?_
      refine r_aldN hX dX10_latest_10 (hM.1 1 (10, 1605) rfl) (by decide) (by decide) (nI ((aX A).length)) hR.2.2.2.1 ?_
      refine r_icmpN_ge hX dX10_latest_11 (by omega) (by omega) (fun c4 => absurd c4 (by omega)) (fun c4 => ?_)
      refine r_aload_n hX dX10_latest_14 rfl ?_
      refine r_getR hX dX10_latest_15 fl_X10_9 (hM.1 0 (9, 0) rfl) rfl (hM.2 0 1 rfl) ?_
      refine r_sipush hX (nI 149) dX10_latest_18 rfl ?_
      refine r_bipush hX (nI 104) dX10_latest_21 rfl ?_
      refine r_iload_n hX dX10_latest_23 rfl ?_
      refine r_imulN hX dX10_latest_24 ?_
      refine r_iaddN hX dX10_latest_25 ?_
      refine r_iconst hX (nI 0) dX10_latest_26 rfl ?_
      refine r_iaddN hX dX10_latest_27 ?_
      refine r_aldN hX dX10_latest_28 (hM.1 1 (10, 1605) rfl) (by decide) (by omega) (nI ((tx A k).1)) (hR.2.2.2.2.2.2.2.2 k hk).1 ?_
      refine r_iload_n hX dX10_latest_29 rfl ?_
      refine r_icmpN_ne hX dX10_latest_30 (by omega) (by omega) (fun c5 => ?_) (fun c5 => ?_)
      · skip
        refine r_iload_n hX dX10_latest_37 rfl ?_
        refine r_istore_n hX [(0, .ref (L.1 0)), (1, .int (nI y)), (2, .int (oI (lst A y k))), (3, .int (nI k))] dX10_latest_38 hN2 rfl ?_
        refine r_iincN (n := 1) hX [(0, .ref (L.1 0)), (1, .int (nI y)), (2, .int (oI (lst A y k))), (3, .int (nI (k + 1)))] dX10_latest_39 rfl hN3 rfl ?_
        refine r_goto hX dX10_latest_42 ?_
        have q6 : (oI (lst A y (k + 1))) = (oI (lst A y k)) := (by rw [lst, if_neg c5]; try rfl)
        exact At.to ih3 (by rw [q6]) rfl rfl
      · skip
        refine r_iload_n hX dX10_latest_33 rfl ?_
        refine r_goto hX dX10_latest_34 ?_
        refine r_istore_n hX [(0, .ref (L.1 0)), (1, .int (nI y)), (2, .int (nI k)), (3, .int (nI k))] dX10_latest_38 hN2 rfl ?_
        refine r_iincN (n := 1) hX [(0, .ref (L.1 0)), (1, .int (nI y)), (2, .int (nI k)), (3, .int (nI (k + 1)))] dX10_latest_39 rfl hN3 rfl ?_
        refine r_goto hX dX10_latest_42 ?_
        have q7 : (oI (lst A y (k + 1))) = nI k := (by rw [lst, if_pos c5]; try rfl)
        exact At.to ih3 (by rw [q7]) rfl rfl
  exact At.to (P1 0 (Nat.zero_le _)) rfl rfl rfl

set_option maxHeartbeats 4000000 in
set_option maxRecDepth 100000 in
theorem c_X10_done {l : Launch} {D : Ds} {L : La}  (σ : Me) (c : Nat) (a b : Int32) (h1 : 20001 ≤ c) (h2 : c ≤ 20009) : Ct l yX10_done cX10_done 3 (some .int) { frames := 0, cells := 0, slots := 0, locals := 0 } D L σ [.int (nI c), .int a, .int b] (PF L σ (doI c a b)) := by
  refine Ct.of (by decide) (Nat.le_of_ble_eq_true rfl) ?_
  intro X hl hD hnl hX0 hQ
  have hX : Ok X cX10_done RX10 "done" { frames := 0, cells := 0, slots := 0, locals := 0 } (some .int) := hX0
  show At X L σ 0 0 [(0, .int (nI c)), (1, .int a), (2, .int b)] 0 []
  rcases (show c = 20001 ∨ c = 20002 ∨ c = 20003 ∨ c = 20004 ∨ c = 20005 ∨ c = 20006 ∨ c = 20007 ∨ c = 20008 ∨ c = 20009 from (by omega)) with rfl | rfl | rfl | rfl | rfl | rfl | rfl | rfl | rfl
  · skip
    refine r_iload_n hX dX10_done_0 rfl ?_
    refine r_tabInN (v := 20001) hX 48 dX10_done_1 (by decide) (by decide) (by decide) 47 rfl (by decide) ?_
    refine r_iload_n hX dX10_done_48 rfl ?_
    refine r_if_ne hX dX10_done_49 (fun c1 => ?_) (fun c1 => ?_)
    · skip
      refine r_iconst hX (nI 1) dX10_done_56 rfl ?_
      refine r_goto hX dX10_done_57 ?_
      exact r_ireturn hX hQ dX10_done_61 ⟨Nat.le_of_ble_eq_true rfl, Nat.le_of_ble_eq_true rfl⟩ (PF.mk (by clear  hQ hX hX0  hl hD hnl; first | (simp [doI]; done) | (simp [doI]; grind [div_m1])))
    · skip
      refine r_iload_n hX dX10_done_52 rfl ?_
      refine r_if_eq hX dX10_done_53 (fun c2 => ?_) (fun c2 => ?_)
      · skip
        refine r_iconst hX (nI 0) dX10_done_60 rfl ?_
        exact r_ireturn hX hQ dX10_done_61 ⟨Nat.le_of_ble_eq_true rfl, Nat.le_of_ble_eq_true rfl⟩ (PF.mk (by clear  hQ hX hX0  hl hD hnl; first | (simp [doI]; done) | (simp [doI]; grind [div_m1])))
      · skip
        refine r_iconst hX (nI 1) dX10_done_56 rfl ?_
        refine r_goto hX dX10_done_57 ?_
        exact r_ireturn hX hQ dX10_done_61 ⟨Nat.le_of_ble_eq_true rfl, Nat.le_of_ble_eq_true rfl⟩ (PF.mk (by clear  hQ hX hX0  hl hD hnl; first | (simp [doI]; done) | (simp [doI]; grind [div_m1])))
  · skip
    refine r_iload_n hX dX10_done_0 rfl ?_
    refine r_tabInN (v := 20002) hX 62 dX10_done_1 (by decide) (by decide) (by decide) 61 rfl (by decide) ?_
    refine r_iload_n hX dX10_done_62 rfl ?_
    refine r_if_eq hX dX10_done_63 (fun c3 => ?_) (fun c3 => ?_)
    · skip
      refine r_iconst hX (nI 0) dX10_done_74 rfl ?_
      exact r_ireturn hX hQ dX10_done_75 ⟨Nat.le_of_ble_eq_true rfl, Nat.le_of_ble_eq_true rfl⟩ (PF.mk (by clear  hQ hX hX0  hl hD hnl; first | (simp [doI]; done) | (simp [doI]; grind [div_m1])))
    · skip
      refine r_iload_n hX dX10_done_66 rfl ?_
      refine r_if_eq hX dX10_done_67 (fun c4 => ?_) (fun c4 => ?_)
      · skip
        refine r_iconst hX (nI 0) dX10_done_74 rfl ?_
        exact r_ireturn hX hQ dX10_done_75 ⟨Nat.le_of_ble_eq_true rfl, Nat.le_of_ble_eq_true rfl⟩ (PF.mk (by clear  hQ hX hX0  hl hD hnl; first | (simp [doI]; done) | (simp [doI]; grind [div_m1])))
      · skip
        refine r_iconst hX (nI 1) dX10_done_70 rfl ?_
        refine r_goto hX dX10_done_71 ?_
        exact r_ireturn hX hQ dX10_done_75 ⟨Nat.le_of_ble_eq_true rfl, Nat.le_of_ble_eq_true rfl⟩ (PF.mk (by clear  hQ hX hX0  hl hD hnl; first | (simp [doI]; done) | (simp [doI]; grind [div_m1])))
  · skip
    refine r_iload_n hX dX10_done_0 rfl ?_
    refine r_tabInN (v := 20003) hX 76 dX10_done_1 (by decide) (by decide) (by decide) 75 rfl (by decide) ?_
    refine r_iload_n hX dX10_done_76 rfl ?_
    refine r_iload_n hX dX10_done_77 rfl ?_
    refine r_icmp_ge hX dX10_done_78 (fun c5 => ?_) (fun c5 => ?_)
    · skip
      refine r_iconst hX (nI 0) dX10_done_85 rfl ?_
      exact r_ireturn hX hQ dX10_done_86 ⟨Nat.le_of_ble_eq_true rfl, Nat.le_of_ble_eq_true rfl⟩ (PF.mk (by clear  hQ hX hX0  hl hD hnl; first | (simp [doI]; done) | (simp [doI]; grind [div_m1])))
    · skip
      refine r_iconst hX (nI 1) dX10_done_81 rfl ?_
      refine r_goto hX dX10_done_82 ?_
      exact r_ireturn hX hQ dX10_done_86 ⟨Nat.le_of_ble_eq_true rfl, Nat.le_of_ble_eq_true rfl⟩ (PF.mk (by clear  hQ hX hX0  hl hD hnl; first | (simp [doI]; done) | (simp [doI]; grind [div_m1])))
  · skip
    refine r_iload_n hX dX10_done_0 rfl ?_
    refine r_tabInN (v := 20004) hX 87 dX10_done_1 (by decide) (by decide) (by decide) 86 rfl (by decide) ?_
    refine r_iload_n hX dX10_done_87 rfl ?_
    refine r_iload_n hX dX10_done_88 rfl ?_
    refine r_icmp_ne hX dX10_done_89 (fun c6 => ?_) (fun c6 => ?_)
    · skip
      refine r_iconst hX (nI 0) dX10_done_96 rfl ?_
      exact r_ireturn hX hQ dX10_done_97 ⟨Nat.le_of_ble_eq_true rfl, Nat.le_of_ble_eq_true rfl⟩ (PF.mk (by clear  hQ hX hX0  hl hD hnl; first | (simp [doI]; done) | (simp [doI]; grind [div_m1])))
    · skip
      refine r_iconst hX (nI 1) dX10_done_92 rfl ?_
      refine r_goto hX dX10_done_93 ?_
      exact r_ireturn hX hQ dX10_done_97 ⟨Nat.le_of_ble_eq_true rfl, Nat.le_of_ble_eq_true rfl⟩ (PF.mk (by clear  hQ hX hX0  hl hD hnl; first | (simp [doI]; done) | (simp [doI]; grind [div_m1])))
  · skip
    refine r_iload_n hX dX10_done_0 rfl ?_
    refine r_tabInN (v := 20005) hX 98 dX10_done_1 (by decide) (by decide) (by decide) 97 rfl (by decide) ?_
    refine r_iload_n hX dX10_done_98 rfl ?_
    refine r_iload_n hX dX10_done_99 rfl ?_
    refine r_icmp_le hX dX10_done_100 (fun c7 => ?_) (fun c7 => ?_)
    · skip
      refine r_iconst hX (nI 0) dX10_done_107 rfl ?_
      exact r_ireturn hX hQ dX10_done_108 ⟨Nat.le_of_ble_eq_true rfl, Nat.le_of_ble_eq_true rfl⟩ (PF.mk (by clear  hQ hX hX0  hl hD hnl; first | (simp [doI]; done) | (simp [doI]; grind [div_m1])))
    · skip
      refine r_iconst hX (nI 1) dX10_done_103 rfl ?_
      refine r_goto hX dX10_done_104 ?_
      exact r_ireturn hX hQ dX10_done_108 ⟨Nat.le_of_ble_eq_true rfl, Nat.le_of_ble_eq_true rfl⟩ (PF.mk (by clear  hQ hX hX0  hl hD hnl; first | (simp [doI]; done) | (simp [doI]; grind [div_m1])))
  · skip
    refine r_iload_n hX dX10_done_0 rfl ?_
    refine r_tabInN (v := 20006) hX 109 dX10_done_1 (by decide) (by decide) (by decide) 108 rfl (by decide) ?_
    refine r_iload_n hX dX10_done_109 rfl ?_
    refine r_iload_n hX dX10_done_110 rfl ?_
    refine r_iadd hX dX10_done_111 ?_
    exact r_ireturn hX hQ dX10_done_112 ⟨Nat.le_of_ble_eq_true rfl, Nat.le_of_ble_eq_true rfl⟩ (PF.mk (by clear  hQ hX hX0  hl hD hnl; first | (simp [doI]; done) | (simp [doI]; grind [div_m1])))
  · skip
    refine r_iload_n hX dX10_done_0 rfl ?_
    refine r_tabInN (v := 20007) hX 113 dX10_done_1 (by decide) (by decide) (by decide) 112 rfl (by decide) ?_
    refine r_iload_n hX dX10_done_113 rfl ?_
    refine r_iload_n hX dX10_done_114 rfl ?_
    refine r_isub hX dX10_done_115 ?_
    exact r_ireturn hX hQ dX10_done_116 ⟨Nat.le_of_ble_eq_true rfl, Nat.le_of_ble_eq_true rfl⟩ (PF.mk (by clear  hQ hX hX0  hl hD hnl; first | (simp [doI]; done) | (simp [doI]; grind [div_m1])))
  · skip
    refine r_iload_n hX dX10_done_0 rfl ?_
    refine r_tabInN (v := 20008) hX 117 dX10_done_1 (by decide) (by decide) (by decide) 116 rfl (by decide) ?_
    refine r_iload_n hX dX10_done_117 rfl ?_
    refine r_iload_n hX dX10_done_118 rfl ?_
    refine r_imul hX dX10_done_119 ?_
    exact r_ireturn hX hQ dX10_done_120 ⟨Nat.le_of_ble_eq_true rfl, Nat.le_of_ble_eq_true rfl⟩ (PF.mk (by clear  hQ hX hX0  hl hD hnl; first | (simp [doI]; done) | (simp [doI]; grind [div_m1])))
  · skip
    refine r_iload_n hX dX10_done_0 rfl ?_
    refine r_tabOut hX 121 dX10_done_1 (by rw [nI_toInt (by decide)]; decide) (by decide) ?_
    refine r_iload_n hX dX10_done_121 rfl ?_
    refine r_if_ne hX dX10_done_122 (fun c8 => ?_) (fun c8 => ?_)
    · skip
      refine r_iload_n hX dX10_done_129 rfl ?_
      refine r_iconst hX (-1) dX10_done_130 rfl ?_
      refine r_icmp_ne hX dX10_done_131 (fun c9 => ?_) (fun c9 => ?_)
      · skip
        refine r_iload_n hX dX10_done_139 rfl ?_
        refine r_iload_n hX dX10_done_140 rfl ?_
        refine r_idiv hX dX10_done_141 (by assumption) ?_
        exact r_ireturn hX hQ dX10_done_142 ⟨Nat.le_of_ble_eq_true rfl, Nat.le_of_ble_eq_true rfl⟩ (PF.mk (by clear  hQ hX hX0  hl hD hnl; first | (simp [doI]; done) | (simp [doI]; grind [div_m1])))
      · skip
        refine r_iload_n hX dX10_done_134 rfl ?_
        refine r_ineg hX dX10_done_135 ?_
        refine r_goto hX dX10_done_136 ?_
        exact r_ireturn hX hQ dX10_done_142 ⟨Nat.le_of_ble_eq_true rfl, Nat.le_of_ble_eq_true rfl⟩ (PF.mk (by clear  hQ hX hX0  hl hD hnl; first | (simp [doI]; done) | (simp [doI]; grind [div_m1])))
    · skip
      refine r_iconst hX (nI 0) dX10_done_125 rfl ?_
      refine r_goto hX dX10_done_126 ?_
      exact r_ireturn hX hQ dX10_done_142 ⟨Nat.le_of_ble_eq_true rfl, Nat.le_of_ble_eq_true rfl⟩ (PF.mk (by clear  hQ hX hX0  hl hD hnl; first | (simp [doI]; done) | (simp [doI]; grind [div_m1])))

set_option maxHeartbeats 4000000 in
set_option maxRecDepth 100000 in
theorem c_X10_worth {l : Launch} {D : Ds} {L : La} (hM : MAt L) (σ : Me) (A : Al) (hR : RM (σ 1) A) (hV : Va A) (x : Nat) (hx : x < (aX A).length) : Ct l yX10_worth cX10_worth 6 (some .int) { frames := 1, cells := 0, slots := 0, locals := 22 } D L σ [.ref (L.1 0), .int (nI x)] (PI L (fun r σ2 => r = evV (σ 9) (tx A x).2.2 ∧ Of 11 σ σ2)) := by
  refine Ct.of (by decide) (Nat.le_of_ble_eq_true rfl) ?_
  intro X hl hD hnl hX0 hQ
  have hX : Ok X cX10_worth RX10 "worth" { frames := 1, cells := 0, slots := 0, locals := 22 } (some .int) := hX0
  have hN2 : 2 < xn X := by rw [hnl]; decide
  have hN3 : 3 < xn X := by rw [hnl]; decide
  have hN4 : 4 < xn X := by rw [hnl]; decide
  have hN5 : 5 < xn X := by rw [hnl]; decide
  have hX14 := hV.2.2.2.1
  have hok := okT_at hV hx
  have hle := hok.2.1
  show At X L σ 0 0 [(0, .ref (L.1 0)), (1, .int (nI x))] 0 []
  refine r_sipush hX (nI 149) dX10_worth_0 rfl ?_
  refine r_bipush hX (nI 104) dX10_worth_3 rfl ?_
  refine r_iload_n hX dX10_worth_5 rfl ?_
  refine r_imulN hX dX10_worth_6 ?_
  refine r_iaddN hX dX10_worth_7 ?_
  refine r_istore_n hX [(0, .ref (L.1 0)), (1, .int (nI x)), (2, .int (nI (149 + (104 * x))))] dX10_worth_8 hN2 rfl ?_
  refine r_iconst hX (nI 0) dX10_worth_9 rfl ?_
  refine r_istore_n hX [(0, .ref (L.1 0)), (1, .int (nI x)), (2, .int (nI (149 + (104 * x)))), (3, .int (nI 0))] dX10_worth_10 hN3 rfl ?_
  refine r_iconst hX (nI 0) dX10_worth_11 rfl ?_
  refine r_istore hX [(0, .ref (L.1 0)), (1, .int (nI x)), (2, .int (nI (149 + (104 * x)))), (3, .int (nI 0)), (4, .int (nI 0))] dX10_worth_12 hN4 rfl ?_
  have P1 : ∀ k, k ≤ (tx A x).2.2.length → ∀ (σk : Me) (hO : Of 11 σ σk) (hP : pil (σk 11) (stk (σ 9) (tx A x).2.2 k)), At X L σk 0 0 [(0, .ref (L.1 0)), (1, .int (nI x)), (2, .int (nI (149 + (104 * x)))), (3, .int (nI ((stk (σ 9) (tx A x).2.2 k).length))), (4, .int (nI k))] 14 [] := by
    refine loopUp ((tx A x).2.2.length) ?_ ?_
    · skip
      intro σk hO hP
      have hRk : RM (σk 1) A := by rw [hO.row (by decide)]; exact hR
      refine r_iload hX dX10_worth_14 rfl ?_
      refine r_aload_n hX dX10_worth_16 rfl ?_
      refine r_getR hX dX10_worth_17 fl_X10_9 (hM.1 0 (9, 0) rfl) rfl (hM.2 0 1 rfl) ?_
      refine r_iload_n hX dX10_worth_20 rfl ?_
      refine r_iconst hX (nI 2) dX10_worth_21 rfl ?_
      refine r_iaddN hX dX10_worth_22 ?_
      refine r_aldN hX dX10_worth_23 (hM.1 1 (10, 1605) rfl) (by decide) (by omega) (nI ((tx A x).2.2.length)) (hRk.2.2.2.2.2.2.2.2 x hx).2.2.1 ?_
      refine r_icmpN_ge hX dX10_worth_24 (by omega) (by omega) (fun c2 => ?_) (fun c2 => absurd c2 (by omega))
      refine r_aload_n hX dX10_worth_155 rfl ?_
      refine r_getR hX dX10_worth_156 fl_X10_41 (hM.1 0 (9, 0) rfl) rfl (hM.2 34 11 rfl) ?_
      refine r_iconst hX (nI 0) dX10_worth_159 rfl ?_
      refine r_aldN hX dX10_worth_160 (hM.1 11 (10, 100) rfl) (by decide) (by decide) (evV (σ 9) (tx A x).2.2) (evV_top hok.2.2.1 hP) ?_
      exact r_ireturn hX hQ dX10_worth_161 ⟨Nat.le_of_ble_eq_true rfl, Nat.le_of_ble_eq_true rfl⟩ (PI.mk ⟨rfl, hO⟩)
    · skip
      intro k hk ih3 σk hO hP
      have hRk : RM (σk 1) A := by rw [hO.row (by decide)]; exact hR
      obtain ⟨st, hst⟩ : ∃ st, st = stk (σ 9) (tx A x).2.2 k := ⟨_, rfl⟩
      obtain ⟨c, hcc⟩ : ∃ c, c = (tx A x).2.2.getD k 0 := ⟨_, rfl⟩
      have hs1 : stk (σ 9) (tx A x).2.2 (k + 1) = ev1 (σ 9) c st := by rw [stk_s _ hk, hst, hcc]
      obtain ⟨hd, hlk⟩ := stk_dpt (σ 9) hok.2.2.1 k (by omega)
      have hdd := dpt_drop hk hd
      have hc := code_lt hok hk
      rw [← hcc] at hdd hc
      rw [← hst] at hP hd hlk hdd ⊢
      refine r_iload hX dX10_worth_14 rfl ?_
      refine r_aload_n hX dX10_worth_16 rfl ?_
      refine r_getR hX dX10_worth_17 fl_X10_9 (hM.1 0 (9, 0) rfl) rfl (hM.2 0 1 rfl) ?_
      refine r_iload_n hX dX10_worth_20 rfl ?_
      refine r_iconst hX (nI 2) dX10_worth_21 rfl ?_
      refine r_iaddN hX dX10_worth_22 ?_
      refine r_aldN hX dX10_worth_23 (hM.1 1 (10, 1605) rfl) (by decide) (by omega) (nI ((tx A x).2.2.length)) (hRk.2.2.2.2.2.2.2.2 x hx).2.2.1 ?_
      refine r_icmpN_ge hX dX10_worth_24 (by omega) (by omega) (fun c4 => absurd c4 (by omega)) (fun c4 => ?_)
      refine r_aload_n hX dX10_worth_27 rfl ?_
      refine r_getR hX dX10_worth_28 fl_X10_9 (hM.1 0 (9, 0) rfl) rfl (hM.2 0 1 rfl) ?_
      refine r_iload_n hX dX10_worth_31 rfl ?_
      refine r_iconst hX (nI 3) dX10_worth_32 rfl ?_
      refine r_iaddN hX dX10_worth_33 ?_
      refine r_iload hX dX10_worth_34 rfl ?_
      refine r_iaddN hX dX10_worth_36 ?_
      refine r_aldN hX dX10_worth_37 (hM.1 1 (10, 1605) rfl) (by decide) (by omega) (nI c) (((hRk.2.2.2.2.2.2.2.2 x hx).2.2.2 k hk).trans (congrArg nI hcc.symm)) ?_
      refine r_istore hX [(0, .ref (L.1 0)), (1, .int (nI x)), (2, .int (nI (149 + (104 * x)))), (3, .int (nI st.length)), (4, .int (nI k)), (5, .int (nI c))] dX10_worth_38 hN5 rfl ?_
      refine r_iload hX dX10_worth_40 rfl ?_
      refine r_sipush hX (nI 20000) dX10_worth_42 rfl ?_
      refine r_icmpN_ge hX dX10_worth_45 (by omega) (by decide) (fun c5 => ?_) (fun c5 => ?_)
      · skip
        refine r_iload hX dX10_worth_84 rfl ?_
        refine r_sipush hX (nI 20000) dX10_worth_86 rfl ?_
        refine r_icmpN_ne hX dX10_worth_89 (by omega) (by decide) (fun c6 => ?_) (fun c6 => ?_)
        · skip
          have hl2 : 2 ≤ st.length := by omega
          refine r_iinc hX (nI (st.length - 1)) [(0, .ref (L.1 0)), (1, .int (nI x)), (2, .int (nI (149 + (104 * x)))), (3, .int (nI (st.length - 1))), (4, .int (nI k)), (5, .int (nI c))] dX10_worth_119 rfl (sb_m1 (by omega)) hN3 rfl ?_
          refine r_aload_n hX dX10_worth_122 rfl ?_
          refine r_getR hX dX10_worth_123 fl_X10_41 (hM.1 0 (9, 0) rfl) rfl (hM.2 34 11 rfl) ?_
          refine r_iload_n hX dX10_worth_126 rfl ?_
          refine r_iconst hX (nI 1) dX10_worth_127 rfl ?_
          refine r_isubN hX dX10_worth_128 (by omega) ?_
          refine r_iload hX dX10_worth_129 rfl ?_
          refine r_aload_n hX dX10_worth_131 rfl ?_
          refine r_getR hX dX10_worth_132 fl_X10_41 (hM.1 0 (9, 0) rfl) rfl (hM.2 34 11 rfl) ?_
          refine r_iload_n hX dX10_worth_135 rfl ?_
          refine r_iconst hX (nI 1) dX10_worth_136 rfl ?_
          refine r_isubN hX dX10_worth_137 (by omega) ?_
          refine r_aldN hX dX10_worth_138 (hM.1 11 (10, 100) rfl) (by decide) (by omega) (st.getD 1 0) (pil_top2 hP hl2) ?_
          refine r_aload_n hX dX10_worth_139 rfl ?_
          refine r_getR hX dX10_worth_140 fl_X10_41 (hM.1 0 (9, 0) rfl) rfl (hM.2 34 11 rfl) ?_
          refine r_iload_n hX dX10_worth_143 rfl ?_
          refine r_aldN hX dX10_worth_144 (hM.1 11 (10, 100) rfl) (by decide) (by omega) (st.getD 0 0) (pil_top1 hP (by omega)) ?_
          refine r_callSF (As := [.int (nI c), .int (st.getD 1 0), .int (st.getD 0 0)]) (rest := [.int (nI ((st.length - 1) - 1)), .ref (L.1 11)]) hX (c_X10_done σk c (st.getD 1 0) (st.getD 0 0) (by omega) (by omega)) dX10_worth_145 cb_X10_340 rfl rfl ⟨Nat.le_of_ble_eq_true rfl, Nat.le_of_ble_eq_true rfl⟩ ⟨Nat.le_of_ble_eq_true rfl, Nat.le_of_ble_eq_true rfl⟩ (Nat.le_of_ble_eq_true rfl) ?_
          refine r_astN hX dX10_worth_148 (hM.1 11 (10, 100) rfl) (by decide) (by omega) ?_
          refine r_iincN (n := 1) hX [(0, .ref (L.1 0)), (1, .int (nI x)), (2, .int (nI (149 + (104 * x)))), (3, .int (nI (st.length - 1))), (4, .int (nI (k + 1))), (5, .int (nI c))] dX10_worth_149 rfl hN4 rfl ?_
          refine r_goto hX dX10_worth_152 ?_
          have hs2 := ev1_op (f := σ 9) (c := c) (by omega) hl2
          have q7 : (stk (σ 9) (tx A x).2.2 (k + 1)).length = st.length - 1 := (by rw [hs1, hs2]; simp; try omega)
          exact At.less (At.to (ls := [(0, .ref (L.1 0)), (1, .int (nI x)), (2, .int (nI (149 + (104 * x)))), (3, .int (nI (st.length - 1))), (4, .int (nI (k + 1)))]) (ih3 _ hO.up (by rw [hs1, hs2]; exact pil_set2 hP hl2)) (by rw [q7]) rfl rfl) (by simp)
        · skip
          have hl1 : 1 ≤ st.length := by omega
          refine r_aload_n hX dX10_worth_92 rfl ?_
          refine r_getR hX dX10_worth_93 fl_X10_41 (hM.1 0 (9, 0) rfl) rfl (hM.2 34 11 rfl) ?_
          refine r_iload_n hX dX10_worth_96 rfl ?_
          refine r_iconst hX (nI 1) dX10_worth_97 rfl ?_
          refine r_isubN hX dX10_worth_98 (by omega) ?_
          refine r_aload_n hX dX10_worth_99 rfl ?_
          refine r_getR hX dX10_worth_100 fl_X10_41 (hM.1 0 (9, 0) rfl) rfl (hM.2 34 11 rfl) ?_
          refine r_iload_n hX dX10_worth_103 rfl ?_
          refine r_iconst hX (nI 1) dX10_worth_104 rfl ?_
          refine r_isubN hX dX10_worth_105 (by omega) ?_
          refine r_aldN hX dX10_worth_106 (hM.1 11 (10, 100) rfl) (by decide) (by omega) (st.getD 0 0) (pil_top1 hP hl1) ?_
          refine r_if_ne hX dX10_worth_107 (fun c8 => ?_) (fun c8 => ?_)
          · skip
            refine r_iconst hX (nI 0) dX10_worth_114 rfl ?_
            refine r_astN hX dX10_worth_115 (hM.1 11 (10, 100) rfl) (by decide) (by omega) ?_
            refine r_goto hX dX10_worth_116 ?_
            refine r_iincN (n := 1) hX [(0, .ref (L.1 0)), (1, .int (nI x)), (2, .int (nI (149 + (104 * x)))), (3, .int (nI st.length)), (4, .int (nI (k + 1))), (5, .int (nI c))] dX10_worth_149 rfl hN4 rfl ?_
            refine r_goto hX dX10_worth_152 ?_
            have hs2 := ev1_not (f := σ 9) c6 hl1
            rw [if_neg c8] at hs2
            have q9 : (stk (σ 9) (tx A x).2.2 (k + 1)).length = st.length := (by rw [hs1, hs2]; simp; try omega)
            exact At.less (At.to (ls := [(0, .ref (L.1 0)), (1, .int (nI x)), (2, .int (nI (149 + (104 * x)))), (3, .int (nI st.length)), (4, .int (nI (k + 1)))]) (ih3 _ hO.up (by rw [hs1, hs2]; exact pil_set1 hP hl1)) (by rw [q9]) rfl rfl) (by simp)
          · skip
            refine r_iconst hX (nI 1) dX10_worth_110 rfl ?_
            refine r_goto hX dX10_worth_111 ?_
            refine r_astN hX dX10_worth_115 (hM.1 11 (10, 100) rfl) (by decide) (by omega) ?_
            refine r_goto hX dX10_worth_116 ?_
            refine r_iincN (n := 1) hX [(0, .ref (L.1 0)), (1, .int (nI x)), (2, .int (nI (149 + (104 * x)))), (3, .int (nI st.length)), (4, .int (nI (k + 1))), (5, .int (nI c))] dX10_worth_149 rfl hN4 rfl ?_
            refine r_goto hX dX10_worth_152 ?_
            have hs2 := ev1_not (f := σ 9) c6 hl1
            rw [if_pos c8] at hs2
            have q10 : (stk (σ 9) (tx A x).2.2 (k + 1)).length = st.length := (by rw [hs1, hs2]; simp; try omega)
            exact At.less (At.to (ls := [(0, .ref (L.1 0)), (1, .int (nI x)), (2, .int (nI (149 + (104 * x)))), (3, .int (nI st.length)), (4, .int (nI (k + 1)))]) (ih3 _ hO.up (by rw [hs1, hs2]; exact pil_set1 hP hl1)) (by rw [q10]) rfl rfl) (by simp)
      · skip
        refine r_aload_n hX dX10_worth_48 rfl ?_
        refine r_getR hX dX10_worth_49 fl_X10_41 (hM.1 0 (9, 0) rfl) rfl (hM.2 34 11 rfl) ?_
        refine r_iload_n hX dX10_worth_52 rfl ?_
        refine r_iload hX dX10_worth_53 rfl ?_
        refine r_sipush hX (nI 10000) dX10_worth_55 rfl ?_
        refine r_icmpN_ge hX dX10_worth_58 (by omega) (by decide) (fun c11 => ?_) (fun c11 => ?_)
        · skip
          refine r_aload_n hX dX10_worth_66 rfl ?_
          refine r_getR hX dX10_worth_67 fl_X10_35 (hM.1 0 (9, 0) rfl) rfl (hM.2 19 9 rfl) ?_
          refine r_iload hX dX10_worth_70 rfl ?_
          refine r_sipush hX (nI 10000) dX10_worth_72 rfl ?_
          refine r_isubN hX dX10_worth_75 (by omega) ?_
          refine r_aldN hX dX10_worth_76 (hM.1 9 (10, 26) rfl) (by decide) (by omega) (σ 9 (c - 10000)) (hO 9 _ (by decide)) ?_
          refine r_astN hX dX10_worth_77 (hM.1 11 (10, 100) rfl) (by decide) (by omega) ?_
          refine r_iincN (n := 1) hX [(0, .ref (L.1 0)), (1, .int (nI x)), (2, .int (nI (149 + (104 * x)))), (3, .int (nI (st.length + 1))), (4, .int (nI k)), (5, .int (nI c))] dX10_worth_78 rfl hN3 rfl ?_
          refine r_goto hX dX10_worth_81 ?_
          refine r_iincN (n := 1) hX [(0, .ref (L.1 0)), (1, .int (nI x)), (2, .int (nI (149 + (104 * x)))), (3, .int (nI (st.length + 1))), (4, .int (nI (k + 1))), (5, .int (nI c))] dX10_worth_149 rfl hN4 rfl ?_
          refine r_goto hX dX10_worth_152 ?_
          have hs2 : ev1 (σ 9) c st = σ 9 (c - 10000) :: st := ev1_let (by omega) (by omega)
          have q12 : (stk (σ 9) (tx A x).2.2 (k + 1)).length = st.length + 1 := (by rw [hs1, hs2]; simp; try omega)
          exact At.less (At.to (ls := [(0, .ref (L.1 0)), (1, .int (nI x)), (2, .int (nI (149 + (104 * x)))), (3, .int (nI (st.length + 1))), (4, .int (nI (k + 1)))]) (ih3 _ hO.up (by rw [hs1, hs2]; exact pil_push hP)) (by rw [q12]) rfl rfl) (by simp)
        · skip
          refine r_iload hX dX10_worth_61 rfl ?_
          refine r_goto hX dX10_worth_63 ?_
          refine r_astN hX dX10_worth_77 (hM.1 11 (10, 100) rfl) (by decide) (by omega) ?_
          refine r_iincN (n := 1) hX [(0, .ref (L.1 0)), (1, .int (nI x)), (2, .int (nI (149 + (104 * x)))), (3, .int (nI (st.length + 1))), (4, .int (nI k)), (5, .int (nI c))] dX10_worth_78 rfl hN3 rfl ?_
          refine r_goto hX dX10_worth_81 ?_
          refine r_iincN (n := 1) hX [(0, .ref (L.1 0)), (1, .int (nI x)), (2, .int (nI (149 + (104 * x)))), (3, .int (nI (st.length + 1))), (4, .int (nI (k + 1))), (5, .int (nI c))] dX10_worth_149 rfl hN4 rfl ?_
          refine r_goto hX dX10_worth_152 ?_
          have hs2 : ev1 (σ 9) c st = nI c :: st := ev1_num (by omega)
          have q13 : (stk (σ 9) (tx A x).2.2 (k + 1)).length = st.length + 1 := (by rw [hs1, hs2]; simp; try omega)
          exact At.less (At.to (ls := [(0, .ref (L.1 0)), (1, .int (nI x)), (2, .int (nI (149 + (104 * x)))), (3, .int (nI (st.length + 1))), (4, .int (nI (k + 1)))]) (ih3 _ hO.up (by rw [hs1, hs2]; exact pil_push hP)) (by rw [q13]) rfl rfl) (by simp)
  exact At.to (P1 0 (Nat.zero_le _) σ (Of.rf σ) (pil_nil _)) rfl rfl rfl
