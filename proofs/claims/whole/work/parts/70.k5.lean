set_option maxHeartbeats 4000000 in
set_option maxRecDepth 100000 in
theorem c_X7_worked {l : Launch} {D : Ds} {L : La}  (σ : Me) (c : Nat) (a b : Int32) (h1 : 20001 ≤ c) (h2 : c ≤ 20009) : Ct l yX7_worked cX7_worked 3 (some .int) { frames := 0, cells := 0, slots := 0, locals := 0 } D L σ [.int (nI (sgc c - 20000)), .int a, .int b] (PF L σ (doI c a b)) := by
  refine Ct.of (by decide) (Nat.le_of_ble_eq_true rfl) ?_
  intro X hl hD hnl hX0 hQ
  have hX : Ok X cX7_worked RX7 "worked" { frames := 0, cells := 0, slots := 0, locals := 0 } (some .int) := hX0
  show At X L σ 0 0 [(0, .int (nI (sgc c - 20000))), (1, .int a), (2, .int b)] 0 []
  rcases (show c = 20001 ∨ c = 20002 ∨ c = 20003 ∨ c = 20004 ∨ c = 20005 ∨ c = 20006 ∨ c = 20007 ∨ c = 20008 ∨ c = 20009 from (by omega)) with rfl | rfl | rfl | rfl | rfl | rfl | rfl | rfl | rfl
  · skip
    show At X L σ 0 0 [(0, .int (nI 124)), (1, .int a), (2, .int b)] 0 []
    refine r_iload_n hX dX7_worked_0 rfl ?_
    refine r_lookN (v := 124) hX 76 dX7_worked_1 (by decide) (by decide) 75 rfl (by decide) ?_
    refine r_iload_n hX dX7_worked_76 rfl ?_
    refine r_if_ne hX dX7_worked_77 (fun c1 => ?_) (fun c1 => ?_)
    · skip
      refine r_iconst hX (nI 1) dX7_worked_84 rfl ?_
      refine r_goto hX dX7_worked_85 ?_
      exact r_ireturn hX hQ dX7_worked_89 ⟨Nat.le_of_ble_eq_true rfl, Nat.le_of_ble_eq_true rfl⟩ (PF.mk (by clear  hQ hX hX0  hl hD hnl; first | (simp [doI]; done) | (simp [doI]; grind)))
    · skip
      refine r_iload_n hX dX7_worked_80 rfl ?_
      refine r_if_eq hX dX7_worked_81 (fun c2 => ?_) (fun c2 => ?_)
      · skip
        refine r_iconst hX (nI 0) dX7_worked_88 rfl ?_
        exact r_ireturn hX hQ dX7_worked_89 ⟨Nat.le_of_ble_eq_true rfl, Nat.le_of_ble_eq_true rfl⟩ (PF.mk (by clear  hQ hX hX0  hl hD hnl; first | (simp [doI]; done) | (simp [doI]; grind)))
      · skip
        refine r_iconst hX (nI 1) dX7_worked_84 rfl ?_
        refine r_goto hX dX7_worked_85 ?_
        exact r_ireturn hX hQ dX7_worked_89 ⟨Nat.le_of_ble_eq_true rfl, Nat.le_of_ble_eq_true rfl⟩ (PF.mk (by clear  hQ hX hX0  hl hD hnl; first | (simp [doI]; done) | (simp [doI]; grind)))
  · skip
    show At X L σ 0 0 [(0, .int (nI 38)), (1, .int a), (2, .int b)] 0 []
    refine r_iload_n hX dX7_worked_0 rfl ?_
    refine r_lookN (v := 38) hX 90 dX7_worked_1 (by decide) (by decide) 89 rfl (by decide) ?_
    refine r_iload_n hX dX7_worked_90 rfl ?_
    refine r_if_eq hX dX7_worked_91 (fun c3 => ?_) (fun c3 => ?_)
    · skip
      refine r_iconst hX (nI 0) dX7_worked_102 rfl ?_
      exact r_ireturn hX hQ dX7_worked_103 ⟨Nat.le_of_ble_eq_true rfl, Nat.le_of_ble_eq_true rfl⟩ (PF.mk (by clear  hQ hX hX0  hl hD hnl; first | (simp [doI]; done) | (simp [doI]; grind)))
    · skip
      refine r_iload_n hX dX7_worked_94 rfl ?_
      refine r_if_eq hX dX7_worked_95 (fun c4 => ?_) (fun c4 => ?_)
      · skip
        refine r_iconst hX (nI 0) dX7_worked_102 rfl ?_
        exact r_ireturn hX hQ dX7_worked_103 ⟨Nat.le_of_ble_eq_true rfl, Nat.le_of_ble_eq_true rfl⟩ (PF.mk (by clear  hQ hX hX0  hl hD hnl; first | (simp [doI]; done) | (simp [doI]; grind)))
      · skip
        refine r_iconst hX (nI 1) dX7_worked_98 rfl ?_
        refine r_goto hX dX7_worked_99 ?_
        exact r_ireturn hX hQ dX7_worked_103 ⟨Nat.le_of_ble_eq_true rfl, Nat.le_of_ble_eq_true rfl⟩ (PF.mk (by clear  hQ hX hX0  hl hD hnl; first | (simp [doI]; done) | (simp [doI]; grind)))
  · skip
    show At X L σ 0 0 [(0, .int (nI 60)), (1, .int a), (2, .int b)] 0 []
    refine r_iload_n hX dX7_worked_0 rfl ?_
    refine r_lookN (v := 60) hX 104 dX7_worked_1 (by decide) (by decide) 103 rfl (by decide) ?_
    refine r_iload_n hX dX7_worked_104 rfl ?_
    refine r_iload_n hX dX7_worked_105 rfl ?_
    refine r_icmp_ge hX dX7_worked_106 (fun c5 => ?_) (fun c5 => ?_)
    · skip
      refine r_iconst hX (nI 0) dX7_worked_113 rfl ?_
      exact r_ireturn hX hQ dX7_worked_114 ⟨Nat.le_of_ble_eq_true rfl, Nat.le_of_ble_eq_true rfl⟩ (PF.mk (by clear  hQ hX hX0  hl hD hnl; first | (simp [doI]; done) | (simp [doI]; grind)))
    · skip
      refine r_iconst hX (nI 1) dX7_worked_109 rfl ?_
      refine r_goto hX dX7_worked_110 ?_
      exact r_ireturn hX hQ dX7_worked_114 ⟨Nat.le_of_ble_eq_true rfl, Nat.le_of_ble_eq_true rfl⟩ (PF.mk (by clear  hQ hX hX0  hl hD hnl; first | (simp [doI]; done) | (simp [doI]; grind)))
  · skip
    show At X L σ 0 0 [(0, .int (nI 61)), (1, .int a), (2, .int b)] 0 []
    refine r_iload_n hX dX7_worked_0 rfl ?_
    refine r_lookN (v := 61) hX 115 dX7_worked_1 (by decide) (by decide) 114 rfl (by decide) ?_
    refine r_iload_n hX dX7_worked_115 rfl ?_
    refine r_iload_n hX dX7_worked_116 rfl ?_
    refine r_icmp_ne hX dX7_worked_117 (fun c6 => ?_) (fun c6 => ?_)
    · skip
      refine r_iconst hX (nI 0) dX7_worked_124 rfl ?_
      exact r_ireturn hX hQ dX7_worked_125 ⟨Nat.le_of_ble_eq_true rfl, Nat.le_of_ble_eq_true rfl⟩ (PF.mk (by clear  hQ hX hX0  hl hD hnl; first | (simp [doI]; done) | (simp [doI]; grind)))
    · skip
      refine r_iconst hX (nI 1) dX7_worked_120 rfl ?_
      refine r_goto hX dX7_worked_121 ?_
      exact r_ireturn hX hQ dX7_worked_125 ⟨Nat.le_of_ble_eq_true rfl, Nat.le_of_ble_eq_true rfl⟩ (PF.mk (by clear  hQ hX hX0  hl hD hnl; first | (simp [doI]; done) | (simp [doI]; grind)))
  · skip
    show At X L σ 0 0 [(0, .int (nI 62)), (1, .int a), (2, .int b)] 0 []
    refine r_iload_n hX dX7_worked_0 rfl ?_
    refine r_lookN (v := 62) hX 126 dX7_worked_1 (by decide) (by decide) 125 rfl (by decide) ?_
    refine r_iload_n hX dX7_worked_126 rfl ?_
    refine r_iload_n hX dX7_worked_127 rfl ?_
    refine r_icmp_le hX dX7_worked_128 (fun c7 => ?_) (fun c7 => ?_)
    · skip
      refine r_iconst hX (nI 0) dX7_worked_135 rfl ?_
      exact r_ireturn hX hQ dX7_worked_136 ⟨Nat.le_of_ble_eq_true rfl, Nat.le_of_ble_eq_true rfl⟩ (PF.mk (by clear  hQ hX hX0  hl hD hnl; first | (simp [doI]; done) | (simp [doI]; grind)))
    · skip
      refine r_iconst hX (nI 1) dX7_worked_131 rfl ?_
      refine r_goto hX dX7_worked_132 ?_
      exact r_ireturn hX hQ dX7_worked_136 ⟨Nat.le_of_ble_eq_true rfl, Nat.le_of_ble_eq_true rfl⟩ (PF.mk (by clear  hQ hX hX0  hl hD hnl; first | (simp [doI]; done) | (simp [doI]; grind)))
  · skip
    show At X L σ 0 0 [(0, .int (nI 43)), (1, .int a), (2, .int b)] 0 []
    refine r_iload_n hX dX7_worked_0 rfl ?_
    refine r_lookN (v := 43) hX 137 dX7_worked_1 (by decide) (by decide) 136 rfl (by decide) ?_
    refine r_iload_n hX dX7_worked_137 rfl ?_
    refine r_iload_n hX dX7_worked_138 rfl ?_
    refine r_iadd hX dX7_worked_139 ?_
    exact r_ireturn hX hQ dX7_worked_140 ⟨Nat.le_of_ble_eq_true rfl, Nat.le_of_ble_eq_true rfl⟩ (PF.mk (by clear  hQ hX hX0  hl hD hnl; first | (simp [doI]; done) | (simp [doI]; grind)))
  · skip
    show At X L σ 0 0 [(0, .int (nI 45)), (1, .int a), (2, .int b)] 0 []
    refine r_iload_n hX dX7_worked_0 rfl ?_
    refine r_lookN (v := 45) hX 141 dX7_worked_1 (by decide) (by decide) 140 rfl (by decide) ?_
    refine r_iload_n hX dX7_worked_141 rfl ?_
    refine r_iload_n hX dX7_worked_142 rfl ?_
    refine r_isub hX dX7_worked_143 ?_
    exact r_ireturn hX hQ dX7_worked_144 ⟨Nat.le_of_ble_eq_true rfl, Nat.le_of_ble_eq_true rfl⟩ (PF.mk (by clear  hQ hX hX0  hl hD hnl; first | (simp [doI]; done) | (simp [doI]; grind)))
  · skip
    show At X L σ 0 0 [(0, .int (nI 42)), (1, .int a), (2, .int b)] 0 []
    refine r_iload_n hX dX7_worked_0 rfl ?_
    refine r_lookN (v := 42) hX 145 dX7_worked_1 (by decide) (by decide) 144 rfl (by decide) ?_
    refine r_iload_n hX dX7_worked_145 rfl ?_
    refine r_iload_n hX dX7_worked_146 rfl ?_
    refine r_imul hX dX7_worked_147 ?_
    exact r_ireturn hX hQ dX7_worked_148 ⟨Nat.le_of_ble_eq_true rfl, Nat.le_of_ble_eq_true rfl⟩ (PF.mk (by clear  hQ hX hX0  hl hD hnl; first | (simp [doI]; done) | (simp [doI]; grind)))
  · skip
    show At X L σ 0 0 [(0, .int (nI 47)), (1, .int a), (2, .int b)] 0 []
    refine r_iload_n hX dX7_worked_0 rfl ?_
    refine r_lookN (v := 47) hX 149 dX7_worked_1 (by decide) (by decide) 148 rfl (by decide) ?_
    refine r_iload_n hX dX7_worked_149 rfl ?_
    refine r_if_ne hX dX7_worked_150 (fun c8 => ?_) (fun c8 => ?_)
    · skip
      refine r_iload_n hX dX7_worked_157 rfl ?_
      refine r_iload_n hX dX7_worked_158 rfl ?_
      refine r_idiv hX dX7_worked_159 (by assumption) ?_
      exact r_ireturn hX hQ dX7_worked_160 ⟨Nat.le_of_ble_eq_true rfl, Nat.le_of_ble_eq_true rfl⟩ (PF.mk (by clear  hQ hX hX0  hl hD hnl; first | (simp [doI]; done) | (simp [doI]; grind)))
    · skip
      refine r_iconst hX (nI 0) dX7_worked_153 rfl ?_
      refine r_goto hX dX7_worked_154 ?_
      exact r_ireturn hX hQ dX7_worked_160 ⟨Nat.le_of_ble_eq_true rfl, Nat.le_of_ble_eq_true rfl⟩ (PF.mk (by clear  hQ hX hX0  hl hD hnl; first | (simp [doI]; done) | (simp [doI]; grind)))

set_option maxHeartbeats 4000000 in
set_option maxRecDepth 100000 in
theorem c_X7_gives {l : Launch} {D : Ds} {L : La}  (o : Nat) (t : Tx) (hx : TA L o t) (hok : okT t) (σ : Me) (hT : TC σ o t) (a b c d : Int32) : Ct l yX7_gives cX7_gives 9 (some .int) { frames := 1, cells := 0, slots := 0, locals := 22 } D L σ [.ref (L.1 o), .int a, .int b, .int c, .int d] (PI L (fun r σ2 => r = evV (fun i => f4 a b c d (plc t.1 i)) t.2.2 ∧ Of (o + 2) σ σ2)) := by
  refine Ct.of (by decide) (Nat.le_of_ble_eq_true rfl) ?_
  intro X hl hD hnl hX0 hQ
  have hX : Ok X cX7_gives RX7 "gives" { frames := 1, cells := 0, slots := 0, locals := 22 } (some .int) := hX0
  have hN5 : 5 < xn X := by rw [hnl]; decide
  have hN6 : 6 < xn X := by rw [hnl]; decide
  have hN7 : 7 < xn X := by rw [hnl]; decide
  have hN8 : 8 < xn X := by rw [hnl]; decide
  have hle := hok.2.1
  have hlv : t.2.1 ≤ 92 := by have h1 := hok.2.2.2.1; have h2 : lvs t.2.2 ≤ t.2.2.length := (by unfold lvs; exact List.length_filter_le _ _); omega
  show At X L σ 0 0 [(0, .ref (L.1 o)), (1, .int a), (2, .int b), (3, .int c), (4, .int d)] 0 []
  refine r_iconst hX (nI 0) dX7_gives_0 rfl ?_
  refine r_istore hX [(0, .ref (L.1 o)), (1, .int a), (2, .int b), (3, .int c), (4, .int d), (5, .int (nI 0))] dX7_gives_1 hN5 rfl ?_
  refine r_iconst hX (nI 0) dX7_gives_3 rfl ?_
  refine r_istore hX [(0, .ref (L.1 o)), (1, .int a), (2, .int b), (3, .int c), (4, .int d), (5, .int (nI 0)), (6, .int (nI 0))] dX7_gives_4 hN6 rfl ?_
  have P1 : ∀ k, k ≤ t.2.2.length → ∀ (σk : Me) (hO : Of (o + 2) σ σk) (hP : pil (σk (o + 2)) (stk (fun i => f4 a b c d (plc t.1 i)) t.2.2 k)), At X L σk 0 0 [(0, .ref (L.1 o)), (1, .int a), (2, .int b), (3, .int c), (4, .int d), (5, .int (nI ((stk (fun i => f4 a b c d (plc t.1 i)) t.2.2 k).length))), (6, .int (nI k))] 6 [] := by
    refine loopUp t.2.2.length ?_ ?_
    · skip
      intro σk hO hP
      refine r_iload hX dX7_gives_6 rfl ?_
      refine r_aload_n hX dX7_gives_8 rfl ?_
      refine r_getR hX dX7_gives_9 fl_X7_18 hx.1 rfl hx.2.2.2.1 ?_
      refine r_alen hX dX7_gives_12 hx.2.1 (by decide) (by decide) ?_
      refine r_icmpN_ge hX dX7_gives_13 (by omega) (by omega) (fun c2 => ?_) (fun c2 => absurd c2 (by omega))
      refine r_aload_n hX dX7_gives_205 rfl ?_
      refine r_getR hX dX7_gives_206 fl_X7_28 hx.1 rfl hx.2.2.2.2 ?_
      refine r_iconst hX (nI 0) dX7_gives_209 rfl ?_
      refine r_aldN hX dX7_gives_210 hx.2.2.1 (by omega) (by omega) (evV (fun i => f4 a b c d (plc t.1 i)) t.2.2) (evV_top hok.2.2.1 hP) ?_
      exact r_ireturn hX hQ dX7_gives_211 ⟨Nat.le_of_ble_eq_true rfl, Nat.le_of_ble_eq_true rfl⟩ (PI.mk ⟨rfl, hO⟩)
    · skip
      intro k hk ih3 σk hO hP
      obtain ⟨st, hst⟩ : ∃ st, st = stk (fun i => f4 a b c d (plc t.1 i)) t.2.2 k := ⟨_, rfl⟩
      obtain ⟨cd, hcc⟩ : ∃ c, c = t.2.2.getD k 0 := ⟨_, rfl⟩
      have hs1 : stk (fun i => f4 a b c d (plc t.1 i)) t.2.2 (k + 1) = ev1 (fun i => f4 a b c d (plc t.1 i)) cd st := by rw [stk_s _ hk, hst, hcc]
      obtain ⟨hd, hlk⟩ := stk_dpt (fun i => f4 a b c d (plc t.1 i)) hok.2.2.1 k (by omega)
      have hdd := dpt_drop hk hd
      have hla := lvs_at (fun i => f4 a b c d (plc t.1 i)) hok hk
      rw [← hcc] at hdd hla
      rw [← hst] at hP hd hlk hdd hla ⊢
      refine r_iload hX dX7_gives_6 rfl ?_
      refine r_aload_n hX dX7_gives_8 rfl ?_
      refine r_getR hX dX7_gives_9 fl_X7_18 hx.1 rfl hx.2.2.2.1 ?_
      refine r_alen hX dX7_gives_12 hx.2.1 (by decide) (by decide) ?_
      refine r_icmpN_ge hX dX7_gives_13 (by omega) (by omega) (fun c4 => absurd c4 (by omega)) (fun c4 => ?_)
      refine r_aload_n hX dX7_gives_16 rfl ?_
      refine r_getR hX dX7_gives_17 fl_X7_18 hx.1 rfl hx.2.2.2.1 ?_
      refine r_iload hX dX7_gives_20 rfl ?_
      refine r_aldN hX dX7_gives_22 hx.2.1 (by omega) (by omega) (nI (tcd t.1 cd)) ((hO (o + 1) _ (by omega)).trans ((hT.2.2 k hk).trans (by rw [hcc]))) ?_
      rcases code_3 hok hk with hcs | ⟨hcs, hcs2⟩ | hcs | ⟨hcs, hcs2⟩ <;> rw [← hcc] at hcs
      · skip
        rw [tcd_num hcs]
        refine r_istore hX [(0, .ref (L.1 o)), (1, .int a), (2, .int b), (3, .int c), (4, .int d), (5, .int (nI st.length)), (6, .int (nI k)), (7, .int (nI cd))] dX7_gives_23 hN7 rfl ?_
        refine r_iload hX dX7_gives_25 rfl ?_
        refine r_sipush hX (nI 20000) dX7_gives_27 rfl ?_
        refine r_icmpN_ge hX dX7_gives_30 (by omega) (by decide) (fun c5 => absurd c5 (by omega)) (fun c5 => ?_)
        refine r_iload hX dX7_gives_33 rfl ?_
        refine r_aload_n hX dX7_gives_35 rfl ?_
        refine r_getR hX dX7_gives_36 fl_X7_28 hx.1 rfl hx.2.2.2.2 ?_
        refine r_alen hX dX7_gives_39 hx.2.2.1 (by decide) (by decide) ?_
        refine r_icmpN_ge hX dX7_gives_40 (by omega) (by omega) (fun c6 => absurd c6 (by omega)) (fun c6 => ?_)
        refine r_iload hX dX7_gives_43 rfl ?_
        refine r_sipush hX (nI 10000) dX7_gives_45 rfl ?_
        refine r_isub hX dX7_gives_48 ?_
        refine r_istore hX [(0, .ref (L.1 o)), (1, .int a), (2, .int b), (3, .int c), (4, .int d), (5, .int (nI st.length)), (6, .int (nI k)), (7, .int (nI cd)), (8, .int ((nI cd) - (nI 10000)))] dX7_gives_49 hN8 rfl ?_
        refine r_aload_n hX dX7_gives_51 rfl ?_
        refine r_getR hX dX7_gives_52 fl_X7_28 hx.1 rfl hx.2.2.2.2 ?_
        refine r_iload hX dX7_gives_55 rfl ?_
        refine r_iload hX dX7_gives_57 rfl ?_
        refine r_if_ge hX dX7_gives_59 (fun c7 => absurd c7 (neg_num hcs)) (fun c7 => ?_)
        refine r_iload hX dX7_gives_62 rfl ?_
        refine r_goto hX dX7_gives_64 ?_
        refine r_astN hX dX7_gives_98 hx.2.2.1 (by omega) (by omega) ?_
        refine r_iincN (n := 1) hX [(0, .ref (L.1 o)), (1, .int a), (2, .int b), (3, .int c), (4, .int d), (5, .int (nI (st.length + 1))), (6, .int (nI k)), (7, .int (nI cd)), (8, .int ((nI cd) - (nI 10000)))] dX7_gives_99 rfl hN5 rfl ?_
        refine r_goto hX dX7_gives_102 ?_
        refine r_iincN (n := 1) hX [(0, .ref (L.1 o)), (1, .int a), (2, .int b), (3, .int c), (4, .int d), (5, .int (nI (st.length + 1))), (6, .int (nI (k + 1))), (7, .int (nI cd)), (8, .int ((nI cd) - (nI 10000)))] dX7_gives_199 rfl hN6 rfl ?_
        refine r_goto hX dX7_gives_202 ?_
        have hs2 : ev1 (fun i => f4 a b c d (plc t.1 i)) cd st = nI cd :: st := ev1_num hcs
        have q8 : (stk (fun i => f4 a b c d (plc t.1 i)) t.2.2 (k + 1)).length = st.length + 1 := (by rw [hs1, hs2]; simp; try omega)
        exact At.less (At.to (ls := [(0, .ref (L.1 o)), (1, .int a), (2, .int b), (3, .int c), (4, .int d), (5, .int (nI (st.length + 1))), (6, .int (nI (k + 1)))]) (ih3 _ hO.up (by rw [hs1, hs2]; exact pil_push hP)) (by rw [q8]) rfl rfl) (by simp)
      · skip
        rw [← hcc] at hcs2
        rw [tcd_let hcs hcs2]
        have hpl := plc_le t.1 (cd - 10000)
        rcases (show plc t.1 (cd - 10000) = 0 ∨ plc t.1 (cd - 10000) = 1 ∨ plc t.1 (cd - 10000) = 2 ∨ plc t.1 (cd - 10000) = 3 by omega) with hp | hp | hp | hp <;> rw [hp]
        · skip
          show At X L σk 0 0 [(0, .ref (L.1 o)), (1, .int a), (2, .int b), (3, .int c), (4, .int d), (5, .int (nI st.length)), (6, .int (nI k))] 23 [.int (nI 10000)]
          refine r_istore hX [(0, .ref (L.1 o)), (1, .int a), (2, .int b), (3, .int c), (4, .int d), (5, .int (nI st.length)), (6, .int (nI k)), (7, .int (nI 10000))] dX7_gives_23 hN7 rfl ?_
          refine r_iload hX dX7_gives_25 rfl ?_
          refine r_sipush hX (nI 20000) dX7_gives_27 rfl ?_
          refine r_icmpN_ge hX dX7_gives_30 (by decide) (by decide) (fun c9 => absurd c9 (by omega)) (fun c9 => ?_)
          refine r_iload hX dX7_gives_33 rfl ?_
          refine r_aload_n hX dX7_gives_35 rfl ?_
          refine r_getR hX dX7_gives_36 fl_X7_28 hx.1 rfl hx.2.2.2.2 ?_
          refine r_alen hX dX7_gives_39 hx.2.2.1 (by decide) (by decide) ?_
          refine r_icmpN_ge hX dX7_gives_40 (by omega) (by omega) (fun c10 => absurd c10 (by omega)) (fun c10 => ?_)
          refine r_iload hX dX7_gives_43 rfl ?_
          refine r_sipush hX (nI 10000) dX7_gives_45 rfl ?_
          refine r_isubN hX dX7_gives_48 (by decide) ?_
          refine r_istore hX [(0, .ref (L.1 o)), (1, .int a), (2, .int b), (3, .int c), (4, .int d), (5, .int (nI st.length)), (6, .int (nI k)), (7, .int (nI 10000)), (8, .int (nI 0))] dX7_gives_49 hN8 rfl ?_
          refine r_aload_n hX dX7_gives_51 rfl ?_
          refine r_getR hX dX7_gives_52 fl_X7_28 hx.1 rfl hx.2.2.2.2 ?_
          refine r_iload hX dX7_gives_55 rfl ?_
          refine r_iload hX dX7_gives_57 rfl ?_
          refine r_ifN_ge hX dX7_gives_59 (by decide) ?_
          refine r_iload hX dX7_gives_67 rfl ?_
          refine r_ifN_ne hX dX7_gives_69 (by decide) (fun c11 => absurd c11 (by decide)) (fun c11 => ?_)
          refine r_iload_n hX dX7_gives_72 rfl ?_
          refine r_goto hX dX7_gives_73 ?_
          refine r_astN hX dX7_gives_98 hx.2.2.1 (by omega) (by omega) ?_
          refine r_iincN (n := 1) hX [(0, .ref (L.1 o)), (1, .int a), (2, .int b), (3, .int c), (4, .int d), (5, .int (nI (st.length + 1))), (6, .int (nI k)), (7, .int (nI 10000)), (8, .int (nI 0))] dX7_gives_99 rfl hN5 rfl ?_
          refine r_goto hX dX7_gives_102 ?_
          refine r_iincN (n := 1) hX [(0, .ref (L.1 o)), (1, .int a), (2, .int b), (3, .int c), (4, .int d), (5, .int (nI (st.length + 1))), (6, .int (nI (k + 1))), (7, .int (nI 10000)), (8, .int (nI 0))] dX7_gives_199 rfl hN6 rfl ?_
          refine r_goto hX dX7_gives_202 ?_
          have hs2 : ev1 (fun i => f4 a b c d (plc t.1 i)) cd st = a :: st := (ev1_let hcs hcs2).trans (by show f4 a b c d (plc t.1 (cd - 10000)) :: st = _; rw [hp]; rfl)
          have q12 : (stk (fun i => f4 a b c d (plc t.1 i)) t.2.2 (k + 1)).length = st.length + 1 := (by rw [hs1, hs2]; simp; try omega)
          exact At.less (At.to (ls := [(0, .ref (L.1 o)), (1, .int a), (2, .int b), (3, .int c), (4, .int d), (5, .int (nI (st.length + 1))), (6, .int (nI (k + 1)))]) (ih3 _ hO.up (by rw [hs1, hs2]; exact pil_push hP)) (by rw [q12]) rfl rfl) (by simp)
        · skip
          show At X L σk 0 0 [(0, .ref (L.1 o)), (1, .int a), (2, .int b), (3, .int c), (4, .int d), (5, .int (nI st.length)), (6, .int (nI k))] 23 [.int (nI 10001)]
          refine r_istore hX [(0, .ref (L.1 o)), (1, .int a), (2, .int b), (3, .int c), (4, .int d), (5, .int (nI st.length)), (6, .int (nI k)), (7, .int (nI 10001))] dX7_gives_23 hN7 rfl ?_
          refine r_iload hX dX7_gives_25 rfl ?_
          refine r_sipush hX (nI 20000) dX7_gives_27 rfl ?_
          refine r_icmpN_ge hX dX7_gives_30 (by decide) (by decide) (fun c13 => absurd c13 (by omega)) (fun c13 => ?_)
          refine r_iload hX dX7_gives_33 rfl ?_
          refine r_aload_n hX dX7_gives_35 rfl ?_
          refine r_getR hX dX7_gives_36 fl_X7_28 hx.1 rfl hx.2.2.2.2 ?_
          refine r_alen hX dX7_gives_39 hx.2.2.1 (by decide) (by decide) ?_
          refine r_icmpN_ge hX dX7_gives_40 (by omega) (by omega) (fun c14 => absurd c14 (by omega)) (fun c14 => ?_)
          refine r_iload hX dX7_gives_43 rfl ?_
          refine r_sipush hX (nI 10000) dX7_gives_45 rfl ?_
          refine r_isubN hX dX7_gives_48 (by decide) ?_
          refine r_istore hX [(0, .ref (L.1 o)), (1, .int a), (2, .int b), (3, .int c), (4, .int d), (5, .int (nI st.length)), (6, .int (nI k)), (7, .int (nI 10001)), (8, .int (nI 1))] dX7_gives_49 hN8 rfl ?_
          refine r_aload_n hX dX7_gives_51 rfl ?_
          refine r_getR hX dX7_gives_52 fl_X7_28 hx.1 rfl hx.2.2.2.2 ?_
          refine r_iload hX dX7_gives_55 rfl ?_
          refine r_iload hX dX7_gives_57 rfl ?_
          refine r_ifN_ge hX dX7_gives_59 (by decide) ?_
          refine r_iload hX dX7_gives_67 rfl ?_
          refine r_ifN_ne hX dX7_gives_69 (by decide) (fun c15 => ?_) (fun c15 => absurd c15 (by decide))
          refine r_iload hX dX7_gives_76 rfl ?_
          refine r_iconst hX (nI 1) dX7_gives_78 rfl ?_
          refine r_icmpN_ne hX dX7_gives_79 (by decide) (by decide) (fun c16 => absurd c16 (by decide)) (fun c16 => ?_)
          refine r_iload_n hX dX7_gives_82 rfl ?_
          refine r_goto hX dX7_gives_83 ?_
          refine r_astN hX dX7_gives_98 hx.2.2.1 (by omega) (by omega) ?_
          refine r_iincN (n := 1) hX [(0, .ref (L.1 o)), (1, .int a), (2, .int b), (3, .int c), (4, .int d), (5, .int (nI (st.length + 1))), (6, .int (nI k)), (7, .int (nI 10001)), (8, .int (nI 1))] dX7_gives_99 rfl hN5 rfl ?_
          refine r_goto hX dX7_gives_102 ?_
          refine r_iincN (n := 1) hX [(0, .ref (L.1 o)), (1, .int a), (2, .int b), (3, .int c), (4, .int d), (5, .int (nI (st.length + 1))), (6, .int (nI (k + 1))), (7, .int (nI 10001)), (8, .int (nI 1))] dX7_gives_199 rfl hN6 rfl ?_
          refine r_goto hX dX7_gives_202 ?_
          have hs2 : ev1 (fun i => f4 a b c d (plc t.1 i)) cd st = b :: st := (ev1_let hcs hcs2).trans (by show f4 a b c d (plc t.1 (cd - 10000)) :: st = _; rw [hp]; rfl)
          have q17 : (stk (fun i => f4 a b c d (plc t.1 i)) t.2.2 (k + 1)).length = st.length + 1 := (by rw [hs1, hs2]; simp; try omega)
          exact At.less (At.to (ls := [(0, .ref (L.1 o)), (1, .int a), (2, .int b), (3, .int c), (4, .int d), (5, .int (nI (st.length + 1))), (6, .int (nI (k + 1)))]) (ih3 _ hO.up (by rw [hs1, hs2]; exact pil_push hP)) (by rw [q17]) rfl rfl) (by simp)
        · skip
          show At X L σk 0 0 [(0, .ref (L.1 o)), (1, .int a), (2, .int b), (3, .int c), (4, .int d), (5, .int (nI st.length)), (6, .int (nI k))] 23 [.int (nI 10002)]
          refine r_istore hX [(0, .ref (L.1 o)), (1, .int a), (2, .int b), (3, .int c), (4, .int d), (5, .int (nI st.length)), (6, .int (nI k)), (7, .int (nI 10002))] dX7_gives_23 hN7 rfl ?_
          refine r_iload hX dX7_gives_25 rfl ?_
          refine r_sipush hX (nI 20000) dX7_gives_27 rfl ?_
          refine r_icmpN_ge hX dX7_gives_30 (by decide) (by decide) (fun c18 => absurd c18 (by omega)) (fun c18 => ?_)
          refine r_iload hX dX7_gives_33 rfl ?_
          refine r_aload_n hX dX7_gives_35 rfl ?_
          refine r_getR hX dX7_gives_36 fl_X7_28 hx.1 rfl hx.2.2.2.2 ?_
          refine r_alen hX dX7_gives_39 hx.2.2.1 (by decide) (by decide) ?_
          refine r_icmpN_ge hX dX7_gives_40 (by omega) (by omega) (fun c19 => absurd c19 (by omega)) (fun c19 => ?_)
          refine r_iload hX dX7_gives_43 rfl ?_
          refine r_sipush hX (nI 10000) dX7_gives_45 rfl ?_
          refine r_isubN hX dX7_gives_48 (by decide) ?_
          refine r_istore hX [(0, .ref (L.1 o)), (1, .int a), (2, .int b), (3, .int c), (4, .int d), (5, .int (nI st.length)), (6, .int (nI k)), (7, .int (nI 10002)), (8, .int (nI 2))] dX7_gives_49 hN8 rfl ?_
          refine r_aload_n hX dX7_gives_51 rfl ?_
          refine r_getR hX dX7_gives_52 fl_X7_28 hx.1 rfl hx.2.2.2.2 ?_
          refine r_iload hX dX7_gives_55 rfl ?_
          refine r_iload hX dX7_gives_57 rfl ?_
          refine r_ifN_ge hX dX7_gives_59 (by decide) ?_
          refine r_iload hX dX7_gives_67 rfl ?_
          refine r_ifN_ne hX dX7_gives_69 (by decide) (fun c20 => ?_) (fun c20 => absurd c20 (by decide))
          refine r_iload hX dX7_gives_76 rfl ?_
          refine r_iconst hX (nI 1) dX7_gives_78 rfl ?_
          refine r_icmpN_ne hX dX7_gives_79 (by decide) (by decide) (fun c21 => ?_) (fun c21 => absurd c21 (by decide))
          refine r_iload hX dX7_gives_86 rfl ?_
          refine r_iconst hX (nI 2) dX7_gives_88 rfl ?_
          refine r_icmpN_ne hX dX7_gives_89 (by decide) (by decide) (fun c22 => absurd c22 (by decide)) (fun c22 => ?_)
          refine r_iload_n hX dX7_gives_92 rfl ?_
          refine r_goto hX dX7_gives_93 ?_
          refine r_astN hX dX7_gives_98 hx.2.2.1 (by omega) (by omega) ?_
          refine r_iincN (n := 1) hX [(0, .ref (L.1 o)), (1, .int a), (2, .int b), (3, .int c), (4, .int d), (5, .int (nI (st.length + 1))), (6, .int (nI k)), (7, .int (nI 10002)), (8, .int (nI 2))] dX7_gives_99 rfl hN5 rfl ?_
          refine r_goto hX dX7_gives_102 ?_
          refine r_iincN (n := 1) hX [(0, .ref (L.1 o)), (1, .int a), (2, .int b), (3, .int c), (4, .int d), (5, .int (nI (st.length + 1))), (6, .int (nI (k + 1))), (7, .int (nI 10002)), (8, .int (nI 2))] dX7_gives_199 rfl hN6 rfl ?_
          refine r_goto hX dX7_gives_202 ?_
          have hs2 : ev1 (fun i => f4 a b c d (plc t.1 i)) cd st = c :: st := (ev1_let hcs hcs2).trans (by show f4 a b c d (plc t.1 (cd - 10000)) :: st = _; rw [hp]; rfl)
          have q23 : (stk (fun i => f4 a b c d (plc t.1 i)) t.2.2 (k + 1)).length = st.length + 1 := (by rw [hs1, hs2]; simp; try omega)
          exact At.less (At.to (ls := [(0, .ref (L.1 o)), (1, .int a), (2, .int b), (3, .int c), (4, .int d), (5, .int (nI (st.length + 1))), (6, .int (nI (k + 1)))]) (ih3 _ hO.up (by rw [hs1, hs2]; exact pil_push hP)) (by rw [q23]) rfl rfl) (by simp)
        · skip
          show At X L σk 0 0 [(0, .ref (L.1 o)), (1, .int a), (2, .int b), (3, .int c), (4, .int d), (5, .int (nI st.length)), (6, .int (nI k))] 23 [.int (nI 10003)]
          refine r_istore hX [(0, .ref (L.1 o)), (1, .int a), (2, .int b), (3, .int c), (4, .int d), (5, .int (nI st.length)), (6, .int (nI k)), (7, .int (nI 10003))] dX7_gives_23 hN7 rfl ?_
          refine r_iload hX dX7_gives_25 rfl ?_
          refine r_sipush hX (nI 20000) dX7_gives_27 rfl ?_
          refine r_icmpN_ge hX dX7_gives_30 (by decide) (by decide) (fun c24 => absurd c24 (by omega)) (fun c24 => ?_)
          refine r_iload hX dX7_gives_33 rfl ?_
          refine r_aload_n hX dX7_gives_35 rfl ?_
          refine r_getR hX dX7_gives_36 fl_X7_28 hx.1 rfl hx.2.2.2.2 ?_
          refine r_alen hX dX7_gives_39 hx.2.2.1 (by decide) (by decide) ?_
          refine r_icmpN_ge hX dX7_gives_40 (by omega) (by omega) (fun c25 => absurd c25 (by omega)) (fun c25 => ?_)
          refine r_iload hX dX7_gives_43 rfl ?_
          refine r_sipush hX (nI 10000) dX7_gives_45 rfl ?_
          refine r_isubN hX dX7_gives_48 (by decide) ?_
          refine r_istore hX [(0, .ref (L.1 o)), (1, .int a), (2, .int b), (3, .int c), (4, .int d), (5, .int (nI st.length)), (6, .int (nI k)), (7, .int (nI 10003)), (8, .int (nI 3))] dX7_gives_49 hN8 rfl ?_
          refine r_aload_n hX dX7_gives_51 rfl ?_
          refine r_getR hX dX7_gives_52 fl_X7_28 hx.1 rfl hx.2.2.2.2 ?_
          refine r_iload hX dX7_gives_55 rfl ?_
          refine r_iload hX dX7_gives_57 rfl ?_
          refine r_ifN_ge hX dX7_gives_59 (by decide) ?_
          refine r_iload hX dX7_gives_67 rfl ?_
          refine r_ifN_ne hX dX7_gives_69 (by decide) (fun c26 => ?_) (fun c26 => absurd c26 (by decide))
          refine r_iload hX dX7_gives_76 rfl ?_
          refine r_iconst hX (nI 1) dX7_gives_78 rfl ?_
          refine r_icmpN_ne hX dX7_gives_79 (by decide) (by decide) (fun c27 => ?_) (fun c27 => absurd c27 (by decide))
          refine r_iload hX dX7_gives_86 rfl ?_
          refine r_iconst hX (nI 2) dX7_gives_88 rfl ?_
          refine r_icmpN_ne hX dX7_gives_89 (by decide) (by decide) (fun c28 => ?_) (fun c28 => absurd c28 (by decide))
          refine r_iload hX dX7_gives_96 rfl ?_
          refine r_astN hX dX7_gives_98 hx.2.2.1 (by omega) (by omega) ?_
          refine r_iincN (n := 1) hX [(0, .ref (L.1 o)), (1, .int a), (2, .int b), (3, .int c), (4, .int d), (5, .int (nI (st.length + 1))), (6, .int (nI k)), (7, .int (nI 10003)), (8, .int (nI 3))] dX7_gives_99 rfl hN5 rfl ?_
          refine r_goto hX dX7_gives_102 ?_
          refine r_iincN (n := 1) hX [(0, .ref (L.1 o)), (1, .int a), (2, .int b), (3, .int c), (4, .int d), (5, .int (nI (st.length + 1))), (6, .int (nI (k + 1))), (7, .int (nI 10003)), (8, .int (nI 3))] dX7_gives_199 rfl hN6 rfl ?_
          refine r_goto hX dX7_gives_202 ?_
          have hs2 : ev1 (fun i => f4 a b c d (plc t.1 i)) cd st = d :: st := (ev1_let hcs hcs2).trans (by show f4 a b c d (plc t.1 (cd - 10000)) :: st = _; rw [hp]; rfl)
          have q29 : (stk (fun i => f4 a b c d (plc t.1 i)) t.2.2 (k + 1)).length = st.length + 1 := (by rw [hs1, hs2]; simp; try omega)
          exact At.less (At.to (ls := [(0, .ref (L.1 o)), (1, .int a), (2, .int b), (3, .int c), (4, .int d), (5, .int (nI (st.length + 1))), (6, .int (nI (k + 1)))]) (ih3 _ hO.up (by rw [hs1, hs2]; exact pil_push hP)) (by rw [q29]) rfl rfl) (by simp)
      · skip
        rw [tcd_sgn (by omega), show sgc cd = 20033 by rw [hcs]; rfl]
        have hl1 : 1 ≤ st.length := by omega
        refine r_istore hX [(0, .ref (L.1 o)), (1, .int a), (2, .int b), (3, .int c), (4, .int d), (5, .int (nI st.length)), (6, .int (nI k)), (7, .int (nI 20033))] dX7_gives_23 hN7 rfl ?_
        refine r_iload hX dX7_gives_25 rfl ?_
        refine r_sipush hX (nI 20000) dX7_gives_27 rfl ?_
        refine r_icmpN_ge hX dX7_gives_30 (by decide) (by decide) (fun c30 => ?_) (fun c30 => absurd c30 (by omega))
        refine r_iload hX dX7_gives_105 rfl ?_
        refine r_sipush hX (nI 20033) dX7_gives_107 rfl ?_
        refine r_icmpN_ne hX dX7_gives_110 (by decide) (by decide) (fun c31 => absurd c31 (by decide)) (fun c31 => ?_)
        refine r_iload hX dX7_gives_113 rfl ?_
        refine r_iconst hX (nI 1) dX7_gives_115 rfl ?_
        refine r_icmpN_lt hX dX7_gives_116 (by omega) (by decide) (fun c32 => absurd c32 (by omega)) (fun c32 => ?_)
        refine r_aload_n hX dX7_gives_119 rfl ?_
        refine r_getR hX dX7_gives_120 fl_X7_28 hx.1 rfl hx.2.2.2.2 ?_
        refine r_iload hX dX7_gives_123 rfl ?_
        refine r_iconst hX (nI 1) dX7_gives_125 rfl ?_
        refine r_isubN hX dX7_gives_126 (by omega) ?_
        refine r_aload_n hX dX7_gives_127 rfl ?_
        refine r_getR hX dX7_gives_128 fl_X7_28 hx.1 rfl hx.2.2.2.2 ?_
        refine r_iload hX dX7_gives_131 rfl ?_
        refine r_iconst hX (nI 1) dX7_gives_133 rfl ?_
        refine r_isubN hX dX7_gives_134 (by omega) ?_
        refine r_aldN hX dX7_gives_135 hx.2.2.1 (by omega) (by omega) (st.getD 0 0) (pil_top1 hP hl1) ?_
        refine r_if_ne hX dX7_gives_136 (fun c33 => ?_) (fun c33 => ?_)
        · skip
          refine r_iconst hX (nI 0) dX7_gives_143 rfl ?_
          refine r_astN hX dX7_gives_144 hx.2.2.1 (by omega) (by omega) ?_
          refine r_goto hX dX7_gives_145 ?_
          refine r_iincN (n := 1) hX [(0, .ref (L.1 o)), (1, .int a), (2, .int b), (3, .int c), (4, .int d), (5, .int (nI st.length)), (6, .int (nI (k + 1))), (7, .int (nI 20033))] dX7_gives_199 rfl hN6 rfl ?_
          refine r_goto hX dX7_gives_202 ?_
          have hs2 := ev1_not (f := (fun i => f4 a b c d (plc t.1 i))) hcs hl1
          rw [if_neg c33] at hs2
          have q34 : (stk (fun i => f4 a b c d (plc t.1 i)) t.2.2 (k + 1)).length = st.length := (by rw [hs1, hs2]; simp; try omega)
          exact At.less (At.to (ls := [(0, .ref (L.1 o)), (1, .int a), (2, .int b), (3, .int c), (4, .int d), (5, .int (nI st.length)), (6, .int (nI (k + 1)))]) (ih3 _ hO.up (by rw [hs1, hs2]; exact pil_set1 hP hl1)) (by rw [q34]) rfl rfl) (by simp)
        · skip
          refine r_iconst hX (nI 1) dX7_gives_139 rfl ?_
          refine r_goto hX dX7_gives_140 ?_
          refine r_astN hX dX7_gives_144 hx.2.2.1 (by omega) (by omega) ?_
          refine r_goto hX dX7_gives_145 ?_
          refine r_iincN (n := 1) hX [(0, .ref (L.1 o)), (1, .int a), (2, .int b), (3, .int c), (4, .int d), (5, .int (nI st.length)), (6, .int (nI (k + 1))), (7, .int (nI 20033))] dX7_gives_199 rfl hN6 rfl ?_
          refine r_goto hX dX7_gives_202 ?_
          have hs2 := ev1_not (f := (fun i => f4 a b c d (plc t.1 i))) hcs hl1
          rw [if_pos c33] at hs2
          have q35 : (stk (fun i => f4 a b c d (plc t.1 i)) t.2.2 (k + 1)).length = st.length := (by rw [hs1, hs2]; simp; try omega)
          exact At.less (At.to (ls := [(0, .ref (L.1 o)), (1, .int a), (2, .int b), (3, .int c), (4, .int d), (5, .int (nI st.length)), (6, .int (nI (k + 1)))]) (ih3 _ hO.up (by rw [hs1, hs2]; exact pil_set1 hP hl1)) (by rw [q35]) rfl rfl) (by simp)
      · skip
        rw [← hcc] at hcs2
        have hsi := sgc_in hcs hcs2
        rw [tcd_sgn (by omega)]
        have hl2 : 2 ≤ st.length := by omega
        refine r_istore hX [(0, .ref (L.1 o)), (1, .int a), (2, .int b), (3, .int c), (4, .int d), (5, .int (nI st.length)), (6, .int (nI k)), (7, .int (nI (sgc cd)))] dX7_gives_23 hN7 rfl ?_
        refine r_iload hX dX7_gives_25 rfl ?_
        refine r_sipush hX (nI 20000) dX7_gives_27 rfl ?_
        refine r_icmpN_ge hX dX7_gives_30 (by omega) (by decide) (fun c36 => ?_) (fun c36 => absurd c36 (by omega))
        refine r_iload hX dX7_gives_105 rfl ?_
        refine r_sipush hX (nI 20033) dX7_gives_107 rfl ?_
        refine r_icmpN_ne hX dX7_gives_110 (by omega) (by decide) (fun c37 => ?_) (fun c37 => absurd c37 (by omega))
        refine r_iload hX dX7_gives_148 rfl ?_
        refine r_sipush hX (nI 20000) dX7_gives_150 rfl ?_
        refine r_icmpN_le hX dX7_gives_153 (by omega) (by decide) (fun c38 => absurd c38 (by omega)) (fun c38 => ?_)
        refine r_iload hX dX7_gives_156 rfl ?_
        refine r_iconst hX (nI 2) dX7_gives_158 rfl ?_
        refine r_icmpN_lt hX dX7_gives_159 (by omega) (by decide) (fun c39 => absurd c39 (by omega)) (fun c39 => ?_)
        refine r_iinc hX (nI (st.length - 1)) [(0, .ref (L.1 o)), (1, .int a), (2, .int b), (3, .int c), (4, .int d), (5, .int (nI (st.length - 1))), (6, .int (nI k)), (7, .int (nI (sgc cd)))] dX7_gives_162 rfl (sb_m1 (by omega)) hN5 rfl ?_
        refine r_aload_n hX dX7_gives_165 rfl ?_
        refine r_getR hX dX7_gives_166 fl_X7_28 hx.1 rfl hx.2.2.2.2 ?_
        refine r_iload hX dX7_gives_169 rfl ?_
        refine r_iconst hX (nI 1) dX7_gives_171 rfl ?_
        refine r_isubN hX dX7_gives_172 (by omega) ?_
        refine r_iload hX dX7_gives_173 rfl ?_
        refine r_sipush hX (nI 20000) dX7_gives_175 rfl ?_
        refine r_isubN hX dX7_gives_178 (by omega) ?_
        refine r_aload_n hX dX7_gives_179 rfl ?_
        refine r_getR hX dX7_gives_180 fl_X7_28 hx.1 rfl hx.2.2.2.2 ?_
        refine r_iload hX dX7_gives_183 rfl ?_
        refine r_iconst hX (nI 1) dX7_gives_185 rfl ?_
        refine r_isubN hX dX7_gives_186 (by omega) ?_
        refine r_aldN hX dX7_gives_187 hx.2.2.1 (by omega) (by omega) (st.getD 1 0) (pil_top2 hP hl2) ?_
        refine r_aload_n hX dX7_gives_188 rfl ?_
        refine r_getR hX dX7_gives_189 fl_X7_28 hx.1 rfl hx.2.2.2.2 ?_
        refine r_iload hX dX7_gives_192 rfl ?_
        refine r_aldN hX dX7_gives_194 hx.2.2.1 (by omega) (by omega) (st.getD 0 0) (pil_top1 hP (by omega)) ?_
        refine r_callSF (As := [.int (nI (sgc cd - 20000)), .int (st.getD 1 0), .int (st.getD 0 0)]) (rest := [.int (nI ((st.length - 1) - 1)), .ref (L.1 (o + 2))]) hX (c_X7_worked σk cd (st.getD 1 0) (st.getD 0 0) (by omega) (by omega)) dX7_gives_195 cb_X7_43 rfl rfl ⟨Nat.le_of_ble_eq_true rfl, Nat.le_of_ble_eq_true rfl⟩ ⟨Nat.le_of_ble_eq_true rfl, Nat.le_of_ble_eq_true rfl⟩ (Nat.le_of_ble_eq_true rfl) ?_
        refine r_astN hX dX7_gives_198 hx.2.2.1 (by omega) (by omega) ?_
        refine r_iincN (n := 1) hX [(0, .ref (L.1 o)), (1, .int a), (2, .int b), (3, .int c), (4, .int d), (5, .int (nI (st.length - 1))), (6, .int (nI (k + 1))), (7, .int (nI (sgc cd)))] dX7_gives_199 rfl hN6 rfl ?_
        refine r_goto hX dX7_gives_202 ?_
        have hs2 := ev1_op (f := (fun i => f4 a b c d (plc t.1 i))) (c := cd) (by omega) hl2
        have q40 : (stk (fun i => f4 a b c d (plc t.1 i)) t.2.2 (k + 1)).length = st.length - 1 := (by rw [hs1, hs2]; simp; try omega)
        exact At.less (At.to (ls := [(0, .ref (L.1 o)), (1, .int a), (2, .int b), (3, .int c), (4, .int d), (5, .int (nI (st.length - 1))), (6, .int (nI (k + 1)))]) (ih3 _ hO.up (by rw [hs1, hs2]; exact pil_set2 hP hl2)) (by rw [q40]) rfl rfl) (by simp)
  exact At.to (P1 0 (Nat.zero_le _) σ (Of.rf σ) (pil_nil _)) rfl rfl rfl
