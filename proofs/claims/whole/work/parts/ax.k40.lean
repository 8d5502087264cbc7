/-! ===== the law: its loop ===== -/
theorem lw_cmp {n i : Nat} (hn : n ≤ 3072) (hi : i ≤ 4000) (h : ¬ nI n - nI 6 < nI i) : i + 6 ≤ n := by
  by_cases q : 6 ≤ n
  · rw [pk_sub q] at h
    have z : ¬ n - 6 < i := fun z => h ((nI_ltI (by omega) (by omega)).mpr z)
    omega
  · exfalso
    apply h
    have z : (nI n - nI 6).toInt < 0 := by
      rcases (show n = 0 ∨ n = 1 ∨ n = 2 ∨ n = 3 ∨ n = 4 ∨ n = 5 by omega) with rfl | rfl | rfl | rfl | rfl | rfl <;> decide
    rw [Int32.lt_iff_toInt_lt, nI_toInt (by omega)]
    omega
set_option maxHeartbeats 4000000 in
theorem lw_step {X : Cx} {nm : String} (hX : Ok X cL_law RL nm { frames := 2048, cells := 600000, slots := 7302250, locals := 84000 } (some .boolean)) (hE : LE (xD X)) {b n : Nat} {f : Nat → Int32} (hS : SX X b n f) (hn : n ≤ 3072) (hN3 : 3 < xn X) (hend : ∀ (L : La) (σ : Me) (mc ms : Nat) (ls : List (Nat × Value)), mc ≤ 600000 → ms ≤ 7302250 → At X L σ mc ms ls 1548 []) (i : Nat) (hj : i ≤ 3100) (mc ms : Nat) (hmc : mc + 20 ≤ 600000) (hms : ms + 300 ≤ 7302250)
    (ih : i + 6 ≤ n → ∀ (L : La) (σ : Me) (s : Sx) (N : Nat), IC L σ s N → IR L σ s → At X L σ (mc + 20) (ms + 300) [(0, .ref b), (1, .ref (L.1 100)), (2, .ref (L.1 0)), (3, .int (nI (i + 6)))] 18 []) {L : La} {σ : Me} {s : Sx} {N : Nat} (hC : IC L σ s N) (hR : IR L σ s) : At X L σ mc ms [(0, .ref b), (1, .ref (L.1 100)), (2, .ref (L.1 0)), (3, .int (nI i))] 18 [] := by
  refine r_iload_n hX dL_law_18 rfl ?_
  refine r_aload_n hX dL_law_19 rfl ?_
  refine r_slen hX hS dL_law_20 ?_
  refine r_bipush hX (nI 6) dL_law_21 rfl ?_
  refine r_isub hX dL_law_23 ?_
  refine r_icmp_gt hX dL_law_24 (fun c => hend _ _ _ _ _ (by omega) (by omega)) (fun c => ?_)
  have hi := lw_cmp hn (by omega) c
  have kk : ∀ (L' : La) (σ' : Me) (s' : Sx) (N' : Nat), IC L' σ' s' N' → IR L' σ' s' → At X L' σ' (mc + 20) (ms + 300) [(0, .ref b), (1, .ref (L'.1 100)), (2, .ref (L'.1 0)), (3, .int (nI i))] 1542 [] := by
    intro L' σ' s' N' h1 h2
    refine r_iincN (n := 6) hX [(0, .ref b), (1, .ref (L'.1 100)), (2, .ref (L'.1 0)), (3, .int (nI (i + 6)))] dL_law_1542 rfl hN3 rfl ?_
    refine r_goto hX dL_law_1545 ?_
    exact ih hi L' σ' s' N' h1 h2
  refine r_aload_n hX dL_law_27 rfl ?_
  refine r_iload_n hX dL_law_28 rfl ?_
  refine r_sld hX hS (by omega) (by omega) dL_law_29 ?_
  refine r_bipush hX (nI 63) dL_law_30 rfl ?_
  refine r_iand hX dL_law_32 ?_
  obtain ⟨v, hv, e⟩ : ∃ v, v < 64 ∧ f i &&& nI 63 = nI v := ⟨_, Nat.mod_lt _ (by decide), pk_and (f i) 6 (by decide)⟩
  rw [e]
  rcases (show v = 0 ∨ v = 1 ∨ v = 2 ∨ v = 3 ∨ v = 4 ∨ v = 5 ∨ v = 6 ∨ v = 7 ∨ v = 8 ∨ v = 9 ∨ v = 10 ∨ v = 11 ∨ v = 12 ∨ v = 13 ∨ v = 14 ∨ v = 15 ∨ v = 16 ∨ v = 17 ∨ v = 18 ∨ v = 19 ∨ v = 20 ∨ v = 21 ∨ v = 22 ∨ v = 23 ∨ v = 24 ∨ v = 25 ∨ v = 26 ∨ v = 27 ∨ v = 28 ∨ v = 29 ∨ v = 30 ∨ v = 31 ∨ v = 32 ∨ v = 33 ∨ v = 34 ∨ v = 35 ∨ v = 36 ∨ v = 37 ∨ v = 38 ∨ v = 39 ∨ v = 40 ∨ v = 41 ∨ 42 ≤ v by omega) with rfl | rfl | rfl | rfl | rfl | rfl | rfl | rfl | rfl | rfl | rfl | rfl | rfl | rfl | rfl | rfl | rfl | rfl | rfl | rfl | rfl | rfl | rfl | rfl | rfl | rfl | rfl | rfl | rfl | rfl | rfl | rfl | rfl | rfl | rfl | rfl | rfl | rfl | rfl | rfl | rfl | rfl | h42
  · exact r_tabInN (v := 0) hX 216 dL_law_33 (by decide) (by decide) (by decide) 183 rfl (by decide) (lw_c0 hX hE hS i hi hn hC hR mc ms hmc hms kk)
  · exact r_tabInN (v := 1) hX 239 dL_law_33 (by decide) (by decide) (by decide) 206 rfl (by decide) (lw_c1 hX hE hS i hi hn hC hR mc ms hmc hms kk)
  · exact r_tabInN (v := 2) hX 272 dL_law_33 (by decide) (by decide) (by decide) 239 rfl (by decide) (lw_c2 hX hE hS i hi hn hC hR mc ms hmc hms kk)
  · exact r_tabInN (v := 3) hX 315 dL_law_33 (by decide) (by decide) (by decide) 282 rfl (by decide) (lw_c3 hX hE hS i hi hn hC hR mc ms hmc hms kk)
  · exact r_tabInN (v := 4) hX 338 dL_law_33 (by decide) (by decide) (by decide) 305 rfl (by decide) (lw_c4 hX hE hS i hi hn hC hR mc ms hmc hms kk)
  · exact r_tabInN (v := 5) hX 371 dL_law_33 (by decide) (by decide) (by decide) 338 rfl (by decide) (lw_c5 hX hE hS i hi hn hC hR mc ms hmc hms kk)
  · exact r_tabInN (v := 6) hX 414 dL_law_33 (by decide) (by decide) (by decide) 381 rfl (by decide) (lw_c6 hX hE hS i hi hn hC hR mc ms hmc hms kk)
  · exact r_tabInN (v := 7) hX 447 dL_law_33 (by decide) (by decide) (by decide) 414 rfl (by decide) (lw_c7 hX hE hS i hi hn hC hR mc ms hmc hms kk)
  · exact r_tabInN (v := 8) hX 480 dL_law_33 (by decide) (by decide) (by decide) 447 rfl (by decide) (lw_c8 hX hE hS i hi hn hC hR mc ms hmc hms kk)
  · exact r_tabInN (v := 9) hX 513 dL_law_33 (by decide) (by decide) (by decide) 480 rfl (by decide) (lw_c9 hX hE hS i hi hn hC hR mc ms hmc hms kk)
  · exact r_tabInN (v := 10) hX 546 dL_law_33 (by decide) (by decide) (by decide) 513 rfl (by decide) (lw_c10 hX hE hS i hi hn hC hR mc ms hmc hms kk)
  · exact r_tabInN (v := 11) hX 569 dL_law_33 (by decide) (by decide) (by decide) 536 rfl (by decide) (lw_c11 hX hE hS i hi hn hC hR mc ms hmc hms kk)
  · exact r_tabInN (v := 12) hX 602 dL_law_33 (by decide) (by decide) (by decide) 569 rfl (by decide) (lw_c12 hX hE hS i hi hn hC hR mc ms hmc hms kk)
  · exact r_tabInN (v := 13) hX 625 dL_law_33 (by decide) (by decide) (by decide) 592 rfl (by decide) (lw_c13 hX hE hS i hi hn hC hR mc ms hmc hms kk)
  · exact r_tabInN (v := 14) hX 668 dL_law_33 (by decide) (by decide) (by decide) 635 rfl (by decide) (lw_c14 hX hE hS i hi hn hC hR mc ms hmc hms kk)
  · exact r_tabInN (v := 15) hX 701 dL_law_33 (by decide) (by decide) (by decide) 668 rfl (by decide) (lw_c15 hX hE hS i hi hn hC hR mc ms hmc hms kk)
  · exact r_tabInN (v := 16) hX 734 dL_law_33 (by decide) (by decide) (by decide) 701 rfl (by decide) (lw_c16 hX hE hS i hi hn hC hR mc ms hmc hms kk)
  · exact r_tabInN (v := 17) hX 767 dL_law_33 (by decide) (by decide) (by decide) 734 rfl (by decide) (lw_c17 hX hE hS i hi hn hC hR mc ms hmc hms kk)
  · exact r_tabInN (v := 18) hX 800 dL_law_33 (by decide) (by decide) (by decide) 767 rfl (by decide) (lw_c18 hX hE hS i hi hn hC hR mc ms hmc hms kk)
  · exact r_tabInN (v := 19) hX 823 dL_law_33 (by decide) (by decide) (by decide) 790 rfl (by decide) (lw_c19 hX hE hS i hi hn hC hR mc ms hmc hms kk)
  · exact r_tabInN (v := 20) hX 846 dL_law_33 (by decide) (by decide) (by decide) 813 rfl (by decide) (lw_c20 hX hE hS i hi hn hC hR mc ms hmc hms kk)
  · exact r_tabInN (v := 21) hX 879 dL_law_33 (by decide) (by decide) (by decide) 846 rfl (by decide) (lw_c21 hX hE hS i hi hn hC hR mc ms hmc hms kk)
  · exact r_tabInN (v := 22) hX 932 dL_law_33 (by decide) (by decide) (by decide) 899 rfl (by decide) (lw_c22 hX hE hS i hi hn hC hR mc ms hmc hms kk)
  · exact r_tabInN (v := 23) hX 955 dL_law_33 (by decide) (by decide) (by decide) 922 rfl (by decide) (lw_c23 hX hE hS i hi hn hC hR mc ms hmc hms kk)
  · exact r_tabInN (v := 24) hX 998 dL_law_33 (by decide) (by decide) (by decide) 965 rfl (by decide) (lw_c24 hX hE hS i hi hn hC hR mc ms hmc hms kk)
  · exact r_tabInN (v := 25) hX 1021 dL_law_33 (by decide) (by decide) (by decide) 988 rfl (by decide) (lw_c25 hX hE hS i hi hn hC hR mc ms hmc hms kk)
  · exact r_tabInN (v := 26) hX 1034 dL_law_33 (by decide) (by decide) (by decide) 1001 rfl (by decide) (lw_c26 hX hE hS i hi hn hC hR mc ms hmc hms kk)
  · exact r_tabInN (v := 27) hX 1067 dL_law_33 (by decide) (by decide) (by decide) 1034 rfl (by decide) (lw_c27 hX hE hS i hi hn hC hR mc ms hmc hms kk)
  · exact r_tabInN (v := 28) hX 1090 dL_law_33 (by decide) (by decide) (by decide) 1057 rfl (by decide) (lw_c28 hX hE hS i hi hn hC hR mc ms hmc hms kk)
  · exact r_tabInN (v := 29) hX 1133 dL_law_33 (by decide) (by decide) (by decide) 1100 rfl (by decide) (lw_c29 hX hE hS i hi hn hC hR mc ms hmc hms kk)
  · exact r_tabInN (v := 30) hX 1176 dL_law_33 (by decide) (by decide) (by decide) 1143 rfl (by decide) (lw_c30 hX hE hS i hi hn hC hR mc ms hmc hms kk)
  · exact r_tabInN (v := 31) hX 1209 dL_law_33 (by decide) (by decide) (by decide) 1176 rfl (by decide) (lw_c31 hX hE hS i hi hn hC hR mc ms hmc hms kk)
  · exact r_tabInN (v := 32) hX 1232 dL_law_33 (by decide) (by decide) (by decide) 1199 rfl (by decide) (lw_c32 hX hE hS i hi hn hC hR mc ms hmc hms kk)
  · exact r_tabInN (v := 33) hX 1295 dL_law_33 (by decide) (by decide) (by decide) 1262 rfl (by decide) (lw_c33 hX hE hS i hi hn hC hR mc ms hmc hms kk)
  · exact r_tabInN (v := 34) hX 1338 dL_law_33 (by decide) (by decide) (by decide) 1305 rfl (by decide) (lw_c34 hX hE hS i hi hn hC hR mc ms hmc hms kk)
  · exact r_tabInN (v := 35) hX 1371 dL_law_33 (by decide) (by decide) (by decide) 1338 rfl (by decide) (lw_c35 hX hE hS i hi hn hC hR mc ms hmc hms kk)
  · exact r_tabInN (v := 36) hX 1404 dL_law_33 (by decide) (by decide) (by decide) 1371 rfl (by decide) (lw_c36 hX hE hS i hi hn hC hR mc ms hmc hms kk)
  · exact r_tabInN (v := 37) hX 1437 dL_law_33 (by decide) (by decide) (by decide) 1404 rfl (by decide) (lw_c37 hX hE hS i hi hn hC hR mc ms hmc hms kk)
  · exact r_tabInN (v := 38) hX 1460 dL_law_33 (by decide) (by decide) (by decide) 1427 rfl (by decide) (lw_c38 hX hE hS i hi hn hC hR mc ms hmc hms kk)
  · exact r_tabInN (v := 39) hX 1493 dL_law_33 (by decide) (by decide) (by decide) 1460 rfl (by decide) (lw_c39 hX hE hS i hi hn hC hR mc ms hmc hms kk)
  · exact r_tabInN (v := 40) hX 1506 dL_law_33 (by decide) (by decide) (by decide) 1473 rfl (by decide) (lw_c40 hX hE hS i hi hn hC hR mc ms hmc hms kk)
  · exact r_tabInN (v := 41) hX 1519 dL_law_33 (by decide) (by decide) (by decide) 1486 rfl (by decide) (lw_c41 hX hE hS i hi hn hC hR mc ms hmc hms kk)
  · refine r_tabOut hX 1542 dL_law_33 (by rw [nI_toInt (by omega)]; omega) (by decide) ?_
    exact At.more (kk L σ s N hC hR) (by omega) (by omega)
set_option maxRecDepth 100000 in
theorem lw_loop {X : Cx} {nm : String} (hX : Ok X cL_law RL nm { frames := 2048, cells := 600000, slots := 7302250, locals := 84000 } (some .boolean)) (hE : LE (xD X)) {b n : Nat} {f : Nat → Int32} (hS : SX X b n f) (hn : n ≤ 3072) (hN3 : 3 < xn X) (hend : ∀ (L : La) (σ : Me) (mc ms : Nat) (ls : List (Nat × Value)), mc ≤ 600000 → ms ≤ 7302250 → At X L σ mc ms ls 1548 []) : ∀ (m i mc ms : Nat), 3073 ≤ i + 6 * m → i ≤ 3100 → mc + 20 * (m + 1) ≤ 600000 → ms + 300 * (m + 1) ≤ 7302250 → ∀ (L : La) (σ : Me) (s : Sx) (N : Nat), IC L σ s N → IR L σ s → At X L σ mc ms [(0, .ref b), (1, .ref (L.1 100)), (2, .ref (L.1 0)), (3, .int (nI i))] 18 [] := by
  intro m
  induction m with
  | zero =>
    intro i mc ms h1 h2 h3 h4 L σ s N hC hR
    exact lw_step hX hE hS hn hN3 hend i h2 mc ms (by omega) (by omega) (fun z => absurd z (by omega)) hC hR
  | succ m ih =>
    intro i mc ms h1 h2 h3 h4 L σ s N hC hR
    have e1 : 20 * (m + 1 + 1) = 20 * (m + 1) + 20 := Nat.mul_succ _ _
    have e2 : 300 * (m + 1 + 1) = 300 * (m + 1) + 300 := Nat.mul_succ _ _
    have e3 : 6 * (m + 1) = 6 * m + 6 := Nat.mul_succ _ _
    rw [e1] at h3
    rw [e2] at h4
    rw [e3] at h1
    generalize hx : 20 * (m + 1) = x at h3 ih
    generalize hy : 300 * (m + 1) = y at h4 ih
    generalize hw : 6 * m = w at h1 ih
    exact lw_step hX hE hS hn hN3 hend i h2 mc ms (by clear ih hx hy hw e1 e2 e3; omega) (Nat.le_trans (Nat.add_le_add_left (Nat.le_add_left 300 y) ms) h4) (fun z => ih (i + 6) (mc + 20) (ms + 300) (by clear ih hx hy hw e1 e2 e3; omega) (by clear ih hx hy hw e1 e2 e3; omega) (by clear ih hx hy hw e1 e2 e3; omega) (by rw [Nat.add_assoc, Nat.add_comm 300 y]; exact h4)) hC hR
