/-! ===== the law: its beginning ===== -/
theorem fx_cat {L : La} (hF : Fx L (moS ++ clS) (moT ++ clT)) : CAt L := by
  refine ⟨fun id x h => ?_, fun id j t h => ?_, RAt.of (by decide) (hF.s 200 2 0 (by decide)) (hF.s 201 10 6 (by decide)) (hF.s 202 10 6 (by decide)) (hF.s 203 10 12 (by decide)) (hF.s 204 7 0 (by decide)) (hF.s 205 15 14 (by decide)) (hF.s 206 10 3 (by decide)) (hF.s 207 10 6 (by decide)) (hF.s 208 10 24 (by decide)) (hF.s 209 10 24 (by decide)) (hF.s 210 10 24 (by decide)) (hF.s 211 10 24 (by decide)) (hF.s 212 10 24 (by decide)) (hF.s 213 10 24 (by decide)) (hF.t 200 1 201 (by decide)) (hF.t 200 2 202 (by decide)) (hF.t 200 4 203 (by decide)) (hF.t 200 5 204 (by decide)) (hF.t 200 7 205 (by decide)) (hF.t 200 8 206 (by decide)) (hF.t 200 10 207 (by decide)) (hF.t 200 11 208 (by decide)) (hF.t 204 1 209 (by decide)) (hF.t 204 2 210 (by decide)) (hF.t 204 3 211 (by decide)) (hF.t 204 4 212 (by decide)) (hF.t 204 5 213 (by decide))⟩
  · unfold csh at h
    split at h <;> first | (cases h; exact hF.s _ _ _ (by decide)) | cases h
  · unfold ctg at h
    split at h <;> first | (cases h; exact hF.t _ _ _ (by decide)) | cases h
theorem fx_mat {L : La} (hF : Fx L (moS ++ clS) (moT ++ clT)) : MAt L := by
  refine ⟨fun id x h => ?_, fun j t h => ?_⟩
  · unfold msh at h
    split at h <;> first | (cases h; exact hF.s _ _ _ (by decide)) | cases h
  · unfold mtg at h
    split at h <;> first | (cases h; exact hF.t _ _ _ (by decide)) | cases h
theorem fx_fr {L : La} (hF : Fx L (moS ++ clS) (moT ++ clT)) : (∀ i, i < 14 → L.2.1 (220 + i) = none) ∧ (∀ i, i < 14 → L.2.1 (240 + i) = none) ∧ (∀ k, k < 5 → L.2.1 (120 + 3 * k + 1) = none ∧ L.2.1 (120 + 3 * k + 1 + 1) = none) ∧ ∀ d, 1000 ≤ d → L.2.1 d = none := by
  refine ⟨fun i hi => hF.f _ ?_, fun i hi => hF.f _ ?_, fun k hk => ⟨hF.f _ ?_, hF.f _ ?_⟩, fun d hd => hF.f _ ?_⟩
  · exact (by decide : ∀ i, i < 14 → ((moS ++ clS).all fun q => q.1 != 220 + i) = true) i hi
  · exact (by decide : ∀ i, i < 14 → ((moS ++ clS).all fun q => q.1 != 240 + i) = true) i hi
  · exact (by decide : ∀ k, k < 5 → ((moS ++ clS).all fun q => q.1 != 120 + 3 * k + 1) = true) k hk
  · exact (by decide : ∀ k, k < 5 → ((moS ++ clS).all fun q => q.1 != 120 + 3 * k + 1 + 1) = true) k hk
  · refine List.all_eq_true.mpr (fun q hq => ?_)
    have := (by decide : ∀ q ∈ moS ++ clS, q.1 < 1000) q hq
    simp
    omega
theorem fx_il {L : La} (hF : Fx L (moS ++ clS) (moT ++ clT)) : IL L 1000 := by
  obtain ⟨f1, f2, f3, f4⟩ := fx_fr hF
  refine ⟨fx_cat hF, hF.1, fun i t hi ht => ?_, Or.inl ⟨hF.n 100 9 (by decide), f2⟩, fun k hk => Or.inl ⟨?_, f3 k hk⟩, by decide, by decide, f4⟩
  · rcases (show i = 0 ∨ i = 1 ∨ i = 2 ∨ i = 3 ∨ i = 4 ∨ i = 5 ∨ i = 6 ∨ i = 7 ∨ i = 8 ∨ i = 9 ∨ i = 10 ∨ i = 11 ∨ i = 12 ∨ i = 13 by omega) with rfl | rfl | rfl | rfl | rfl | rfl | rfl | rfl | rfl | rfl | rfl | rfl | rfl | rfl <;> (rw [hF.n 205 _ (by decide)] at ht; cases ht)
  · rcases (show k = 0 ∨ k = 1 ∨ k = 2 ∨ k = 3 ∨ k = 4 by omega) with rfl | rfl | rfl | rfl | rfl <;> exact hF.n _ 4 (by decide)
def s0 : Sx := (A0, none, (0, fun _ => 0), (fun _ => none, fun _ => 0, fun _ _ => 0), (0, fun _ => 0), (fun _ => 0, fun _ => 0, fun _ => 0, fun _ _ => 0))
theorem ic_0 {L1 L2 L3 L4 : La} {σ2 σ4 : Me} (h2 : NwF L1 L2 σ2) (h4 : NwM L3 (zr σ2 0) L4 σ4) : IC L4 σ4 s0 1000 := by
  obtain ⟨-, -, r0, rw0, t0, w0, ⟨b0, b1, b2, b3⟩, k0, k1, k2, k3, k4⟩ := h2
  obtain ⟨hF, -, -, -, -, -, -, e⟩ := h4
  have e : ∀ d i, 20 ≤ d → σ4 d i = σ2 d i := fun d i hd => (e d i (Or.inr hd)).trans (zr_n (by omega))
  refine ⟨fx_il hF, ⟨r0.lay (fun c i _ _ => e c i (by omega)), rw0.lay (fun c i _ _ => e c i (by omega)), fun x hx => absurd hx (Nat.not_lt_zero x)⟩, Va0, ⟨hF.n 100 8 (by decide), (fx_fr hF).1⟩, ⟨(e _ _ (by decide)).trans t0, Nat.zero_le _, fun k hk => absurd hk (Nat.not_lt_zero k)⟩, fun k hk => ?_, ⟨(e _ _ (by decide)).trans w0, Nat.zero_le _, fun k hk => absurd hk (Nat.not_lt_zero k)⟩, fun k hk => ?_⟩
  · rcases (show k = 0 ∨ k = 1 ∨ k = 2 ∨ k = 3 by omega) with rfl | rfl | rfl | rfl
    · exact ⟨(e _ _ (by decide)).trans b0.1, (e _ _ (by decide)).trans b0.2.1, Nat.zero_le _, fun i hi => (e _ _ (by decide)).trans (b0.2.2 i)⟩
    · exact ⟨(e _ _ (by decide)).trans b1.1, (e _ _ (by decide)).trans b1.2.1, Nat.zero_le _, fun i hi => (e _ _ (by decide)).trans (b1.2.2 i)⟩
    · exact ⟨(e _ _ (by decide)).trans b2.1, (e _ _ (by decide)).trans b2.2.1, Nat.zero_le _, fun i hi => (e _ _ (by decide)).trans (b2.2.2 i)⟩
    · exact ⟨(e _ _ (by decide)).trans b3.1, (e _ _ (by decide)).trans b3.2.1, Nat.zero_le _, fun i hi => (e _ _ (by decide)).trans (b3.2.2 i)⟩
  · have z : σ4 (120 + 3 * k) 0 = nI 0 := by
      rcases (show k = 0 ∨ k = 1 ∨ k = 2 ∨ k = 3 ∨ k = 4 by omega) with rfl | rfl | rfl | rfl | rfl
      · exact (e _ _ (by decide)).trans k0
      · exact (e _ _ (by decide)).trans k1
      · exact (e _ _ (by decide)).trans k2
      · exact (e _ _ (by decide)).trans k3
      · exact (e _ _ (by decide)).trans k4
    exact ⟨z, Nat.zero_le 3, fun q => absurd (show (0 : Nat) = 1 from q) (by decide), fun q => absurd (show (0 : Nat) = 2 from q) (by decide), fun q => absurd (show (0 : Nat) = 3 from q) (by decide)⟩
theorem ir_0 {L3 L4 : La} {σ2 σ4 : Me} (h4 : NwM L3 (zr σ2 0) L4 σ4) : IR L4 σ4 s0 := by
  obtain ⟨hF, -, -, m4, m0, z, ⟨c0, c1, c2, c3⟩, e⟩ := h4
  have e0 : ∀ i, σ4 0 i = 0 := fun i => (e 0 i (Or.inl rfl)).trans zr_s
  refine ⟨fx_mat hF, ⟨m0 0 (by decide), m0 1 (by decide), m0 2 (by decide), m0 3 (by decide), m4, fun t ht => absurd ht (Nat.not_lt_zero t), fun t ht => absurd ht (Nat.not_lt_zero t), fun w f hw => absurd hw (Nat.not_lt_zero w), fun x hx => absurd hx (Nat.not_lt_zero x)⟩, ⟨e0 3, fun A hA => by cases hA⟩, ⟨e0 5, Nat.zero_le _, fun k hk => absurd hk (Nat.not_lt_zero k)⟩, fun k hk => ⟨?_, z 13 k (by decide) (by decide) (by decide), Nat.zero_le _, fun i hi => z 14 _ (by decide) (by decide) (by decide)⟩, ⟨e0 7, Nat.zero_le _, fun k hk => absurd hk (Nat.not_lt_zero k)⟩, fun k hk => ⟨z 16 k (by decide) (by decide) (by decide), Nat.zero_le 3, z 17 k (by decide) (by decide) (by decide), z 18 k (by decide) (by decide) (by decide), fun i hi => z 19 _ (by decide) (by decide) (by decide), fun q => absurd (show (0 : Nat) = 1 from q) (by decide), fun q => absurd (show (0 : Nat) = 2 from q) (by decide)⟩⟩
  rcases (show k = 0 ∨ k = 1 ∨ k = 2 ∨ k = 3 by omega) with rfl | rfl | rfl | rfl
  · exact c0
  · exact c1
  · exact c2
  · exact c3
set_option maxRecDepth 100000 in
theorem lw_begin {X : Cx} {nm : String} (hX : Ok X cL_law RL nm { frames := 2048, cells := 600000, slots := 7302250, locals := 84000 } (some .boolean)) (hE : LE (xD X)) {b n : Nat} {f : Nat → Int32} (hS : SX X b n f) (hn : n ≤ 3072) (hN : xn X = 4) (hend : ∀ (L : La) (σ : Me) (mc ms : Nat) (ls : List (Nat × Value)), mc ≤ 600000 → ms ≤ 7302250 → At X L σ mc ms ls 1548 []) (σ : Me) {L : La} (hF0 : Fx L [] []) : At X L σ 0 0 [(0, .ref b)] 0 [] := by
  have hN1 : 1 < xn X := by rw [hN]; decide
  have hN2 : 2 < xn X := by rw [hN]; decide
  have hN3 : 3 < xn X := by rw [hN]; decide
  refine r_new hX (k := 8) 100 (fun _ => [(0, .ref b)]) (fun _ => []) dL_law_0 nb_L_7 (hF0.f 100 rfl) hF0.1 ⟨Nat.le_of_ble_eq_true rfl, Nat.le_of_ble_eq_true rfl⟩ (fun L' h => ⟨rfl, rfl⟩) (fun L1 h1 => ?_)
  have hF1 := hF0.nw h1 rfl rfl
  refine r_dup hX dL_law_3 rfl ?_
  refine r_callI (As := []) (rest := [.ref (L1.1 100)]) hX (c_X9_init hE.1 hE.2.1 _ hF1) dL_law_4 cb_L_9.1 cb_L_9.2 rfl rfl ⟨Nat.le_of_ble_eq_true rfl, Nat.le_of_ble_eq_true rfl⟩ ⟨Nat.le_of_ble_eq_true rfl, Nat.le_of_ble_eq_true rfl⟩ (Nat.le_of_ble_eq_true rfl) (fun v L2 σ2 h2 => ?_)
  obtain ⟨rfl, h2⟩ := h2
  refine At.to (ls' := [(0, .ref b)]) (st' := [.ref (L2.1 100)]) ?_ rfl (by rw [h2.2.1]; rfl) rfl
  refine r_astore_n hX [(0, .ref b), (1, .ref (L2.1 100))] dL_law_7 hN1 rfl ?_
  refine r_new hX (k := 9) 0 (fun L' => [(0, .ref b), (1, .ref (L'.1 100))]) (fun _ => []) dL_law_8 nb_L_10 (h2.1.f 0 rfl) h2.1.1 ⟨Nat.le_of_ble_eq_true rfl, Nat.le_of_ble_eq_true rfl⟩ (fun L' h => ⟨by rw [(h.1 100 (by decide)).1], rfl⟩) (fun L3 h3 => ?_)
  have hF3 := h2.1.nw h3 rfl rfl
  refine r_dup hX dL_law_11 rfl ?_
  refine r_callI (As := []) (rest := [.ref (L3.1 0)]) hX (c_X10_init (zr σ2 0) hF3) dL_law_12 cb_L_12.1 cb_L_12.2 rfl rfl ⟨Nat.le_of_ble_eq_true rfl, Nat.le_of_ble_eq_true rfl⟩ ⟨Nat.le_of_ble_eq_true rfl, Nat.le_of_ble_eq_true rfl⟩ (Nat.le_of_ble_eq_true rfl) (fun v L4 σ4 h4 => ?_)
  obtain ⟨rfl, h4⟩ := h4
  refine At.to (ls' := [(0, .ref b), (1, .ref (L4.1 100))]) (st' := [.ref (L4.1 0)]) ?_ (by rw [h4.2.2.1]) (by rw [h4.2.1]; rfl) rfl
  refine r_astore_n hX [(0, .ref b), (1, .ref (L4.1 100)), (2, .ref (L4.1 0))] dL_law_15 hN2 rfl ?_
  refine r_iconst hX (nI 0) dL_law_16 rfl ?_
  refine r_istore_n hX [(0, .ref b), (1, .ref (L4.1 100)), (2, .ref (L4.1 0)), (3, .int (nI 0))] dL_law_17 hN3 rfl ?_
  exact At.more (lw_loop hX hE hS hn hN3 hend 515 0 100 7000 (by decide) (by decide) (by decide) (by decide) L4 σ4 s0 1000 (ic_0 h2 h4) (ir_0 h4)) (Nat.le_of_ble_eq_true rfl) (Nat.le_of_ble_eq_true rfl)
