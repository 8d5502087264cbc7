set_option maxHeartbeats 4000000 in
set_option maxRecDepth 100000 in
theorem c_X2_read {l : Launch} {D : Ds} {L : La}  (J : Nat → Nat × Nat) (hJ : CW D J) (hA : CAt L) (hWl : Wl L) (N : Nat) (hNF : NF L N) (σ : Me) (P : Tp) (hP : RTc σ P) : Ct l yX2_read cX2_read 1 (some (.object "FiveStars$Text")) { frames := 152, cells := 3, slots := 196, locals := 3850 } D L σ [.ref (L.1 105)] (PNR (RdP L σ N (rdT P))) := by
  refine Ct.of (by decide) (Nat.le_of_ble_eq_true rfl) ?_
  intro X hl hD hnl hX0 hQ
  have hX : Ok X cX2_read RX2 "read" { frames := 152, cells := 3, slots := 196, locals := 3850 } (some (.object "FiveStars$Text")) := hX0
  have hP96 := hP.2.1
  have hNb := hNF.1
  show At X L σ 0 0 [(0, .ref (L.1 105))] 0 []
  refine r_aload_n hX dX2_read_0 rfl ?_
  refine r_iconst hX (nI 0) dX2_read_1 rfl ?_
  refine r_putI hX dX2_read_2 fl_X2_15 (hA.1 105 (1, 0) rfl) rfl rfl rfl rfl ?_
  refine r_aload_n hX dX2_read_5 rfl ?_
  refine r_iconst hX (nI 0) dX2_read_6 rfl ?_
  refine r_putI hX dX2_read_7 fl_X2_19 (hA.1 105 (1, 0) rfl) rfl rfl rfl rfl ?_
  refine r_aload_n hX dX2_read_10 rfl ?_
  refine r_iconst hX (-1) dX2_read_11 rfl ?_
  refine r_putI hX dX2_read_12 fl_X2_25 (hA.1 105 (1, 0) rfl) rfl rfl rfl rfl ?_
  refine r_aload_n hX dX2_read_15 rfl ?_
  refine r_iconst hX (nI 0) dX2_read_16 rfl ?_
  refine r_putI hX dX2_read_17 fl_X2_28 (hA.1 105 (1, 0) rfl) rfl rfl rfl rfl ?_
  refine r_aload_n hX dX2_read_20 rfl ?_
  refine r_iconst hX (nI 0) dX2_read_21 rfl ?_
  refine r_putI hX dX2_read_22 fl_X2_34 (hA.1 105 (1, 0) rfl) rfl rfl rfl rfl ?_
  refine r_aload_n hX dX2_read_25 rfl ?_
  have hP1 : RTc (up (up (up (up (up σ 105 2 (nI 0)) 105 3 (nI 0)) 105 5 (-1)) 105 6 (nI 0)) 105 8 (nI 0)) P := hP.ex (fun c i hc => by rw [up_n (by omega), up_n (by omega), up_n (by omega), up_n (by omega), up_n (by omega)])
  refine r_callVV (As := []) (rest := []) hX (c_X2_step hA (up (up (up (up (up σ 105 2 (nI 0)) 105 3 (nI 0)) 105 5 (-1)) 105 6 (nI 0)) 105 8 (nI 0)) P hP1 0 0 false (Nat.zero_le _) (by decide) (by rw [up_n (by omega), up_s]) up_s rfl) dX2_read_26 cb_X2_41 (hA.1 105 (1, 0) rfl) rfl rfl ⟨Nat.le_of_ble_eq_true rfl, Nat.le_of_ble_eq_true rfl⟩ ⟨Nat.le_of_ble_eq_true rfl, Nat.le_of_ble_eq_true rfl⟩ (Nat.le_of_ble_eq_true rfl) (fun σ1 h2 => ?_)
  obtain ⟨hl1, hx1⟩ := h2
  refine r_aload_n hX dX2_read_29 rfl ?_
  refine r_aload_n hX dX2_read_30 rfl ?_
  refine r_callVF (As := []) (rest := [.ref (L.1 105)]) hX (by rw [hl, hD]; exact c_X2_keyword J hJ hA σ1 P (hP1.xc hx1) (nx P 0 false) hl1 (lok_first P)) dX2_read_31 cb_X2_44 (hA.1 105 (1, 0) rfl) rfl rfl ⟨Nat.le_of_ble_eq_true rfl, Nat.le_of_ble_eq_true rfl⟩ ⟨Nat.le_of_ble_eq_true rfl, Nat.le_of_ble_eq_true rfl⟩ (Nat.le_of_ble_eq_true rfl) ?_
  rcases hky : kyO P (nx P 0 false) with _ | key
  · skip
    show At X L σ1 0 0 [(0, .ref (L.1 105))] 34 [.int (-1), .ref (L.1 105)]
    refine r_putI hX dX2_read_34 fl_X2_22 (hA.1 105 (1, 0) rfl) rfl rfl rfl rfl ?_
    refine r_aload_n hX dX2_read_37 rfl ?_
    refine r_getIV hX dX2_read_38 fl_X2_22 (hA.1 105 (1, 0) rfl) rfl (-1) up_s ?_
    refine r_if_ge hX dX2_read_41 (fun c3 => absurd c3 (by decide)) (fun c3 => ?_)
    refine r_aload_n hX dX2_read_44 rfl ?_
    refine r_aload_n hX dX2_read_45 rfl ?_
    refine r_getIV hX dX2_read_46 fl_X2_31 (hA.1 105 (1, 0) rfl) rfl (σ1 105 7) (by rw [up_n (by omega)]) ?_
    refine r_putI hX dX2_read_49 fl_X2_25 (hA.1 105 (1, 0) rfl) rfl rfl rfl rfl ?_
    refine r_null hX dX2_read_52 ?_
    exact r_areturn hX hQ dX2_read_53 ⟨Nat.le_of_ble_eq_true rfl, Nat.le_of_ble_eq_true rfl⟩ (Or.inl ⟨_, rfl⟩) (Or.inl rfl) (PNR.mk (by rw [rdT_0 hky]; exact ⟨rfl, rfl, up_s.trans hl1.2.1, Ex.up (Ex.up (Ex.tr (Ex.up (Ex.up (Ex.up (Ex.up (Ex.up (Ex.rf σ) rfl) rfl) rfl) rfl) rfl) (pXc_pYc hx1)) rfl) rfl⟩))
  · skip
    show At X L σ1 0 0 [(0, .ref (L.1 105))] 34 [.int (nI key), .ref (L.1 105)]
    have hkk := kyO_le hky (lok_first P)
    have hkey := hkk.1
    have hk4 := hkk.2
    refine r_putI hX dX2_read_34 fl_X2_22 (hA.1 105 (1, 0) rfl) rfl rfl rfl rfl ?_
    have hps : PSc (up σ1 105 4 (nI key)) P key (nx P 0 false) [] 0 := PSc.start hP1 (by rw [up_n (by omega), up_n (by omega), up_n (by omega), up_n (by omega), up_s]) (by rw [up_n (by omega), up_n (by omega), up_n (by omega), up_s]) (by rw [up_n (by omega), up_n (by omega), up_s]) hx1 hl1 key
    refine r_aload_n hX dX2_read_37 rfl ?_
    refine r_getIV hX dX2_read_38 fl_X2_22 (hA.1 105 (1, 0) rfl) rfl (nI key) (hps).2.2.2.1 ?_
    refine r_ifN_ge hX dX2_read_41 (by omega) ?_
    refine r_aload_n hX dX2_read_54 rfl ?_
    refine r_callVV (As := []) (rest := []) hX (c_X2_step hA (up σ1 105 4 (nI key)) P (hps).1 (nx P 0 false).2.2.1 (nxN (nx P 0 false)) (wwB (nx P 0 false)) ((lok_first P)).2.2.1 (nxN_le _) (hps).2.1.1 (hps).2.1.2.2 (ww_nx (mk1'.mp (kyO_1 hky)).2)) dX2_read_55 cb_X2_41 (hA.1 105 (1, 0) rfl) rfl rfl ⟨Nat.le_of_ble_eq_true rfl, Nat.le_of_ble_eq_true rfl⟩ ⟨Nat.le_of_ble_eq_true rfl, Nat.le_of_ble_eq_true rfl⟩ (Nat.le_of_ble_eq_true rfl) (fun σ4 h5 => ?_)
    obtain ⟨hl6, hx7⟩ := h5
    have hp8 : PSc σ4 P key (nxq P (nx P 0 false)) ([]) 0 := PSc.nx hps hx7 hl6
    have hlok9 := ((lok_first P)).nx
    refine r_aload_n hX dX2_read_58 rfl ?_
    refine r_iconst hX (nI 0) dX2_read_59 rfl ?_
    refine r_iconst hX (nI 0) dX2_read_60 rfl ?_
    refine r_iconst hX (nI 0) dX2_read_61 rfl ?_
    have hmn1 := hlok9.2.1; have hmn2 := hlok9.2.2
    refine r_callVV (As := [.int (nI 0), .int (nI 0), .int (nI 0)]) (rest := []) hX (by rw [hl, hD]; exact (c_parC J hJ hA P key hkey 70).1 0 0 0 (by decide) (by decide) (by decide) (by decide) σ4 (nxq P (nx P 0 false)) ([]) 0 hp8 hlok9.1 (by (try simp only [List.length_append, List.length_cons, List.length_nil]); omega)) dX2_read_62 cb_X2_48 (hA.1 105 (1, 0) rfl) rfl rfl ⟨Nat.le_of_ble_eq_true rfl, Nat.le_of_ble_eq_true rfl⟩ ⟨Nat.le_of_ble_eq_true rfl, Nat.le_of_ble_eq_true rfl⟩ (Nat.le_of_ble_eq_true rfl) (fun σ10 h11 => ?_)
    obtain ⟨hq12, hx13⟩ := h11
    have hok14 := prs_ok P key 70 0 0 0 (nxq P (nx P 0 false)) hlok9.1
    rcases hr15 : prs P key 70 0 0 0 (nxq P (nx P 0 false)) with f16 | ⟨q17, c18, n19⟩
    · skip
      rw [hr15] at hq12 hok14
      have hq12 : FLc σ10 f16 := hq12
      have hflf16 : f16 ≤ P.1 := hok14.2
      refine r_aload_n hX dX2_read_65 rfl ?_
      refine r_getIV hX dX2_read_66 fl_X2_25 (hA.1 105 (1, 0) rfl) rfl (nI f16) (hq12).1 ?_
      refine r_ifN_ge hX dX2_read_69 (by omega) ?_
      refine r_aload_n hX dX2_read_87 rfl ?_
      refine r_getIV hX dX2_read_88 fl_X2_25 (hA.1 105 (1, 0) rfl) rfl (nI f16) (hq12).1 ?_
      refine r_ifN_ge hX dX2_read_91 (by omega) ?_
      refine r_null hX dX2_read_123 ?_
      exact r_areturn hX hQ dX2_read_124 ⟨Nat.le_of_ble_eq_true rfl, Nat.le_of_ble_eq_true rfl⟩ (Or.inl ⟨_, rfl⟩) (Or.inl rfl) (PNR.mk (by rw [rdT_k hky, hr15]; exact ⟨rfl, rfl, hq12.1, (Ex.tr (Ex.tr (Ex.up (Ex.tr (Ex.up (Ex.up (Ex.up (Ex.up (Ex.up (Ex.rf σ) rfl) rfl) rfl) rfl) rfl) (pXc_pYc hx1)) rfl) (pXc_pYc hx7)) hx13)⟩))
    · skip
      rw [hr15] at hq12 hok14
      have hp20 : PSc σ10 P key q17 ([] ++ c18) (0 + n19) := hq12
      have hl21 : Lok P q17 ∧ (nxq P (nx P 0 false)).1 + c18.length ≤ q17.1 ∧ (nxq P (nx P 0 false)).1 < q17.1 := hok14
      have := hl21.1.2.1; have := hl21.1.2.2.1
      have hps2 : PSc σ10 P key q17 c18 n19 := PSc.as hp20 (List.nil_append _) (Nat.zero_add _)
      have := nxN_le q17
      have hrt : rdT P = rdE key (.inr (q17, c18, n19)) := by rw [rdT_k hky, hr15]
      refine r_aload_n hX dX2_read_65 rfl ?_
      refine r_getIV hX dX2_read_66 fl_X2_25 (hA.1 105 (1, 0) rfl) rfl (-1) (hps2).2.2.1 ?_
      refine r_if_ge hX dX2_read_69 (fun c22 => absurd c22 (by decide)) (fun c22 => ?_)
      refine r_aload_n hX dX2_read_72 rfl ?_
      refine r_getIV hX dX2_read_73 fl_X2_28 (hA.1 105 (1, 0) rfl) rfl (nI (nxN q17)) (hps2).2.1.1 ?_
      refine r_ifN_eq hX dX2_read_76 (by omega) (fun c23 => ?_) (fun c23 => ?_)
      · skip
        refine r_aload_n hX dX2_read_87 rfl ?_
        refine r_getIV hX dX2_read_88 fl_X2_25 (hA.1 105 (1, 0) rfl) rfl (-1) (hps2).2.2.1 ?_
        refine r_if_ge hX dX2_read_91 (fun c24 => absurd c24 (by decide)) (fun c24 => ?_)
        have hrt2 : rdT P = .inr (key, c18, n19) := by rw [hrt]; exact rdE_y ((nx0 hl21.1).mp c23)
        have hok := rdT_ok (fun k hk => (hP.2.2 k hk).2) hP96 hrt2
        have hc92 : c18.length ≤ 92 := hok.2.1
        have hn92 : n19 ≤ 92 := by have z : n19 = lvs c18 := hok.2.2.2.1; have := lvs_le c18; omega
        refine r_new hX (N) (fun L' => [(0, .ref (L'.1 105))]) (fun L' => []) dX2_read_94 nb_X2_52 (hNF.2.2 N (Nat.le_refl _)) hWl ⟨Nat.le_of_ble_eq_true rfl, Nat.le_of_ble_eq_true rfl⟩ (fun L' h => ⟨(by have e0 : L'.1 105 = L.1 105 := (h.1 _ (by omega)).1; rw [e0]), rfl⟩) (fun L25 hNw26 => ?_)
        have fr27 : L25.2.1 (N + 1) = none := (hNw26.1 (N + 1) (by omega)).2.1.trans (hNF.2.2 (N + 1) (by omega))
        have fr28 : L25.2.1 (N + 2) = none := (hNw26.1 (N + 2) (by omega)).2.1.trans (hNF.2.2 (N + 2) (by omega))
        have wl30 : Wl L25 := Wl.nw hWl (hNF.2.2 N (Nat.le_refl _)) hNw26
        have sh31 : L25.2.1 (N) = some (6, 0) := hNw26.2.1
        have hAn : CAt L25 := hA.nw hNw26 (csh_big (by omega)) (by omega)
        refine r_dup hX dX2_read_97 rfl ?_
        refine r_aload_n hX dX2_read_98 rfl ?_
        refine r_getIV hX dX2_read_99 fl_X2_22 (hAn.1 105 (1, 0) rfl) rfl (nI key) ((zr_n (by omega)).trans hps2.2.2.2.1) ?_
        refine r_aload_n hX dX2_read_102 rfl ?_
        refine r_getIV hX dX2_read_103 fl_X2_19 (hAn.1 105 (1, 0) rfl) rfl (nI n19) ((zr_n (by omega)).trans hps2.2.2.2.2.2.1) ?_
        refine r_aload_n hX dX2_read_106 rfl ?_
        refine r_getR hX dX2_read_107 fl_X2_9 (hAn.1 105 (1, 0) rfl) rfl (hAn.2.1 105 1 106 rfl) ?_
        refine r_aload_n hX dX2_read_110 rfl ?_
        refine r_getIV hX dX2_read_111 fl_X2_15 (hAn.1 105 (1, 0) rfl) rfl (nI c18.length) ((zr_n (by omega)).trans hps2.2.2.2.2.1) ?_
        refine r_callSNR (As := [.ref (L25.1 106), .int (nI c18.length)]) (rest := [.int (nI n19), .int (nI key), .ref (L25.1 N), .ref (L25.1 N)]) hX (c_J7_copyOf_59c91 (N + 1) 106 c18.length (hAn.1 106 _ rfl) (by omega) (by omega) fr27 wl30 (zr σ10 N)) dX2_read_114 cb_X2_54 rfl rfl ⟨Nat.le_of_ble_eq_true rfl, Nat.le_of_ble_eq_true rfl⟩ ⟨Nat.le_of_ble_eq_true rfl, Nat.le_of_ble_eq_true rfl⟩ (Nat.le_of_ble_eq_true rfl) (fun r35 L32 σ33 h34 => ?_)
        have hre := h34.1
        subst hre
        have hcn := h34.2.1
        have hf2 : L32.2.1 (N + 2) = none := (hcn.1 (N + 2) (by omega)).2.1.trans fr28
        have hsN : L32.2.1 N = some (6, 0) := (hcn.1 N (by omega)).2.1.trans sh31
        have hwl2 : Wl L32 := Wl.nw wl30 fr27 hcn
        refine At.to (ls' := [(0, .ref (L32.1 105))]) (st' := [.ref (L32.1 (N + 1)), .int (nI n19), .int (nI key), .ref (L32.1 N), .ref (L32.1 N)]) ?_ (by rw [(show L32.1 (105) = L25.1 (105) from (hcn.1 (105) (by omega)).1)] <;> rfl) (by rw [(show L32.1 (N) = L25.1 (N) from (hcn.1 (N) (by omega)).1)] <;> rfl) rfl
        refine r_callI (As := [.int (nI key), .int (nI n19), .ref (L32.1 (N + 1))]) (rest := [.ref (L32.1 N)]) hX (c_X7_init N c18.length key n19 hsN hcn.2.1 hf2 (by omega) hwl2 σ33) dX2_read_117 cb_X2_60.1 cb_X2_60.2 rfl rfl ⟨Nat.le_of_ble_eq_true rfl, Nat.le_of_ble_eq_true rfl⟩ ⟨Nat.le_of_ble_eq_true rfl, Nat.le_of_ble_eq_true rfl⟩ (Nat.le_of_ble_eq_true rfl) (fun v39 L36 σ37 h38 => ?_)
        obtain ⟨rfl, h38⟩ := h38
        refine At.to (ls' := [(0, .ref (L36.1 105))]) (st' := [.ref (L36.1 N)]) ?_ (by rw [(show L36.1 (105) = L32.1 (105) from (h38.1 (105) (by omega)).1)] <;> rfl) (by rw [(show L36.1 (N) = L32.1 (N) from h38.2.1)] <;> rfl) rfl
        refine r_goto hX dX2_read_120 ?_
        exact r_areturn hX hQ dX2_read_124 ⟨Nat.le_of_ble_eq_true rfl, Nat.le_of_ble_eq_true rfl⟩ (Or.inl ⟨_, rfl⟩) (Or.inr ⟨_, rfl⟩) (PNR.mk (by rw [hrt2]; exact RdP.y hNF hNw26 h34 h38 (Ex.tr (Ex.tr (Ex.up (Ex.tr (Ex.up (Ex.up (Ex.up (Ex.up (Ex.up (Ex.rf σ) rfl) rfl) rfl) rfl) rfl) (pXc_pYc hx1)) rfl) (pXc_pYc hx7)) hx13) rfl hps2.2.2.2.2.2.2))
      · skip
        refine r_aload_n hX dX2_read_79 rfl ?_
        refine r_aload_n hX dX2_read_80 rfl ?_
        refine r_getIV hX dX2_read_81 fl_X2_31 (hA.1 105 (1, 0) rfl) rfl (nI q17.1) (hps2).2.1.2.1 ?_
        refine r_putI hX dX2_read_84 fl_X2_25 (hA.1 105 (1, 0) rfl) rfl rfl rfl rfl ?_
        refine r_aload_n hX dX2_read_87 rfl ?_
        refine r_getIV hX dX2_read_88 fl_X2_25 (hA.1 105 (1, 0) rfl) rfl (nI q17.1) up_s ?_
        refine r_ifN_ge hX dX2_read_91 (by omega) ?_
        refine r_null hX dX2_read_123 ?_
        exact r_areturn hX hQ dX2_read_124 ⟨Nat.le_of_ble_eq_true rfl, Nat.le_of_ble_eq_true rfl⟩ (Or.inl ⟨_, rfl⟩) (Or.inl rfl) (PNR.mk (by rw [hrt, rdE_n (fun z => c23 ((nx0 hl21.1).mpr z))]; exact ⟨rfl, rfl, up_s, Ex.up (Ex.tr (Ex.tr (Ex.up (Ex.tr (Ex.up (Ex.up (Ex.up (Ex.up (Ex.up (Ex.rf σ) rfl) rfl) rfl) rfl) rfl) (pXc_pYc hx1)) rfl) (pXc_pYc hx7)) hx13) rfl⟩))
