/-! ===== what a call leaves is valid ===== -/
theorem vo_thing {A : Al} (hV : Va A) (v : Int32) : Va (oThing A v).2 := by
  unfold oThing
  split
  · rename_i h
    obtain ⟨k, -, hk, rfl⟩ := inB_nat h (by decide) (by decide)
    split
    · exact hV
    · exact va_addT hV (by have := hV.1; omega) (by rw [nI_clamp (by omega)]; exact hk)
  · exact hV
theorem vo_name {A : Al} (hV : Va A) (v : Int32) : Va (oName A v).2 := by
  unfold oName
  split
  · rename_i h
    obtain ⟨k, -, hk, rfl⟩ := inB_nat h (by decide) (by decide)
    split
    · exact hV
    · exact va_addN hV (by have := hV.2.1; omega) (by rw [nI_clamp (by omega)]; exact hk)
  · exact hV
theorem vo_set {A : Al} (hV : Va A) (th wh v : Int32) : Va (oSet A th wh v).2 := by
  unfold oSet
  split
  · split
    · split
      · rename_i h
        obtain ⟨k, -, hk, rfl⟩ := inB_nat h (by decide) (by decide)
        exact va_setO hV (by rw [nI_clamp (by omega)]; exact hk)
      · exact hV
    · split
      · split
        · rename_i h
          obtain ⟨k, -, hk, rfl⟩ := inB_nat h (by decide) (by decide)
          exact va_setB hV (by rw [nI_clamp (by omega)]; exact hk)
        · exact hV
      · exact hV
  · exact hV
theorem vo_word {A : Al} (hV : Va A) (k o a : Int32) : Va (oWord A k o a).2 := by
  unfold oWord
  split
  · rename_i h
    obtain ⟨k, -, hk, rfl⟩ := inB_nat h.1 (by decide) (by decide)
    obtain ⟨o, ho, rfl, ho1, ho2⟩ := of_nat hV h.2.1
    obtain ⟨a, ha, rfl, ha1, ha2⟩ := at_nat h.2.2
    split
    · exact hV
    · rw [nI_clamp (n := k) (by omega), nI_clamp (n := o) (by omega), nI_clamp (n := a) (by omega)]
      exact va_addW hV (by have := hV.2.2.1; omega) hk ho1 ho2 (by omega) ha1 ha2
  · exact hV
theorem vo_turns {A : Al} (hV : Va A) (w k : Int32) : Va (oTurns A w k).2 := by
  unfold oTurns
  split
  · rename_i h
    obtain ⟨k, -, hk, rfl⟩ := inB_nat h.2 (by decide) (by decide)
    exact va_setF hV (by rw [nI_clamp (n := k) (by omega)]; exact Or.inl ⟨rfl, hk⟩)
  · exact hV
theorem vo_star {A : Al} (hV : Va A) (w k : Int32) : Va (oStar A w k).2 := by
  unfold oStar
  split
  · rename_i h
    obtain ⟨k, hk0, hk, rfl⟩ := inB_nat h.2 (by decide) (by decide)
    exact va_setF hV (by rw [nI_clamp (n := k) (by omega)]; exact Or.inr ⟨rfl, hk0, hk⟩)
  · exact hV
theorem vo_drop {A : Al} (hV : Va A) (w : Int32) : Va (oDrop A w).2 := by
  unfold oDrop
  split
  · rename_i h
    obtain ⟨k, hk, rfl⟩ := isB_nat h (by have := hV.2.2.1; omega)
    exact va_delW hV (by rw [nI_clamp (n := k) (by have := hV.2.2.1; omega)]; exact hk)
  · exact hV
theorem vo_clean {A : Al} (hV : Va A) (v : Int32) : Va (oClean A v).2 := by
  unfold oClean
  split
  · exact (dlK_ok hV _ _ (Nat.le_refl _)).1
  · exact hV
theorem vo_seed {A : Al} (hV : Va A) (v : Int32) : Va (oSeed A v).2 := va_setZ hV
theorem vo_buy {A : Al} (hV : Va A) (n h : Int32) : Va (oBuy A n h).2 := by
  unfold oBuy
  split
  · rename_i q
    obtain ⟨k, -, hk, rfl⟩ := inB_nat q.2 (by decide) (by decide)
    split
    · exact hV
    · exact (va_buyK hV (by omega) (by rw [nI_clamp (n := k) (by omega)]; exact hk) _).1
  · exact hV
theorem vo_job {A : Al} (hV : Va A) (th n h s : Int32) : Va (oJob A th n h s).2 := by
  unfold oJob
  split
  · rename_i q
    have hT := hV.1
    obtain ⟨t, ht, rfl⟩ := isB_nat q.1 (by omega)
    obtain ⟨n, hn0, hn, rfl⟩ := inB_nat q.2.1 (by decide) (by decide)
    have q3 := q.2.2.1
    rw [pk_sub (show n ≤ 1000 by omega)] at q3
    obtain ⟨h, -, hh, rfl⟩ := inB_nat q3 (by decide) (by omega)
    obtain ⟨s, hs0, hs, rfl⟩ := inB_nat q.2.2.2 (by decide) (by decide)
    split
    · exact hV
    · split
      · exact hV
      · rename_i h1 h2
        rw [nI_clamp (n := n) (by omega)] at h2 ⊢
        rw [nI_clamp (n := t) (by omega), nI_clamp (n := h) (by omega), nI_clamp (n := s) (by omega)]
        exact va_jobK hV ht (by omega) hs0 hs n (by omega) (by omega)
  · exact hV
theorem vo_pour {A : Al} {B : Bs} (hV : Va A) (k o : Int32) : Va (oPour A B k o).2 := by
  unfold oPour
  split
  · rename_i q
    obtain ⟨o, ho, rfl, ho1, ho2⟩ := of_nat hV q.2
    split
    · exact hV
    · split
      · exact hV
      · rename_i h2
        rw [nI_clamp (n := o) (by omega)]
        exact va_prK hV ho1 ho2 _ (by omega) (fun i hi => pfx_all hi)
  · exact hV
theorem vo_text {A : Al} {P : Tp} {σ : Me} (hV : Va A) (hP : RTc σ P) : Va (oText A P).2 := by
  unfold oText
  split
  · exact hV
  · rename_i t h
    split
    · exact hV
    · rename_i h14
      exact va_addX hV (by have := hV.2.2.2.1; omega) (rdT_ok (fun k hk => (hP.2.2 k hk).2) hP.2.1 h)
