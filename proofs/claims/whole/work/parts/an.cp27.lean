/-! ===== a text is taken ===== -/
theorem CAt.tx {L L' : La} {N : Nat} (h : CAt L) (x : LX (pTx N) L L') (hN : 1000 ≤ N) : CAt L' := h.lx x (fun d hd z => by
  obtain ⟨y, hy⟩ := Option.isSome_iff_exists.mp hd
  have := csh_lt hy
  unfold pTx at z
  omega) (fun i hi _ z => by unfold pTx at z; omega) (x 205 (fun z => by unfold pTx at z; omega)).2.1
theorem xt_n {L : La} {σ σ2 : Me} {N : Nat} (hA : CAt L) (hWl : Wl L) (hLT : LT L 200) (hx : Ex pYc σ σ2) : XtP L σ N L (up σ2 103 1 (nI 0)) :=
  ⟨hA, hWl, hLT, LX.rf _ L, rfl, rfl, up_s, fun d i h1 h2 h3 h4 h5 => by rw [up_n (by omega)]; exact hx d i h5⟩
theorem LT.tx {L L2 : La} {N b : Nat} (h : LT L b) (hb : b < 260) (hNF : NF L N) (x : LX (pTx N) L L2) : LT L2 b := h.lx x (fun d e hp => by
  have := hNF.2.2 d hp.1
  rw [e] at this
  cases this) (fun j _ => (x (b + 5) (fun z => by unfold pTx at z; have := hNF.1; omega)).2.2 j)
theorem RX'.tx {L L2 : La} {σ : Me} {N b : Nat} {A : Al} (h : RX' L σ b A) (hb : b < 260) (hNF : NF L N) (x : LX (pTx N) L L2) : RX' L2 σ b A := h.lx x (fun d y _ e hp => by
  have := hNF.2.2 d hp.1
  rw [e] at this
  cases this) (fun j _ => (x (b + 5) (fun z => by unfold pTx at z; have := hNF.1; omega)).2.2 j)
theorem RX'.mem {L : La} {σ τ : Me} {N b : Nat} {A : Al} (h : RX' L σ b A) (hNF : NF L N) (e : ∀ c i, 1000 ≤ c → c < N → c % 3 ≠ 0 → τ c i = σ c i) : RX' L τ b A := fun x hx => by
  obtain ⟨o, b1, b2, b3, b4, b5⟩ := h x hx
  have q : o + 1 < N := Nat.lt_of_not_le (fun z => by have := hNF.2.2 (o + 1) z; rw [b4.2.1] at this; cases this)
  exact ⟨o, b1, b2, b3, b4, b5.kept (fun c i hc => e c i (by omega) (by omega) (by omega))⟩
theorem xt_y {L L2 L3 : La} {σ σ2 σ3 : Me} {N : Nat} {r : Value} {t : Nat × List Nat × Nat} (hA : CAt L) (hNF : NF L N) (hLT : LT L 200) (hR : RdP L σ N (.inr t) r L2 σ2) (ax : AxP L2 (up σ2 103 1 (nI 0)) N L3 σ3) : XtP L σ N L3 σ3 := by
  obtain ⟨-, x, hWl2, hTA, -, fr⟩ := hR
  obtain ⟨x3, a1, a2, a3, f3⟩ := ax
  have hN1 := hNF.1
  have hA2 := hA.tx x hN1
  have hLT2 := hLT.tx (by decide) hNF x
  have hx5 := x 205 (fun z => by unfold pTx at z; omega)
  refine ⟨hA2.lx x3 (fun d hd z => ?_) (fun i hi h5 z => by omega) (by rw [a2]), fun d y j u hd hu => ?_, fun i u hi hu => ?_, fun d hd => ?_, by rw [a2]; exact hx5.2.1, by rw [a1]; exact hx5.1, (f3 103 1 (by decide) (by decide)).trans up_s, fun d i h1 h2 h3 h4 h5 => ?_⟩
  · obtain ⟨y, hy⟩ := Option.isSome_iff_exists.mp hd
    have := csh_lt hy
    omega
  · rw [a2] at hd ⊢
    by_cases e : d = 205
    · subst e
      rcases a3 j with z | z
      · rw [z] at hu; exact hWl2 _ _ _ _ hd hu
      · rw [z] at hu; cases hu; exact ⟨_, hTA.1⟩
    · rw [(x3 d e).2.2 j] at hu; exact hWl2 _ _ _ _ hd hu
  · rw [a2]
    have hu : L3.2.2 205 i = some u := hu
    rcases a3 i with z | z
    · rw [z] at hu; exact hLT2 i u hi hu
    · rw [z] at hu; cases hu; exact hTA.1
  · have y3 := x3 d (fun z => hd (Or.inl z))
    have y2 := x d (fun z => hd (Or.inr z))
    exact ⟨y3.1.trans y2.1, y3.2.1.trans y2.2.1, fun j => (y3.2.2 j).trans (y2.2.2 j)⟩
  · rw [f3 d i h2 h3, up_n (by omega)]; exact fr d i h1 h5
