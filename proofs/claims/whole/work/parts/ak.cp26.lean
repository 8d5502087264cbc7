/-! ===== texts: a new one ===== -/
def pTx (N d : Nat) : Prop := N ≤ d ∧ d < N + 3
def NF (L : La) (N : Nat) : Prop := 1000 ≤ N ∧ N % 3 = 1 ∧ ∀ d, N ≤ d → L.2.1 d = none
theorem NF.lx {L L' : La} {N : Nat} {p : Nat → Prop} (h : NF L N) (x : LX p L L') (hp : ∀ d, N ≤ d → ¬ p d) : NF L' N := ⟨h.1, h.2.1, fun d hd => (x d (hp d hd)).2.1.trans (h.2.2 d hd)⟩
theorem NF.tx {L L' : La} {N : Nat} (h : NF L N) (x : LX (fun d => d = 205 ∨ pTx N d) L L') : NF L' (N + 3) := ⟨by have := h.1; omega, by have := h.2.1; omega, fun d hd => (x d (fun z => by unfold pTx at z; have := h.1; omega)).2.1.trans (h.2.2 d (by omega))⟩
/-- what a constructor of a text makes -/
def NwX (L : La) (σ : Me) (e key lv : Nat) (L' : La) (σ' : Me) : Prop := LX (fun d => d = e ∨ d = e + 2) L L' ∧ L'.1 e = L.1 e ∧ L'.2.1 e = some (6, 0) ∧ L'.2.1 (e + 2) = some (10, max 1 lv) ∧ L'.2.2 e 2 = some (e + 1) ∧ L'.2.2 e 3 = some (e + 2) ∧ Wl L' ∧ σ' e 0 = nI key ∧ σ' e 1 = nI lv ∧ ∀ d i, d ≠ e → d ≠ e + 2 → σ' d i = σ d i
def CpP (L : La) (σ : Me) (e o n : Nat) (r : Value) (L' : La) (σ' : Me) : Prop := r = .ref (L'.1 e) ∧ Nw L L' e 10 n ∧ (∀ k, k < n → σ' e k = σ o k) ∧ ∀ d i, d ≠ e → σ' d i = σ d i
def txR (t : Nat × List Nat × Nat) : Tx := (t.1, t.2.2, t.2.1)
def RdP (L : La) (σ : Me) (N : Nat) (q : Rd) (r : Value) (L' : La) (σ' : Me) : Prop := match q with
  | .inl f => r = .null ∧ L' = L ∧ σ' 105 5 = nI f ∧ Ex pYc σ σ'
  | .inr t => r = .ref (L'.1 N) ∧ LX (pTx N) L L' ∧ Wl L' ∧ TA L' N (txR t) ∧ TC σ' N (txR t) ∧ ∀ d i, ¬ pTx N d → pYc d i = false → σ' d i = σ d i
theorem kyO_le {P : Tp} {q : Lx} {key : Nat} (h : kyO P q = some key) (lok : Lok P q) : key ≤ 2 ∧ 4 ≤ (nxq P q).1 := by
  unfold kyO at h
  split at h
  · rename_i c; cases h; exact ⟨by decide, kyB_4 c lok⟩
  · split at h
    · rename_i c; cases h; exact ⟨by decide, kyB_4 c lok⟩
    · split at h
      · rename_i c; cases h; exact ⟨by decide, kyB_4 c lok⟩
      · cases h
theorem kyO_1 {P : Tp} {q : Lx} {key : Nat} (h : kyO P q = some key) : mkN q = 1 := by
  unfold kyO at h
  have g : ∀ i, kyB P q (txt3 i) = true → mkN q = 1 := fun i c => by
    unfold kyB at c
    simp at c
    exact c.1.1
  split at h
  · rename_i c; exact g _ c
  · split at h
    · rename_i c; exact g _ c
    · split at h
      · rename_i c; exact g _ c
      · cases h
theorem PSc.start {σ τ : Me} {P : Tp} {q : Lx} (hT : RTc σ P) (h2 : σ 105 2 = nI 0) (h3 : σ 105 3 = nI 0) (h5 : σ 105 5 = (-1)) (e : Ex pXc σ τ) (hl : RLc τ q) (key : Nat) : PSc (up τ 105 4 (nI key)) P key q [] 0 :=
  ⟨(hT.xc e).ex (fun c i hc => up_n (by omega)), ⟨(up_n (by omega)).trans hl.1, (up_n (by omega)).trans hl.2.1, (up_n (by omega)).trans hl.2.2⟩, (up_n (by omega)).trans ((e 105 5 rfl).trans h5), up_s, (up_n (by omega)).trans ((e 105 2 rfl).trans h2), (up_n (by omega)).trans ((e 105 3 rfl).trans h3), fun k hk => absurd hk (Nat.not_lt_zero k)⟩
/-- a text is added: what the room holds then -/
theorem lst_add {A : Al} {t : Tx} (y : Nat) : ∀ n, n ≤ (aX A).length → lst (addX A t) y n = lst A y n
  | 0, _ => rfl
  | n + 1, h => by
    have e : tx (addX A t) n = tx A n := by
      unfold tx
      rw [aX_addX]
      simp [List.getD_eq_getElem?_getD, List.getElem?_append_left (show n < (aX A).length by omega)]
    show (if (tx (addX A t) n).1 = y then some n else lst (addX A t) y n) = (if (tx A n).1 = y then some n else lst A y n)
    rw [e, lst_add y n (by omega)]
theorem tx_new {A : Al} {t : Tx} : tx (addX A t) (aX A).length = t := by
  unfold tx
  rw [aX_addX]
  simp [List.getD_eq_getElem?_getD]
theorem tx_old {A : Al} {t : Tx} {x : Nat} (h : x < (aX A).length) : tx (addX A t) x = tx A x := by
  unfold tx
  rw [aX_addX]
  simp [List.getD_eq_getElem?_getD, List.getElem?_append_left h]
theorem rc_addX {L L2 : La} {σ σ2 : Me} {A : Al} {t : Tx} {o : Nat} (h : RC L σ 200 A) (h14 : (aX A).length < 14) (hk : t.1 ≤ 2) (ho : 1000 ≤ o ∧ o % 3 = 1) (hTA : TA L o t) (hTC : TC σ o t) (x : L2 = ut L 205 (aX A).length (some o)) (m : σ2 = up (up σ 206 t.1 (nI (aX A).length)) 200 6 (nI ((aX A).length + 1))) : RC L2 σ2 200 (addX A t) := by
  obtain ⟨⟨a1, a2, a3, a4, a5, a6, a7, a8⟩, hW, hX⟩ := h
  have hm : ∀ c i, c ≠ 200 → c ≠ 206 → σ2 c i = σ c i := fun c i h1 h2 => by rw [m, up_n (by omega), up_n (by omega)]
  have hm0 : ∀ i, i ≠ 6 → σ2 200 i = σ 200 i := fun i h1 => by rw [m, up_n (by omega), up_n (by omega)]
  have hlen : (aX (addX A t)).length = (aX A).length + 1 := by rw [aX_addX, List.length_append]; rfl
  refine ⟨⟨(hm0 0 (by decide)).trans a1, (hm0 3 (by decide)).trans a2, ?_, (hm0 9 (by decide)).trans a4, fun t ht => (hm _ _ (by decide) (by decide)).trans (a5 t ht), fun t ht => (hm _ _ (by decide) (by decide)).trans (a6 t ht), fun t ht => (hm _ _ (by decide) (by decide)).trans (a7 t ht), fun y hy => ?_⟩, ?_, fun i hi => ?_⟩
  · rw [hlen, m]; exact up_s
  · rw [hlen]
    show σ2 206 y = oI (if (tx (addX A t) (aX A).length).1 = y then some (aX A).length else lst (addX A t) y (aX A).length)
    rw [tx_new, lst_add y _ (Nat.le_refl _), m, up_n (by omega)]
    by_cases e : t.1 = y
    · rw [if_pos e, e, up_s]; rfl
    · rw [if_neg e, up_n (by omega)]; exact a8 y hy
  · exact (hW.kept (fun c i hc => hm c i (by omega) (by omega))).al rfl rfl
  · rw [hlen] at hi
    by_cases e : i = (aX A).length
    · subst e
      refine ⟨o, ho.1, ho.2, by rw [x]; exact ut_s, ?_, ?_⟩
      · rw [tx_new, x]
        obtain ⟨t1, t2, t3, t4, t5⟩ := hTA
        exact ⟨t1, t2, t3, (ut_n (by omega)).trans t4, (ut_n (by omega)).trans t5⟩
      · rw [tx_new]
        exact hTC.kept (fun c i hc => hm c i (by omega) (by omega))
    · obtain ⟨o1, b1, b2, b3, b4, b5⟩ := hX i (by omega)
      rw [tx_old (by omega)]
      refine ⟨o1, b1, b2, by rw [x, ut_n (by omega)]; exact b3, ?_, b5.kept (fun c i hc => hm c i (by omega) (by omega))⟩
      rw [x]
      obtain ⟨t1, t2, t3, t4, t5⟩ := b4
      exact ⟨t1, t2, t3, (ut_n (by omega)).trans t4, (ut_n (by omega)).trans t5⟩
def AxP (L : La) (σ : Me) (o : Nat) (L2 : La) (σ2 : Me) : Prop := LX (fun d => d = 205) L L2 ∧ L2.1 = L.1 ∧ L2.2.1 = L.2.1 ∧ (∀ j, L2.2.2 205 j = L.2.2 205 j ∨ L2.2.2 205 j = some o) ∧ ∀ d i, d ≠ 200 → d ≠ 206 → σ2 d i = σ d i
theorem AxP.rf {L : La} {σ : Me} {o : Nat} : AxP L σ o L σ := ⟨LX.rf _ L, rfl, rfl, fun _ => Or.inl rfl, fun _ _ _ _ => rfl⟩
theorem AxP.add {L : La} {σ : Me} {o x a : Nat} {u v : Int32} : AxP L σ o (ut L 205 x (some o)) (up (up σ 206 a u) 200 6 v) := by
  refine ⟨fun d hd => ⟨rfl, rfl, fun j => ut_n (Or.inl hd)⟩, rfl, rfl, fun j => ?_, fun d i h1 h2 => by rw [up_n (by omega), up_n (by omega)]⟩
  by_cases e : j = x
  · subst e; exact Or.inr ut_s
  · exact Or.inl (ut_n (Or.inr e))
/-- what text leaves of the rest -/
def XtP (L : La) (σ : Me) (N : Nat) (L2 : La) (σ2 : Me) : Prop := CAt L2 ∧ Wl L2 ∧ LT L2 200 ∧ LX (fun d => d = 205 ∨ pTx N d) L L2 ∧ L2.2.1 205 = L.2.1 205 ∧ L2.1 205 = L.1 205 ∧ σ2 103 1 = nI 0 ∧ ∀ d i, ¬ pTx N d → d ≠ 200 → d ≠ 206 → (d ≠ 103 ∨ i ≠ 1) → pYc d i = false → σ2 d i = σ d i
theorem nx0 {P : Tp} {q : Lx} (h : Lok P q) : nxN q = 0 ↔ mkN q = 0 := by
  have hc : q.2.1 ≤ 3 := by rw [h.1.2.1]; exact cl_le P q.1
  have h0 : nxN q = 0 → q.2.1 = 0 := fun e => by
    unfold nxN at e
    split at e
    · omega
    · exact srt_inj hc (by decide) (e.trans (show 0 = srtN 0 from rfl))
  have h1 : mkN q = 0 → q.2.1 = 0 := fun e => by
    unfold mkN at e
    split at e
    · omega
    · exact e
  constructor
  · intro e
    have e := h0 e
    unfold mkN wwB
    rw [e]; rfl
  · intro e
    have e := h1 e
    unfold nxN wwB
    rw [e]; rfl
theorem csh_big {d : Nat} (h : 200 ≤ d) : csh d = none := by
  cases e : csh d with
  | none => rfl
  | some x => exact absurd (csh_lt e) (by omega)
theorem pYc_big {d i : Nat} (h : 107 ≤ d) : pYc d i = false := by unfold pYc; simp; omega
theorem RdP.y {L L1 L2 L3 : La} {σ σ0 σ2 σ3 : Me} {N key n m : Nat} {c : List Nat} (hN : NF L N) (h1 : Nw L L1 N 6 0) (h2 : CpP L1 (zr σ0 N) (N + 1) 106 m (.ref (L2.1 (N + 1))) L2 σ2) (h3 : NwX L2 σ2 N key n L3 σ3) (hx : Ex pYc σ σ0) (hm : m = c.length) (hc : ∀ k, k < c.length → σ0 106 k = nI (tcd key (c.getD k 0))) : RdP L σ N (.inr (key, c, n)) (.ref (L3.1 N)) L3 σ3 := by
  subst hm
  have hN1 := hN.1
  obtain ⟨-, n2, k2, f2⟩ := h2
  obtain ⟨x1, x2, x3, x4, x5, x6, x7, x8, x9, f3⟩ := h3
  refine ⟨rfl, fun d hd => ?_, x7, ⟨x3, ?_, x4, x5, x6⟩, ⟨x8, x9, fun k hk => ?_⟩, fun d i hd hp => ?_⟩
  · unfold pTx at hd
    have a3 := x1 d (by omega)
    have a2 := n2.1 d (by omega)
    have a1 := h1.1 d (by omega)
    exact ⟨a3.1.trans (a2.1.trans a1.1), a3.2.1.trans (a2.2.1.trans a1.2.1), fun j => (a3.2.2 j).trans ((a2.2.2 j).trans (a1.2.2 j))⟩
  · exact (x1 (N + 1) (by omega)).2.1.trans n2.2.1
  · exact (f3 _ _ (by omega) (by omega)).trans ((k2 k hk).trans ((zr_n (by omega)).trans (hc k hk)))
  · unfold pTx at hd
    exact (f3 _ _ (by omega) (by omega)).trans ((f2 _ _ (by omega)).trans ((zr_n (by omega)).trans (hx d i hp)))
theorem lvs_le (c : List Nat) : lvs c ≤ c.length := by
  unfold lvs
  first | exact List.countP_le_length | exact List.length_filter_le _ _
