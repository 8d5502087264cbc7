
/-! ===== layouts that grow in the middle of life ===== -/
theorem ctg_csh {id j t : Nat} (h : ctg id j = some t) : (csh id).isSome = true := by
  unfold ctg at h
  split at h
  all_goals first | rfl | cases h
theorem csh_lt {id : Nat} {x : Nat × Nat} (h : csh id = some x) : id < 200 := by
  unfold csh at h
  split at h
  all_goals first | decide | cases h
theorem rsh_lt {i : Nat} {x : Nat × Nat} (h : rsh i = some x) : i < 14 := by
  unfold rsh at h
  split at h
  all_goals first | decide | cases h
theorem rtg_lt {i j t : Nat} (h : rtg i j = some t) : i = 0 ∨ i = 4 := by
  unfold rtg at h
  split at h
  all_goals first | decide | cases h
theorem RAt.lx {L L' : La} {b : Nat} {p : Nat → Prop} (h : RAt L b) (x : LX p L L') (hp : ∀ i, i < 14 → i ≠ 5 → ¬ p (b + i)) (h5 : L'.2.1 (b + 5) = L.2.1 (b + 5)) : RAt L' b := by
  refine ⟨fun i y e => ?_, fun i j t e => ?_, h.2.2⟩
  · by_cases q : i = 5
    · subst q; exact h5.trans (h.1 5 y e)
    · exact (x _ (hp i (rsh_lt e) q)).2.1.trans (h.1 i y e)
  · have := rtg_lt e
    exact ((x _ (hp i (by omega) (by omega))).2.2 j).trans (h.2.1 i j t e)
theorem RAt.ut {L : La} {b c j : Nat} {v : Option Nat} (h : RAt L b) (hc : c < b ∨ b + 4 < c) : RAt (ut L c j v) b := ⟨h.1, fun i j' t e => (ut_n (by have := rtg_lt e; omega)).trans (h.2.1 i j' t e), h.2.2⟩
theorem CAt.lx {L L' : La} {p : Nat → Prop} (h : CAt L) (x : LX p L L') (hp : ∀ d, (csh d).isSome = true → ¬ p d) (hr : ∀ i, i < 14 → i ≠ 5 → ¬ p (200 + i)) (h5 : L'.2.1 205 = L.2.1 205) : CAt L' :=
  ⟨fun id y e => (x _ (hp id (by rw [e]; rfl))).2.1.trans (h.1 id y e), fun id j t e => ((x _ (hp id (ctg_csh e))).2.2 j).trans (h.2.1 id j t e), h.2.2.lx x hr h5⟩
theorem CAt.ut {L : La} {c j : Nat} {v : Option Nat} (h : CAt L) (hc : c < 200) (hn : ctg c j = none) : CAt (ut L c j v) := by
  refine ⟨h.1, fun id j' t e => ?_, h.2.2.ut (Or.inl hc)⟩
  by_cases q : id = c ∧ j' = j
  · rw [q.1, q.2, hn] at e; cases e
  · exact (ut_n (by omega)).trans (h.2.1 id j' t e)
/-- cells that there were are as they were -/
theorem LX.old {p : Nat → Prop} {L L' : La} (x : LX p L L') {d : Nat} (h : ¬ p d) : L'.1 d = L.1 d ∧ L'.2.1 d = L.2.1 d ∧ ∀ j, L'.2.2 d j = L.2.2 d j := x d h
theorem RX'.lx {L L' : La} {σ : Me} {b : Nat} {A : Al} {p : Nat → Prop} (h : RX' L σ b A) (x : LX p L L') (hp : ∀ d y, 1000 ≤ d → L.2.1 d = some y → ¬ p d) (h5 : ∀ j, j < (aX A).length → L'.2.2 (b + 5) j = L.2.2 (b + 5) j) : RX' L' σ b A := fun i hi => by
  obtain ⟨o, q1, q2, q3, q4, q5⟩ := h i hi
  obtain ⟨t1, t2, t3, t4, t5⟩ := q4
  have x0 := x o (hp o _ q1 t1); have x1 := x (o + 1) (hp _ _ (by omega) t2); have x2 := x (o + 2) (hp _ _ (by omega) t3)
  exact ⟨o, q1, q2, (h5 i hi).trans q3, ⟨x0.2.1.trans t1, x1.2.1.trans t2, x2.2.1.trans t3, (x0.2.2 2).trans t4, (x0.2.2 3).trans t5⟩, q5⟩
theorem LT.lx {L L' : La} {b : Nat} {p : Nat → Prop} (h : LT L b) (x : LX p L L') (hp : ∀ d, L.2.1 d = some (6, 0) → ¬ p d) (h5 : ∀ j, j < 14 → L'.2.2 (b + 5) j = L.2.2 (b + 5) j) : LT L' b := fun i t hi e => by
  rw [h5 i hi] at e
  exact (x t (hp t (h i t hi e))).2.1.trans (h i t hi e)
/-- what Room.become does to a layout -/
def Bc (L : La) (b c : Nat) (T : Nat → Nat → Option Nat) : Prop := (∀ i, i < 14 → T (b + 5) i = L.2.2 (c + 5) i) ∧ ∀ d j, d ≠ b + 5 ∨ 14 ≤ j → T d j = L.2.2 d j
theorem Bc.lx {L : La} {b c : Nat} {T : Nat → Nat → Option Nat} (h : Bc L b c T) : LX (fun d => d = b + 5) L (L.1, L.2.1, T) := fun d hd => ⟨rfl, rfl, fun j => h.2 d j (Or.inl hd)⟩
theorem Bc.wl {L : La} {b c : Nat} {T : Nat → Nat → Option Nat} (h : Bc L b c T) (hW : Wl L) (hc : RAt L c) : Wl (L.1, L.2.1, T) := fun d x j t hd ht => by
  by_cases q : d = b + 5 ∧ j < 14
  · obtain ⟨rfl, hj⟩ := q
    have e : L.2.2 (c + 5) j = some t := (h.1 j hj).symm.trans ht
    exact hW _ _ _ _ (hc.1 5 _ rfl) e
  · exact hW d x j t hd ((h.2 d j (by omega)).symm.trans ht)
theorem Bc.cat {L : La} {b c : Nat} {T : Nat → Nat → Option Nat} (h : Bc L b c T) (hb : b % 20 = 0 ∧ 200 ≤ b) (hA : CAt L) : CAt (L.1, L.2.1, T) := hA.lx h.lx (fun d hd e => by
  obtain ⟨x, hx⟩ := Option.isSome_iff_exists.mp hd
  have := csh_lt hx
  have e : d = b + 5 := e
  omega) (fun i hi h5 e => by
  have e : 200 + i = b + 5 := e
  omega) rfl
theorem Bc.lt {L : La} {b c : Nat} {T : Nat → Nat → Option Nat} (h : Bc L b c T) (hc : LT L c) : LT (L.1, L.2.1, T) b := fun i t hi e => hc i t hi ((h.1 i hi).symm.trans e)
theorem Bc.lt2 {L : La} {b c d : Nat} {T : Nat → Nat → Option Nat} (h : Bc L b c T) (hd : d ≠ b) (hc : LT L d) : LT (L.1, L.2.1, T) d := fun i t hi e => hc i t hi ((h.2 (d + 5) i (Or.inl (by omega))).symm.trans e)
theorem Bc.rat {L : La} {b c d : Nat} {T : Nat → Nat → Option Nat} (h : Bc L b c T) (hd : d = b ∨ d + 20 ≤ b ∨ b + 20 ≤ d) (hc : RAt L d) : RAt (L.1, L.2.1, T) d := hc.lx h.lx (fun i hi h5 e => by
  have e : d + i = b + 5 := e
  omega) rfl
/-- behind keep -/
def KpP (L : La) (σ : Me) (A : Al) (L' : La) (σ' : Me) : Prop := CAt L' ∧ Wl L' ∧ LX (fun d => d = 100 ∨ pRm 220 d) L L' ∧ L'.1 100 = L.1 100 ∧ L'.2.2 100 8 = some 220 ∧ L'.2.2 100 9 = L.2.2 100 9 ∧ RAt L' 220 ∧ RC L' σ' 220 A ∧ LT L' 220 ∧ ∀ d i, ¬ pRm 220 d → σ' d i = σ d i
/-- behind back -/
def BkP (L : La) (σ : Me) (A : Al) (L' : La) (σ' : Me) : Prop := CAt L' ∧ Wl L' ∧ LX (fun d => d = 205) L L' ∧ L'.1 = L.1 ∧ L'.2.1 = L.2.1 ∧ RC L' σ' 200 A ∧ LT L' 200 ∧ ∀ d i, ¬ pRm 200 d → σ' d i = σ d i
theorem R0.lay {σ τ : Me} {b : Nat} {A : Al} (h : R0 σ b A) (e : ∀ c i, b ≤ c → c ≤ b + 13 → τ c i = σ c i) : R0 τ b A := h.kept (fun c i hc => e c i (by omega) (by omega))
theorem RW.lay {σ τ : Me} {b : Nat} {A : Al} (h : RW σ b A) (e : ∀ c i, b ≤ c → c ≤ b + 13 → τ c i = σ c i) : RW τ b A := h.kept (fun c i hc => e c i (by omega) (by omega))
theorem CAt.nw {L L' : La} {e k n : Nat} (h : CAt L) (q : Nw L L' e k n) (he : csh e = none) (h2 : e < 200 ∨ 213 < e) : CAt L' := h.lx (p := fun d => d = e) (fun d hd => q.1 d hd) (fun d hd z => by
  have z : d = e := z
  rw [z, he] at hd; cases hd) (fun i hi _ z => by
  have z : 200 + i = e := z
  omega) (q.1 205 (by omega)).2.1
theorem CAt.room {L L' : La} {σ σ' : Me} {b : Nat} (h : CAt L) (q : NwR L σ b L' σ') (hb : 220 ≤ b) : CAt L' := h.lx q.1 (fun d hd z => by
  obtain ⟨x, hx⟩ := Option.isSome_iff_exists.mp hd
  have := csh_lt hx
  unfold pRm at z
  omega) (fun i hi _ z => by
  unfold pRm at z
  omega) (q.1 205 (by unfold pRm; omega)).2.1
theorem RAt.nw {L L' : La} {b e k n : Nat} (h : RAt L b) (q : Nw L L' e k n) (h2 : e < b ∨ b + 13 < e) : RAt L' b := h.lx (p := fun d => d = e) (fun d hd => q.1 d hd) (fun i hi _ z => by
  have z : b + i = e := z
  omega) (q.1 (b + 5) (by omega)).2.1
theorem RAt.room {L L' : La} {σ σ' : Me} {b c : Nat} (h : RAt L c) (q : NwR L σ b L' σ') (hb : c + 20 ≤ b ∨ b + 20 ≤ c) : RAt L' c := h.lx q.1 (fun i hi _ z => by
  unfold pRm at z
  omega) (q.1 (c + 5) (by unfold pRm; omega)).2.1
theorem LT.rm {L L' : La} {b c : Nat} (h : LT L c) (hA : CAt L) (x : LX (fun d => d = 100 ∨ pRm b d) L L') (hfr : ∀ i, i < 14 → L.2.1 (b + i) = none) (hc : 200 ≤ c ∧ (c + 20 ≤ b ∨ b + 20 ≤ c)) : LT L' c := h.lx x (fun d e hp => by
  rcases hp with rfl | hp
  · rw [hA.1 100 _ rfl] at e; cases e
  · unfold pRm at hp
    have := hfr (d - b) (by omega)
    rw [show b + (d - b) = d by omega] at this
    rw [this] at e; cases e) (fun j _ => (x (c + 5) (by
  intro z
  have z : c + 5 = 100 ∨ pRm b (c + 5) := z
  unfold pRm at z
  omega)).2.2 j)
