/-! ===== words taken out ===== -/
def rmM (σ : Me) (b w k : Nat) : Me := fun c j => if (b + 9 ≤ c ∧ c ≤ b + 13) ∧ w ≤ j ∧ j < w + k then σ c (j + 1) else σ c j
theorem rmM_0 (σ : Me) (b w : Nat) : rmM σ b w 0 = σ := by
  funext c j
  unfold rmM
  rw [if_neg (by omega)]
theorem rmM_s (σ : Me) (b w k : Nat) : mvM (rmM σ b w k) b (w + 1 + k) (w + k) = rmM σ b w (k + 1) := by
  funext c j
  unfold mvM rmM
  by_cases h : (b + 9 ≤ c ∧ c ≤ b + 13) ∧ j = w + k
  · rw [if_pos h, if_neg (by omega), if_pos (by omega), h.2]
    congr 1
    omega
  · rw [if_neg h]
    by_cases h2 : (b + 9 ≤ c ∧ c ≤ b + 13) ∧ w ≤ j ∧ j < w + k
    · rw [if_pos h2, if_pos (by omega)]
    · rw [if_neg h2, if_neg (by omega)]
theorem rmM_o {σ : Me} {b w k c j : Nat} (h : ¬ ((b + 9 ≤ c ∧ c ≤ b + 13) ∧ w ≤ j ∧ j < w + k)) : rmM σ b w k c j = σ c j := by unfold rmM; rw [if_neg h]
theorem rmM_wf (σ : Me) (b w k : Nat) : Wf b σ (rmM σ b w k) := fun c i h1 h2 => rmM_o (by omega)
theorem rw_delW {σ : Me} {b w : Nat} {A : Al} (hR : RW σ b A) (hw : w < aW A) : RW (up (rmM σ b w (aW A - (w + 1))) (b + 4) 0 (nI (aW A - 1))) b (delW A w) := by
  refine rw_pick (fun p => if p < w then p else p + 1) hR up_s (fun p hp => ?_) (fun c p h1 h2 hp => ?_)
  · have hp : p < aW A - 1 := hp
    refine ⟨?_, fun f _ => ?_⟩
    · show (if p < w then p else p + 1) < _
      split <;> omega
    · show (if p < w then aF A p f else aF A (p + 1) f) = aF A (if p < w then p else p + 1) f
      split <;> rfl
  · have hp : p < aW A - 1 := hp
    rw [up_n (by omega)]
    unfold rmM
    show _ = σ c (if p < w then p else p + 1)
    by_cases e : p < w
    · rw [if_pos e, if_neg (by omega)]
    · rw [if_neg e, if_pos (by omega)]
theorem kpL_s (A : Al) (v i : Nat) : kpL A v (i + 1) = kpL A v i ++ (if sgN A i < v then [i] else []) := by
  unfold kpL
  rw [List.range_succ, List.filter_append]
  congr 1
  by_cases h : sgN A i < v
  · rw [if_pos h]; simp [h]
  · rw [if_neg h]; simp [h]
theorem kpL_le (A : Al) (v i : Nat) : (kpL A v i).length ≤ i := by
  unfold kpL
  have := List.length_filter_le (fun w => decide (sgN A w < v)) (List.range i)
  rw [List.length_range] at this
  exact this
theorem kpL_y {A : Al} {v i : Nat} (h : sgN A i < v) : (kpL A v (i + 1)).length = (kpL A v i).length + 1 := by rw [kpL_s, if_pos h]; simp
theorem kpL_n {A : Al} {v i : Nat} (h : ¬ sgN A i < v) : kpL A v (i + 1) = kpL A v i := by rw [kpL_s, if_neg h, List.append_nil]
def KI (σ τ : Me) (b : Nat) (A : Al) (v i : Nat) : Prop := Wf b σ τ ∧ τ (b + 4) 0 = σ (b + 4) 0 ∧ ∀ c, b + 9 ≤ c → c ≤ b + 13 → (∀ p, p < (kpL A v i).length → τ c p = σ c ((kpL A v i).getD p 0)) ∧ ∀ j, i ≤ j → τ c j = σ c j
theorem KI.rf (σ : Me) (b : Nat) (A : Al) (v : Nat) : KI σ σ b A v 0 := ⟨Wf.rf b σ, rfl, fun c _ _ => ⟨fun p hp => absurd hp (by simp [kpL]), fun _ _ => rfl⟩⟩
theorem KI.no {σ τ : Me} {b : Nat} {A : Al} {v i : Nat} (h : KI σ τ b A v i) (hn : ¬ sgN A i < v) : KI σ τ b A v (i + 1) := by
  refine ⟨h.1, h.2.1, fun c h1 h2 => ⟨fun p hp => ?_, fun j hj => (h.2.2 c h1 h2).2 j (by omega)⟩⟩
  rw [kpL_n hn] at hp ⊢
  exact (h.2.2 c h1 h2).1 p hp
theorem KI.yes {σ τ : Me} {b : Nat} {A : Al} {v i : Nat} (h : KI σ τ b A v i) (hy : sgN A i < v) : KI σ (mvM τ b i (kpL A v i).length) b A v (i + 1) := by
  have hl := kpL_le A v i
  refine ⟨h.1.tr (mvM_wf _ _ _ _), (mvM_o (by omega)).trans h.2.1, fun c h1 h2 => ⟨fun p hp => ?_, fun j hj => ?_⟩⟩
  · rw [kpL_y hy] at hp
    rw [kpL_s, if_pos hy, List.getD_eq_getElem?_getD, List.getElem?_append]
    by_cases e : p = (kpL A v i).length
    · subst e
      rw [if_neg (by omega), mvM_t ⟨h1, h2⟩, (h.2.2 c h1 h2).2 i (Nat.le_refl _)]
      simp
    · rw [if_pos (by omega), mvM_o (by omega), (h.2.2 c h1 h2).1 p (by omega), List.getD_eq_getElem?_getD]
  · rw [mvM_o (by omega)]
    exact (h.2.2 c h1 h2).2 j (by omega)
/-- the reference takes out from the end -/
def dlL (A : Al) (v i : Nat) : List Nat := List.range (aW A - i) ++ (List.range' (aW A - i) i).filter (fun w => decide (sgN A w < v))
theorem dlL_n (A : Al) (v : Nat) : dlL A v (aW A) = kpL A v (aW A) := by
  unfold dlL kpL
  rw [Nat.sub_self, List.range_eq_range', List.range_eq_range']
  rfl
theorem dlL_len (A : Al) (v i : Nat) : (dlL A v i).length = (aW A - i) + ((List.range' (aW A - i) i).filter (fun w => decide (sgN A w < v))).length := by
  unfold dlL
  rw [List.length_append, List.length_range]
theorem dlL_s {A : Al} {v i : Nat} (hi : i < aW A) : (sgN A (aW A - 1 - i) < v → dlL A v (i + 1) = dlL A v i) ∧ (¬ sgN A (aW A - 1 - i) < v → (dlL A v (i + 1)).length + 1 = (dlL A v i).length ∧ ∀ p, (dlL A v (i + 1)).getD p 0 = if p < aW A - 1 - i then (dlL A v i).getD p 0 else (dlL A v i).getD (p + 1) 0) := by
  obtain ⟨m, hm⟩ : ∃ m, m = aW A - 1 - i := ⟨_, rfl⟩
  have e1 : aW A - (i + 1) = m := by omega
  have e2 : aW A - i = m + 1 := by omega
  rw [← hm]
  have hr : List.range' m (i + 1) = m :: List.range' (m + 1) i := rfl
  have ha : List.range (m + 1) = List.range m ++ [m] := List.range_succ
  constructor
  · intro h
    unfold dlL
    rw [e1, e2, hr, ha, List.filter_cons, if_pos (by simpa using h), List.append_assoc]
    rfl
  · intro h
    have h1 : dlL A v (i + 1) = List.range m ++ (List.range' (m + 1) i).filter (fun w => decide (sgN A w < v)) := by
      unfold dlL
      rw [e1, hr, List.filter_cons, if_neg (by simpa using h)]
    have h2 : dlL A v i = List.range (m + 1) ++ (List.range' (m + 1) i).filter (fun w => decide (sgN A w < v)) := by
      unfold dlL
      rw [e2]
    refine ⟨by rw [h1, h2, List.length_append, List.length_append, List.length_range, List.length_range]; omega, fun p => ?_⟩
    rw [h1, h2]
    simp only [List.getD_eq_getElem?_getD, List.getElem?_append, List.length_range]
    by_cases e : p < m
    · rw [if_pos e, if_pos e, if_pos (by omega), List.getElem?_range e, List.getElem?_range (by omega)]
    · rw [if_neg e, if_neg e, if_neg (by omega), show p + 1 - (m + 1) = p - m by omega]
theorem dlK_is {A : Al} (v : Nat) : ∀ i, i ≤ aW A → aW (dlK A v i) = (dlL A v i).length ∧ ∀ p, p < aW (dlK A v i) → ∀ f, aF (dlK A v i) p f = aF A ((dlL A v i).getD p 0) f
  | 0, _ => by
    have h : dlL A v 0 = List.range (aW A) := by unfold dlL; simp
    refine ⟨by rw [h, List.length_range]; rfl, fun p hp f => ?_⟩
    rw [h, List.getD_eq_getElem?_getD, List.getElem?_range (show p < aW A from hp)]
    rfl
  | i + 1, hi => by
    obtain ⟨h1, h2⟩ := dlK_is (A := A) v i (by omega)
    obtain ⟨q1, q2⟩ := dlL_s (A := A) (v := v) (i := i) (by omega)
    unfold dlK
    by_cases e : v ≤ sgN A (aW A - 1 - i)
    · rw [if_pos e]
      obtain ⟨q3, q4⟩ := q2 (by omega)
      refine ⟨by rw [aW_delW]; omega, fun p hp f => ?_⟩
      have hp : p < aW (dlK A v i) - 1 := hp
      rw [q4]
      show (if p < aW A - 1 - i then aF (dlK A v i) p f else aF (dlK A v i) (p + 1) f) = _
      by_cases z : p < aW A - 1 - i
      · rw [if_pos z, if_pos z]; exact h2 p (by omega) f
      · rw [if_neg z, if_neg z]; exact h2 (p + 1) (by omega) f
    · rw [if_neg e, q1 (by omega)]
      exact ⟨h1, h2⟩
theorem KI.fin {σ τ : Me} {b : Nat} {A : Al} {v : Nat} (hR : RW σ b A) (h : KI σ τ b A v (aW A)) : RW (up τ (b + 4) 0 (nI (kpL A v (aW A)).length)) b (dlK A v (aW A)) ∧ Wf b σ (up τ (b + 4) 0 (nI (kpL A v (aW A)).length)) ∧ aW (dlK A v (aW A)) = (kpL A v (aW A)).length := by
  obtain ⟨h1, h2⟩ := dlK_is (A := A) v (aW A) (Nat.le_refl _)
  rw [dlL_n] at h1 h2
  refine ⟨rw_pick (fun p => (kpL A v (aW A)).getD p 0) hR (by rw [up_s, h1]) (fun p hp => ⟨?_, fun f _ => h2 p hp f⟩) (fun c p hc1 hc2 hp => ?_), h.1.up (Or.inl rfl), h1⟩
  · rw [h1] at hp
    show (kpL A v (aW A)).getD p 0 < aW A
    rw [List.getD_eq_getElem?_getD, List.getElem?_eq_getElem hp]
    have := List.getElem_mem hp
    unfold kpL at this
    rw [List.mem_filter, List.mem_range] at this
    exact this.1
  · rw [up_n (by omega)]
    exact (h.2.2 c hc1 hc2).1 p (by rw [← h1]; exact hp)
