
/-! ===== all cells that there are ===== -/
def Fx (L : La) (S : List (Nat × Nat × Nat)) (T : List (Nat × Nat × Option Nat)) : Prop := Wl L ∧ (∀ q ∈ S, L.2.1 q.1 = some q.2) ∧ (∀ q ∈ T, L.2.2 q.1 q.2.1 = q.2.2) ∧ ∀ d, (S.all fun q => q.1 != d) = true → L.2.1 d = none
theorem Fx.s {L : La} {S : List (Nat × Nat × Nat)} {T : List (Nat × Nat × Option Nat)} (h : Fx L S T) (e k n : Nat) (m : (e, k, n) ∈ S) : L.2.1 e = some (k, n) := h.2.1 _ m
theorem Fx.t {L : La} {S : List (Nat × Nat × Nat)} {T : List (Nat × Nat × Option Nat)} (h : Fx L S T) (e j t : Nat) (m : (e, j, some t) ∈ T) : L.2.2 e j = some t := h.2.2.1 _ m
theorem Fx.n {L : La} {S : List (Nat × Nat × Nat)} {T : List (Nat × Nat × Option Nat)} (h : Fx L S T) (e j : Nat) (m : (e, j, none) ∈ T) : L.2.2 e j = none := h.2.2.1 _ m
theorem Fx.f {L : La} {S : List (Nat × Nat × Nat)} {T : List (Nat × Nat × Option Nat)} (h : Fx L S T) (d : Nat) (m : (S.all fun q => q.1 != d) = true) : L.2.1 d = none := h.2.2.2 d m
theorem all_ne {S : List (Nat × Nat × Nat)} {e : Nat} (h : (S.all fun q => q.1 != e) = true) : ∀ q ∈ S, q.1 ≠ e := fun q hq => by
  have := List.all_eq_true.mp h q hq
  simpa using this
theorem all_neT {T : List (Nat × Nat × Option Nat)} {e : Nat} (h : (T.all fun q => q.1 != e) = true) : ∀ q ∈ T, q.1 ≠ e := fun q hq => by
  have := List.all_eq_true.mp h q hq
  simpa using this
/-- cells in p change; what is told of them comes anew -/
theorem Fx.lx {L L' : La} {S S2 : List (Nat × Nat × Nat)} {T T2 : List (Nat × Nat × Option Nat)} {p : Nat → Prop} (h : Fx L S T) (x : LX p L L') (hW : Wl L') (hS : ∀ q ∈ S2, (q ∈ S ∧ ¬ p q.1) ∨ L'.2.1 q.1 = some q.2) (hT : ∀ q ∈ T2, (q ∈ T ∧ ¬ p q.1) ∨ L'.2.2 q.1 q.2.1 = q.2.2) (hn : ∀ d, (S2.all fun q => q.1 != d) = true → (S.all fun q => q.1 != d) = true ∧ ¬ p d) : Fx L' S2 T2 :=
  ⟨hW, fun q hq => (hS q hq).elim (fun z => (x _ z.2).2.1.trans (h.2.1 q z.1)) id, fun q hq => (hT q hq).elim (fun z => ((x _ z.2).2.2 _).trans (h.2.2.1 q z.1)) id, fun d hd => (x d (hn d hd).2).2.1.trans (h.2.2.2 d (hn d hd).1)⟩
theorem Fx.nw {L L' : La} {S : List (Nat × Nat × Nat)} {T : List (Nat × Nat × Option Nat)} {e k n : Nat} (h : Fx L S T) (q : Nw L L' e k n) (hs : (S.all fun q => q.1 != e) = true) (ht : (T.all fun q => q.1 != e) = true) : Fx L' ((e, k, n) :: S) T := by
  refine h.lx (p := fun d => d = e) (fun d hd => q.1 d hd) (h.1.nw (h.2.2.2 e hs) q) (fun z hz => ?_) (fun z hz => Or.inl ⟨hz, all_neT ht z hz⟩) (fun d hd => ?_)
  · rcases List.mem_cons.mp hz with rfl | hz
    · exact Or.inr q.2.1
    · exact Or.inl ⟨hz, all_ne hs z hz⟩
  · rw [List.all_cons, Bool.and_eq_true] at hd
    refine ⟨hd.2, fun e1 => ?_⟩
    have := hd.1
    simp at this
    exact this e1.symm
theorem Fx.ut {L : La} {S : List (Nat × Nat × Nat)} {T : List (Nat × Nat × Option Nat)} {c j : Nat} {v : Option Nat} (h : Fx L S T) (hv : ∀ t, v = some t → ∃ y, L.2.1 t = some y) (ht : (T.all fun q => q.1 != c || q.2.1 != j) = true) : Fx (ut L c j v) S ((c, j, v) :: T) := by
  refine ⟨h.1.ut hv, h.2.1, fun q hq => ?_, h.2.2.2⟩
  rcases List.mem_cons.mp hq with rfl | hq
  · exact ut_s
  · have := List.all_eq_true.mp ht q hq
    simp at this
    exact (ut_n (by omega)).trans (h.2.2.1 q hq)
theorem Fx.obj {L L' : La} {σ σ' : Me} {S : List (Nat × Nat × Nat)} {T : List (Nat × Nat × Option Nat)} {e j k0 n0 k n : Nat} {p : Me → Prop} (h : Fx L ((e, k0, n0) :: S) T) (q : NwO L σ e j k n p L' σ') (hs : (S.all fun q => q.1 != e) = true ∧ (S.all fun q => q.1 != e + 1) = true) (ht : (T.all fun q => q.1 != e) = true ∧ (T.all fun q => q.1 != e + 1) = true) : Fx L' ((e + 1, k, n) :: (e, k0, n0) :: S) ((e, j, some (e + 1)) :: T) := by
  refine h.lx q.1 q.2.2.2.2.2.1 (fun z hz => ?_) (fun z hz => ?_) (fun d hd => ?_)
  · rcases List.mem_cons.mp hz with rfl | hz
    · exact Or.inr q.2.2.2.1
    · rcases List.mem_cons.mp hz with rfl | hz
      · exact Or.inr (q.2.2.1.trans (h.2.1 _ List.mem_cons_self))
      · refine Or.inl ⟨List.mem_cons_of_mem _ hz, fun hp => ?_⟩
        have := all_ne hs.1 z hz; have := all_ne hs.2 z hz
        unfold pOb at hp; omega
  · rcases List.mem_cons.mp hz with rfl | hz
    · exact Or.inr q.2.2.2.2.1
    · refine Or.inl ⟨hz, fun hp => ?_⟩
      have := all_neT ht.1 z hz; have := all_neT ht.2 z hz
      unfold pOb at hp; omega
  · rw [List.all_cons, Bool.and_eq_true] at hd
    refine ⟨hd.2, fun hp => ?_⟩
    have h1 := hd.1
    have h2 := hd.2
    rw [List.all_cons, Bool.and_eq_true] at h2
    have h2 := h2.1
    simp at h1 h2
    unfold pOb at hp; omega
theorem Fx.add {L : La} {S : List (Nat × Nat × Nat)} {T : List (Nat × Nat × Option Nat)} (h : Fx L S T) (e j : Nat) (v : Option Nat) (q : L.2.2 e j = v) : Fx L S ((e, j, v) :: T) := ⟨h.1, h.2.1, fun z hz => by
  rcases List.mem_cons.mp hz with rfl | hz
  · exact q
  · exact h.2.2.1 z hz, h.2.2.2⟩
theorem Fx.slot {L L' : La} {S : List (Nat × Nat × Nat)} {T : List (Nat × Nat × Option Nat)} {e : Nat} (h : Fx L ((e, 4, 0) :: S) T) (x : LX (pSl e) L L') (h1 : L'.2.1 e = some (4, 0)) (h2 : L'.2.2 e 4 = none) (hW : Wl L') (hs : (S.all fun q => q.1 != e) = true) (ht : (T.all fun q => q.1 != e) = true) : Fx L' ((e, 4, 0) :: S) ((e, 4, none) :: T) := by
  refine h.lx x hW (fun z hz => ?_) (fun z hz => ?_) (fun d hd => ?_)
  · rcases List.mem_cons.mp hz with rfl | hz
    · exact Or.inr h1
    · exact Or.inl ⟨List.mem_cons_of_mem _ hz, all_ne hs z hz⟩
  · rcases List.mem_cons.mp hz with rfl | hz
    · exact Or.inr h2
    · exact Or.inl ⟨hz, all_neT ht z hz⟩
  · refine ⟨hd, fun hp => ?_⟩
    rw [List.all_cons, Bool.and_eq_true] at hd
    have := hd.1
    simp at this
    exact this hp.symm
def rmS : List (Nat × Nat × Nat) := [(200, 2, 0), (201, 10, 6), (202, 10, 6), (203, 10, 12), (204, 7, 0), (205, 15, 14), (206, 10, 3), (207, 10, 6), (208, 10, 24), (209, 10, 24), (210, 10, 24), (211, 10, 24), (212, 10, 24), (213, 10, 24)]
def rmT : List (Nat × Nat × Option Nat) := [(200, 1, some 201), (200, 2, some 202), (200, 4, some 203), (200, 5, some 204), (200, 7, some 205), (200, 8, some 206), (200, 10, some 207), (200, 11, some 208), (204, 1, some 209), (204, 2, some 210), (204, 3, some 211), (204, 4, some 212), (204, 5, some 213), (205, 0, none), (205, 1, none), (205, 2, none), (205, 3, none), (205, 4, none), (205, 5, none), (205, 6, none), (205, 7, none), (205, 8, none), (205, 9, none), (205, 10, none), (205, 11, none), (205, 12, none), (205, 13, none)]
theorem Fx.room {L L' : La} {σ σ' : Me} (h : Fx L [(200, 2, 0), (100, 8, 0)] []) (q : NwR L σ 200 L' σ') : Fx L' (rmS ++ [(100, 8, 0)]) rmT := by
  refine h.lx q.1 q.2.2.2.1 (fun z hz => ?_) (fun z hz => ?_) (fun d hd => ?_)
  · rcases List.mem_append.mp hz with hz | hz
    · refine Or.inr ?_
      have hR := q.2.2.1.1
      simp only [rmS, List.mem_cons, List.not_mem_nil, or_false] at hz
      rcases hz with rfl | rfl | rfl | rfl | rfl | rfl | rfl | rfl | rfl | rfl | rfl | rfl | rfl | rfl
      · exact hR 0 _ rfl
      · exact hR 1 _ rfl
      · exact hR 2 _ rfl
      · exact hR 3 _ rfl
      · exact hR 4 _ rfl
      · exact hR 5 _ rfl
      · exact hR 6 _ rfl
      · exact hR 7 _ rfl
      · exact hR 8 _ rfl
      · exact hR 9 _ rfl
      · exact hR 10 _ rfl
      · exact hR 11 _ rfl
      · exact hR 12 _ rfl
      · exact hR 13 _ rfl
    · have : z = (100, 8, 0) := by simpa using hz
      subst this
      exact Or.inl ⟨by decide, by unfold pRm; decide⟩
  · refine Or.inr ?_
    have hR := q.2.2.1.2.1
    have hn := q.2.2.2.2.1
    simp only [rmT, List.mem_cons, List.not_mem_nil, or_false] at hz
    rcases hz with rfl | rfl | rfl | rfl | rfl | rfl | rfl | rfl | rfl | rfl | rfl | rfl | rfl | rfl | rfl | rfl | rfl | rfl | rfl | rfl | rfl | rfl | rfl | rfl | rfl | rfl | rfl
    · exact hR 0 1 1 rfl
    · exact hR 0 2 2 rfl
    · exact hR 0 4 3 rfl
    · exact hR 0 5 4 rfl
    · exact hR 0 7 5 rfl
    · exact hR 0 8 6 rfl
    · exact hR 0 10 7 rfl
    · exact hR 0 11 8 rfl
    · exact hR 4 1 9 rfl
    · exact hR 4 2 10 rfl
    · exact hR 4 3 11 rfl
    · exact hR 4 4 12 rfl
    · exact hR 4 5 13 rfl
    · exact hn 0
    · exact hn 1
    · exact hn 2
    · exact hn 3
    · exact hn 4
    · exact hn 5
    · exact hn 6
    · exact hn 7
    · exact hn 8
    · exact hn 9
    · exact hn 10
    · exact hn 11
    · exact hn 12
    · exact hn 13
  · simp only [rmS, List.cons_append, List.nil_append, List.all_cons, List.all_nil, Bool.and_eq_true, bne_iff_ne, ne_eq] at hd ⊢
    unfold pRm
    refine ⟨?_, by omega⟩
    simp only [and_true]
    omega
