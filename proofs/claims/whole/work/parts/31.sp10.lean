/-! ===== steps of the reading fields ===== -/
theorem cl_le (P : Tp) (s : Nat) : cl P s ≤ 3 := by
  unfold cl clN
  split
  · split
    · omega
    · split <;> omega
  · omega
theorem cl_in {P : Tp} {s : Nat} (h : cl P s ≠ 0) : s < P.1 := by
  unfold cl at h
  split at h
  · assumption
  · exact absurd rfl h
theorem lex_le {P : Tp} {q : Lx} (hb : ∀ k, k < P.1 → P.2 k < 256) (h : Lok P q) : mkN q ≤ 4 ∧ vlN P q < 10000 ∧ szN q ≤ P.1 := by
  obtain ⟨⟨h1, h2, h3⟩, h4, h5, h6⟩ := h
  have hc := cl_le P q.1
  refine ⟨?_, ?_, ?_⟩
  · unfold mkN
    split <;> omega
  · unfold vlN
    split
    · rename_i e
      have := hb q.1 (cl_in (by omega))
      omega
    · split
      · rename_i e1 e2
        have hs := cl_in (P := P) (s := q.1) (by omega)
        have hE : q.2.2.1 = rnn P 2 q.1 := by
          rw [h3]; unfold lxE; rw [← h2, e2]; rfl
        obtain ⟨r1, r2, r3, r4⟩ := rnn_ok P 2 (Nat.le_of_lt hs)
        have := vD_lt (P := P) (s := q.1) (q.2.2.1 - q.1) (fun i hi => r3 _ (by omega) (by omega))
        have h10 : 10 ^ (min (q.2.2.1 - q.1) 4) ≤ 10 ^ 4 := Nat.pow_le_pow_right (by decide) (Nat.min_le_right _ _)
        omega
      · split
        · have := hb q.1 (cl_in (by omega))
          omega
        · omega
  · unfold szN
    split <;> omega
theorem mk3 {q : Lx} : mkN q = 3 ↔ q.2.1 = 3 := by
  unfold mkN wwB
  constructor
  · intro h
    split at h
    · omega
    · exact h
  · intro h
    rw [if_neg (by simp [h])]
    exact h
theorem PS.nx {σ τ : Me} {P : Tp} {key o nt n : Nat} {q : Lx} {C : List Nat} (h : PS σ P key o nt q C n) (e : Ex pX σ τ) (hl : RLx τ P (nxq P q)) : PS τ P key o nt (nxq P q) C n := by
  obtain ⟨h1, h2, h3, h4, h5, h6, h7, h8, h9⟩ := h
  exact ⟨h1.ex e, hl, (e 0 26 rfl).trans h3, (e 0 28 rfl).trans h4, (e 0 29 rfl).trans h5, (e 0 30 rfl).trans h6, (e 0 31 rfl).trans h7, (e 0 32 rfl).trans h8, fun k hk => (e 10 k rfl).trans (h9 k hk)⟩
theorem RT.other {σ : Me} {P : Tp} {c i : Nat} {v : Int32} (h : RT σ P) (hc : c ≠ 4) (hi : c ≠ 0 ∨ i ≠ 5) : RT (up σ c i v) P :=
  ⟨(up_n (by omega)).trans h.1, h.2.1, fun k hk => ⟨(up_n (by omega)).trans (h.2.2 k hk).1, (h.2.2 k hk).2⟩⟩
theorem RLx.other {σ : Me} {P : Tp} {q : Lx} {c i : Nat} {v : Int32} (h : RLx σ P q) (hi : c ≠ 0 ∨ i < 20 ∨ 25 < i) : RLx (up σ c i v) P q := by
  obtain ⟨h1, h2, h3, h4, h5, h6⟩ := h
  exact ⟨(up_n (by omega)).trans h1, (up_n (by omega)).trans h2, (up_n (by omega)).trans h3, (up_n (by omega)).trans h4, (up_n (by omega)).trans h5, (up_n (by omega)).trans h6⟩
theorem PS.emit {σ : Me} {P : Tp} {key o nt n : Nat} {q : Lx} {C : List Nat} (h : PS σ P key o nt q C n) (v : Nat) : PS (up (up σ 10 C.length (nI v)) 0 31 (nI (C.length + 1))) P key o nt q (C ++ [v]) n := by
  obtain ⟨h1, h2, h3, h4, h5, h6, h7, h8, h9⟩ := h
  refine ⟨(h1.other (by omega) (by omega)).other (by omega) (by omega), (h2.other (by omega)).other (by omega), ?_, ?_, ?_, ?_, ?_, ?_, fun k hk => ?_⟩
  · rw [up_n (by omega), up_n (by omega)]; exact h3
  · rw [up_n (by omega), up_n (by omega)]; exact h4
  · rw [up_n (by omega), up_n (by omega)]; exact h5
  · rw [up_n (by omega), up_n (by omega)]; exact h6
  · rw [up_s, List.length_append]; rfl
  · rw [up_n (by omega), up_n (by omega)]; exact h8
  · rw [List.length_append] at hk
    rw [up_n (by omega)]
    by_cases e : k = C.length
    · rw [e, up_s]; simp [List.getD_eq_getElem?_getD]
    · have hk2 : k < C.length := by have : [v].length = 1 := rfl; omega
      rw [up_n (by omega), h9 k hk2]
      simp [List.getD_eq_getElem?_getD, List.getElem?_append_left hk2]
theorem PS.opn {σ : Me} {P : Tp} {key o nt n : Nat} {q : Lx} {C : List Nat} (h : PS σ P key o nt q C n) (v : Nat) : PS (up σ 0 28 (nI v)) P key v nt q C n := by
  obtain ⟨h1, h2, h3, h4, h5, h6, h7, h8, h9⟩ := h
  exact ⟨h1.other (by omega) (by omega), h2.other (by omega), (up_n (by omega)).trans h3, up_s, (up_n (by omega)).trans h5, (up_n (by omega)).trans h6, (up_n (by omega)).trans h7, (up_n (by omega)).trans h8, fun k hk => (up_n (by omega)).trans (h9 k hk)⟩
theorem PS.bng {σ : Me} {P : Tp} {key o nt n : Nat} {q : Lx} {C : List Nat} (h : PS σ P key o nt q C n) (v : Nat) : PS (up σ 0 29 (nI v)) P key o v q C n := by
  obtain ⟨h1, h2, h3, h4, h5, h6, h7, h8, h9⟩ := h
  exact ⟨h1.other (by omega) (by omega), h2.other (by omega), (up_n (by omega)).trans h3, (up_n (by omega)).trans h4, up_s, (up_n (by omega)).trans h6, (up_n (by omega)).trans h7, (up_n (by omega)).trans h8, fun k hk => (up_n (by omega)).trans (h9 k hk)⟩
theorem PS.nmd {σ : Me} {P : Tp} {key o nt n : Nat} {q : Lx} {C : List Nat} (h : PS σ P key o nt q C n) (v : Nat) : PS (up σ 0 32 (nI v)) P key o nt q C v := by
  obtain ⟨h1, h2, h3, h4, h5, h6, h7, h8, h9⟩ := h
  exact ⟨h1.other (by omega) (by omega), h2.other (by omega), (up_n (by omega)).trans h3, (up_n (by omega)).trans h4, (up_n (by omega)).trans h5, (up_n (by omega)).trans h6, (up_n (by omega)).trans h7, up_s, fun k hk => (up_n (by omega)).trans (h9 k hk)⟩
theorem mk1 {q : Lx} (h : mkN q = 1) : q.2.1 = 1 := by
  unfold mkN at h
  split at h
  · omega
  · exact h
theorem ltr_no {key v : Nat} (h97 : 97 ≤ v) (h1 : v ≠ 98) (h2 : v ≠ 99) (h3 : v ≠ 104) (h4 : v ≠ 109) (h5 : v ≠ 115) (h6 : v ≠ 119) : ltr key (v - 97) = false := by
  unfold ltr
  split
  · rw [decide_eq_false (by omega), decide_eq_false (by omega), decide_eq_false (by omega)]; rfl
  · rw [decide_eq_false (by omega), decide_eq_false (by omega), decide_eq_false (by omega), decide_eq_false (p := v - 97 = 2) (by omega), Bool.and_false]; rfl
theorem let_rng {P : Tp} {q : Lx} (h : Lok P q) (e : q.2.1 = 1) : 97 ≤ P.2 q.1 ∧ P.2 q.1 ≤ 122 := by
  have hc := h.1.2.1
  rw [e] at hc
  unfold cl clN at hc
  split at hc
  · split at hc
    · assumption
    · split at hc <;> omega
  · omega
theorem lvq_sg {P : Tp} {q : Lx} : ∀ v, sgB P q v = true → lvq P q = opl v := fun v h => by
  unfold sgB at h
  simp at h
  unfold lvq
  rw [if_pos h.1, h.2]
theorem lvq_no {P : Tp} {q : Lx} {lv : Nat} (hl : lv < 5) (h : ∀ v, opl v = lv → sgB P q v = false) : lvq P q ≠ lv := fun e => by
  unfold lvq at e
  split at e
  · rename_i h3
    have := h _ e
    unfold sgB at this
    rw [decide_eq_true h3, decide_eq_true rfl] at this
    cases this
  · omega
theorem vl_sg {P : Tp} {q : Lx} {v : Nat} (h : sgB P q v = true) : vlN P q = v := by
  unfold sgB at h
  simp at h
  unfold vlN
  rw [if_neg (by omega), if_neg (by omega), if_pos h.1, h.2]
theorem sg_eq {P : Tp} {q : Lx} {v : Nat} (h : sgB P q v = true) : P.2 q.1 = v := by
  unfold sgB at h
  simp at h
  exact h.2
theorem opl_0 {v : Nat} (h : opl v = 0) : v = 124 := by unfold opl at h; (repeat' split at h) <;> omega
theorem opl_1 {v : Nat} (h : opl v = 1) : v = 38 := by unfold opl at h; (repeat' split at h) <;> omega
theorem opl_2 {v : Nat} (h : opl v = 2) : v = 60 ∨ v = 61 ∨ v = 62 := by unfold opl at h; (repeat' split at h) <;> omega
theorem opl_3 {v : Nat} (h : opl v = 3) : v = 43 ∨ v = 45 := by unfold opl at h; (repeat' split at h) <;> omega
theorem opl_4 {v : Nat} (h : opl v = 4) : v = 42 ∨ v = 47 := by unfold opl at h; (repeat' split at h) <;> omega
theorem prs_lv {P : Tp} {key d lv o nt : Nat} {q : Lx} (h : lv < 5) : prs P key (d + 1) lv o nt q = cont (prs P key d (lv + 1) o nt q) (fun q2 c n => lpr (prs P key d (lv + 1) o nt) P lv 97 q2 c n) := by rw [prs, if_pos h]
theorem lpr_no {sub : Lx → Rs} {P : Tp} {lv m : Nat} {q : Lx} {c : List Nat} {n : Nat} (h : ¬ lvq P q = lv) : lpr sub P lv m q c n = .inr (q, c, n) := by
  cases m with
  | zero => rfl
  | succ m => rw [lpr, if_neg h]
theorem lpr_y {sub : Lx → Rs} {P : Tp} {lv m : Nat} {q : Lx} {c : List Nat} {n v : Nat} (h : sgB P q v = true) (hv : opl v = lv) : lpr sub P lv (m + 1) q c n = cont (sub (nxq P q)) (fun q2 c2 n2 => if lv = 2 then .inr (q2, c ++ c2 ++ [opc v], n + n2) else lpr sub P lv m q2 (c ++ c2 ++ [opc v]) (n + n2)) := by
  rw [lpr, if_pos (by rw [lvq_sg v h, hv]), sg_eq h]
theorem PS.as {σ : Me} {P : Tp} {key o nt n m : Nat} {q : Lx} {C E : List Nat} (h : PS σ P key o nt q C n) (e1 : C = E) (e2 : n = m) : PS σ P key o nt q E m := by rw [← e1, ← e2]; exact h

theorem prs_5 {P : Tp} {key d o nt : Nat} {q : Lx} : prs P key (d + 1) 5 o nt q = pce P key (prs P key d 5 o (nt + 1)) (prs P key d 0 (o + 1) nt) o nt q := by rw [prs, if_neg (by decide)]
theorem nm_vl {P : Tp} {key : Nat} {q : Lx} (lok : Lok P q) (h : nmB P key q = true) : vlN P q = P.2 q.1 ∧ 97 ≤ P.2 q.1 ∧ P.2 q.1 ≤ 122 ∧ mkN q = 1 := by
  unfold nmB at h
  simp at h
  have h1 := mk1 h.1.1
  have hr := let_rng lok h1
  exact ⟨by unfold vlN; rw [if_pos h1], hr.1, hr.2, h.1.1⟩
