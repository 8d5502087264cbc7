/-! ===== the class's reader: levels and pieces ===== -/
theorem lvI_y {P : Tp} {q : Lx} {lv : Nat} (hl : lv < 5) (h : lvI P q = nI lv) : lvq P q = lv ∧ q.2.1 = 3 ∧ opl (P.2 q.1) = lv := by
  unfold lvI at h
  split at h
  · rename_i h5
    have e : lvq P q = lv := (nI_eq (by omega) (by omega)).mp h
    refine ⟨e, ?_⟩
    unfold lvq at e
    split at e
    · rename_i h3; exact ⟨h3, e⟩
    · omega
  · exact absurd h (fun e => m1_ne (by omega) e)
theorem lvI_n {P : Tp} {q : Lx} {lv : Nat} (hl : lv < 5) (h : ¬ lvI P q = nI lv) : ¬ lvq P q = lv := fun e => h (by unfold lvI; rw [if_pos (by omega), e])
theorem opl_lt {v : Nat} (h : opl v < 5) : v < 128 := by
  unfold opl at h
  (repeat' split at h) <;> omega
theorem lpr_yes {sub : Lx → Rs} {P : Tp} {lv m : Nat} {q : Lx} {c : List Nat} {n : Nat} (h : lvq P q = lv) : lpr sub P lv (m + 1) q c n = cont (sub (nxq P q)) (fun q2 c2 n2 => if lv = 2 then .inr (q2, c ++ c2 ++ [opc (P.2 q.1)], n + n2) else lpr sub P lv m q2 (c ++ c2 ++ [opc (P.2 q.1)]) (n + n2)) := by rw [lpr, if_pos h]
theorem sg_no {P : Tp} {q : Lx} {v : Nat} (h : ¬ q.2.1 = 3) : sgB P q v = false := by unfold sgB; rw [decide_eq_false h]; rfl
theorem sg_y3 {P : Tp} {q : Lx} {v : Nat} (h : sgB P q v = true) : q.2.1 = 3 := by unfold sgB at h; simp at h; exact h.1
theorem sg_two {P : Tp} {q : Lx} {v w : Nat} (h : sgB P q v = true) (hv : v ≠ w) : sgB P q w = false := by
  have := sg_eq h
  unfold sgB
  rw [decide_eq_false (p := P.2 q.1 = w) (by omega), Bool.and_false]
/-- neither a number nor a name -/
def Nth (P : Tp) (key : Nat) (q : Lx) : Prop := ¬ mkN q = 2 ∧ nmB P key q = false
theorem nth_d {P : Tp} {key : Nat} {q : Lx} (h1 : ¬ mkN q = 2) (h2 : nmB P key q = false) : Nth P key q := ⟨h1, h2⟩
theorem no_mk2a {P : Tp} {q : Lx} (lok : Lok P q) (h : ¬ nxN q = 3) : ¬ mkN q = 2 := fun e => h ((nx3 lok).mpr ⟨(mk2.mp e).1, (mk2.mp e).2.1⟩)
theorem no_mk2b {q : Lx} (h : 4 < q.2.2.1 - q.1) : ¬ mkN q = 2 := fun e => by have := (mk2.mp e).2.2; omega
theorem no_nm1 {P : Tp} {key : Nat} {q : Lx} (lok : Lok P q) (h : ¬ nxN q = 2) : nmB P key q = false := by
  unfold nmB
  rw [decide_eq_false (fun e => h ((nx2 lok).mpr (mk1'.mp e)))]
  rfl
theorem no_nm2 {P : Tp} {key : Nat} {q : Lx} (lok : Lok P q) (h : nxN q = 2) (hz : ¬ q.2.2.1 - q.1 = 1) : nmB P key q = false := by
  have h1 := (nx2 lok).mp h
  unfold nmB
  rw [sz1 h1.1, decide_eq_false (p := q.2.2.1 - q.1 = 1) hz, Bool.and_false, Bool.false_and]
theorem no_nm3 {P : Tp} {key : Nat} {q : Lx} (h : ¬ ltr key (P.2 q.1 - 97) = true) : nmB P key q = false := by
  unfold nmB
  rw [show ltr key (P.2 q.1 - 97) = false by simpa using h, Bool.and_false]
theorem is_nm {P : Tp} {key : Nat} {q : Lx} (lok : Lok P q) (h : nxN q = 2) (hz : q.2.2.1 - q.1 = 1) (hl : ltr key (P.2 q.1 - 97) = true) : nmB P key q = true := by
  have h1 := (nx2 lok).mp h
  unfold nmB
  rw [decide_eq_true (mk1'.mpr h1), sz1 h1.1, decide_eq_true hz, hl]
  rfl
theorem pce_d {P : Tp} {key : Nat} {subP subE : Lx → Rs} {o nt : Nat} {q : Lx} (h : mkN q = 2) : pce P key subP subE o nt q = .inr (nxq P q, [vlN P q], 1) := by
  have h3 : ¬ q.2.1 = 3 := by have := (mk2.mp h).1; omega
  unfold pce
  rw [if_neg (by rw [sg_no h3]; decide), if_neg (by rw [sg_no h3]; decide), if_pos h]
theorem pce_n {P : Tp} {key : Nat} {subP subE : Lx → Rs} {o nt : Nat} {q : Lx} (h : nmB P key q = true) : pce P key subP subE o nt q = .inr (nxq P q, [10000 + (P.2 q.1 - 97)], 1) := by
  have h1 : q.2.1 = 1 := by unfold nmB at h; simp at h; exact (mk1'.mp h.1.1).1
  have h3 : ¬ q.2.1 = 3 := by omega
  have h2 : ¬ mkN q = 2 := fun e => by have := (mk2.mp e).1; omega
  unfold pce
  rw [if_neg (by rw [sg_no h3]; decide), if_neg (by rw [sg_no h3]; decide), if_neg h2, if_pos h]
theorem pce_b {P : Tp} {key : Nat} {subP subE : Lx → Rs} {o nt : Nat} {q : Lx} (h : sgB P q 33 = true) (hn : ¬ nt = 8) : pce P key subP subE o nt q = cont (subP (nxq P q)) (fun q2 c n => .inr (q2, c ++ [20000], n)) := by unfold pce; rw [if_pos h, if_neg hn]
theorem pce_o {P : Tp} {key : Nat} {subP subE : Lx → Rs} {o nt : Nat} {q : Lx} (h : sgB P q 40 = true) (hn : ¬ o = 8) : pce P key subP subE o nt q = cont (subE (nxq P q)) (fun q2 c n => if sgB P q2 41 = true then .inr (nxq P q2, c, n) else .inl q2.1) := by
  unfold pce
  rw [if_neg (by rw [sg_two h (by decide)]; decide), if_pos h, if_neg hn]
theorem pce_f {P : Tp} {key : Nat} {subP subE : Lx → Rs} {o nt : Nat} {q : Lx} (hN : Nth P key q) (h1 : sgB P q 33 = true → nt = 8) (h2 : sgB P q 40 = true → o = 8) : pce P key subP subE o nt q = .inl q.1 := by
  unfold pce
  split
  · rename_i e; rw [if_pos (h1 e)]
  · split
    · rename_i e; rw [if_pos (h2 e)]
    · rw [if_neg hN.1, if_neg (by rw [hN.2]; decide)]
theorem close_fin {σ : Me} {P : Tp} {key n n2 : Nat} {q2 : Lx} {C c2 : List Nat} (h : PQc σ P key (C ++ c2) (n + n2) (if sgB P q2 41 = true then .inr (nxq P q2, [], 0) else .inl q2.1)) : PQc σ P key C n (if sgB P q2 41 = true then .inr (nxq P q2, c2, n2) else .inl q2.1) := by
  by_cases e : sgB P q2 41 = true
  · rw [if_pos e] at h ⊢
    have h : PSc σ P key (nxq P q2) (C ++ c2 ++ []) (n + n2 + 0) := h
    show PSc σ P key (nxq P q2) (C ++ c2) (n + n2)
    exact h.as (List.append_nil _) rfl
  · rw [if_neg e] at h ⊢
    exact h
