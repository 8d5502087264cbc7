/-! ===== texts in the class ===== -/
def sgc (c : Nat) : Nat := match c with | 20000 => 20033 | 20001 => 20124 | 20002 => 20038 | 20003 => 20060 | 20004 => 20061 | 20005 => 20062 | 20006 => 20043 | 20007 => 20045 | 20008 => 20042 | _ => 20047
def plc (key i : Nat) : Nat := if key = 2 then (if i = 12 then 0 else if i = 22 then 1 else 2) else (if i = 18 then 0 else if i = 7 then 1 else if i = 1 then 2 else 3)
def tcd (key c : Nat) : Nat := if c < 10000 then c else if c < 20000 then 10000 + plc key (c - 10000) else sgc c
def f4 (a b c d : Int32) (p : Nat) : Int32 := match p with | 0 => a | 1 => b | 2 => c | _ => d
def TA (L : La) (o : Nat) (t : Tx) : Prop := L.2.1 o = some (6, 0) ∧ L.2.1 (o + 1) = some (10, t.2.2.length) ∧ L.2.1 (o + 2) = some (10, max 1 t.2.1) ∧ L.2.2 o 2 = some (o + 1) ∧ L.2.2 o 3 = some (o + 2)
def TC (σ : Me) (o : Nat) (t : Tx) : Prop := σ o 0 = nI t.1 ∧ σ o 1 = nI t.2.1 ∧ ∀ k, k < t.2.2.length → σ (o + 1) k = nI (tcd t.1 (t.2.2.getD k 0))
theorem plc_le (key i : Nat) : plc key i ≤ 3 := by
  unfold plc
  repeat' split
  all_goals decide
theorem sgc_in {c : Nat} (h1 : 20001 ≤ c) (h2 : c ≤ 20009) : 20034 ≤ sgc c ∧ sgc c ≤ 20124 := by
  rcases (show c = 20001 ∨ c = 20002 ∨ c = 20003 ∨ c = 20004 ∨ c = 20005 ∨ c = 20006 ∨ c = 20007 ∨ c = 20008 ∨ c = 20009 by omega) with rfl | rfl | rfl | rfl | rfl | rfl | rfl | rfl | rfl <;> decide
theorem lvs_take (code : List Nat) (k : Nat) : lvs (code.take k) ≤ lvs code := by
  unfold lvs
  exact (List.Sublist.filter _ (List.take_sublist k code)).length_le
theorem lvs_s {code : List Nat} {k : Nat} (h : k < code.length) : lvs (code.take (k + 1)) = lvs (code.take k) + if code.getD k 0 < 20000 then 1 else 0 := by
  unfold lvs
  rw [List.take_succ, List.getElem?_eq_getElem h, List.filter_append, List.length_append]
  rw [show code.getD k 0 = code[k] by simp [List.getD_eq_getElem?_getD, List.getElem?_eq_getElem h]]
  by_cases e : code[k] < 20000
  · rw [if_pos e]; simp [e]
  · rw [if_neg e]; simp [e]
theorem stk_lv (f : Nat → Int32) {code : List Nat} : ∀ k, k ≤ code.length → (stk f code k).length ≤ lvs (code.take k)
  | 0, _ => Nat.zero_le _
  | k + 1, hk => by
    have h := stk_lv f (code := code) k (by omega)
    rw [stk_s f (by omega), lvs_s (by omega)]
    generalize hc : code.getD k 0 = c at *
    generalize stk f code k = st at *
    by_cases e1 : c < 10000
    · rw [ev1_num e1, if_pos (by omega), List.length_cons]; omega
    · by_cases e2 : c < 20000
      · rw [ev1_let (by omega) e2, if_pos e2, List.length_cons]; omega
      · rw [if_neg e2]
        unfold ev1
        rw [if_neg e1, if_neg e2]
        split
        · cases st with
          | nil => simp
          | cons x r => simpa using h
        · split
          · simp at h ⊢; omega
          · exact h
theorem lvs_at (f : Nat → Int32) {t : Tx} (h : okT t) {k : Nat} (hk : k < t.2.2.length) : (stk f t.2.2 k).length ≤ t.2.1 ∧ (t.2.2.getD k 0 < 20000 → (stk f t.2.2 k).length + 1 ≤ t.2.1) := by
  have h1 := stk_lv f (code := t.2.2) k (by omega)
  have h2 := lvs_s hk
  have h3 := lvs_take t.2.2 (k + 1)
  have h4 := h.2.2.2.1
  refine ⟨by omega, fun e => ?_⟩
  rw [if_pos e] at h2
  omega
theorem neg_num {c : Nat} (h : c < 10000) : ¬ (0 ≤ nI c - nI 10000) := fun q => by
  have := Int32.le_iff_toInt_le.mp q
  rw [pk_sub_toInt (by omega) (by decide)] at this
  have h0 : (0 : Int32).toInt = 0 := by decide
  omega
theorem code_3 {t : Tx} (h : okT t) {k : Nat} (hk : k < t.2.2.length) : t.2.2.getD k 0 < 10000 ∨ (10000 ≤ t.2.2.getD k 0 ∧ t.2.2.getD k 0 < 20000) ∨ t.2.2.getD k 0 = 20000 ∨ (20001 ≤ t.2.2.getD k 0 ∧ t.2.2.getD k 0 ≤ 20009) := by
  rcases code_lt h hk with q | q <;> omega
theorem tcd_num {key c : Nat} (h : c < 10000) : tcd key c = c := by unfold tcd; rw [if_pos h]
theorem tcd_let {key c : Nat} (h : 10000 ≤ c) (h2 : c < 20000) : tcd key c = 10000 + plc key (c - 10000) := by unfold tcd; rw [if_neg (by omega), if_pos h2]
theorem tcd_sgn {key c : Nat} (h : 20000 ≤ c) : tcd key c = sgc c := by unfold tcd; rw [if_neg (by omega), if_neg (by omega)]
