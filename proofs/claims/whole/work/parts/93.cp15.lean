/-! ===== the class's reader: its state while it reads ===== -/
def nm3 : Nat → List Nat
  | 0 => [115, 104, 98]
  | 1 => [115, 104, 98, 99]
  | _ => [109, 119, 99]
/-- the class's six words: 0 .. 2 the keys, 3 .. 5 their names -/
def CW (D : Ds) (J : Nat → Nat × Nat) : Prop := (∀ i, i < 3 → SD D (txt3 i) (J i).1 (J i).2) ∧ (∀ i, i < 3 → SD D (nm3 i) (J (3 + i)).1 (J (3 + i)).2) ∧ ∀ s, D.2.2.2.2 s → vk_R RX7 31 "weigh" (J 0).1 s ∧ vk_R RX7 33 "sign" (J 1).1 s ∧ vk_R RX7 35 "show" (J 2).1 s ∧ vk_R RX7 37 "shb" (J 3).1 s ∧ vk_R RX7 39 "shbc" (J 4).1 s ∧ vk_R RX7 41 "mwc" (J 5).1 s
section
variable {X : Cx} {cc : ByteArray} {own nm : String} {rm : Room} {ret : Option FieldType} {L : La} {σ : Me} {mc ms : Nat} {ls : List (Nat × Value)} {pc nx tgt idx : Nat} {st : List Value} {off : Int}
theorem r_ldcS (hX : Ok X cc own nm rm ret) {tx : String} {q : Nat} (hZ : vk_R own idx tx q (xs X)) (hd : Dc cc pc (.ldc idx) 2 nx) (kk : At X L σ mc ms ls nx (.ref q :: st)) : At X L σ mc ms ls pc st := by
  obtain ⟨hd, rfl⟩ := hd
  intro H locs la h1 h2 h3 h4 T hT Y
  obtain ⟨t, a, b⟩ := kk H locs la h1 h2 h3 h4 T hT Y
  exact ⟨t, Y.ldcString hX.1 hX.2.2.2.1 (text := tx) (a := q) hZ.1 hZ.2 (g := F0 (xm X) pc la st) rfl (by rw [hX.2.1]; exact hd) t a, b⟩
end
def OKw (q : Lx) : Prop := ¬ (wwB q = true ∧ q.2.2.2 = true)
theorem nxN_ok {q : Lx} (h : OKw q) : nxN q = srtN q.2.1 := by unfold nxN; rw [if_neg h]
theorem nxN_le (q : Lx) : nxN q ≤ 4 := by
  unfold nxN
  split
  · exact Nat.le_refl _
  · have := srt_le q.2.1; omega
theorem ww_nx {q : Lx} (h : OKw q) : wwB q = (decide (nxN q = 2) || decide (nxN q = 3)) := by
  rw [nxN_ok h]
  unfold wwB
  rcases (show q.2.1 = 0 ∨ q.2.1 = 1 ∨ q.2.1 = 2 ∨ 3 ≤ q.2.1 by omega) with e | e | e | e
  · rw [e]; rfl
  · rw [e]; rfl
  · rw [e]; rfl
  · have : srtN q.2.1 = 1 := by unfold srtN; split <;> omega
    rw [this, decide_eq_false (p := q.2.1 = 1) (by omega), decide_eq_false (p := q.2.1 = 2) (by omega)]
    rfl
theorem nx1 {P : Tp} {q : Lx} (h : Lok P q) : nxN q = 1 ↔ q.2.1 = 3 := by
  have hc : q.2.1 ≤ 3 := by rw [h.1.2.1]; exact cl_le P q.1
  constructor
  · intro e
    unfold nxN at e
    split at e
    · omega
    · exact srt_inj hc (by decide) (e.trans rfl)
  · intro e
    have hw : OKw q := fun z => by have z := z.1; unfold wwB at z; rw [e] at z; cases z
    rw [nxN_ok hw, e]
    rfl
theorem nx2 {P : Tp} {q : Lx} (h : Lok P q) : nxN q = 2 ↔ (q.2.1 = 1 ∧ OKw q) := by
  have hc : q.2.1 ≤ 3 := by rw [h.1.2.1]; exact cl_le P q.1
  constructor
  · intro e
    unfold nxN at e
    split at e
    · omega
    · rename_i hw; exact ⟨srt_inj hc (by decide) (e.trans rfl), hw⟩
  · intro e
    rw [nxN_ok e.2, e.1]
    rfl
theorem nx3 {P : Tp} {q : Lx} (h : Lok P q) : nxN q = 3 ↔ (q.2.1 = 2 ∧ OKw q) := by
  have hc : q.2.1 ≤ 3 := by rw [h.1.2.1]; exact cl_le P q.1
  constructor
  · intro e
    unfold nxN at e
    split at e
    · omega
    · rename_i hw; exact ⟨srt_inj hc (by decide) (e.trans rfl), hw⟩
  · intro e
    rw [nxN_ok e.2, e.1]
    rfl
theorem ok3 {q : Lx} (h : q.2.1 = 3) : OKw q := fun z => by have z := z.1; unfold wwB at z; rw [h] at z; cases z
theorem mk2 {q : Lx} : mkN q = 2 ↔ (q.2.1 = 2 ∧ OKw q ∧ q.2.2.1 - q.1 ≤ 4) := by
  unfold mkN OKw
  constructor
  · intro h
    split at h
    · omega
    · rename_i hn; exact ⟨h, fun z => hn (Or.inl z), by omega⟩
  · intro h
    rw [if_neg (fun z => z.elim h.2.1 (fun z => by omega))]
    exact h.1
theorem mk1' {q : Lx} : mkN q = 1 ↔ (q.2.1 = 1 ∧ OKw q) := by
  unfold mkN OKw
  constructor
  · intro h
    split at h
    · omega
    · rename_i hn; exact ⟨h, fun z => hn (Or.inl z)⟩
  · intro h
    rw [if_neg (fun z => z.elim h.2 (fun z => by omega))]
    exact h.1
theorem sz1 {q : Lx} (h : q.2.1 = 1) : szN q = q.2.2.1 - q.1 := by unfold szN wwB; rw [h]; rfl
def PSc (σ : Me) (P : Tp) (key : Nat) (q : Lx) (C : List Nat) (n : Nat) : Prop := RTc σ P ∧ RLc σ q ∧ σ 105 5 = (-1) ∧ σ 105 4 = nI key ∧ σ 105 2 = nI C.length ∧ σ 105 3 = nI n ∧ ∀ k, k < C.length → σ 106 k = nI (tcd key (C.getD k 0))
def FLc (σ : Me) (f : Nat) : Prop := σ 105 5 = nI f ∧ ∃ m, m ≤ 96 ∧ σ 105 2 = nI m
def PQc (σ : Me) (P : Tp) (key : Nat) (C : List Nat) (n : Nat) (r : Rs) : Prop := match r with
  | .inl f => FLc σ f
  | .inr p => PSc σ P key p.1 (C ++ p.2.1) (n + p.2.2)
def pYc (c i : Nat) : Bool := decide (c = 106) || (decide (c = 105) && decide (2 ≤ i))
theorem pXc_pYc {σ τ : Me} (h : Ex pXc σ τ) : Ex pYc σ τ := h.mono (fun c i e => by
  unfold pYc at e
  unfold pXc
  simp at e ⊢
  omega)
theorem PSc.nx {σ τ : Me} {P : Tp} {key n : Nat} {q : Lx} {C : List Nat} (h : PSc σ P key q C n) (e : Ex pXc σ τ) (hl : RLc τ (nxq P q)) : PSc τ P key (nxq P q) C n := by
  obtain ⟨h1, h2, h3, h4, h5, h6, h7⟩ := h
  exact ⟨h1.xc e, hl, (e 105 5 rfl).trans h3, (e 105 4 rfl).trans h4, (e 105 2 rfl).trans h5, (e 105 3 rfl).trans h6, fun k hk => (e 106 k rfl).trans (h7 k hk)⟩
theorem PSc.put {σ : Me} {P : Tp} {key n : Nat} {q : Lx} {C : List Nat} (h : PSc σ P key q C n) (v : Nat) : PSc (up (up σ 106 C.length (nI (tcd key v))) 105 2 (nI (C.length + 1))) P key q (C ++ [v]) n := by
  obtain ⟨h1, h2, h3, h4, h5, h6, h7⟩ := h
  refine ⟨h1.ex (fun c i hc => by rw [up_n (by omega), up_n (by omega)]), ⟨?_, ?_, ?_⟩, ?_, ?_, ?_, ?_, fun k hk => ?_⟩
  · rw [up_n (by omega), up_n (by omega)]; exact h2.1
  · rw [up_n (by omega), up_n (by omega)]; exact h2.2.1
  · rw [up_n (by omega), up_n (by omega)]; exact h2.2.2
  · rw [up_n (by omega), up_n (by omega)]; exact h3
  · rw [up_n (by omega), up_n (by omega)]; exact h4
  · rw [up_s, List.length_append]; rfl
  · rw [up_n (by omega), up_n (by omega)]; exact h6
  · rw [List.length_append] at hk
    rw [up_n (by omega)]
    by_cases e : k = C.length
    · rw [e, up_s]; simp [List.getD_eq_getElem?_getD]
    · have hk2 : k < C.length := by have : [v].length = 1 := rfl; omega
      rw [up_n (by omega), h7 k hk2]
      simp [List.getD_eq_getElem?_getD, List.getElem?_append_left hk2]
theorem PSc.lv {σ : Me} {P : Tp} {key n : Nat} {q : Lx} {C : List Nat} (h : PSc σ P key q C n) (v : Nat) : PSc (up σ 105 3 (nI v)) P key q C v := by
  obtain ⟨h1, h2, h3, h4, h5, h6, h7⟩ := h
  exact ⟨h1.ex (fun c i hc => up_n (by omega)), ⟨(up_n (by omega)).trans h2.1, (up_n (by omega)).trans h2.2.1, (up_n (by omega)).trans h2.2.2⟩, (up_n (by omega)).trans h3, (up_n (by omega)).trans h4, (up_n (by omega)).trans h5, up_s, fun k hk => (up_n (by omega)).trans (h7 k hk)⟩
theorem PSc.as {σ : Me} {P : Tp} {key n m : Nat} {q : Lx} {C E : List Nat} (h : PSc σ P key q C n) (e1 : C = E) (e2 : n = m) : PSc σ P key q E m := by rw [← e1, ← e2]; exact h
theorem PSc.fl {σ : Me} {P : Tp} {key n : Nat} {q : Lx} {C : List Nat} (h : PSc σ P key q C n) (hC : C.length ≤ 96) (f : Nat) : FLc (up σ 105 5 (nI f)) f := ⟨up_s, C.length, hC, (up_n (by omega)).trans h.2.2.2.2.1⟩
def lvI (P : Tp) (q : Lx) : Int32 := if lvq P q < 5 then nI (lvq P q) else (-1)
theorem nm_ix : ∀ key, key ≤ 2 → ∀ v, v < 26 → ixI (nm3 key) (97 + v) = if ltr key v = true then nI (plc key v) else (-1) := by decide +kernel
theorem sgc_opc {v : Nat} (h : opl v < 5) (key : Nat) : tcd key (opc v) = 20000 + v := by
  have hv : v = 124 ∨ v = 38 ∨ v = 60 ∨ v = 61 ∨ v = 62 ∨ v = 43 ∨ v = 45 ∨ v = 42 ∨ v = 47 := by
    unfold opl at h
    (repeat' split at h) <;> omega
  rcases hv with rfl | rfl | rfl | rfl | rfl | rfl | rfl | rfl | rfl <;> rfl
theorem vD_all {P : Tp} {s : Nat} : ∀ j, j ≤ 4 → vD P s (j + 0) = vD P s j := fun _ _ => rfl
theorem kw_b {P : Tp} {q : Lx} (lok : Lok P q) (h : nxN q = 2) (i : Nat) : kyB P q (txt3 i) = (decide (q.2.2.1 - q.1 = (txt3 i).length) && kyL P q.1 (txt3 i) (txt3 i).length) := by
  have h1 := (nx2 lok).mp h
  unfold kyB
  rw [decide_eq_true (mk1'.mpr h1), sz1 h1.1, Bool.true_and]
  by_cases e : q.2.2.1 - q.1 = (txt3 i).length
  · rw [e]
  · rw [decide_eq_false e]; rfl
theorem kw_0 {P : Tp} {q : Lx} (lok : Lok P q) (h : ¬ nxN q = 2) : kyO P q = none := by
  have key : ∀ tx, kyB P q tx = false := fun tx => by
    unfold kyB
    rw [decide_eq_false (fun e => h ((nx2 lok).mpr (mk1'.mp e)))]
    rfl
  unfold kyO
  rw [key, key, key]
  rfl
theorem i2c_n : ∀ {v : Nat}, v < 128 → ((nI v).toUInt32 % 65536).toInt32 = nI v := fun {v} h => by
  revert h
  revert v
  decide +kernel
theorem lv_no {P : Tp} {q : Lx} (h3 : q.2.1 = 3) (h : ∀ v, (v = 38 ∨ v = 42 ∨ v = 43 ∨ v = 45 ∨ v = 47 ∨ v = 60 ∨ v = 61 ∨ v = 62 ∨ v = 124) → ¬ P.2 q.1 = v) : lvq P q = 9 := by
  unfold lvq
  rw [if_pos h3]
  have h1 := h 38 (by simp)
  have h2 := h 42 (by simp)
  have h4 := h 43 (by simp)
  have h5 := h 45 (by simp)
  have h6 := h 47 (by simp)
  have h7 := h 60 (by simp)
  have h8 := h 61 (by simp)
  have h9 := h 62 (by simp)
  have h10 := h 124 (by simp)
  unfold opl
  rw [if_neg h10, if_neg h1, if_neg (by omega), if_neg (by omega), if_neg (by omega)]
