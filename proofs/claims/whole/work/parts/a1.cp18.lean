/-! ===== a room becomes like another ===== -/
/-- void, and only targets of references change -/
def PT (L : La) (p : (Nat → Nat → Option Nat) → Me → Prop) : Po := fun v L' σ' => v = none ∧ ∃ T, L' = (L.1, L.2.1, T) ∧ p T σ'
theorem PT.mk {L : La} {σ : Me} {T : Nat → Nat → Option Nat} {p : (Nat → Nat → Option Nat) → Me → Prop} (h : p T σ) : PT L p none (L.1, L.2.1, T) σ := ⟨rfl, T, rfl, h⟩
def LT (L : La) (b : Nat) : Prop := ∀ i t, i < 14 → L.2.2 (b + 5) i = some t → L.2.1 t = some (6, 0)
def cpW (σ : Me) (b c n : Nat) : Me := cpM (cpM (cpM (cpM (cpM (up σ (b + 4) 0 (nI n)) (c + 9) (b + 9) 0 0 n) (c + 10) (b + 10) 0 0 n) (c + 11) (b + 11) 0 0 n) (c + 12) (b + 12) 0 0 n) (c + 13) (b + 13) 0 0 n
theorem cpW_o {σ : Me} {b c n d i : Nat} (h1 : d ≠ b + 4) (h2 : d < b + 9 ∨ b + 13 < d) : cpW σ b c n d i = σ d i := by
  unfold cpW
  rw [cpM_o (by omega), cpM_o (by omega), cpM_o (by omega), cpM_o (by omega), cpM_o (by omega), up_n (by omega)]
theorem cpW_rw {σ : Me} {b c : Nat} {B : Al} (h : RW σ c B) (hbc : b + 20 ≤ c ∨ c + 20 ≤ b) : RW (cpW σ b c (aW B)) b B := by
  obtain ⟨h0, h1, h2, h3, h4, h5⟩ := h
  unfold cpW
  refine ⟨?_, fun w hw => ?_, fun w hw => ?_, fun w hw => ?_, fun w hw => ?_, fun w hw => ?_⟩
  · rw [cpM_o (by omega), cpM_o (by omega), cpM_o (by omega), cpM_o (by omega), cpM_o (by omega), up_s]
  · rw [cpM_o (by omega), cpM_o (by omega), cpM_o (by omega), cpM_o (by omega), cpM_in (by omega), up_n (by omega), show 0 + (w - 0) = w by omega]; exact h1 w hw
  · rw [cpM_o (by omega), cpM_o (by omega), cpM_o (by omega), cpM_in (by omega), cpM_o (by omega), up_n (by omega), show 0 + (w - 0) = w by omega]; exact h2 w hw
  · rw [cpM_o (by omega), cpM_o (by omega), cpM_in (by omega), cpM_o (by omega), cpM_o (by omega), up_n (by omega), show 0 + (w - 0) = w by omega]; exact h3 w hw
  · rw [cpM_o (by omega), cpM_in (by omega), cpM_o (by omega), cpM_o (by omega), cpM_o (by omega), up_n (by omega), show 0 + (w - 0) = w by omega]; exact h4 w hw
  · rw [cpM_in (by omega), cpM_o (by omega), cpM_o (by omega), cpM_o (by omega), cpM_o (by omega), up_n (by omega), show 0 + (w - 0) = w by omega]; exact h5 w hw
section
variable {X : Cx} {cc : ByteArray} {own nm : String} {rm : Room} {ret : Option FieldType} {L : La} {σ : Me} {mc ms : Nat} {ls : List (Nat × Value)} {pc nx tgt : Nat} {st : List Value} {off : Int} {idx : Nat} {y : MethodName} {cy : ByteArray} {ny np : Nat} {ry : Option FieldType} {fr0 lo0 : Nat} {As rest st0 : List Value}
theorem r_callVT (hX : Ok X cc own nm rm ret) {id k n : Nat} {q : (Nat → Nat → Option Nat) → Me → Prop} (hM : Ct (xl X) y cy ny ry { frames := fr0, cells := 0, slots := 0, locals := lo0 } (xD X) L σ (.ref (L.1 id) :: As) (PT L q)) (hd : Dc cc pc (.invokevirtual idx) 3 nx) (hw : CB own idx y cy ny ry np ∧ Cond.instanceMethod y ∈ TT ∧ Cond.selects (cq k).1 y y ∈ TT ∧ k < 10) (hid : L.2.1 id = some (k, n)) (hn : As.length = np) (hst : st0 = As.reverse ++ .ref (L.1 id) :: rest)
    (hR : fr0 + 1 ≤ rm.frames ∧ 8 + (ny + 11) + lo0 ≤ rm.locals) (hC : mc ≤ rm.cells ∧ ms ≤ rm.slots) (hcat : (rest.map fun v => v.category).sum ≤ 8) (kk : ∀ T σ', q T σ' → At X (L.1, L.2.1, T) σ' mc ms ls nx rest) : At X L σ mc ms ls pc st0 := by
  refine r_callV hX hM hd hw.1 ⟨hw.2.1, hw.2.2.1⟩ hid hw.2.2.2 hn hst hR hC hcat ?_
  rintro v L' σ' ⟨rfl, T, rfl, h⟩
  exact kk T σ' h
end
/-- the memory behind Room.become, but for the words -/
def cpR (σ : Me) (b c : Nat) : Prop := True
theorem ut_s {L : La} {c i : Nat} {v : Option Nat} : (ut L c i v).2.2 c i = v := by unfold ut; simp
theorem ut_n {L : La} {c i d j : Nat} {v : Option Nat} (h : d ≠ c ∨ j ≠ i) : (ut L c i v).2.2 d j = L.2.2 d j := by
  unfold ut
  by_cases e : d = c
  · rcases h with h | h
    · exact absurd e h
    · simp [e, h]
  · simp [e]
def cpB (σ : Me) (b c : Nat) (B : Al) : Me := up (cpM (up (cpW (cpM (up (cpM (cpM (up σ (b + 0) 0 (nI (aT B))) (c + 1) (b + 1) 0 0 6) (c + 2) (b + 2) 0 0 6) (b + 0) 3 (nI (aN B))) (c + 3) (b + 3) 0 0 12) b c (aW B)) (b + 0) 6 (nI (aX B).length)) (c + 6) (b + 6) 0 0 3) (b + 0) 9 (aZ B)
theorem cpB_o {σ : Me} {b c d i : Nat} {B : Al} (h : d < b ∨ b + 13 < d) : cpB σ b c B d i = σ d i := by
  unfold cpB
  rw [up_n (by omega), cpM_o (by omega), up_n (by omega), cpW_o (by omega) (by omega), cpM_o (by omega), up_n (by omega), cpM_o (by omega), cpM_o (by omega), up_n (by omega)]
theorem cpB_ok {σ : Me} {b c : Nat} {B : Al} (h0 : R0 σ c B) (hW : RW σ c B) (hV : Va B) (hbc : b + 20 ≤ c ∨ c + 20 ≤ b) : R0 (cpB σ b c B) b B ∧ RW (cpB σ b c B) b B := by
  have hT := hV.1
  have hN := hV.2.1
  obtain ⟨g0, g1, g2, g3, g4, g5, g6, g7⟩ := h0
  unfold cpB
  refine ⟨⟨?_, ?_, ?_, up_s, fun t ht => ?_, fun t ht => ?_, fun t ht => ?_, fun y hy => ?_⟩, ?_⟩
  · rw [up_n (by omega), cpM_o (by omega), up_n (by omega), cpW_o (by omega) (by omega), cpM_o (by omega), up_n (by omega), cpM_o (by omega), cpM_o (by omega), up_s]
  · rw [up_n (by omega), cpM_o (by omega), up_n (by omega), cpW_o (by omega) (by omega), cpM_o (by omega), up_s]
  · rw [up_n (by omega), cpM_o (by omega), up_s]
  · rw [up_n (by omega), cpM_o (by omega), up_n (by omega), cpW_o (by omega) (by omega), cpM_o (by omega), up_n (by omega), cpM_o (by omega), cpM_in (by omega), up_n (by omega), show 0 + (t - 0) = t by omega]; exact g4 t ht
  · rw [up_n (by omega), cpM_o (by omega), up_n (by omega), cpW_o (by omega) (by omega), cpM_o (by omega), up_n (by omega), cpM_in (by omega), cpM_o (by omega), up_n (by omega), show 0 + (t - 0) = t by omega]; exact g5 t ht
  · rw [up_n (by omega), cpM_o (by omega), up_n (by omega), cpW_o (by omega) (by omega), cpM_in (by omega), up_n (by omega), cpM_o (by omega), cpM_o (by omega), up_n (by omega), show 0 + (t - 0) = t by omega]; exact g6 t ht
  · rw [up_n (by omega), cpM_in (by omega), up_n (by omega), cpW_o (by omega) (by omega), cpM_o (by omega), up_n (by omega), cpM_o (by omega), cpM_o (by omega), up_n (by omega), show 0 + (y - 0) = y by omega]; exact g7 y hy
  · have key : ∀ M : Me, (∀ d i, (d = c + 4 ∨ (c + 9 ≤ d ∧ d ≤ c + 13)) → M d i = σ d i) → RW (up (cpM (up (cpW M b c (aW B)) (b + 0) 6 (nI (aX B).length)) (c + 6) (b + 6) 0 0 3) (b + 0) 9 (aZ B)) b B := fun M hM => RW.kept (cpW_rw (hW.kept hM) hbc) (fun d i hd => by rw [up_n (by omega), cpM_o (by omega), up_n (by omega)])
    exact key _ (fun d i hd => by rw [cpM_o (by omega), up_n (by omega), cpM_o (by omega), cpM_o (by omega), up_n (by omega)])
/-- the texts go along -/
theorem RX'.become {L : La} {σ τ : Me} {b c : Nat} {B : Al} {T : Nat → Nat → Option Nat} (h : RX' L σ c B) (hX : (aX B).length ≤ 14) (hb : b < 260) (h1 : ∀ i, i < 14 → T (b + 5) i = L.2.2 (c + 5) i) (h2 : ∀ d j, d ≠ b + 5 → T d j = L.2.2 d j) (e : ∀ d i, d < b ∨ b + 13 < d → τ d i = σ d i) : RX' (L.1, L.2.1, T) τ b B := fun x hx => by
  obtain ⟨o, g1, g2, g3, g4, g5⟩ := h x hx
  exact ⟨o, g1, g2, by rw [show ((L.1, L.2.1, T) : La).2.2 (b + 5) x = T (b + 5) x from rfl, h1 x (by omega)]; exact g3, ⟨g4.1, g4.2.1, g4.2.2.1, by show T o 2 = _; rw [h2 o 2 (by omega)]; exact g4.2.2.2.1, by show T o 3 = _; rw [h2 o 3 (by omega)]; exact g4.2.2.2.2⟩, g5.kept (fun d i hd => e d i (by omega))⟩
