
/-! ===== texts ===== -/
section
variable {X : Cx} {cc : ByteArray} {own nm : String} {rm : Room} {ret : Option FieldType} {L : La} {σ : Me} {mc ms : Nat} {ls : List (Nat × Value)} {pc nx tgt : Nat} {st : List Value} {off : Int} {idx : Nat} {y : MethodName} {cy : ByteArray} {ny np : Nat} {ry : Option FieldType} {rmy : Room} {As rest st0 : List Value}
/-- more room may be thought used than was -/
theorem At.more {mc' ms' : Nat} (h : At X L σ mc' ms' ls pc st) (h1 : mc ≤ mc') (h2 : ms ≤ ms') : At X L σ mc ms ls pc st := fun H locs la a b c d => by
  have w := h H locs la a b c d
  intro T hT XX
  exact w T hT { XX with same := ⟨XX.same.1, XX.same.2.1, Nat.le_trans XX.same.2.2.1 (by omega), XX.same.2.2.2.1, Nat.le_trans XX.same.2.2.2.2.1 h2, XX.same.2.2.2.2.2⟩ }
/-- a reference comes back; the layout grows -/
def PNR (p : Value → La → Me → Prop) : Po := fun v L' σ' => ∃ r, v = some r ∧ p r L' σ'
theorem PNR.mk {r : Value} {p : Value → La → Me → Prop} (h : p r L σ) : PNR p (some r) L σ := ⟨r, rfl, h⟩
theorem r_callSNR (hX : Ok X cc own nm rm ret) {q : Value → La → Me → Prop} (hM : Ct (xl X) y cy ny ry rmy (xD X) L σ As (PNR q)) (hd : Dc cc pc (.invokestatic idx) 3 nx) (hw : CB own idx y cy ny ry np ∧ Cond.static y ∈ TT) (hn : As.length = np) (hst : st0 = As.reverse ++ rest)
    (hR : rmy.frames + 1 ≤ rm.frames ∧ 8 + (ny + 11) + rmy.locals ≤ rm.locals) (hC : mc + rmy.cells ≤ rm.cells ∧ ms + rmy.slots ≤ rm.slots) (hcat : (rest.map fun v => v.category).sum ≤ 8) (kk : ∀ r L' σ', q r L' σ' → At X L' σ' (mc + rmy.cells) (ms + rmy.slots) ls nx (r :: rest)) : At X L σ mc ms ls pc st0 := by
  refine r_callS hX hM hd hw.1 hw.2 hn hst hR hC hcat ?_
  rintro v L' σ' ⟨r, rfl, h⟩
  exact kk r L' σ' h
theorem r_callVNR (hX : Ok X cc own nm rm ret) {id k n : Nat} {q : Value → La → Me → Prop} (hM : Ct (xl X) y cy ny ry rmy (xD X) L σ (.ref (L.1 id) :: As) (PNR q)) (hd : Dc cc pc (.invokevirtual idx) 3 nx) (hw : CB own idx y cy ny ry np ∧ Cond.instanceMethod y ∈ TT ∧ Cond.selects (cq k).1 y y ∈ TT ∧ k < 10) (hid : L.2.1 id = some (k, n)) (hn : As.length = np) (hst : st0 = As.reverse ++ .ref (L.1 id) :: rest)
    (hR : rmy.frames + 1 ≤ rm.frames ∧ 8 + (ny + 11) + rmy.locals ≤ rm.locals) (hC : mc + rmy.cells ≤ rm.cells ∧ ms + rmy.slots ≤ rm.slots) (hcat : (rest.map fun v => v.category).sum ≤ 8) (kk : ∀ r L' σ', q r L' σ' → At X L' σ' (mc + rmy.cells) (ms + rmy.slots) ls nx (r :: rest)) : At X L σ mc ms ls pc st0 := by
  refine r_callV hX hM hd hw.1 ⟨hw.2.1, hw.2.2.1⟩ hid hw.2.2.2 hn hst hR hC hcat ?_
  rintro v L' σ' ⟨r, rfl, h⟩
  exact kk r L' σ' h
end
