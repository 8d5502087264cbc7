/-! ===== calls of private members of nest mates: their links stand in D ===== -/
def NW : List Cond := [(.methodLinkNest RX9 9 yX3_init "FiveStars"), (.methodLinkNest RX9 18 yX0_init "FiveStars"), (.methodLinkNest RX9 25 yX6_init "FiveStars"), (.methodLinkNest RX9 65 yX4_init "FiveStars"), (.methodLinkNest RX9 66 yX5_init "FiveStars"), (.methodLinkNest RX3 30 yX8_init "FiveStars"), (.methodLinkNest RX4 34 yX9_within "FiveStars"), (.methodLinkNest RX5 30 yX4_init "FiveStars")]
def NL (D : Ds) : Prop := ∀ s, D.2.2.2.2 s → ∀ w ∈ NW, va_Nw w s
/-- the words of a call that goes by a nest's link -/
def CN (y : MethodName) (cy : ByteArray) (ny : Nat) (ry : Option FieldType) (np : Nat) : Prop := Cond.initialized y.cls ∈ TT ∧ Cond.code y cy ny ry ∈ TT ∧ y.cls ≠ "java/lang/invoke/MethodHandle" ∧ y.cls ≠ "java/lang/invoke/VarHandle" ∧ (parseMethodDescriptor y.desc).map (fun d => d.parameters.length) = some np
section
variable {X : Cx} {cc : ByteArray} {own nm : String} {rm : Room} {ret : Option FieldType} {L : La} {σ : Me} {mc ms : Nat} {ls : List (Nat × Value)} {pc nx tgt : Nat} {st : List Value} {off : Int}
theorem CN.of (hX : Ok X cc own nm rm ret) {idx : Nat} {host : String} {y : MethodName} {cy : ByteArray} {ny np : Nat} {ry : Option FieldType} {rmy : Room} (hz : va_Nw (.methodLinkNest own idx y host) (xs X)) (h : CN y cy ny ry np) (hR : rmy.frames + 1 ≤ rm.frames ∧ 8 + (ny + 11) + rmy.locals ≤ rm.locals) : va_CN (xR X) (xs X) (xa X) own idx y host cy ny ry (.code y cy ny ry :: TT) rmy rmy.cells rmy.slots np := by
  obtain ⟨h1, h2, h3, h4, h5⟩ := h
  have hts := hX.2.2.2.2.1
  exact va_cnB np hts (TT_good h2) rfl rfl rfl hz (hts _ h1) ⟨h3, h4, h5⟩ (by rw [hX.2.2.2.2.2.2.2.2.1]; exact hR)
theorem r_callSN (hX : Ok X cc own nm rm ret) {idx : Nat} {host : String} {y : MethodName} {cy : ByteArray} {ny np : Nat} {ry : Option FieldType} {rmy : Room} {post : Po} {As rest st0 : List Value} (hz : va_Nw (.methodLinkNest own idx y host) (xs X)) (hM : Ct (xl X) y cy ny ry rmy (xD X) L σ As post) (hd : Dc cc pc (.invokestatic idx) 3 nx) (hw : CN y cy ny ry np ∧ Cond.static y ∈ TT) (hn : As.length = np) (hst : st0 = As.reverse ++ rest)
    (hR : rmy.frames + 1 ≤ rm.frames ∧ 8 + (ny + 11) + rmy.locals ≤ rm.locals) (hC : mc + rmy.cells ≤ rm.cells ∧ ms + rmy.slots ≤ rm.slots) (hcat : (rest.map fun v => v.category).sum ≤ 8)
    (kk : ∀ v L' σ', post v L' σ' → At X L' σ' (mc + rmy.cells) (ms + rmy.slots) ls nx (v.toList ++ rest)) : At X L σ mc ms ls pc st0 := by
  obtain ⟨hd, rfl⟩ := hd
  intro H locs la h1 h2 h3 h4
  refine back_call hX (al := As) h2 h3 h4 (va_runSN (As := As) (rest := rest) (fix_of hX) (hM H.size) ⟨CN.of hX hz hw.1 hR, hX.2.2.2.2.1 _ hw.2, trivial⟩ ⟨Pr.blind, fun U hU hW => ⟨rfl, by rw [hU], by rw [hU]; exact h1, hX.2.2.2.2.2.1.warm hW, h2.wk (fun _ _ => trivial)⟩⟩ rfl hn h4.1 hst (lv_room hcat) hd (by rw [hX.2.2.2.2.2.2.2.2.1]; exact hC)) kk
theorem r_callSNF (hX : Ok X cc own nm rm ret) {idx fr0 lo0 : Nat} {host : String} {y : MethodName} {cy : ByteArray} {ny np : Nat} {ry : Option FieldType} {r : Int32} {As rest st0 : List Value} (hz : va_Nw (.methodLinkNest own idx y host) (xs X)) (hM : Ct (xl X) y cy ny ry { frames := fr0, cells := 0, slots := 0, locals := lo0 } (xD X) L σ As (PF L σ r)) (hd : Dc cc pc (.invokestatic idx) 3 nx) (hw : CN y cy ny ry np ∧ Cond.static y ∈ TT) (hn : As.length = np) (hst : st0 = As.reverse ++ rest)
    (hR : fr0 + 1 ≤ rm.frames ∧ 8 + (ny + 11) + lo0 ≤ rm.locals) (hC : mc ≤ rm.cells ∧ ms ≤ rm.slots) (hcat : (rest.map fun v => v.category).sum ≤ 8) (kk : At X L σ mc ms ls nx (.int r :: rest)) : At X L σ mc ms ls pc st0 := by
  refine r_callSN hX hz hM hd hw hn hst hR hC hcat ?_
  rintro v L' σ' ⟨rfl, rfl, rfl⟩
  exact kk
theorem r_callIN (hX : Ok X cc own nm rm ret) {idx b : Nat} {host : String} {y : MethodName} {cy : ByteArray} {ny np : Nat} {rmy : Room} {post : Po} {As rest st0 : List Value} (hz : va_Nw (.methodLinkNest own idx y host) (xs X)) (hM : Ct (xl X) y cy ny none rmy (xD X) L σ (.ref b :: As) post) (hd : Dc cc pc (.invokespecial idx) 3 nx) (hw : CN y cy ny none np ∧ y.name = "<init>" ∧ Cond.instanceMethod y ∈ TT) (hn : As.length = np) (hst : st0 = As.reverse ++ .ref b :: rest)
    (hR : rmy.frames + 1 ≤ rm.frames ∧ 8 + (ny + 11) + rmy.locals ≤ rm.locals) (hC : mc + rmy.cells ≤ rm.cells ∧ ms + rmy.slots ≤ rm.slots) (hcat : (rest.map fun v => v.category).sum ≤ 8)
    (kk : ∀ v L' σ', post v L' σ' → At X L' σ' (mc + rmy.cells) (ms + rmy.slots) ls nx (v.toList ++ rest)) : At X L σ mc ms ls pc st0 := by
  obtain ⟨hd, rfl⟩ := hd
  intro H locs la h1 h2 h3 h4
  refine back_call hX (al := .ref b :: As) h2 h3 h4 (va_runIN (As := As) (rest := rest) (fix_of hX) (hM H.size) ⟨CN.of hX hz hw.1 hR, hw.2.1, hX.2.2.2.2.1 _ hw.2.2⟩ ⟨Pr.blind, fun U hU hW => ⟨rfl, by rw [hU], by rw [hU]; exact h1, hX.2.2.2.2.2.1.warm hW, h2.wk (fun _ _ => trivial)⟩⟩ rfl hn h4.1 hst (lv_room hcat) hd (by rw [hX.2.2.2.2.2.2.2.2.1]; exact hC)) kk
end
theorem cn_X3_init : CN yX3_init cX3_init 1 none 0 ∧ yX3_init.name = "<init>" ∧ Cond.instanceMethod yX3_init ∈ TT := ⟨⟨(inT_1 (List.mem_of_getElem? (i := 2) rfl) rfl), (inT_1 (List.mem_of_getElem? (i := 33) rfl) rfl), by decide, by decide, by decide +kernel⟩, rfl, (inT_1 (List.mem_of_getElem? (i := 32) rfl) rfl)⟩
theorem cn_X0_init : CN yX0_init cX0_init 1 none 0 ∧ yX0_init.name = "<init>" ∧ Cond.instanceMethod yX0_init ∈ TT := ⟨⟨(inT_1 (List.mem_of_getElem? (i := 4) rfl) rfl), (inT_1 (List.mem_of_getElem? (i := 128) rfl) rfl), by decide, by decide, by decide +kernel⟩, rfl, (inT_1 (List.mem_of_getElem? (i := 127) rfl) rfl)⟩
theorem cn_X6_init : CN yX6_init cX6_init 1 none 0 ∧ yX6_init.name = "<init>" ∧ Cond.instanceMethod yX6_init ∈ TT := ⟨⟨(inT_1 (List.mem_of_getElem? (i := 5) rfl) rfl), (inT_1 (List.mem_of_getElem? (i := 138) rfl) rfl), by decide, by decide, by decide +kernel⟩, rfl, (inT_1 (List.mem_of_getElem? (i := 137) rfl) rfl)⟩
theorem cn_X4_init : CN yX4_init cX4_init 1 none 0 ∧ yX4_init.name = "<init>" ∧ Cond.instanceMethod yX4_init ∈ TT := ⟨⟨(inT_1 (List.mem_of_getElem? (i := 7) rfl) rfl), (inT_1 (List.mem_of_getElem? (i := 193) rfl) rfl), by decide, by decide, by decide +kernel⟩, rfl, (inT_1 (List.mem_of_getElem? (i := 192) rfl) rfl)⟩
theorem cn_X5_init : CN yX5_init cX5_init 1 none 0 ∧ yX5_init.name = "<init>" ∧ Cond.instanceMethod yX5_init ∈ TT := ⟨⟨(inT_1 (List.mem_of_getElem? (i := 8) rfl) rfl), (inT_1 (List.mem_of_getElem? (i := 211) rfl) rfl), by decide, by decide, by decide +kernel⟩, rfl, (inT_1 (List.mem_of_getElem? (i := 210) rfl) rfl)⟩
theorem cn_X8_init : CN yX8_init cX8_init 1 none 0 ∧ yX8_init.name = "<init>" ∧ Cond.instanceMethod yX8_init ∈ TT := ⟨⟨(inT_1 (List.mem_of_getElem? (i := 3) rfl) rfl), (inT_1 (List.mem_of_getElem? (i := 39) rfl) rfl), by decide, by decide, by decide +kernel⟩, rfl, (inT_1 (List.mem_of_getElem? (i := 38) rfl) rfl)⟩
theorem cn_X9_within : CN yX9_within cX9_within 3 (some .boolean) 3 ∧ Cond.static yX9_within ∈ TT := ⟨⟨(inT_1 (List.mem_of_getElem? (i := 1) rfl) rfl), (inT_2 (List.mem_of_getElem? (i := 31) rfl) rfl), by decide, by decide, by decide +kernel⟩, (inT_2 (List.mem_of_getElem? (i := 30) rfl) rfl)⟩
