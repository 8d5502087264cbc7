/-! ===== System.arraycopy of ints ===== -/
def cpM (σ : Me) (a b sp dp n : Nat) : Me := fun d j => if d = b then (if dp ≤ j ∧ j < dp + n then σ a (sp + (j - dp)) else σ b j) else σ d j
theorem cpM_o {σ : Me} {a b sp dp n c i : Nat} (h : c ≠ b) : cpM σ a b sp dp n c i = σ c i := by unfold cpM; rw [if_neg h]
theorem cpM_in {σ : Me} {a b sp dp n i : Nat} (h : dp ≤ i ∧ i < dp + n) : cpM σ a b sp dp n b i = σ a (sp + (i - dp)) := by unfold cpM; rw [if_pos rfl, if_pos h]
theorem cpM_out {σ : Me} {a b sp dp n i : Nat} (h : ¬ (dp ≤ i ∧ i < dp + n)) : cpM σ a b sp dp n b i = σ b i := by unfold cpM; rw [if_pos rfl, if_neg h]
theorem w_nat : Cond.native arraycopyName ∈ TT := inT_4 (List.mem_of_getElem? (i := 97) rfl) rfl
theorem w_sta : Cond.static arraycopyName ∈ TT := inT_4 (List.mem_of_getElem? (i := 96) rfl) rfl
theorem w_ini : Cond.initialized "java/lang/System" ∈ TT := inT_1 (List.mem_of_getElem? (i := 20) rfl) rfl
section
variable {X : Cx} {cc : ByteArray} {own nm : String} {rm : Room} {ret : Option FieldType} {L : La} {σ : Me} {mc ms : Nat} {ls : List (Nat × Value)} {pc nx tgt : Nat} {st : List Value} {off : Int}
theorem r_acopy (hX : Ok X cc own nm rm ret) {idx a b na nb sp dp n : Nat} (hd : Dc cc pc (.invokestatic idx) 3 nx) (hw : Cond.methodLink own idx arraycopyName ∈ TT) (hs0 : L.2.1 a = some (10, na)) (hs1 : L.2.1 b = some (10, nb)) (h4 : sp + n ≤ na) (h5 : dp + n ≤ nb) (hna : na < 2 ^ 31) (hnb : nb < 2 ^ 31) (hR : 1 ≤ rm.frames ∧ 8 + (nativeFrameWords "java/lang/System" "arraycopy" 5 + 11) ≤ rm.locals) (hcat : (st.map fun v => v.category).sum ≤ 8) (kk : At X L (cpM σ a b sp dp n) mc ms ls nx st) : At X L σ mc ms ls pc (.int (nI n) :: .int (nI dp) :: .ref (L.1 b) :: .int (nI sp) :: .ref (L.1 a) :: st) := by
  obtain ⟨hd, rfl⟩ := hd
  intro H locs la h1 h2 h3 hla T hT Y
  have hr := hX.2.2.2.2.2.2.2.2.1
  have e1 : (nI n).toNatClampNeg = n := nI_clamp (by omega)
  have e2 : (nI dp).toNatClampNeg = dp := nI_clamp (by omega)
  have e3 : (nI sp).toNatClampNeg = sp := nI_clamp (by omega)
  have hc0 : H[L.1 a]? = some (vp_cell ((xD X).2.2.1 10) (na, .inl (σ a))) := h1.1 a 10 na hs0
  have hc1 : H[L.1 b]? = some (vp_cell ((xD X).2.2.1 10) (nb, .inl (σ b))) := h1.1 b 10 nb hs1
  obtain ⟨-, k0, hk0, cm0, hkk0⟩ := (hX.2.2.2.2.2.1.2.1 10 (by decide) (by decide)).1 na (fun j => .int (σ a j))
  obtain ⟨-, k1, hk1, cm1, hkk1⟩ := (hX.2.2.2.2.2.1.2.1 10 (by decide) (by decide)).1 nb (fun j => .int (σ b j))
  obtain ⟨vm', Y', step⟩ := Y.arraycopy hX.1 hX.2.2.2.1 (hX.2.2.2.2.1 _ hw) (hX.2.2.2.2.1 _ w_nat) (hX.2.2.2.2.1 _ w_sta) (hX.2.2.2.2.1 _ w_ini) (src := L.1 a) (dst := L.1 b) (cs := vp_cell ((xD X).2.2.1 10) (na, .inl (σ a))) (cd := vp_cell ((xD X).2.2.1 10) (nb, .inl (σ b))) (srcPos := nI sp) (destPos := nI dp) (n := nI n) (by rw [hT]; exact hc0) (by rw [hT]; exact hc1)
    (fun _ h => by cases h) (fun _ h => by cases h) (fun h => by cases h) (fun h => by cases h) hk0 hk1 hkk0 hkk1 (by decide) (nI_pos (by omega)) (nI_pos (by omega)) (nI_pos (by omega))
    (by rw [nI_toInt (show sp < 2 ^ 31 by omega), nI_toInt (show n < 2 ^ 31 by omega)]; show ¬ _ > ((arrV ((xD X).2.2.1 10) na (fun j => .int (σ a j))).slots.size : Int); rw [arrV_size]; omega)
    (by rw [nI_toInt (show dp < 2 ^ 31 by omega), nI_toInt (show n < 2 ^ 31 by omega)]; show ¬ _ > ((arrV ((xD X).2.2.1 10) nb (fun j => .int (σ b j))).slots.size : Int); rw [arrV_size]; omega)
    (fun vm₁ _ i hi => by
      rw [e1] at hi
      have e : (vp_cell ((xD X).2.2.1 10) (na, .inl (σ a))).slots.getD ((nI sp).toNatClampNeg + i) .null = .int (σ a (sp + i)) := by
        rw [e3]
        show (arrV ((xD X).2.2.1 10) na (fun j => .int (σ a j))).slots.getD _ _ = _
        rw [Array.getD_eq_getD_getElem?, arrV_read _ _ (by omega)]
        rfl
      refine ⟨?_, ?_⟩
      · rw [e]; rfl
      · rw [e]; exact trivial)
    (g := F0 (xm X) pc la (.int (nI n) :: .int (nI dp) :: .ref (L.1 b) :: .int (nI sp) :: .ref (L.1 a) :: st)) rfl (by rw [hX.2.2.1]; exact hla.1) (rest := st) rfl (by rw [hX.2.1]; exact hd) (by rw [hr]; exact hR.1) (by rw [hr]; show 2 * 0 + _ + _ ≤ _; omega)
  have e4 : copied (vp_cell ((xD X).2.2.1 10) (na, .inl (σ a))) (vp_cell ((xD X).2.2.1 10) (nb, .inl (σ b))) (nI sp) (nI dp) (nI n) = vp_cell ((xD X).2.2.1 10) (nb, .inl (va_cpy (σ a) (σ b) sp dp n)) := by
    show (arrV ((xD X).2.2.1 10) nb (fun j => .int (σ b j))).storeRun (nI dp).toNatClampNeg ((arrV ((xD X).2.2.1 10) na (fun j => .int (σ a j))).stretch (nI sp).toNatClampNeg (nI n).toNatClampNeg) = _
    rw [e1, e2, e3]
    exact va_copied (fun z => .int z) _ _ (σ a) (σ b) h4
  rw [e4] at Y' step
  have hl : L.1 b < H.size := (Array.getElem?_eq_some_iff.mp hc1).1
  have hheap : ((T.setVm vm').setCell (L.1 b) (vp_cell ((xD X).2.2.1 10) (nb, .inl (va_cpy (σ a) (σ b) sp dp n)))).heap = H.setIfInBounds (L.1 b) (vp_cell ((xD X).2.2.1 10) (nb, .inl (va_cpy (σ a) (σ b) sp dp n))) := by rw [← hT]; rfl
  have oq : ∀ q : Nat, q ≠ L.1 b → (H.setIfInBounds (L.1 b) (vp_cell ((xD X).2.2.1 10) (nb, .inl (va_cpy (σ a) (σ b) sp dp n))))[q]? = H[q]? := fun q hq => by simp [Array.getElem?_setIfInBounds, Ne.symm hq]
  have hcb : (H.setIfInBounds (L.1 b) (vp_cell ((xD X).2.2.1 10) (nb, .inl (va_cpy (σ a) (σ b) sp dp n))))[L.1 b]? = some (vp_cell ((xD X).2.2.1 10) (nb, .inl (va_cpy (σ a) (σ b) sp dp n))) := by simp [Array.getElem?_setIfInBounds, hl]
  have hHp : Hp (xD X) L (cpM σ a b sp dp n) (H.setIfInBounds (L.1 b) (vp_cell ((xD X).2.2.1 10) (nb, .inl (va_cpy (σ a) (σ b) sp dp n)))) := by
    refine ⟨fun d kd nd hdd => ?_, h1.2.1, by simp; exact h1.2.2.1, fun q hq => ?_⟩
    · by_cases e : d = b
      · subst e
        cases hdd.symm.trans hs1
        show _ = some (arrV _ _ _)
        rw [hcb]
        show some (arrV _ _ (fun j => .int (va_cpy (σ a) (σ d) sp dp n j))) = _
        congr 2
        funext j
        unfold va_cpy cpM
        rw [if_pos rfl]
      · have hne : L.1 d ≠ L.1 b := fun q => e (h2.1 _ _ _ _ hdd hs1 q)
        exact ((h1.1 d kd nd hdd).kept (oq _ hne)).cong rfl (fun j => cpM_o e) (fun _ => rfl)
    · rw [oq q (fun e => by have := h1.2.1 b _ hs1; omega)]
      exact h1.2.2.2 q hq
  obtain ⟨t, a1, b1⟩ := kk _ _ la hHp h2 ⟨by simp; exact h3.1, fun q g1 g2 => by
      rw [oq q (fun e => g2 (by rw [e]; exact h2.2 b _ hs1))]
      exact h3.2.1 q g1 g2, fun q hq => by
      rcases List.mem_append.mp hq with h | h
      · exact h3.2.2 q h
      · obtain ⟨z, -, hz⟩ := List.mem_map.mp h
        rw [← hz]
        exact h2.2 b _ hs1⟩ hla _ hheap Y'
  exact ⟨t, step t a1, b1⟩
end
