/-! ===== a text is taken up ===== -/
theorem rm_addX {S S' : Nat → Int32} {A : Al} (hR : RM S A) (hV : Va A) {t : Tx} (h : (aX A).length < 14) (ht : t.2.2.length ≤ 92) (h0 : S' 3 = nI ((aX A).length + 1)) (hk : S' (149 + 104 * (aX A).length) = nI t.1) (hc : S' (149 + 104 * (aX A).length + 1) = nI t.2.1) (hz : S' (149 + 104 * (aX A).length + 2) = nI t.2.2.length) (hd : ∀ k, k < t.2.2.length → S' (149 + 104 * (aX A).length + 3 + k) = nI (t.2.2.getD k 0)) (e : ∀ j, j ≠ 3 → (j < 149 + 104 * (aX A).length ∨ 149 + 104 * (aX A).length + 104 ≤ j) → S' j = S j) : RM S' (addX A t) := by
  obtain ⟨h1, h2, h3, h4, h5, h6, h7, h8, h9⟩ := hR
  have hT := hV.1
  have hN := hV.2.1
  have hW := hV.2.2.1
  refine ⟨by rw [e _ (by omega) (by omega)]; exact h1, by rw [e _ (by omega) (by omega)]; exact h2, by rw [e _ (by omega) (by omega)]; exact h3, ?_, by rw [e _ (by omega) (by omega)]; exact h5, fun u hu => ?_, fun n hn => ?_, fun w f hw hf => ?_, fun x hx => ?_⟩
  · show S' 3 = nI (aX A ++ [t]).length
    rw [h0, List.length_append]; rfl
  · have hu : u < aT A := hu
    rw [e _ (by omega) (by omega), e _ (by omega) (by omega)]; exact h6 u hu
  · have hn : n < aN A := hn
    rw [e _ (by omega) (by omega)]; exact h7 n hn
  · have hw : w < aW A := hw
    rw [e _ (by omega) (by omega)]; exact h8 w f hw hf
  · have hx : x < (aX A ++ [t]).length := hx
    rw [List.length_append] at hx
    have hx : x < (aX A).length + 1 := hx
    show S' (149 + 104 * x) = nI ((aX A ++ [t]).getD x (0, 0, [])).1 ∧ S' (149 + 104 * x + 1) = nI ((aX A ++ [t]).getD x (0, 0, [])).2.1 ∧ S' (149 + 104 * x + 2) = nI ((aX A ++ [t]).getD x (0, 0, [])).2.2.length ∧ ∀ k, k < ((aX A ++ [t]).getD x (0, 0, [])).2.2.length → S' (149 + 104 * x + 3 + k) = nI (((aX A ++ [t]).getD x (0, 0, [])).2.2.getD k 0)
    by_cases q : x = (aX A).length
    · rw [q, show (aX A ++ [t]).getD (aX A).length (0, 0, []) = t by simp [List.getD_eq_getElem?_getD]]
      exact ⟨hk, hc, hz, hd⟩
    · have hx2 : x < (aX A).length := by omega
      rw [show (aX A ++ [t]).getD x (0, 0, []) = (aX A).getD x (0, 0, []) by simp [List.getD_eq_getElem?_getD, List.getElem?_append_left hx2]]
      obtain ⟨g1, g2, g3, g4⟩ := h9 x hx2
      have hl : ((aX A).getD x (0, 0, [])).2.2.length ≤ 92 := (okT_at hV hx2).2.1
      exact ⟨by rw [e _ (by omega) (by omega)]; exact g1, by rw [e _ (by omega) (by omega)]; exact g2, by rw [e _ (by omega) (by omega)]; exact g3, fun k hk => by rw [e _ (by omega) (by omega)]; exact g4 k hk⟩
def oText (A : Al) (P : Tp) : Int32 × Al := match rdT P with
  | .inl f => ((-100) - nI f, A)
  | .inr t => if (aX A).length = 14 then (-1000000003, A) else (nI (aX A).length, addX A (t.1, t.2.2, t.2.1))
theorem oText_f {A : Al} {P : Tp} {f : Nat} (h : rdT P = .inl f) : oText A P = ((-100) - nI f, A) := by unfold oText; rw [h]
theorem oText_n {A : Al} {P : Tp} {t : Nat × List Nat × Nat} (h : rdT P = .inr t) (hx : (aX A).length = 14) : oText A P = (-1000000003, A) := by unfold oText; rw [h]; exact if_pos hx
theorem oText_y {A : Al} {P : Tp} {t : Nat × List Nat × Nat} (h : rdT P = .inr t) (hx : ¬ (aX A).length = 14) : oText A P = (nI (aX A).length, addX A (t.1, t.2.2, t.2.1)) := by unfold oText; rw [h]; exact if_neg hx
def pZ (c i : Nat) : Bool := pY c i || decide (c = 1) || (decide (c = 0) && decide (i = 5))
theorem pY_pZ {σ τ : Me} (h : Ex pY σ τ) : Ex pZ σ τ := h.mono (fun c i e => by
  unfold pZ at e
  simp at e
  exact e.1.1)
