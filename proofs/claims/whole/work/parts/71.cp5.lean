/-! ===== a room with its texts ===== -/
def RX' (L : La) (σ : Me) (b : Nat) (A : Al) : Prop := ∀ x, x < (aX A).length → ∃ o, 1000 ≤ o ∧ o % 3 = 1 ∧ L.2.2 (b + 5) x = some o ∧ TA L o (tx A x) ∧ TC σ o (tx A x)
theorem TC.kept {σ τ : Me} {o : Nat} {t : Tx} (h : TC σ o t) (e : ∀ c i, (c = o ∨ c = o + 1) → τ c i = σ c i) : TC τ o t :=
  ⟨(e _ _ (Or.inl rfl)).trans h.1, (e _ _ (Or.inl rfl)).trans h.2.1, fun k hk => (e _ _ (Or.inr rfl)).trans (h.2.2 k hk)⟩
theorem TC.cs {σ τ : Me} {o : Nat} {t : Tx} (h : TC σ o t) (h1 : 1000 ≤ o) (h3 : o % 3 = 1) (e : Cs σ τ) : TC τ o t := h.kept (fun c i hc => e c i (by unfold sc; omega))
theorem RX'.kept {L : La} {σ τ : Me} {b : Nat} {A : Al} (h : RX' L σ b A) (e : ∀ c i, 1000 ≤ c → c % 3 ≠ 0 → τ c i = σ c i) : RX' L τ b A := fun x hx => by
  obtain ⟨o, h1, h2, h3, h4, h5⟩ := h x hx
  exact ⟨o, h1, h2, h3, h4, h5.kept (fun c i hc => e c i (by omega) (by omega))⟩
theorem RX'.cs {L : La} {σ τ : Me} {b : Nat} {A : Al} (h : RX' L σ b A) (e : Cs σ τ) : RX' L τ b A := h.kept (fun c i h1 h2 => e c i (by unfold sc; omega))
theorem RX'.cb {L : La} {σ τ : Me} {b d : Nat} {A : Al} (h : RX' L σ b A) (hd : d < 260) (e : Cb d σ τ) : RX' L τ b A := h.kept (fun c i h1 h2 => e c i (by unfold sc; omega) (by omega))
def RC (L : La) (σ : Me) (b : Nat) (A : Al) : Prop := R0 σ b A ∧ RW σ b A ∧ RX' L σ b A
theorem RC.cs {L L' : La} {σ τ : Me} {b : Nat} {A : Al} (h : RC L σ b A) (hC : RAt L' b) (e : Cs σ τ) : RC L τ b A := ⟨h.1.cs hC e, h.2.1.cs hC e, h.2.2.cs e⟩
/-- piles of texts alone -/
def Cp (σ τ : Me) : Prop := ∀ c i, ¬ (1000 ≤ c ∧ c % 3 = 0) → τ c i = σ c i
theorem Cp.rf (σ : Me) : Cp σ σ := fun _ _ _ => rfl
theorem Cp.tr {σ τ ρ : Me} (h : Cp σ τ) (h2 : Cp τ ρ) : Cp σ ρ := fun c i e => (h2 c i e).trans (h c i e)
theorem Cp.cs {σ τ : Me} (h : Cp σ τ) : Cs σ τ := fun c i e => h c i (fun q => e (Or.inl q))
theorem Of.cp {o : Nat} {σ τ : Me} (h : Of (o + 2) σ τ) (h1 : 1000 ≤ o) (h3 : o % 3 = 1) : Cp σ τ := fun c i hc => h c i (fun q => hc (by omega))
theorem Of.cs {o : Nat} {σ τ : Me} (h : Of (o + 2) σ τ) (h1 : 1000 ≤ o) (h3 : o % 3 = 1) : Cs σ τ := fun c i hc => h c i (fun q => hc (by unfold sc; omega))
/-- a method that answers a reference, or null -/
def PR (L : La) (σ : Me) (r : Value) : Po := fun v L' σ' => v = some r ∧ L' = L ∧ σ' = σ
theorem PR.mk {L : La} {σ : Me} {r : Value} : PR L σ r (some r) L σ := ⟨rfl, rfl, rfl⟩
section
variable {X : Cx} {cc : ByteArray} {own nm : String} {rm : Room} {ret : Option FieldType} {L : La} {σ : Me} {mc ms : Nat} {ls : List (Nat × Value)} {pc nx tgt : Nat} {st : List Value} {off : Int} {idx : Nat} {y : MethodName} {cy : ByteArray} {ny np : Nat} {ry : Option FieldType} {fr0 lo0 : Nat} {As rest st0 : List Value}
theorem r_callVR (hX : Ok X cc own nm rm ret) {id k n : Nat} {r : Value} (hM : Ct (xl X) y cy ny ry { frames := fr0, cells := 0, slots := 0, locals := lo0 } (xD X) L σ (.ref (L.1 id) :: As) (PR L σ r)) (hd : Dc cc pc (.invokevirtual idx) 3 nx) (hw : CB own idx y cy ny ry np ∧ Cond.instanceMethod y ∈ TT ∧ Cond.selects (cq k).1 y y ∈ TT ∧ k < 10) (hid : L.2.1 id = some (k, n)) (hn : As.length = np) (hst : st0 = As.reverse ++ .ref (L.1 id) :: rest)
    (hR : fr0 + 1 ≤ rm.frames ∧ 8 + (ny + 11) + lo0 ≤ rm.locals) (hC : mc ≤ rm.cells ∧ ms ≤ rm.slots) (hcat : (rest.map fun v => v.category).sum ≤ 8) (kk : At X L σ mc ms ls nx (r :: rest)) : At X L σ mc ms ls pc st0 := by
  refine r_callV hX hM hd hw.1 ⟨hw.2.1, hw.2.2.1⟩ hid hw.2.2.2 hn hst hR hC hcat ?_
  rintro v L' σ' ⟨rfl, rfl, rfl⟩
  exact kk
theorem r_callSR (hX : Ok X cc own nm rm ret) {r : Value} (hM : Ct (xl X) y cy ny ry { frames := fr0, cells := 0, slots := 0, locals := lo0 } (xD X) L σ As (PR L σ r)) (hd : Dc cc pc (.invokestatic idx) 3 nx) (hw : CB own idx y cy ny ry np ∧ Cond.static y ∈ TT) (hn : As.length = np) (hst : st0 = As.reverse ++ rest)
    (hR : fr0 + 1 ≤ rm.frames ∧ 8 + (ny + 11) + lo0 ≤ rm.locals) (hC : mc ≤ rm.cells ∧ ms ≤ rm.slots) (hcat : (rest.map fun v => v.category).sum ≤ 8) (kk : At X L σ mc ms ls nx (r :: rest)) : At X L σ mc ms ls pc st0 := by
  refine r_callS hX hM hd hw.1 hw.2 hn hst hR hC hcat ?_
  rintro v L' σ' ⟨rfl, rfl, rfl⟩
  exact kk
theorem aty_ref : ∀ k, 13 ≤ k → k < 16 → (aty k).isReference = true := fun k h1 h2 => by
  rcases (show k = 13 ∨ k = 14 ∨ k = 15 by omega) with rfl | rfl | rfl <;> rfl
theorem r_aald (hX : Ok X cc own nm rm ret) {id k n i : Nat} (hd : Dc cc pc .aaload 1 nx) (hs : L.2.1 id = some (k, n)) (hk : 13 ≤ k) (hk2 : k < 16) (hn : n < 2 ^ 31) (hi : i < n) (v : Value) (hv : va_rf ((L.2.2 id i).map L.1) = v) (kk : At X L σ mc ms ls nx (v :: st)) : At X L σ mc ms ls pc (.int (nI i) :: .ref (L.1 id) :: st) := by
  obtain ⟨hd, rfl⟩ := hd
  intro H locs la h1 h2 h3 h4
  have hc := h1.1 id k n hs
  unfold Ce at hc
  rw [if_neg (by omega), if_neg (by omega)] at hc
  have hin := vp_in_nI hi hn
  exact W.aald (v := v) hX.1 hX.2.1 hc ((hX.2.2.2.2.2.1.2.1 k (by omega) hk2).1 n _) (aty_ref k hk hk2) (fun q => by cases q) (by rw [arrV_size]; exact hin) (by rw [nI_clamp (by omega), arrV_read _ _ hi, hv]) rfl rfl hd (kk H locs la h1 h2 h3 h4)
end
/-! the shelf: places are each one's own -/
def ahB (V : Nat → Int32) (s t : Nat) : Prop := V t < V s ∨ (V s = V t ∧ s < t)
theorem ahB_tr {V : Nat → Int32} {s t u : Nat} (h1 : ahB V s t) (h2 : ahB V t u) : ahB V s u := by
  unfold ahB at *
  rcases h1 with h1 | ⟨h1, h1'⟩ <;> rcases h2 with h2 | ⟨h2, h2'⟩
  · exact Or.inl (Int32.lt_trans h2 h1)
  · rw [h2] at h1; exact Or.inl h1
  · rw [← h1] at h2; exact Or.inl h2
  · exact Or.inr ⟨h1.trans h2, by omega⟩
theorem ahB_ir {V : Nat → Int32} {s : Nat} (h : ahB V s s) : False := by
  rcases h with h | h
  · exact Int32.lt_irrefl h
  · omega
theorem ahB_or (V : Nat → Int32) {s t : Nat} (h : s ≠ t) : ahB V s t ∨ ahB V t s := by
  unfold ahB
  by_cases h1 : V s < V t
  · exact Or.inr (Or.inl h1)
  · by_cases h2 : V t < V s
    · exact Or.inl (Or.inl h2)
    · have e : V s = V t := Int32.le_antisymm (Int32.not_lt.mp h2) (Int32.not_lt.mp h1)
      rcases Nat.lt_or_gt_of_ne h with q | q
      · exact Or.inl (Or.inr ⟨e, q⟩)
      · exact Or.inr (Or.inr ⟨e.symm, q⟩)
theorem ahd_s (V : Nat → Int32) (t n : Nat) [Decidable (ahB V n t)] : ahd V t (n + 1) = ahd V t n + if ahB V n t then 1 else 0 := by
  rw [show ahd V t (n + 1) = ahd V t n + if V t < V n ∨ (V n = V t ∧ n < t) then 1 else 0 from rfl]
  congr 1
  by_cases h : ahB V n t
  · rw [if_pos h, if_pos (show V t < V n ∨ (V n = V t ∧ n < t) from h)]
  · rw [if_neg h, if_neg (show ¬ (V t < V n ∨ (V n = V t ∧ n < t)) from h)]
theorem ahd_mono {V : Nat → Int32} {s t : Nat} (h : ahB V s t) : ∀ m, ahd V s m ≤ ahd V t m ∧ (s < m → ahd V s m < ahd V t m)
  | 0 => ⟨Nat.le_refl _, fun q => absurd q (Nat.not_lt_zero s)⟩
  | m + 1 => by
    have ih := ahd_mono h m
    have := Classical.propDecidable (ahB V m s)
    have := Classical.propDecidable (ahB V m t)
    rw [ahd_s, ahd_s]
    by_cases e : ahB V m s
    · rw [if_pos e, if_pos (ahB_tr e h)]
      refine ⟨by omega, fun q => ?_⟩
      by_cases z : s = m
      · subst z; exact absurd e (fun e => ahB_ir e)
      · have := ih.2 (by omega); omega
    · rw [if_neg e]
      by_cases z : s = m
      · subst z
        rw [if_pos h]
        exact ⟨by omega, fun _ => by omega⟩
      · by_cases w : ahB V m t
        · rw [if_pos w]; exact ⟨by omega, fun q => by omega⟩
        · rw [if_neg w]; exact ⟨by omega, fun q => by have := ih.2 (by omega); omega⟩
theorem ahd_inj {V : Nat → Int32} {n s t : Nat} (hs : s < n) (ht : t < n) (h : ahd V s n = ahd V t n) : s = t := by
  refine Classical.byContradiction fun q => ?_
  rcases ahB_or V q with z | z
  · have := (ahd_mono z n).2 hs; omega
  · have := (ahd_mono z n).2 ht; omega
theorem ahd_lt {V : Nat → Int32} {t : Nat} : ∀ {n}, t < n → ahd V t n < n
  | 0, h => absurd h (Nat.not_lt_zero t)
  | n + 1, h => by
    have hl := ahd_le V t n
    unfold ahd
    by_cases e : t = n
    · subst e
      rw [if_neg (show ¬ (V t < V t ∨ (V t = V t ∧ t < t)) from fun q => ahB_ir (V := V) (s := t) q)]
      omega
    · have := ahd_lt (V := V) (n := n) (by omega : t < n)
      split <;> omega
theorem shf_no {V : Nat → Int32} {n p : Nat} (hp : p < 2 ^ 31) (hn : n < 2 ^ 31) : ∀ k, (∀ u, u < k → ¬ ahd V u n = p) → shf V n (nI p) k = (-1000000005)
  | 0, _ => rfl
  | k + 1, h => by
    have := ahd_le V k n
    unfold shf
    rw [if_neg (fun q => h k (by omega) ((nI_eq (by omega) hp).mp q))]
    exact shf_no hp hn k (fun u hu => h u (by omega))
theorem shf_is {V : Nat → Int32} {n p i : Nat} (hp : p < 2 ^ 31) (hn : n < 2 ^ 31) (hi : i < n) (h : ahd V i n = p) : ∀ k, i < k → k ≤ n → shf V n (nI p) k = nI i
  | 0, h0, _ => absurd h0 (Nat.not_lt_zero i)
  | k + 1, h0, hk => by
    have := ahd_le V k n
    unfold shf
    by_cases e : i = k
    · subst e; rw [if_pos (by rw [h])]
    · rw [if_neg (fun q => e (ahd_inj hi (by omega) (by rw [h]; exact ((nI_eq (by omega) hp).mp q).symm)))]
      exact shf_is hp hn hi h k (by omega) (by omega)
theorem shf_big {V : Nat → Int32} {n p : Nat} (hp : p < 2 ^ 31) (hn : n < 2 ^ 31) (h : n ≤ p) : shf V n (nI p) n = (-1000000005) :=
  shf_no hp hn n (fun u hu e => by have := ahd_lt (V := V) hu; omega)
theorem held_eq (v : Int32) : mxI (nI 0) (miI (nI 9) v) = nI (hdN v) := by
  rw [← hdI_9]
  unfold mxI miI hdI
  by_cases h1 : v < 0
  · rw [if_pos h1, if_pos (Int32.lt_trans h1 (by decide)), if_neg ?_]
    exact fun q => Int32.lt_irrefl (Int32.lt_trans q h1)
  · rw [if_neg h1]
    by_cases h2 : nI 9 < v
    · rw [if_pos h2, if_neg (fun q => Int32.lt_irrefl (Int32.lt_trans q h2)), if_pos (by decide)]
    · rw [if_neg h2]
      by_cases h3 : v < nI 9
      · rw [if_pos h3]
        by_cases h4 : nI 0 < v
        · rw [if_pos h4]
        · rw [if_neg h4]; exact Int32.le_antisymm (Int32.not_lt.mp h1) (Int32.not_lt.mp h4)
      · rw [if_neg h3, if_pos (by decide)]; exact Int32.le_antisymm (Int32.not_lt.mp h3) (Int32.not_lt.mp h2)
theorem fW_f4 {A : Al} {w key : Nat} (hk : key = 0 ∨ key = 1) (q : Int32) (hq : key = 1 → q = nI (cw A 2 (aF A w 2) (aW A))) (i : Nat) (h : ltr key i = true) : f4 (nI (aF A w 4)) (nI (aF A w 3)) (nI (aE A (aF A w 2))) q (plc key i) = fW A w i := by
  unfold ltr at h
  unfold plc fW
  rw [if_neg (by omega)] at h ⊢
  simp at h
  rcases h with ((rfl | rfl) | rfl) | ⟨hk1, rfl⟩
  · rfl
  · rfl
  · rfl
  · rw [hq hk1]; rfl
theorem fS_f4 {A : Al} {t : Nat} (q : Int32) (i : Nat) (h : ltr 2 i = true) : f4 (nI (mz A t)) (nI (wz A t)) (nI (cw A 1 t (aW A))) q (plc 2 i) = fS A t i := by
  unfold ltr at h
  rw [if_pos rfl] at h
  simp at h
  rcases h with (rfl | rfl) | rfl <;> rfl
theorem wz_mx {A : Al} (hV : Va A) (t : Nat) : mxI (nI 0) (wdI A t) = nI (wz A t) := by
  have hM := sM_le hV t (aW A) (Nat.le_refl _)
  unfold wdI wz
  by_cases h : sW A t = 0
  · rw [if_pos h, if_pos h]; decide
  · have h2 : 100 * sM A t / sW A t ≤ 100 * sM A t := Nat.div_le_self _ _
    have h3 : sM A t ≤ 1200 := hM
    rw [if_neg h, if_neg h, mxI_n (by decide) (by omega), Nat.max_eq_right (Nat.zero_le _)]
