
/-! ===== lay ===== -/
section
variable {X : Cx} {cc : ByteArray} {own nm : String} {rm : Room} {ret : Option FieldType} {L : La} {σ : Me} {mc ms : Nat} {ls : List (Nat × Value)} {pc nx tgt : Nat} {st : List Value} {off : Int} {idx : Nat} {y : MethodName} {cy : ByteArray} {ny np : Nat} {ry : Option FieldType} {rmy : Room} {As rest st0 : List Value}
theorem r_callVN (hX : Ok X cc own nm rm ret) {id k n : Nat} {q : La → Me → Prop} (hM : Ct (xl X) y cy ny ry rmy (xD X) L σ (.ref (L.1 id) :: As) (PN q)) (hd : Dc cc pc (.invokevirtual idx) 3 nx) (hw : CB own idx y cy ny ry np ∧ Cond.instanceMethod y ∈ TT ∧ Cond.selects (cq k).1 y y ∈ TT ∧ k < 10) (hid : L.2.1 id = some (k, n)) (hn : As.length = np) (hst : st0 = As.reverse ++ .ref (L.1 id) :: rest)
    (hR : rmy.frames + 1 ≤ rm.frames ∧ 8 + (ny + 11) + rmy.locals ≤ rm.locals) (hC : mc + rmy.cells ≤ rm.cells ∧ ms + rmy.slots ≤ rm.slots) (hcat : (rest.map fun v => v.category).sum ≤ 8) (kk : ∀ L' σ', q L' σ' → At X L' σ' (mc + rmy.cells) (ms + rmy.slots) ls nx rest) : At X L σ mc ms ls pc st0 := by
  refine r_callV hX hM hd hw.1 ⟨hw.2.1, hw.2.2.1⟩ hid hw.2.2.2 hn hst hR hC hcat ?_
  rintro v L' σ' ⟨rfl, h⟩
  exact kk L' σ' h
theorem r_callVNI (hX : Ok X cc own nm rm ret) {id k n : Nat} {q : Int32 → La → Me → Prop} (hM : Ct (xl X) y cy ny ry rmy (xD X) L σ (.ref (L.1 id) :: As) (PNI q)) (hd : Dc cc pc (.invokevirtual idx) 3 nx) (hw : CB own idx y cy ny ry np ∧ Cond.instanceMethod y ∈ TT ∧ Cond.selects (cq k).1 y y ∈ TT ∧ k < 10) (hid : L.2.1 id = some (k, n)) (hn : As.length = np) (hst : st0 = As.reverse ++ .ref (L.1 id) :: rest)
    (hR : rmy.frames + 1 ≤ rm.frames ∧ 8 + (ny + 11) + rmy.locals ≤ rm.locals) (hC : mc + rmy.cells ≤ rm.cells ∧ ms + rmy.slots ≤ rm.slots) (hcat : (rest.map fun v => v.category).sum ≤ 8) (kk : ∀ r L' σ', q r L' σ' → At X L' σ' (mc + rmy.cells) (ms + rmy.slots) ls nx (.int r :: rest)) : At X L σ mc ms ls pc st0 := by
  refine r_callV hX hM hd hw.1 ⟨hw.2.1, hw.2.2.1⟩ hid hw.2.2.2 hn hst hR hC hcat ?_
  rintro v L' σ' ⟨r, rfl, h⟩
  exact kk r L' σ' h
end
/-- a slot's own sheet: not there, or there -/
def Sl1 (L : La) (e : Nat) : Prop := (L.2.2 e 4 = none ∧ L.2.1 (e + 1) = none ∧ L.2.1 (e + 1 + 1) = none) ∨ (L.2.2 e 4 = some (e + 1) ∧ SA L (e + 1))
def SlC (L : La) : Prop := ∀ k, k < 5 → Sl1 L (120 + 3 * k)
def pTk (e d : Nat) : Prop := e ≤ d ∧ d ≤ e + 2
def TkP (L : La) (σ : Me) (e o : Nat) (L2 : La) (σ2 : Me) : Prop := LX (pTk e) L L2 ∧ L2.1 e = L.1 e ∧ L2.2.1 e = some (4, 0) ∧ L2.2.2 e 4 = some (e + 1) ∧ SA L2 (e + 1) ∧ Wl L2 ∧ σ2 (e + 1) 1 = σ o 1 ∧ (∀ i, i < 24 → σ2 (e + 1 + 1) i = σ (o + 1) i) ∧ ∀ d i, d ≠ e + 1 → d ≠ e + 2 → σ2 d i = σ d i
def LyP (L : La) (σ : Me) (L2 : La) (σ2 : Me) : Prop := CAt L2 ∧ Wl L2 ∧ LX (fun d => 120 ≤ d ∧ d < 135) L L2 ∧ SlC L2 ∧ ∀ d i, d < 120 ∨ 135 ≤ d → σ2 d i = σ d i
theorem SA.lx {L L' : La} {p : Nat → Prop} {s : Nat} (h : SA L s) (x : LX p L L') (h1 : ¬ p s) (h2 : ¬ p (s + 1)) : SA L' s := ⟨(x s h1).2.1.trans h.1, (x _ h2).2.1.trans h.2.1, ((x s h1).2.2 2).trans h.2.2⟩
theorem Sl1.lx {L L' : La} {p : Nat → Prop} {e : Nat} (h : Sl1 L e) (x : LX p L L') (h0 : ¬ p e) (h1 : ¬ p (e + 1)) (h2 : ¬ p (e + 1 + 1)) : Sl1 L' e := by
  rcases h with ⟨a, b, c⟩ | ⟨a, b⟩
  · exact Or.inl ⟨((x e h0).2.2 4).trans a, (x _ h1).2.1.trans b, (x _ h2).2.1.trans c⟩
  · exact Or.inr ⟨((x e h0).2.2 4).trans a, b.lx x h1 h2⟩
theorem rsc_lay {L L2 : La} {σ τ : Me} {Q : Ls} (h : RSc L σ Q) {s t b : Nat} {a : Int32} {f : Nat → Int32} (hs : s < 5) (ht : t ≤ 3) (e0 : τ (120 + 3 * s) 0 = nI t) (h1 : t = 1 → ∃ x, x ≤ 5 ∧ a = nI x ∧ 1 ≤ b ∧ b ≤ 5 ∧ τ (120 + 3 * s) 1 = nI x ∧ τ (120 + 3 * s) 2 = nI (sayN x b)) (h2 : t = 2 → ∃ x, x ≤ 24 ∧ a = nI x ∧ L2.2.2 (120 + 3 * s) 4 = some (121 + 3 * s) ∧ SA L2 (121 + 3 * s) ∧ τ (121 + 3 * s) 1 = nI x ∧ ∀ i, i < 24 → τ (121 + 3 * s + 1) i = f i) (h3 : t = 3 → τ (120 + 3 * s) 3 = a) (fr : ∀ d i, d < 120 + 3 * s ∨ 123 + 3 * s ≤ d → τ d i = σ d i) (lx : LX (pTk (120 + 3 * s)) L L2) : RSc L2 τ (lyS Q s t a b f) := by
  intro j hj
  by_cases q : j = s
  · subst q
    refine ⟨?_, ?_, ?_, ?_, ?_⟩
    · show _ = nI (if j = j then t else _); rw [if_pos rfl]; exact e0
    · show (if j = j then t else _) ≤ 3; rw [if_pos rfl]; exact ht
    · show (if j = j then t else _) = 1 → ∃ x, x ≤ 5 ∧ (if j = j then a else _) = nI x ∧ 1 ≤ (if j = j then b else _) ∧ (if j = j then b else _) ≤ 5 ∧ _ ∧ τ (120 + 3 * j) 2 = nI (sayN x (if j = j then b else _))
      simp only [if_true]; exact h1
    · show (if j = j then t else _) = 2 → ∃ x, x ≤ 24 ∧ (if j = j then a else _) = nI x ∧ _ ∧ _ ∧ _ ∧ ∀ i, i < 24 → τ (121 + 3 * j + 1) i = (if j = j then f i else _)
      simp only [if_true]; exact h2
    · show (if j = j then t else _) = 3 → _ = (if j = j then a else _)
      simp only [if_true]; exact h3
  · clear h1 h2 h3 e0
    have hx : ∀ d, d < 120 + 3 * s ∨ 123 + 3 * s ≤ d → ¬ pTk (120 + 3 * s) d := fun d hd z => by unfold pTk at z; omega
    have f0 : ∀ i, τ (120 + 3 * j) i = σ (120 + 3 * j) i := fun i => fr _ i (by omega)
    have f1 : ∀ i, τ (121 + 3 * j) i = σ (121 + 3 * j) i := fun i => fr _ i (by omega)
    have f2 : ∀ i, τ (121 + 3 * j + 1) i = σ (121 + 3 * j + 1) i := fun i => fr _ i (by omega)
    have x0 := lx (120 + 3 * j) (hx _ (by omega))
    have hS : SA L (121 + 3 * j) → SA L2 (121 + 3 * j) := fun z => z.lx lx (hx _ (by omega)) (hx _ (by omega))
    obtain ⟨g1, g2, g3, g4, g5⟩ := h j hj
    refine ⟨?_, ?_, ?_, ?_, ?_⟩
    · show _ = nI (if j = s then t else Q.1 j); rw [if_neg q]; exact (f0 _).trans g1
    · show (if j = s then t else Q.1 j) ≤ 3; rw [if_neg q]; exact g2
    · show (if j = s then t else Q.1 j) = 1 → ∃ x, x ≤ 5 ∧ (if j = s then a else Q.2.1 j) = nI x ∧ 1 ≤ (if j = s then b else Q.2.2.1 j) ∧ (if j = s then b else Q.2.2.1 j) ≤ 5 ∧ τ (120 + 3 * j) 1 = nI x ∧ τ (120 + 3 * j) 2 = nI (sayN x (if j = s then b else Q.2.2.1 j))
      simp only [if_neg q]
      intro z
      obtain ⟨x, a1, a2, a3, a4, a5, a6⟩ := g3 z
      exact ⟨x, a1, a2, a3, a4, (f0 _).trans a5, (f0 _).trans a6⟩
    · show (if j = s then t else Q.1 j) = 2 → ∃ x, x ≤ 24 ∧ (if j = s then a else Q.2.1 j) = nI x ∧ L2.2.2 (120 + 3 * j) 4 = some (121 + 3 * j) ∧ SA L2 (121 + 3 * j) ∧ τ (121 + 3 * j) 1 = nI x ∧ ∀ i, i < 24 → τ (121 + 3 * j + 1) i = (if j = s then f i else Q.2.2.2 j i)
      simp only [if_neg q]
      intro z
      obtain ⟨x, a1, a2, a3, a4, a5, a6⟩ := g4 z
      exact ⟨x, a1, a2, (x0.2.2 4).trans a3, hS a4, (f1 _).trans a5, fun i hi => (f2 _).trans (a6 i hi)⟩
    · show (if j = s then t else Q.1 j) = 3 → τ (120 + 3 * j) 3 = (if j = s then a else Q.2.1 j)
      simp only [if_neg q]
      exact fun z => (f0 _).trans (g5 z)
theorem lay_b {A : Al} {B : Bs} {Q : Ls} {s t k : Int32} (h : ¬ (inB s (nI 0) (nI 4) = true ∧ inB t (nI 0) (nI 3) = true ∧ ¬ (t = nI 1 ∧ isB k (aW A) = false) ∧ ¬ (t = nI 2 ∧ inB k (nI 0) (nI 3) = false))) : oLay A B Q s t k = (-1000000001, Q) := if_neg h
theorem lay_0 {A : Al} {B : Bs} {Q : Ls} {q : Nat} {k : Int32} (hq : q ≤ 4) (hs : inB (nI q) (nI 0) (nI 4) = true) : oLay A B Q (nI q) (nI 0) k = (nI (Q.1 q), lyS Q q 0 k 0 (Q.2.2.2 q)) := by
  unfold oLay
  rw [if_pos ⟨hs, by decide, fun z => absurd z.1 (by decide), fun z => absurd z.1 (by decide)⟩, if_neg (fun z => absurd z.1 (by decide)), nI_clamp (by omega), if_neg (by decide), if_neg (by decide), if_neg (by decide), if_neg (by decide)]
  rfl
theorem lay_3 {A : Al} {B : Bs} {Q : Ls} {q : Nat} {k : Int32} (hq : q ≤ 4) (hs : inB (nI q) (nI 0) (nI 4) = true) : oLay A B Q (nI q) (nI 3) k = (nI (Q.1 q), lyS Q q 3 k 0 (Q.2.2.2 q)) := by
  unfold oLay
  rw [if_pos ⟨hs, by decide, fun z => absurd z.1 (by decide), fun z => absurd z.1 (by decide)⟩, if_neg (fun z => absurd z.1 (by decide)), nI_clamp (by omega), if_neg (by decide), if_neg (by decide), if_neg (by decide), if_neg (by decide)]
  rfl
theorem lay_1 {A : Al} {B : Bs} {Q : Ls} {q w : Nat} (hq : q ≤ 4) (hs : inB (nI q) (nI 0) (nI 4) = true) (hw : w < 24) (hk : isB (nI w) (aW A) = true) : oLay A B Q (nI q) (nI 1) (nI w) = (nI (Q.1 q), lyS Q q 1 (nI (aF A w 0)) (aF A w 4) (Q.2.2.2 q)) := by
  unfold oLay
  rw [if_pos ⟨hs, by decide, (fun z => by rw [hk] at z; cases z.2), fun z => absurd z.1 (by decide)⟩, if_neg (fun z => absurd z.1 (by decide)), nI_clamp (n := q) (by omega), nI_clamp (n := w) (by omega), if_pos rfl, if_pos rfl, if_neg (by decide)]
  rfl
theorem lay_2n {A : Al} {B : Bs} {Q : Ls} {q e : Nat} (hs : inB (nI q) (nI 0) (nI 4) = true) (he : e ≤ 3) (hk : inB (nI e) (nI 0) (nI 3) = true) (hb : B.1 e = none) : oLay A B Q (nI q) (nI 2) (nI e) = (-1000000011, Q) := by
  unfold oLay
  rw [if_pos ⟨hs, by decide, fun z => absurd z.1 (by decide), (fun z => by rw [hk] at z; cases z.2)⟩, if_pos ⟨rfl, by rw [nI_clamp (by omega)]; exact hb⟩]
theorem lay_2 {A : Al} {B : Bs} {Q : Ls} {q e : Nat} (hq : q ≤ 4) (hs : inB (nI q) (nI 0) (nI 4) = true) (he : e ≤ 3) (hk : inB (nI e) (nI 0) (nI 3) = true) (hb : (B.1 e).isNone = false) : oLay A B Q (nI q) (nI 2) (nI e) = (nI (Q.1 q), lyS Q q 2 (nI (B.2.1 e)) 0 (B.2.2 e)) := by
  unfold oLay
  rw [if_pos ⟨hs, by decide, fun z => absurd z.1 (by decide), (fun z => by rw [hk] at z; cases z.2)⟩, nI_clamp (n := e) (by omega), if_neg (fun z => by rw [z.2] at hb; cases hb), nI_clamp (n := q) (by omega), if_neg (by decide), if_pos rfl, if_neg (by decide), if_pos rfl]
  rfl
theorem csh_sl {s d : Nat} (hs : s < 5) (h : d = 121 + 3 * s ∨ d = 122 + 3 * s) : csh d = none := by
  rcases (show s = 0 ∨ s = 1 ∨ s = 2 ∨ s = 3 ∨ s = 4 by omega) with rfl | rfl | rfl | rfl | rfl <;> rcases h with rfl | rfl <;> rfl
theorem ctg_sl {s j : Nat} (hs : s < 5) : ctg (120 + 3 * s) j = none := by
  rcases (show s = 0 ∨ s = 1 ∨ s = 2 ∨ s = 3 ∨ s = 4 by omega) with rfl | rfl | rfl | rfl | rfl <;> rfl
theorem CAt.tk {L L' : La} {s : Nat} (h : CAt L) (x : LX (pTk (120 + 3 * s)) L L') (hs : s < 5) (h1 : L'.2.1 (120 + 3 * s) = some (4, 0)) : CAt L' := by
  have hx : ∀ d, d < 120 + 3 * s ∨ 123 + 3 * s ≤ d → ¬ pTk (120 + 3 * s) d := fun d hd z => by unfold pTk at z; omega
  refine ⟨fun id y e => ?_, fun id j t e => ?_, h.2.2.lx x (fun i hi _ => hx _ (by omega)) (x _ (hx _ (by omega))).2.1⟩
  · by_cases q : id = 120 + 3 * s
    · rw [q, h1]
      have := h.1 id y e
      rw [q, (h.sl hs).1] at this
      exact this
    · refine (x _ (fun z => ?_)).2.1.trans (h.1 id y e)
      unfold pTk at z
      rw [csh_sl hs (d := id) (by omega)] at e
      cases e
  · refine ((x _ (fun z => ?_)).2.2 j).trans (h.2.1 id j t e)
    unfold pTk at z
    by_cases q : id = 120 + 3 * s
    · rw [q, ctg_sl hs] at e; cases e
    · have := ctg_csh e
      rw [csh_sl hs (d := id) (by omega)] at this
      cases this
