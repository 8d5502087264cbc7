/-! ===== static facts of the classes ===== -/
theorem cq_words : ∀ k, k < 10 → ∀ w ∈ u_ws (cq k).1 (cq k).2.1 (nf k), w ∈ TT := by decide +kernel
theorem cq_ty : ∀ k, k < 10 → ∀ j, j < nf k → parseFieldDescriptor (fT k j).2.2.1 = some (tyk k j) := by decide +kernel
theorem cq_nm : ∀ k, k < 10 → ∀ a, a < nf k → ∀ b, b < nf k → a ≠ b → (fT k a).2.1 ≠ (fT k b).2.1 := by decide +kernel
/-- a field's link: index idx of own's pool names field j of kind k -/
def FL (own : String) (idx k j : Nat) : Prop := k < 10 ∧ j < nf k ∧ Cond.fieldLink own idx (fT k j).1 (fT k j).2.1 (fT k j).2.2.1 ∈ TT
def up (σ : Me) (c i : Nat) (v : Int32) : Me := fun d j => if d = c then (if j = i then v else σ d j) else σ d j
theorem up_s {σ : Me} {c i : Nat} {v : Int32} : up σ c i v c i = v := by simp [up]
theorem up_n {σ : Me} {c i d j : Nat} {v : Int32} (h : d ≠ c ∨ j ≠ i) : up σ c i v d j = σ d j := by
  unfold up
  by_cases h1 : d = c
  · rcases h with h | h
    · exact absurd h1 h
    · simp [h1, h]
  · simp [h1]
def ut (L : La) (c i : Nat) (v : Option Nat) : La := (L.1, L.2.1, fun d j => if d = c then (if j = i then v else L.2.2 d j) else L.2.2 d j)
theorem obj_apart {D : Ds} {s : State} {a : Array Value} (hts : ∀ w ∈ TT, w.before a s = true) (hK : Kd D s) {k : Nat} (hk : k < 10) : ∀ x y, x < nf k → y < nf k → x ≠ y → D.2.1 k x ≠ D.2.1 k y := by
  intro x y hx hy hne
  obtain ⟨hS, -⟩ := hK.1 k hk
  obtain ⟨_, _, _, fa, hia, ea⟩ := hS x hx
  obtain ⟨_, _, _, fb, hib, eb⟩ := hS y hy
  rw [← ea, ← eb]
  refine u_apart (u_lays hts (cq_words k hk) hx) (u_lays hts (cq_words k hk) hy) hia hib ?_
  rw [(State.fieldFound?_type hia (cq_ty k hk x hx)).1, (State.fieldFound?_type hib (cq_ty k hk y hy)).1]
  exact cq_nm k hk x hx y hy hne
theorem Ce.kept {D : Ds} {L : La} {σ : Me} {id k n : Nat} {H H1 : Heap} (h : Ce D L σ id k n H) (e : H1[L.1 id]? = H[L.1 id]?) : Ce D L σ id k n H1 := by
  unfold Ce at h ⊢
  split
  · rename_i h1; rw [if_pos h1] at h; exact h.kept e
  · rename_i h1
    rw [if_neg h1] at h
    split
    · rename_i h2; rw [if_pos h2] at h; rw [e]; exact h
    · rename_i h2; rw [if_neg h2] at h; rw [e]; exact h
theorem Ce.lt {D : Ds} {L : La} {σ : Me} {id k n : Nat} {H : Heap} (h : Ce D L σ id k n H) : L.1 id < H.size := by
  unfold Ce at h
  split at h
  · obtain ⟨cell, h2, -⟩ := h
    exact (Array.getElem?_eq_some_iff.mp h2).1
  · split at h
    · exact (Array.getElem?_eq_some_iff.mp h).1
    · exact (Array.getElem?_eq_some_iff.mp h).1
theorem Ce.cong {D : Ds} {L L' : La} {σ σ' : Me} {id k n : Nat} {H : Heap} (h : Ce D L σ id k n H) (ha : L'.1 id = L.1 id) (hs : ∀ j, σ' id j = σ id j) (ht : ∀ j, (L'.2.2 id j).map L'.1 = (L.2.2 id j).map L.1) : Ce D L' σ' id k n H := by
  unfold Ce at h ⊢
  have e1 : σ' id = σ id := funext hs
  have e2 : (fun j => (L'.2.2 id j).map L'.1) = (fun j => (L.2.2 id j).map L.1) := funext ht
  rw [ha, e1, e2]
  have e3 : (fun j => va_rf ((L'.2.2 id j).map L'.1)) = (fun j => va_rf ((L.2.2 id j).map L.1)) := funext fun j => by rw [ht j]
  rw [e3]
  exact h
/-- one int of an object, or of an array, is written: the rest of the heap is as it was -/
theorem Hp.put {D : Ds} {L : La} {σ : Me} {A : Nat → Prop} {H H1 : Heap} {id k n i : Nat} {v : Int32} (h : Hp D L σ H) (hA : Ap A L) (hs : L.2.1 id = some (k, n)) (z : H1.size = H.size) (oq : ∀ q, q ≠ L.1 id → H1[q]? = H[q]?) (hc : Ce D L (up σ id i v) id k n H1) : Hp D L (up σ id i v) H1 := by
  refine ⟨fun d kd nd hd => ?_, h.2.1, by rw [z]; exact h.2.2.1, fun b hb => ?_⟩
  · by_cases e : d = id
    · subst e
      cases hd.symm.trans hs
      exact hc
    · have hne : L.1 d ≠ L.1 id := fun q => e (hA.1 _ _ _ _ hd hs q)
      exact ((h.1 d kd nd hd).kept (oq _ hne)).cong rfl (fun j => up_n (Or.inl e)) (fun _ => rfl)
  · rw [oq b (fun e => by have := h.2.1 id _ hs; omega)]
    exact h.2.2.2 b hb
/-- one reference is written -/
theorem Hp.putR {D : Ds} {L : La} {σ : Me} {A : Nat → Prop} {H H1 : Heap} {id k n i : Nat} {v : Option Nat} (h : Hp D L σ H) (hA : Ap A L) (hs : L.2.1 id = some (k, n)) (z : H1.size = H.size) (oq : ∀ q, q ≠ L.1 id → H1[q]? = H[q]?) (hc : Ce D (ut L id i v) σ id k n H1) : Hp D (ut L id i v) σ H1 := by
  refine ⟨fun d kd nd hd => ?_, h.2.1, by rw [z]; exact h.2.2.1, fun b hb => ?_⟩
  · by_cases e : d = id
    · subst e
      cases hd.symm.trans hs
      exact hc
    · have hne : L.1 d ≠ L.1 id := fun q => e (hA.1 _ _ _ _ hd hs q)
      exact ((h.1 d kd nd hd).kept (oq _ hne)).cong rfl (fun _ => rfl) (fun j => by simp [ut, e])
  · rw [oq b (fun e => by have := h.2.1 id _ hs; omega)]
    exact h.2.2.2 b hb
section
variable {X : Cx} {cc : ByteArray} {own nm : String} {rm : Room} {ret : Option FieldType} {L : La} {σ : Me} {mc ms : Nat} {ls : List (Nat × Value)} {pc nx tgt : Nat} {st : List Value} {off : Int}
theorem r_get (hX : Ok X cc own nm rm ret) {idx id k j n : Nat} (hd : Dc cc pc (.getfield idx) 3 nx) (hf : FL own idx k j) (hs : L.2.1 id = some (k, n)) (v : Value) (hv : Vf k (σ id) (fun j => (L.2.2 id j).map L.1) j = v) (kk : At X L σ mc ms ls nx (v :: st)) : At X L σ mc ms ls pc (.ref (L.1 id) :: st) := by
  obtain ⟨hd, rfl⟩ := hd
  obtain ⟨hk, hj, hw⟩ := hf
  obtain ⟨hx, hb, -, hown, hts, hK, -⟩ := hX
  intro H locs la h1 h2 h3 h4
  have hc := h1.1 id k n hs
  unfold Ce at hc
  rw [if_pos hk] at hc
  obtain ⟨cell, q1, q2, q3, q4⟩ := hc
  obtain ⟨hS, hfc, kC, hkC, hkind⟩ := hK.1 k hk
  obtain ⟨cf, kf, fi, f, hi, hsl⟩ := hS j hj
  refine W.getf hx hb hown (hts _ hw) hi (u_facts hfc hkC (u_lays hts (cq_words k hk) hj) hi).1 q1 (by rw [q3]; exact fun h => by cases h) (v := v) ?_ rfl rfl hd (kk H locs la h1 h2 h3 h4)
  rw [hsl, q4 j hj, hv]
theorem r_getI (hX : Ok X cc own nm rm ret) {idx id k j n : Nat} (hd : Dc cc pc (.getfield idx) 3 nx) (hf : FL own idx k j) (hs : L.2.1 id = some (k, n)) (hr : rk k j = false) (kk : At X L σ mc ms ls nx (.int (σ id j) :: st)) : At X L σ mc ms ls pc (.ref (L.1 id) :: st) :=
  r_get hX hd hf hs _ (by unfold Vf; rw [hr]; rfl) kk
theorem r_getR (hX : Ok X cc own nm rm ret) {idx id id' k j n : Nat} (hd : Dc cc pc (.getfield idx) 3 nx) (hf : FL own idx k j) (hs : L.2.1 id = some (k, n)) (hr : rk k j = true) (ht : L.2.2 id j = some id') (kk : At X L σ mc ms ls nx (.ref (L.1 id') :: st)) : At X L σ mc ms ls pc (.ref (L.1 id) :: st) :=
  r_get hX hd hf hs _ (by unfold Vf; rw [if_pos hr]; show va_rf ((L.2.2 id j).map L.1) = _; rw [ht]; rfl) kk
theorem r_getN (hX : Ok X cc own nm rm ret) {idx id k j n : Nat} (hd : Dc cc pc (.getfield idx) 3 nx) (hf : FL own idx k j) (hs : L.2.1 id = some (k, n)) (hr : rk k j = true) (ht : L.2.2 id j = none) (kk : At X L σ mc ms ls nx (.null :: st)) : At X L σ mc ms ls pc (.ref (L.1 id) :: st) :=
  r_get hX hd hf hs _ (by unfold Vf; rw [if_pos hr]; show va_rf ((L.2.2 id j).map L.1) = _; rw [ht]; rfl) kk
theorem r_putI (hX : Ok X cc own nm rm ret) {idx id k j n : Nat} {v : Int32} (hd : Dc cc pc (.putfield idx) 3 nx) (hf : FL own idx k j) (hs : L.2.1 id = some (k, n)) (hr : rk k j = false) (hfin : (fT k j).2.2.2 = false) (hn : narrow (tyk k j) (.int v) = .int v) (hfit : fits (tyk k j) (.int v) = true) (kk : At X L (up σ id j v) mc ms ls nx st) : At X L σ mc ms ls pc (.int v :: .ref (L.1 id) :: st) := by
  obtain ⟨hd, rfl⟩ := hd
  obtain ⟨hk, hj, hw⟩ := hf
  obtain ⟨hx, hb, -, hown, hts, hK, -⟩ := hX
  intro H locs la h1 h2 h3 h4
  have hc := h1.1 id k n hs
  unfold Ce at hc
  rw [if_pos hk] at hc
  have hap := obj_apart hts hK hk
  obtain ⟨cell, q1, q2, q3, q4⟩ := hc
  obtain ⟨hS, hfc, kC, hkC, hkind⟩ := hK.1 k hk
  obtain ⟨cf, kf, fi, f, hi, hsl⟩ := hS j hj
  have hlay := hts _ (cq_words k hk _ (u_in_lay hj))
  unfold u_lay at hlay
  rw [if_neg (by show ¬ (fT k j).2.2.2 = true; rw [hfin]; decide)] at hlay
  have hst := (u_facts hfc hkC (u_lays hts (cq_words k hk) hj) hi).1
  have h6 := u_store hfc hkC hkind hlay hi (cq_ty k hk j hj) hn hfit
  refine W.putK hx hb (f := f) ⟨hown, hts _ hw, ⟨_, _, _, hi⟩, hst⟩ (by rw [q2]; exact h6) q1 q3 (by rw [hsl]; exact k2_hasslot (q4 j hj)) rfl rfl hd fun H' e1 e2 e3 => ?_
  rw [hsl] at e1 ⊢
  refine kk H' _ la (h1.put h2 hs e2 e3 ?_) h2 (h3.put e2 e3 (h2.2 _ _ hs)) h4
  unfold Ce
  rw [if_pos hk]
  refine t_OB.to (V := updV (Vf k (σ id) (fun j => (L.2.2 id j).map L.1)) j (.int v)) ⟨_, e1, q2, q3, t_set q4 hap hj _⟩ (fun i _ => ?_)
  by_cases e : i = j
  · subst e
    simp [updV, Vf, hr, up_s]
  · simp [updV, Vf, e, up_n (Or.inr e)]
theorem r_ald (hX : Ok X cc own nm rm ret) {id n : Nat} {i : Int32} (hd : Dc cc pc .iaload 1 nx) (hs : L.2.1 id = some (10, n)) (hin : vp_in i n) (kk : At X L σ mc ms ls nx (.int (σ id i.toNatClampNeg) :: st)) : At X L σ mc ms ls pc (.int i :: .ref (L.1 id) :: st) := by
  obtain ⟨hd, rfl⟩ := hd
  intro H locs la h1 h2 h3 h4
  have hc : H[L.1 id]? = some (arrV ((xD X).2.2.1 10) n (fun j => .int (σ id j))) := h1.1 id 10 n hs
  have hlt : i.toNatClampNeg < n := Nat.not_le.mp fun q => hin (Or.inr q)
  exact W.iald (v := .int (σ id i.toNatClampNeg)) hX.1 hX.2.1 hc ((hX.2.2.2.2.2.1.2.1 10 (by decide) (by decide)).1 n _) (fun q => by cases q) (by rw [arrV_size]; exact hin) (by rw [arrV_read _ _ hlt]) rfl rfl hd (kk H locs la h1 h2 h3 h4)
theorem r_bald (hX : Ok X cc own nm rm ret) {id n : Nat} {i : Int32} (hd : Dc cc pc .baload 1 nx) (hs : L.2.1 id = some (11, n)) (hin : vp_in i n) (kk : At X L σ mc ms ls nx (.int (σ id i.toNatClampNeg) :: st)) : At X L σ mc ms ls pc (.int i :: .ref (L.1 id) :: st) := by
  obtain ⟨hd, rfl⟩ := hd
  intro H locs la h1 h2 h3 h4
  have hc : H[L.1 id]? = some (arrV ((xD X).2.2.1 11) n (fun j => .int (σ id j))) := h1.1 id 11 n hs
  have hlt : i.toNatClampNeg < n := Nat.not_le.mp fun q => hin (Or.inr q)
  exact W.bald (v := .int (σ id i.toNatClampNeg)) hX.1 hX.2.1 hc ((hX.2.2.2.2.2.1.2.1 11 (by decide) (by decide)).1 n _) (fun q => by cases q) (by rw [arrV_size]; exact hin) (by rw [arrV_read _ _ hlt]) rfl rfl hd (kk H locs la h1 h2 h3 h4)
theorem r_zald (hX : Ok X cc own nm rm ret) {id n : Nat} {i : Int32} (hd : Dc cc pc .baload 1 nx) (hs : L.2.1 id = some (12, n)) (hin : vp_in i n) (kk : At X L σ mc ms ls nx (.int (σ id i.toNatClampNeg) :: st)) : At X L σ mc ms ls pc (.int i :: .ref (L.1 id) :: st) := by
  obtain ⟨hd, rfl⟩ := hd
  intro H locs la h1 h2 h3 h4
  have hc : H[L.1 id]? = some (arrV ((xD X).2.2.1 12) n (fun j => .int (σ id j))) := h1.1 id 12 n hs
  have hlt : i.toNatClampNeg < n := Nat.not_le.mp fun q => hin (Or.inr q)
  exact W.zald (v := .int (σ id i.toNatClampNeg)) hX.1 hX.2.1 hc ((hX.2.2.2.2.2.1.2.1 12 (by decide) (by decide)).1 n _) (fun q => by cases q) (by rw [arrV_size]; exact hin) (by rw [arrV_read _ _ hlt]) rfl rfl hd (kk H locs la h1 h2 h3 h4)
theorem arr_up {cA : ClassId} {n i : Nat} {σ : Me} {id : Nat} {x : Int32} : (arrV cA n (fun j => .int (σ id j))).setSlot i (.int x) = arrV cA n (fun j => .int (up σ id i x id j)) := by
  rw [arrV_store]
  congr 1
  funext q
  by_cases hq : q = i
  · subst hq
    simp [updV, up_s]
  · simp [updV, hq, up_n (Or.inr hq)]
theorem r_ast (hX : Ok X cc own nm rm ret) {id n : Nat} {i x : Int32} (hd : Dc cc pc .iastore 1 nx) (hs : L.2.1 id = some (10, n)) (hin : vp_in i n) (kk : At X L (up σ id i.toNatClampNeg x) mc ms ls nx st) : At X L σ mc ms ls pc (.int x :: .int i :: .ref (L.1 id) :: st) := by
  obtain ⟨hd, rfl⟩ := hd
  intro H locs la h1 h2 h3 h4
  have hc : H[L.1 id]? = some (arrV ((xD X).2.2.1 10) n (fun j => .int (σ id j))) := h1.1 id 10 n hs
  refine W.iast hX.1 hX.2.1 hc ((hX.2.2.2.2.2.1.2.1 10 (by decide) (by decide)).1 n _) (fun q => by cases q) (by rw [arrV_size]; exact hin) rfl rfl hd fun H1 e z oq => ?_
  refine kk H1 _ la (h1.put h2 hs z oq ?_) h2 (h3.put z oq (h2.2 _ _ hs)) h4
  show H1[L.1 id]? = some _
  rw [e, arr_up]
theorem r_bast (hX : Ok X cc own nm rm ret) {id n : Nat} {i x : Int32} (hd : Dc cc pc .bastore 1 nx) (hs : L.2.1 id = some (11, n)) (hin : vp_in i n) (kk : At X L (up σ id i.toNatClampNeg x.toInt8.toInt32) mc ms ls nx st) : At X L σ mc ms ls pc (.int x :: .int i :: .ref (L.1 id) :: st) := by
  obtain ⟨hd, rfl⟩ := hd
  intro H locs la h1 h2 h3 h4
  have hc : H[L.1 id]? = some (arrV ((xD X).2.2.1 11) n (fun j => .int (σ id j))) := h1.1 id 11 n hs
  refine W.bast hX.1 hX.2.1 hc ((hX.2.2.2.2.2.1.2.1 11 (by decide) (by decide)).1 n _) (fun q => by cases q) (by rw [arrV_size]; exact hin) rfl rfl hd fun H1 e z oq => ?_
  refine kk H1 _ la (h1.put h2 hs z oq ?_) h2 (h3.put z oq (h2.2 _ _ hs)) h4
  show H1[L.1 id]? = some _
  rw [e]
  exact congrArg some arr_up
theorem r_zast (hX : Ok X cc own nm rm ret) {id n : Nat} {i x : Int32} (hd : Dc cc pc .bastore 1 nx) (hs : L.2.1 id = some (12, n)) (hin : vp_in i n) (kk : At X L (up σ id i.toNatClampNeg (vp_nar .boolean x)) mc ms ls nx st) : At X L σ mc ms ls pc (.int x :: .int i :: .ref (L.1 id) :: st) := by
  obtain ⟨hd, rfl⟩ := hd
  intro H locs la h1 h2 h3 h4
  have hc : H[L.1 id]? = some (arrV ((xD X).2.2.1 12) n (fun j => .int (σ id j))) := h1.1 id 12 n hs
  refine W.zast hX.1 hX.2.1 hc ((hX.2.2.2.2.2.1.2.1 12 (by decide) (by decide)).1 n _) (fun q => by cases q) (by rw [arrV_size]; exact hin) rfl rfl hd fun H1 e z oq => ?_
  refine kk H1 _ la (h1.put h2 hs z oq ?_) h2 (h3.put z oq (h2.2 _ _ hs)) h4
  show H1[L.1 id]? = some _
  rw [e]
  exact congrArg some arr_up
end
