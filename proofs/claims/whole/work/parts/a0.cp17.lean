/-! ===== new objects and arrays ===== -/
def zr (σ : Me) (e : Nat) : Me := fun d j => if d = e then 0 else σ d j
theorem zr_s {σ : Me} {e j : Nat} : zr σ e e j = 0 := by unfold zr; rw [if_pos rfl]
theorem zr_n {σ : Me} {e d j : Nat} (h : d ≠ e) : zr σ e d j = σ d j := by unfold zr; rw [if_neg h]
/-- L' has one cell more: e -/
def Nw (L L' : La) (e k n : Nat) : Prop := (∀ d, d ≠ e → L'.1 d = L.1 d ∧ L'.2.1 d = L.2.1 d ∧ ∀ j, L'.2.2 d j = L.2.2 d j) ∧ L'.2.1 e = some (k, n) ∧ ∀ j, L'.2.2 e j = none
/-- references go to cells -/
def Wl (L : La) : Prop := ∀ d x j t, L.2.1 d = some x → L.2.2 d j = some t → ∃ y, L.2.1 t = some y
def nwL (L : La) (e k n a : Nat) : La := (fun d => if d = e then a else L.1 d, fun d => if d = e then some (k, n) else L.2.1 d, fun d j => if d = e then none else L.2.2 d j)
theorem nwL_nw (L : La) (e k n a : Nat) : Nw L (nwL L e k n a) e k n := ⟨fun d hd => ⟨if_neg hd, if_neg hd, fun j => if_neg hd⟩, if_pos rfl, fun j => if_pos rfl⟩
theorem Wl.nw {L L' : La} {e k n : Nat} (h : Wl L) (hf : L.2.1 e = none) (q : Nw L L' e k n) : Wl L' := by
  intro d x j t hd ht
  by_cases e1 : d = e
  · subst e1; rw [q.2.2 j] at ht; cases ht
  · rw [(q.1 d e1).2.1] at hd
    rw [(q.1 d e1).2.2 j] at ht
    obtain ⟨y, hy⟩ := h d x j t hd ht
    have : t ≠ e := fun z => by rw [z, hf] at hy; cases hy
    exact ⟨y, by rw [(q.1 t this).2.1]; exact hy⟩
theorem Wl.ut {L : La} {c i : Nat} {v : Option Nat} (h : Wl L) (hv : ∀ t, v = some t → ∃ y, L.2.1 t = some y) : Wl (ut L c i v) := by
  intro d x j t hd ht
  have ht : (if d = c then (if j = i then v else L.2.2 d j) else L.2.2 d j) = some t := ht
  split at ht
  · split at ht
    · exact hv t ht
    · exact h d x j t hd ht
  · exact h d x j t hd ht
theorem Hp.nw {D : Ds} {L : La} {σ : Me} {A : Nat → Prop} {H H1 : Heap} {e k n : Nat} (h : Hp D L σ H) (hA : Ap A L) (hs : A H.size) (hf : L.2.1 e = none) (hW : Wl L) (z : H1.size = H.size + 1) (oq : ∀ q, q < H.size → H1[q]? = H[q]?) (hc : Ce D (nwL L e k n H.size) (zr σ e) e k n H1) : Hp D (nwL L e k n H.size) (zr σ e) H1 ∧ Ap A (nwL L e k n H.size) := by
  have hN := nwL_nw L e k n H.size
  have ha : (nwL L e k n H.size).1 e = H.size := if_pos rfl
  refine ⟨⟨fun d kd nd hd => ?_, fun d x hd => ?_, by rw [z]; exact Nat.le_trans h.2.2.1 (by omega), fun b hb => ?_⟩, fun i j x y hi hj hij => ?_, fun i x hi => ?_⟩
  · by_cases q : d = e
    · subst q
      rw [hN.2.1] at hd
      cases hd
      exact hc
    · rw [(hN.1 d q).2.1] at hd
      have hcd := h.1 d kd nd hd
      refine (hcd.kept (oq _ hcd.lt)).cong (hN.1 d q).1 (fun j => zr_n q) (fun j => ?_)
      rw [(hN.1 d q).2.2 j]
      cases ht : L.2.2 d j with
      | none => rfl
      | some t =>
        obtain ⟨y, hy⟩ := hW d _ j t hd ht
        have : t ≠ e := fun z => by rw [z, hf] at hy; cases hy
        show some ((nwL L e k n H.size).1 t) = some (L.1 t)
        rw [(hN.1 t this).1]
  · by_cases q : d = e
    · subst q; rw [ha]; exact h.2.2.1
    · rw [(hN.1 d q).2.1] at hd; rw [(hN.1 d q).1]; exact h.2.1 d x hd
  · rw [oq b (Nat.lt_of_lt_of_le hb h.2.2.1)]; exact h.2.2.2 b hb
  · by_cases q1 : i = e
    · by_cases q2 : j = e
      · rw [q1, q2]
      · exfalso
        rw [(hN.1 j q2).2.1] at hj
        have hlt := (h.1 j y.1 y.2 hj).lt
        rw [q1, ha, (hN.1 j q2).1] at hij
        omega
    · by_cases q2 : j = e
      · exfalso
        rw [(hN.1 i q1).2.1] at hi
        have hlt := (h.1 i x.1 x.2 hi).lt
        rw [q2, ha, (hN.1 i q1).1] at hij
        omega
      · rw [(hN.1 i q1).2.1] at hi
        rw [(hN.1 j q2).2.1] at hj
        rw [(hN.1 i q1).1, (hN.1 j q2).1] at hij
        exact hA.1 i j x y hi hj hij
  · by_cases q : i = e
    · subst q; rw [ha]; exact hs
    · rw [(hN.1 i q).2.1] at hi; rw [(hN.1 i q).1]; exact hA.2 i x hi
theorem dv_k : ∀ k, k < 10 → ∀ j, j < nf k → defaultValue (tyk k j) = if rk k j = true then .null else .int 0 := by decide +kernel
/-- the words of new -/
def NB (own : String) (idx k : Nat) : Prop := k < 10 ∧ Cond.classLink own idx (cq k).1 ∈ TT ∧ Cond.instantiable (cq k).1 (nf k) ∈ TT ∧ Cond.initialized (cq k).1 ∈ TT
section
variable {X : Cx} {cc : ByteArray} {own nm : String} {rm : Room} {ret : Option FieldType} {L : La} {σ : Me} {mc ms : Nat} {ls : List (Nat × Value)} {pc nx tgt idx : Nat} {st : List Value} {off : Int}
theorem S_push {A : Nat → Prop} {H0 H H1 : Heap} {locs : List Loc} (h3 : va_S A H0 H locs) (z : H1.size = H.size + 1) (oq : ∀ q, q < H.size → H1[q]? = H[q]?) : va_S A H0 H1 locs := ⟨Nat.le_trans h3.1 (by omega), fun x h1 h2 => (oq x (Nat.lt_of_lt_of_le h1 h3.1)).trans (h3.2.1 x h1 h2), h3.2.2⟩
theorem r_new (hX : Ok X cc own nm rm ret) {k : Nat} (e : Nat) (fl : La → List (Nat × Value)) (fs : La → List Value) (hd : Dc cc pc (.new idx) 3 nx) (hw : NB own idx k) (hf : L.2.1 e = none) (hW : Wl L) (hC : mc + 1 ≤ rm.cells ∧ ms + nf k ≤ rm.slots) (hfl : ∀ L', Nw L L' e k 0 → fl L' = ls ∧ fs L' = st) (kk : ∀ L', Nw L L' e k 0 → At X L' (zr σ e) (mc + 1) (ms + nf k) (fl L') nx (.ref (L'.1 e) :: fs L')) : At X L σ mc ms ls pc st := by
  obtain ⟨hd, rfl⟩ := hd
  obtain ⟨hk, w1, w2, w3⟩ := hw
  have hr := hX.2.2.2.2.2.2.2.2.1
  have hts := hX.2.2.2.2.1
  have hKn := hX.2.2.2.2.2.1.1 k hk
  intro H locs la h1 h2 h3 h4
  refine W.newcK hX.1 hX.2.1 hX.2.2.2.1 (hts _ w1) (hts _ w2) (hts _ w3) rfl hd (by rw [hr]; exact hC.1) (by rw [hr]; exact hC.2) hKn.2.1 rfl fun H1 kC hkC e1 z1 o1 => ?_
  have hN := nwL_nw L e k 0 H.size
  obtain ⟨g1, g2⟩ := h1.nw (k := k) (n := 0) h2 (hX.2.2.2.2.2.2.1 _ h3.1) hf hW z1 o1 (by
    unfold Ce
    rw [if_pos hk, show (nwL L e k 0 H.size).1 e = H.size from if_pos rfl]
    refine (u_born (tyk k) hts (cq_words k hk) hKn hkC e1 (cq_ty k hk)).to (fun j hj => ?_)
    rw [dv_k k hk j hj]
    unfold Vf
    split
    · show Value.null = va_rf (Option.map (nwL L e k 0 H.size).1 ((nwL L e k 0 H.size).2.2 e j))
      rw [hN.2.2 j]; rfl
    · rw [zr_s])
  obtain ⟨q1, q2⟩ := hfl _ hN
  have := kk _ hN H1 locs la g1 g2 (S_push h3 z1 o1) (by rw [q1]; exact h4)
  rw [q2, show (nwL L e k 0 H.size).1 e = H.size from if_pos rfl] at this
  exact this
theorem r_newa (hX : Ok X cc own nm rm ret) {atype : ArrayType} {n : Nat} (e k : Nat) (fl : La → List (Nat × Value)) (fs : La → List Value) (hd : Dc cc pc (.newarray atype) 2 nx) (hw : Cond.arrayClass (newarray.typeOf atype) ∈ TT) (hk : 10 ≤ k ∧ k < 13 ∧ aty k = newarray.typeOf atype ∧ defaultValue (newarray.typeOf atype) = .int 0 ∧ ("[" ++ (newarray.typeOf atype).toString) = "[" ++ (aty k).toString) (hn : n * componentBytes (newarray.typeOf atype) ≤ 536870912 ∧ n < 2 ^ 31) (hf : L.2.1 e = none) (hW : Wl L) (hC : mc + 1 ≤ rm.cells ∧ ms + n ≤ rm.slots) (hfl : ∀ L', Nw L L' e k n → fl L' = ls ∧ fs L' = st) (kk : ∀ L', Nw L L' e k n → At X L' (zr σ e) (mc + 1) (ms + n) (fl L') nx (.ref (L'.1 e) :: fs L')) : At X L σ mc ms ls pc (.int (nI n) :: st) := by
  obtain ⟨hd, rfl⟩ := hd
  have hr := hX.2.2.2.2.2.2.2.2.1
  have hts := hX.2.2.2.2.1
  obtain ⟨k1, k2, k3, k4, k5⟩ := hk
  intro H locs la h1 h2 h3 h4
  refine va_newaK hX.1 hX.2.1 (hts _ hw) rfl hd rfl (nI_pos hn.2) (nI_clamp hn.2) hn.1 (by rw [hr]; exact hC.1) (by rw [hr]; exact hC.2) rfl fun H1 cA e1 z1 o1 hAr hNm => ?_
  have hN := nwL_nw L e k n H.size
  have hcA : cA = (xD X).2.2.1 k := by
    have hRA := (hX.2.2.2.2.2.1.2.1 k k1 (by omega)).2
    rw [k5] at hNm
    rcases (show k = 10 ∨ k = 11 ∨ k = 12 by omega) with rfl | rfl | rfl <;> exact Option.some.inj (hNm.symm.trans hRA)
  subst hcA
  obtain ⟨g1, g2⟩ := h1.nw (k := k) (n := n) h2 (hX.2.2.2.2.2.2.1 _ h3.1) hf hW z1 o1 (by
    unfold Ce
    rw [if_neg (by omega), if_pos k2, show (nwL L e k n H.size).1 e = H.size from if_pos rfl, e1, k4]
    congr 2
    funext j
    rw [zr_s])
  obtain ⟨q1, q2⟩ := hfl _ hN
  have := kk _ hN H1 locs la g1 g2 (S_push h3 z1 o1) (by rw [q1]; exact h4)
  rw [q2, show (nwL L e k n H.size).1 e = H.size from if_pos rfl] at this
  exact this
theorem r_anew (hX : Ok X cc own nm rm ret) {n : Nat} {C : String} (e k : Nat) (fl : La → List (Nat × Value)) (fs : La → List Value) (hd : Dc cc pc (.anewarray idx) 3 nx) (hw : Cond.classLink own idx C ∈ TT) (hov : va_AO C (xs X)) (hk : 13 ≤ k ∧ k < 16 ∧ aty k = .object C) (hn : n * 4 ≤ 536870912 ∧ n < 2 ^ 31) (hf : L.2.1 e = none) (hW : Wl L) (hC : mc + 1 ≤ rm.cells ∧ ms + n ≤ rm.slots) (hfl : ∀ L', Nw L L' e k n → fl L' = ls ∧ fs L' = st) (kk : ∀ L', Nw L L' e k n → At X L' (zr σ e) (mc + 1) (ms + n) (fl L') nx (.ref (L'.1 e) :: fs L')) : At X L σ mc ms ls pc (.int (nI n) :: st) := by
  obtain ⟨hd, rfl⟩ := hd
  have hr := hX.2.2.2.2.2.2.2.2.1
  have hts := hX.2.2.2.2.1
  obtain ⟨k1, k2, k3⟩ := hk
  have e0 : (nI n).toNatClampNeg = n := nI_clamp hn.2
  intro H locs la h1 h2 h3 h4
  refine W.anew hX.1 hX.2.1 hX.2.2.2.1 (hts _ hw) (va_AO.use hov) rfl hd rfl (nI_pos hn.2) (by rw [e0]; exact hn.1) (by rw [hr]; exact hC.1) (by rw [hr, e0]; exact hC.2) fun cA kA comp f1 f2 f3 f4 => ?_
  rw [e0]
  generalize hH1 : H.push ({ cls := cA, slots := Array.replicate n .null, vm := .none } : Cell) = H1
  have z1 : H1.size = H.size + 1 := by rw [← hH1, Array.size_push]
  have e1 : H1[H.size]? = some (arrV cA n (fun _ => .null)) := by rw [← hH1, Array.getElem?_push_size, ← arrV_new]
  have o1 : ∀ q : Nat, q < H.size → H1[q]? = H[q]? := fun q hq => by rw [← hH1, Array.getElem?_push, if_neg (Nat.ne_of_lt hq)]
  have hN := nwL_nw L e k n H.size
  have hcA : cA = (xD X).2.2.1 k := by
    have hRA := (hX.2.2.2.2.2.1.2.1 k (by omega) k2).2
    rw [k3] at hRA
    obtain ⟨kA', comp', r1, r2, r3, r4⟩ := hRA
    exact Option.some.inj (f1.symm.trans r4)
  subst hcA
  obtain ⟨g1, g2⟩ := h1.nw (k := k) (n := n) h2 (hX.2.2.2.2.2.2.1 _ h3.1) hf hW z1 o1 (by
    unfold Ce
    rw [if_neg (by omega), if_neg (by omega), show (nwL L e k n H.size).1 e = H.size from if_pos rfl, e1]
    congr 2
    funext j
    rw [hN.2.2 j]
    rfl)
  obtain ⟨q1, q2⟩ := hfl _ hN
  have := kk _ hN H1 locs la g1 g2 (S_push h3 z1 o1) (by rw [q1]; exact h4)
  rw [q2, show (nwL L e k n H.size).1 e = H.size from if_pos rfl] at this
  exact this
/-- Object's constructor -/
theorem r_oinit (hX : Ok X cc own nm rm ret) {a : Nat} (hd : Dc cc pc (.invokespecial idx) 3 nx) (hw : Cond.methodLink own idx Lib.objectInit ∈ TT ∧ Cond.instanceMethod Lib.objectInit ∈ TT ∧ Cond.code Lib.objectInit ⟨#[0xb1]⟩ 1 none ∈ TT) (hR : 1 ≤ rm.frames ∧ 20 ≤ rm.locals) (hcat : (st.map fun v => v.category).sum ≤ 8) (kk : At X L σ mc ms ls nx st) : At X L σ mc ms ls pc (.ref a :: st) := by
  obtain ⟨hd, rfl⟩ := hd
  have hr := hX.2.2.2.2.2.2.2.2.1
  have hts := hX.2.2.2.2.1
  intro H locs la h1 h2 h3 h4
  exact W.objInit hX.1 hX.2.1 hX.2.2.2.1 (hts _ hw.1) (hts _ hw.2.1) (hts _ hw.2.2) (g := F0 (xm X) pc la (.ref a :: st)) rfl (by rw [hX.2.2.1]; exact h4.1) rfl hd (by rw [hr]; exact hR.1) (by rw [hr]; show 2 * 0 + _ + 12 ≤ _; omega) (kk H locs la h1 h2 h3 h4)
end
def isRf (t : FieldType) : Bool := match t with
  | .object _ => true | .array _ => true | _ => false
theorem rk_rf : ∀ k, k < 10 → ∀ j, j < nf k → rk k j = true → isRf (tyk k j) = true := by decide +kernel
theorem isR {k j : Nat} (hk : k < 10) (hj : j < nf k) (hr : rk k j = true) : (∀ a : Nat, narrow (tyk k j) (.ref a) = .ref a ∧ fits (tyk k j) (.ref a) = true) ∧ narrow (tyk k j) .null = .null ∧ fits (tyk k j) .null = true := by
  have h := rk_rf k hk j hj hr
  generalize tyk k j = t at h
  cases t <;> first | (exact ⟨fun a => ⟨rfl, rfl⟩, rfl, rfl⟩) | (exact absurd h (by unfold isRf; simp))
section
variable {X : Cx} {cc : ByteArray} {own nm : String} {rm : Room} {ret : Option FieldType} {L : La} {σ : Me} {mc ms : Nat} {ls : List (Nat × Value)} {pc nx tgt idx : Nat} {st : List Value} {off : Int}
/-- a reference goes into a field: final or not -/
theorem r_putR (hX : Ok X cc own nm rm ret) {id k j n : Nat} (v : Option Nat) (hd : Dc cc pc (.putfield idx) 3 nx) (hf : FL own idx k j) (hs : L.2.1 id = some (k, n)) (hr : rk k j = true) (hfin : (fT k j).2.2.2 = false ∨ (nm = "<init>" ∧ (fT k j).1 = own)) (kk : At X (ut L id j v) σ mc ms ls nx st) : At X L σ mc ms ls pc (va_rf (v.map L.1) :: .ref (L.1 id) :: st) := by
  obtain ⟨hd, rfl⟩ := hd
  obtain ⟨hk, hj, hw⟩ := hf
  obtain ⟨hx, hb, hxn, hown, hts, hK, hA0, hlk, hrm, hret, hnm⟩ := hX
  intro H locs la h1 h2 h3 h4
  have hc := h1.1 id k n hs
  unfold Ce at hc
  rw [if_pos hk] at hc
  have hap := obj_apart hts hK hk
  obtain ⟨cell, q1, q2, q3, q4⟩ := hc
  obtain ⟨hS, hfc, kC, hkC, hkind⟩ := hK.1 k hk
  obtain ⟨cf, kf, fi, f, hi, hsl⟩ := hS j hj
  have hlay := hts _ (cq_words k hk _ (u_in_lay hj))
  have hst := (u_facts hfc hkC (u_lays hts (cq_words k hk) hj) hi).1
  have hnf : narrow (tyk k j) (va_rf (v.map L.1)) = va_rf (v.map L.1) ∧ fits (tyk k j) (va_rf (v.map L.1)) = true := by
    cases v with
    | none => exact (isR hk hj hr).2
    | some t => exact (isR hk hj hr).1 _
  have fin : ∀ H' : Heap, H'[L.1 id]? = some (cell.setSlot f.slot (va_rf (v.map L.1))) → H'.size = H.size → (∀ q, q ≠ L.1 id → H'[q]? = H[q]?) → W (xp X) (xl X) (xe X) (xR X) (xs X) (xm X) (xa X) (xb X) (xme X) (xc X) H' (locs ++ [⟨L.1 id, f.slot⟩]) mc ms (xQ X) (F0 (xm X) (pc + 3) la st) := fun H' e1 e2 e3 => by
    rw [hsl] at e1 ⊢
    refine kk H' _ la (h1.putR h2 hs e2 e3 ?_) h2 (h3.put e2 e3 (h2.2 _ _ hs)) h4
    unfold Ce
    rw [if_pos hk]
    refine t_OB.to (V := updV (Vf k (σ id) (fun j => (L.2.2 id j).map L.1)) j (va_rf (v.map L.1))) ⟨_, e1, q2, q3, t_set q4 hap hj _⟩ (fun i _ => ?_)
    by_cases e : i = j
    · subst e
      simp [updV, Vf, hr, ut]
    · simp [updV, Vf, e, ut]
  by_cases hff : (fT k j).2.2.2 = true
  · rcases hfin with hz | ⟨hin, hdecl⟩
    · rw [hff] at hz; cases hz
    · unfold u_lay at hlay
      rw [if_pos (show ((cq k).2.1 j).2.2.2 = true from hff)] at hlay
      have hcf : (xm X).cls = cf := by
        obtain ⟨_, _, c', _, _, _, -, -, hf', -, -, -, hown2, -⟩ := Cond.laysFinal_spec hlay
        have e1 : c' = cf := by have := hi.symm.trans hf'; simp at this; exact this.1.symm
        have hd2 : (fT k j).1 = own := hdecl
        have hown2 : (xs X).vm.findClass (fT k j).1 = some c' := hown2
        rw [hd2] at hown2
        rw [← e1]; exact Option.some.inj (hown.symm.trans hown2)
      have h6 := u_fits hfc hkC hkind (Or.inr hlay) hi (cq_ty k hk j hj) hnf.1 hnf.2
      exact W.putFinK hx hb hown (hts _ hw) hi hst hcf (hnm.trans hin) (by rw [q2]; exact h6) q1 q3 (by rw [hsl]; exact k2_hasslot (q4 j hj)) rfl rfl hd fin
  · unfold u_lay at hlay
    rw [if_neg (show ¬ ((cq k).2.1 j).2.2.2 = true from hff)] at hlay
    have h6 := u_store hfc hkC hkind hlay hi (cq_ty k hk j hj) hnf.1 hnf.2
    exact W.putK hx hb (f := f) ⟨hown, hts _ hw, ⟨_, _, _, hi⟩, hst⟩ (by rw [q2]; exact h6) q1 q3 (by rw [hsl]; exact k2_hasslot (q4 j hj)) rfl rfl hd fin
/-- a final int field, in a constructor -/
theorem r_putIF (hX : Ok X cc own nm rm ret) {id k j n : Nat} {v : Int32} (hd : Dc cc pc (.putfield idx) 3 nx) (hf : FL own idx k j) (hs : L.2.1 id = some (k, n)) (hr : rk k j = false) (hff : (fT k j).2.2.2 = true) (hin : nm = "<init>" ∧ (fT k j).1 = own) (hnf : narrow (tyk k j) (.int v) = .int v ∧ fits (tyk k j) (.int v) = true) (kk : At X L (up σ id j v) mc ms ls nx st) : At X L σ mc ms ls pc (.int v :: .ref (L.1 id) :: st) := by
  obtain ⟨hd, rfl⟩ := hd
  obtain ⟨hk, hj, hw⟩ := hf
  obtain ⟨hx, hb, hxn, hown, hts, hK, hA0, hlk, hrm, hret, hnm⟩ := hX
  intro H locs la h1 h2 h3 h4
  have hc := h1.1 id k n hs
  unfold Ce at hc
  rw [if_pos hk] at hc
  have hap := obj_apart hts hK hk
  obtain ⟨cell, q1, q2, q3, q4⟩ := hc
  obtain ⟨hS, hfc, kC, hkC, hkind⟩ := hK.1 k hk
  obtain ⟨cf, kf, fi, f, hi, hsl⟩ := hS j hj
  have hlay := hts _ (cq_words k hk _ (u_in_lay hj))
  have hst := (u_facts hfc hkC (u_lays hts (cq_words k hk) hj) hi).1
  unfold u_lay at hlay
  rw [if_pos (show ((cq k).2.1 j).2.2.2 = true from hff)] at hlay
  have hcf : (xm X).cls = cf := by
    obtain ⟨_, _, c', _, _, _, -, -, hf', -, -, -, hown2, -⟩ := Cond.laysFinal_spec hlay
    have e1 : c' = cf := by have := hi.symm.trans hf'; simp at this; exact this.1.symm
    have hown2 : (xs X).vm.findClass (fT k j).1 = some c' := hown2
    rw [hin.2] at hown2
    rw [← e1]; exact Option.some.inj (hown.symm.trans hown2)
  have h6 := u_fits hfc hkC hkind (Or.inr hlay) hi (cq_ty k hk j hj) hnf.1 hnf.2
  refine W.putFinK hx hb hown (hts _ hw) hi hst hcf (hnm.trans hin.1) (by rw [q2]; exact h6) q1 q3 (by rw [hsl]; exact k2_hasslot (q4 j hj)) rfl rfl hd fun H' e1 e2 e3 => ?_
  rw [hsl] at e1 ⊢
  refine kk H' _ la (h1.put h2 hs e2 e3 ?_) h2 (h3.put e2 e3 (h2.2 _ _ hs)) h4
  unfold Ce
  rw [if_pos hk]
  refine t_OB.to (V := updV (Vf k (σ id) (fun j => (L.2.2 id j).map L.1)) j (.int v)) ⟨_, e1, q2, q3, t_set q4 hap hj _⟩ (fun i _ => ?_)
  by_cases e : i = j
  · subst e
    simp [updV, Vf, hr, up_s]
  · simp [updV, Vf, e, up_n (Or.inr e)]
/-- a reference goes into an array -/
theorem r_aast (hX : Ok X cc own nm rm ret) {id k n i ci t m : Nat} (hd : Dc cc pc .aastore 1 nx) (hs : L.2.1 id = some (k, n)) (hk : 13 ≤ k ∧ k < 16) (hi : i < n ∧ n < 2 ^ 31) (ht : L.2.1 t = some (ci, m)) (hci : ci < 10 ∧ aty k = .object (cq ci).1) (kk : At X (ut L id i (some t)) σ mc ms ls nx st) : At X L σ mc ms ls pc (.ref (L.1 t) :: .int (nI i) :: .ref (L.1 id) :: st) := by
  obtain ⟨hd, rfl⟩ := hd
  intro H locs la h1 h2 h3 h4
  have hc := h1.1 id k n hs
  unfold Ce at hc
  rw [if_neg (by omega), if_neg (by omega)] at hc
  have hv := h1.1 t ci m ht
  unfold Ce at hv
  rw [if_pos hci.1] at hv
  obtain ⟨cellV, g1, g2, g3, -⟩ := hv
  have hcls := (hX.2.2.2.2.2.1.1 ci hci.1).2
  have hRA := (hX.2.2.2.2.2.1.2.1 k (by omega) hk.2).2
  rw [hci.2] at hRA
  obtain ⟨kA, comp, k1, k2, k3, -⟩ := hRA
  have hcomp : comp = (xD X).1 ci := Option.some.inj (k3.symm.trans hcls.1)
  subst hcomp
  obtain ⟨kC, hkC, -⟩ := hcls.2
  have e0 : (nI i).toNatClampNeg = i := nI_clamp (by omega)
  refine W.aast hX.1 hX.2.1 hc (fun q h => by cases h) (fun h => by cases h) k1 k2 rfl hkC ⟨nI_pos (by omega), by rw [e0, arrV_size]; exact hi.1⟩ g1 (fun q h => by rw [g3] at h; cases h) (by rw [g2]; exact hkC) (by rw [g2]; exact va_assign hcls) rfl rfl hd fun H1 e z oq => ?_
  refine kk H1 _ la (h1.putR h2 hs z oq ?_) h2 (h3.put z oq (h2.2 _ _ hs)) h4
  unfold Ce
  rw [if_neg (by omega), if_neg (by omega), show (ut L id i (some t)).1 id = L.1 id from rfl, e, e0, arrV_store]
  congr 2
  funext q
  by_cases hq : q = i
  · subst hq
    simp [updV, ut, va_rf]
  · simp [updV, ut, hq]
theorem r_aastN (hX : Ok X cc own nm rm ret) {id k n i : Nat} {C : String} (hd : Dc cc pc .aastore 1 nx) (hs : L.2.1 id = some (k, n)) (hk : 13 ≤ k ∧ k < 16 ∧ aty k = .object C) (hi : i < n ∧ n < 2 ^ 31) (kk : At X (ut L id i none) σ mc ms ls nx st) : At X L σ mc ms ls pc (.null :: .int (nI i) :: .ref (L.1 id) :: st) := by
  obtain ⟨hd, rfl⟩ := hd
  intro H locs la h1 h2 h3 h4
  have hc := h1.1 id k n hs
  unfold Ce at hc
  rw [if_neg (by omega), if_neg (by omega)] at hc
  have e0 : (nI i).toNatClampNeg = i := nI_clamp (by omega)
  have har := (hX.2.2.2.2.2.1.2.1 k (by omega) hk.2.1).1 n (fun j => va_rf ((L.2.2 id j).map L.1))
  rw [hk.2.2] at har
  refine va_WaastN (C := C) hX.1 hX.2.1 hc har (fun h => by cases h) (by rw [arrV_size]; exact vp_in_nI hi.1 hi.2) rfl rfl hd fun H1 e z oq => ?_
  refine kk H1 _ la (h1.putR h2 hs z oq ?_) h2 (h3.put z oq (h2.2 _ _ hs)) h4
  unfold Ce
  rw [if_neg (by omega), if_neg (by omega), show (ut L id i none).1 id = L.1 id from rfl, e, e0, arrV_store]
  congr 2
  funext q
  by_cases hq : q = i
  · subst hq
    simp [updV, ut, va_rf]
  · simp [updV, ut, hq]
end
