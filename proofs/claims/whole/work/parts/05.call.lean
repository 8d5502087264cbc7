/-! ===== contracts ===== -/
/-- what a method may write: the cells of the layout, and all that is new -/
def fr (L : La) (sz : Nat) : Nat → Prop := fun q => (∃ id x, L.2.1 id = some x ∧ L.1 id = q) ∨ sz ≤ q
abbrev Po : Type := Option Value → La → Me → Prop
def Pr (D : Ds) (L : La) (σ : Me) (sz : Nat) (As : List Value) : Array Value → State → Prop := va_Pc As (fun U => U.heap.size = sz ∧ Hp D L σ U.heap ∧ Kd D U ∧ Ap (fun _ => True) L)
def Qr (D : Ds) (L : La) (sz : Nat) (post : Po) : Array Value → State → Outcome → State → Prop := fun _ s oc t => (∃ v L' σ', oc = .returned v ∧ post v L' σ' ∧ Hp D L' σ' t.heap ∧ Ap (fr L sz) L') ∧ va_F (fr L sz) s t
def Ct (l : Launch) (y : MethodName) (cc : ByteArray) (nl : Nat) (ret : Option FieldType) (rm : Room) (D : Ds) (L : La) (σ : Me) (As : List Value) (post : Po) : Prop :=
  ∀ sz : Nat, Met l y (.code y cc nl ret :: TT) rm (Pr D L σ sz As) (Qr D L sz post) rm.cells rm.slots (fr L sz)
def Rq (X : Cx) (L : La) (rm : Room) (post : Po) : Prop := xQ X = MQ (xb X) (Qr (xD X) L (xs X).heap.size post) (xa X) (xs X) rm.cells rm.slots (fr L (xs X).heap.size) ∧ xA X = fr L (xs X).heap.size
theorem Ap.fr {A : Nat → Prop} {L : La} {sz : Nat} (h : Ap A L) : Ap (fr L sz) L := ⟨h.1, fun i x hi => Or.inl ⟨i, x, hi, rfl⟩⟩
theorem Ap.wk {A B : Nat → Prop} {L : La} (h : Ap A L) (hAB : ∀ q, A q → B q) : Ap B L := ⟨h.1, fun i x hi => hAB _ (h.2 i x hi)⟩
/-- a contract out of a walk of the body -/
theorem Ct.of {l : Launch} {y : MethodName} {cc : ByteArray} {nl : Nat} {ret : Option FieldType} {rm : Room} {D : Ds} {L : La} {σ : Me} {As : List Value} {post : Po} (hy : plainName y.cls = true) (hl : (lg_sl As).length ≤ nl)
    (body : ∀ X : Cx, xl X = l → xD X = D → xn X = nl → Ok X cc y.cls y.name rm ret → Rq X L rm post → At X L σ 0 0 (lv_args 0 As) 0 []) : Ct l y cc nl ret rm D L σ As post := by
  intro sz
  refine Met.ofW (cc := cc) (maxL := nl) (ret := ret) hy rfl ?_
  intro p e s m args below meth c s₁ B hml hv
  obtain ⟨rfl, hsz, hP, hK, hA⟩ := hv
  subst hsz
  have hts := atoms_spec (ws := .code y cc nl ret :: TT) B.pre
  have key := body (p, l, e, rm, s, m, As.toArray, below, meth, c, D, fr L s.heap.size, MQ below (Qr D L s.heap.size post) As.toArray s rm.cells rm.slots (fr L s.heap.size), nl) rfl rfl rfl ⟨B.exec, B.bytes, hml, findClass_of_methodNamed B.named, fun w hw => hts w (List.mem_cons_of_mem _ hw), hK, fun q h => Or.inr h, B.notSynchronized, rfl, B.returns, (name_of_methodNamed B.named B.method).1⟩ ⟨rfl, rfl⟩
  have hla := lv_entry As (n := nl) hl
  rw [lg_entry_eq]
  exact key s.heap [] _ hP hA.fr va_S.rf hla
section
variable {X : Cx} {cc : ByteArray} {own nm : String} {rm : Room} {ret : Option FieldType} {L : La} {σ : Me} {mc ms : Nat} {ls : List (Nat × Value)} {pc nx tgt : Nat} {st : List Value} {off : Int}
theorem At.widen (hc : mc ≤ rm.cells) {mc' ms' : Nat} (h1 : mc ≤ mc') (h2 : ms ≤ ms') (k : At X L σ mc' ms' ls pc st) : At X L σ mc ms ls pc st :=
  fun H locs la e1 e2 e3 e4 => W.widen h1 h2 (k H locs la e1 e2 e3 e4)
theorem r_ireturn (hX : Ok X cc own nm rm (some .int)) {L0 : La} {post : Po} (hQ : Rq X L0 rm post) {r : Int32} (hd : Dc cc pc .ireturn 1 nx) (hc : mc ≤ rm.cells ∧ ms ≤ rm.slots) (hp : post (some (.int r)) L σ) : At X L σ mc ms ls pc [.int r] := by
  obtain ⟨hd, rfl⟩ := hd
  intro H locs la h1 h2 h3 h4
  obtain ⟨hq, hA⟩ := hQ
  rw [hA] at h2 h3
  refine W.widen hc.1 hc.2 ?_
  rw [hq]
  exact W.iret hX.1 hX.2.1 hX.2.2.2.2.2.2.2.2.2.1 (fun t ht hW => ⟨⟨_, L, σ, rfl, hp, by rw [ht]; exact h1, h2⟩, h3.F ht⟩) h3.2.2 hd hX.2.2.2.2.2.2.2.1
theorem r_zreturn (hX : Ok X cc own nm rm (some .boolean)) {L0 : La} {post : Po} (hQ : Rq X L0 rm post) {r : Int32} (hd : Dc cc pc .ireturn 1 nx) (hc : mc ≤ rm.cells ∧ ms ≤ rm.slots) (hn : narrow .boolean (.int r) = .int r) (hp : post (some (.int r)) L σ) : At X L σ mc ms ls pc [.int r] := by
  obtain ⟨hd, rfl⟩ := hd
  intro H locs la h1 h2 h3 h4
  obtain ⟨hq, hA⟩ := hQ
  rw [hA] at h2 h3
  refine W.widen hc.1 hc.2 ?_
  rw [hq]
  exact W.zret hX.1 hX.2.1 hX.2.2.2.2.2.2.2.2.2.1 hn (fun t ht hW => ⟨⟨_, L, σ, rfl, hp, by rw [ht]; exact h1, h2⟩, h3.F ht⟩) h3.2.2 hd hX.2.2.2.2.2.2.2.1
theorem r_treturn {ty : FieldType} (hX : Ok X cc own nm rm (some ty)) {L0 : La} {post : Po} (hQ : Rq X L0 rm post) {r : Int32} (hd : Dc cc pc .ireturn 1 nx) (hc : mc ≤ rm.cells ∧ ms ≤ rm.slots) (hn : narrow ty (.int r) = .int r) (hp : post (some (.int r)) L σ) : At X L σ mc ms ls pc [.int r] := by
  obtain ⟨hd, rfl⟩ := hd
  intro H locs la h1 h2 h3 h4
  obtain ⟨hq, hA⟩ := hQ
  rw [hA] at h2 h3
  refine W.widen hc.1 hc.2 ?_
  rw [hq]
  exact W.zret hX.1 hX.2.1 hX.2.2.2.2.2.2.2.2.2.1 hn (fun t ht hW => ⟨⟨_, L, σ, rfl, hp, by rw [ht]; exact h1, h2⟩, h3.F ht⟩) h3.2.2 hd hX.2.2.2.2.2.2.2.1
theorem r_return (hX : Ok X cc own nm rm none) {L0 : La} {post : Po} (hQ : Rq X L0 rm post) (hd : Dc cc pc .return_ 1 nx) (hc : mc ≤ rm.cells ∧ ms ≤ rm.slots) (hp : post none L σ) : At X L σ mc ms ls pc [] := by
  obtain ⟨hd, rfl⟩ := hd
  intro H locs la h1 h2 h3 h4
  obtain ⟨hq, hA⟩ := hQ
  rw [hA] at h2 h3
  refine W.widen hc.1 hc.2 ?_
  rw [hq]
  exact W.vret hX.1 hX.2.1 hX.2.2.2.2.2.2.2.2.2.1 (fun t ht hW => ⟨⟨_, L, σ, rfl, hp, by rw [ht]; exact h1, h2⟩, h3.F ht⟩) h3.2.2 hd hX.2.2.2.2.2.2.2.1
theorem r_areturn {rt : FieldType} (hX : Ok X cc own nm rm (some rt)) {L0 : La} {post : Po} (hQ : Rq X L0 rm post) {v : Value} (hd : Dc cc pc .areturn 1 nx) (hc : mc ≤ rm.cells ∧ ms ≤ rm.slots) (hrt : (∃ n, rt = .object n) ∨ ∃ t, rt = .array t) (hv : v = .null ∨ ∃ a, v = .ref a) (hp : post (some v) L σ) : At X L σ mc ms ls pc [v] := by
  obtain ⟨hd, rfl⟩ := hd
  intro H locs la h1 h2 h3 h4
  obtain ⟨hq, hA⟩ := hQ
  rw [hA] at h2 h3
  refine W.widen hc.1 hc.2 ?_
  rw [hq]
  exact W.aret hX.1 hX.2.1 hX.2.2.2.2.2.2.2.2.2.1 hrt hv (fun t ht hW => ⟨⟨_, L, σ, rfl, hp, by rw [ht]; exact h1, h2⟩, h3.F ht⟩) h3.2.2 hd hX.2.2.2.2.2.2.2.1
/-! ===== calls ===== -/
/-- the words of a call of y by index idx of own's pool -/
def CB (own : String) (idx : Nat) (y : MethodName) (cy : ByteArray) (ny : Nat) (ry : Option FieldType) (np : Nat) : Prop :=
  Cond.methodLink own idx y ∈ TT ∧ Cond.initialized y.cls ∈ TT ∧ Cond.code y cy ny ry ∈ TT ∧ y.cls ≠ "java/lang/invoke/MethodHandle" ∧ y.cls ≠ "java/lang/invoke/VarHandle" ∧ (parseMethodDescriptor y.desc).map (fun d => d.parameters.length) = some np
theorem TT_good {y : MethodName} {cy : ByteArray} {ny : Nat} {ry : Option FieldType} (h : Cond.code y cy ny ry ∈ TT) : GoodIn TT (.code y cy ny ry :: TT) := by
  intro w hw
  rcases List.mem_cons.mp hw with e | e
  · subst e
    exact ⟨h, good_of_word (List.mem_filter.mp h).2⟩
  · exact ⟨e, good_of_word (List.mem_filter.mp e).2⟩
theorem CB.of (hX : Ok X cc own nm rm ret) {idx : Nat} {y : MethodName} {cy : ByteArray} {ny np : Nat} {ry : Option FieldType} {rmy : Room} (h : CB own idx y cy ny ry np) (hR : rmy.frames + 1 ≤ rm.frames ∧ 8 + (ny + 11) + rmy.locals ≤ rm.locals) : CallB (xR X) (xs X) (xa X) own idx y cy ny ry (.code y cy ny ry :: TT) rmy rmy.cells rmy.slots np := by
  obtain ⟨h1, h2, h3, h4, h5, h6⟩ := h
  have hts := hX.2.2.2.2.1
  refine ⟨rfl, rfl, ?_, ?_, pay_in hts (TT_good h3), List.mem_cons_self, hts _ h3, hts _ h2, ⟨h4, h5⟩, fun sig h => ?_, hts _ h1⟩
  · rw [hX.2.2.2.2.2.2.2.2.1]; exact hR.1
  · rw [hX.2.2.2.2.2.2.2.2.1]; exact hR.2
  · rw [h] at h6
    exact (Option.some.inj h6).symm
theorem Pr.blind {D : Ds} {L : La} {σ : Me} {sz : Nat} {As : List Value} : FrameBlind (Pr D L σ sz As) := by
  intro a U g mk h
  obtain ⟨e, h1, h2, h3, h4⟩ := h
  exact ⟨e, h1, h2, Kd.same (s := U) (U := U.calling g mk a) rfl h3, h4⟩
theorem fr_in (hX : Ok X cc own nm rm ret) {H : Heap} {locs : List Loc} (h2 : Ap (xA X) L) (h3 : va_S (xA X) (xs X).heap H locs) : ∀ q, fr L H.size q → xA X q := by
  intro q hq
  rcases hq with ⟨id, x, h, e⟩ | h
  · rw [← e]; exact h2.2 id x h
  · exact hX.2.2.2.2.2.2.1 q (Nat.le_trans h3.1 h)
/-- behind a call -/
theorem back_call (hX : Ok X cc own nm rm ret) {H : Heap} {locs : List Loc} {la : Array Slot} {post : Po} {rmy : Room} {rest st0 : List Value} {al : List Value} (h2 : Ap (xA X) L) (h3 : va_S (xA X) (xs X).heap H locs) (h4 : lv_has la (xn X) ls)
    (hr : va_Run (xp X) (xl X) (xe X) (xR X) (xs X) (xm X) (xa X) (xb X) (xme X) (xc X) H locs mc ms rmy.cells rmy.slots (F0 (xm X) pc la st0) rest (Qr (xD X) L H.size post al.toArray) (fr L H.size))
    (kk : ∀ v L' σ', post v L' σ' → At X L' σ' (mc + rmy.cells) (ms + rmy.slots) ls (pc + 3) (v.toList ++ rest)) : W (xp X) (xl X) (xe X) (xR X) (xs X) (xm X) (xa X) (xb X) (xme X) (xc X) H locs mc ms (xQ X) (F0 (xm X) pc la st0) := by
  intro T hT Y
  obtain ⟨v, s0, t, T', Lc, h0, Y', hL, e1, e2, ⟨⟨v', L', σ', hv, hp, hH, hA'⟩, hz, hk⟩, hst⟩ := hr T hT Y
  cases hv
  rw [h0] at hz hk
  have hin := fr_in hX h2 h3
  obtain ⟨t2, a1, b1⟩ := kk v L' σ' hp T'.heap (locs ++ Lc) la (by rw [e1]; exact hH) (hA'.wk hin)
    ⟨Nat.le_trans h3.1 (by rw [e1]; exact hz), fun q q1 q2 => by rw [e1, hk q (Nat.lt_of_lt_of_le q1 h3.1) (fun z => q2 (hin q z))]; exact h3.2.1 q q1 q2, fun q hq => by
      rcases List.mem_append.mp hq with h | h
      · exact h3.2.2 q h
      · exact hin _ (hL q h)⟩ h4 T' rfl Y'
  exact ⟨t2, hst t2 a1, b1⟩
theorem fix_of (hX : Ok X cc own nm rm ret) : CallFix (xp X) (xm X) (xc X) cc (xn X) (xs X) (xa X) TT own := ⟨hX.1, hX.2.1, hX.2.2.1, hX.2.2.2.1, hX.2.2.2.2.1⟩
theorem r_callS (hX : Ok X cc own nm rm ret) {idx : Nat} {y : MethodName} {cy : ByteArray} {ny np : Nat} {ry : Option FieldType} {rmy : Room} {post : Po} {As rest st0 : List Value} (hM : Ct (xl X) y cy ny ry rmy (xD X) L σ As post) (hd : Dc cc pc (.invokestatic idx) 3 nx) (hw : CB own idx y cy ny ry np) (hs : Cond.static y ∈ TT) (hn : As.length = np) (hst : st0 = As.reverse ++ rest)
    (hR : rmy.frames + 1 ≤ rm.frames ∧ 8 + (ny + 11) + rmy.locals ≤ rm.locals) (hC : mc + rmy.cells ≤ rm.cells ∧ ms + rmy.slots ≤ rm.slots) (hcat : (rest.map fun v => v.category).sum ≤ 8)
    (kk : ∀ v L' σ', post v L' σ' → At X L' σ' (mc + rmy.cells) (ms + rmy.slots) ls nx (v.toList ++ rest)) : At X L σ mc ms ls pc st0 := by
  obtain ⟨hd, rfl⟩ := hd
  intro H locs la h1 h2 h3 h4
  refine back_call hX (al := As) h2 h3 h4 (va_runS (As := As) (rest := rest) (fix_of hX) (hM H.size) ⟨CB.of hX hw hR, hX.2.2.2.2.1 _ hs⟩ ⟨Pr.blind, fun U hU hW => ⟨rfl, by rw [hU], by rw [hU]; exact h1, hX.2.2.2.2.2.1.warm hW, h2.wk (fun _ _ => trivial)⟩⟩ rfl hn h4.1 hst (lv_room hcat) hd (by rw [hX.2.2.2.2.2.2.2.2.1]; exact hC)) kk
theorem recv_at (hX : Ok X cc own nm rm ret) {H : Heap} {id k n : Nat} (h1 : Hp (xD X) L σ H) (hs : L.2.1 id = some (k, n)) (hk : k < 10) : ∃ cell : Cell, H[L.1 id]? = some cell ∧ cell.vm.isStatics = false ∧ (xs X).vm.findClass (cq k).1 = some cell.cls := by
  have hc := h1.1 id k n hs
  unfold Ce at hc
  rw [if_pos hk] at hc
  obtain ⟨cell, q1, q2, q3, q4⟩ := hc
  exact ⟨cell, q1, by rw [q3]; rfl, by rw [q2]; exact (hX.2.2.2.2.2.1.1 k hk).2.1⟩
theorem r_callV (hX : Ok X cc own nm rm ret) {idx id k n : Nat} {y : MethodName} {cy : ByteArray} {ny np : Nat} {ry : Option FieldType} {rmy : Room} {post : Po} {As rest st0 : List Value} (hM : Ct (xl X) y cy ny ry rmy (xD X) L σ (.ref (L.1 id) :: As) post) (hd : Dc cc pc (.invokevirtual idx) 3 nx) (hw : CB own idx y cy ny ry np) (hs : Cond.instanceMethod y ∈ TT ∧ Cond.selects (cq k).1 y y ∈ TT) (hid : L.2.1 id = some (k, n)) (hk : k < 10) (hn : As.length = np) (hst : st0 = As.reverse ++ .ref (L.1 id) :: rest)
    (hR : rmy.frames + 1 ≤ rm.frames ∧ 8 + (ny + 11) + rmy.locals ≤ rm.locals) (hC : mc + rmy.cells ≤ rm.cells ∧ ms + rmy.slots ≤ rm.slots) (hcat : (rest.map fun v => v.category).sum ≤ 8)
    (kk : ∀ v L' σ', post v L' σ' → At X L' σ' (mc + rmy.cells) (ms + rmy.slots) ls nx (v.toList ++ rest)) : At X L σ mc ms ls pc st0 := by
  obtain ⟨hd, rfl⟩ := hd
  intro H locs la h1 h2 h3 h4
  refine back_call hX (al := .ref (L.1 id) :: As) h2 h3 h4 (va_runV (As := As) (rest := rest) (fix_of hX) (hM H.size) ⟨CB.of hX hw hR, hX.2.2.2.2.1 _ hs.1, hX.2.2.2.2.1 _ hs.2⟩ ⟨Pr.blind, recv_at hX h1 hid hk, fun U hU hW => ⟨rfl, by rw [hU], by rw [hU]; exact h1, hX.2.2.2.2.2.1.warm hW, h2.wk (fun _ _ => trivial)⟩⟩ rfl hn h4.1 hst (lv_room hcat) hd (by rw [hX.2.2.2.2.2.2.2.2.1]; exact hC)) kk
theorem r_callI (hX : Ok X cc own nm rm ret) {idx b : Nat} {y : MethodName} {cy : ByteArray} {ny np : Nat} {rmy : Room} {post : Po} {As rest st0 : List Value} (hM : Ct (xl X) y cy ny none rmy (xD X) L σ (.ref b :: As) post) (hd : Dc cc pc (.invokespecial idx) 3 nx) (hw : CB own idx y cy ny none np) (hs : y.name = "<init>" ∧ Cond.instanceMethod y ∈ TT) (hn : As.length = np) (hst : st0 = As.reverse ++ .ref b :: rest)
    (hR : rmy.frames + 1 ≤ rm.frames ∧ 8 + (ny + 11) + rmy.locals ≤ rm.locals) (hC : mc + rmy.cells ≤ rm.cells ∧ ms + rmy.slots ≤ rm.slots) (hcat : (rest.map fun v => v.category).sum ≤ 8)
    (kk : ∀ v L' σ', post v L' σ' → At X L' σ' (mc + rmy.cells) (ms + rmy.slots) ls nx (v.toList ++ rest)) : At X L σ mc ms ls pc st0 := by
  obtain ⟨hd, rfl⟩ := hd
  intro H locs la h1 h2 h3 h4
  refine back_call hX (al := .ref b :: As) h2 h3 h4 (va_runI (As := As) (rest := rest) (fix_of hX) (hM H.size) ⟨CB.of hX hw hR, hs.1, hX.2.2.2.2.1 _ hs.2⟩ ⟨Pr.blind, fun U hU hW => ⟨rfl, by rw [hU], by rw [hU]; exact h1, hX.2.2.2.2.2.1.warm hW, h2.wk (fun _ _ => trivial)⟩⟩ rfl hn h4.1 hst (lv_room hcat) hd (by rw [hX.2.2.2.2.2.2.2.2.1]; exact hC)) kk
end
def PF (L : La) (σ : Me) (r : Int32) : Po := fun v L' σ' => v = some (.int r) ∧ L' = L ∧ σ' = σ
def PI (L : La) (p : Int32 → Me → Prop) : Po := fun v L' σ' => ∃ r, v = some (.int r) ∧ L' = L ∧ p r σ'
def PV (L : La) (p : Me → Prop) : Po := fun v L' σ' => v = none ∧ L' = L ∧ p σ'
section
variable {X : Cx} {cc : ByteArray} {own nm : String} {rm : Room} {ret : Option FieldType} {L : La} {σ : Me} {mc ms : Nat} {ls : List (Nat × Value)} {pc nx tgt : Nat} {st : List Value} {off : Int} {idx : Nat} {y : MethodName} {cy : ByteArray} {ny np : Nat} {ry : Option FieldType} {fr0 lo0 : Nat} {As rest st0 : List Value}
theorem r_callSF (hX : Ok X cc own nm rm ret) {r : Int32} (hM : Ct (xl X) y cy ny ry { frames := fr0, cells := 0, slots := 0, locals := lo0 } (xD X) L σ As (PF L σ r)) (hd : Dc cc pc (.invokestatic idx) 3 nx) (hw : CB own idx y cy ny ry np ∧ Cond.static y ∈ TT) (hn : As.length = np) (hst : st0 = As.reverse ++ rest)
    (hR : fr0 + 1 ≤ rm.frames ∧ 8 + (ny + 11) + lo0 ≤ rm.locals) (hC : mc ≤ rm.cells ∧ ms ≤ rm.slots) (hcat : (rest.map fun v => v.category).sum ≤ 8) (kk : At X L σ mc ms ls nx (.int r :: rest)) : At X L σ mc ms ls pc st0 := by
  refine r_callS hX hM hd hw.1 hw.2 hn hst hR hC hcat ?_
  rintro v L' σ' ⟨rfl, rfl, rfl⟩
  exact kk
theorem r_callSI (hX : Ok X cc own nm rm ret) {q : Int32 → Me → Prop} (hM : Ct (xl X) y cy ny ry { frames := fr0, cells := 0, slots := 0, locals := lo0 } (xD X) L σ As (PI L q)) (hd : Dc cc pc (.invokestatic idx) 3 nx) (hw : CB own idx y cy ny ry np ∧ Cond.static y ∈ TT) (hn : As.length = np) (hst : st0 = As.reverse ++ rest)
    (hR : fr0 + 1 ≤ rm.frames ∧ 8 + (ny + 11) + lo0 ≤ rm.locals) (hC : mc ≤ rm.cells ∧ ms ≤ rm.slots) (hcat : (rest.map fun v => v.category).sum ≤ 8) (kk : ∀ r σ', q r σ' → At X L σ' mc ms ls nx (.int r :: rest)) : At X L σ mc ms ls pc st0 := by
  refine r_callS hX hM hd hw.1 hw.2 hn hst hR hC hcat ?_
  rintro v L' σ' ⟨r, rfl, rfl, h⟩
  exact kk r σ' h
theorem r_callSV (hX : Ok X cc own nm rm ret) {q : Me → Prop} (hM : Ct (xl X) y cy ny ry { frames := fr0, cells := 0, slots := 0, locals := lo0 } (xD X) L σ As (PV L q)) (hd : Dc cc pc (.invokestatic idx) 3 nx) (hw : CB own idx y cy ny ry np ∧ Cond.static y ∈ TT) (hn : As.length = np) (hst : st0 = As.reverse ++ rest)
    (hR : fr0 + 1 ≤ rm.frames ∧ 8 + (ny + 11) + lo0 ≤ rm.locals) (hC : mc ≤ rm.cells ∧ ms ≤ rm.slots) (hcat : (rest.map fun v => v.category).sum ≤ 8) (kk : ∀ σ', q σ' → At X L σ' mc ms ls nx rest) : At X L σ mc ms ls pc st0 := by
  refine r_callS hX hM hd hw.1 hw.2 hn hst hR hC hcat ?_
  rintro v L' σ' ⟨rfl, rfl, h⟩
  exact kk σ' h
theorem r_callVF (hX : Ok X cc own nm rm ret) {id k n : Nat} {r : Int32} (hM : Ct (xl X) y cy ny ry { frames := fr0, cells := 0, slots := 0, locals := lo0 } (xD X) L σ (.ref (L.1 id) :: As) (PF L σ r)) (hd : Dc cc pc (.invokevirtual idx) 3 nx) (hw : CB own idx y cy ny ry np ∧ Cond.instanceMethod y ∈ TT ∧ Cond.selects (cq k).1 y y ∈ TT ∧ k < 10) (hid : L.2.1 id = some (k, n)) (hn : As.length = np) (hst : st0 = As.reverse ++ .ref (L.1 id) :: rest)
    (hR : fr0 + 1 ≤ rm.frames ∧ 8 + (ny + 11) + lo0 ≤ rm.locals) (hC : mc ≤ rm.cells ∧ ms ≤ rm.slots) (hcat : (rest.map fun v => v.category).sum ≤ 8) (kk : At X L σ mc ms ls nx (.int r :: rest)) : At X L σ mc ms ls pc st0 := by
  refine r_callV hX hM hd hw.1 ⟨hw.2.1, hw.2.2.1⟩ hid hw.2.2.2 hn hst hR hC hcat ?_
  rintro v L' σ' ⟨rfl, rfl, rfl⟩
  exact kk
theorem r_callVI (hX : Ok X cc own nm rm ret) {id k n : Nat} {q : Int32 → Me → Prop} (hM : Ct (xl X) y cy ny ry { frames := fr0, cells := 0, slots := 0, locals := lo0 } (xD X) L σ (.ref (L.1 id) :: As) (PI L q)) (hd : Dc cc pc (.invokevirtual idx) 3 nx) (hw : CB own idx y cy ny ry np ∧ Cond.instanceMethod y ∈ TT ∧ Cond.selects (cq k).1 y y ∈ TT ∧ k < 10) (hid : L.2.1 id = some (k, n)) (hn : As.length = np) (hst : st0 = As.reverse ++ .ref (L.1 id) :: rest)
    (hR : fr0 + 1 ≤ rm.frames ∧ 8 + (ny + 11) + lo0 ≤ rm.locals) (hC : mc ≤ rm.cells ∧ ms ≤ rm.slots) (hcat : (rest.map fun v => v.category).sum ≤ 8) (kk : ∀ r σ', q r σ' → At X L σ' mc ms ls nx (.int r :: rest)) : At X L σ mc ms ls pc st0 := by
  refine r_callV hX hM hd hw.1 ⟨hw.2.1, hw.2.2.1⟩ hid hw.2.2.2 hn hst hR hC hcat ?_
  rintro v L' σ' ⟨r, rfl, rfl, h⟩
  exact kk r σ' h
theorem r_callVV (hX : Ok X cc own nm rm ret) {id k n : Nat} {q : Me → Prop} (hM : Ct (xl X) y cy ny ry { frames := fr0, cells := 0, slots := 0, locals := lo0 } (xD X) L σ (.ref (L.1 id) :: As) (PV L q)) (hd : Dc cc pc (.invokevirtual idx) 3 nx) (hw : CB own idx y cy ny ry np ∧ Cond.instanceMethod y ∈ TT ∧ Cond.selects (cq k).1 y y ∈ TT ∧ k < 10) (hid : L.2.1 id = some (k, n)) (hn : As.length = np) (hst : st0 = As.reverse ++ .ref (L.1 id) :: rest)
    (hR : fr0 + 1 ≤ rm.frames ∧ 8 + (ny + 11) + lo0 ≤ rm.locals) (hC : mc ≤ rm.cells ∧ ms ≤ rm.slots) (hcat : (rest.map fun v => v.category).sum ≤ 8) (kk : ∀ σ', q σ' → At X L σ' mc ms ls nx rest) : At X L σ mc ms ls pc st0 := by
  refine r_callV hX hM hd hw.1 ⟨hw.2.1, hw.2.2.1⟩ hid hw.2.2.2 hn hst hR hC hcat ?_
  rintro v L' σ' ⟨rfl, rfl, h⟩
  exact kk σ' h
end
