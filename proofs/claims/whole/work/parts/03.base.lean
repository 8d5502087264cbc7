/-! ===== the memory: cells by numbers, their places as ints; a layout: address, kind and length, targets of references ===== -/
abbrev Me : Type := Nat → Nat → Int32
abbrev La : Type := (Nat → Nat) × (Nat → Option (Nat × Nat)) × (Nat → Nat → Option Nat)
abbrev Ds : Type := (Nat → ClassId) × (Nat → Nat → Nat) × (Nat → ClassId) × Heap × (State → Prop)
abbrev Cx : Type := Program × Launch × Env × Room × State × MethodId × Array Value × List Frame × Method × Code × Ds × (Nat → Prop) × (State → Prop) × Nat
abbrev xp (X : Cx) : Program := X.1
abbrev xl (X : Cx) : Launch := X.2.1
abbrev xe (X : Cx) : Env := X.2.2.1
abbrev xR (X : Cx) : Room := X.2.2.2.1
abbrev xs (X : Cx) : State := X.2.2.2.2.1
abbrev xm (X : Cx) : MethodId := X.2.2.2.2.2.1
abbrev xa (X : Cx) : Array Value := X.2.2.2.2.2.2.1
abbrev xb (X : Cx) : List Frame := X.2.2.2.2.2.2.2.1
abbrev xme (X : Cx) : Method := X.2.2.2.2.2.2.2.2.1
abbrev xc (X : Cx) : Code := X.2.2.2.2.2.2.2.2.2.1
abbrev xD (X : Cx) : Ds := X.2.2.2.2.2.2.2.2.2.2.1
abbrev xA (X : Cx) : Nat → Prop := X.2.2.2.2.2.2.2.2.2.2.2.1
abbrev xQ (X : Cx) : State → Prop := X.2.2.2.2.2.2.2.2.2.2.2.2.1
abbrev xn (X : Cx) : Nat := X.2.2.2.2.2.2.2.2.2.2.2.2.2
abbrev vwCl : List vw_C := [(RX0, TX0, 1), (RX2, TX2, 9), (RX3, TX3, 12), (RX4, TX4, 3), (RX5, TX5, 5), (RX6, TX6, 2), (RX7, TX7, 4), (RX8, TX8, 6), (RX9, TX9, 10), (RX10, TX10, 43)]
def cq (k : Nat) : vw_C := vwCl.getD k (RX1, TX1, 0)
def nf (k : Nat) : Nat := (cq k).2.2
def fT (k j : Nat) : String × String × String × Bool := (cq k).2.1 j
def tyk (k j : Nat) : FieldType := match k with
  | 0 => tyX0 j | 1 => tyX2 j | 2 => tyX3 j | 3 => tyX4 j | 4 => tyX5 j | 5 => tyX6 j | 6 => tyX7 j | 7 => tyX8 j | 8 => tyX9 j | _ => tyX10 j
def isI (t : FieldType) : Bool := match t with
  | .int => true | .boolean => true | _ => false
def rk (k j : Nat) : Bool := !(isI (tyk k j))
def aty (k : Nat) : FieldType := match k with
  | 10 => .int | 11 => .byte | 12 => .boolean | 13 => .object "FiveStars$Sheet" | 14 => .object "FiveStars$Slot" | _ => .object "FiveStars$Text"
def Vf (k : Nat) (f : Nat → Int32) (g : Nat → Option Nat) (j : Nat) : Value := if rk k j = true then va_rf (g j) else .int (f j)
def Ce (D : Ds) (L : La) (σ : Me) (id k n : Nat) (H : Heap) : Prop :=
  if k < 10 then t_OB (L.1 id) (D.1 k) (nf k) (D.2.1 k) H (Vf k (σ id) (fun j => (L.2.2 id j).map L.1))
  else if k < 13 then H[L.1 id]? = some (arrV (D.2.2.1 k) n (fun j => .int (σ id j)))
  else H[L.1 id]? = some (arrV (D.2.2.1 k) n (fun j => va_rf ((L.2.2 id j).map L.1)))
def Hp (D : Ds) (L : La) (σ : Me) (H : Heap) : Prop :=
  (∀ id k n, L.2.1 id = some (k, n) → Ce D L σ id k n H) ∧ (∀ id x, L.2.1 id = some x → D.2.2.2.1.size ≤ L.1 id) ∧ D.2.2.2.1.size ≤ H.size ∧ ∀ b, b < D.2.2.2.1.size → H[b]? = D.2.2.2.1[b]?
def Ap (A : Nat → Prop) (L : La) : Prop :=
  (∀ i j x y, L.2.1 i = some x → L.2.1 j = some y → L.1 i = L.1 j → i = j) ∧ ∀ i x, L.2.1 i = some x → A (L.1 i)
def TT : List Cond := lw_tbl.filter goodWord
def Kd (D : Ds) (s : State) : Prop :=
  (∀ k, k < 10 → u_Kn s (cq k).1 (cq k).2.1 (nf k) (D.1 k) (D.2.1 k)) ∧ (∀ k, 10 ≤ k → k < 16 → ArrOfT s (D.2.2.1 k) (aty k) ∧ va_RA s (D.2.2.1 k) (aty k)) ∧ D.2.2.2.2 s ∧ (∀ s U : State, s.WarmedH U.vm → D.2.2.2.2 s → D.2.2.2.2 U) ∧ (∀ s U : State, s.vm = U.vm → D.2.2.2.2 s → D.2.2.2.2 U)
theorem Kd.warm {D : Ds} {s U : State} (hW : s.WarmedH U.vm) (h : Kd D s) : Kd D U :=
  ⟨fun k hk => u_Kn_moved hW.alike (h.1 k hk), fun k h1 h2 => ⟨arrOfT_moved hW.alike (h.2.1 k h1 h2).1, (h.2.1 k h1 h2).2.moved hW.alike⟩, h.2.2.2.1 s U hW h.2.2.1, h.2.2.2.1, h.2.2.2.2⟩
theorem Kd.same {D : Ds} {s U : State} (hv : s.vm = U.vm) (h : Kd D s) : Kd D U :=
  have hW : s.vm.Alike U.vm := by rw [hv]; exact Vm.Alike.refl _
  ⟨fun k hk => u_Kn_moved hW (h.1 k hk), fun k h1 h2 => ⟨arrOfT_moved hW (h.2.1 k h1 h2).1, (h.2.1 k h1 h2).2.moved hW⟩, h.2.2.2.2 s U hv h.2.2.1, h.2.2.2.1, h.2.2.2.2⟩
/-! ===== where the machine is ===== -/
def At (X : Cx) (L : La) (σ : Me) (mc ms : Nat) (ls : List (Nat × Value)) (pc : Nat) (st : List Value) : Prop :=
  ∀ (H : Heap) (locs : List Loc) (la : Array Slot), Hp (xD X) L σ H → Ap (xA X) L → va_S (xA X) (xs X).heap H locs → lv_has la (xn X) ls → W (xp X) (xl X) (xe X) (xR X) (xs X) (xm X) (xa X) (xb X) (xme X) (xc X) H locs mc ms (xQ X) (F0 (xm X) pc la st)
def Ok (X : Cx) (cc : ByteArray) (own nm : String) (rm : Room) (ret : Option FieldType) : Prop :=
  (xp X).tables.exec = Jvm.exec ∧ (xc X).code = cc ∧ (xc X).maxLocals = xn X ∧ (xs X).vm.findClass own = some (xm X).cls ∧ (∀ w ∈ TT, w.before (xa X) (xs X) = true) ∧ Kd (xD X) (xs X) ∧ (∀ q, (xs X).heap.size ≤ q → xA X q) ∧ (xme X).locks = false ∧ xR X = rm ∧ (xme X).sig.returnType = ret ∧ (xme X).name = nm
abbrev Dc (cc : ByteArray) (pc : Nat) (i : Instr) (len nx : Nat) : Prop := decode cc pc = .ok (i, len) ∧ pc + len = nx
abbrev Dj (cc : ByteArray) (pc : Nat) (i : Instr) (off : Int) (nx tgt : Nat) : Prop := decode cc pc = .ok (i, 3) ∧ pc + 3 = nx ∧ (pc : Int) + off = (tgt : Int)
/-! ===== locals ===== -/
def lk : List (Nat × Value) → Nat → Option Value
  | [], _ => none
  | q :: r, i => bif Nat.beq q.1 i then some q.2 else lk r i
theorem lk_mem {ls : List (Nat × Value)} {i : Nat} {v : Value} (h : lk ls i = some v) : (i, v) ∈ ls := by
  induction ls with
  | nil => cases h
  | cons q r ih =>
    unfold lk at h
    cases hb : Nat.beq q.1 i with
    | true =>
      rw [hb] at h
      have e := Nat.eq_of_beq_eq_true hb
      cases h
      exact List.mem_cons.mpr (Or.inl (by rw [← e]))
    | false =>
      rw [hb] at h
      exact List.mem_cons_of_mem _ (ih h)
def kp (i : Nat) (q : Nat × Value) : Bool := !(q.1 == i) && !(q.1 + 1 == i && q.2.category == 2)
def sl (i : Nat) (v : Value) : List (Nat × Value) → List (Nat × Value)
  | [] => [(i, v)]
  | q :: r => bif Nat.beq q.1 i then (i, v) :: r.filter (kp i) else bif kp i q then q :: sl i v r else sl i v r
theorem sl_sub {i : Nat} {v : Value} {ls : List (Nat × Value)} : ∀ q ∈ sl i v ls, q ∈ (i, v) :: ls.filter (kp i) := by
  induction ls with
  | nil => intro q hq; exact hq
  | cons a r ih =>
    intro q hq
    unfold sl at hq
    cases hb : Nat.beq a.1 i with
    | true =>
      rw [hb] at hq
      rcases List.mem_cons.mp hq with h | h
      · exact List.mem_cons.mpr (Or.inl h)
      · refine List.mem_cons_of_mem _ ?_
        rw [List.mem_filter] at h ⊢
        exact ⟨List.mem_cons_of_mem _ h.1, h.2⟩
    | false =>
      rw [hb] at hq
      cases hk : kp i a with
      | true =>
        rw [hk] at hq
        rcases List.mem_cons.mp hq with h | h
        · refine List.mem_cons_of_mem _ (List.mem_filter.mpr ⟨?_, ?_⟩)
          · rw [h]; exact List.mem_cons_self
          · rw [h]; exact hk
        · rcases List.mem_cons.mp (ih q h) with h | h
          · exact List.mem_cons.mpr (Or.inl h)
          · refine List.mem_cons_of_mem _ ?_
            rw [List.mem_filter] at h ⊢
            exact ⟨List.mem_cons_of_mem _ h.1, h.2⟩
      | false =>
        rw [hk] at hq
        rcases List.mem_cons.mp (ih q hq) with h | h
        · exact List.mem_cons.mpr (Or.inl h)
        · refine List.mem_cons_of_mem _ ?_
          rw [List.mem_filter] at h ⊢
          exact ⟨List.mem_cons_of_mem _ h.1, h.2⟩
theorem lv_lk {la : Array Slot} {n : Nat} {ls : List (Nat × Value)} {i : Nat} {v : Value} (h : lv_has la n ls) (hl : lk ls i = some v) : la[i]? = some (.val v) := h.2.2 (i, v) (lk_mem hl)
theorem lv_less {la : Array Slot} {n : Nat} {ls ls' : List (Nat × Value)} (h : lv_has la n ls) (hl : ∀ q ∈ ls', q ∈ ls) : lv_has la n ls' := ⟨h.1, h.2.1, fun q hq => h.2.2 q (hl q hq)⟩
/-! ===== rows: one instruction each ===== -/
section
variable {X : Cx} {cc : ByteArray} {own nm : String} {rm : Room} {ret : Option FieldType} {L : La} {σ : Me} {mc ms : Nat} {ls : List (Nat × Value)} {pc nx tgt : Nat} {st : List Value} {off : Int}
theorem At.less {ls' : List (Nat × Value)} (h : At X L σ mc ms ls' pc st) (hl : ∀ q ∈ ls', q ∈ ls) : At X L σ mc ms ls pc st := fun H locs la h1 h2 h3 h4 => h H locs la h1 h2 h3 (lv_less h4 hl)
theorem r_iconst (hX : Ok X cc own nm rm ret) {n : Int} (v : Int32) (hd : Dc cc pc (.iconst n) 1 nx) (hv : Int32.ofInt n = v) (k : At X L σ mc ms ls nx (.int v :: st)) : At X L σ mc ms ls pc st := by
  obtain ⟨hd, rfl⟩ := hd
  exact fun H locs la h1 h2 h3 h4 => lv_iconst hX.1 hX.2.1 hd hv (k H locs la h1 h2 h3 h4)
theorem r_bipush (hX : Ok X cc own nm rm ret) {n : Int} (v : Int32) (hd : Dc cc pc (.bipush n) 2 nx) (hv : (Int8.ofInt n).toInt32 = v) (k : At X L σ mc ms ls nx (.int v :: st)) : At X L σ mc ms ls pc st := by
  obtain ⟨hd, rfl⟩ := hd
  exact fun H locs la h1 h2 h3 h4 => lv_bipush hX.1 hX.2.1 hd hv (k H locs la h1 h2 h3 h4)
theorem r_sipush (hX : Ok X cc own nm rm ret) {n : Int} (v : Int32) (hd : Dc cc pc (.sipush n) 3 nx) (hv : (Int16.ofInt n).toInt32 = v) (k : At X L σ mc ms ls nx (.int v :: st)) : At X L σ mc ms ls pc st := by
  obtain ⟨hd, rfl⟩ := hd
  exact fun H locs la h1 h2 h3 h4 => lv_sipush hX.1 hX.2.1 hd hv (k H locs la h1 h2 h3 h4)
theorem r_ldc (hX : Ok X cc own nm rm ret) {i : Nat} {v : Int32} (hd : Dc cc pc (.ldc i) 2 nx) (hw : Cond.constant own i v ∈ TT) (k : At X L σ mc ms ls nx (.int v :: st)) : At X L σ mc ms ls pc st := by
  obtain ⟨hd, rfl⟩ := hd
  exact fun H locs la h1 h2 h3 h4 => lv_ldc hX.1 hX.2.1 hX.2.2.2.1 (hX.2.2.2.2.1 _ hw) hd (k H locs la h1 h2 h3 h4)
theorem r_ldcw (hX : Ok X cc own nm rm ret) {i : Nat} {v : Int32} (hd : Dc cc pc (.ldc_w i) 3 nx) (hw : Cond.constant own i v ∈ TT) (k : At X L σ mc ms ls nx (.int v :: st)) : At X L σ mc ms ls pc st := by
  obtain ⟨hd, rfl⟩ := hd
  exact fun H locs la h1 h2 h3 h4 => lv_ldcw hX.1 hX.2.1 hX.2.2.2.1 (hX.2.2.2.2.1 _ hw) hd (k H locs la h1 h2 h3 h4)
theorem r_iload_n (hX : Ok X cc own nm rm ret) {i : Fin 4} {x : Int32} (hd : Dc cc pc (.iload_n i) 1 nx) (hl : lk ls i.val = some (.int x)) (k : At X L σ mc ms ls nx (.int x :: st)) : At X L σ mc ms ls pc st := by
  obtain ⟨hd, rfl⟩ := hd
  exact fun H locs la h1 h2 h3 h4 => lv_iload_n hX.1 hX.2.1 hd rfl (lv_lk h4 hl) (k H locs la h1 h2 h3 h4)
theorem r_iload (hX : Ok X cc own nm rm ret) {i : Nat} {x : Int32} (hd : Dc cc pc (.iload i) 2 nx) (hl : lk ls i = some (.int x)) (k : At X L σ mc ms ls nx (.int x :: st)) : At X L σ mc ms ls pc st := by
  obtain ⟨hd, rfl⟩ := hd
  exact fun H locs la h1 h2 h3 h4 => lv_iload hX.1 hX.2.1 hd (lv_lk h4 hl) (k H locs la h1 h2 h3 h4)
theorem r_aload_n (hX : Ok X cc own nm rm ret) {i : Fin 4} {x : Nat} (hd : Dc cc pc (.aload_n i) 1 nx) (hl : lk ls i.val = some (.ref x)) (k : At X L σ mc ms ls nx (.ref x :: st)) : At X L σ mc ms ls pc st := by
  obtain ⟨hd, rfl⟩ := hd
  exact fun H locs la h1 h2 h3 h4 => lv_aload_n hX.1 hX.2.1 hd rfl (lv_lk h4 hl) (k H locs la h1 h2 h3 h4)
theorem r_aload (hX : Ok X cc own nm rm ret) {i : Nat} {x : Nat} (hd : Dc cc pc (.aload i) 2 nx) (hl : lk ls i = some (.ref x)) (k : At X L σ mc ms ls nx (.ref x :: st)) : At X L σ mc ms ls pc st := by
  obtain ⟨hd, rfl⟩ := hd
  exact fun H locs la h1 h2 h3 h4 => lv_aload hX.1 hX.2.1 hd (lv_lk h4 hl) (k H locs la h1 h2 h3 h4)
theorem r_aload_nN (hX : Ok X cc own nm rm ret) {i : Fin 4} (hd : Dc cc pc (.aload_n i) 1 nx) (hl : lk ls i.val = some .null) (k : At X L σ mc ms ls nx (.null :: st)) : At X L σ mc ms ls pc st := by
  obtain ⟨hd, rfl⟩ := hd
  exact fun H locs la h1 h2 h3 h4 => lv_aload_nN hX.1 hX.2.1 hd rfl (lv_lk h4 hl) (k H locs la h1 h2 h3 h4)
theorem r_aloadN (hX : Ok X cc own nm rm ret) {i : Nat} (hd : Dc cc pc (.aload i) 2 nx) (hl : lk ls i = some .null) (k : At X L σ mc ms ls nx (.null :: st)) : At X L σ mc ms ls pc st := by
  obtain ⟨hd, rfl⟩ := hd
  exact fun H locs la h1 h2 h3 h4 => lv_aloadN hX.1 hX.2.1 hd (lv_lk h4 hl) (k H locs la h1 h2 h3 h4)
theorem r_istore_n (hX : Ok X cc own nm rm ret) {i : Fin 4} {x : Int32} (ls' : List (Nat × Value)) (hd : Dc cc pc (.istore_n i) 1 nx) (hn : i.val < xn X) (hl : sl i.val (.int x) ls = ls') (k : At X L σ mc ms ls' nx st) : At X L σ mc ms ls pc (.int x :: st) := by
  obtain ⟨hd, rfl⟩ := hd
  subst hl
  exact fun H locs la h1 h2 h3 h4 => lv_istore_n hX.1 hX.2.1 hd rfl h4 hn rfl (fun la' h5 => k H locs la' h1 h2 h3 (lv_less h5 sl_sub))
theorem r_istore (hX : Ok X cc own nm rm ret) {i : Nat} {x : Int32} (ls' : List (Nat × Value)) (hd : Dc cc pc (.istore i) 2 nx) (hn : i < xn X) (hl : sl i (.int x) ls = ls') (k : At X L σ mc ms ls' nx st) : At X L σ mc ms ls pc (.int x :: st) := by
  obtain ⟨hd, rfl⟩ := hd
  subst hl
  exact fun H locs la h1 h2 h3 h4 => lv_istore hX.1 hX.2.1 hd h4 hn rfl (fun la' h5 => k H locs la' h1 h2 h3 (lv_less h5 sl_sub))
theorem r_astore_n (hX : Ok X cc own nm rm ret) {i : Fin 4} {x : Nat} (ls' : List (Nat × Value)) (hd : Dc cc pc (.astore_n i) 1 nx) (hn : i.val < xn X) (hl : sl i.val (.ref x) ls = ls') (k : At X L σ mc ms ls' nx st) : At X L σ mc ms ls pc (.ref x :: st) := by
  obtain ⟨hd, rfl⟩ := hd
  subst hl
  exact fun H locs la h1 h2 h3 h4 => lv_astore_n hX.1 hX.2.1 hd rfl h4 hn rfl (fun la' h5 => k H locs la' h1 h2 h3 (lv_less h5 sl_sub))
theorem r_astore (hX : Ok X cc own nm rm ret) {i : Nat} {x : Nat} (ls' : List (Nat × Value)) (hd : Dc cc pc (.astore i) 2 nx) (hn : i < xn X) (hl : sl i (.ref x) ls = ls') (k : At X L σ mc ms ls' nx st) : At X L σ mc ms ls pc (.ref x :: st) := by
  obtain ⟨hd, rfl⟩ := hd
  subst hl
  exact fun H locs la h1 h2 h3 h4 => lv_astore hX.1 hX.2.1 hd h4 hn rfl (fun la' h5 => k H locs la' h1 h2 h3 (lv_less h5 sl_sub))
theorem r_astore_nN (hX : Ok X cc own nm rm ret) {i : Fin 4} (ls' : List (Nat × Value)) (hd : Dc cc pc (.astore_n i) 1 nx) (hn : i.val < xn X) (hl : sl i.val .null ls = ls') (k : At X L σ mc ms ls' nx st) : At X L σ mc ms ls pc (.null :: st) := by
  obtain ⟨hd, rfl⟩ := hd
  subst hl
  exact fun H locs la h1 h2 h3 h4 => lv_astore_nN hX.1 hX.2.1 hd rfl h4 hn rfl (fun la' h5 => k H locs la' h1 h2 h3 (lv_less h5 sl_sub))
theorem r_iinc (hX : Ok X cc own nm rm ret) {i : Nat} {n : Int} {x : Int32} (v : Int32) (ls' : List (Nat × Value)) (hd : Dc cc pc (.iinc i n) 3 nx) (hk : lk ls i = some (.int x)) (hv : x + Int32.ofInt n = v) (hn : i < xn X) (hl : sl i (.int v) ls = ls') (k : At X L σ mc ms ls' nx st) : At X L σ mc ms ls pc st := by
  obtain ⟨hd, rfl⟩ := hd
  subst hl
  intro H locs la h1 h2 h3 h4
  obtain ⟨j, hj⟩ := List.getElem?_of_mem (lk_mem hk)
  exact lv_iinc hX.1 hX.2.1 hd h4 hj hv hn rfl (fun la' h5 => k H locs la' h1 h2 h3 (lv_less h5 sl_sub))
theorem r_iadd (hX : Ok X cc own nm rm ret) {x y : Int32} (hd : Dc cc pc .iadd 1 nx) (k : At X L σ mc ms ls nx (.int (x + y) :: st)) : At X L σ mc ms ls pc (.int y :: .int x :: st) := by
  obtain ⟨hd, rfl⟩ := hd
  exact fun H locs la h1 h2 h3 h4 => lv_iadd hX.1 hX.2.1 hd (k H locs la h1 h2 h3 h4)
theorem r_isub (hX : Ok X cc own nm rm ret) {x y : Int32} (hd : Dc cc pc .isub 1 nx) (k : At X L σ mc ms ls nx (.int (x - y) :: st)) : At X L σ mc ms ls pc (.int y :: .int x :: st) := by
  obtain ⟨hd, rfl⟩ := hd
  exact fun H locs la h1 h2 h3 h4 => lv_isub hX.1 hX.2.1 hd (k H locs la h1 h2 h3 h4)
theorem r_imul (hX : Ok X cc own nm rm ret) {x y : Int32} (hd : Dc cc pc .imul 1 nx) (k : At X L σ mc ms ls nx (.int (x * y) :: st)) : At X L σ mc ms ls pc (.int y :: .int x :: st) := by
  obtain ⟨hd, rfl⟩ := hd
  exact fun H locs la h1 h2 h3 h4 => lv_imul hX.1 hX.2.1 hd (k H locs la h1 h2 h3 h4)
theorem r_iand (hX : Ok X cc own nm rm ret) {x y : Int32} (hd : Dc cc pc .iand 1 nx) (k : At X L σ mc ms ls nx (.int (x &&& y) :: st)) : At X L σ mc ms ls pc (.int y :: .int x :: st) := by
  obtain ⟨hd, rfl⟩ := hd
  exact fun H locs la h1 h2 h3 h4 => lv_iand hX.1 hX.2.1 hd (k H locs la h1 h2 h3 h4)
theorem r_ior (hX : Ok X cc own nm rm ret) {x y : Int32} (hd : Dc cc pc .ior 1 nx) (k : At X L σ mc ms ls nx (.int (x ||| y) :: st)) : At X L σ mc ms ls pc (.int y :: .int x :: st) := by
  obtain ⟨hd, rfl⟩ := hd
  exact fun H locs la h1 h2 h3 h4 => lv_ior hX.1 hX.2.1 hd (k H locs la h1 h2 h3 h4)
theorem r_ixor (hX : Ok X cc own nm rm ret) {x y : Int32} (hd : Dc cc pc .ixor 1 nx) (k : At X L σ mc ms ls nx (.int (x ^^^ y) :: st)) : At X L σ mc ms ls pc (.int y :: .int x :: st) := by
  obtain ⟨hd, rfl⟩ := hd
  exact fun H locs la h1 h2 h3 h4 => lv_ixor hX.1 hX.2.1 hd (k H locs la h1 h2 h3 h4)
theorem r_ishl (hX : Ok X cc own nm rm ret) {x y : Int32} (hd : Dc cc pc .ishl 1 nx) (k : At X L σ mc ms ls nx (.int (x <<< (y &&& 31)) :: st)) : At X L σ mc ms ls pc (.int y :: .int x :: st) := by
  obtain ⟨hd, rfl⟩ := hd
  exact fun H locs la h1 h2 h3 h4 => lv_ishl hX.1 hX.2.1 hd (k H locs la h1 h2 h3 h4)
theorem r_ishr (hX : Ok X cc own nm rm ret) {x y : Int32} (hd : Dc cc pc .ishr 1 nx) (k : At X L σ mc ms ls nx (.int (x >>> (y &&& 31)) :: st)) : At X L σ mc ms ls pc (.int y :: .int x :: st) := by
  obtain ⟨hd, rfl⟩ := hd
  exact fun H locs la h1 h2 h3 h4 => lv_ishr hX.1 hX.2.1 hd (k H locs la h1 h2 h3 h4)
def ushr (x y : Int32) : Int32 := (x.toUInt32 >>> (y.toUInt32 &&& Int32.toUInt32 31)).toInt32
theorem r_iushr (hX : Ok X cc own nm rm ret) {x y : Int32} (hd : Dc cc pc .iushr 1 nx) (k : At X L σ mc ms ls nx (.int (ushr x y) :: st)) : At X L σ mc ms ls pc (.int y :: .int x :: st) := by
  obtain ⟨hd, rfl⟩ := hd
  exact fun H locs la h1 h2 h3 h4 => lv_iushr hX.1 hX.2.1 hd rfl (k H locs la h1 h2 h3 h4)
theorem r_ineg (hX : Ok X cc own nm rm ret) {x : Int32} (hd : Dc cc pc .ineg 1 nx) (k : At X L σ mc ms ls nx (.int (-x) :: st)) : At X L σ mc ms ls pc (.int x :: st) := by
  obtain ⟨hd, rfl⟩ := hd
  exact fun H locs la h1 h2 h3 h4 => lv_ineg hX.1 hX.2.1 hd (k H locs la h1 h2 h3 h4)
theorem r_i2b (hX : Ok X cc own nm rm ret) {x : Int32} (hd : Dc cc pc .i2b 1 nx) (k : At X L σ mc ms ls nx (.int x.toInt8.toInt32 :: st)) : At X L σ mc ms ls pc (.int x :: st) := by
  obtain ⟨hd, rfl⟩ := hd
  exact fun H locs la h1 h2 h3 h4 => lv_i2b hX.1 hX.2.1 hd rfl (k H locs la h1 h2 h3 h4)
theorem r_i2s (hX : Ok X cc own nm rm ret) {x : Int32} (hd : Dc cc pc .i2s 1 nx) (k : At X L σ mc ms ls nx (.int x.toInt16.toInt32 :: st)) : At X L σ mc ms ls pc (.int x :: st) := by
  obtain ⟨hd, rfl⟩ := hd
  exact fun H locs la h1 h2 h3 h4 => lv_i2s hX.1 hX.2.1 hd rfl (k H locs la h1 h2 h3 h4)
theorem r_i2c (hX : Ok X cc own nm rm ret) {x : Int32} (hd : Dc cc pc .i2c 1 nx) (k : At X L σ mc ms ls nx (.int (x.toUInt32 % 65536).toInt32 :: st)) : At X L σ mc ms ls pc (.int x :: st) := by
  obtain ⟨hd, rfl⟩ := hd
  exact fun H locs la h1 h2 h3 h4 => lv_i2c hX.1 hX.2.1 hd rfl (k H locs la h1 h2 h3 h4)
/-- the rest as the machine works it out -/
abbrev rem (x y : Int32) : Int32 := x - x / y * y
theorem r_idiv (hX : Ok X cc own nm rm ret) {x y : Int32} (hd : Dc cc pc .idiv 1 nx) (hy : ¬ y = 0) (k : At X L σ mc ms ls nx (.int (x / y) :: st)) : At X L σ mc ms ls pc (.int y :: .int x :: st) := by
  obtain ⟨hd, rfl⟩ := hd
  exact fun H locs la h1 h2 h3 h4 => lv_idiv hX.1 hX.2.1 hd hy (k H locs la h1 h2 h3 h4)
theorem r_irem (hX : Ok X cc own nm rm ret) {x y : Int32} (hd : Dc cc pc .irem 1 nx) (hy : ¬ y = 0) (k : At X L σ mc ms ls nx (.int (rem x y) :: st)) : At X L σ mc ms ls pc (.int y :: .int x :: st) := by
  obtain ⟨hd, rfl⟩ := hd
  exact fun H locs la h1 h2 h3 h4 => lv_irem hX.1 hX.2.1 hd hy (k H locs la h1 h2 h3 h4)
theorem r_dup (hX : Ok X cc own nm rm ret) {v : Value} (hd : Dc cc pc .dup 1 nx) (hv : v.category = 1) (k : At X L σ mc ms ls nx (v :: v :: st)) : At X L σ mc ms ls pc (v :: st) := by
  obtain ⟨hd, rfl⟩ := hd
  exact fun H locs la h1 h2 h3 h4 => lv_dup hX.1 hX.2.1 hd hv (k H locs la h1 h2 h3 h4)
theorem r_dup2 (hX : Ok X cc own nm rm ret) {v w : Value} (hd : Dc cc pc .dup2 1 nx) (hv : v.category = 1) (hw : w.category = 1) (k : At X L σ mc ms ls nx (v :: w :: v :: w :: st)) : At X L σ mc ms ls pc (v :: w :: st) := by
  obtain ⟨hd, rfl⟩ := hd
  exact fun H locs la h1 h2 h3 h4 => lv_dup2_11 hX.1 hX.2.1 hd hv hw (k H locs la h1 h2 h3 h4)
theorem r_pop (hX : Ok X cc own nm rm ret) {v : Value} (hd : Dc cc pc .pop 1 nx) (hv : v.category = 1) (k : At X L σ mc ms ls nx st) : At X L σ mc ms ls pc (v :: st) := by
  obtain ⟨hd, rfl⟩ := hd
  exact fun H locs la h1 h2 h3 h4 => lv_pop hX.1 hX.2.1 hd hv (k H locs la h1 h2 h3 h4)
theorem r_null (hX : Ok X cc own nm rm ret) (hd : Dc cc pc .aconst_null 1 nx) (k : At X L σ mc ms ls nx (.null :: st)) : At X L σ mc ms ls pc st := by
  obtain ⟨hd, rfl⟩ := hd
  exact fun H locs la h1 h2 h3 h4 => lv_null hX.1 hX.2.1 hd (k H locs la h1 h2 h3 h4)
theorem r_goto (hX : Ok X cc own nm rm ret) (hd : Dj cc pc (.goto off) off nx tgt) (k : At X L σ mc ms ls tgt st) : At X L σ mc ms ls pc st := by
  obtain ⟨hd, rfl, ht⟩ := hd
  exact fun H locs la h1 h2 h3 h4 => lv_goto hX.1 hX.2.1 hd ht (k H locs la h1 h2 h3 h4)
theorem r_if_eq (hX : Ok X cc own nm rm ret) {x : Int32} (hd : Dj cc pc (.ifCond .eq off) off nx tgt) (kt : x = 0 → At X L σ mc ms ls tgt st) (kf : ¬ x = 0 → At X L σ mc ms ls nx st) : At X L σ mc ms ls pc (.int x :: st) := by
  obtain ⟨hd, rfl, ht⟩ := hd
  exact fun H locs la h1 h2 h3 h4 => lv_if_eq hX.1 hX.2.1 hd ht (fun c => kt c H locs la h1 h2 h3 h4) (fun c => kf c H locs la h1 h2 h3 h4)
theorem r_if_ne (hX : Ok X cc own nm rm ret) {x : Int32} (hd : Dj cc pc (.ifCond .ne off) off nx tgt) (kt : ¬ x = 0 → At X L σ mc ms ls tgt st) (kf : x = 0 → At X L σ mc ms ls nx st) : At X L σ mc ms ls pc (.int x :: st) := by
  obtain ⟨hd, rfl, ht⟩ := hd
  exact fun H locs la h1 h2 h3 h4 => lv_if_ne hX.1 hX.2.1 hd ht (fun c => kt c H locs la h1 h2 h3 h4) (fun c => kf c H locs la h1 h2 h3 h4)
theorem r_if_lt (hX : Ok X cc own nm rm ret) {x : Int32} (hd : Dj cc pc (.ifCond .lt off) off nx tgt) (kt : x < 0 → At X L σ mc ms ls tgt st) (kf : ¬ x < 0 → At X L σ mc ms ls nx st) : At X L σ mc ms ls pc (.int x :: st) := by
  obtain ⟨hd, rfl, ht⟩ := hd
  exact fun H locs la h1 h2 h3 h4 => lv_if_lt hX.1 hX.2.1 hd ht (fun c => kt c H locs la h1 h2 h3 h4) (fun c => kf c H locs la h1 h2 h3 h4)
theorem r_if_ge (hX : Ok X cc own nm rm ret) {x : Int32} (hd : Dj cc pc (.ifCond .ge off) off nx tgt) (kt : 0 ≤ x → At X L σ mc ms ls tgt st) (kf : ¬ 0 ≤ x → At X L σ mc ms ls nx st) : At X L σ mc ms ls pc (.int x :: st) := by
  obtain ⟨hd, rfl, ht⟩ := hd
  exact fun H locs la h1 h2 h3 h4 => lv_if_ge hX.1 hX.2.1 hd ht (fun c => kt c H locs la h1 h2 h3 h4) (fun c => kf c H locs la h1 h2 h3 h4)
theorem r_if_gt (hX : Ok X cc own nm rm ret) {x : Int32} (hd : Dj cc pc (.ifCond .gt off) off nx tgt) (kt : 0 < x → At X L σ mc ms ls tgt st) (kf : ¬ 0 < x → At X L σ mc ms ls nx st) : At X L σ mc ms ls pc (.int x :: st) := by
  obtain ⟨hd, rfl, ht⟩ := hd
  exact fun H locs la h1 h2 h3 h4 => lv_if_gt hX.1 hX.2.1 hd ht (fun c => kt c H locs la h1 h2 h3 h4) (fun c => kf c H locs la h1 h2 h3 h4)
theorem r_if_le (hX : Ok X cc own nm rm ret) {x : Int32} (hd : Dj cc pc (.ifCond .le off) off nx tgt) (kt : x ≤ 0 → At X L σ mc ms ls tgt st) (kf : ¬ x ≤ 0 → At X L σ mc ms ls nx st) : At X L σ mc ms ls pc (.int x :: st) := by
  obtain ⟨hd, rfl, ht⟩ := hd
  exact fun H locs la h1 h2 h3 h4 => lv_if_le hX.1 hX.2.1 hd ht (fun c => kt c H locs la h1 h2 h3 h4) (fun c => kf c H locs la h1 h2 h3 h4)
theorem r_icmp_eq (hX : Ok X cc own nm rm ret) {x y : Int32} (hd : Dj cc pc (.if_icmp .eq off) off nx tgt) (kt : x = y → At X L σ mc ms ls tgt st) (kf : ¬ x = y → At X L σ mc ms ls nx st) : At X L σ mc ms ls pc (.int y :: .int x :: st) := by
  obtain ⟨hd, rfl, ht⟩ := hd
  exact fun H locs la h1 h2 h3 h4 => lv_icmp_eq hX.1 hX.2.1 hd ht (fun c => kt c H locs la h1 h2 h3 h4) (fun c => kf c H locs la h1 h2 h3 h4)
theorem r_icmp_ne (hX : Ok X cc own nm rm ret) {x y : Int32} (hd : Dj cc pc (.if_icmp .ne off) off nx tgt) (kt : ¬ x = y → At X L σ mc ms ls tgt st) (kf : x = y → At X L σ mc ms ls nx st) : At X L σ mc ms ls pc (.int y :: .int x :: st) := by
  obtain ⟨hd, rfl, ht⟩ := hd
  exact fun H locs la h1 h2 h3 h4 => lv_icmp_ne hX.1 hX.2.1 hd ht (fun c => kt c H locs la h1 h2 h3 h4) (fun c => kf c H locs la h1 h2 h3 h4)
theorem r_icmp_lt (hX : Ok X cc own nm rm ret) {x y : Int32} (hd : Dj cc pc (.if_icmp .lt off) off nx tgt) (kt : x < y → At X L σ mc ms ls tgt st) (kf : ¬ x < y → At X L σ mc ms ls nx st) : At X L σ mc ms ls pc (.int y :: .int x :: st) := by
  obtain ⟨hd, rfl, ht⟩ := hd
  exact fun H locs la h1 h2 h3 h4 => lv_icmp_lt hX.1 hX.2.1 hd ht (fun c => kt c H locs la h1 h2 h3 h4) (fun c => kf c H locs la h1 h2 h3 h4)
theorem r_icmp_ge (hX : Ok X cc own nm rm ret) {x y : Int32} (hd : Dj cc pc (.if_icmp .ge off) off nx tgt) (kt : y ≤ x → At X L σ mc ms ls tgt st) (kf : ¬ y ≤ x → At X L σ mc ms ls nx st) : At X L σ mc ms ls pc (.int y :: .int x :: st) := by
  obtain ⟨hd, rfl, ht⟩ := hd
  exact fun H locs la h1 h2 h3 h4 => lv_icmp_ge hX.1 hX.2.1 hd ht (fun c => kt c H locs la h1 h2 h3 h4) (fun c => kf c H locs la h1 h2 h3 h4)
theorem r_icmp_gt (hX : Ok X cc own nm rm ret) {x y : Int32} (hd : Dj cc pc (.if_icmp .gt off) off nx tgt) (kt : y < x → At X L σ mc ms ls tgt st) (kf : ¬ y < x → At X L σ mc ms ls nx st) : At X L σ mc ms ls pc (.int y :: .int x :: st) := by
  obtain ⟨hd, rfl, ht⟩ := hd
  exact fun H locs la h1 h2 h3 h4 => lv_icmp_gt hX.1 hX.2.1 hd ht (fun c => kt c H locs la h1 h2 h3 h4) (fun c => kf c H locs la h1 h2 h3 h4)
theorem r_icmp_le (hX : Ok X cc own nm rm ret) {x y : Int32} (hd : Dj cc pc (.if_icmp .le off) off nx tgt) (kt : x ≤ y → At X L σ mc ms ls tgt st) (kf : ¬ x ≤ y → At X L σ mc ms ls nx st) : At X L σ mc ms ls pc (.int y :: .int x :: st) := by
  obtain ⟨hd, rfl, ht⟩ := hd
  exact fun H locs la h1 h2 h3 h4 => lv_icmp_le hX.1 hX.2.1 hd ht (fun c => kt c H locs la h1 h2 h3 h4) (fun c => kf c H locs la h1 h2 h3 h4)
theorem r_ifnull (hX : Ok X cc own nm rm ret) {x : Nat} (hd : Dj cc pc (.ifnull off) off nx tgt) (k : At X L σ mc ms ls nx st) : At X L σ mc ms ls pc (.ref x :: st) := by
  obtain ⟨hd, rfl, ht⟩ := hd
  exact fun H locs la h1 h2 h3 h4 => lv_ifnull hX.1 hX.2.1 hd (k H locs la h1 h2 h3 h4)
theorem r_ifnullN (hX : Ok X cc own nm rm ret) (hd : Dj cc pc (.ifnull off) off nx tgt) (k : At X L σ mc ms ls tgt st) : At X L σ mc ms ls pc (.null :: st) := by
  obtain ⟨hd, rfl, ht⟩ := hd
  exact fun H locs la h1 h2 h3 h4 => lv_ifnullN hX.1 hX.2.1 hd ht (k H locs la h1 h2 h3 h4)
theorem r_ifnonnull (hX : Ok X cc own nm rm ret) {x : Nat} (hd : Dj cc pc (.ifnonnull off) off nx tgt) (k : At X L σ mc ms ls tgt st) : At X L σ mc ms ls pc (.ref x :: st) := by
  obtain ⟨hd, rfl, ht⟩ := hd
  exact fun H locs la h1 h2 h3 h4 => lv_ifnonnull hX.1 hX.2.1 hd ht (k H locs la h1 h2 h3 h4)
theorem r_ifnonnullN (hX : Ok X cc own nm rm ret) (hd : Dj cc pc (.ifnonnull off) off nx tgt) (k : At X L σ mc ms ls nx st) : At X L σ mc ms ls pc (.null :: st) := by
  obtain ⟨hd, rfl, ht⟩ := hd
  exact fun H locs la h1 h2 h3 h4 => lv_ifnonnullN hX.1 hX.2.1 hd (k H locs la h1 h2 h3 h4)
theorem r_tabIn (hX : Ok X cc own nm rm ret) {x : Int32} {dflt lo hi : Int} {offs : Array Int} {len : Nat} (tgt : Nat) (hd : Dc cc pc (.tableswitch dflt lo hi offs) len nx) (v : Int) (hx : x.toInt = v) (h1 : ¬ v < lo) (h2 : ¬ hi < v) (off : Int) (ho : offs[(v - lo).toNat]? = some off) (ht : (pc : Int) + off = (tgt : Int)) (k : At X L σ mc ms ls tgt st) : At X L σ mc ms ls pc (.int x :: st) := by
  obtain ⟨hd, rfl⟩ := hd
  subst hx
  exact fun H locs la e1 e2 e3 e4 => lv_tableIn hX.1 hX.2.1 hd h1 h2 ho ht (k H locs la e1 e2 e3 e4)
theorem r_tabOut (hX : Ok X cc own nm rm ret) {x : Int32} {dflt lo hi : Int} {offs : Array Int} {len : Nat} (tgt : Nat) (hd : Dc cc pc (.tableswitch dflt lo hi offs) len nx) (h : x.toInt < lo ∨ hi < x.toInt) (ht : (pc : Int) + dflt = (tgt : Int)) (k : At X L σ mc ms ls tgt st) : At X L σ mc ms ls pc (.int x :: st) := by
  obtain ⟨hd, rfl⟩ := hd
  exact fun H locs la e1 e2 e3 e4 => lv_tableOut hX.1 hX.2.1 hd h ht (k H locs la e1 e2 e3 e4)
theorem r_lookup (hX : Ok X cc own nm rm ret) {x : Int32} {dflt : Int} {ps : Array (Int × Int)} {len : Nat} (tgt : Nat) (hd : Dc cc pc (.lookupswitch dflt ps) len nx) (hp : (ps.toList.zip (ps.toList.drop 1)).all (fun (a, next) => a.1 < next.1) = true) (off : Int) (ho : Op.lookupswitch.offset ps.toList dflt x.toInt = off) (ht : (pc : Int) + off = (tgt : Int)) (k : At X L σ mc ms ls tgt st) : At X L σ mc ms ls pc (.int x :: st) := by
  obtain ⟨hd, rfl⟩ := hd
  exact fun H locs la e1 e2 e3 e4 => lv_lookup hX.1 hX.2.1 hd hp ho ht (k H locs la e1 e2 e3 e4)
end
