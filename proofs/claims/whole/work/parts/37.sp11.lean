/-! ===== what the launch itself holds: String constants, statics ===== -/
def No : Nat → Prop := fun _ => False
/-- the String at a, its bytes at v, spells tx -/
def Sg (tx : List Nat) (a v : Nat) (H0 : Heap) (s : State) : Prop := va_O "java/lang/String" a No s H0 ∧ va_OF "java/lang/String" "coder" "B" (.int (nI 0)) a No s H0 ∧ va_OF "java/lang/String" "value" "[B" (.ref v) a No s H0 ∧ va_T .byte v tx.length (fun j => .int (nI (tx.getD j 0))) No s H0
def Sj (H0 : Heap) (s : State) : Prop := va_Z "java/lang/String" "COMPACT_STRINGS" "Z" (.int (nI 1)) No s H0 ∧ va_Zq "jdk/internal/util/Preconditions" "SIOOBE_FORMATTER" "Ljava/util/function/BiFunction;" No s H0
def SD (D : Ds) (tx : List Nat) (a v : Nat) : Prop := tx.length < 2 ^ 31 ∧ (∀ j, tx.getD j 0 < 128) ∧ ∀ s, D.2.2.2.2 s → Sj D.2.2.2.1 s ∧ Sg tx a v D.2.2.2.1 s
section
variable {X : Cx} {cc : ByteArray} {own nm : String} {rm : Room} {ret : Option FieldType} {L : La} {σ : Me} {mc ms : Nat} {ls : List (Nat × Value)} {pc nx tgt : Nat} {st : List Value} {off : Int} {idx : Nat} {y : MethodName} {cy : ByteArray} {ny np : Nat} {ry : Option FieldType} {fr0 lo0 : Nat} {As rest st0 : List Value}
theorem at_base {D : Ds} {H : Heap} (h1 : Hp D L σ H) : ∀ a, a < D.2.2.2.1.size → ¬ No a → H[a]? = D.2.2.2.1[a]? := fun a ha _ => h1.2.2.2 a ha
theorem r_getS (hX : Ok X cc own nm rm ret) {o n d : String} {v : Value} {q : Nat} (hE : va_OF o n d v q No (xs X) (xD X).2.2.2.1) (hd : Dc cc pc (.getfield idx) 3 nx) (hw : Cond.fieldLink own idx o n d ∈ TT) (kk : At X L σ mc ms ls nx (v :: st)) : At X L σ mc ms ls pc (.ref q :: st) := by
  obtain ⟨hd, rfl⟩ := hd
  intro H locs la h1 h2 h3 h4
  obtain ⟨cf, k, fi, f, cell, e1, e2, e3, e4, e5, e6⟩ := hE.kept (at_base h1)
  exact W.getf hX.1 hX.2.1 hX.2.2.2.1 (hX.2.2.2.2.1 _ hw) e1 e2 e3 e4 (v := v) e5 rfl rfl hd (kk H locs la h1 h2 h3 h4)
theorem r_getst (hX : Ok X cc own nm rm ret) {C n d : String} {v : Value} (hE : va_Z C n d v No (xs X) (xD X).2.2.2.1) (hd : Dc cc pc (.getstatic idx) 3 nx) (hw : Cond.fieldLink own idx C n d ∈ TT) (kk : At X L σ mc ms ls nx (v :: st)) : At X L σ mc ms ls pc st := by
  obtain ⟨hd, rfl⟩ := hd
  intro H locs la h1 h2 h3 h4
  obtain ⟨cf, kf, fi, f, a, cell, e1, e2, e3, e4, e5, e6, e7, e8⟩ := hE.kept (at_base h1)
  exact W.gets hX.1 hX.2.1 hX.2.2.2.1 (hX.2.2.2.2.1 _ hw) e1 e2 e3 e4 e5 (fun e => by rw [e] at e6; cases e6) e7 rfl hd (kk H locs la h1 h2 h3 h4)
theorem r_alenT (hX : Ok X cc own nm rm ret) {ty : FieldType} {t N : Nat} {f : Nat → Value} (hT : va_T ty t N f No (xs X) (xD X).2.2.2.1) (hd : Dc cc pc .arraylength 1 nx) (kk : At X L σ mc ms ls nx (.int (nI N) :: st)) : At X L σ mc ms ls pc (.ref t :: st) := by
  obtain ⟨hd, rfl⟩ := hd
  intro H locs la h1 h2 h3 h4
  obtain ⟨cell, e1, e2, e3, e4, e5, e6, e7⟩ := hT.kept (at_base h1)
  exact W.alen (n := nI N) hX.1 hX.2.1 e1 e2 e5 rfl rfl hd (kk H locs la h1 h2 h3 h4)
theorem r_baldT (hX : Ok X cc own nm rm ret) {t N k : Nat} {f : Nat → Value} (hT : va_T .byte t N f No (xs X) (xD X).2.2.2.1) (hd : Dc cc pc .baload 1 nx) (hN : N < 2 ^ 31) (hk : k < N) (kk : At X L σ mc ms ls nx (f k :: st)) : At X L σ mc ms ls pc (.int (nI k) :: .ref t :: st) := by
  obtain ⟨hd, rfl⟩ := hd
  intro H locs la h1 h2 h3 h4
  obtain ⟨cell, e1, e2, e3, e4, e5, e6, e7⟩ := hT.kept (at_base h1)
  have hin := nI_in hk hN
  have hin2 : ¬ (nI k < 0 ∨ cell.slots.size ≤ (nI k).toNatClampNeg) := by
    rw [nI_clamp (by omega)] at hin ⊢
    intro q
    rcases q with q | q
    · exact hin (Or.inl q)
    · omega
  exact W.bald (v := f k) hX.1 hX.2.1 e1 e2 e3 hin2 (by rw [nI_clamp (by omega), e6 _ hk]) rfl rfl hd (kk H locs la h1 h2 h3 h4)
theorem r_callVSt (hX : Ok X cc own nm rm ret) {a : Nat} {r : Int32} (hO : va_O "java/lang/String" a No (xs X) (xD X).2.2.2.1) (hM : Ct (xl X) y cy ny ry { frames := fr0, cells := 0, slots := 0, locals := lo0 } (xD X) L σ (.ref a :: As) (PF L σ r)) (hd : Dc cc pc (.invokevirtual idx) 3 nx) (hw : CB own idx y cy ny ry np ∧ Cond.instanceMethod y ∈ TT ∧ Cond.selects RJ0 y y ∈ TT) (hn : As.length = np) (hst : st0 = As.reverse ++ .ref a :: rest)
    (hR : fr0 + 1 ≤ rm.frames ∧ 8 + (ny + 11) + lo0 ≤ rm.locals) (hC : mc ≤ rm.cells ∧ ms ≤ rm.slots) (hcat : (rest.map fun v => v.category).sum ≤ 8) (kk : At X L σ mc ms ls nx (.int r :: rest)) : At X L σ mc ms ls pc st0 := by
  obtain ⟨hd, rfl⟩ := hd
  intro H locs la h1 h2 h3 h4
  obtain ⟨cell, e1, e2, e3, e4⟩ := hO.kept (at_base h1)
  refine back_call hX (al := .ref a :: As) h2 h3 h4 (va_runV (As := As) (rest := rest) (fix_of hX) (hM H.size) ⟨CB.of hX hw.1 hR, hX.2.2.2.2.1 _ hw.2.1, hX.2.2.2.2.1 _ hw.2.2⟩ ⟨Pr.blind, ⟨cell, e1, e2, e3⟩, fun U hU hW => ⟨rfl, by rw [hU], by rw [hU]; exact h1, hX.2.2.2.2.2.1.warm hW, h2.wk (fun _ _ => trivial)⟩⟩ rfl hn h4.1 hst (lv_room hcat) hd (by rw [hX.2.2.2.2.2.2.2.2.1]; exact hC)) ?_
  rintro v L' σ' ⟨rfl, rfl, rfl⟩
  exact kk
theorem r_ldcwS (hX : Ok X cc own nm rm ret) {tx : String} {q : Nat} (hZ : vk_R own idx tx q (xs X)) (hd : Dc cc pc (.ldc_w idx) 3 nx) (kk : At X L σ mc ms ls nx (.ref q :: st)) : At X L σ mc ms ls pc st := by
  obtain ⟨hd, rfl⟩ := hd
  intro H locs la h1 h2 h3 h4 T hT Y
  obtain ⟨t, a, b⟩ := kk H locs la h1 h2 h3 h4 T hT Y
  exact ⟨t, Y.ldcStringW hX.1 hX.2.2.2.1 (text := tx) (a := q) hZ.1 hZ.2 (g := F0 (xm X) pc la st) rfl (by rw [hX.2.1]; exact hd) t a, b⟩
end
theorem c_J0_coder_7d493 {l : Launch} {D : Ds} {L : La} (σ : Me) {tx : List Nat} {a v : Nat} (hS : SD D tx a v) : Ct l yJ0_coder_7d493 cJ0_coder_7d493 1 (some .byte) { frames := 0, cells := 0, slots := 0, locals := 0 } D L σ [.ref a] (PF L σ (nI 0)) := by
  refine Ct.of (by decide) (Nat.le_of_ble_eq_true rfl) ?_
  intro X hl hD hnl hX0 hQ
  have hX : Ok X cJ0_coder_7d493 RJ0 "coder" { frames := 0, cells := 0, slots := 0, locals := 0 } (some .byte) := hX0
  show At X L σ 0 0 [(0, .ref a)] 0 []
  obtain ⟨⟨hZ, hF⟩, hO, hc, hv, hT⟩ := hS.2.2 (xs X) (by rw [← hD]; exact hX.2.2.2.2.2.1.2.2.1)
  rw [← hD] at hZ hF hO hc hv hT
  refine r_getst hX hZ dJ0_coder_7d493_0 (inT_3 (List.mem_of_getElem? (i := 185) rfl) rfl) ?_
  refine r_ifN_eq hX dJ0_coder_7d493_3 (by decide) (fun c => absurd c (by decide)) (fun _ => ?_)
  refine r_aload_n hX dJ0_coder_7d493_6 rfl ?_
  refine r_getS hX hc dJ0_coder_7d493_7 (inT_7 (List.mem_of_getElem? (i := 92) rfl) rfl) ?_
  refine r_goto hX dJ0_coder_7d493_10 ?_
  exact r_treturn hX hQ dJ0_coder_7d493_14 ⟨Nat.le_of_ble_eq_true rfl, Nat.le_of_ble_eq_true rfl⟩ (by decide) (PF.mk rfl)
theorem c_J0_isLatin1_aae02 {l : Launch} {D : Ds} {L : La} (σ : Me) {tx : List Nat} {a v : Nat} (hS : SD D tx a v) : Ct l yJ0_isLatin1_aae02 cJ0_isLatin1_aae02 1 (some .boolean) { frames := 0, cells := 0, slots := 0, locals := 0 } D L σ [.ref a] (PF L σ (nI 1)) := by
  refine Ct.of (by decide) (Nat.le_of_ble_eq_true rfl) ?_
  intro X hl hD hnl hX0 hQ
  have hX : Ok X cJ0_isLatin1_aae02 RJ0 "isLatin1" { frames := 0, cells := 0, slots := 0, locals := 0 } (some .boolean) := hX0
  show At X L σ 0 0 [(0, .ref a)] 0 []
  obtain ⟨⟨hZ, hF⟩, hO, hc, hv, hT⟩ := hS.2.2 (xs X) (by rw [← hD]; exact hX.2.2.2.2.2.1.2.2.1)
  rw [← hD] at hZ hF hO hc hv hT
  refine r_getst hX hZ dJ0_isLatin1_aae02_0 (inT_3 (List.mem_of_getElem? (i := 185) rfl) rfl) ?_
  refine r_ifN_eq hX dJ0_isLatin1_aae02_3 (by decide) (fun c => absurd c (by decide)) (fun _ => ?_)
  refine r_aload_n hX dJ0_isLatin1_aae02_6 rfl ?_
  refine r_getS hX hc dJ0_isLatin1_aae02_7 (inT_7 (List.mem_of_getElem? (i := 92) rfl) rfl) ?_
  refine r_ifN_ne hX dJ0_isLatin1_aae02_10 (by decide) (fun c => absurd rfl c) (fun _ => ?_)
  refine r_iconst hX (nI 1) dJ0_isLatin1_aae02_13 rfl ?_
  refine r_goto hX dJ0_isLatin1_aae02_14 ?_
  exact r_treturn hX hQ dJ0_isLatin1_aae02_18 ⟨Nat.le_of_ble_eq_true rfl, Nat.le_of_ble_eq_true rfl⟩ (by decide) (PF.mk rfl)
theorem shr_0 (x : Int32) : x >>> (nI 0 &&& 31) = x := by rw [show nI 0 &&& 31 = (0 : Int32) by decide]; simp
theorem c_J0_length_8abf5 {l : Launch} {D : Ds} {L : La} (σ : Me) {tx : List Nat} {a v : Nat} (hS : SD D tx a v) : Ct l yJ0_length_8abf5 cJ0_length_8abf5 1 (some .int) { frames := 1, cells := 0, slots := 0, locals := 20 } D L σ [.ref a] (PF L σ (nI tx.length)) := by
  refine Ct.of (by decide) (Nat.le_of_ble_eq_true rfl) ?_
  intro X hl hD hnl hX0 hQ
  have hX : Ok X cJ0_length_8abf5 RJ0 "length" { frames := 1, cells := 0, slots := 0, locals := 20 } (some .int) := hX0
  show At X L σ 0 0 [(0, .ref a)] 0 []
  obtain ⟨⟨hZ, hF⟩, hO, hc, hv, hT⟩ := hS.2.2 (xs X) (by rw [← hD]; exact hX.2.2.2.2.2.1.2.2.1)
  rw [← hD] at hZ hF hO hc hv hT
  refine r_aload_n hX dJ0_length_8abf5_0 rfl ?_
  refine r_getS hX hv dJ0_length_8abf5_1 (inT_7 (List.mem_of_getElem? (i := 91) rfl) rfl) ?_
  refine r_alenT hX hT dJ0_length_8abf5_4 ?_
  refine r_aload_n hX dJ0_length_8abf5_5 rfl ?_
  refine r_callVSt (As := []) (rest := [.int (nI tx.length)]) hX hO (by rw [hl, hD]; exact c_J0_coder_7d493 σ hS) dJ0_length_8abf5_6 cb_J0_335 rfl rfl ⟨Nat.le_of_ble_eq_true rfl, Nat.le_of_ble_eq_true rfl⟩ ⟨Nat.le_of_ble_eq_true rfl, Nat.le_of_ble_eq_true rfl⟩ (Nat.le_of_ble_eq_true rfl) ?_
  refine r_ishr hX dJ0_length_8abf5_9 ?_
  exact r_ireturn hX hQ dJ0_length_8abf5_10 ⟨Nat.le_of_ble_eq_true rfl, Nat.le_of_ble_eq_true rfl⟩ (PF.mk (shr_0 _))
theorem c_J3_checkIndex_8e157 {l : Launch} {D : Ds} {L : La} (σ : Me) {k n : Nat} {w : Value} (hw : w = .null ∨ ∃ t, w = .ref t) (hk : k < n) (hn : n < 2 ^ 31) : Ct l yJ3_checkIndex_8e157 cJ3_checkIndex_8e157 3 (some .int) { frames := 0, cells := 0, slots := 0, locals := 0 } D L σ [.int (nI k), .int (nI n), w] (PF L σ (nI k)) := by
  rcases hw with rfl | ⟨t, rfl⟩
  all_goals
    refine Ct.of (by decide) (Nat.le_of_ble_eq_true rfl) ?_
    intro X hl hD hnl hX0 hQ
    have hX : Ok X cJ3_checkIndex_8e157 RJ3 "checkIndex" { frames := 0, cells := 0, slots := 0, locals := 0 } (some .int) := hX0
    show At X L σ 0 0 [(0, .int (nI k)), (1, .int (nI n)), (2, _)] 0 []
    refine r_iload_n hX dJ3_checkIndex_8e157_0 rfl ?_
    refine r_ifN_lt hX dJ3_checkIndex_8e157_1 (by omega) ?_
    refine r_iload_n hX dJ3_checkIndex_8e157_4 rfl ?_
    refine r_iload_n hX dJ3_checkIndex_8e157_5 rfl ?_
    refine r_icmpN_lt hX dJ3_checkIndex_8e157_6 (by omega) (by omega) (fun _ => ?_) (fun c => absurd hk (Nat.not_lt.mpr c))
    refine r_iload_n hX dJ3_checkIndex_8e157_16 rfl ?_
    exact r_ireturn hX hQ dJ3_checkIndex_8e157_17 ⟨Nat.le_of_ble_eq_true rfl, Nat.le_of_ble_eq_true rfl⟩ (PF.mk rfl)
theorem c_J0_checkIndex_df160 {l : Launch} {D : Ds} {L : La} (σ : Me) {tx : List Nat} {a v : Nat} (hS : SD D tx a v) {k n : Nat} (hk : k < n) (hn : n < 2 ^ 31) : Ct l yJ0_checkIndex_df160 cJ0_checkIndex_df160 2 none { frames := 1, cells := 0, slots := 0, locals := 22 } D L σ [.int (nI k), .int (nI n)] (PV L (fun σ2 => σ2 = σ)) := by
  refine Ct.of (by decide) (Nat.le_of_ble_eq_true rfl) ?_
  intro X hl hD hnl hX0 hQ
  have hX : Ok X cJ0_checkIndex_df160 RJ0 "checkIndex" { frames := 1, cells := 0, slots := 0, locals := 22 } none := hX0
  show At X L σ 0 0 [(0, .int (nI k)), (1, .int (nI n))] 0 []
  obtain ⟨⟨hZ, hF⟩, hO, hc, hv, hT⟩ := hS.2.2 (xs X) (by rw [← hD]; exact hX.2.2.2.2.2.1.2.2.1)
  rw [← hD] at hZ hF hO hc hv hT
  refine r_iload_n hX dJ0_checkIndex_df160_0 rfl ?_
  refine r_iload_n hX dJ0_checkIndex_df160_1 rfl ?_
  obtain ⟨w, hw, hF⟩ : ∃ w : Value, (w = .null ∨ ∃ t, w = .ref t) ∧ va_Z "jdk/internal/util/Preconditions" "SIOOBE_FORMATTER" "Ljava/util/function/BiFunction;" w No (xs X) (xD X).2.2.2.1 := by
    rcases hF with hF | ⟨t, hF⟩
    · exact ⟨_, Or.inl rfl, hF⟩
    · exact ⟨_, Or.inr ⟨t, rfl⟩, hF⟩
  refine r_getst hX hF dJ0_checkIndex_df160_2 (inT_3 (List.mem_of_getElem? (i := 201) rfl) rfl) ?_
  refine r_callSF (As := [.int (nI k), .int (nI n), w]) (rest := []) hX (c_J3_checkIndex_8e157 σ hw hk hn) dJ0_checkIndex_df160_5 cb_J0_1059 rfl rfl ⟨Nat.le_of_ble_eq_true rfl, Nat.le_of_ble_eq_true rfl⟩ ⟨Nat.le_of_ble_eq_true rfl, Nat.le_of_ble_eq_true rfl⟩ (Nat.le_of_ble_eq_true rfl) ?_
  refine r_pop hX dJ0_checkIndex_df160_8 rfl ?_
  exact r_return hX hQ dJ0_checkIndex_df160_9 ⟨Nat.le_of_ble_eq_true rfl, Nat.le_of_ble_eq_true rfl⟩ (PV.mk rfl)
theorem ch_ok {n : Nat} (h : n < 128) : ((nI n &&& nI 255).toUInt32 % 65536).toInt32 = nI n := by
  revert n
  decide +kernel
theorem c_J1_charAt_3b067 {l : Launch} {D : Ds} {L : La} (σ : Me) {tx : List Nat} {a v : Nat} (hS : SD D tx a v) {k : Nat} (hk : k < tx.length) : Ct l yJ1_charAt_3b067 cJ1_charAt_3b067 2 (some .char) { frames := 2, cells := 0, slots := 0, locals := 43 } D L σ [.ref v, .int (nI k)] (PF L σ (nI (tx.getD k 0))) := by
  refine Ct.of (by decide) (Nat.le_of_ble_eq_true rfl) ?_
  intro X hl hD hnl hX0 hQ
  have hX : Ok X cJ1_charAt_3b067 RJ1 "charAt" { frames := 2, cells := 0, slots := 0, locals := 43 } (some .char) := hX0
  show At X L σ 0 0 [(0, .ref v), (1, .int (nI k))] 0 []
  obtain ⟨⟨hZ, hF⟩, hO, hc, hv, hT⟩ := hS.2.2 (xs X) (by rw [← hD]; exact hX.2.2.2.2.2.1.2.2.1)
  rw [← hD] at hZ hF hO hc hv hT
  refine r_iload_n hX dJ1_charAt_3b067_0 rfl ?_
  refine r_aload_n hX dJ1_charAt_3b067_1 rfl ?_
  refine r_alenT hX hT dJ1_charAt_3b067_2 ?_
  refine r_callSV (As := [.int (nI k), .int (nI tx.length)]) (rest := []) hX (by rw [hl, hD]; exact c_J0_checkIndex_df160 σ hS hk hS.1) dJ1_charAt_3b067_3 cb_J1_9 rfl rfl ⟨Nat.le_of_ble_eq_true rfl, Nat.le_of_ble_eq_true rfl⟩ ⟨Nat.le_of_ble_eq_true rfl, Nat.le_of_ble_eq_true rfl⟩ (Nat.le_of_ble_eq_true rfl) (fun σ2 h2 => ?_)
  replace h2 := h2.symm
  subst h2
  refine r_aload_n hX dJ1_charAt_3b067_6 rfl ?_
  refine r_iload_n hX dJ1_charAt_3b067_7 rfl ?_
  refine r_baldT hX hT dJ1_charAt_3b067_8 hS.1 hk ?_
  refine r_sipush hX (nI 255) dJ1_charAt_3b067_9 rfl ?_
  refine r_iand hX dJ1_charAt_3b067_12 ?_
  refine r_i2c hX dJ1_charAt_3b067_13 ?_
  rw [ch_ok (hS.2.1 k)]
  exact r_treturn hX hQ dJ1_charAt_3b067_14 ⟨Nat.le_of_ble_eq_true rfl, Nat.le_of_ble_eq_true rfl⟩ (by have h := hS.2.1 k; revert h; generalize tx.getD k 0 = z; revert z; decide +kernel) (PF.mk rfl)
theorem c_J0_charAt_5068e {l : Launch} {D : Ds} {L : La} (σ : Me) {tx : List Nat} {a v : Nat} (hS : SD D tx a v) {k : Nat} (hk : k < tx.length) : Ct l yJ0_charAt_5068e cJ0_charAt_5068e 2 (some .char) { frames := 3, cells := 0, slots := 0, locals := 64 } D L σ [.ref a, .int (nI k)] (PF L σ (nI (tx.getD k 0))) := by
  refine Ct.of (by decide) (Nat.le_of_ble_eq_true rfl) ?_
  intro X hl hD hnl hX0 hQ
  have hX : Ok X cJ0_charAt_5068e RJ0 "charAt" { frames := 3, cells := 0, slots := 0, locals := 64 } (some .char) := hX0
  show At X L σ 0 0 [(0, .ref a), (1, .int (nI k))] 0 []
  obtain ⟨⟨hZ, hF⟩, hO, hc, hv, hT⟩ := hS.2.2 (xs X) (by rw [← hD]; exact hX.2.2.2.2.2.1.2.2.1)
  rw [← hD] at hZ hF hO hc hv hT
  refine r_aload_n hX dJ0_charAt_5068e_0 rfl ?_
  refine r_callVSt (As := []) (rest := []) hX hO (by rw [hl, hD]; exact c_J0_isLatin1_aae02 σ hS) dJ0_charAt_5068e_1 cb_J0_492 rfl rfl ⟨Nat.le_of_ble_eq_true rfl, Nat.le_of_ble_eq_true rfl⟩ ⟨Nat.le_of_ble_eq_true rfl, Nat.le_of_ble_eq_true rfl⟩ (Nat.le_of_ble_eq_true rfl) ?_
  refine r_ifN_eq hX dJ0_charAt_5068e_4 (by decide) (fun c => absurd c (by decide)) (fun _ => ?_)
  refine r_aload_n hX dJ0_charAt_5068e_7 rfl ?_
  refine r_getS hX hv dJ0_charAt_5068e_8 (inT_7 (List.mem_of_getElem? (i := 91) rfl) rfl) ?_
  refine r_iload_n hX dJ0_charAt_5068e_11 rfl ?_
  refine r_callSF (As := [.ref v, .int (nI k)]) (rest := []) hX (by rw [hl, hD]; exact c_J1_charAt_3b067 σ hS hk) dJ0_charAt_5068e_12 cb_J0_495 rfl rfl ⟨Nat.le_of_ble_eq_true rfl, Nat.le_of_ble_eq_true rfl⟩ ⟨Nat.le_of_ble_eq_true rfl, Nat.le_of_ble_eq_true rfl⟩ (Nat.le_of_ble_eq_true rfl) ?_
  exact r_treturn hX hQ dJ0_charAt_5068e_15 ⟨Nat.le_of_ble_eq_true rfl, Nat.le_of_ble_eq_true rfl⟩ (by have h := hS.2.1 k; revert h; generalize tx.getD k 0 = z; revert z; decide +kernel) (PF.mk rfl)
