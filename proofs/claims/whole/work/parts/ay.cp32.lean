/-! ===== the launch ===== -/
theorem inL_1 {w : Cond} (h : w ∈ tables_1_1) : w ∈ lw_tbl := List.mem_append_right _ (List.mem_append_left _ h)
theorem inL_2 {w : Cond} (h : w ∈ tables_1_2) : w ∈ lw_tbl := List.mem_append_right _ (List.mem_append_right _ (List.mem_append_left _ h))
theorem inL_3 {w : Cond} (h : w ∈ tables_1_3) : w ∈ lw_tbl := List.mem_append_right _ (List.mem_append_right _ (List.mem_append_right _ (List.mem_append_left _ h)))
theorem inL_4 {w : Cond} (h : w ∈ tables_1_4) : w ∈ lw_tbl := List.mem_append_right _ (List.mem_append_right _ (List.mem_append_right _ (List.mem_append_right _ (List.mem_append_left _ h))))
theorem inL_5 {w : Cond} (h : w ∈ tables_1_5) : w ∈ lw_tbl := List.mem_append_right _ (List.mem_append_right _ (List.mem_append_right _ (List.mem_append_right _ (List.mem_append_right _ (List.mem_append_left _ h)))))
theorem inL_6 {w : Cond} (h : w ∈ tables_1_6) : w ∈ lw_tbl := List.mem_append_right _ (List.mem_append_right _ (List.mem_append_right _ (List.mem_append_right _ (List.mem_append_right _ (List.mem_append_right _ (List.mem_append_left _ h))))))
theorem inL_7 {w : Cond} (h : w ∈ tables_1_7) : w ∈ lw_tbl := List.mem_append_right _ (List.mem_append_right _ (List.mem_append_right _ (List.mem_append_right _ (List.mem_append_right _ (List.mem_append_right _ (List.mem_append_right _ (h)))))))
/-- what the launch holds and every later state -/
def LF (H0 : Heap) (ka : Nat) (J K : Nat → Nat × Nat) (u : State) : Prop :=
  (∀ w ∈ NW, va_Nw w u) ∧ (va_AO "FiveStars$Sheet" u ∧ va_AO "FiveStars$Slot" u ∧ va_AO "FiveStars$Text" u) ∧ (va_Z "FiveStars$Kinds" "ABOVE" "[I" (.ref ka) No u H0 ∧ va_T .int ka 6 (fun j => .int (abI j)) No u H0) ∧ Sj H0 u ∧ (∀ i, i < 3 → Sg (txt3 i) (J i).1 (J i).2 H0 u) ∧ (∀ i, i < 3 → Sg (nm3 i) (J (3 + i)).1 (J (3 + i)).2 H0 u) ∧ (∀ i, i < 3 → Sg (txt3 i) (K i).1 (K i).2 H0 u) ∧
  (vk_R RX7 31 "weigh" (J 0).1 u ∧ vk_R RX7 33 "sign" (J 1).1 u ∧ vk_R RX7 35 "show" (J 2).1 u ∧ vk_R RX7 37 "shb" (J 3).1 u ∧ vk_R RX7 39 "shbc" (J 4).1 u ∧ vk_R RX7 41 "mwc" (J 5).1 u) ∧ vk_R RX10 328 "weigh" (K 0).1 u ∧ vk_R RX10 334 "sign" (K 1).1 u ∧ vk_R RX10 335 "show" (K 2).1 u
theorem Sg.moved {tx : List Nat} {a v : Nat} {H0 : Heap} {u U : State} (hvm : u.vm.Alike U.vm) (h : Sg tx a v H0 u) : Sg tx a v H0 U := ⟨va_O.moved hvm h.1, va_OF.moved hvm h.2.1, va_OF.moved hvm h.2.2.1, va_T.moved hvm h.2.2.2⟩
theorem NW_all {p : Cond → Prop} (h : ∀ a i x q, Cond.methodLinkNest a i x q ∈ NW → p (.methodLinkNest a i x q)) : ∀ w ∈ NW, p w := by
  intro w hw
  have hw2 := hw
  unfold NW at hw2
  simp only [List.mem_cons, List.not_mem_nil, or_false] at hw2
  rcases hw2 with rfl | rfl | rfl | rfl | rfl | rfl | rfl | rfl <;> exact h _ _ _ _ hw
theorem LF.warm {H0 : Heap} {ka : Nat} {J K : Nat → Nat × Nat} {s U : State} (hW : s.WarmedH U.vm) (h : LF H0 ka J K s) : LF H0 ka J K U := by
  obtain ⟨h1, h2, h3, h4, h5, h6, h7, h8, h9⟩ := h
  have hv := hW.alike
  exact ⟨NW_all (p := fun w => va_Nw w U) (fun a i x q hm => va_Nw.warmM hW (h1 _ hm)), ⟨va_AO.moved hv h2.1, va_AO.moved hv h2.2.1, va_AO.moved hv h2.2.2⟩, ⟨va_Z.moved hv h3.1, va_T.moved hv h3.2⟩, ⟨va_Z.moved hv h4.1, va_Zq.moved hv h4.2⟩, fun i hi => (h5 i hi).moved hv, fun i hi => (h6 i hi).moved hv, fun i hi => (h7 i hi).moved hv, ⟨h8.1.warm hW, h8.2.1.warm hW, h8.2.2.1.warm hW, h8.2.2.2.1.warm hW, h8.2.2.2.2.1.warm hW, h8.2.2.2.2.2.warm hW⟩, h9.1.warm hW, h9.2.1.warm hW, h9.2.2.warm hW⟩
theorem LF.same {H0 : Heap} {ka : Nat} {J K : Nat → Nat × Nat} {s U : State} (e : s.vm = U.vm) (h : LF H0 ka J K s) : LF H0 ka J K U := by
  obtain ⟨h1, h2, h3, h4, h5, h6, h7, h8, h9⟩ := h
  have hv : s.vm.Alike U.vm := by rw [e]; exact Vm.Alike.refl _
  have e2 := e.symm
  exact ⟨NW_all (p := fun w => va_Nw w U) (fun a i x q hm => va_Nw.same rfl e (h1 _ hm)), ⟨va_AO.moved hv h2.1, va_AO.moved hv h2.2.1, va_AO.moved hv h2.2.2⟩, ⟨va_Z.moved hv h3.1, va_T.moved hv h3.2⟩, ⟨va_Z.moved hv h4.1, va_Zq.moved hv h4.2⟩, fun i hi => (h5 i hi).moved hv, fun i hi => (h6 i hi).moved hv, fun i hi => (h7 i hi).moved hv, ⟨h8.1.same e2, h8.2.1.same e2, h8.2.2.1.same e2, h8.2.2.2.1.same e2, h8.2.2.2.2.1.same e2, h8.2.2.2.2.2.same e2⟩, h9.1.same e2, h9.2.1.same e2, h9.2.2.same e2⟩
theorem LF.LE {dC : Nat → ClassId} {dI : Nat → Nat → Nat} {dA : Nat → ClassId} {H0 : Heap} {ka : Nat} {J K : Nat → Nat × Nat} : LE (dC, dI, dA, H0, LF H0 ka J K) := by
  have ht : ∀ i, (txt3 i).length < 2 ^ 31 ∧ ∀ j, (txt3 i).getD j 0 < 128 := fun i => by
    unfold txt3
    split <;> exact ⟨by decide, fun j => by
      rcases j with _ | _ | _ | _ | _ | j <;> simp⟩
  have hm : ∀ i, (nm3 i).length < 2 ^ 31 ∧ ∀ j, (nm3 i).getD j 0 < 128 := fun i => by
    unfold nm3
    split <;> exact ⟨by decide, fun j => by
      rcases j with _ | _ | _ | _ | _ | j <;> simp⟩
  exact ⟨fun s h => h.1, fun s h => h.2.1, ⟨ka, fun s h => h.2.2.1⟩, ⟨J, fun i hi => ⟨(ht i).1, (ht i).2, fun s h => ⟨h.2.2.2.1, h.2.2.2.2.1 i hi⟩⟩, fun i hi => ⟨(hm i).1, (hm i).2, fun s h => ⟨h.2.2.2.1, h.2.2.2.2.2.1 i hi⟩⟩, fun s h => h.2.2.2.2.2.2.2.1⟩, K, fun i hi => ⟨(ht i).1, (ht i).2, fun s h => ⟨h.2.2.2.1, h.2.2.2.2.2.2.1 i hi⟩⟩, fun s h => h.2.2.2.2.2.2.2.2⟩
theorem sg_of {args : Array Value} {s : State} {tm : Term} {tx : List Nat} (hlen : tx.length < 2 ^ 31) (hex : (Cond.exactly tm "java/lang/String").before args s = true) (hco : (Cond.eq (.field tm "java/lang/String" "coder" "B") (.int 0)).before args s = true) (har : (Cond.arrayOf (.field tm "java/lang/String" "value" "[B") .byte).before args s = true) (hle : (Cond.eq (.length (.field tm "java/lang/String" "value" "[B")) (.int (Int32.ofNat tx.length))).before args s = true) (hel : ∀ j : Nat, j < tx.length → (Cond.eq (.elem (.field tm "java/lang/String" "value" "[B") (.int (Int32.ofNat j))) (.int (nI (tx.getD j 0)))).before args s = true) : ∃ a v : Nat, tm.eval args s none [] s = some (.ref a) ∧ Sg tx a v s.heap s := by
  have hA : ∀ a : Nat, a < s.heap.size → ¬ No a := fun _ _ h => h
  obtain ⟨a, c, cA, kA, q1, q2, q3, q4, q5, q6, -⟩ := Cond.exactly_spec (args := args) (first := s) (o := none) (s := s) (idx := []) (t := tm) (cls := "java/lang/String") hex
  obtain ⟨t, ht, hT⟩ := va_Tof (f := fun j => .int (nI (tx.getD j 0))) (A := No) hlen har (va_eqt hle) (fun j hj => va_eqt (hel j hj)) hA
  exact ⟨a, t, q1, ⟨cA, q3, q5, by rw [q6]; exact q2, fun h => h⟩, vk_OFof q1 (va_eqt hco) hA, vk_OFof q1 ht hA, hT⟩

set_option maxRecDepth 100000 in
theorem lts_0 {s : State} {b : Nat} (hgv : (Jvm.Cond.and given_1 narrow_1).before #[Value.ref b] s = true) : ∃ a v : Nat, (Term.string "FiveStars$Text" 31).eval #[Value.ref b] s none [] s = some (.ref a) ∧ Sg [119, 101, 105, 103, 104] a v s.heap s := by
  have hs := flat_of_before _ hgv
  refine sg_of (tm := (Term.string "FiveStars$Text" 31)) (by decide) (hs _ (by decide +kernel)) (hs _ (by decide +kernel)) (hs _ (by decide +kernel)) (hs (Cond.eq (.length (.field (Term.string "FiveStars$Text" 31) "java/lang/String" "value" "[B")) (.int 5)) (by decide +kernel)) (fun j hj => ?_)
  rcases (show j = 0 ∨ j = 1 ∨ j = 2 ∨ j = 3 ∨ j = 4 by simp at hj; omega) with rfl | rfl | rfl | rfl | rfl
  · exact hs (Cond.eq (.elem (.field (Term.string "FiveStars$Text" 31) "java/lang/String" "value" "[B") (.int 0)) (.int 119)) (by decide +kernel)
  · exact hs (Cond.eq (.elem (.field (Term.string "FiveStars$Text" 31) "java/lang/String" "value" "[B") (.int 1)) (.int 101)) (by decide +kernel)
  · exact hs (Cond.eq (.elem (.field (Term.string "FiveStars$Text" 31) "java/lang/String" "value" "[B") (.int 2)) (.int 105)) (by decide +kernel)
  · exact hs (Cond.eq (.elem (.field (Term.string "FiveStars$Text" 31) "java/lang/String" "value" "[B") (.int 3)) (.int 103)) (by decide +kernel)
  · exact hs (Cond.eq (.elem (.field (Term.string "FiveStars$Text" 31) "java/lang/String" "value" "[B") (.int 4)) (.int 104)) (by decide +kernel)

set_option maxRecDepth 100000 in
theorem lts_1 {s : State} {b : Nat} (hgv : (Jvm.Cond.and given_1 narrow_1).before #[Value.ref b] s = true) : ∃ a v : Nat, (Term.string "FiveStars$Text" 33).eval #[Value.ref b] s none [] s = some (.ref a) ∧ Sg [115, 105, 103, 110] a v s.heap s := by
  have hs := flat_of_before _ hgv
  refine sg_of (tm := (Term.string "FiveStars$Text" 33)) (by decide) (hs _ (by decide +kernel)) (hs _ (by decide +kernel)) (hs _ (by decide +kernel)) (hs (Cond.eq (.length (.field (Term.string "FiveStars$Text" 33) "java/lang/String" "value" "[B")) (.int 4)) (by decide +kernel)) (fun j hj => ?_)
  rcases (show j = 0 ∨ j = 1 ∨ j = 2 ∨ j = 3 by simp at hj; omega) with rfl | rfl | rfl | rfl
  · exact hs (Cond.eq (.elem (.field (Term.string "FiveStars$Text" 33) "java/lang/String" "value" "[B") (.int 0)) (.int 115)) (by decide +kernel)
  · exact hs (Cond.eq (.elem (.field (Term.string "FiveStars$Text" 33) "java/lang/String" "value" "[B") (.int 1)) (.int 105)) (by decide +kernel)
  · exact hs (Cond.eq (.elem (.field (Term.string "FiveStars$Text" 33) "java/lang/String" "value" "[B") (.int 2)) (.int 103)) (by decide +kernel)
  · exact hs (Cond.eq (.elem (.field (Term.string "FiveStars$Text" 33) "java/lang/String" "value" "[B") (.int 3)) (.int 110)) (by decide +kernel)

set_option maxRecDepth 100000 in
theorem lts_2 {s : State} {b : Nat} (hgv : (Jvm.Cond.and given_1 narrow_1).before #[Value.ref b] s = true) : ∃ a v : Nat, (Term.string "FiveStars$Text" 35).eval #[Value.ref b] s none [] s = some (.ref a) ∧ Sg [115, 104, 111, 119] a v s.heap s := by
  have hs := flat_of_before _ hgv
  refine sg_of (tm := (Term.string "FiveStars$Text" 35)) (by decide) (hs _ (by decide +kernel)) (hs _ (by decide +kernel)) (hs _ (by decide +kernel)) (hs (Cond.eq (.length (.field (Term.string "FiveStars$Text" 35) "java/lang/String" "value" "[B")) (.int 4)) (by decide +kernel)) (fun j hj => ?_)
  rcases (show j = 0 ∨ j = 1 ∨ j = 2 ∨ j = 3 by simp at hj; omega) with rfl | rfl | rfl | rfl
  · exact hs (Cond.eq (.elem (.field (Term.string "FiveStars$Text" 35) "java/lang/String" "value" "[B") (.int 0)) (.int 115)) (by decide +kernel)
  · exact hs (Cond.eq (.elem (.field (Term.string "FiveStars$Text" 35) "java/lang/String" "value" "[B") (.int 1)) (.int 104)) (by decide +kernel)
  · exact hs (Cond.eq (.elem (.field (Term.string "FiveStars$Text" 35) "java/lang/String" "value" "[B") (.int 2)) (.int 111)) (by decide +kernel)
  · exact hs (Cond.eq (.elem (.field (Term.string "FiveStars$Text" 35) "java/lang/String" "value" "[B") (.int 3)) (.int 119)) (by decide +kernel)

set_option maxRecDepth 100000 in
theorem lts_3 {s : State} {b : Nat} (hgv : (Jvm.Cond.and given_1 narrow_1).before #[Value.ref b] s = true) : ∃ a v : Nat, (Term.string "FiveStars$Text" 37).eval #[Value.ref b] s none [] s = some (.ref a) ∧ Sg [115, 104, 98] a v s.heap s := by
  have hs := flat_of_before _ hgv
  refine sg_of (tm := (Term.string "FiveStars$Text" 37)) (by decide) (hs _ (by decide +kernel)) (hs _ (by decide +kernel)) (hs _ (by decide +kernel)) (hs (Cond.eq (.length (.field (Term.string "FiveStars$Text" 37) "java/lang/String" "value" "[B")) (.int 3)) (by decide +kernel)) (fun j hj => ?_)
  rcases (show j = 0 ∨ j = 1 ∨ j = 2 by simp at hj; omega) with rfl | rfl | rfl
  · exact hs (Cond.eq (.elem (.field (Term.string "FiveStars$Text" 37) "java/lang/String" "value" "[B") (.int 0)) (.int 115)) (by decide +kernel)
  · exact hs (Cond.eq (.elem (.field (Term.string "FiveStars$Text" 37) "java/lang/String" "value" "[B") (.int 1)) (.int 104)) (by decide +kernel)
  · exact hs (Cond.eq (.elem (.field (Term.string "FiveStars$Text" 37) "java/lang/String" "value" "[B") (.int 2)) (.int 98)) (by decide +kernel)

set_option maxRecDepth 100000 in
theorem lts_4 {s : State} {b : Nat} (hgv : (Jvm.Cond.and given_1 narrow_1).before #[Value.ref b] s = true) : ∃ a v : Nat, (Term.string "FiveStars$Text" 39).eval #[Value.ref b] s none [] s = some (.ref a) ∧ Sg [115, 104, 98, 99] a v s.heap s := by
  have hs := flat_of_before _ hgv
  refine sg_of (tm := (Term.string "FiveStars$Text" 39)) (by decide) (hs _ (by decide +kernel)) (hs _ (by decide +kernel)) (hs _ (by decide +kernel)) (hs (Cond.eq (.length (.field (Term.string "FiveStars$Text" 39) "java/lang/String" "value" "[B")) (.int 4)) (by decide +kernel)) (fun j hj => ?_)
  rcases (show j = 0 ∨ j = 1 ∨ j = 2 ∨ j = 3 by simp at hj; omega) with rfl | rfl | rfl | rfl
  · exact hs (Cond.eq (.elem (.field (Term.string "FiveStars$Text" 39) "java/lang/String" "value" "[B") (.int 0)) (.int 115)) (by decide +kernel)
  · exact hs (Cond.eq (.elem (.field (Term.string "FiveStars$Text" 39) "java/lang/String" "value" "[B") (.int 1)) (.int 104)) (by decide +kernel)
  · exact hs (Cond.eq (.elem (.field (Term.string "FiveStars$Text" 39) "java/lang/String" "value" "[B") (.int 2)) (.int 98)) (by decide +kernel)
  · exact hs (Cond.eq (.elem (.field (Term.string "FiveStars$Text" 39) "java/lang/String" "value" "[B") (.int 3)) (.int 99)) (by decide +kernel)

set_option maxRecDepth 100000 in
theorem lts_5 {s : State} {b : Nat} (hgv : (Jvm.Cond.and given_1 narrow_1).before #[Value.ref b] s = true) : ∃ a v : Nat, (Term.string "FiveStars$Text" 41).eval #[Value.ref b] s none [] s = some (.ref a) ∧ Sg [109, 119, 99] a v s.heap s := by
  have hs := flat_of_before _ hgv
  refine sg_of (tm := (Term.string "FiveStars$Text" 41)) (by decide) (hs _ (by decide +kernel)) (hs _ (by decide +kernel)) (hs _ (by decide +kernel)) (hs (Cond.eq (.length (.field (Term.string "FiveStars$Text" 41) "java/lang/String" "value" "[B")) (.int 3)) (by decide +kernel)) (fun j hj => ?_)
  rcases (show j = 0 ∨ j = 1 ∨ j = 2 by simp at hj; omega) with rfl | rfl | rfl
  · exact hs (Cond.eq (.elem (.field (Term.string "FiveStars$Text" 41) "java/lang/String" "value" "[B") (.int 0)) (.int 109)) (by decide +kernel)
  · exact hs (Cond.eq (.elem (.field (Term.string "FiveStars$Text" 41) "java/lang/String" "value" "[B") (.int 1)) (.int 119)) (by decide +kernel)
  · exact hs (Cond.eq (.elem (.field (Term.string "FiveStars$Text" 41) "java/lang/String" "value" "[B") (.int 2)) (.int 99)) (by decide +kernel)

set_option maxRecDepth 100000 in
theorem lts_6 {s : State} {b : Nat} (hgv : (Jvm.Cond.and given_1 narrow_1).before #[Value.ref b] s = true) : ∃ a v : Nat, (Term.string "FiveStarsModel" 328).eval #[Value.ref b] s none [] s = some (.ref a) ∧ Sg [119, 101, 105, 103, 104] a v s.heap s := by
  have hs := flat_of_before _ hgv
  refine sg_of (tm := (Term.string "FiveStarsModel" 328)) (by decide) (hs _ (by decide +kernel)) (hs _ (by decide +kernel)) (hs _ (by decide +kernel)) (hs (Cond.eq (.length (.field (Term.string "FiveStarsModel" 328) "java/lang/String" "value" "[B")) (.int 5)) (by decide +kernel)) (fun j hj => ?_)
  rcases (show j = 0 ∨ j = 1 ∨ j = 2 ∨ j = 3 ∨ j = 4 by simp at hj; omega) with rfl | rfl | rfl | rfl | rfl
  · exact hs (Cond.eq (.elem (.field (Term.string "FiveStarsModel" 328) "java/lang/String" "value" "[B") (.int 0)) (.int 119)) (by decide +kernel)
  · exact hs (Cond.eq (.elem (.field (Term.string "FiveStarsModel" 328) "java/lang/String" "value" "[B") (.int 1)) (.int 101)) (by decide +kernel)
  · exact hs (Cond.eq (.elem (.field (Term.string "FiveStarsModel" 328) "java/lang/String" "value" "[B") (.int 2)) (.int 105)) (by decide +kernel)
  · exact hs (Cond.eq (.elem (.field (Term.string "FiveStarsModel" 328) "java/lang/String" "value" "[B") (.int 3)) (.int 103)) (by decide +kernel)
  · exact hs (Cond.eq (.elem (.field (Term.string "FiveStarsModel" 328) "java/lang/String" "value" "[B") (.int 4)) (.int 104)) (by decide +kernel)

set_option maxRecDepth 100000 in
theorem lts_7 {s : State} {b : Nat} (hgv : (Jvm.Cond.and given_1 narrow_1).before #[Value.ref b] s = true) : ∃ a v : Nat, (Term.string "FiveStarsModel" 334).eval #[Value.ref b] s none [] s = some (.ref a) ∧ Sg [115, 105, 103, 110] a v s.heap s := by
  have hs := flat_of_before _ hgv
  refine sg_of (tm := (Term.string "FiveStarsModel" 334)) (by decide) (hs _ (by decide +kernel)) (hs _ (by decide +kernel)) (hs _ (by decide +kernel)) (hs (Cond.eq (.length (.field (Term.string "FiveStarsModel" 334) "java/lang/String" "value" "[B")) (.int 4)) (by decide +kernel)) (fun j hj => ?_)
  rcases (show j = 0 ∨ j = 1 ∨ j = 2 ∨ j = 3 by simp at hj; omega) with rfl | rfl | rfl | rfl
  · exact hs (Cond.eq (.elem (.field (Term.string "FiveStarsModel" 334) "java/lang/String" "value" "[B") (.int 0)) (.int 115)) (by decide +kernel)
  · exact hs (Cond.eq (.elem (.field (Term.string "FiveStarsModel" 334) "java/lang/String" "value" "[B") (.int 1)) (.int 105)) (by decide +kernel)
  · exact hs (Cond.eq (.elem (.field (Term.string "FiveStarsModel" 334) "java/lang/String" "value" "[B") (.int 2)) (.int 103)) (by decide +kernel)
  · exact hs (Cond.eq (.elem (.field (Term.string "FiveStarsModel" 334) "java/lang/String" "value" "[B") (.int 3)) (.int 110)) (by decide +kernel)

set_option maxRecDepth 100000 in
theorem lts_8 {s : State} {b : Nat} (hgv : (Jvm.Cond.and given_1 narrow_1).before #[Value.ref b] s = true) : ∃ a v : Nat, (Term.string "FiveStarsModel" 335).eval #[Value.ref b] s none [] s = some (.ref a) ∧ Sg [115, 104, 111, 119] a v s.heap s := by
  have hs := flat_of_before _ hgv
  refine sg_of (tm := (Term.string "FiveStarsModel" 335)) (by decide) (hs _ (by decide +kernel)) (hs _ (by decide +kernel)) (hs _ (by decide +kernel)) (hs (Cond.eq (.length (.field (Term.string "FiveStarsModel" 335) "java/lang/String" "value" "[B")) (.int 4)) (by decide +kernel)) (fun j hj => ?_)
  rcases (show j = 0 ∨ j = 1 ∨ j = 2 ∨ j = 3 by simp at hj; omega) with rfl | rfl | rfl | rfl
  · exact hs (Cond.eq (.elem (.field (Term.string "FiveStarsModel" 335) "java/lang/String" "value" "[B") (.int 0)) (.int 115)) (by decide +kernel)
  · exact hs (Cond.eq (.elem (.field (Term.string "FiveStarsModel" 335) "java/lang/String" "value" "[B") (.int 1)) (.int 104)) (by decide +kernel)
  · exact hs (Cond.eq (.elem (.field (Term.string "FiveStarsModel" 335) "java/lang/String" "value" "[B") (.int 2)) (.int 111)) (by decide +kernel)
  · exact hs (Cond.eq (.elem (.field (Term.string "FiveStarsModel" 335) "java/lang/String" "value" "[B") (.int 3)) (.int 119)) (by decide +kernel)

set_option maxRecDepth 100000 in
theorem lt_ab {s : State} {b : Nat} (hts : ∀ w ∈ lw_tbl, w.before #[Value.ref b] s = true) (hgv : (Jvm.Cond.and given_1 narrow_1).before #[Value.ref b] s = true) : ∃ ka : Nat, va_Z "FiveStars$Kinds" "ABOVE" "[I" (.ref ka) No s s.heap ∧ va_T .int ka 6 (fun j => .int (abI j)) No s s.heap := by
  have hs := flat_of_before _ hgv
  have hA : ∀ a : Nat, a < s.heap.size → ¬ No a := fun _ _ h => h
  obtain ⟨t, ht, hT⟩ := va_Tof (tm := (.static "FiveStars$Kinds" "ABOVE" "[I")) (ty := .int) (N := 6) (f := fun j => .int (abI j)) (A := No) (by decide) (hs _ (by decide +kernel)) (va_eqt (hs (Cond.eq (.length (.static "FiveStars$Kinds" "ABOVE" "[I")) (.int 6)) (by decide +kernel))) (fun j hj => by
    rcases (show j = 0 ∨ j = 1 ∨ j = 2 ∨ j = 3 ∨ j = 4 ∨ j = 5 by omega) with rfl | rfl | rfl | rfl | rfl | rfl
    · exact va_eqt (hs (Cond.eq (.elem (.static "FiveStars$Kinds" "ABOVE" "[I") (.int 0)) (.int (-1))) (by decide +kernel))
    · exact va_eqt (hs (Cond.eq (.elem (.static "FiveStars$Kinds" "ABOVE" "[I") (.int 1)) (.int (0))) (by decide +kernel))
    · exact va_eqt (hs (Cond.eq (.elem (.static "FiveStars$Kinds" "ABOVE" "[I") (.int 2)) (.int (0))) (by decide +kernel))
    · exact va_eqt (hs (Cond.eq (.elem (.static "FiveStars$Kinds" "ABOVE" "[I") (.int 3)) (.int (1))) (by decide +kernel))
    · exact va_eqt (hs (Cond.eq (.elem (.static "FiveStars$Kinds" "ABOVE" "[I") (.int 4)) (.int (2))) (by decide +kernel))
    · exact va_eqt (hs (Cond.eq (.elem (.static "FiveStars$Kinds" "ABOVE" "[I") (.int 5)) (.int (0))) (by decide +kernel))
    ) hA
  exact ⟨t, va_Zof (hts _ (inL_2 (List.mem_of_getElem? (i := 185) rfl))) (hts _ (inL_1 (List.mem_of_getElem? (i := 12) rfl))) ht hA, hT⟩
theorem lt_sj {s : State} {b : Nat} (hts : ∀ w ∈ lw_tbl, w.before #[Value.ref b] s = true) (hgv : (Jvm.Cond.and given_1 narrow_1).before #[Value.ref b] s = true) : Sj s.heap s := by
  have hs := flat_of_before _ hgv
  have hA : ∀ a : Nat, a < s.heap.size → ¬ No a := fun _ _ h => h
  exact ⟨va_Zof (hts _ (inL_3 (List.mem_of_getElem? (i := 186) rfl))) (hts _ (inL_1 (List.mem_of_getElem? (i := 14) rfl))) (va_eqt (hs (Cond.eq (.static "java/lang/String" "COMPACT_STRINGS" "Z") (.int 1)) (by decide +kernel))) hA, va_Zqof (hts _ (inL_3 (List.mem_of_getElem? (i := 202) rfl))) (hts _ (inL_1 (List.mem_of_getElem? (i := 16) rfl))) (hs _ (by decide +kernel)) hA⟩

theorem lt_nw {s : State} {b : Nat} (hts : ∀ w ∈ lw_tbl, w.before #[Value.ref b] s = true) : ∀ w ∈ NW, va_Nw w s := by
  intro w hw
  unfold NW at hw
  simp only [List.mem_cons, List.not_mem_nil, or_false] at hw
  rcases hw with rfl | rfl | rfl | rfl | rfl | rfl | rfl | rfl
  · exact va_Nw.of rfl (hts _ (inL_1 (List.mem_of_getElem? (i := 31) rfl)))
  · exact va_Nw.of rfl (hts _ (inL_1 (List.mem_of_getElem? (i := 126) rfl)))
  · exact va_Nw.of rfl (hts _ (inL_1 (List.mem_of_getElem? (i := 136) rfl)))
  · exact va_Nw.of rfl (hts _ (inL_1 (List.mem_of_getElem? (i := 191) rfl)))
  · exact va_Nw.of rfl (hts _ (inL_1 (List.mem_of_getElem? (i := 209) rfl)))
  · exact va_Nw.of rfl (hts _ (inL_1 (List.mem_of_getElem? (i := 37) rfl)))
  · exact va_Nw.of rfl (hts _ (inL_4 (List.mem_of_getElem? (i := 159) rfl)))
  · exact va_Nw.of rfl (hts _ (inL_4 (List.mem_of_getElem? (i := 196) rfl)))

theorem lt_ao {s : State} {b : Nat} (hts : ∀ w ∈ lw_tbl, w.before #[Value.ref b] s = true) : va_AO "FiveStars$Sheet" s ∧ va_AO "FiveStars$Slot" s ∧ va_AO "FiveStars$Text" s := ⟨va_AO.of (hts _ (inL_1 (List.mem_of_getElem? (i := 187) rfl))), va_AO.of (hts _ (inL_1 (List.mem_of_getElem? (i := 189) rfl))), va_AO.of (hts _ (inL_1 (List.mem_of_getElem? (i := 74) rfl)))⟩
theorem ao_arr {C : String} {s : State} (h : va_AO C s) : ∃ c, ArrOfT s c (.object C) ∧ va_RA s c (.object C) := by
  obtain ⟨comp, c, k, h1, h2, h3, h4, h5⟩ := Cond.arrayOver_spec h
  exact ⟨c, fun n z => ⟨fun k h => (by cases h), k, h3, comp, h4⟩, k, comp, h3, h4, h1, h5⟩
theorem ac_arr {t : FieldType} {args : Array Value} {s : State} (h : (Cond.arrayClass t).before args s = true) (ht : ∀ C, t ≠ .object C) : ∃ c, ArrOfT s c t ∧ va_RA s c t := by
  obtain ⟨c, k, comp, h1, h2, h3⟩ := Cond.arrayClass_spec (args := args) (first := s) (o := none) (s := s) (idx := []) h
  refine ⟨c, fun n z => ⟨fun k h => (by cases h), k, h2, comp, h3⟩, ?_⟩
  cases t <;> first | exact h1 | exact absurd rfl (ht _)
theorem lt_arr {s : State} {b : Nat} (hts : ∀ w ∈ lw_tbl, w.before #[Value.ref b] s = true) : ∀ k, ∃ c : ClassId, 10 ≤ k → k < 16 → ArrOfT s c (aty k) ∧ va_RA s c (aty k) := by
  intro k
  by_cases hk : 10 ≤ k ∧ k < 16
  · have q : ∃ c : ClassId, ArrOfT s c (aty k) ∧ va_RA s c (aty k) := by
      rcases (show k = 10 ∨ k = 11 ∨ k = 12 ∨ k = 13 ∨ k = 14 ∨ k = 15 by omega) with rfl | rfl | rfl | rfl | rfl | rfl
      · exact ac_arr (t := .int) (hts _ (inL_1 (List.mem_of_getElem? (i := 72) rfl))) (fun C h => by cases h)
      · exact ac_arr (t := .byte) (hts _ (inL_1 (List.mem_of_getElem? (i := 150) rfl))) (fun C h => by cases h)
      · exact ac_arr (t := .boolean) (hts _ (inL_5 (List.mem_of_getElem? (i := 145) rfl))) (fun C h => by cases h)
      · exact ao_arr (lt_ao hts).1
      · exact ao_arr (lt_ao hts).2.1
      · exact ao_arr (lt_ao hts).2.2
    obtain ⟨c, hc⟩ := q
    exact ⟨c, fun _ _ => hc⟩
  · exact ⟨(default : Nat), fun h1 h2 => absurd ⟨h1, h2⟩ hk⟩
theorem lt_inst : ∀ k, k < 10 → Cond.instantiable (cq k).1 (nf k) ∈ TT := by
  intro k hk
  rcases (show k = 0 ∨ k = 1 ∨ k = 2 ∨ k = 3 ∨ k = 4 ∨ k = 5 ∨ k = 6 ∨ k = 7 ∨ k = 8 ∨ k = 9 by omega) with rfl | rfl | rfl | rfl | rfl | rfl | rfl | rfl | rfl | rfl
  · exact nb_X9_16.2.2.1
  · exact nb_X9_30.2.2.1
  · exact nb_X9_7.2.2.1
  · exact nb_X9_39.2.2.1
  · exact nb_X9_45.2.2.1
  · exact nb_X9_23.2.2.1
  · exact nb_X2_52.2.2.1
  · exact nb_X3_28.2.2.1
  · exact nb_L_7.2.2.1
  · exact nb_L_10.2.2.1
theorem lt_kn {s : State} {b : Nat} (hts : ∀ w ∈ TT, w.before #[Value.ref b] s = true) : ∀ k, ∃ q : ClassId × (Nat → Nat), k < 10 → u_Kn s (cq k).1 (cq k).2.1 (nf k) q.1 q.2 := by
  intro k
  by_cases hk : k < 10
  · obtain ⟨c, iS, h⟩ := u_known (C := (cq k).1) (T := (cq k).2.1) (N := nf k) hts (cq_words k hk) (hts _ (lt_inst k hk))
    exact ⟨(c, iS), fun _ => h⟩
  · exact ⟨((default : Nat), fun _ => 0), fun h => absurd h hk⟩
theorem lt_all {s : State} {b : Nat} (hts : ∀ w ∈ lw_tbl, w.before #[Value.ref b] s = true) (hgv : (Jvm.Cond.and given_1 narrow_1).before #[Value.ref b] s = true) : ∃ D : Ds, D.2.2.2.1 = s.heap ∧ Kd D s ∧ LE D := by
  have hT : ∀ w ∈ TT, w.before #[Value.ref b] s = true := fun w hw => hts w (List.mem_filter.mp hw).1
  obtain ⟨f, hf⟩ := Classical.axiomOfChoice (lt_kn hT)
  obtain ⟨g, hg⟩ := Classical.axiomOfChoice (lt_arr hts)
  obtain ⟨ka, hka⟩ := lt_ab hts hgv
  obtain ⟨a0, v0, e0, s0⟩ := lts_0 hgv
  obtain ⟨a1, v1, e1, s1⟩ := lts_1 hgv
  obtain ⟨a2, v2, e2, s2⟩ := lts_2 hgv
  obtain ⟨a3, v3, e3, s3⟩ := lts_3 hgv
  obtain ⟨a4, v4, e4, s4⟩ := lts_4 hgv
  obtain ⟨a5, v5, e5, s5⟩ := lts_5 hgv
  obtain ⟨a6, v6, e6, s6⟩ := lts_6 hgv
  obtain ⟨a7, v7, e7, s7⟩ := lts_7 hgv
  obtain ⟨a8, v8, e8, s8⟩ := lts_8 hgv
  let J : Nat → Nat × Nat := fun i => if i = 0 then (a0, v0) else if i = 1 then (a1, v1) else if i = 2 then (a2, v2) else if i = 3 then (a3, v3) else if i = 4 then (a4, v4) else (a5, v5)
  let K : Nat → Nat × Nat := fun i => if i = 0 then (a6, v6) else if i = 1 then (a7, v7) else (a8, v8)
  have hLF : LF s.heap ka J K s := ⟨lt_nw hts, lt_ao hts, hka, lt_sj hts hgv, (fun i hi => by
    rcases (show i = 0 ∨ i = 1 ∨ i = 2 by omega) with rfl | rfl | rfl
    · exact s0
    · exact s1
    · exact s2), (fun i hi => by
    rcases (show i = 0 ∨ i = 1 ∨ i = 2 by omega) with rfl | rfl | rfl
    · exact s3
    · exact s4
    · exact s5), (fun i hi => by
    rcases (show i = 0 ∨ i = 1 ∨ i = 2 by omega) with rfl | rfl | rfl
    · exact s6
    · exact s7
    · exact s8), ⟨vk_R.of (hts _ (inL_3 (List.mem_of_getElem? (i := 170) rfl))) e0, vk_R.of (hts _ (inL_3 (List.mem_of_getElem? (i := 171) rfl))) e1, vk_R.of (hts _ (inL_3 (List.mem_of_getElem? (i := 172) rfl))) e2, vk_R.of (hts _ (inL_4 (List.mem_of_getElem? (i := 12) rfl))) e3, vk_R.of (hts _ (inL_4 (List.mem_of_getElem? (i := 13) rfl))) e4, vk_R.of (hts _ (inL_4 (List.mem_of_getElem? (i := 14) rfl))) e5⟩, vk_R.of (hts _ (inL_6 (List.mem_of_getElem? (i := 192) rfl))) e6, vk_R.of (hts _ (inL_6 (List.mem_of_getElem? (i := 199) rfl))) e7, vk_R.of (hts _ (inL_6 (List.mem_of_getElem? (i := 200) rfl))) e8⟩
  exact ⟨(fun k => (f k).1, fun k => (f k).2, g, s.heap, LF s.heap ka J K), rfl, ⟨fun k hk => hf k hk, fun k h1 h2 => hg k h1 h2, hLF, fun s U hW h => h.warm hW, fun s U e h => h.same e⟩, LF.LE⟩
