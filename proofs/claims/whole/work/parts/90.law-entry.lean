/-! the entry: classes, array classes, strings -/
theorem ent_cls {s : State} {args : Array Value} (hts : ∀ w ∈ TT, w.before args s = true) : ∃ (dC : Nat → ClassId) (dI : Nat → Nat → Nat), ∀ (c : Nat) (q : vw_C), vwCl[c]? = some q → u_Kn s q.1 q.2.1 q.2.2 (dC c) (dI c) := by
  obtain ⟨c0, i0, h0⟩ := u_known hts in0 (hts _ is0)
  obtain ⟨c1, i1, h1⟩ := u_known hts in1 (hts _ is1)
  obtain ⟨c2, i2, h2⟩ := u_known hts in2 (hts _ is2)
  obtain ⟨c3, i3, h3⟩ := u_known hts in3 (hts _ is3)
  obtain ⟨c4, i4, h4⟩ := u_known hts in4 (hts _ is4)
  obtain ⟨c5, i5, h5⟩ := u_known hts in5 (hts _ is5)
  obtain ⟨c6, i6, h6⟩ := u_known hts in6 (hts _ is6)
  obtain ⟨c7, i7, h7⟩ := u_known hts in7 (hts _ is7)
  obtain ⟨c8, i8, h8⟩ := u_known hts in8 (hts _ is8)
  obtain ⟨c9, i9, h9⟩ := u_known hts in9 (hts _ is9)
  obtain ⟨c10, i10, h10⟩ := u_known hts in10 (hts _ is10)
  refine ⟨fun k => match k with | 0 => c0 | 1 => c1 | 2 => c2 | 3 => c3 | 4 => c4 | 5 => c5 | 6 => c6 | 7 => c7 | 8 => c8 | 9 => c9 | _ => c10, fun k => match k with | 0 => i0 | 1 => i1 | 2 => i2 | 3 => i3 | 4 => i4 | 5 => i5 | 6 => i6 | 7 => i7 | 8 => i8 | 9 => i9 | _ => i10, fun c q hq => ?_⟩
  match c, hq with
  | 0, hq => cases hq; exact h0
  | 1, hq => cases hq; exact h1
  | 2, hq => cases hq; exact h2
  | 3, hq => cases hq; exact h3
  | 4, hq => cases hq; exact h4
  | 5, hq => cases hq; exact h5
  | 6, hq => cases hq; exact h6
  | 7, hq => cases hq; exact h7
  | 8, hq => cases hq; exact h8
  | 9, hq => cases hq; exact h9
  | 10, hq => cases hq; exact h10
  | c + 11, hq => exact absurd (List.getElem?_eq_some_iff.mp hq).1 (by show ¬ c + 11 < 11; omega)
theorem ent_prim {s : State} {args : Array Value} {ty : FieldType} (h : (Cond.arrayClass ty).before args s = true) : ∃ cA, ArrOfT s cA ty ∧ s.vm.findClass ("[" ++ ty.toString) = some cA := by
  obtain ⟨c, k, comp, h1, h2, h3⟩ := Cond.arrayClass_spec h
  exact ⟨c, fun n z => ⟨(fun k h => by cases h), k, h2, comp, h3⟩, h1⟩
theorem ent_obj {s : State} {args : Array Value} {C : String} (h : (Cond.arrayOver (.object C)).before args s = true) : ∃ cA, ArrOfT s cA (.object C) ∧ va_RA s cA (.object C) := by
  obtain ⟨comp, c, k, h1, h2, h3, h4, h5⟩ := Cond.arrayOver_spec h
  exact ⟨c, fun n z => ⟨(fun k h => by cases h), k, h3, comp, h4⟩, k, comp, h3, h4, h1, h5⟩
theorem nest_tab {w : Cond} (h : isNestW w = true) : w.onTables = true := by
  cases w <;> first | rfl | cases h
def tmS (i : Nat) : Term := Term.string n0 (sIdx.getD i 0)
theorem i9 {P : Nat → Prop} (h0 : P 0) (h1 : P 1) (h2 : P 2) (h3 : P 3) (h4 : P 4) (h5 : P 5) (h6 : P 6) (h7 : P 7) (h8 : P 8) : ∀ i, i < 9 → P i := fun i hi => match i, hi with
  | 0, _ => h0
  | 1, _ => h1
  | 2, _ => h2
  | 3, _ => h3
  | 4, _ => h4
  | 5, _ => h5
  | 6, _ => h6
  | 7, _ => h7
  | 8, _ => h8
  | k + 9, h => absurd h (by omega)
set_option maxHeartbeats 4000000 in
set_option maxRecDepth 100000 in
theorem ent_str {s : State} {args : Array Value} (hg : (Jvm.Cond.and given_1 narrow_1).before args s = true) {A : Nat → Prop} (hA : ∀ a : Nat, a < s.heap.size → ¬ A a) : ∃ adK adV : Nat → Nat, vk_S 9 sLen sByt adK adV A s s.heap ∧ ∀ i : Nat, i < 9 → (tmS i).eval args s none [] s = some (.ref (adK i)) := by
  have hs := flat_of_before _ hg
  refine vk_Sof ?_ ?_ ?_ ?_ ?_ ?_ ?_ hA
  · exact i9 (by decide) (by decide) (by decide) (by decide) (by decide) (by decide) (by decide) (by decide) (by decide)
  · exact i9 (hs _ (by decide +kernel)) (hs _ (by decide +kernel)) (hs _ (by decide +kernel)) (hs _ (by decide +kernel)) (hs _ (by decide +kernel)) (hs _ (by decide +kernel)) (hs _ (by decide +kernel)) (hs _ (by decide +kernel)) (hs _ (by decide +kernel))
  · exact i9 (hs _ (by decide +kernel)) (hs _ (by decide +kernel)) (hs _ (by decide +kernel)) (hs _ (by decide +kernel)) (hs _ (by decide +kernel)) (hs _ (by decide +kernel)) (hs _ (by decide +kernel)) (hs _ (by decide +kernel)) (hs _ (by decide +kernel))
  · exact i9 (hs _ (by decide +kernel)) (hs _ (by decide +kernel)) (hs _ (by decide +kernel)) (hs _ (by decide +kernel)) (hs _ (by decide +kernel)) (hs _ (by decide +kernel)) (hs _ (by decide +kernel)) (hs _ (by decide +kernel)) (hs _ (by decide +kernel))
  · exact i9 (hs _ (by decide +kernel)) (hs _ (by decide +kernel)) (hs _ (by decide +kernel)) (hs _ (by decide +kernel)) (hs _ (by decide +kernel)) (hs _ (by decide +kernel)) (hs _ (by decide +kernel)) (hs _ (by decide +kernel)) (hs _ (by decide +kernel))
  · refine i9 ?_ ?_ ?_ ?_ ?_ ?_ ?_ ?_ ?_
    · intro j hj
      match j, hj with
      | 0, _ => exact hs _ (by decide +kernel)
      | 1, _ => exact hs _ (by decide +kernel)
      | 2, _ => exact hs _ (by decide +kernel)
      | 3, _ => exact hs _ (by decide +kernel)
      | k + 4, h => exact absurd h (by show ¬ k + 4 < 4; omega)
    · intro j hj
      match j, hj with
      | 0, _ => exact hs _ (by decide +kernel)
      | 1, _ => exact hs _ (by decide +kernel)
      | 2, _ => exact hs _ (by decide +kernel)
      | 3, _ => exact hs _ (by decide +kernel)
      | k + 4, h => exact absurd h (by show ¬ k + 4 < 4; omega)
    · intro j hj
      match j, hj with
      | 0, _ => exact hs _ (by decide +kernel)
      | 1, _ => exact hs _ (by decide +kernel)
      | 2, _ => exact hs _ (by decide +kernel)
      | 3, _ => exact hs _ (by decide +kernel)
      | k + 4, h => exact absurd h (by show ¬ k + 4 < 4; omega)
    · intro j hj
      match j, hj with
      | 0, _ => exact hs _ (by decide +kernel)
      | 1, _ => exact hs _ (by decide +kernel)
      | 2, _ => exact hs _ (by decide +kernel)
      | 3, _ => exact hs _ (by decide +kernel)
      | k + 4, h => exact absurd h (by show ¬ k + 4 < 4; omega)
    · intro j hj
      match j, hj with
      | 0, _ => exact hs _ (by decide +kernel)
      | 1, _ => exact hs _ (by decide +kernel)
      | 2, _ => exact hs _ (by decide +kernel)
      | 3, _ => exact hs _ (by decide +kernel)
      | 4, _ => exact hs _ (by decide +kernel)
      | k + 5, h => exact absurd h (by show ¬ k + 5 < 5; omega)
    · intro j hj
      match j, hj with
      | 0, _ => exact hs _ (by decide +kernel)
      | 1, _ => exact hs _ (by decide +kernel)
      | 2, _ => exact hs _ (by decide +kernel)
      | 3, _ => exact hs _ (by decide +kernel)
      | k + 4, h => exact absurd h (by show ¬ k + 4 < 4; omega)
    · intro j hj
      match j, hj with
      | 0, _ => exact hs _ (by decide +kernel)
      | 1, _ => exact hs _ (by decide +kernel)
      | 2, _ => exact hs _ (by decide +kernel)
      | 3, _ => exact hs _ (by decide +kernel)
      | 4, _ => exact hs _ (by decide +kernel)
      | k + 5, h => exact absurd h (by show ¬ k + 5 < 5; omega)
    · intro j hj
      match j, hj with
      | 0, _ => exact hs _ (by decide +kernel)
      | 1, _ => exact hs _ (by decide +kernel)
      | 2, _ => exact hs _ (by decide +kernel)
      | 3, _ => exact hs _ (by decide +kernel)
      | 4, _ => exact hs _ (by decide +kernel)
      | 5, _ => exact hs _ (by decide +kernel)
      | k + 6, h => exact absurd h (by show ¬ k + 6 < 6; omega)
    · intro j hj
      match j, hj with
      | 0, _ => exact hs _ (by decide +kernel)
      | 1, _ => exact hs _ (by decide +kernel)
      | 2, _ => exact hs _ (by decide +kernel)
      | 3, _ => exact hs _ (by decide +kernel)
      | k + 4, h => exact absurd h (by show ¬ k + 4 < 4; omega)
  · refine fun i j hi hj => i9 (P := fun i => i ≠ j → (Cond.not (Cond.eq (tmS i) (tmS j))).before args s = true ∨ (Cond.not (Cond.eq (tmS j) (tmS i))).before args s = true) ?_ ?_ ?_ ?_ ?_ ?_ ?_ ?_ ?_ i hi
    · refine i9 (P := fun j => 0 ≠ j → (Cond.not (Cond.eq (tmS 0) (tmS j))).before args s = true ∨ (Cond.not (Cond.eq (tmS j) (tmS 0))).before args s = true) (fun h => absurd rfl h) (fun h => Or.inl (hs _ (by decide +kernel))) (fun h => Or.inl (hs _ (by decide +kernel))) (fun h => Or.inl (hs _ (by decide +kernel))) (fun h => Or.inl (hs _ (by decide +kernel))) (fun h => Or.inl (hs _ (by decide +kernel))) (fun h => Or.inl (hs _ (by decide +kernel))) (fun h => Or.inl (hs _ (by decide +kernel))) (fun h => Or.inl (hs _ (by decide +kernel))) j hj
    · refine i9 (P := fun j => 1 ≠ j → (Cond.not (Cond.eq (tmS 1) (tmS j))).before args s = true ∨ (Cond.not (Cond.eq (tmS j) (tmS 1))).before args s = true) (fun h => Or.inr (hs _ (by decide +kernel))) (fun h => absurd rfl h) (fun h => Or.inl (hs _ (by decide +kernel))) (fun h => Or.inl (hs _ (by decide +kernel))) (fun h => Or.inl (hs _ (by decide +kernel))) (fun h => Or.inl (hs _ (by decide +kernel))) (fun h => Or.inl (hs _ (by decide +kernel))) (fun h => Or.inl (hs _ (by decide +kernel))) (fun h => Or.inl (hs _ (by decide +kernel))) j hj
    · refine i9 (P := fun j => 2 ≠ j → (Cond.not (Cond.eq (tmS 2) (tmS j))).before args s = true ∨ (Cond.not (Cond.eq (tmS j) (tmS 2))).before args s = true) (fun h => Or.inr (hs _ (by decide +kernel))) (fun h => Or.inr (hs _ (by decide +kernel))) (fun h => absurd rfl h) (fun h => Or.inl (hs _ (by decide +kernel))) (fun h => Or.inl (hs _ (by decide +kernel))) (fun h => Or.inl (hs _ (by decide +kernel))) (fun h => Or.inl (hs _ (by decide +kernel))) (fun h => Or.inl (hs _ (by decide +kernel))) (fun h => Or.inl (hs _ (by decide +kernel))) j hj
    · refine i9 (P := fun j => 3 ≠ j → (Cond.not (Cond.eq (tmS 3) (tmS j))).before args s = true ∨ (Cond.not (Cond.eq (tmS j) (tmS 3))).before args s = true) (fun h => Or.inr (hs _ (by decide +kernel))) (fun h => Or.inr (hs _ (by decide +kernel))) (fun h => Or.inr (hs _ (by decide +kernel))) (fun h => absurd rfl h) (fun h => Or.inl (hs _ (by decide +kernel))) (fun h => Or.inl (hs _ (by decide +kernel))) (fun h => Or.inl (hs _ (by decide +kernel))) (fun h => Or.inl (hs _ (by decide +kernel))) (fun h => Or.inl (hs _ (by decide +kernel))) j hj
    · refine i9 (P := fun j => 4 ≠ j → (Cond.not (Cond.eq (tmS 4) (tmS j))).before args s = true ∨ (Cond.not (Cond.eq (tmS j) (tmS 4))).before args s = true) (fun h => Or.inr (hs _ (by decide +kernel))) (fun h => Or.inr (hs _ (by decide +kernel))) (fun h => Or.inr (hs _ (by decide +kernel))) (fun h => Or.inr (hs _ (by decide +kernel))) (fun h => absurd rfl h) (fun h => Or.inl (hs _ (by decide +kernel))) (fun h => Or.inl (hs _ (by decide +kernel))) (fun h => Or.inl (hs _ (by decide +kernel))) (fun h => Or.inl (hs _ (by decide +kernel))) j hj
    · refine i9 (P := fun j => 5 ≠ j → (Cond.not (Cond.eq (tmS 5) (tmS j))).before args s = true ∨ (Cond.not (Cond.eq (tmS j) (tmS 5))).before args s = true) (fun h => Or.inr (hs _ (by decide +kernel))) (fun h => Or.inr (hs _ (by decide +kernel))) (fun h => Or.inr (hs _ (by decide +kernel))) (fun h => Or.inr (hs _ (by decide +kernel))) (fun h => Or.inr (hs _ (by decide +kernel))) (fun h => absurd rfl h) (fun h => Or.inl (hs _ (by decide +kernel))) (fun h => Or.inl (hs _ (by decide +kernel))) (fun h => Or.inl (hs _ (by decide +kernel))) j hj
    · refine i9 (P := fun j => 6 ≠ j → (Cond.not (Cond.eq (tmS 6) (tmS j))).before args s = true ∨ (Cond.not (Cond.eq (tmS j) (tmS 6))).before args s = true) (fun h => Or.inr (hs _ (by decide +kernel))) (fun h => Or.inr (hs _ (by decide +kernel))) (fun h => Or.inr (hs _ (by decide +kernel))) (fun h => Or.inr (hs _ (by decide +kernel))) (fun h => Or.inr (hs _ (by decide +kernel))) (fun h => Or.inr (hs _ (by decide +kernel))) (fun h => absurd rfl h) (fun h => Or.inl (hs _ (by decide +kernel))) (fun h => Or.inl (hs _ (by decide +kernel))) j hj
    · refine i9 (P := fun j => 7 ≠ j → (Cond.not (Cond.eq (tmS 7) (tmS j))).before args s = true ∨ (Cond.not (Cond.eq (tmS j) (tmS 7))).before args s = true) (fun h => Or.inr (hs _ (by decide +kernel))) (fun h => Or.inr (hs _ (by decide +kernel))) (fun h => Or.inr (hs _ (by decide +kernel))) (fun h => Or.inr (hs _ (by decide +kernel))) (fun h => Or.inr (hs _ (by decide +kernel))) (fun h => Or.inr (hs _ (by decide +kernel))) (fun h => Or.inr (hs _ (by decide +kernel))) (fun h => absurd rfl h) (fun h => Or.inl (hs _ (by decide +kernel))) j hj
    · refine i9 (P := fun j => 8 ≠ j → (Cond.not (Cond.eq (tmS 8) (tmS j))).before args s = true ∨ (Cond.not (Cond.eq (tmS j) (tmS 8))).before args s = true) (fun h => Or.inr (hs _ (by decide +kernel))) (fun h => Or.inr (hs _ (by decide +kernel))) (fun h => Or.inr (hs _ (by decide +kernel))) (fun h => Or.inr (hs _ (by decide +kernel))) (fun h => Or.inr (hs _ (by decide +kernel))) (fun h => Or.inr (hs _ (by decide +kernel))) (fun h => Or.inr (hs _ (by decide +kernel))) (fun h => Or.inr (hs _ (by decide +kernel))) (fun h => absurd rfl h) j hj
theorem ent_K {s : State} {args : Array Value} (hl : ∀ w ∈ lw_tbl, w.before args s = true) (hg : (Jvm.Cond.and given_1 narrow_1).before args s = true) : ∃ E : En, eB E = s.heap.size ∧ KV E s ∧ SV E s s.heap := by
  have hs := flat_of_before _ hg
  have hts : ∀ w ∈ TT, w.before args s = true := fun w hw => hl w (List.mem_filter.mp hw).1
  have h1 : ∀ w ∈ tables_1, w.before args s = true := fun w hw => hl w (List.mem_append_right _ hw)
  have hA : ∀ a : Nat, a < s.heap.size → ¬ s.heap.size ≤ a := fun a h => by omega
  obtain ⟨dC, dI, hcl⟩ := ent_cls hts
  obtain ⟨t0, u0, v0⟩ := ent_prim (hts _ ac_int)
  obtain ⟨t1, u1, v1⟩ := ent_prim (hts _ ac_long)
  obtain ⟨t2, u2, v2⟩ := ent_prim (hts _ ac_boolean)
  have b3 := h1 _ (q1 27 rfl)
  have b4 := h1 _ (q1 29 rfl)
  have b5 := h1 _ (q1 72 rfl)
  obtain ⟨t3, u3, v3⟩ := ent_obj b3
  obtain ⟨t4, u4, v4⟩ := ent_obj b4
  obtain ⟨t5, u5, v5⟩ := ent_obj b5
  obtain ⟨adK, adV, hk, he⟩ := ent_str hg (A := fun q => s.heap.size ≤ q) hA
  refine ⟨((dC, dI), (fun k => match k with | 0 => t0 | 1 => t1 | 2 => t2 | 3 => t3 | 4 => t4 | _ => t5), adK, adV, s.heap.size), rfl, ⟨⟨hcl, ?_⟩, fun w hw => va_Nw.of (nest_tab (List.mem_filter.mp hw).2) (h1 w (List.mem_filter.mp hw).1), ⟨va_AO.of b3, va_AO.of b4, va_AO.of b5⟩, ?_⟩, hk, va_Zof (h1 _ (q2 173 rfl)) (h1 _ (q1 13 rfl)) (va_eqi (hs _ (by decide +kernel))) hA, va_Zqof (h1 _ (q2 189 rfl)) (h1 _ (q1 15 rfl)) (hs _ (by decide +kernel)) hA⟩
  · intro k q hq
    match k, hq with
    | 0, hq => cases hq; exact ⟨u0, v0⟩
    | 1, hq => cases hq; exact ⟨u1, v1⟩
    | 2, hq => cases hq; exact ⟨u2, v2⟩
    | 3, hq => cases hq; exact ⟨u3, v3⟩
    | 4, hq => cases hq; exact ⟨u4, v4⟩
    | 5, hq => cases hq; exact ⟨u5, v5⟩
    | k + 6, hq => exact absurd (List.getElem?_eq_some_iff.mp hq).1 (by show ¬ k + 6 < 6; omega)
  · exact i9 (vk_R.of (A := args) (h1 _ (q2 155 rfl)) (he 0 (by decide))) (vk_R.of (A := args) (h1 _ (q2 156 rfl)) (he 1 (by decide))) (vk_R.of (A := args) (h1 _ (q2 157 rfl)) (he 2 (by decide))) (vk_R.of (A := args) (h1 _ (q2 158 rfl)) (he 3 (by decide))) (vk_R.of (A := args) (h1 _ (q2 159 rfl)) (he 4 (by decide))) (vk_R.of (A := args) (h1 _ (q2 160 rfl)) (he 5 (by decide))) (vk_R.of (A := args) (h1 _ (q2 161 rfl)) (he 6 (by decide))) (vk_R.of (A := args) (h1 _ (q2 162 rfl)) (he 7 (by decide))) (vk_R.of (A := args) (h1 _ (q2 163 rfl)) (he 8 (by decide)))
