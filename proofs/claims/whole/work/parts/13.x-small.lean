theorem d8_add_0 : decode c8_add 0 = .ok (.aload_n 0, 1) := by decide +kernel
theorem d8_add_1 : decode c8_add 1 = .ok (.getfield 15, 3) := by decide +kernel
theorem d8_add_4 : decode c8_add 4 = .ok (.bipush 20, 2) := by decide +kernel
theorem d8_add_6 : decode c8_add 6 = .ok (.if_icmp .ge 13, 3) := by decide +kernel
theorem d8_add_9 : decode c8_add 9 = .ok (.aload_n 0, 1) := by decide +kernel
theorem d8_add_10 : decode c8_add 10 = .ok (.getfield 9, 3) := by decide +kernel
theorem d8_add_13 : decode c8_add 13 = .ok (.aload_n 0, 1) := by decide +kernel
theorem d8_add_14 : decode c8_add 14 = .ok (.getfield 15, 3) := by decide +kernel
theorem d8_add_17 : decode c8_add 17 = .ok (.iload_n 1, 1) := by decide +kernel
theorem d8_add_18 : decode c8_add 18 = .ok (.iastore, 1) := by decide +kernel
theorem d8_add_19 : decode c8_add 19 = .ok (.aload_n 0, 1) := by decide +kernel
theorem d8_add_20 : decode c8_add 20 = .ok (.dup, 1) := by decide +kernel
theorem d8_add_21 : decode c8_add 21 = .ok (.getfield 15, 3) := by decide +kernel
theorem d8_add_24 : decode c8_add 24 = .ok (.iconst 1, 1) := by decide +kernel
theorem d8_add_25 : decode c8_add 25 = .ok (.iadd, 1) := by decide +kernel
theorem d8_add_26 : decode c8_add 26 = .ok (.putfield 15, 3) := by decide +kernel
theorem d8_add_29 : decode c8_add 29 = .ok (.return_, 1) := by decide +kernel
theorem mw8_add : MV y8_add c8_add 2 none 1 := ⟨cd8_add, ini8, na8_add, im8_add, se8_add⟩
set_option maxHeartbeats 4000000 in
set_option maxRecDepth 100000 in
theorem k8_add (l : Launch) (E : En) (ta : Nat) (tb : Nat) (Q : Nat → Int) (bo : Int → Int) (a : Int) (hra : 0 ≤ Q 1 ∧ Q 1 ≤ 1000) : Cm l E y8_add c8_add 2 none { frames := 0, cells := 0, slots := 0, locals := 0 } [.ref ta, .int (iZ a)] [(ta, o8 (some tb) Q), (tb, aInt E 20 bo)] (fun r ws => ∃ (Q1 : Nat → Int), ∃ (bo1 : Int → Int), r = none ∧ ws = [(ta, o8 (some tb) Q1), (tb, aInt E 20 bo1)] ∧ Q1 = upS Q 1 (Q 1 + 1) ∧ bo1 = trB (Q 1) bo a ∧ True) := by
  refine Cm.of rfl (Nat.le_of_ble_eq_true rfl) (fun Γ A hl ha hin G F => ?_)
  subst hl
  refine j_aload_n G 0 rfl d8_add_0 ?_
  refine j_get G 0 8 1 in8 fl8_15 d8_add_1 rfl rfl (by decide) (v := .int (iZ (Q 1))) rfl rfl ?_
  refine j_bipush G d8_add_4 rfl ?_
  refine j_icmp_ge (tgt := 19) G d8_add_6 (by decide) (by omega) (by decide) (fun h1 => ?_) (fun h1 => ?_)
  ·
    refine j_aload_n G 0 rfl d8_add_19 ?_
    refine j_dup G d8_add_20 rfl ?_
    refine j_get G 0 8 1 in8 fl8_15 d8_add_21 rfl rfl (by decide) (v := .int (iZ (Q 1))) rfl rfl ?_
    refine j_iconst G d8_add_24 ?_
    refine j_iadd G d8_add_25 ?_
    refine j_put G 0 8 1 in8 tyok8 nm8 fl8_15 d8_add_26 rfl rfl (by decide) ⟨rfl, rfl⟩ rfl rfl (Nat.le_of_ble_eq_true rfl) (e := o8 (some tb) (upS Q 1 ((Q 1) + 1))) rfl ?_
    exact j_vret G F d8_add_29 ⟨(upS Q 1 ((Q 1) + 1)), bo, rfl, rfl, (by first | rfl | (congr 1; omega)), (by first | (unfold trB; rw [if_pos (by omega)]; done) | (unfold trB; rw [if_neg (by omega)]; done)), trivial⟩
  ·
    refine j_aload_n G 0 rfl d8_add_9 ?_
    refine j_get G 0 8 0 in8 fl8_9 d8_add_10 rfl rfl (by decide) (v := .ref tb) rfl rfl ?_
    refine j_aload_n G 0 rfl d8_add_13 ?_
    refine j_get G 0 8 1 in8 fl8_15 d8_add_14 rfl rfl (by decide) (v := .int (iZ (Q 1))) rfl rfl ?_
    refine j_iload_n G 1 rfl d8_add_17 ?_
    refine j_iast G 1 rfl (by omega) d8_add_18 ?_
    refine j_aload_n G 0 rfl d8_add_19 ?_
    refine j_dup G d8_add_20 rfl ?_
    refine j_get G 0 8 1 in8 fl8_15 d8_add_21 rfl rfl (by decide) (v := .int (iZ (Q 1))) rfl rfl ?_
    refine j_iconst G d8_add_24 ?_
    refine j_iadd G d8_add_25 ?_
    refine j_put G 0 8 1 in8 tyok8 nm8 fl8_15 d8_add_26 rfl rfl (by decide) ⟨rfl, rfl⟩ rfl rfl (Nat.le_of_ble_eq_true rfl) (e := o8 (some tb) (upS Q 1 ((Q 1) + 1))) rfl ?_
    exact j_vret G F d8_add_29 ⟨(upS Q 1 ((Q 1) + 1)), (upI bo (Q 1) a), rfl, rfl, (by first | rfl | (congr 1; omega)), (by first | (unfold trB; rw [if_pos (by omega)]; done) | (unfold trB; rw [if_neg (by omega)]; done)), trivial⟩
theorem d4_goes_0 : decode c4_goes 0 = .ok (.iload_n 1, 1) := by decide +kernel
theorem d4_goes_1 : decode c4_goes 1 = .ok (.tableswitch 62 2 5 #[31, 62, 47, 47], 31) := by decide +kernel
theorem d4_goes_63 : decode c4_goes 63 = .ok (.aload_n 3, 1) := by decide +kernel
theorem d4_goes_64 : decode c4_goes 64 = .ok (.bipush 10, 2) := by decide +kernel
theorem d4_goes_66 : decode c4_goes 66 = .ok (.invokevirtual 80, 3) := by decide +kernel
theorem d4_goes_69 : decode c4_goes 69 = .ok (.iload_n 2, 1) := by decide +kernel
theorem d4_goes_70 : decode c4_goes 70 = .ok (.aload_n 0, 1) := by decide +kernel
theorem d4_goes_71 : decode c4_goes 71 = .ok (.getfield 18, 3) := by decide +kernel
theorem d4_goes_74 : decode c4_goes 74 = .ok (.iadd, 1) := by decide +kernel
theorem d4_goes_75 : decode c4_goes 75 = .ok (.ireturn, 1) := by decide +kernel
theorem mw4_goes : MS y4_goes c4_goes 4 (some .int) 4 := ⟨cd4_goes, ini4, na4_goes, st4_goes⟩
set_option maxHeartbeats 4000000 in
set_option maxRecDepth 100000 in
theorem k4_goesb (l : Launch) (E : En) (ra : Nat) (rr : Nat) (R : Nat → Int) (ta : Nat) (tb : Nat) (Q : Nat → Int) (bo : Int → Int) (x : Int) (hra : 0 ≤ Q 1 ∧ Q 1 ≤ 990) : Cm l E y4_goes c4_goes 4 (some .int) { frames := 1, cells := 0, slots := 0, locals := 21 } [.ref ra, .int (iZ 0), .int (iZ x), .ref ta] [(ra, o4 (some rr) R), (ta, o8 (some tb) Q), (tb, aInt E 20 bo)] (fun r ws => ∃ (v : Int), ∃ (Q1 : Nat → Int), ∃ (bo1 : Int → Int), r = some (.int (iZ v)) ∧ ws = [(ra, o4 (some rr) R), (ta, o8 (some tb) Q1), (tb, aInt E 20 bo1)] ∧ Q1 = upS Q 1 (Q 1 + (([10]).length : Int)) ∧ bo1 = trL ([10]) (Q 1) bo ∧ (v = x + R 2)) := by
  refine Cm.of rfl (Nat.le_of_ble_eq_true rfl) (fun Γ A hl ha hin G F => ?_)
  subst hl
  refine j_iload_n G 1 rfl d4_goes_0 ?_
  refine j_tabOut (tgt := 63) G d4_goes_1 (by decide) (by decide) (by decide) ?_
  refine j_aload_n G 3 rfl d4_goes_63 ?_
  refine j_bipush G d4_goes_64 rfl ?_
  refine j_VM G (rm' := { frames := 0, cells := 0, slots := 0, locals := 0 }) (wc := [(ta, o8 (some tb) Q), (tb, aInt E 20 bo)]) (wr := [(ra, o4 (some rr) R)]) (k8_add (xl Γ) E ta tb Q bo 10 (by first | assumption | omega | (simp only [upS, reduceIte, Nat.reduceEqDiff, eq_self, List.length_cons, List.length_nil, List.length_append] <;> omega))) mw8_add ml4_80 [1, 2] [0] rfl rfl ⟨rfl, rfl⟩ (by decide) 1 8 rfl rfl rfl ⟨Nat.le_of_ble_eq_true rfl, Nat.le_of_ble_eq_true rfl⟩ rfl (rest := []) rfl (Nat.le_of_ble_eq_true rfl) d4_goes_66 ⟨Nat.le_of_ble_eq_true rfl, Nat.le_of_ble_eq_true rfl⟩ (fun r w1 hr => ?_)
  obtain ⟨Q1_2, bo1_3, rfl, rfl, rfl, rfl, hq1⟩ := hr
  refine j_eq (ws' := [(ra, o4 (some rr) R), (ta, o8 (some tb) (upS Q 1 ((Q 1) + 1))), (tb, aInt E 20 (trB ((Q 1)) bo 10))]) rfl rfl rfl ?_
  refine j_iload_n G 2 rfl d4_goes_69 ?_
  refine j_aload_n G 0 rfl d4_goes_70 ?_
  refine j_get G 0 4 2 in4 fl4_18 d4_goes_71 rfl rfl (by decide) (v := .int (iZ (R 2))) rfl rfl ?_
  refine j_iadd G d4_goes_74 ?_
  exact j_iret G F d4_goes_75 ⟨x + (R 2), (upS Q 1 ((Q 1) + 1)), (trB ((Q 1)) bo 10), rfl, rfl, (by first | rfl | (congr 1; simp only [trL, trL_app, List.length_cons, List.length_nil, List.length_append, Int.natCast_add, Int.natCast_one] <;> (repeat' split) <;> (try simp) <;> omega)), (by first | rfl | (simp only [trL] <;> (repeat' split) <;> first | rfl | (exfalso; omega) | (simp only [trL_app, trL, List.cons_append, List.nil_append, List.length_cons, List.length_nil, List.length_append] <;> first | rfl | (congr 1 <;> first | omega | (congr 1 <;> first | omega | (congr 1 <;> omega)))))), (by rfl)⟩
theorem d4_goes_48 : decode c4_goes 48 = .ok (.aload_n 3, 1) := by decide +kernel
theorem d4_goes_49 : decode c4_goes 49 = .ok (.bipush 50, 2) := by decide +kernel
theorem d4_goes_51 : decode c4_goes 51 = .ok (.invokevirtual 80, 3) := by decide +kernel
theorem d4_goes_54 : decode c4_goes 54 = .ok (.aload_n 0, 1) := by decide +kernel
theorem d4_goes_55 : decode c4_goes 55 = .ok (.iconst 0, 1) := by decide +kernel
theorem d4_goes_56 : decode c4_goes 56 = .ok (.iload_n 2, 1) := by decide +kernel
theorem d4_goes_57 : decode c4_goes 57 = .ok (.aload_n 3, 1) := by decide +kernel
theorem d4_goes_58 : decode c4_goes 58 = .ok (.invokestatic 86, 3) := by decide +kernel
theorem d4_goes_61 : decode c4_goes 61 = .ok (.ineg, 1) := by decide +kernel
theorem d4_goes_62 : decode c4_goes 62 = .ok (.ireturn, 1) := by decide +kernel
set_option maxHeartbeats 4000000 in
set_option maxRecDepth 100000 in
theorem k4_goesb4 (l : Launch) (E : En) (ra : Nat) (rr : Nat) (R : Nat → Int) (ta : Nat) (tb : Nat) (Q : Nat → Int) (bo : Int → Int) (x : Int) (hra : 0 ≤ Q 1 ∧ Q 1 ≤ 970) : Cm l E y4_goes c4_goes 4 (some .int) { frames := 2, cells := 0, slots := 0, locals := 44 } [.ref ra, .int (iZ 4), .int (iZ x), .ref ta] [(ra, o4 (some rr) R), (ta, o8 (some tb) Q), (tb, aInt E 20 bo)] (fun r ws => ∃ (v : Int), ∃ (Q1 : Nat → Int), ∃ (bo1 : Int → Int), r = some (.int (iZ v)) ∧ ws = [(ra, o4 (some rr) R), (ta, o8 (some tb) Q1), (tb, aInt E 20 bo1)] ∧ Q1 = upS Q 1 (Q 1 + (([50, 10]).length : Int)) ∧ bo1 = trL ([50, 10]) (Q 1) bo ∧ (v = -(x + R 2))) := by
  refine Cm.of rfl (Nat.le_of_ble_eq_true rfl) (fun Γ A hl ha hin G F => ?_)
  subst hl
  refine j_iload_n G 1 rfl d4_goes_0 ?_
  refine j_tabIn (tgt := 48) G d4_goes_1 (by decide) 4 rfl ⟨by decide, by decide⟩ rfl (by decide) ?_
  refine j_aload_n G 3 rfl d4_goes_48 ?_
  refine j_bipush G d4_goes_49 rfl ?_
  refine j_VM G (rm' := { frames := 0, cells := 0, slots := 0, locals := 0 }) (wc := [(ta, o8 (some tb) Q), (tb, aInt E 20 bo)]) (wr := [(ra, o4 (some rr) R)]) (k8_add (xl Γ) E ta tb Q bo 50 (by first | assumption | omega | (simp only [upS, reduceIte, Nat.reduceEqDiff, eq_self, List.length_cons, List.length_nil, List.length_append] <;> omega))) mw8_add ml4_80 [1, 2] [0] rfl rfl ⟨rfl, rfl⟩ (by decide) 1 8 rfl rfl rfl ⟨Nat.le_of_ble_eq_true rfl, Nat.le_of_ble_eq_true rfl⟩ rfl (rest := []) rfl (Nat.le_of_ble_eq_true rfl) d4_goes_51 ⟨Nat.le_of_ble_eq_true rfl, Nat.le_of_ble_eq_true rfl⟩ (fun r w1 hr => ?_)
  obtain ⟨Q1_2, bo1_3, rfl, rfl, rfl, rfl, hq1⟩ := hr
  refine j_eq (ws' := [(ra, o4 (some rr) R), (ta, o8 (some tb) (upS Q 1 ((Q 1) + 1))), (tb, aInt E 20 (trB ((Q 1)) bo 50))]) rfl rfl rfl ?_
  refine j_aload_n G 0 rfl d4_goes_54 ?_
  refine j_iconst G d4_goes_55 ?_
  refine j_iload_n G 2 rfl d4_goes_56 ?_
  refine j_aload_n G 3 rfl d4_goes_57 ?_
  refine j_SM G (rm' := { frames := 1, cells := 0, slots := 0, locals := 21 }) (wc := [(ra, o4 (some rr) R), (ta, o8 (some tb) (upS Q 1 ((Q 1) + 1))), (tb, aInt E 20 (trB ((Q 1)) bo 50))]) (wr := []) (k4_goesb (xl Γ) E ra rr R ta tb (upS Q 1 ((Q 1) + 1)) (trB ((Q 1)) bo 50) x (by first | assumption | omega | (simp only [upS, reduceIte, Nat.reduceEqDiff, eq_self, List.length_cons, List.length_nil, List.length_append] <;> omega))) mw4_goes ml4_86 [0, 1, 2] [] rfl rfl ⟨rfl, rfl⟩ (by decide) ⟨Nat.le_of_ble_eq_true rfl, Nat.le_of_ble_eq_true rfl⟩ rfl (rest := []) rfl (Nat.le_of_ble_eq_true rfl) d4_goes_58 ⟨Nat.le_of_ble_eq_true rfl, Nat.le_of_ble_eq_true rfl⟩ (fun r w1 hr => ?_)
  obtain ⟨v5, Q1_6, bo1_7, rfl, rfl, rfl, rfl, hq4⟩ := hr
  refine j_eq (ws' := [(ra, o4 (some rr) R), (ta, o8 (some tb) (upS Q 1 (((Q 1) + 1) + (([10]).length : Int)))), (tb, aInt E 20 (trL ([10]) (((Q 1) + 1)) (trB ((Q 1)) bo 50)))]) rfl rfl rfl ?_
  try simp only [upS, reduceIte, Nat.reduceEqDiff, eq_self] at hq4
  refine j_ineg G d4_goes_61 ?_
  exact j_iret G F d4_goes_62 ⟨-v5, (upS Q 1 (((Q 1) + 1) + (([10]).length : Int))), (trL ([10]) (((Q 1) + 1)) (trB ((Q 1)) bo 50)), rfl, rfl, (by first | rfl | (congr 1; simp only [trL, trL_app, List.length_cons, List.length_nil, List.length_append, Int.natCast_add, Int.natCast_one] <;> (repeat' split) <;> (try simp) <;> omega)), (by first | rfl | (simp only [trL] <;> (repeat' split) <;> first | rfl | (exfalso; omega) | (simp only [trL_app, trL, List.cons_append, List.nil_append, List.length_cons, List.length_nil, List.length_append] <;> first | rfl | (congr 1 <;> first | omega | (congr 1 <;> first | omega | (congr 1 <;> omega)))))), (by omega)⟩
theorem d4_goes_32 : decode c4_goes 32 = .ok (.aload_n 3, 1) := by decide +kernel
theorem d4_goes_33 : decode c4_goes 33 = .ok (.bipush 30, 2) := by decide +kernel
theorem d4_goes_35 : decode c4_goes 35 = .ok (.invokevirtual 80, 3) := by decide +kernel
theorem d4_goes_38 : decode c4_goes 38 = .ok (.aload_n 0, 1) := by decide +kernel
theorem d4_goes_39 : decode c4_goes 39 = .ok (.iconst 0, 1) := by decide +kernel
theorem d4_goes_40 : decode c4_goes 40 = .ok (.iload_n 2, 1) := by decide +kernel
theorem d4_goes_41 : decode c4_goes 41 = .ok (.iconst 3, 1) := by decide +kernel
theorem d4_goes_42 : decode c4_goes 42 = .ok (.imul, 1) := by decide +kernel
theorem d4_goes_43 : decode c4_goes 43 = .ok (.aload_n 3, 1) := by decide +kernel
theorem d4_goes_44 : decode c4_goes 44 = .ok (.invokestatic 86, 3) := by decide +kernel
theorem d4_goes_47 : decode c4_goes 47 = .ok (.ireturn, 1) := by decide +kernel
set_option maxHeartbeats 4000000 in
set_option maxRecDepth 100000 in
theorem k4_goes (l : Launch) (E : En) (ra : Nat) (rr : Nat) (R : Nat → Int) (ta : Nat) (tb : Nat) (Q : Nat → Int) (bo : Int → Int) (fr : Int) (x : Int) (hra : 0 ≤ Q 1 ∧ Q 1 ≤ 970) (hf : 0 ≤ fr ∧ fr ≤ 6) : Cm l E y4_goes c4_goes 4 (some .int) { frames := 2, cells := 0, slots := 0, locals := 44 } [.ref ra, .int (iZ fr), .int (iZ x), .ref ta] [(ra, o4 (some rr) R), (ta, o8 (some tb) Q), (tb, aInt E 20 bo)] (fun r ws => ∃ (v : Int), ∃ (Q1 : Nat → Int), ∃ (bo1 : Int → Int), r = some (.int (iZ v)) ∧ ws = [(ra, o4 (some rr) R), (ta, o8 (some tb) Q1), (tb, aInt E 20 bo1)] ∧ Q1 = upS Q 1 (Q 1 + ((goL fr).length : Int)) ∧ bo1 = trL (goL fr) (Q 1) bo ∧ (v = goV fr (R 2) x)) := by
  refine Cm.of rfl (Nat.le_of_ble_eq_true rfl) (fun Γ A hl ha hin G F => ?_)
  subst hl
  refine j_iload_n G 1 rfl d4_goes_0 ?_
  rcases (show fr = 2 ∨ fr = 3 ∨ fr = 4 ∨ fr = 5 ∨ (fr < 2 ∨ 5 < fr) by omega) with h1 | h1 | h1 | h1 | h1
  ·
    refine j_tabIn (tgt := 32) G d4_goes_1 (by omega) 2 h1 ⟨by decide, by decide⟩ rfl (by decide) ?_
    refine j_aload_n G 3 rfl d4_goes_32 ?_
    refine j_bipush G d4_goes_33 rfl ?_
    refine j_VM G (rm' := { frames := 0, cells := 0, slots := 0, locals := 0 }) (wc := [(ta, o8 (some tb) Q), (tb, aInt E 20 bo)]) (wr := [(ra, o4 (some rr) R)]) (k8_add (xl Γ) E ta tb Q bo 30 (by first | assumption | omega | (simp only [upS, reduceIte, Nat.reduceEqDiff, eq_self, List.length_cons, List.length_nil, List.length_append] <;> omega))) mw8_add ml4_80 [1, 2] [0] rfl rfl ⟨rfl, rfl⟩ (by decide) 1 8 rfl rfl rfl ⟨Nat.le_of_ble_eq_true rfl, Nat.le_of_ble_eq_true rfl⟩ rfl (rest := []) rfl (Nat.le_of_ble_eq_true rfl) d4_goes_35 ⟨Nat.le_of_ble_eq_true rfl, Nat.le_of_ble_eq_true rfl⟩ (fun r w1 hr => ?_)
    obtain ⟨Q1_3, bo1_4, rfl, rfl, rfl, rfl, hq2⟩ := hr
    refine j_eq (ws' := [(ra, o4 (some rr) R), (ta, o8 (some tb) (upS Q 1 ((Q 1) + 1))), (tb, aInt E 20 (trB ((Q 1)) bo 30))]) rfl rfl rfl ?_
    refine j_aload_n G 0 rfl d4_goes_38 ?_
    refine j_iconst G d4_goes_39 ?_
    refine j_iload_n G 2 rfl d4_goes_40 ?_
    refine j_iconst G d4_goes_41 ?_
    refine j_imul G d4_goes_42 ?_
    refine j_aload_n G 3 rfl d4_goes_43 ?_
    refine j_SM G (rm' := { frames := 1, cells := 0, slots := 0, locals := 21 }) (wc := [(ra, o4 (some rr) R), (ta, o8 (some tb) (upS Q 1 ((Q 1) + 1))), (tb, aInt E 20 (trB ((Q 1)) bo 30))]) (wr := []) (k4_goesb (xl Γ) E ra rr R ta tb (upS Q 1 ((Q 1) + 1)) (trB ((Q 1)) bo 30) (x * 3) (by first | assumption | omega | (simp only [upS, reduceIte, Nat.reduceEqDiff, eq_self, List.length_cons, List.length_nil, List.length_append] <;> omega))) mw4_goes ml4_86 [0, 1, 2] [] rfl rfl ⟨rfl, rfl⟩ (by decide) ⟨Nat.le_of_ble_eq_true rfl, Nat.le_of_ble_eq_true rfl⟩ rfl (rest := []) rfl (Nat.le_of_ble_eq_true rfl) d4_goes_44 ⟨Nat.le_of_ble_eq_true rfl, Nat.le_of_ble_eq_true rfl⟩ (fun r w1 hr => ?_)
    obtain ⟨v6, Q1_7, bo1_8, rfl, rfl, rfl, rfl, hq5⟩ := hr
    refine j_eq (ws' := [(ra, o4 (some rr) R), (ta, o8 (some tb) (upS Q 1 (((Q 1) + 1) + (([10]).length : Int)))), (tb, aInt E 20 (trL ([10]) (((Q 1) + 1)) (trB ((Q 1)) bo 30)))]) rfl rfl rfl ?_
    try simp only [upS, reduceIte, Nat.reduceEqDiff, eq_self] at hq5
    exact j_iret G F d4_goes_47 ⟨v6, (upS Q 1 (((Q 1) + 1) + (([10]).length : Int))), (trL ([10]) (((Q 1) + 1)) (trB ((Q 1)) bo 30)), rfl, rfl, (by first | rfl | (congr 1; simp only [goL, trL_app, List.length_cons, List.length_nil, List.length_append, Int.natCast_add, Int.natCast_one] <;> (repeat' split) <;> (try simp) <;> omega)), (by first | rfl | (simp only [goL] <;> (repeat' split) <;> first | rfl | (exfalso; omega) | (simp only [trL_app, trL, List.cons_append, List.nil_append, List.length_cons, List.length_nil, List.length_append] <;> first | rfl | (congr 1 <;> first | omega | (congr 1 <;> first | omega | (congr 1 <;> omega)))))), (by simp only [goV] <;> (repeat' split) <;> first | omega | (exfalso; omega))⟩
  ·
    refine j_tabIn (tgt := 63) G d4_goes_1 (by omega) 3 h1 ⟨by decide, by decide⟩ rfl (by decide) ?_
    refine j_aload_n G 3 rfl d4_goes_63 ?_
    refine j_bipush G d4_goes_64 rfl ?_
    refine j_VM G (rm' := { frames := 0, cells := 0, slots := 0, locals := 0 }) (wc := [(ta, o8 (some tb) Q), (tb, aInt E 20 bo)]) (wr := [(ra, o4 (some rr) R)]) (k8_add (xl Γ) E ta tb Q bo 10 (by first | assumption | omega | (simp only [upS, reduceIte, Nat.reduceEqDiff, eq_self, List.length_cons, List.length_nil, List.length_append] <;> omega))) mw8_add ml4_80 [1, 2] [0] rfl rfl ⟨rfl, rfl⟩ (by decide) 1 8 rfl rfl rfl ⟨Nat.le_of_ble_eq_true rfl, Nat.le_of_ble_eq_true rfl⟩ rfl (rest := []) rfl (Nat.le_of_ble_eq_true rfl) d4_goes_66 ⟨Nat.le_of_ble_eq_true rfl, Nat.le_of_ble_eq_true rfl⟩ (fun r w1 hr => ?_)
    obtain ⟨Q1_10, bo1_11, rfl, rfl, rfl, rfl, hq9⟩ := hr
    refine j_eq (ws' := [(ra, o4 (some rr) R), (ta, o8 (some tb) (upS Q 1 ((Q 1) + 1))), (tb, aInt E 20 (trB ((Q 1)) bo 10))]) rfl rfl rfl ?_
    refine j_iload_n G 2 rfl d4_goes_69 ?_
    refine j_aload_n G 0 rfl d4_goes_70 ?_
    refine j_get G 0 4 2 in4 fl4_18 d4_goes_71 rfl rfl (by decide) (v := .int (iZ (R 2))) rfl rfl ?_
    refine j_iadd G d4_goes_74 ?_
    exact j_iret G F d4_goes_75 ⟨x + (R 2), (upS Q 1 ((Q 1) + 1)), (trB ((Q 1)) bo 10), rfl, rfl, (by first | rfl | (congr 1; simp only [goL, trL_app, List.length_cons, List.length_nil, List.length_append, Int.natCast_add, Int.natCast_one] <;> (repeat' split) <;> (try simp) <;> omega)), (by first | rfl | (simp only [goL] <;> (repeat' split) <;> first | rfl | (exfalso; omega) | (simp only [trL_app, trL, List.cons_append, List.nil_append, List.length_cons, List.length_nil, List.length_append] <;> first | rfl | (congr 1 <;> first | omega | (congr 1 <;> first | omega | (congr 1 <;> omega)))))), (by simp only [goV] <;> (repeat' split) <;> first | omega | (exfalso; omega))⟩
  ·
    refine j_tabIn (tgt := 48) G d4_goes_1 (by omega) 4 h1 ⟨by decide, by decide⟩ rfl (by decide) ?_
    refine j_aload_n G 3 rfl d4_goes_48 ?_
    refine j_bipush G d4_goes_49 rfl ?_
    refine j_VM G (rm' := { frames := 0, cells := 0, slots := 0, locals := 0 }) (wc := [(ta, o8 (some tb) Q), (tb, aInt E 20 bo)]) (wr := [(ra, o4 (some rr) R)]) (k8_add (xl Γ) E ta tb Q bo 50 (by first | assumption | omega | (simp only [upS, reduceIte, Nat.reduceEqDiff, eq_self, List.length_cons, List.length_nil, List.length_append] <;> omega))) mw8_add ml4_80 [1, 2] [0] rfl rfl ⟨rfl, rfl⟩ (by decide) 1 8 rfl rfl rfl ⟨Nat.le_of_ble_eq_true rfl, Nat.le_of_ble_eq_true rfl⟩ rfl (rest := []) rfl (Nat.le_of_ble_eq_true rfl) d4_goes_51 ⟨Nat.le_of_ble_eq_true rfl, Nat.le_of_ble_eq_true rfl⟩ (fun r w1 hr => ?_)
    obtain ⟨Q1_13, bo1_14, rfl, rfl, rfl, rfl, hq12⟩ := hr
    refine j_eq (ws' := [(ra, o4 (some rr) R), (ta, o8 (some tb) (upS Q 1 ((Q 1) + 1))), (tb, aInt E 20 (trB ((Q 1)) bo 50))]) rfl rfl rfl ?_
    refine j_aload_n G 0 rfl d4_goes_54 ?_
    refine j_iconst G d4_goes_55 ?_
    refine j_iload_n G 2 rfl d4_goes_56 ?_
    refine j_aload_n G 3 rfl d4_goes_57 ?_
    refine j_SM G (rm' := { frames := 1, cells := 0, slots := 0, locals := 21 }) (wc := [(ra, o4 (some rr) R), (ta, o8 (some tb) (upS Q 1 ((Q 1) + 1))), (tb, aInt E 20 (trB ((Q 1)) bo 50))]) (wr := []) (k4_goesb (xl Γ) E ra rr R ta tb (upS Q 1 ((Q 1) + 1)) (trB ((Q 1)) bo 50) x (by first | assumption | omega | (simp only [upS, reduceIte, Nat.reduceEqDiff, eq_self, List.length_cons, List.length_nil, List.length_append] <;> omega))) mw4_goes ml4_86 [0, 1, 2] [] rfl rfl ⟨rfl, rfl⟩ (by decide) ⟨Nat.le_of_ble_eq_true rfl, Nat.le_of_ble_eq_true rfl⟩ rfl (rest := []) rfl (Nat.le_of_ble_eq_true rfl) d4_goes_58 ⟨Nat.le_of_ble_eq_true rfl, Nat.le_of_ble_eq_true rfl⟩ (fun r w1 hr => ?_)
    obtain ⟨v16, Q1_17, bo1_18, rfl, rfl, rfl, rfl, hq15⟩ := hr
    refine j_eq (ws' := [(ra, o4 (some rr) R), (ta, o8 (some tb) (upS Q 1 (((Q 1) + 1) + (([10]).length : Int)))), (tb, aInt E 20 (trL ([10]) (((Q 1) + 1)) (trB ((Q 1)) bo 50)))]) rfl rfl rfl ?_
    try simp only [upS, reduceIte, Nat.reduceEqDiff, eq_self] at hq15
    refine j_ineg G d4_goes_61 ?_
    exact j_iret G F d4_goes_62 ⟨-v16, (upS Q 1 (((Q 1) + 1) + (([10]).length : Int))), (trL ([10]) (((Q 1) + 1)) (trB ((Q 1)) bo 50)), rfl, rfl, (by first | rfl | (congr 1; simp only [goL, trL_app, List.length_cons, List.length_nil, List.length_append, Int.natCast_add, Int.natCast_one] <;> (repeat' split) <;> (try simp) <;> omega)), (by first | rfl | (simp only [goL] <;> (repeat' split) <;> first | rfl | (exfalso; omega) | (simp only [trL_app, trL, List.cons_append, List.nil_append, List.length_cons, List.length_nil, List.length_append] <;> first | rfl | (congr 1 <;> first | omega | (congr 1 <;> first | omega | (congr 1 <;> omega)))))), (by simp only [goV] <;> (repeat' split) <;> first | omega | (exfalso; omega))⟩
  ·
    refine j_tabIn (tgt := 48) G d4_goes_1 (by omega) 5 h1 ⟨by decide, by decide⟩ rfl (by decide) ?_
    refine j_aload_n G 3 rfl d4_goes_48 ?_
    refine j_bipush G d4_goes_49 rfl ?_
    refine j_VM G (rm' := { frames := 0, cells := 0, slots := 0, locals := 0 }) (wc := [(ta, o8 (some tb) Q), (tb, aInt E 20 bo)]) (wr := [(ra, o4 (some rr) R)]) (k8_add (xl Γ) E ta tb Q bo 50 (by first | assumption | omega | (simp only [upS, reduceIte, Nat.reduceEqDiff, eq_self, List.length_cons, List.length_nil, List.length_append] <;> omega))) mw8_add ml4_80 [1, 2] [0] rfl rfl ⟨rfl, rfl⟩ (by decide) 1 8 rfl rfl rfl ⟨Nat.le_of_ble_eq_true rfl, Nat.le_of_ble_eq_true rfl⟩ rfl (rest := []) rfl (Nat.le_of_ble_eq_true rfl) d4_goes_51 ⟨Nat.le_of_ble_eq_true rfl, Nat.le_of_ble_eq_true rfl⟩ (fun r w1 hr => ?_)
    obtain ⟨Q1_20, bo1_21, rfl, rfl, rfl, rfl, hq19⟩ := hr
    refine j_eq (ws' := [(ra, o4 (some rr) R), (ta, o8 (some tb) (upS Q 1 ((Q 1) + 1))), (tb, aInt E 20 (trB ((Q 1)) bo 50))]) rfl rfl rfl ?_
    refine j_aload_n G 0 rfl d4_goes_54 ?_
    refine j_iconst G d4_goes_55 ?_
    refine j_iload_n G 2 rfl d4_goes_56 ?_
    refine j_aload_n G 3 rfl d4_goes_57 ?_
    refine j_SM G (rm' := { frames := 1, cells := 0, slots := 0, locals := 21 }) (wc := [(ra, o4 (some rr) R), (ta, o8 (some tb) (upS Q 1 ((Q 1) + 1))), (tb, aInt E 20 (trB ((Q 1)) bo 50))]) (wr := []) (k4_goesb (xl Γ) E ra rr R ta tb (upS Q 1 ((Q 1) + 1)) (trB ((Q 1)) bo 50) x (by first | assumption | omega | (simp only [upS, reduceIte, Nat.reduceEqDiff, eq_self, List.length_cons, List.length_nil, List.length_append] <;> omega))) mw4_goes ml4_86 [0, 1, 2] [] rfl rfl ⟨rfl, rfl⟩ (by decide) ⟨Nat.le_of_ble_eq_true rfl, Nat.le_of_ble_eq_true rfl⟩ rfl (rest := []) rfl (Nat.le_of_ble_eq_true rfl) d4_goes_58 ⟨Nat.le_of_ble_eq_true rfl, Nat.le_of_ble_eq_true rfl⟩ (fun r w1 hr => ?_)
    obtain ⟨v23, Q1_24, bo1_25, rfl, rfl, rfl, rfl, hq22⟩ := hr
    refine j_eq (ws' := [(ra, o4 (some rr) R), (ta, o8 (some tb) (upS Q 1 (((Q 1) + 1) + (([10]).length : Int)))), (tb, aInt E 20 (trL ([10]) (((Q 1) + 1)) (trB ((Q 1)) bo 50)))]) rfl rfl rfl ?_
    try simp only [upS, reduceIte, Nat.reduceEqDiff, eq_self] at hq22
    refine j_ineg G d4_goes_61 ?_
    exact j_iret G F d4_goes_62 ⟨-v23, (upS Q 1 (((Q 1) + 1) + (([10]).length : Int))), (trL ([10]) (((Q 1) + 1)) (trB ((Q 1)) bo 50)), rfl, rfl, (by first | rfl | (congr 1; simp only [goL, trL_app, List.length_cons, List.length_nil, List.length_append, Int.natCast_add, Int.natCast_one] <;> (repeat' split) <;> (try simp) <;> omega)), (by first | rfl | (simp only [goL] <;> (repeat' split) <;> first | rfl | (exfalso; omega) | (simp only [trL_app, trL, List.cons_append, List.nil_append, List.length_cons, List.length_nil, List.length_append] <;> first | rfl | (congr 1 <;> first | omega | (congr 1 <;> first | omega | (congr 1 <;> omega)))))), (by simp only [goV] <;> (repeat' split) <;> first | omega | (exfalso; omega))⟩
  ·
    refine j_tabOut (tgt := 63) G d4_goes_1 (by omega) h1 (by decide) ?_
    refine j_aload_n G 3 rfl d4_goes_63 ?_
    refine j_bipush G d4_goes_64 rfl ?_
    refine j_VM G (rm' := { frames := 0, cells := 0, slots := 0, locals := 0 }) (wc := [(ta, o8 (some tb) Q), (tb, aInt E 20 bo)]) (wr := [(ra, o4 (some rr) R)]) (k8_add (xl Γ) E ta tb Q bo 10 (by first | assumption | omega | (simp only [upS, reduceIte, Nat.reduceEqDiff, eq_self, List.length_cons, List.length_nil, List.length_append] <;> omega))) mw8_add ml4_80 [1, 2] [0] rfl rfl ⟨rfl, rfl⟩ (by decide) 1 8 rfl rfl rfl ⟨Nat.le_of_ble_eq_true rfl, Nat.le_of_ble_eq_true rfl⟩ rfl (rest := []) rfl (Nat.le_of_ble_eq_true rfl) d4_goes_66 ⟨Nat.le_of_ble_eq_true rfl, Nat.le_of_ble_eq_true rfl⟩ (fun r w1 hr => ?_)
    obtain ⟨Q1_27, bo1_28, rfl, rfl, rfl, rfl, hq26⟩ := hr
    refine j_eq (ws' := [(ra, o4 (some rr) R), (ta, o8 (some tb) (upS Q 1 ((Q 1) + 1))), (tb, aInt E 20 (trB ((Q 1)) bo 10))]) rfl rfl rfl ?_
    refine j_iload_n G 2 rfl d4_goes_69 ?_
    refine j_aload_n G 0 rfl d4_goes_70 ?_
    refine j_get G 0 4 2 in4 fl4_18 d4_goes_71 rfl rfl (by decide) (v := .int (iZ (R 2))) rfl rfl ?_
    refine j_iadd G d4_goes_74 ?_
    exact j_iret G F d4_goes_75 ⟨x + (R 2), (upS Q 1 ((Q 1) + 1)), (trB ((Q 1)) bo 10), rfl, rfl, (by first | rfl | (congr 1; simp only [goL, trL_app, List.length_cons, List.length_nil, List.length_append, Int.natCast_add, Int.natCast_one] <;> (repeat' split) <;> (try simp) <;> omega)), (by first | rfl | (simp only [goL] <;> (repeat' split) <;> first | rfl | (exfalso; omega) | (simp only [trL_app, trL, List.cons_append, List.nil_append, List.length_cons, List.length_nil, List.length_append] <;> first | rfl | (congr 1 <;> first | omega | (congr 1 <;> first | omega | (congr 1 <;> omega)))))), (by simp only [goV] <;> (repeat' split) <;> first | omega | (exfalso; omega))⟩
theorem d4_holds_0 : decode c4_holds 0 = .ok (.iload_n 1, 1) := by decide +kernel
theorem d4_holds_1 : decode c4_holds 1 = .ok (.lookupswitch 66 #[(1, 27), (5, 44)], 27) := by decide +kernel
theorem d4_holds_67 : decode c4_holds 67 = .ok (.aload_n 3, 1) := by decide +kernel
theorem d4_holds_68 : decode c4_holds 68 = .ok (.bipush 11, 2) := by decide +kernel
theorem d4_holds_70 : decode c4_holds 70 = .ok (.invokevirtual 80, 3) := by decide +kernel
theorem d4_holds_73 : decode c4_holds 73 = .ok (.aload_n 0, 1) := by decide +kernel
theorem d4_holds_74 : decode c4_holds 74 = .ok (.aload_n 0, 1) := by decide +kernel
theorem d4_holds_75 : decode c4_holds 75 = .ok (.getfield 9, 3) := by decide +kernel
theorem d4_holds_78 : decode c4_holds 78 = .ok (.iload_n 2, 1) := by decide +kernel
theorem d4_holds_79 : decode c4_holds 79 = .ok (.aload_n 3, 1) := by decide +kernel
theorem d4_holds_80 : decode c4_holds 80 = .ok (.invokestatic 86, 3) := by decide +kernel
theorem d4_holds_83 : decode c4_holds 83 = .ok (.aload_n 0, 1) := by decide +kernel
theorem d4_holds_84 : decode c4_holds 84 = .ok (.getfield 15, 3) := by decide +kernel
theorem d4_holds_87 : decode c4_holds 87 = .ok (.isub, 1) := by decide +kernel
theorem d4_holds_88 : decode c4_holds 88 = .ok (.ireturn, 1) := by decide +kernel
theorem mw4_holds : MS y4_holds c4_holds 4 (some .int) 4 := ⟨cd4_holds, ini4, na4_holds, st4_holds⟩
set_option maxHeartbeats 4000000 in
set_option maxRecDepth 100000 in
theorem k4_holdsb0 (l : Launch) (E : En) (ra : Nat) (rr : Nat) (R : Nat → Int) (ta : Nat) (tb : Nat) (Q : Nat → Int) (bo : Int → Int) (x : Int) (hra : 0 ≤ Q 1 ∧ Q 1 ≤ 960) (hk : 0 ≤ R 0 ∧ R 0 ≤ 6) : Cm l E y4_holds c4_holds 4 (some .int) { frames := 3, cells := 0, slots := 0, locals := 67 } [.ref ra, .int (iZ 0), .int (iZ x), .ref ta] [(ra, o4 (some rr) R), (ta, o8 (some tb) Q), (tb, aInt E 20 bo)] (fun r ws => ∃ (v : Int), ∃ (Q1 : Nat → Int), ∃ (bo1 : Int → Int), r = some (.int (iZ v)) ∧ ws = [(ra, o4 (some rr) R), (ta, o8 (some tb) Q1), (tb, aInt E 20 bo1)] ∧ Q1 = upS Q 1 (Q 1 + ((11 :: goL (R 0)).length : Int)) ∧ bo1 = trL (11 :: goL (R 0)) (Q 1) bo ∧ (v = goV (R 0) (R 2) x - R 1)) := by
  refine Cm.of rfl (Nat.le_of_ble_eq_true rfl) (fun Γ A hl ha hin G F => ?_)
  subst hl
  have hgl := goL_len (R 0)
  refine j_iload_n G 1 rfl d4_holds_0 ?_
  refine j_lookup (tgt := 67) G d4_holds_1 (by decide) rfl rfl (by decide) ?_
  refine j_aload_n G 3 rfl d4_holds_67 ?_
  refine j_bipush G d4_holds_68 rfl ?_
  refine j_VM G (rm' := { frames := 0, cells := 0, slots := 0, locals := 0 }) (wc := [(ta, o8 (some tb) Q), (tb, aInt E 20 bo)]) (wr := [(ra, o4 (some rr) R)]) (k8_add (xl Γ) E ta tb Q bo 11 (by first | assumption | omega | (simp only [upS, reduceIte, Nat.reduceEqDiff, eq_self, List.length_cons, List.length_nil, List.length_append] <;> omega))) mw8_add ml4_80 [1, 2] [0] rfl rfl ⟨rfl, rfl⟩ (by decide) 1 8 rfl rfl rfl ⟨Nat.le_of_ble_eq_true rfl, Nat.le_of_ble_eq_true rfl⟩ rfl (rest := []) rfl (Nat.le_of_ble_eq_true rfl) d4_holds_70 ⟨Nat.le_of_ble_eq_true rfl, Nat.le_of_ble_eq_true rfl⟩ (fun r w1 hr => ?_)
  obtain ⟨Q1_2, bo1_3, rfl, rfl, rfl, rfl, hq1⟩ := hr
  refine j_eq (ws' := [(ra, o4 (some rr) R), (ta, o8 (some tb) (upS Q 1 ((Q 1) + 1))), (tb, aInt E 20 (trB ((Q 1)) bo 11))]) rfl rfl rfl ?_
  refine j_aload_n G 0 rfl d4_holds_73 ?_
  refine j_aload_n G 0 rfl d4_holds_74 ?_
  refine j_get G 0 4 0 in4 fl4_9 d4_holds_75 rfl rfl (by decide) (v := .int (iZ (R 0))) rfl rfl ?_
  refine j_iload_n G 2 rfl d4_holds_78 ?_
  refine j_aload_n G 3 rfl d4_holds_79 ?_
  refine j_SM G (rm' := { frames := 2, cells := 0, slots := 0, locals := 44 }) (wc := [(ra, o4 (some rr) R), (ta, o8 (some tb) (upS Q 1 ((Q 1) + 1))), (tb, aInt E 20 (trB ((Q 1)) bo 11))]) (wr := []) (k4_goes (xl Γ) E ra rr R ta tb (upS Q 1 ((Q 1) + 1)) (trB ((Q 1)) bo 11) (R 0) x (by first | assumption | omega | (simp only [upS, reduceIte, Nat.reduceEqDiff, eq_self, List.length_cons, List.length_nil, List.length_append] <;> omega)) (by first | assumption | omega | (simp only [upS, reduceIte, Nat.reduceEqDiff, eq_self, List.length_cons, List.length_nil, List.length_append] <;> omega))) mw4_goes ml4_86 [0, 1, 2] [] rfl rfl ⟨rfl, rfl⟩ (by decide) ⟨Nat.le_of_ble_eq_true rfl, Nat.le_of_ble_eq_true rfl⟩ rfl (rest := []) rfl (Nat.le_of_ble_eq_true rfl) d4_holds_80 ⟨Nat.le_of_ble_eq_true rfl, Nat.le_of_ble_eq_true rfl⟩ (fun r w1 hr => ?_)
  obtain ⟨v5, Q1_6, bo1_7, rfl, rfl, rfl, rfl, hq4⟩ := hr
  refine j_eq (ws' := [(ra, o4 (some rr) R), (ta, o8 (some tb) (upS Q 1 (((Q 1) + 1) + ((goL (R 0)).length : Int)))), (tb, aInt E 20 (trL (goL (R 0)) (((Q 1) + 1)) (trB ((Q 1)) bo 11)))]) rfl rfl rfl ?_
  try simp only [upS, reduceIte, Nat.reduceEqDiff, eq_self] at hq4
  refine j_aload_n G 0 rfl d4_holds_83 ?_
  refine j_get G 0 4 1 in4 fl4_15 d4_holds_84 rfl rfl (by decide) (v := .int (iZ (R 1))) rfl rfl ?_
  refine j_isub G d4_holds_87 ?_
  exact j_iret G F d4_holds_88 ⟨v5 - (R 1), (upS Q 1 (((Q 1) + 1) + ((goL (R 0)).length : Int))), (trL (goL (R 0)) (((Q 1) + 1)) (trB ((Q 1)) bo 11)), rfl, rfl, (by first | rfl | (congr 1; simp only [hoL, trL_app, List.length_cons, List.length_nil, List.length_append, Int.natCast_add, Int.natCast_one] <;> (repeat' split) <;> (try simp) <;> omega)), (by first | rfl | (simp only [hoL] <;> (repeat' split) <;> first | rfl | (exfalso; omega) | (simp only [trL_app, trL, List.cons_append, List.nil_append, List.length_cons, List.length_nil, List.length_append] <;> first | rfl | (congr 1 <;> first | omega | (congr 1 <;> first | omega | (congr 1 <;> omega)))))), (by omega)⟩
set_option maxHeartbeats 4000000 in
set_option maxRecDepth 100000 in
theorem k4_holdsb4 (l : Launch) (E : En) (ra : Nat) (rr : Nat) (R : Nat → Int) (ta : Nat) (tb : Nat) (Q : Nat → Int) (bo : Int → Int) (x : Int) (hra : 0 ≤ Q 1 ∧ Q 1 ≤ 960) (hk : 0 ≤ R 0 ∧ R 0 ≤ 6) : Cm l E y4_holds c4_holds 4 (some .int) { frames := 3, cells := 0, slots := 0, locals := 67 } [.ref ra, .int (iZ 4), .int (iZ x), .ref ta] [(ra, o4 (some rr) R), (ta, o8 (some tb) Q), (tb, aInt E 20 bo)] (fun r ws => ∃ (v : Int), ∃ (Q1 : Nat → Int), ∃ (bo1 : Int → Int), r = some (.int (iZ v)) ∧ ws = [(ra, o4 (some rr) R), (ta, o8 (some tb) Q1), (tb, aInt E 20 bo1)] ∧ Q1 = upS Q 1 (Q 1 + ((11 :: goL (R 0)).length : Int)) ∧ bo1 = trL (11 :: goL (R 0)) (Q 1) bo ∧ (v = goV (R 0) (R 2) x - R 1)) := by
  refine Cm.of rfl (Nat.le_of_ble_eq_true rfl) (fun Γ A hl ha hin G F => ?_)
  subst hl
  have hgl := goL_len (R 0)
  refine j_iload_n G 1 rfl d4_holds_0 ?_
  refine j_lookup (tgt := 67) G d4_holds_1 (by decide) rfl rfl (by decide) ?_
  refine j_aload_n G 3 rfl d4_holds_67 ?_
  refine j_bipush G d4_holds_68 rfl ?_
  refine j_VM G (rm' := { frames := 0, cells := 0, slots := 0, locals := 0 }) (wc := [(ta, o8 (some tb) Q), (tb, aInt E 20 bo)]) (wr := [(ra, o4 (some rr) R)]) (k8_add (xl Γ) E ta tb Q bo 11 (by first | assumption | omega | (simp only [upS, reduceIte, Nat.reduceEqDiff, eq_self, List.length_cons, List.length_nil, List.length_append] <;> omega))) mw8_add ml4_80 [1, 2] [0] rfl rfl ⟨rfl, rfl⟩ (by decide) 1 8 rfl rfl rfl ⟨Nat.le_of_ble_eq_true rfl, Nat.le_of_ble_eq_true rfl⟩ rfl (rest := []) rfl (Nat.le_of_ble_eq_true rfl) d4_holds_70 ⟨Nat.le_of_ble_eq_true rfl, Nat.le_of_ble_eq_true rfl⟩ (fun r w1 hr => ?_)
  obtain ⟨Q1_2, bo1_3, rfl, rfl, rfl, rfl, hq1⟩ := hr
  refine j_eq (ws' := [(ra, o4 (some rr) R), (ta, o8 (some tb) (upS Q 1 ((Q 1) + 1))), (tb, aInt E 20 (trB ((Q 1)) bo 11))]) rfl rfl rfl ?_
  refine j_aload_n G 0 rfl d4_holds_73 ?_
  refine j_aload_n G 0 rfl d4_holds_74 ?_
  refine j_get G 0 4 0 in4 fl4_9 d4_holds_75 rfl rfl (by decide) (v := .int (iZ (R 0))) rfl rfl ?_
  refine j_iload_n G 2 rfl d4_holds_78 ?_
  refine j_aload_n G 3 rfl d4_holds_79 ?_
  refine j_SM G (rm' := { frames := 2, cells := 0, slots := 0, locals := 44 }) (wc := [(ra, o4 (some rr) R), (ta, o8 (some tb) (upS Q 1 ((Q 1) + 1))), (tb, aInt E 20 (trB ((Q 1)) bo 11))]) (wr := []) (k4_goes (xl Γ) E ra rr R ta tb (upS Q 1 ((Q 1) + 1)) (trB ((Q 1)) bo 11) (R 0) x (by first | assumption | omega | (simp only [upS, reduceIte, Nat.reduceEqDiff, eq_self, List.length_cons, List.length_nil, List.length_append] <;> omega)) (by first | assumption | omega | (simp only [upS, reduceIte, Nat.reduceEqDiff, eq_self, List.length_cons, List.length_nil, List.length_append] <;> omega))) mw4_goes ml4_86 [0, 1, 2] [] rfl rfl ⟨rfl, rfl⟩ (by decide) ⟨Nat.le_of_ble_eq_true rfl, Nat.le_of_ble_eq_true rfl⟩ rfl (rest := []) rfl (Nat.le_of_ble_eq_true rfl) d4_holds_80 ⟨Nat.le_of_ble_eq_true rfl, Nat.le_of_ble_eq_true rfl⟩ (fun r w1 hr => ?_)
  obtain ⟨v5, Q1_6, bo1_7, rfl, rfl, rfl, rfl, hq4⟩ := hr
  refine j_eq (ws' := [(ra, o4 (some rr) R), (ta, o8 (some tb) (upS Q 1 (((Q 1) + 1) + ((goL (R 0)).length : Int)))), (tb, aInt E 20 (trL (goL (R 0)) (((Q 1) + 1)) (trB ((Q 1)) bo 11)))]) rfl rfl rfl ?_
  try simp only [upS, reduceIte, Nat.reduceEqDiff, eq_self] at hq4
  refine j_aload_n G 0 rfl d4_holds_83 ?_
  refine j_get G 0 4 1 in4 fl4_15 d4_holds_84 rfl rfl (by decide) (v := .int (iZ (R 1))) rfl rfl ?_
  refine j_isub G d4_holds_87 ?_
  exact j_iret G F d4_holds_88 ⟨v5 - (R 1), (upS Q 1 (((Q 1) + 1) + ((goL (R 0)).length : Int))), (trL (goL (R 0)) (((Q 1) + 1)) (trB ((Q 1)) bo 11)), rfl, rfl, (by first | rfl | (congr 1; simp only [hoL, trL_app, List.length_cons, List.length_nil, List.length_append, Int.natCast_add, Int.natCast_one] <;> (repeat' split) <;> (try simp) <;> omega)), (by first | rfl | (simp only [hoL] <;> (repeat' split) <;> first | rfl | (exfalso; omega) | (simp only [trL_app, trL, List.cons_append, List.nil_append, List.length_cons, List.length_nil, List.length_append] <;> first | rfl | (congr 1 <;> first | omega | (congr 1 <;> first | omega | (congr 1 <;> omega)))))), (by omega)⟩
theorem d4_holds_28 : decode c4_holds 28 = .ok (.aload_n 3, 1) := by decide +kernel
theorem d4_holds_29 : decode c4_holds 29 = .ok (.bipush 20, 2) := by decide +kernel
theorem d4_holds_31 : decode c4_holds 31 = .ok (.invokevirtual 80, 3) := by decide +kernel
theorem d4_holds_34 : decode c4_holds 34 = .ok (.aload_n 0, 1) := by decide +kernel
theorem d4_holds_35 : decode c4_holds 35 = .ok (.iconst 0, 1) := by decide +kernel
theorem d4_holds_36 : decode c4_holds 36 = .ok (.iload_n 2, 1) := by decide +kernel
theorem d4_holds_37 : decode c4_holds 37 = .ok (.aload_n 3, 1) := by decide +kernel
theorem d4_holds_38 : decode c4_holds 38 = .ok (.invokestatic 90, 3) := by decide +kernel
theorem d4_holds_41 : decode c4_holds 41 = .ok (.bipush 6, 2) := by decide +kernel
theorem d4_holds_43 : decode c4_holds 43 = .ok (.ixor, 1) := by decide +kernel
theorem d4_holds_44 : decode c4_holds 44 = .ok (.ireturn, 1) := by decide +kernel
theorem d4_holds_45 : decode c4_holds 45 = .ok (.aload_n 3, 1) := by decide +kernel
theorem d4_holds_46 : decode c4_holds 46 = .ok (.bipush 60, 2) := by decide +kernel
theorem d4_holds_48 : decode c4_holds 48 = .ok (.invokevirtual 80, 3) := by decide +kernel
theorem d4_holds_51 : decode c4_holds 51 = .ok (.aload_n 0, 1) := by decide +kernel
theorem d4_holds_52 : decode c4_holds 52 = .ok (.iconst 4, 1) := by decide +kernel
theorem d4_holds_53 : decode c4_holds 53 = .ok (.iload_n 2, 1) := by decide +kernel
theorem d4_holds_54 : decode c4_holds 54 = .ok (.aload_n 3, 1) := by decide +kernel
theorem d4_holds_55 : decode c4_holds 55 = .ok (.invokestatic 90, 3) := by decide +kernel
theorem d4_holds_58 : decode c4_holds 58 = .ok (.aload_n 0, 1) := by decide +kernel
theorem d4_holds_59 : decode c4_holds 59 = .ok (.iconst 4, 1) := by decide +kernel
theorem d4_holds_60 : decode c4_holds 60 = .ok (.iconst 2, 1) := by decide +kernel
theorem d4_holds_61 : decode c4_holds 61 = .ok (.aload_n 3, 1) := by decide +kernel
theorem d4_holds_62 : decode c4_holds 62 = .ok (.invokestatic 86, 3) := by decide +kernel
theorem d4_holds_65 : decode c4_holds 65 = .ok (.iadd, 1) := by decide +kernel
theorem d4_holds_66 : decode c4_holds 66 = .ok (.ireturn, 1) := by decide +kernel
set_option maxHeartbeats 4000000 in
set_option maxRecDepth 100000 in
theorem k4_holds (l : Launch) (E : En) (ra : Nat) (rr : Nat) (R : Nat → Int) (ta : Nat) (tb : Nat) (Q : Nat → Int) (bo : Int → Int) (fr : Int) (x : Int) (hra : 0 ≤ Q 1 ∧ Q 1 ≤ 940) (hk : 0 ≤ R 0 ∧ R 0 ≤ 6) (hf : 0 ≤ fr ∧ fr ≤ 6) : Cm l E y4_holds c4_holds 4 (some .int) { frames := 4, cells := 0, slots := 0, locals := 90 } [.ref ra, .int (iZ fr), .int (iZ x), .ref ta] [(ra, o4 (some rr) R), (ta, o8 (some tb) Q), (tb, aInt E 20 bo)] (fun r ws => ∃ (v : Int), ∃ (Q1 : Nat → Int), ∃ (bo1 : Int → Int), r = some (.int (iZ v)) ∧ ws = [(ra, o4 (some rr) R), (ta, o8 (some tb) Q1), (tb, aInt E 20 bo1)] ∧ Q1 = upS Q 1 (Q 1 + ((hoL (R 0) fr).length : Int)) ∧ bo1 = trL (hoL (R 0) fr) (Q 1) bo ∧ (v = hoV (R 0) fr (R 2) (R 1) x)) := by
  refine Cm.of rfl (Nat.le_of_ble_eq_true rfl) (fun Γ A hl ha hin G F => ?_)
  subst hl
  have hgl := goL_len (R 0)
  refine j_iload_n G 1 rfl d4_holds_0 ?_
  rcases (show fr = 1 ∨ fr = 5 ∨ (¬ fr = 1 ∧ ¬ fr = 5) by omega) with h1 | h1 | h1
  ·
    refine j_lookup (tgt := 28) (off := 27) G d4_holds_1 (by omega) rfl (by simp [Op.lookupswitch.offset]; omega) (by decide) ?_
    refine j_aload_n G 3 rfl d4_holds_28 ?_
    refine j_bipush G d4_holds_29 rfl ?_
    refine j_VM G (rm' := { frames := 0, cells := 0, slots := 0, locals := 0 }) (wc := [(ta, o8 (some tb) Q), (tb, aInt E 20 bo)]) (wr := [(ra, o4 (some rr) R)]) (k8_add (xl Γ) E ta tb Q bo 20 (by first | assumption | omega | (simp only [upS, reduceIte, Nat.reduceEqDiff, eq_self, List.length_cons, List.length_nil, List.length_append] <;> omega))) mw8_add ml4_80 [1, 2] [0] rfl rfl ⟨rfl, rfl⟩ (by decide) 1 8 rfl rfl rfl ⟨Nat.le_of_ble_eq_true rfl, Nat.le_of_ble_eq_true rfl⟩ rfl (rest := []) rfl (Nat.le_of_ble_eq_true rfl) d4_holds_31 ⟨Nat.le_of_ble_eq_true rfl, Nat.le_of_ble_eq_true rfl⟩ (fun r w1 hr => ?_)
    obtain ⟨Q1_3, bo1_4, rfl, rfl, rfl, rfl, hq2⟩ := hr
    refine j_eq (ws' := [(ra, o4 (some rr) R), (ta, o8 (some tb) (upS Q 1 ((Q 1) + 1))), (tb, aInt E 20 (trB ((Q 1)) bo 20))]) rfl rfl rfl ?_
    refine j_aload_n G 0 rfl d4_holds_34 ?_
    refine j_iconst G d4_holds_35 ?_
    refine j_iload_n G 2 rfl d4_holds_36 ?_
    refine j_aload_n G 3 rfl d4_holds_37 ?_
    refine j_SM G (rm' := { frames := 3, cells := 0, slots := 0, locals := 67 }) (wc := [(ra, o4 (some rr) R), (ta, o8 (some tb) (upS Q 1 ((Q 1) + 1))), (tb, aInt E 20 (trB ((Q 1)) bo 20))]) (wr := []) (k4_holdsb0 (xl Γ) E ra rr R ta tb (upS Q 1 ((Q 1) + 1)) (trB ((Q 1)) bo 20) x (by first | assumption | omega | (simp only [upS, reduceIte, Nat.reduceEqDiff, eq_self, List.length_cons, List.length_nil, List.length_append] <;> omega)) (by first | assumption | omega | (simp only [upS, reduceIte, Nat.reduceEqDiff, eq_self, List.length_cons, List.length_nil, List.length_append] <;> omega))) mw4_holds ml4_90 [0, 1, 2] [] rfl rfl ⟨rfl, rfl⟩ (by decide) ⟨Nat.le_of_ble_eq_true rfl, Nat.le_of_ble_eq_true rfl⟩ rfl (rest := []) rfl (Nat.le_of_ble_eq_true rfl) d4_holds_38 ⟨Nat.le_of_ble_eq_true rfl, Nat.le_of_ble_eq_true rfl⟩ (fun r w1 hr => ?_)
    obtain ⟨v6, Q1_7, bo1_8, rfl, rfl, rfl, rfl, hq5⟩ := hr
    refine j_eq (ws' := [(ra, o4 (some rr) R), (ta, o8 (some tb) (upS Q 1 (((Q 1) + 1) + ((11 :: goL ((R 0))).length : Int)))), (tb, aInt E 20 (trL (11 :: goL ((R 0))) (((Q 1) + 1)) (trB ((Q 1)) bo 20)))]) rfl rfl rfl ?_
    try simp only [upS, reduceIte, Nat.reduceEqDiff, eq_self] at hq5
    refine j_bipush G d4_holds_41 rfl ?_
    refine r_ixor G d4_holds_43 ?_
    refine j_top (y := iZ (((iZ v6) ^^^ (iZ 6)).toInt)) (iZ_of _).symm ?_
    exact j_iret G F d4_holds_44 ⟨((iZ v6) ^^^ (iZ 6)).toInt, (upS Q 1 (((Q 1) + 1) + ((11 :: goL ((R 0))).length : Int))), (trL (11 :: goL ((R 0))) (((Q 1) + 1)) (trB ((Q 1)) bo 20)), rfl, rfl, (by first | rfl | (congr 1; simp only [hoL, trL_app, List.length_cons, List.length_nil, List.length_append, Int.natCast_add, Int.natCast_one] <;> (repeat' split) <;> (try simp) <;> omega)), (by first | rfl | (simp only [hoL] <;> (repeat' split) <;> first | rfl | (exfalso; omega) | (simp only [trL_app, trL, List.cons_append, List.nil_append, List.length_cons, List.length_nil, List.length_append] <;> first | rfl | (congr 1 <;> first | omega | (congr 1 <;> first | omega | (congr 1 <;> omega)))))), (by simp only [hoV] <;> (repeat' split) <;> first | omega | (exfalso; omega) | (subst_vars; rfl) | (simp_all; done))⟩
  ·
    refine j_lookup (tgt := 45) (off := 44) G d4_holds_1 (by omega) rfl (by simp [Op.lookupswitch.offset]; omega) (by decide) ?_
    refine j_aload_n G 3 rfl d4_holds_45 ?_
    refine j_bipush G d4_holds_46 rfl ?_
    refine j_VM G (rm' := { frames := 0, cells := 0, slots := 0, locals := 0 }) (wc := [(ta, o8 (some tb) Q), (tb, aInt E 20 bo)]) (wr := [(ra, o4 (some rr) R)]) (k8_add (xl Γ) E ta tb Q bo 60 (by first | assumption | omega | (simp only [upS, reduceIte, Nat.reduceEqDiff, eq_self, List.length_cons, List.length_nil, List.length_append] <;> omega))) mw8_add ml4_80 [1, 2] [0] rfl rfl ⟨rfl, rfl⟩ (by decide) 1 8 rfl rfl rfl ⟨Nat.le_of_ble_eq_true rfl, Nat.le_of_ble_eq_true rfl⟩ rfl (rest := []) rfl (Nat.le_of_ble_eq_true rfl) d4_holds_48 ⟨Nat.le_of_ble_eq_true rfl, Nat.le_of_ble_eq_true rfl⟩ (fun r w1 hr => ?_)
    obtain ⟨Q1_10, bo1_11, rfl, rfl, rfl, rfl, hq9⟩ := hr
    refine j_eq (ws' := [(ra, o4 (some rr) R), (ta, o8 (some tb) (upS Q 1 ((Q 1) + 1))), (tb, aInt E 20 (trB ((Q 1)) bo 60))]) rfl rfl rfl ?_
    refine j_aload_n G 0 rfl d4_holds_51 ?_
    refine j_iconst G d4_holds_52 ?_
    refine j_iload_n G 2 rfl d4_holds_53 ?_
    refine j_aload_n G 3 rfl d4_holds_54 ?_
    refine j_SM G (rm' := { frames := 3, cells := 0, slots := 0, locals := 67 }) (wc := [(ra, o4 (some rr) R), (ta, o8 (some tb) (upS Q 1 ((Q 1) + 1))), (tb, aInt E 20 (trB ((Q 1)) bo 60))]) (wr := []) (k4_holdsb4 (xl Γ) E ra rr R ta tb (upS Q 1 ((Q 1) + 1)) (trB ((Q 1)) bo 60) x (by first | assumption | omega | (simp only [upS, reduceIte, Nat.reduceEqDiff, eq_self, List.length_cons, List.length_nil, List.length_append] <;> omega)) (by first | assumption | omega | (simp only [upS, reduceIte, Nat.reduceEqDiff, eq_self, List.length_cons, List.length_nil, List.length_append] <;> omega))) mw4_holds ml4_90 [0, 1, 2] [] rfl rfl ⟨rfl, rfl⟩ (by decide) ⟨Nat.le_of_ble_eq_true rfl, Nat.le_of_ble_eq_true rfl⟩ rfl (rest := []) rfl (Nat.le_of_ble_eq_true rfl) d4_holds_55 ⟨Nat.le_of_ble_eq_true rfl, Nat.le_of_ble_eq_true rfl⟩ (fun r w1 hr => ?_)
    obtain ⟨v13, Q1_14, bo1_15, rfl, rfl, rfl, rfl, hq12⟩ := hr
    refine j_eq (ws' := [(ra, o4 (some rr) R), (ta, o8 (some tb) (upS Q 1 (((Q 1) + 1) + ((11 :: goL ((R 0))).length : Int)))), (tb, aInt E 20 (trL (11 :: goL ((R 0))) (((Q 1) + 1)) (trB ((Q 1)) bo 60)))]) rfl rfl rfl ?_
    try simp only [upS, reduceIte, Nat.reduceEqDiff, eq_self] at hq12
    refine j_aload_n G 0 rfl d4_holds_58 ?_
    refine j_iconst G d4_holds_59 ?_
    refine j_iconst G d4_holds_60 ?_
    refine j_aload_n G 3 rfl d4_holds_61 ?_
    refine j_SM G (rm' := { frames := 2, cells := 0, slots := 0, locals := 44 }) (wc := [(ra, o4 (some rr) R), (ta, o8 (some tb) (upS Q 1 (((Q 1) + 1) + ((11 :: goL ((R 0))).length : Int)))), (tb, aInt E 20 (trL (11 :: goL ((R 0))) (((Q 1) + 1)) (trB ((Q 1)) bo 60)))]) (wr := []) (k4_goesb4 (xl Γ) E ra rr R ta tb (upS Q 1 (((Q 1) + 1) + ((11 :: goL ((R 0))).length : Int))) (trL (11 :: goL ((R 0))) (((Q 1) + 1)) (trB ((Q 1)) bo 60)) 2 (by first | assumption | omega | (simp only [upS, reduceIte, Nat.reduceEqDiff, eq_self, List.length_cons, List.length_nil, List.length_append] <;> omega))) mw4_goes ml4_86 [0, 1, 2] [] rfl rfl ⟨rfl, rfl⟩ (by decide) ⟨Nat.le_of_ble_eq_true rfl, Nat.le_of_ble_eq_true rfl⟩ rfl (rest := [.int (iZ v13)]) rfl (Nat.le_of_ble_eq_true rfl) d4_holds_62 ⟨Nat.le_of_ble_eq_true rfl, Nat.le_of_ble_eq_true rfl⟩ (fun r w1 hr => ?_)
    obtain ⟨v17, Q1_18, bo1_19, rfl, rfl, rfl, rfl, hq16⟩ := hr
    refine j_eq (ws' := [(ra, o4 (some rr) R), (ta, o8 (some tb) (upS Q 1 ((((Q 1) + 1) + ((11 :: goL ((R 0))).length : Int)) + (([50, 10]).length : Int)))), (tb, aInt E 20 (trL ([50, 10]) ((((Q 1) + 1) + ((11 :: goL ((R 0))).length : Int))) (trL (11 :: goL ((R 0))) (((Q 1) + 1)) (trB ((Q 1)) bo 60))))]) rfl rfl rfl ?_
    try simp only [upS, reduceIte, Nat.reduceEqDiff, eq_self] at hq16
    refine j_iadd G d4_holds_65 ?_
    exact j_iret G F d4_holds_66 ⟨v13 + v17, (upS Q 1 ((((Q 1) + 1) + ((11 :: goL ((R 0))).length : Int)) + (([50, 10]).length : Int))), (trL ([50, 10]) ((((Q 1) + 1) + ((11 :: goL ((R 0))).length : Int))) (trL (11 :: goL ((R 0))) (((Q 1) + 1)) (trB ((Q 1)) bo 60))), rfl, rfl, (by first | rfl | (congr 1; simp only [hoL, trL_app, List.length_cons, List.length_nil, List.length_append, Int.natCast_add, Int.natCast_one] <;> (repeat' split) <;> (try simp) <;> omega)), (by first | rfl | (simp only [hoL] <;> (repeat' split) <;> first | rfl | (exfalso; omega) | (simp only [trL_app, trL, List.cons_append, List.nil_append, List.length_cons, List.length_nil, List.length_append] <;> first | rfl | (congr 1 <;> first | omega | (congr 1 <;> first | omega | (congr 1 <;> omega)))))), (by simp only [hoV] <;> (repeat' split) <;> first | omega | (exfalso; omega) | (subst_vars; rfl) | (simp_all; done))⟩
  ·
    refine j_lookup (tgt := 67) (off := 66) G d4_holds_1 (by omega) rfl (by simp [Op.lookupswitch.offset]; omega) (by decide) ?_
    refine j_aload_n G 3 rfl d4_holds_67 ?_
    refine j_bipush G d4_holds_68 rfl ?_
    refine j_VM G (rm' := { frames := 0, cells := 0, slots := 0, locals := 0 }) (wc := [(ta, o8 (some tb) Q), (tb, aInt E 20 bo)]) (wr := [(ra, o4 (some rr) R)]) (k8_add (xl Γ) E ta tb Q bo 11 (by first | assumption | omega | (simp only [upS, reduceIte, Nat.reduceEqDiff, eq_self, List.length_cons, List.length_nil, List.length_append] <;> omega))) mw8_add ml4_80 [1, 2] [0] rfl rfl ⟨rfl, rfl⟩ (by decide) 1 8 rfl rfl rfl ⟨Nat.le_of_ble_eq_true rfl, Nat.le_of_ble_eq_true rfl⟩ rfl (rest := []) rfl (Nat.le_of_ble_eq_true rfl) d4_holds_70 ⟨Nat.le_of_ble_eq_true rfl, Nat.le_of_ble_eq_true rfl⟩ (fun r w1 hr => ?_)
    obtain ⟨Q1_21, bo1_22, rfl, rfl, rfl, rfl, hq20⟩ := hr
    refine j_eq (ws' := [(ra, o4 (some rr) R), (ta, o8 (some tb) (upS Q 1 ((Q 1) + 1))), (tb, aInt E 20 (trB ((Q 1)) bo 11))]) rfl rfl rfl ?_
    refine j_aload_n G 0 rfl d4_holds_73 ?_
    refine j_aload_n G 0 rfl d4_holds_74 ?_
    refine j_get G 0 4 0 in4 fl4_9 d4_holds_75 rfl rfl (by decide) (v := .int (iZ (R 0))) rfl rfl ?_
    refine j_iload_n G 2 rfl d4_holds_78 ?_
    refine j_aload_n G 3 rfl d4_holds_79 ?_
    refine j_SM G (rm' := { frames := 2, cells := 0, slots := 0, locals := 44 }) (wc := [(ra, o4 (some rr) R), (ta, o8 (some tb) (upS Q 1 ((Q 1) + 1))), (tb, aInt E 20 (trB ((Q 1)) bo 11))]) (wr := []) (k4_goes (xl Γ) E ra rr R ta tb (upS Q 1 ((Q 1) + 1)) (trB ((Q 1)) bo 11) (R 0) x (by first | assumption | omega | (simp only [upS, reduceIte, Nat.reduceEqDiff, eq_self, List.length_cons, List.length_nil, List.length_append] <;> omega)) (by first | assumption | omega | (simp only [upS, reduceIte, Nat.reduceEqDiff, eq_self, List.length_cons, List.length_nil, List.length_append] <;> omega))) mw4_goes ml4_86 [0, 1, 2] [] rfl rfl ⟨rfl, rfl⟩ (by decide) ⟨Nat.le_of_ble_eq_true rfl, Nat.le_of_ble_eq_true rfl⟩ rfl (rest := []) rfl (Nat.le_of_ble_eq_true rfl) d4_holds_80 ⟨Nat.le_of_ble_eq_true rfl, Nat.le_of_ble_eq_true rfl⟩ (fun r w1 hr => ?_)
    obtain ⟨v24, Q1_25, bo1_26, rfl, rfl, rfl, rfl, hq23⟩ := hr
    refine j_eq (ws' := [(ra, o4 (some rr) R), (ta, o8 (some tb) (upS Q 1 (((Q 1) + 1) + ((goL (R 0)).length : Int)))), (tb, aInt E 20 (trL (goL (R 0)) (((Q 1) + 1)) (trB ((Q 1)) bo 11)))]) rfl rfl rfl ?_
    try simp only [upS, reduceIte, Nat.reduceEqDiff, eq_self] at hq23
    refine j_aload_n G 0 rfl d4_holds_83 ?_
    refine j_get G 0 4 1 in4 fl4_15 d4_holds_84 rfl rfl (by decide) (v := .int (iZ (R 1))) rfl rfl ?_
    refine j_isub G d4_holds_87 ?_
    exact j_iret G F d4_holds_88 ⟨v24 - (R 1), (upS Q 1 (((Q 1) + 1) + ((goL (R 0)).length : Int))), (trL (goL (R 0)) (((Q 1) + 1)) (trB ((Q 1)) bo 11)), rfl, rfl, (by first | rfl | (congr 1; simp only [hoL, trL_app, List.length_cons, List.length_nil, List.length_append, Int.natCast_add, Int.natCast_one] <;> (repeat' split) <;> (try simp) <;> omega)), (by first | rfl | (simp only [hoL] <;> (repeat' split) <;> first | rfl | (exfalso; omega) | (simp only [trL_app, trL, List.cons_append, List.nil_append, List.length_cons, List.length_nil, List.length_append] <;> first | rfl | (congr 1 <;> first | omega | (congr 1 <;> first | omega | (congr 1 <;> omega)))))), (by simp only [hoV] <;> (repeat' split) <;> first | omega | (exfalso; omega) | (subst_vars; rfl) | (simp_all; done))⟩
theorem d4_tells_0 : decode c4_tells 0 = .ok (.iload_n 1, 1) := by decide +kernel
theorem d4_tells_1 : decode c4_tells 1 = .ok (.tableswitch 100 3 6 #[31, 56, 56, 75], 31) := by decide +kernel
theorem d4_tells_101 : decode c4_tells 101 = .ok (.aload_n 3, 1) := by decide +kernel
theorem d4_tells_102 : decode c4_tells 102 = .ok (.bipush 12, 2) := by decide +kernel
theorem d4_tells_104 : decode c4_tells 104 = .ok (.invokevirtual 80, 3) := by decide +kernel
theorem d4_tells_107 : decode c4_tells 107 = .ok (.aload_n 0, 1) := by decide +kernel
theorem d4_tells_108 : decode c4_tells 108 = .ok (.aload_n 0, 1) := by decide +kernel
theorem d4_tells_109 : decode c4_tells 109 = .ok (.getfield 9, 3) := by decide +kernel
theorem d4_tells_112 : decode c4_tells 112 = .ok (.iload_n 2, 1) := by decide +kernel
theorem d4_tells_113 : decode c4_tells 113 = .ok (.aload_n 3, 1) := by decide +kernel
theorem d4_tells_114 : decode c4_tells 114 = .ok (.invokestatic 90, 3) := by decide +kernel
theorem d4_tells_117 : decode c4_tells 117 = .ok (.iconst 2, 1) := by decide +kernel
theorem d4_tells_118 : decode c4_tells 118 = .ok (.imul, 1) := by decide +kernel
theorem d4_tells_119 : decode c4_tells 119 = .ok (.ireturn, 1) := by decide +kernel
theorem mw4_tells : MS y4_tells c4_tells 4 (some .int) 4 := ⟨cd4_tells, ini4, na4_tells, st4_tells⟩
set_option maxHeartbeats 4000000 in
set_option maxRecDepth 100000 in
theorem k4_tellsb (l : Launch) (E : En) (ra : Nat) (rr : Nat) (R : Nat → Int) (ta : Nat) (tb : Nat) (Q : Nat → Int) (bo : Int → Int) (x : Int) (hra : 0 ≤ Q 1 ∧ Q 1 ≤ 930) (hk : 0 ≤ R 0 ∧ R 0 ≤ 6) : Cm l E y4_tells c4_tells 4 (some .int) { frames := 5, cells := 0, slots := 0, locals := 113 } [.ref ra, .int (iZ 0), .int (iZ x), .ref ta] [(ra, o4 (some rr) R), (ta, o8 (some tb) Q), (tb, aInt E 20 bo)] (fun r ws => ∃ (v : Int), ∃ (Q1 : Nat → Int), ∃ (bo1 : Int → Int), r = some (.int (iZ v)) ∧ ws = [(ra, o4 (some rr) R), (ta, o8 (some tb) Q1), (tb, aInt E 20 bo1)] ∧ Q1 = upS Q 1 (Q 1 + ((12 :: hoL (R 0) (R 0)).length : Int)) ∧ bo1 = trL (12 :: hoL (R 0) (R 0)) (Q 1) bo ∧ (v = hoV (R 0) (R 0) (R 2) (R 1) x * 2)) := by
  refine Cm.of rfl (Nat.le_of_ble_eq_true rfl) (fun Γ A hl ha hin G F => ?_)
  subst hl
  have hgl := hoL_len (R 0) (R 0)
  refine j_iload_n G 1 rfl d4_tells_0 ?_
  refine j_tabOut (tgt := 101) G d4_tells_1 (by decide) (by decide) (by decide) ?_
  refine j_aload_n G 3 rfl d4_tells_101 ?_
  refine j_bipush G d4_tells_102 rfl ?_
  refine j_VM G (rm' := { frames := 0, cells := 0, slots := 0, locals := 0 }) (wc := [(ta, o8 (some tb) Q), (tb, aInt E 20 bo)]) (wr := [(ra, o4 (some rr) R)]) (k8_add (xl Γ) E ta tb Q bo 12 (by first | assumption | omega | (simp only [upS, reduceIte, Nat.reduceEqDiff, eq_self, List.length_cons, List.length_nil, List.length_append] <;> omega))) mw8_add ml4_80 [1, 2] [0] rfl rfl ⟨rfl, rfl⟩ (by decide) 1 8 rfl rfl rfl ⟨Nat.le_of_ble_eq_true rfl, Nat.le_of_ble_eq_true rfl⟩ rfl (rest := []) rfl (Nat.le_of_ble_eq_true rfl) d4_tells_104 ⟨Nat.le_of_ble_eq_true rfl, Nat.le_of_ble_eq_true rfl⟩ (fun r w1 hr => ?_)
  obtain ⟨Q1_2, bo1_3, rfl, rfl, rfl, rfl, hq1⟩ := hr
  refine j_eq (ws' := [(ra, o4 (some rr) R), (ta, o8 (some tb) (upS Q 1 ((Q 1) + 1))), (tb, aInt E 20 (trB ((Q 1)) bo 12))]) rfl rfl rfl ?_
  refine j_aload_n G 0 rfl d4_tells_107 ?_
  refine j_aload_n G 0 rfl d4_tells_108 ?_
  refine j_get G 0 4 0 in4 fl4_9 d4_tells_109 rfl rfl (by decide) (v := .int (iZ (R 0))) rfl rfl ?_
  refine j_iload_n G 2 rfl d4_tells_112 ?_
  refine j_aload_n G 3 rfl d4_tells_113 ?_
  refine j_SM G (rm' := { frames := 4, cells := 0, slots := 0, locals := 90 }) (wc := [(ra, o4 (some rr) R), (ta, o8 (some tb) (upS Q 1 ((Q 1) + 1))), (tb, aInt E 20 (trB ((Q 1)) bo 12))]) (wr := []) (k4_holds (xl Γ) E ra rr R ta tb (upS Q 1 ((Q 1) + 1)) (trB ((Q 1)) bo 12) (R 0) x (by first | assumption | omega | (simp only [upS, reduceIte, Nat.reduceEqDiff, eq_self, List.length_cons, List.length_nil, List.length_append] <;> omega)) (by first | assumption | omega | (simp only [upS, reduceIte, Nat.reduceEqDiff, eq_self, List.length_cons, List.length_nil, List.length_append] <;> omega)) (by first | assumption | omega | (simp only [upS, reduceIte, Nat.reduceEqDiff, eq_self, List.length_cons, List.length_nil, List.length_append] <;> omega))) mw4_holds ml4_90 [0, 1, 2] [] rfl rfl ⟨rfl, rfl⟩ (by decide) ⟨Nat.le_of_ble_eq_true rfl, Nat.le_of_ble_eq_true rfl⟩ rfl (rest := []) rfl (Nat.le_of_ble_eq_true rfl) d4_tells_114 ⟨Nat.le_of_ble_eq_true rfl, Nat.le_of_ble_eq_true rfl⟩ (fun r w1 hr => ?_)
  obtain ⟨v5, Q1_6, bo1_7, rfl, rfl, rfl, rfl, hq4⟩ := hr
  refine j_eq (ws' := [(ra, o4 (some rr) R), (ta, o8 (some tb) (upS Q 1 (((Q 1) + 1) + ((hoL ((R 0)) (R 0)).length : Int)))), (tb, aInt E 20 (trL (hoL ((R 0)) (R 0)) (((Q 1) + 1)) (trB ((Q 1)) bo 12)))]) rfl rfl rfl ?_
  try simp only [upS, reduceIte, Nat.reduceEqDiff, eq_self] at hq4
  refine j_iconst G d4_tells_117 ?_
  refine j_imul G d4_tells_118 ?_
  exact j_iret G F d4_tells_119 ⟨v5 * 2, (upS Q 1 (((Q 1) + 1) + ((hoL ((R 0)) (R 0)).length : Int))), (trL (hoL ((R 0)) (R 0)) (((Q 1) + 1)) (trB ((Q 1)) bo 12)), rfl, rfl, (by first | rfl | (congr 1; simp only [teL, trL_app, List.length_cons, List.length_nil, List.length_append, Int.natCast_add, Int.natCast_one] <;> (repeat' split) <;> (try simp) <;> omega)), (by first | rfl | (simp only [teL] <;> (repeat' split) <;> first | rfl | (exfalso; omega) | (simp only [trL_app, trL, List.cons_append, List.nil_append, List.length_cons, List.length_nil, List.length_append] <;> first | rfl | (congr 1 <;> first | omega | (congr 1 <;> first | omega | (congr 1 <;> omega)))))), (by omega)⟩
theorem d4_tells_32 : decode c4_tells 32 = .ok (.aload_n 3, 1) := by decide +kernel
theorem d4_tells_33 : decode c4_tells 33 = .ok (.bipush 40, 2) := by decide +kernel
theorem d4_tells_35 : decode c4_tells 35 = .ok (.invokevirtual 80, 3) := by decide +kernel
theorem d4_tells_38 : decode c4_tells 38 = .ok (.aload_n 0, 1) := by decide +kernel
theorem d4_tells_39 : decode c4_tells 39 = .ok (.iconst 0, 1) := by decide +kernel
theorem d4_tells_40 : decode c4_tells 40 = .ok (.iload_n 2, 1) := by decide +kernel
theorem d4_tells_41 : decode c4_tells 41 = .ok (.aload_n 3, 1) := by decide +kernel
theorem d4_tells_42 : decode c4_tells 42 = .ok (.invokestatic 93, 3) := by decide +kernel
theorem d4_tells_45 : decode c4_tells 45 = .ok (.aload_n 0, 1) := by decide +kernel
theorem d4_tells_46 : decode c4_tells 46 = .ok (.aload_n 0, 1) := by decide +kernel
theorem d4_tells_47 : decode c4_tells 47 = .ok (.getfield 9, 3) := by decide +kernel
theorem d4_tells_50 : decode c4_tells 50 = .ok (.iconst 1, 1) := by decide +kernel
theorem d4_tells_51 : decode c4_tells 51 = .ok (.aload_n 3, 1) := by decide +kernel
theorem d4_tells_52 : decode c4_tells 52 = .ok (.invokestatic 90, 3) := by decide +kernel
theorem d4_tells_55 : decode c4_tells 55 = .ok (.iadd, 1) := by decide +kernel
theorem d4_tells_56 : decode c4_tells 56 = .ok (.ireturn, 1) := by decide +kernel
theorem d4_tells_57 : decode c4_tells 57 = .ok (.aload_n 3, 1) := by decide +kernel
theorem d4_tells_58 : decode c4_tells 58 = .ok (.bipush 51, 2) := by decide +kernel
theorem d4_tells_60 : decode c4_tells 60 = .ok (.invokevirtual 80, 3) := by decide +kernel
theorem d4_tells_63 : decode c4_tells 63 = .ok (.aload_n 0, 1) := by decide +kernel
theorem d4_tells_64 : decode c4_tells 64 = .ok (.iconst 0, 1) := by decide +kernel
theorem d4_tells_65 : decode c4_tells 65 = .ok (.iload_n 2, 1) := by decide +kernel
theorem d4_tells_66 : decode c4_tells 66 = .ok (.aload_n 0, 1) := by decide +kernel
theorem d4_tells_67 : decode c4_tells 67 = .ok (.getfield 18, 3) := by decide +kernel
theorem d4_tells_70 : decode c4_tells 70 = .ok (.isub, 1) := by decide +kernel
theorem d4_tells_71 : decode c4_tells 71 = .ok (.aload_n 3, 1) := by decide +kernel
theorem d4_tells_72 : decode c4_tells 72 = .ok (.invokestatic 93, 3) := by decide +kernel
theorem d4_tells_75 : decode c4_tells 75 = .ok (.ireturn, 1) := by decide +kernel
theorem d4_tells_76 : decode c4_tells 76 = .ok (.aload_n 3, 1) := by decide +kernel
theorem d4_tells_77 : decode c4_tells 77 = .ok (.bipush 70, 2) := by decide +kernel
theorem d4_tells_79 : decode c4_tells 79 = .ok (.invokevirtual 80, 3) := by decide +kernel
theorem d4_tells_82 : decode c4_tells 82 = .ok (.aload_n 0, 1) := by decide +kernel
theorem d4_tells_83 : decode c4_tells 83 = .ok (.aload_n 0, 1) := by decide +kernel
theorem d4_tells_84 : decode c4_tells 84 = .ok (.getfield 9, 3) := by decide +kernel
theorem d4_tells_87 : decode c4_tells 87 = .ok (.iload_n 2, 1) := by decide +kernel
theorem d4_tells_88 : decode c4_tells 88 = .ok (.aload_n 3, 1) := by decide +kernel
theorem d4_tells_89 : decode c4_tells 89 = .ok (.invokestatic 90, 3) := by decide +kernel
theorem d4_tells_92 : decode c4_tells 92 = .ok (.aload_n 0, 1) := by decide +kernel
theorem d4_tells_93 : decode c4_tells 93 = .ok (.iconst 0, 1) := by decide +kernel
theorem d4_tells_94 : decode c4_tells 94 = .ok (.iload_n 2, 1) := by decide +kernel
theorem d4_tells_95 : decode c4_tells 95 = .ok (.aload_n 3, 1) := by decide +kernel
theorem d4_tells_96 : decode c4_tells 96 = .ok (.invokestatic 93, 3) := by decide +kernel
theorem d4_tells_99 : decode c4_tells 99 = .ok (.isub, 1) := by decide +kernel
theorem d4_tells_100 : decode c4_tells 100 = .ok (.ireturn, 1) := by decide +kernel
set_option maxHeartbeats 4000000 in
set_option maxRecDepth 100000 in
theorem k4_tells (l : Launch) (E : En) (ra : Nat) (rr : Nat) (R : Nat → Int) (ta : Nat) (tb : Nat) (Q : Nat → Int) (bo : Int → Int) (fr : Int) (x : Int) (hra : 0 ≤ Q 1 ∧ Q 1 ≤ 900) (hk : 0 ≤ R 0 ∧ R 0 ≤ 6) (hf : 0 ≤ fr ∧ fr ≤ 6) : Cm l E y4_tells c4_tells 4 (some .int) { frames := 6, cells := 0, slots := 0, locals := 136 } [.ref ra, .int (iZ fr), .int (iZ x), .ref ta] [(ra, o4 (some rr) R), (ta, o8 (some tb) Q), (tb, aInt E 20 bo)] (fun r ws => ∃ (v : Int), ∃ (Q1 : Nat → Int), ∃ (bo1 : Int → Int), r = some (.int (iZ v)) ∧ ws = [(ra, o4 (some rr) R), (ta, o8 (some tb) Q1), (tb, aInt E 20 bo1)] ∧ Q1 = upS Q 1 (Q 1 + ((teL (R 0) fr).length : Int)) ∧ bo1 = trL (teL (R 0) fr) (Q 1) bo ∧ (v = teV (R 0) fr (R 2) (R 1) x)) := by
  refine Cm.of rfl (Nat.le_of_ble_eq_true rfl) (fun Γ A hl ha hin G F => ?_)
  subst hl
  have hgl := hoL_len (R 0) (R 0)
  refine j_iload_n G 1 rfl d4_tells_0 ?_
  rcases (show fr = 3 ∨ fr = 4 ∨ fr = 5 ∨ fr = 6 ∨ (fr < 3 ∨ 6 < fr) by omega) with h1 | h1 | h1 | h1 | h1
  ·
    refine j_tabIn (tgt := 32) G d4_tells_1 (by omega) 3 h1 ⟨by decide, by decide⟩ rfl (by decide) ?_
    refine j_aload_n G 3 rfl d4_tells_32 ?_
    refine j_bipush G d4_tells_33 rfl ?_
    refine j_VM G (rm' := { frames := 0, cells := 0, slots := 0, locals := 0 }) (wc := [(ta, o8 (some tb) Q), (tb, aInt E 20 bo)]) (wr := [(ra, o4 (some rr) R)]) (k8_add (xl Γ) E ta tb Q bo 40 (by first | assumption | omega | (simp only [upS, reduceIte, Nat.reduceEqDiff, eq_self, List.length_cons, List.length_nil, List.length_append] <;> omega))) mw8_add ml4_80 [1, 2] [0] rfl rfl ⟨rfl, rfl⟩ (by decide) 1 8 rfl rfl rfl ⟨Nat.le_of_ble_eq_true rfl, Nat.le_of_ble_eq_true rfl⟩ rfl (rest := []) rfl (Nat.le_of_ble_eq_true rfl) d4_tells_35 ⟨Nat.le_of_ble_eq_true rfl, Nat.le_of_ble_eq_true rfl⟩ (fun r w1 hr => ?_)
    obtain ⟨Q1_3, bo1_4, rfl, rfl, rfl, rfl, hq2⟩ := hr
    refine j_eq (ws' := [(ra, o4 (some rr) R), (ta, o8 (some tb) (upS Q 1 ((Q 1) + 1))), (tb, aInt E 20 (trB ((Q 1)) bo 40))]) rfl rfl rfl ?_
    refine j_aload_n G 0 rfl d4_tells_38 ?_
    refine j_iconst G d4_tells_39 ?_
    refine j_iload_n G 2 rfl d4_tells_40 ?_
    refine j_aload_n G 3 rfl d4_tells_41 ?_
    refine j_SM G (rm' := { frames := 5, cells := 0, slots := 0, locals := 113 }) (wc := [(ra, o4 (some rr) R), (ta, o8 (some tb) (upS Q 1 ((Q 1) + 1))), (tb, aInt E 20 (trB ((Q 1)) bo 40))]) (wr := []) (k4_tellsb (xl Γ) E ra rr R ta tb (upS Q 1 ((Q 1) + 1)) (trB ((Q 1)) bo 40) x (by first | assumption | omega | (simp only [upS, reduceIte, Nat.reduceEqDiff, eq_self, List.length_cons, List.length_nil, List.length_append] <;> omega)) (by first | assumption | omega | (simp only [upS, reduceIte, Nat.reduceEqDiff, eq_self, List.length_cons, List.length_nil, List.length_append] <;> omega))) mw4_tells ml4_93 [0, 1, 2] [] rfl rfl ⟨rfl, rfl⟩ (by decide) ⟨Nat.le_of_ble_eq_true rfl, Nat.le_of_ble_eq_true rfl⟩ rfl (rest := []) rfl (Nat.le_of_ble_eq_true rfl) d4_tells_42 ⟨Nat.le_of_ble_eq_true rfl, Nat.le_of_ble_eq_true rfl⟩ (fun r w1 hr => ?_)
    obtain ⟨v6, Q1_7, bo1_8, rfl, rfl, rfl, rfl, hq5⟩ := hr
    refine j_eq (ws' := [(ra, o4 (some rr) R), (ta, o8 (some tb) (upS Q 1 (((Q 1) + 1) + ((12 :: hoL ((R 0)) ((R 0))).length : Int)))), (tb, aInt E 20 (trL (12 :: hoL ((R 0)) ((R 0))) (((Q 1) + 1)) (trB ((Q 1)) bo 40)))]) rfl rfl rfl ?_
    try simp only [upS, reduceIte, Nat.reduceEqDiff, eq_self] at hq5
    refine j_aload_n G 0 rfl d4_tells_45 ?_
    refine j_aload_n G 0 rfl d4_tells_46 ?_
    refine j_get G 0 4 0 in4 fl4_9 d4_tells_47 rfl rfl (by decide) (v := .int (iZ (R 0))) rfl rfl ?_
    refine j_iconst G d4_tells_50 ?_
    refine j_aload_n G 3 rfl d4_tells_51 ?_
    refine j_SM G (rm' := { frames := 4, cells := 0, slots := 0, locals := 90 }) (wc := [(ra, o4 (some rr) R), (ta, o8 (some tb) (upS Q 1 (((Q 1) + 1) + ((12 :: hoL ((R 0)) ((R 0))).length : Int)))), (tb, aInt E 20 (trL (12 :: hoL ((R 0)) ((R 0))) (((Q 1) + 1)) (trB ((Q 1)) bo 40)))]) (wr := []) (k4_holds (xl Γ) E ra rr R ta tb (upS Q 1 (((Q 1) + 1) + ((12 :: hoL ((R 0)) ((R 0))).length : Int))) (trL (12 :: hoL ((R 0)) ((R 0))) (((Q 1) + 1)) (trB ((Q 1)) bo 40)) (R 0) 1 (by first | assumption | omega | (simp only [upS, reduceIte, Nat.reduceEqDiff, eq_self, List.length_cons, List.length_nil, List.length_append] <;> omega)) (by first | assumption | omega | (simp only [upS, reduceIte, Nat.reduceEqDiff, eq_self, List.length_cons, List.length_nil, List.length_append] <;> omega)) (by first | assumption | omega | (simp only [upS, reduceIte, Nat.reduceEqDiff, eq_self, List.length_cons, List.length_nil, List.length_append] <;> omega))) mw4_holds ml4_90 [0, 1, 2] [] rfl rfl ⟨rfl, rfl⟩ (by decide) ⟨Nat.le_of_ble_eq_true rfl, Nat.le_of_ble_eq_true rfl⟩ rfl (rest := [.int (iZ v6)]) rfl (Nat.le_of_ble_eq_true rfl) d4_tells_52 ⟨Nat.le_of_ble_eq_true rfl, Nat.le_of_ble_eq_true rfl⟩ (fun r w1 hr => ?_)
    obtain ⟨v10, Q1_11, bo1_12, rfl, rfl, rfl, rfl, hq9⟩ := hr
    refine j_eq (ws' := [(ra, o4 (some rr) R), (ta, o8 (some tb) (upS Q 1 ((((Q 1) + 1) + ((12 :: hoL ((R 0)) ((R 0))).length : Int)) + ((hoL ((R 0)) (R 0)).length : Int)))), (tb, aInt E 20 (trL (hoL ((R 0)) (R 0)) ((((Q 1) + 1) + ((12 :: hoL ((R 0)) ((R 0))).length : Int))) (trL (12 :: hoL ((R 0)) ((R 0))) (((Q 1) + 1)) (trB ((Q 1)) bo 40))))]) rfl rfl rfl ?_
    try simp only [upS, reduceIte, Nat.reduceEqDiff, eq_self] at hq9
    refine j_iadd G d4_tells_55 ?_
    exact j_iret G F d4_tells_56 ⟨v6 + v10, (upS Q 1 ((((Q 1) + 1) + ((12 :: hoL ((R 0)) ((R 0))).length : Int)) + ((hoL ((R 0)) (R 0)).length : Int))), (trL (hoL ((R 0)) (R 0)) ((((Q 1) + 1) + ((12 :: hoL ((R 0)) ((R 0))).length : Int))) (trL (12 :: hoL ((R 0)) ((R 0))) (((Q 1) + 1)) (trB ((Q 1)) bo 40))), rfl, rfl, (by first | rfl | (congr 1; simp only [teL, trL_app, List.length_cons, List.length_nil, List.length_append, Int.natCast_add, Int.natCast_one] <;> (repeat' split) <;> (try simp) <;> omega)), (by first | rfl | (simp only [teL] <;> (repeat' split) <;> first | rfl | (exfalso; omega) | (simp only [trL_app, trL, List.cons_append, List.nil_append, List.length_cons, List.length_nil, List.length_append] <;> first | rfl | (congr 1 <;> first | omega | (congr 1 <;> first | omega | (congr 1 <;> omega)))))), (by simp only [teV] <;> (repeat' split) <;> first | omega | (exfalso; omega) | (simp_all; done))⟩
  ·
    refine j_tabIn (tgt := 57) G d4_tells_1 (by omega) 4 h1 ⟨by decide, by decide⟩ rfl (by decide) ?_
    refine j_aload_n G 3 rfl d4_tells_57 ?_
    refine j_bipush G d4_tells_58 rfl ?_
    refine j_VM G (rm' := { frames := 0, cells := 0, slots := 0, locals := 0 }) (wc := [(ta, o8 (some tb) Q), (tb, aInt E 20 bo)]) (wr := [(ra, o4 (some rr) R)]) (k8_add (xl Γ) E ta tb Q bo 51 (by first | assumption | omega | (simp only [upS, reduceIte, Nat.reduceEqDiff, eq_self, List.length_cons, List.length_nil, List.length_append] <;> omega))) mw8_add ml4_80 [1, 2] [0] rfl rfl ⟨rfl, rfl⟩ (by decide) 1 8 rfl rfl rfl ⟨Nat.le_of_ble_eq_true rfl, Nat.le_of_ble_eq_true rfl⟩ rfl (rest := []) rfl (Nat.le_of_ble_eq_true rfl) d4_tells_60 ⟨Nat.le_of_ble_eq_true rfl, Nat.le_of_ble_eq_true rfl⟩ (fun r w1 hr => ?_)
    obtain ⟨Q1_14, bo1_15, rfl, rfl, rfl, rfl, hq13⟩ := hr
    refine j_eq (ws' := [(ra, o4 (some rr) R), (ta, o8 (some tb) (upS Q 1 ((Q 1) + 1))), (tb, aInt E 20 (trB ((Q 1)) bo 51))]) rfl rfl rfl ?_
    refine j_aload_n G 0 rfl d4_tells_63 ?_
    refine j_iconst G d4_tells_64 ?_
    refine j_iload_n G 2 rfl d4_tells_65 ?_
    refine j_aload_n G 0 rfl d4_tells_66 ?_
    refine j_get G 0 4 2 in4 fl4_18 d4_tells_67 rfl rfl (by decide) (v := .int (iZ (R 2))) rfl rfl ?_
    refine j_isub G d4_tells_70 ?_
    refine j_aload_n G 3 rfl d4_tells_71 ?_
    refine j_SM G (rm' := { frames := 5, cells := 0, slots := 0, locals := 113 }) (wc := [(ra, o4 (some rr) R), (ta, o8 (some tb) (upS Q 1 ((Q 1) + 1))), (tb, aInt E 20 (trB ((Q 1)) bo 51))]) (wr := []) (k4_tellsb (xl Γ) E ra rr R ta tb (upS Q 1 ((Q 1) + 1)) (trB ((Q 1)) bo 51) (x - (R 2)) (by first | assumption | omega | (simp only [upS, reduceIte, Nat.reduceEqDiff, eq_self, List.length_cons, List.length_nil, List.length_append] <;> omega)) (by first | assumption | omega | (simp only [upS, reduceIte, Nat.reduceEqDiff, eq_self, List.length_cons, List.length_nil, List.length_append] <;> omega))) mw4_tells ml4_93 [0, 1, 2] [] rfl rfl ⟨rfl, rfl⟩ (by decide) ⟨Nat.le_of_ble_eq_true rfl, Nat.le_of_ble_eq_true rfl⟩ rfl (rest := []) rfl (Nat.le_of_ble_eq_true rfl) d4_tells_72 ⟨Nat.le_of_ble_eq_true rfl, Nat.le_of_ble_eq_true rfl⟩ (fun r w1 hr => ?_)
    obtain ⟨v17, Q1_18, bo1_19, rfl, rfl, rfl, rfl, hq16⟩ := hr
    refine j_eq (ws' := [(ra, o4 (some rr) R), (ta, o8 (some tb) (upS Q 1 (((Q 1) + 1) + ((12 :: hoL ((R 0)) ((R 0))).length : Int)))), (tb, aInt E 20 (trL (12 :: hoL ((R 0)) ((R 0))) (((Q 1) + 1)) (trB ((Q 1)) bo 51)))]) rfl rfl rfl ?_
    try simp only [upS, reduceIte, Nat.reduceEqDiff, eq_self] at hq16
    exact j_iret G F d4_tells_75 ⟨v17, (upS Q 1 (((Q 1) + 1) + ((12 :: hoL ((R 0)) ((R 0))).length : Int))), (trL (12 :: hoL ((R 0)) ((R 0))) (((Q 1) + 1)) (trB ((Q 1)) bo 51)), rfl, rfl, (by first | rfl | (congr 1; simp only [teL, trL_app, List.length_cons, List.length_nil, List.length_append, Int.natCast_add, Int.natCast_one] <;> (repeat' split) <;> (try simp) <;> omega)), (by first | rfl | (simp only [teL] <;> (repeat' split) <;> first | rfl | (exfalso; omega) | (simp only [trL_app, trL, List.cons_append, List.nil_append, List.length_cons, List.length_nil, List.length_append] <;> first | rfl | (congr 1 <;> first | omega | (congr 1 <;> first | omega | (congr 1 <;> omega)))))), (by simp only [teV] <;> (repeat' split) <;> first | omega | (exfalso; omega) | (simp_all; done))⟩
  ·
    refine j_tabIn (tgt := 57) G d4_tells_1 (by omega) 5 h1 ⟨by decide, by decide⟩ rfl (by decide) ?_
    refine j_aload_n G 3 rfl d4_tells_57 ?_
    refine j_bipush G d4_tells_58 rfl ?_
    refine j_VM G (rm' := { frames := 0, cells := 0, slots := 0, locals := 0 }) (wc := [(ta, o8 (some tb) Q), (tb, aInt E 20 bo)]) (wr := [(ra, o4 (some rr) R)]) (k8_add (xl Γ) E ta tb Q bo 51 (by first | assumption | omega | (simp only [upS, reduceIte, Nat.reduceEqDiff, eq_self, List.length_cons, List.length_nil, List.length_append] <;> omega))) mw8_add ml4_80 [1, 2] [0] rfl rfl ⟨rfl, rfl⟩ (by decide) 1 8 rfl rfl rfl ⟨Nat.le_of_ble_eq_true rfl, Nat.le_of_ble_eq_true rfl⟩ rfl (rest := []) rfl (Nat.le_of_ble_eq_true rfl) d4_tells_60 ⟨Nat.le_of_ble_eq_true rfl, Nat.le_of_ble_eq_true rfl⟩ (fun r w1 hr => ?_)
    obtain ⟨Q1_21, bo1_22, rfl, rfl, rfl, rfl, hq20⟩ := hr
    refine j_eq (ws' := [(ra, o4 (some rr) R), (ta, o8 (some tb) (upS Q 1 ((Q 1) + 1))), (tb, aInt E 20 (trB ((Q 1)) bo 51))]) rfl rfl rfl ?_
    refine j_aload_n G 0 rfl d4_tells_63 ?_
    refine j_iconst G d4_tells_64 ?_
    refine j_iload_n G 2 rfl d4_tells_65 ?_
    refine j_aload_n G 0 rfl d4_tells_66 ?_
    refine j_get G 0 4 2 in4 fl4_18 d4_tells_67 rfl rfl (by decide) (v := .int (iZ (R 2))) rfl rfl ?_
    refine j_isub G d4_tells_70 ?_
    refine j_aload_n G 3 rfl d4_tells_71 ?_
    refine j_SM G (rm' := { frames := 5, cells := 0, slots := 0, locals := 113 }) (wc := [(ra, o4 (some rr) R), (ta, o8 (some tb) (upS Q 1 ((Q 1) + 1))), (tb, aInt E 20 (trB ((Q 1)) bo 51))]) (wr := []) (k4_tellsb (xl Γ) E ra rr R ta tb (upS Q 1 ((Q 1) + 1)) (trB ((Q 1)) bo 51) (x - (R 2)) (by first | assumption | omega | (simp only [upS, reduceIte, Nat.reduceEqDiff, eq_self, List.length_cons, List.length_nil, List.length_append] <;> omega)) (by first | assumption | omega | (simp only [upS, reduceIte, Nat.reduceEqDiff, eq_self, List.length_cons, List.length_nil, List.length_append] <;> omega))) mw4_tells ml4_93 [0, 1, 2] [] rfl rfl ⟨rfl, rfl⟩ (by decide) ⟨Nat.le_of_ble_eq_true rfl, Nat.le_of_ble_eq_true rfl⟩ rfl (rest := []) rfl (Nat.le_of_ble_eq_true rfl) d4_tells_72 ⟨Nat.le_of_ble_eq_true rfl, Nat.le_of_ble_eq_true rfl⟩ (fun r w1 hr => ?_)
    obtain ⟨v24, Q1_25, bo1_26, rfl, rfl, rfl, rfl, hq23⟩ := hr
    refine j_eq (ws' := [(ra, o4 (some rr) R), (ta, o8 (some tb) (upS Q 1 (((Q 1) + 1) + ((12 :: hoL ((R 0)) ((R 0))).length : Int)))), (tb, aInt E 20 (trL (12 :: hoL ((R 0)) ((R 0))) (((Q 1) + 1)) (trB ((Q 1)) bo 51)))]) rfl rfl rfl ?_
    try simp only [upS, reduceIte, Nat.reduceEqDiff, eq_self] at hq23
    exact j_iret G F d4_tells_75 ⟨v24, (upS Q 1 (((Q 1) + 1) + ((12 :: hoL ((R 0)) ((R 0))).length : Int))), (trL (12 :: hoL ((R 0)) ((R 0))) (((Q 1) + 1)) (trB ((Q 1)) bo 51)), rfl, rfl, (by first | rfl | (congr 1; simp only [teL, trL_app, List.length_cons, List.length_nil, List.length_append, Int.natCast_add, Int.natCast_one] <;> (repeat' split) <;> (try simp) <;> omega)), (by first | rfl | (simp only [teL] <;> (repeat' split) <;> first | rfl | (exfalso; omega) | (simp only [trL_app, trL, List.cons_append, List.nil_append, List.length_cons, List.length_nil, List.length_append] <;> first | rfl | (congr 1 <;> first | omega | (congr 1 <;> first | omega | (congr 1 <;> omega)))))), (by simp only [teV] <;> (repeat' split) <;> first | omega | (exfalso; omega) | (simp_all; done))⟩
  ·
    refine j_tabIn (tgt := 76) G d4_tells_1 (by omega) 6 h1 ⟨by decide, by decide⟩ rfl (by decide) ?_
    refine j_aload_n G 3 rfl d4_tells_76 ?_
    refine j_bipush G d4_tells_77 rfl ?_
    refine j_VM G (rm' := { frames := 0, cells := 0, slots := 0, locals := 0 }) (wc := [(ta, o8 (some tb) Q), (tb, aInt E 20 bo)]) (wr := [(ra, o4 (some rr) R)]) (k8_add (xl Γ) E ta tb Q bo 70 (by first | assumption | omega | (simp only [upS, reduceIte, Nat.reduceEqDiff, eq_self, List.length_cons, List.length_nil, List.length_append] <;> omega))) mw8_add ml4_80 [1, 2] [0] rfl rfl ⟨rfl, rfl⟩ (by decide) 1 8 rfl rfl rfl ⟨Nat.le_of_ble_eq_true rfl, Nat.le_of_ble_eq_true rfl⟩ rfl (rest := []) rfl (Nat.le_of_ble_eq_true rfl) d4_tells_79 ⟨Nat.le_of_ble_eq_true rfl, Nat.le_of_ble_eq_true rfl⟩ (fun r w1 hr => ?_)
    obtain ⟨Q1_28, bo1_29, rfl, rfl, rfl, rfl, hq27⟩ := hr
    refine j_eq (ws' := [(ra, o4 (some rr) R), (ta, o8 (some tb) (upS Q 1 ((Q 1) + 1))), (tb, aInt E 20 (trB ((Q 1)) bo 70))]) rfl rfl rfl ?_
    refine j_aload_n G 0 rfl d4_tells_82 ?_
    refine j_aload_n G 0 rfl d4_tells_83 ?_
    refine j_get G 0 4 0 in4 fl4_9 d4_tells_84 rfl rfl (by decide) (v := .int (iZ (R 0))) rfl rfl ?_
    refine j_iload_n G 2 rfl d4_tells_87 ?_
    refine j_aload_n G 3 rfl d4_tells_88 ?_
    refine j_SM G (rm' := { frames := 4, cells := 0, slots := 0, locals := 90 }) (wc := [(ra, o4 (some rr) R), (ta, o8 (some tb) (upS Q 1 ((Q 1) + 1))), (tb, aInt E 20 (trB ((Q 1)) bo 70))]) (wr := []) (k4_holds (xl Γ) E ra rr R ta tb (upS Q 1 ((Q 1) + 1)) (trB ((Q 1)) bo 70) (R 0) x (by first | assumption | omega | (simp only [upS, reduceIte, Nat.reduceEqDiff, eq_self, List.length_cons, List.length_nil, List.length_append] <;> omega)) (by first | assumption | omega | (simp only [upS, reduceIte, Nat.reduceEqDiff, eq_self, List.length_cons, List.length_nil, List.length_append] <;> omega)) (by first | assumption | omega | (simp only [upS, reduceIte, Nat.reduceEqDiff, eq_self, List.length_cons, List.length_nil, List.length_append] <;> omega))) mw4_holds ml4_90 [0, 1, 2] [] rfl rfl ⟨rfl, rfl⟩ (by decide) ⟨Nat.le_of_ble_eq_true rfl, Nat.le_of_ble_eq_true rfl⟩ rfl (rest := []) rfl (Nat.le_of_ble_eq_true rfl) d4_tells_89 ⟨Nat.le_of_ble_eq_true rfl, Nat.le_of_ble_eq_true rfl⟩ (fun r w1 hr => ?_)
    obtain ⟨v31, Q1_32, bo1_33, rfl, rfl, rfl, rfl, hq30⟩ := hr
    refine j_eq (ws' := [(ra, o4 (some rr) R), (ta, o8 (some tb) (upS Q 1 (((Q 1) + 1) + ((hoL ((R 0)) (R 0)).length : Int)))), (tb, aInt E 20 (trL (hoL ((R 0)) (R 0)) (((Q 1) + 1)) (trB ((Q 1)) bo 70)))]) rfl rfl rfl ?_
    try simp only [upS, reduceIte, Nat.reduceEqDiff, eq_self] at hq30
    refine j_aload_n G 0 rfl d4_tells_92 ?_
    refine j_iconst G d4_tells_93 ?_
    refine j_iload_n G 2 rfl d4_tells_94 ?_
    refine j_aload_n G 3 rfl d4_tells_95 ?_
    refine j_SM G (rm' := { frames := 5, cells := 0, slots := 0, locals := 113 }) (wc := [(ra, o4 (some rr) R), (ta, o8 (some tb) (upS Q 1 (((Q 1) + 1) + ((hoL ((R 0)) (R 0)).length : Int)))), (tb, aInt E 20 (trL (hoL ((R 0)) (R 0)) (((Q 1) + 1)) (trB ((Q 1)) bo 70)))]) (wr := []) (k4_tellsb (xl Γ) E ra rr R ta tb (upS Q 1 (((Q 1) + 1) + ((hoL ((R 0)) (R 0)).length : Int))) (trL (hoL ((R 0)) (R 0)) (((Q 1) + 1)) (trB ((Q 1)) bo 70)) x (by first | assumption | omega | (simp only [upS, reduceIte, Nat.reduceEqDiff, eq_self, List.length_cons, List.length_nil, List.length_append] <;> omega)) (by first | assumption | omega | (simp only [upS, reduceIte, Nat.reduceEqDiff, eq_self, List.length_cons, List.length_nil, List.length_append] <;> omega))) mw4_tells ml4_93 [0, 1, 2] [] rfl rfl ⟨rfl, rfl⟩ (by decide) ⟨Nat.le_of_ble_eq_true rfl, Nat.le_of_ble_eq_true rfl⟩ rfl (rest := [.int (iZ v31)]) rfl (Nat.le_of_ble_eq_true rfl) d4_tells_96 ⟨Nat.le_of_ble_eq_true rfl, Nat.le_of_ble_eq_true rfl⟩ (fun r w1 hr => ?_)
    obtain ⟨v35, Q1_36, bo1_37, rfl, rfl, rfl, rfl, hq34⟩ := hr
    refine j_eq (ws' := [(ra, o4 (some rr) R), (ta, o8 (some tb) (upS Q 1 ((((Q 1) + 1) + ((hoL ((R 0)) (R 0)).length : Int)) + ((12 :: hoL ((R 0)) ((R 0))).length : Int)))), (tb, aInt E 20 (trL (12 :: hoL ((R 0)) ((R 0))) ((((Q 1) + 1) + ((hoL ((R 0)) (R 0)).length : Int))) (trL (hoL ((R 0)) (R 0)) (((Q 1) + 1)) (trB ((Q 1)) bo 70))))]) rfl rfl rfl ?_
    try simp only [upS, reduceIte, Nat.reduceEqDiff, eq_self] at hq34
    refine j_isub G d4_tells_99 ?_
    exact j_iret G F d4_tells_100 ⟨v31 - v35, (upS Q 1 ((((Q 1) + 1) + ((hoL ((R 0)) (R 0)).length : Int)) + ((12 :: hoL ((R 0)) ((R 0))).length : Int))), (trL (12 :: hoL ((R 0)) ((R 0))) ((((Q 1) + 1) + ((hoL ((R 0)) (R 0)).length : Int))) (trL (hoL ((R 0)) (R 0)) (((Q 1) + 1)) (trB ((Q 1)) bo 70))), rfl, rfl, (by first | rfl | (congr 1; simp only [teL, trL_app, List.length_cons, List.length_nil, List.length_append, Int.natCast_add, Int.natCast_one] <;> (repeat' split) <;> (try simp) <;> omega)), (by first | rfl | (simp only [teL] <;> (repeat' split) <;> first | rfl | (exfalso; omega) | (simp only [trL_app, trL, List.cons_append, List.nil_append, List.length_cons, List.length_nil, List.length_append] <;> first | rfl | (congr 1 <;> first | omega | (congr 1 <;> first | omega | (congr 1 <;> omega)))))), (by simp only [teV] <;> (repeat' split) <;> first | omega | (exfalso; omega) | (simp_all; done))⟩
  ·
    refine j_tabOut (tgt := 101) G d4_tells_1 (by omega) h1 (by decide) ?_
    refine j_aload_n G 3 rfl d4_tells_101 ?_
    refine j_bipush G d4_tells_102 rfl ?_
    refine j_VM G (rm' := { frames := 0, cells := 0, slots := 0, locals := 0 }) (wc := [(ta, o8 (some tb) Q), (tb, aInt E 20 bo)]) (wr := [(ra, o4 (some rr) R)]) (k8_add (xl Γ) E ta tb Q bo 12 (by first | assumption | omega | (simp only [upS, reduceIte, Nat.reduceEqDiff, eq_self, List.length_cons, List.length_nil, List.length_append] <;> omega))) mw8_add ml4_80 [1, 2] [0] rfl rfl ⟨rfl, rfl⟩ (by decide) 1 8 rfl rfl rfl ⟨Nat.le_of_ble_eq_true rfl, Nat.le_of_ble_eq_true rfl⟩ rfl (rest := []) rfl (Nat.le_of_ble_eq_true rfl) d4_tells_104 ⟨Nat.le_of_ble_eq_true rfl, Nat.le_of_ble_eq_true rfl⟩ (fun r w1 hr => ?_)
    obtain ⟨Q1_39, bo1_40, rfl, rfl, rfl, rfl, hq38⟩ := hr
    refine j_eq (ws' := [(ra, o4 (some rr) R), (ta, o8 (some tb) (upS Q 1 ((Q 1) + 1))), (tb, aInt E 20 (trB ((Q 1)) bo 12))]) rfl rfl rfl ?_
    refine j_aload_n G 0 rfl d4_tells_107 ?_
    refine j_aload_n G 0 rfl d4_tells_108 ?_
    refine j_get G 0 4 0 in4 fl4_9 d4_tells_109 rfl rfl (by decide) (v := .int (iZ (R 0))) rfl rfl ?_
    refine j_iload_n G 2 rfl d4_tells_112 ?_
    refine j_aload_n G 3 rfl d4_tells_113 ?_
    refine j_SM G (rm' := { frames := 4, cells := 0, slots := 0, locals := 90 }) (wc := [(ra, o4 (some rr) R), (ta, o8 (some tb) (upS Q 1 ((Q 1) + 1))), (tb, aInt E 20 (trB ((Q 1)) bo 12))]) (wr := []) (k4_holds (xl Γ) E ra rr R ta tb (upS Q 1 ((Q 1) + 1)) (trB ((Q 1)) bo 12) (R 0) x (by first | assumption | omega | (simp only [upS, reduceIte, Nat.reduceEqDiff, eq_self, List.length_cons, List.length_nil, List.length_append] <;> omega)) (by first | assumption | omega | (simp only [upS, reduceIte, Nat.reduceEqDiff, eq_self, List.length_cons, List.length_nil, List.length_append] <;> omega)) (by first | assumption | omega | (simp only [upS, reduceIte, Nat.reduceEqDiff, eq_self, List.length_cons, List.length_nil, List.length_append] <;> omega))) mw4_holds ml4_90 [0, 1, 2] [] rfl rfl ⟨rfl, rfl⟩ (by decide) ⟨Nat.le_of_ble_eq_true rfl, Nat.le_of_ble_eq_true rfl⟩ rfl (rest := []) rfl (Nat.le_of_ble_eq_true rfl) d4_tells_114 ⟨Nat.le_of_ble_eq_true rfl, Nat.le_of_ble_eq_true rfl⟩ (fun r w1 hr => ?_)
    obtain ⟨v42, Q1_43, bo1_44, rfl, rfl, rfl, rfl, hq41⟩ := hr
    refine j_eq (ws' := [(ra, o4 (some rr) R), (ta, o8 (some tb) (upS Q 1 (((Q 1) + 1) + ((hoL ((R 0)) (R 0)).length : Int)))), (tb, aInt E 20 (trL (hoL ((R 0)) (R 0)) (((Q 1) + 1)) (trB ((Q 1)) bo 12)))]) rfl rfl rfl ?_
    try simp only [upS, reduceIte, Nat.reduceEqDiff, eq_self] at hq41
    refine j_iconst G d4_tells_117 ?_
    refine j_imul G d4_tells_118 ?_
    exact j_iret G F d4_tells_119 ⟨v42 * 2, (upS Q 1 (((Q 1) + 1) + ((hoL ((R 0)) (R 0)).length : Int))), (trL (hoL ((R 0)) (R 0)) (((Q 1) + 1)) (trB ((Q 1)) bo 12)), rfl, rfl, (by first | rfl | (congr 1; simp only [teL, trL_app, List.length_cons, List.length_nil, List.length_append, Int.natCast_add, Int.natCast_one] <;> (repeat' split) <;> (try simp) <;> omega)), (by first | rfl | (simp only [teL] <;> (repeat' split) <;> first | rfl | (exfalso; omega) | (simp only [trL_app, trL, List.cons_append, List.nil_append, List.length_cons, List.length_nil, List.length_append] <;> first | rfl | (congr 1 <;> first | omega | (congr 1 <;> first | omega | (congr 1 <;> omega)))))), (by simp only [teV] <;> (repeat' split) <;> first | omega | (exfalso; omega) | (simp_all; done))⟩
theorem d4_hear_0 : decode c4_hear 0 = .ok (.aload_n 0, 1) := by decide +kernel
theorem d4_hear_1 : decode c4_hear 1 = .ok (.getfield 25, 3) := by decide +kernel
theorem d4_hear_4 : decode c4_hear 4 = .ok (.aload_n 0, 1) := by decide +kernel
theorem d4_hear_5 : decode c4_hear 5 = .ok (.getfield 21, 3) := by decide +kernel
theorem d4_hear_8 : decode c4_hear 8 = .ok (.arraylength, 1) := by decide +kernel
theorem d4_hear_9 : decode c4_hear 9 = .ok (.if_icmp .lt 5, 3) := by decide +kernel
theorem d4_hear_12 : decode c4_hear 12 = .ok (.iconst 0, 1) := by decide +kernel
theorem d4_hear_13 : decode c4_hear 13 = .ok (.ireturn, 1) := by decide +kernel
theorem d4_hear_14 : decode c4_hear 14 = .ok (.aload_n 0, 1) := by decide +kernel
theorem d4_hear_15 : decode c4_hear 15 = .ok (.getfield 21, 3) := by decide +kernel
theorem d4_hear_18 : decode c4_hear 18 = .ok (.aload_n 0, 1) := by decide +kernel
theorem d4_hear_19 : decode c4_hear 19 = .ok (.getfield 25, 3) := by decide +kernel
theorem d4_hear_22 : decode c4_hear 22 = .ok (.iload_n 1, 1) := by decide +kernel
theorem d4_hear_23 : decode c4_hear 23 = .ok (.iastore, 1) := by decide +kernel
theorem d4_hear_24 : decode c4_hear 24 = .ok (.aload_n 0, 1) := by decide +kernel
theorem d4_hear_25 : decode c4_hear 25 = .ok (.dup, 1) := by decide +kernel
theorem d4_hear_26 : decode c4_hear 26 = .ok (.getfield 25, 3) := by decide +kernel
theorem d4_hear_29 : decode c4_hear 29 = .ok (.iconst 1, 1) := by decide +kernel
theorem d4_hear_30 : decode c4_hear 30 = .ok (.iadd, 1) := by decide +kernel
theorem d4_hear_31 : decode c4_hear 31 = .ok (.putfield 25, 3) := by decide +kernel
theorem d4_hear_34 : decode c4_hear 34 = .ok (.iconst 1, 1) := by decide +kernel
theorem d4_hear_35 : decode c4_hear 35 = .ok (.ireturn, 1) := by decide +kernel
theorem mw4_hear : MV y4_hear c4_hear 2 (some .boolean) 1 := ⟨cd4_hear, ini4, na4_hear, im4_hear, se4_hear⟩
set_option maxHeartbeats 4000000 in
set_option maxRecDepth 100000 in
theorem k4_hear (l : Launch) (E : En) (ra : Nat) (rr : Nat) (R : Nat → Int) (len : Nat) (rw : Int → Int) (a : Int) (hh : 0 ≤ R 4 ∧ R 4 ≤ (len : Int)) (hl : (len : Int) ≤ 12) : Cm l E y4_hear c4_hear 2 (some .boolean) { frames := 0, cells := 0, slots := 0, locals := 0 } [.ref ra, .int (iZ a)] [(ra, o4 (some rr) R), (rr, aInt E len rw)] (fun r ws => ∃ (v : Int), ∃ (R1 : Nat → Int), ∃ (rw1 : Int → Int), r = some (.int (iZ v)) ∧ ws = [(ra, o4 (some rr) R1), (rr, aInt E len rw1)] ∧ (((R 4 < (len : Int) ∧ R1 = upS R 4 (R 4 + 1) ∧ rw1 = upI rw (R 4) a) ∧ v = 1) ∨ ((¬ R 4 < (len : Int) ∧ R1 = R ∧ rw1 = rw) ∧ v = 0))) := by
  refine Cm.of rfl (Nat.le_of_ble_eq_true rfl) (fun Γ A hl ha hin G F => ?_)
  subst hl
  refine j_aload_n G 0 rfl d4_hear_0 ?_
  refine j_get G 0 4 4 in4 fl4_25 d4_hear_1 rfl rfl (by decide) (v := .int (iZ (R 4))) rfl rfl ?_
  refine j_aload_n G 0 rfl d4_hear_4 ?_
  refine j_get G 0 4 3 in4 fl4_21 d4_hear_5 rfl rfl (by decide) (v := .ref rr) rfl rfl ?_
  refine j_alen G 1 rfl d4_hear_8 ?_
  refine j_icmp_lt (tgt := 14) G d4_hear_9 (by decide) (by omega) (by omega) (fun h1 => ?_) (fun h1 => ?_)
  ·
    refine j_aload_n G 0 rfl d4_hear_14 ?_
    refine j_get G 0 4 3 in4 fl4_21 d4_hear_15 rfl rfl (by decide) (v := .ref rr) rfl rfl ?_
    refine j_aload_n G 0 rfl d4_hear_18 ?_
    refine j_get G 0 4 4 in4 fl4_25 d4_hear_19 rfl rfl (by decide) (v := .int (iZ (R 4))) rfl rfl ?_
    refine j_iload_n G 1 rfl d4_hear_22 ?_
    refine j_iast G 1 rfl (by omega) d4_hear_23 ?_
    refine j_aload_n G 0 rfl d4_hear_24 ?_
    refine j_dup G d4_hear_25 rfl ?_
    refine j_get G 0 4 4 in4 fl4_25 d4_hear_26 rfl rfl (by decide) (v := .int (iZ (R 4))) rfl rfl ?_
    refine j_iconst G d4_hear_29 ?_
    refine j_iadd G d4_hear_30 ?_
    refine j_put G 0 4 4 in4 tyok4 nm4 fl4_25 d4_hear_31 rfl rfl (by decide) ⟨rfl, rfl⟩ rfl rfl (Nat.le_of_ble_eq_true rfl) (e := o4 (some rr) (upS R 4 ((R 4) + 1))) rfl ?_
    refine j_iconst G d4_hear_34 ?_
    exact j_zret G F d4_hear_35 (by decide) ⟨1, (upS R 4 ((R 4) + 1)), (upI rw (R 4) a), rfl, rfl, (by first | (left; exact ⟨⟨by omega, rfl, rfl⟩, rfl⟩) | (right; exact ⟨⟨by omega, rfl, rfl⟩, rfl⟩))⟩
  ·
    refine j_iconst G d4_hear_12 ?_
    exact j_zret G F d4_hear_13 (by decide) ⟨0, R, rw, rfl, rfl, (by first | (left; exact ⟨⟨by omega, rfl, rfl⟩, rfl⟩) | (right; exact ⟨⟨by omega, rfl, rfl⟩, rfl⟩))⟩
theorem d4_isUnder_0 : decode c4_isUnder 0 = .ok (.iload_n 1, 1) := by decide +kernel
theorem d4_isUnder_1 : decode c4_isUnder 1 = .ok (.aload_n 0, 1) := by decide +kernel
theorem d4_isUnder_2 : decode c4_isUnder 2 = .ok (.getfield 9, 3) := by decide +kernel
theorem d4_isUnder_5 : decode c4_isUnder 5 = .ok (.if_icmp .eq 20, 3) := by decide +kernel
theorem d4_isUnder_8 : decode c4_isUnder 8 = .ok (.iload_n 1, 1) := by decide +kernel
theorem d4_isUnder_9 : decode c4_isUnder 9 = .ok (.ifCond .eq 16, 3) := by decide +kernel
theorem d4_isUnder_12 : decode c4_isUnder 12 = .ok (.iload_n 1, 1) := by decide +kernel
theorem d4_isUnder_13 : decode c4_isUnder 13 = .ok (.iconst 4, 1) := by decide +kernel
theorem d4_isUnder_14 : decode c4_isUnder 14 = .ok (.if_icmp .ne 15, 3) := by decide +kernel
theorem d4_isUnder_17 : decode c4_isUnder 17 = .ok (.aload_n 0, 1) := by decide +kernel
theorem d4_isUnder_18 : decode c4_isUnder 18 = .ok (.getfield 9, 3) := by decide +kernel
theorem d4_isUnder_21 : decode c4_isUnder 21 = .ok (.iconst 5, 1) := by decide +kernel
theorem d4_isUnder_22 : decode c4_isUnder 22 = .ok (.if_icmp .ne 7, 3) := by decide +kernel
theorem d4_isUnder_25 : decode c4_isUnder 25 = .ok (.iconst 1, 1) := by decide +kernel
theorem d4_isUnder_26 : decode c4_isUnder 26 = .ok (.goto 4, 3) := by decide +kernel
theorem d4_isUnder_29 : decode c4_isUnder 29 = .ok (.iconst 0, 1) := by decide +kernel
theorem d4_isUnder_30 : decode c4_isUnder 30 = .ok (.ireturn, 1) := by decide +kernel
theorem mw4_isUnder : MV y4_isUnder c4_isUnder 2 (some .boolean) 1 := ⟨cd4_isUnder, ini4, na4_isUnder, im4_isUnder, se4_isUnder⟩
set_option maxHeartbeats 4000000 in
set_option maxRecDepth 100000 in
theorem k4_isUnder (l : Launch) (E : En) (ra : Nat) (rr : Nat) (R : Nat → Int) (a : Int) (r_a : R32 a) (hk : 0 ≤ R 0 ∧ R 0 ≤ 6) : Cp l E y4_isUnder c4_isUnder 2 (some .boolean) 0 0 [.ref ra, .int (iZ a)] [(ra, o4 (some rr) R)] (fun r => ∃ (v : Int), r = some (.int (iZ v)) ∧ (((a = 0 ∨ R 0 = a ∨ (a = 4 ∧ R 0 = 5)) ∧ v = 1) ∨ (¬ (a = 0 ∨ R 0 = a ∨ (a = 4 ∧ R 0 = 5)) ∧ v = 0))) := by
  refine Cp.of rfl (Nat.le_of_ble_eq_true rfl) (fun Γ hl ha G F => ?_)
  subst hl
  refine j_iload_n G 1 rfl d4_isUnder_0 ?_
  refine j_aload_n G 0 rfl d4_isUnder_1 ?_
  refine j_get G 0 4 0 in4 fl4_9 d4_isUnder_2 rfl rfl (by decide) (v := .int (iZ (R 0))) rfl rfl ?_
  refine j_icmp_eq (tgt := 25) G d4_isUnder_5 (by decide) (by omega) (by omega) (fun h1 => ?_) (fun h1 => ?_)
  ·
    refine j_iconst G d4_isUnder_25 ?_
    refine j_goto (tgt := 30) G d4_isUnder_26 (by decide) ?_
    exact j_zret G F d4_isUnder_30 (by decide) ⟨1, rfl, (by first | (left; exact ⟨by omega, rfl⟩) | (right; exact ⟨by omega, rfl⟩))⟩
  ·
    refine j_iload_n G 1 rfl d4_isUnder_8 ?_
    refine j_if_eq (tgt := 25) G d4_isUnder_9 (by decide) (by omega) (fun h2 => ?_) (fun h2 => ?_)
    ·
      refine j_iconst G d4_isUnder_25 ?_
      refine j_goto (tgt := 30) G d4_isUnder_26 (by decide) ?_
      exact j_zret G F d4_isUnder_30 (by decide) ⟨1, rfl, (by first | (left; exact ⟨by omega, rfl⟩) | (right; exact ⟨by omega, rfl⟩))⟩
    ·
      refine j_iload_n G 1 rfl d4_isUnder_12 ?_
      refine j_iconst G d4_isUnder_13 ?_
      refine j_icmp_ne (tgt := 29) G d4_isUnder_14 (by decide) (by omega) (by decide) (fun h3 => ?_) (fun h3 => ?_)
      ·
        refine j_iconst G d4_isUnder_29 ?_
        exact j_zret G F d4_isUnder_30 (by decide) ⟨0, rfl, (by first | (left; exact ⟨by omega, rfl⟩) | (right; exact ⟨by omega, rfl⟩))⟩
      ·
        refine j_aload_n G 0 rfl d4_isUnder_17 ?_
        refine j_get G 0 4 0 in4 fl4_9 d4_isUnder_18 rfl rfl (by decide) (v := .int (iZ (R 0))) rfl rfl ?_
        refine j_iconst G d4_isUnder_21 ?_
        refine j_icmp_ne (tgt := 29) G d4_isUnder_22 (by decide) (by omega) (by decide) (fun h4 => ?_) (fun h4 => ?_)
        ·
          refine j_iconst G d4_isUnder_29 ?_
          exact j_zret G F d4_isUnder_30 (by decide) ⟨0, rfl, (by first | (left; exact ⟨by omega, rfl⟩) | (right; exact ⟨by omega, rfl⟩))⟩
        ·
          refine j_iconst G d4_isUnder_25 ?_
          refine j_goto (tgt := 30) G d4_isUnder_26 (by decide) ?_
          exact j_zret G F d4_isUnder_30 (by decide) ⟨1, rfl, (by first | (left; exact ⟨by omega, rfl⟩) | (right; exact ⟨by omega, rfl⟩))⟩
theorem d4_leastLeft_0 : decode c4_leastLeft 0 = .ok (.aload_n 0, 1) := by decide +kernel
theorem d4_leastLeft_1 : decode c4_leastLeft 1 = .ok (.getfield 9, 3) := by decide +kernel
theorem d4_leastLeft_4 : decode c4_leastLeft 4 = .ok (.iconst 5, 1) := by decide +kernel
theorem d4_leastLeft_5 : decode c4_leastLeft 5 = .ok (.if_icmp .ne 10, 3) := by decide +kernel
theorem d4_leastLeft_8 : decode c4_leastLeft 8 = .ok (.aload_n 0, 1) := by decide +kernel
theorem d4_leastLeft_9 : decode c4_leastLeft 9 = .ok (.getfield 15, 3) := by decide +kernel
theorem d4_leastLeft_12 : decode c4_leastLeft 12 = .ok (.goto 4, 3) := by decide +kernel
theorem d4_leastLeft_15 : decode c4_leastLeft 15 = .ok (.iconst 0, 1) := by decide +kernel
theorem d4_leastLeft_16 : decode c4_leastLeft 16 = .ok (.ireturn, 1) := by decide +kernel
theorem mw4_leastLeft : MV y4_leastLeft c4_leastLeft 1 (some .int) 0 := ⟨cd4_leastLeft, ini4, na4_leastLeft, im4_leastLeft, se4_leastLeft⟩
set_option maxHeartbeats 4000000 in
set_option maxRecDepth 100000 in
theorem k4_leastLeft (l : Launch) (E : En) (ra : Nat) (rr : Nat) (R : Nat → Int) (hk : 0 ≤ R 0 ∧ R 0 ≤ 6) : Cp l E y4_leastLeft c4_leastLeft 1 (some .int) 0 0 [.ref ra] [(ra, o4 (some rr) R)] (fun r => ∃ (v : Int), r = some (.int (iZ v)) ∧ (v = (if R 0 = 5 then R 1 else 0))) := by
  refine Cp.of rfl (Nat.le_of_ble_eq_true rfl) (fun Γ hl ha G F => ?_)
  subst hl
  refine j_aload_n G 0 rfl d4_leastLeft_0 ?_
  refine j_get G 0 4 0 in4 fl4_9 d4_leastLeft_1 rfl rfl (by decide) (v := .int (iZ (R 0))) rfl rfl ?_
  refine j_iconst G d4_leastLeft_4 ?_
  refine j_icmp_ne (tgt := 15) G d4_leastLeft_5 (by decide) (by omega) (by decide) (fun h1 => ?_) (fun h1 => ?_)
  ·
    refine j_iconst G d4_leastLeft_15 ?_
    exact j_iret G F d4_leastLeft_16 ⟨0, rfl, (by (try simp only []) <;> (repeat' split) <;> first | rfl | omega | (exfalso; omega))⟩
  ·
    refine j_aload_n G 0 rfl d4_leastLeft_8 ?_
    refine j_get G 0 4 1 in4 fl4_15 d4_leastLeft_9 rfl rfl (by decide) (v := .int (iZ (R 1))) rfl rfl ?_
    refine j_goto (tgt := 16) G d4_leastLeft_12 (by decide) ?_
    exact j_iret G F d4_leastLeft_16 ⟨R 1, rfl, (by (try simp only []) <;> (repeat' split) <;> first | rfl | omega | (exfalso; omega))⟩
theorem d5_momentOf_0 : decode c5_momentOf 0 = .ok (.aload_n 0, 1) := by decide +kernel
theorem d5_momentOf_1 : decode c5_momentOf 1 = .ok (.getfield 34, 3) := by decide +kernel
theorem d5_momentOf_4 : decode c5_momentOf 4 = .ok (.ifCond .eq 10, 3) := by decide +kernel
theorem d5_momentOf_7 : decode c5_momentOf 7 = .ok (.bipush 12, 2) := by decide +kernel
theorem d5_momentOf_9 : decode c5_momentOf 9 = .ok (.iload_n 1, 1) := by decide +kernel
theorem d5_momentOf_10 : decode c5_momentOf 10 = .ok (.iadd, 1) := by decide +kernel
theorem d5_momentOf_11 : decode c5_momentOf 11 = .ok (.goto 4, 3) := by decide +kernel
theorem d5_momentOf_14 : decode c5_momentOf 14 = .ok (.iload_n 1, 1) := by decide +kernel
theorem d5_momentOf_15 : decode c5_momentOf 15 = .ok (.ireturn, 1) := by decide +kernel
theorem mw5_momentOf : MV y5_momentOf c5_momentOf 2 (some .int) 1 := ⟨cd5_momentOf, ini5, na5_momentOf, im5_momentOf, se5_momentOf⟩
set_option maxHeartbeats 4000000 in
set_option maxRecDepth 100000 in
theorem k5_momentOf (l : Launch) (E : En) (sa : Nat) (sc : Nat) (ss : Nat) (sz : Nat) (sp : Nat) (U : Nat → Int) (a : Int) (hw : U 1 = 0 ∨ U 1 = 1) : Cp l E y5_momentOf c5_momentOf 2 (some .int) 0 0 [.ref sa, .int (iZ a)] [(sa, o5 (some sc) (some ss) (some sz) (some sp) U)] (fun r => ∃ (v : Int), r = some (.int (iZ v)) ∧ (v = 12 * U 1 + a)) := by
  refine Cp.of rfl (Nat.le_of_ble_eq_true rfl) (fun Γ hl ha G F => ?_)
  subst hl
  refine j_aload_n G 0 rfl d5_momentOf_0 ?_
  refine j_get G 0 5 1 in5 fl5_34 d5_momentOf_1 rfl rfl (by decide) (v := .int (iZ (U 1))) rfl rfl ?_
  refine j_if_eq (tgt := 14) G d5_momentOf_4 (by decide) (by omega) (fun h1 => ?_) (fun h1 => ?_)
  ·
    refine j_iload_n G 1 rfl d5_momentOf_14 ?_
    exact j_iret G F d5_momentOf_15 ⟨a, rfl, (by omega)⟩
  ·
    refine j_bipush G d5_momentOf_7 rfl ?_
    refine j_iload_n G 1 rfl d5_momentOf_9 ?_
    refine j_iadd G d5_momentOf_10 ?_
    refine j_goto (tgt := 15) G d5_momentOf_11 (by decide) ?_
    exact j_iret G F d5_momentOf_15 ⟨12 + a, rfl, (by omega)⟩
theorem d5_becomeLike_0 : decode c5_becomeLike 0 = .ok (.aload_n 1, 1) := by decide +kernel
theorem d5_becomeLike_1 : decode c5_becomeLike 1 = .ok (.getfield 9, 3) := by decide +kernel
theorem d5_becomeLike_4 : decode c5_becomeLike 4 = .ok (.iconst 0, 1) := by decide +kernel
theorem d5_becomeLike_5 : decode c5_becomeLike 5 = .ok (.aload_n 0, 1) := by decide +kernel
theorem d5_becomeLike_6 : decode c5_becomeLike 6 = .ok (.getfield 9, 3) := by decide +kernel
theorem d5_becomeLike_9 : decode c5_becomeLike 9 = .ok (.iconst 0, 1) := by decide +kernel
theorem d5_becomeLike_10 : decode c5_becomeLike 10 = .ok (.aload_n 0, 1) := by decide +kernel
theorem d5_becomeLike_11 : decode c5_becomeLike 11 = .ok (.getfield 9, 3) := by decide +kernel
theorem d5_becomeLike_14 : decode c5_becomeLike 14 = .ok (.arraylength, 1) := by decide +kernel
theorem d5_becomeLike_15 : decode c5_becomeLike 15 = .ok (.invokestatic 28, 3) := by decide +kernel
theorem d5_becomeLike_18 : decode c5_becomeLike 18 = .ok (.aload_n 0, 1) := by decide +kernel
theorem d5_becomeLike_19 : decode c5_becomeLike 19 = .ok (.aload_n 1, 1) := by decide +kernel
theorem d5_becomeLike_20 : decode c5_becomeLike 20 = .ok (.getfield 34, 3) := by decide +kernel
theorem d5_becomeLike_23 : decode c5_becomeLike 23 = .ok (.putfield 34, 3) := by decide +kernel
theorem d5_becomeLike_26 : decode c5_becomeLike 26 = .ok (.aload_n 0, 1) := by decide +kernel
theorem d5_becomeLike_27 : decode c5_becomeLike 27 = .ok (.aload_n 1, 1) := by decide +kernel
theorem d5_becomeLike_28 : decode c5_becomeLike 28 = .ok (.getfield 38, 3) := by decide +kernel
theorem d5_becomeLike_31 : decode c5_becomeLike 31 = .ok (.putfield 38, 3) := by decide +kernel
theorem d5_becomeLike_34 : decode c5_becomeLike 34 = .ok (.aload_n 0, 1) := by decide +kernel
theorem d5_becomeLike_35 : decode c5_becomeLike 35 = .ok (.aload_n 1, 1) := by decide +kernel
theorem d5_becomeLike_36 : decode c5_becomeLike 36 = .ok (.getfield 15, 3) := by decide +kernel
theorem d5_becomeLike_39 : decode c5_becomeLike 39 = .ok (.putfield 15, 3) := by decide +kernel
theorem d5_becomeLike_42 : decode c5_becomeLike 42 = .ok (.aload_n 1, 1) := by decide +kernel
theorem d5_becomeLike_43 : decode c5_becomeLike 43 = .ok (.getfield 19, 3) := by decide +kernel
theorem d5_becomeLike_46 : decode c5_becomeLike 46 = .ok (.iconst 0, 1) := by decide +kernel
theorem d5_becomeLike_47 : decode c5_becomeLike 47 = .ok (.aload_n 0, 1) := by decide +kernel
theorem d5_becomeLike_48 : decode c5_becomeLike 48 = .ok (.getfield 19, 3) := by decide +kernel
theorem d5_becomeLike_51 : decode c5_becomeLike 51 = .ok (.iconst 0, 1) := by decide +kernel
theorem d5_becomeLike_52 : decode c5_becomeLike 52 = .ok (.iconst 4, 1) := by decide +kernel
theorem d5_becomeLike_53 : decode c5_becomeLike 53 = .ok (.invokestatic 28, 3) := by decide +kernel
theorem d5_becomeLike_56 : decode c5_becomeLike 56 = .ok (.aload_n 1, 1) := by decide +kernel
theorem d5_becomeLike_57 : decode c5_becomeLike 57 = .ok (.getfield 22, 3) := by decide +kernel
theorem d5_becomeLike_60 : decode c5_becomeLike 60 = .ok (.iconst 0, 1) := by decide +kernel
theorem d5_becomeLike_61 : decode c5_becomeLike 61 = .ok (.aload_n 0, 1) := by decide +kernel
theorem d5_becomeLike_62 : decode c5_becomeLike 62 = .ok (.getfield 22, 3) := by decide +kernel
theorem d5_becomeLike_65 : decode c5_becomeLike 65 = .ok (.iconst 0, 1) := by decide +kernel
theorem d5_becomeLike_66 : decode c5_becomeLike 66 = .ok (.iconst 4, 1) := by decide +kernel
theorem d5_becomeLike_67 : decode c5_becomeLike 67 = .ok (.invokestatic 28, 3) := by decide +kernel
theorem d5_becomeLike_70 : decode c5_becomeLike 70 = .ok (.aload_n 1, 1) := by decide +kernel
theorem d5_becomeLike_71 : decode c5_becomeLike 71 = .ok (.getfield 25, 3) := by decide +kernel
theorem d5_becomeLike_74 : decode c5_becomeLike 74 = .ok (.iconst 0, 1) := by decide +kernel
theorem d5_becomeLike_75 : decode c5_becomeLike 75 = .ok (.aload_n 0, 1) := by decide +kernel
theorem d5_becomeLike_76 : decode c5_becomeLike 76 = .ok (.getfield 25, 3) := by decide +kernel
theorem d5_becomeLike_79 : decode c5_becomeLike 79 = .ok (.iconst 0, 1) := by decide +kernel
theorem d5_becomeLike_80 : decode c5_becomeLike 80 = .ok (.iconst 4, 1) := by decide +kernel
theorem d5_becomeLike_81 : decode c5_becomeLike 81 = .ok (.invokestatic 28, 3) := by decide +kernel
theorem d5_becomeLike_84 : decode c5_becomeLike 84 = .ok (.aload_n 0, 1) := by decide +kernel
theorem d5_becomeLike_85 : decode c5_becomeLike 85 = .ok (.aload_n 1, 1) := by decide +kernel
theorem d5_becomeLike_86 : decode c5_becomeLike 86 = .ok (.getfield 41, 3) := by decide +kernel
theorem d5_becomeLike_89 : decode c5_becomeLike 89 = .ok (.putfield 41, 3) := by decide +kernel
theorem d5_becomeLike_92 : decode c5_becomeLike 92 = .ok (.return_, 1) := by decide +kernel
theorem mw5_becomeLike : MV y5_becomeLike c5_becomeLike 2 none 1 := ⟨cd5_becomeLike, ini5, na5_becomeLike, im5_becomeLike, se5_becomeLike⟩
set_option maxHeartbeats 4000000 in
set_option maxRecDepth 100000 in
theorem k5_becomeLike (l : Launch) (E : En) (sa : Nat) (sc : Nat) (ss : Nat) (sz : Nat) (sp : Nat) (U : Nat → Int) (oa : Nat) (oc : Nat) (os : Nat) (oz : Nat) (op : Nat) (V : Nat → Int) (g : Int → Int) (so : Int → Int) (si : Int → Int) (pr : Int → Int) (g2 : Int → Int) (so2 : Int → Int) (si2 : Int → Int) (pr2 : Int → Int) (hw : V 1 = 0 ∨ V 1 = 1) : Cm l E y5_becomeLike c5_becomeLike 2 none { frames := 1, cells := 0, slots := 0, locals := 60 } [.ref sa, .ref oa] [(sa, o5 (some sc) (some ss) (some sz) (some sp) U), (sc, aInt E 24 g), (ss, aInt E 4 so), (sz, aInt E 4 si), (sp, aInt E 4 pr), (oa, o5 (some oc) (some os) (some oz) (some op) V), (oc, aInt E 24 g2), (os, aInt E 4 so2), (oz, aInt E 4 si2), (op, aInt E 4 pr2)] (fun r ws => r = none ∧ ws = [(sa, o5 (some sc) (some ss) (some sz) (some sp) (upS (upS (upS (upS U 1 (V 1)) 2 (V 2)) 3 (V 3)) 7 (V 7))), (sc, aInt E 24 g2), (ss, aInt E 4 so2), (sz, aInt E 4 si2), (sp, aInt E 4 pr2), (oa, o5 (some oc) (some os) (some oz) (some op) V), (oc, aInt E 24 g2), (os, aInt E 4 so2), (oz, aInt E 4 si2), (op, aInt E 4 pr2)] ∧ True) := by
  refine Cm.of rfl (Nat.le_of_ble_eq_true rfl) (fun Γ A hl ha hin G F => ?_)
  subst hl
  refine j_aload_n G 1 rfl d5_becomeLike_0 ?_
  refine j_get G 5 5 0 in5 fl5_9 d5_becomeLike_1 rfl rfl (by decide) (v := .ref oc) rfl rfl ?_
  refine j_iconst G d5_becomeLike_4 ?_
  refine j_aload_n G 0 rfl d5_becomeLike_5 ?_
  refine j_get G 0 5 0 in5 fl5_9 d5_becomeLike_6 rfl rfl (by decide) (v := .ref sc) rfl rfl ?_
  refine j_iconst G d5_becomeLike_9 ?_
  refine j_aload_n G 0 rfl d5_becomeLike_10 ?_
  refine j_get G 0 5 0 in5 fl5_9 d5_becomeLike_11 rfl rfl (by decide) (v := .ref sc) rfl rfl ?_
  refine j_alen G 1 rfl d5_becomeLike_14 ?_
  refine j_copyI G 6 1 rfl rfl (by omega) g2 (fun j h1 h2 => by rw [if_pos (by omega)]; congr 1; omega) ml5_28 ⟨Nat.le_of_ble_eq_true rfl, Nat.le_of_ble_eq_true rfl⟩ d5_becomeLike_15 ?_
  refine j_aload_n G 0 rfl d5_becomeLike_18 ?_
  refine j_aload_n G 1 rfl d5_becomeLike_19 ?_
  refine j_get G 5 5 1 in5 fl5_34 d5_becomeLike_20 rfl rfl (by decide) (v := .int (iZ (V 1))) rfl rfl ?_
  refine j_put G 0 5 1 in5 tyok5 nm5 fl5_34 d5_becomeLike_23 rfl rfl (by decide) ⟨rfl, rfl⟩ (by rcases hw with h | h <;> rw [h] <;> rfl) (by rcases hw with h | h <;> rw [h] <;> rfl) (Nat.le_of_ble_eq_true rfl) (e := o5 (some sc) (some ss) (some sz) (some sp) (upS U 1 (V 1))) rfl ?_
  refine j_aload_n G 0 rfl d5_becomeLike_26 ?_
  refine j_aload_n G 1 rfl d5_becomeLike_27 ?_
  refine j_get G 5 5 2 in5 fl5_38 d5_becomeLike_28 rfl rfl (by decide) (v := .int (iZ (V 2))) rfl rfl ?_
  refine j_put G 0 5 2 in5 tyok5 nm5 fl5_38 d5_becomeLike_31 rfl rfl (by decide) ⟨rfl, rfl⟩ rfl rfl (Nat.le_of_ble_eq_true rfl) (e := o5 (some sc) (some ss) (some sz) (some sp) (upS (upS U 1 (V 1)) 2 (V 2))) rfl ?_
  refine j_aload_n G 0 rfl d5_becomeLike_34 ?_
  refine j_aload_n G 1 rfl d5_becomeLike_35 ?_
  refine j_get G 5 5 3 in5 fl5_15 d5_becomeLike_36 rfl rfl (by decide) (v := .int (iZ (V 3))) rfl rfl ?_
  refine j_put G 0 5 3 in5 tyok5 nm5 fl5_15 d5_becomeLike_39 rfl rfl (by decide) ⟨rfl, rfl⟩ rfl rfl (Nat.le_of_ble_eq_true rfl) (e := o5 (some sc) (some ss) (some sz) (some sp) (upS (upS (upS U 1 (V 1)) 2 (V 2)) 3 (V 3))) rfl ?_
  refine j_aload_n G 1 rfl d5_becomeLike_42 ?_
  refine j_get G 5 5 4 in5 fl5_19 d5_becomeLike_43 rfl rfl (by decide) (v := .ref os) rfl rfl ?_
  refine j_iconst G d5_becomeLike_46 ?_
  refine j_aload_n G 0 rfl d5_becomeLike_47 ?_
  refine j_get G 0 5 4 in5 fl5_19 d5_becomeLike_48 rfl rfl (by decide) (v := .ref ss) rfl rfl ?_
  refine j_iconst G d5_becomeLike_51 ?_
  refine j_iconst G d5_becomeLike_52 ?_
  refine j_copyI G 7 2 rfl rfl (by omega) so2 (fun j h1 h2 => by rw [if_pos (by omega)]; congr 1; omega) ml5_28 ⟨Nat.le_of_ble_eq_true rfl, Nat.le_of_ble_eq_true rfl⟩ d5_becomeLike_53 ?_
  refine j_aload_n G 1 rfl d5_becomeLike_56 ?_
  refine j_get G 5 5 5 in5 fl5_22 d5_becomeLike_57 rfl rfl (by decide) (v := .ref oz) rfl rfl ?_
  refine j_iconst G d5_becomeLike_60 ?_
  refine j_aload_n G 0 rfl d5_becomeLike_61 ?_
  refine j_get G 0 5 5 in5 fl5_22 d5_becomeLike_62 rfl rfl (by decide) (v := .ref sz) rfl rfl ?_
  refine j_iconst G d5_becomeLike_65 ?_
  refine j_iconst G d5_becomeLike_66 ?_
  refine j_copyI G 8 3 rfl rfl (by omega) si2 (fun j h1 h2 => by rw [if_pos (by omega)]; congr 1; omega) ml5_28 ⟨Nat.le_of_ble_eq_true rfl, Nat.le_of_ble_eq_true rfl⟩ d5_becomeLike_67 ?_
  refine j_aload_n G 1 rfl d5_becomeLike_70 ?_
  refine j_get G 5 5 6 in5 fl5_25 d5_becomeLike_71 rfl rfl (by decide) (v := .ref op) rfl rfl ?_
  refine j_iconst G d5_becomeLike_74 ?_
  refine j_aload_n G 0 rfl d5_becomeLike_75 ?_
  refine j_get G 0 5 6 in5 fl5_25 d5_becomeLike_76 rfl rfl (by decide) (v := .ref sp) rfl rfl ?_
  refine j_iconst G d5_becomeLike_79 ?_
  refine j_iconst G d5_becomeLike_80 ?_
  refine j_copyI G 9 4 rfl rfl (by omega) pr2 (fun j h1 h2 => by rw [if_pos (by omega)]; congr 1; omega) ml5_28 ⟨Nat.le_of_ble_eq_true rfl, Nat.le_of_ble_eq_true rfl⟩ d5_becomeLike_81 ?_
  refine j_aload_n G 0 rfl d5_becomeLike_84 ?_
  refine j_aload_n G 1 rfl d5_becomeLike_85 ?_
  refine j_get G 5 5 7 in5 fl5_41 d5_becomeLike_86 rfl rfl (by decide) (v := .int (iZ (V 7))) rfl rfl ?_
  refine j_put G 0 5 7 in5 tyok5 nm5 fl5_41 d5_becomeLike_89 rfl rfl (by decide) ⟨rfl, rfl⟩ rfl rfl (Nat.le_of_ble_eq_true rfl) (e := o5 (some sc) (some ss) (some sz) (some sp) (upS (upS (upS (upS U 1 (V 1)) 2 (V 2)) 3 (V 3)) 7 (V 7))) rfl ?_
  exact j_vret G F d5_becomeLike_92 ⟨rfl, rfl, trivial⟩
theorem d6_isEmpty_0 : decode c6_isEmpty 0 = .ok (.aload_n 0, 1) := by decide +kernel
theorem d6_isEmpty_1 : decode c6_isEmpty 1 = .ok (.getfield 11, 3) := by decide +kernel
theorem d6_isEmpty_4 : decode c6_isEmpty 4 = .ok (.iconst (-1), 1) := by decide +kernel
theorem d6_isEmpty_5 : decode c6_isEmpty 5 = .ok (.if_icmp .ne 7, 3) := by decide +kernel
theorem d6_isEmpty_8 : decode c6_isEmpty 8 = .ok (.iconst 1, 1) := by decide +kernel
theorem d6_isEmpty_9 : decode c6_isEmpty 9 = .ok (.goto 4, 3) := by decide +kernel
theorem d6_isEmpty_12 : decode c6_isEmpty 12 = .ok (.iconst 0, 1) := by decide +kernel
theorem d6_isEmpty_13 : decode c6_isEmpty 13 = .ok (.ireturn, 1) := by decide +kernel
theorem mw6_isEmpty : MV y6_isEmpty c6_isEmpty 1 (some .boolean) 0 := ⟨cd6_isEmpty, ini6, na6_isEmpty, im6_isEmpty, se6_isEmpty⟩
set_option maxHeartbeats 4000000 in
set_option maxRecDepth 100000 in
theorem k6_isEmpty (l : Launch) (E : En) (pa : Nat) (pi : Nat) (P : Nat → Int) (hs : -1 ≤ P 0 ∧ P 0 ≤ 4) : Cp l E y6_isEmpty c6_isEmpty 1 (some .boolean) 0 0 [.ref pa] [(pa, o6 (some pi) P)] (fun r => ∃ (v : Int), r = some (.int (iZ v)) ∧ (((P 0 < 0) ∧ v = 1) ∨ (¬ (P 0 < 0) ∧ v = 0))) := by
  refine Cp.of rfl (Nat.le_of_ble_eq_true rfl) (fun Γ hl ha G F => ?_)
  subst hl
  refine j_aload_n G 0 rfl d6_isEmpty_0 ?_
  refine j_get G 0 6 0 in6 fl6_11 d6_isEmpty_1 rfl rfl (by decide) (v := .int (iZ (P 0))) rfl rfl ?_
  refine j_iconst G d6_isEmpty_4 ?_
  refine j_icmp_ne (tgt := 12) G d6_isEmpty_5 (by decide) (by omega) (by decide) (fun h1 => ?_) (fun h1 => ?_)
  ·
    refine j_iconst G d6_isEmpty_12 ?_
    exact j_zret G F d6_isEmpty_13 (by decide) ⟨0, rfl, (by first | (left; exact ⟨by omega, rfl⟩) | (right; exact ⟨by omega, rfl⟩))⟩
  ·
    refine j_iconst G d6_isEmpty_8 ?_
    refine j_goto (tgt := 13) G d6_isEmpty_9 (by decide) ?_
    exact j_zret G F d6_isEmpty_13 (by decide) ⟨1, rfl, (by first | (left; exact ⟨by omega, rfl⟩) | (right; exact ⟨by omega, rfl⟩))⟩
theorem d6_hold_0 : decode c6_hold 0 = .ok (.aload_n 0, 1) := by decide +kernel
theorem d6_hold_1 : decode c6_hold 1 = .ok (.iload_n 1, 1) := by decide +kernel
theorem d6_hold_2 : decode c6_hold 2 = .ok (.putfield 11, 3) := by decide +kernel
theorem d6_hold_5 : decode c6_hold 5 = .ok (.aload_n 0, 1) := by decide +kernel
theorem d6_hold_6 : decode c6_hold 6 = .ok (.iload_n 2, 1) := by decide +kernel
theorem d6_hold_7 : decode c6_hold 7 = .ok (.bipush 60, 2) := by decide +kernel
theorem d6_hold_9 : decode c6_hold 9 = .ok (.invokestatic 19, 3) := by decide +kernel
theorem d6_hold_12 : decode c6_hold 12 = .ok (.putfield 25, 3) := by decide +kernel
theorem d6_hold_15 : decode c6_hold 15 = .ok (.iconst 0, 1) := by decide +kernel
theorem d6_hold_16 : decode c6_hold 16 = .ok (.istore_n 3, 1) := by decide +kernel
theorem d6_hold_17 : decode c6_hold 17 = .ok (.iload_n 3, 1) := by decide +kernel
theorem d6_hold_18 : decode c6_hold 18 = .ok (.bipush 60, 2) := by decide +kernel
theorem d6_hold_20 : decode c6_hold 20 = .ok (.if_icmp .ge 16, 3) := by decide +kernel
theorem d6_hold_23 : decode c6_hold 23 = .ok (.aload_n 0, 1) := by decide +kernel
theorem d6_hold_24 : decode c6_hold 24 = .ok (.getfield 15, 3) := by decide +kernel
theorem d6_hold_27 : decode c6_hold 27 = .ok (.iload_n 3, 1) := by decide +kernel
theorem d6_hold_28 : decode c6_hold 28 = .ok (.lconst 0, 1) := by decide +kernel
theorem d6_hold_29 : decode c6_hold 29 = .ok (.lastore, 1) := by decide +kernel
theorem d6_hold_30 : decode c6_hold 30 = .ok (.iinc 3 1, 3) := by decide +kernel
theorem d6_hold_33 : decode c6_hold 33 = .ok (.goto (-16), 3) := by decide +kernel
theorem d6_hold_36 : decode c6_hold 36 = .ok (.return_, 1) := by decide +kernel
theorem mw6_hold : MV y6_hold c6_hold 4 none 2 := ⟨cd6_hold, ini6, na6_hold, im6_hold, se6_hold⟩
set_option maxHeartbeats 4000000 in
set_option maxRecDepth 100000 in
theorem k6_hold (l : Launch) (E : En) (pa : Nat) (pi : Nat) (P : Nat → Int) (it : Int → Int) (a : Int) (b : Int) (r_a : R32 a) (r_b : R32 b) : Cm l E y6_hold c6_hold 4 none { frames := 1, cells := 0, slots := 0, locals := 14 } [.ref pa, .int (iZ a), .int (iZ b)] [(pa, o6 (some pi) P), (pi, aLng E 60 it)] (fun r ws => r = none ∧ ws = [(pa, o6 (some pi) (upS (upS P 0 a) 1 (min b 60))), (pi, aLng E 60 (fun _ => 0))] ∧ True) := by
  refine Cm.of rfl (Nat.le_of_ble_eq_true rfl) (fun Γ A hl ha hin G F => ?_)
  subst hl
  refine j_aload_n G 0 rfl d6_hold_0 ?_
  refine j_iload_n G 1 rfl d6_hold_1 ?_
  refine j_put G 0 6 0 in6 tyok6 nm6 fl6_11 d6_hold_2 rfl rfl (by decide) ⟨rfl, rfl⟩ rfl rfl (Nat.le_of_ble_eq_true rfl) (e := o6 (some pi) (upS P 0 a)) rfl ?_
  refine j_aload_n G 0 rfl d6_hold_5 ?_
  refine j_iload_n G 2 rfl d6_hold_6 ?_
  refine j_bipush G d6_hold_7 rfl ?_
  refine j_mmin G ml6_19 (by omega) (by decide) ⟨Nat.le_of_ble_eq_true rfl, Nat.le_of_ble_eq_true rfl⟩ ⟨Nat.le_of_ble_eq_true rfl, Nat.le_of_ble_eq_true rfl⟩ d6_hold_9 ?_
  refine j_put G 0 6 1 in6 tyok6 nm6 fl6_25 d6_hold_12 rfl rfl (by decide) ⟨rfl, rfl⟩ rfl rfl (Nat.le_of_ble_eq_true rfl) (e := o6 (some pi) (upS (upS P 0 a) 1 (min b 60))) rfl ?_
  refine j_iconst G d6_hold_15 ?_
  refine j_istore_n G d6_hold_16 (by decide) rfl ?_
  have lp17 : ∀ (fu : Nat) (kk : Int) (g : Int → Int), (60 - kk).toNat < fu → (0 ≤ kk ∧ kk ≤ 60) → (∀ j, 0 ≤ j → j < kk → g j = 0) →  J E 4 Γ (some A) 0 0 [(pa, o6 (some pi) (upS (upS P 0 a) 1 (min b 60))), (pi, aLng E 60 g)] 17 [(3, .int (iZ kk)), (0, .ref pa), (1, .int (iZ a)), (2, .int (iZ b))] [] := by
    intro fu
    induction fu with
    | zero =>
      intro kk g hm
      exact absurd hm (Nat.not_lt_zero _)
    | succ fu ih17 =>
      intro kk g hm hk hg
      refine j_iload_n G 0 rfl d6_hold_17 ?_
      refine j_bipush G d6_hold_18 rfl ?_
      refine j_icmp_ge (tgt := 36) G d6_hold_20 (by decide) (by omega) (by decide) (fun h1 => ?_) (fun h1 => ?_)
      ·
        refine j_ext 1 (e := aLng E 60 g) (e' := aLng E 60 (fun _ => 0)) rfl (fun H => aLng_ext (fun j h1 h2 => hg j h1 (by omega))) ?_
        exact j_vret G F d6_hold_36 ⟨rfl, rfl, trivial⟩
      ·
        refine j_aload_n G 1 rfl d6_hold_23 ?_
        refine j_get G 0 6 2 in6 fl6_15 d6_hold_24 rfl rfl (by decide) (v := .ref pi) rfl rfl ?_
        refine j_iload_n G 0 rfl d6_hold_27 ?_
        refine j_lconst G 0 d6_hold_28 rfl ?_
        refine j_last G 1 rfl (by omega) d6_hold_29 ?_
        refine j_iinc G d6_hold_30 0 rfl (by decide) rfl ?_
        refine j_goto (tgt := 17) G d6_hold_33 (by decide) ?_
        exact ih17 (kk + 1) (upI g kk 0) (by omega) (by first | assumption | omega) (fun j h1 h2 => if hj : j = kk then (by unfold upI; rw [if_pos hj]) else (by unfold upI; rw [if_neg hj]; exact hg j h1 (by omega)))
  exact lp17 _ 0 it (Nat.lt_succ_self _) (by first | assumption | omega) (fun j h1 h2 => by omega)
theorem d6_reaches_0 : decode c6_reaches 0 = .ok (.lload_n 1, 1) := by decide +kernel
theorem d6_reaches_1 : decode c6_reaches 1 = .ok (.lconst 0, 1) := by decide +kernel
theorem d6_reaches_2 : decode c6_reaches 2 = .ok (.lcmp, 1) := by decide +kernel
theorem d6_reaches_3 : decode c6_reaches 3 = .ok (.ifCond .lt 17, 3) := by decide +kernel
theorem d6_reaches_6 : decode c6_reaches 6 = .ok (.lload_n 1, 1) := by decide +kernel
theorem d6_reaches_7 : decode c6_reaches 7 = .ok (.aload_n 0, 1) := by decide +kernel
theorem d6_reaches_8 : decode c6_reaches 8 = .ok (.getfield 25, 3) := by decide +kernel
theorem d6_reaches_11 : decode c6_reaches 11 = .ok (.i2l, 1) := by decide +kernel
theorem d6_reaches_12 : decode c6_reaches 12 = .ok (.lcmp, 1) := by decide +kernel
theorem d6_reaches_13 : decode c6_reaches 13 = .ok (.ifCond .ge 7, 3) := by decide +kernel
theorem d6_reaches_16 : decode c6_reaches 16 = .ok (.iconst 1, 1) := by decide +kernel
theorem d6_reaches_17 : decode c6_reaches 17 = .ok (.goto 4, 3) := by decide +kernel
theorem d6_reaches_20 : decode c6_reaches 20 = .ok (.iconst 0, 1) := by decide +kernel
theorem d6_reaches_21 : decode c6_reaches 21 = .ok (.ireturn, 1) := by decide +kernel
theorem mw6_reaches : MV y6_reaches c6_reaches 3 (some .boolean) 1 := ⟨cd6_reaches, ini6, na6_reaches, im6_reaches, se6_reaches⟩
set_option maxHeartbeats 4000000 in
set_option maxRecDepth 100000 in
theorem k6_reaches (l : Launch) (E : En) (pa : Nat) (pi : Nat) (P : Nat → Int) (a : Int) (ra : R64 a) (hs : 0 ≤ P 1 ∧ P 1 ≤ 60) : Cp l E y6_reaches c6_reaches 3 (some .boolean) 0 0 [.ref pa, .long (lZ a)] [(pa, o6 (some pi) P)] (fun r => ∃ (v : Int), r = some (.int (iZ v)) ∧ (((0 ≤ a ∧ a < P 1) ∧ v = 1) ∨ (¬ (0 ≤ a ∧ a < P 1) ∧ v = 0))) := by
  refine Cp.of rfl (Nat.le_of_ble_eq_true rfl) (fun Γ hl ha G F => ?_)
  subst hl
  refine j_lload_n G 1 rfl d6_reaches_0 ?_
  refine j_lconst G 0 d6_reaches_1 rfl ?_
  refine j_lcmp G d6_reaches_2 (by omega) (by omega) ?_
  refine j_if_lt (tgt := 20) G d6_reaches_3 (by decide) (by split <;> first | decide | (split <;> decide)) (fun h1 => ?_) (fun h1 => ?_)
  ·
    have h1 : a < 0 := by
      revert h1; split <;> (try split) <;> intro h1 <;> omega
    refine j_iconst G d6_reaches_20 ?_
    exact j_zret G F d6_reaches_21 (by decide) ⟨0, rfl, (by first | (left; exact ⟨by omega, rfl⟩) | (right; exact ⟨by omega, rfl⟩))⟩
  ·
    have h1 : ¬ (a < 0) := by
      revert h1; split <;> (try split) <;> intro h1 <;> omega
    refine j_lload_n G 1 rfl d6_reaches_6 ?_
    refine j_aload_n G 0 rfl d6_reaches_7 ?_
    refine j_get G 0 6 1 in6 fl6_25 d6_reaches_8 rfl rfl (by decide) (v := .int (iZ (P 1))) rfl rfl ?_
    refine j_i2l G d6_reaches_11 (by omega) ?_
    refine j_lcmp G d6_reaches_12 (by omega) (by omega) ?_
    refine j_if_ge (tgt := 20) G d6_reaches_13 (by decide) (by split <;> first | decide | (split <;> decide)) (fun h2 => ?_) (fun h2 => ?_)
    ·
      have h2 : (P 1) ≤ a := by
        revert h2; split <;> (try split) <;> intro h2 <;> omega
      refine j_iconst G d6_reaches_20 ?_
      exact j_zret G F d6_reaches_21 (by decide) ⟨0, rfl, (by first | (left; exact ⟨by omega, rfl⟩) | (right; exact ⟨by omega, rfl⟩))⟩
    ·
      have h2 : ¬ ((P 1) ≤ a) := by
        revert h2; split <;> (try split) <;> intro h2 <;> omega
      refine j_iconst G d6_reaches_16 ?_
      refine j_goto (tgt := 21) G d6_reaches_17 (by decide) ?_
      exact j_zret G F d6_reaches_21 (by decide) ⟨1, rfl, (by first | (left; exact ⟨by omega, rfl⟩) | (right; exact ⟨by omega, rfl⟩))⟩
theorem d6_hasStretch_0 : decode c6_hasStretch 0 = .ok (.iload_n 1, 1) := by decide +kernel
theorem d6_hasStretch_1 : decode c6_hasStretch 1 = .ok (.ifCond .lt 25, 3) := by decide +kernel
theorem d6_hasStretch_4 : decode c6_hasStretch 4 = .ok (.iload_n 2, 1) := by decide +kernel
theorem d6_hasStretch_5 : decode c6_hasStretch 5 = .ok (.ifCond .lt 21, 3) := by decide +kernel
theorem d6_hasStretch_8 : decode c6_hasStretch 8 = .ok (.iload_n 1, 1) := by decide +kernel
theorem d6_hasStretch_9 : decode c6_hasStretch 9 = .ok (.i2l, 1) := by decide +kernel
theorem d6_hasStretch_10 : decode c6_hasStretch 10 = .ok (.iload_n 2, 1) := by decide +kernel
theorem d6_hasStretch_11 : decode c6_hasStretch 11 = .ok (.i2l, 1) := by decide +kernel
theorem d6_hasStretch_12 : decode c6_hasStretch 12 = .ok (.ladd, 1) := by decide +kernel
theorem d6_hasStretch_13 : decode c6_hasStretch 13 = .ok (.aload_n 0, 1) := by decide +kernel
theorem d6_hasStretch_14 : decode c6_hasStretch 14 = .ok (.getfield 25, 3) := by decide +kernel
theorem d6_hasStretch_17 : decode c6_hasStretch 17 = .ok (.i2l, 1) := by decide +kernel
theorem d6_hasStretch_18 : decode c6_hasStretch 18 = .ok (.lcmp, 1) := by decide +kernel
theorem d6_hasStretch_19 : decode c6_hasStretch 19 = .ok (.ifCond .gt 7, 3) := by decide +kernel
theorem d6_hasStretch_22 : decode c6_hasStretch 22 = .ok (.iconst 1, 1) := by decide +kernel
theorem d6_hasStretch_23 : decode c6_hasStretch 23 = .ok (.goto 4, 3) := by decide +kernel
theorem d6_hasStretch_26 : decode c6_hasStretch 26 = .ok (.iconst 0, 1) := by decide +kernel
theorem d6_hasStretch_27 : decode c6_hasStretch 27 = .ok (.ireturn, 1) := by decide +kernel
theorem mw6_hasStretch : MV y6_hasStretch c6_hasStretch 3 (some .boolean) 2 := ⟨cd6_hasStretch, ini6, na6_hasStretch, im6_hasStretch, se6_hasStretch⟩
set_option maxHeartbeats 4000000 in
set_option maxRecDepth 100000 in
theorem k6_hasStretch (l : Launch) (E : En) (pa : Nat) (pi : Nat) (P : Nat → Int) (a : Int) (b : Int) (r_a : R32 a) (r_b : R32 b) (hs : 0 ≤ P 1 ∧ P 1 ≤ 60) : Cp l E y6_hasStretch c6_hasStretch 3 (some .boolean) 0 0 [.ref pa, .int (iZ a), .int (iZ b)] [(pa, o6 (some pi) P)] (fun r => ∃ (v : Int), r = some (.int (iZ v)) ∧ (((0 ≤ a ∧ 0 ≤ b ∧ a + b ≤ P 1) ∧ v = 1) ∨ (¬ (0 ≤ a ∧ 0 ≤ b ∧ a + b ≤ P 1) ∧ v = 0))) := by
  refine Cp.of rfl (Nat.le_of_ble_eq_true rfl) (fun Γ hl ha G F => ?_)
  subst hl
  refine j_iload_n G 1 rfl d6_hasStretch_0 ?_
  refine j_if_lt (tgt := 26) G d6_hasStretch_1 (by decide) (by omega) (fun h1 => ?_) (fun h1 => ?_)
  ·
    refine j_iconst G d6_hasStretch_26 ?_
    exact j_zret G F d6_hasStretch_27 (by decide) ⟨0, rfl, (by first | (left; exact ⟨by omega, rfl⟩) | (right; exact ⟨by omega, rfl⟩))⟩
  ·
    refine j_iload_n G 2 rfl d6_hasStretch_4 ?_
    refine j_if_lt (tgt := 26) G d6_hasStretch_5 (by decide) (by omega) (fun h2 => ?_) (fun h2 => ?_)
    ·
      refine j_iconst G d6_hasStretch_26 ?_
      exact j_zret G F d6_hasStretch_27 (by decide) ⟨0, rfl, (by first | (left; exact ⟨by omega, rfl⟩) | (right; exact ⟨by omega, rfl⟩))⟩
    ·
      refine j_iload_n G 1 rfl d6_hasStretch_8 ?_
      refine j_i2l G d6_hasStretch_9 (by omega) ?_
      refine j_iload_n G 2 rfl d6_hasStretch_10 ?_
      refine j_i2l G d6_hasStretch_11 (by omega) ?_
      refine j_ladd G d6_hasStretch_12 ?_
      refine j_aload_n G 0 rfl d6_hasStretch_13 ?_
      refine j_get G 0 6 1 in6 fl6_25 d6_hasStretch_14 rfl rfl (by decide) (v := .int (iZ (P 1))) rfl rfl ?_
      refine j_i2l G d6_hasStretch_17 (by omega) ?_
      refine j_lcmp G d6_hasStretch_18 (by omega) (by omega) ?_
      refine j_if_gt (tgt := 26) G d6_hasStretch_19 (by decide) (by split <;> first | decide | (split <;> decide)) (fun h3 => ?_) (fun h3 => ?_)
      ·
        have h3 : (P 1) < (a + b) := by
          revert h3; split <;> (try split) <;> intro h3 <;> omega
        refine j_iconst G d6_hasStretch_26 ?_
        exact j_zret G F d6_hasStretch_27 (by decide) ⟨0, rfl, (by first | (left; exact ⟨by omega, rfl⟩) | (right; exact ⟨by omega, rfl⟩))⟩
      ·
        have h3 : ¬ ((P 1) < (a + b)) := by
          revert h3; split <;> (try split) <;> intro h3 <;> omega
        refine j_iconst G d6_hasStretch_22 ?_
        refine j_goto (tgt := 27) G d6_hasStretch_23 (by decide) ?_
        exact j_zret G F d6_hasStretch_27 (by decide) ⟨1, rfl, (by first | (left; exact ⟨by omega, rfl⟩) | (right; exact ⟨by omega, rfl⟩))⟩
theorem d6_lowestOf_0 : decode c6_lowestOf 0 = .ok (.aload_n 0, 1) := by decide +kernel
theorem d6_lowestOf_1 : decode c6_lowestOf 1 = .ok (.getfield 11, 3) := by decide +kernel
theorem d6_lowestOf_4 : decode c6_lowestOf 4 = .ok (.tableswitch 48 0 3 #[32, 37, 42, 46], 32) := by decide +kernel
theorem d6_lowestOf_36 : decode c6_lowestOf 36 = .ok (.lload_n 1, 1) := by decide +kernel
theorem d6_lowestOf_37 : decode c6_lowestOf 37 = .ok (.l2i, 1) := by decide +kernel
theorem d6_lowestOf_38 : decode c6_lowestOf 38 = .ok (.i2b, 1) := by decide +kernel
theorem d6_lowestOf_39 : decode c6_lowestOf 39 = .ok (.i2l, 1) := by decide +kernel
theorem d6_lowestOf_40 : decode c6_lowestOf 40 = .ok (.lreturn, 1) := by decide +kernel
theorem d6_lowestOf_41 : decode c6_lowestOf 41 = .ok (.lload_n 1, 1) := by decide +kernel
theorem d6_lowestOf_42 : decode c6_lowestOf 42 = .ok (.l2i, 1) := by decide +kernel
theorem d6_lowestOf_43 : decode c6_lowestOf 43 = .ok (.i2s, 1) := by decide +kernel
theorem d6_lowestOf_44 : decode c6_lowestOf 44 = .ok (.i2l, 1) := by decide +kernel
theorem d6_lowestOf_45 : decode c6_lowestOf 45 = .ok (.lreturn, 1) := by decide +kernel
theorem d6_lowestOf_46 : decode c6_lowestOf 46 = .ok (.lload_n 1, 1) := by decide +kernel
theorem d6_lowestOf_47 : decode c6_lowestOf 47 = .ok (.l2i, 1) := by decide +kernel
theorem d6_lowestOf_48 : decode c6_lowestOf 48 = .ok (.i2l, 1) := by decide +kernel
theorem d6_lowestOf_49 : decode c6_lowestOf 49 = .ok (.lreturn, 1) := by decide +kernel
theorem d6_lowestOf_50 : decode c6_lowestOf 50 = .ok (.lload_n 1, 1) := by decide +kernel
theorem d6_lowestOf_51 : decode c6_lowestOf 51 = .ok (.lreturn, 1) := by decide +kernel
theorem d6_lowestOf_52 : decode c6_lowestOf 52 = .ok (.lload_n 1, 1) := by decide +kernel
theorem d6_lowestOf_53 : decode c6_lowestOf 53 = .ok (.lconst 0, 1) := by decide +kernel
theorem d6_lowestOf_54 : decode c6_lowestOf 54 = .ok (.lcmp, 1) := by decide +kernel
theorem d6_lowestOf_55 : decode c6_lowestOf 55 = .ok (.ifCond .eq 7, 3) := by decide +kernel
theorem d6_lowestOf_58 : decode c6_lowestOf 58 = .ok (.lconst 1, 1) := by decide +kernel
theorem d6_lowestOf_59 : decode c6_lowestOf 59 = .ok (.goto 4, 3) := by decide +kernel
theorem d6_lowestOf_62 : decode c6_lowestOf 62 = .ok (.lconst 0, 1) := by decide +kernel
theorem d6_lowestOf_63 : decode c6_lowestOf 63 = .ok (.lreturn, 1) := by decide +kernel
theorem mw6_lowestOf : MV y6_lowestOf c6_lowestOf 3 (some .long) 1 := ⟨cd6_lowestOf, ini6, na6_lowestOf, im6_lowestOf, se6_lowestOf⟩
set_option maxHeartbeats 4000000 in
set_option maxRecDepth 100000 in
theorem k6_lowestOf (l : Launch) (E : En) (pa : Nat) (pi : Nat) (P : Nat → Int) (a : Int) (ra : R64 a) (hs : 0 ≤ P 0 ∧ P 0 ≤ 4) : Cp l E y6_lowestOf c6_lowestOf 3 (some .long) 0 0 [.ref pa, .long (lZ a)] [(pa, o6 (some pi) P)] (fun r => ∃ (v : Int), r = some (.long (lZ v)) ∧ (v = nar (P 0) a)) := by
  refine Cp.of rfl (Nat.le_of_ble_eq_true rfl) (fun Γ hl ha G F => ?_)
  subst hl
  refine j_aload_n G 0 rfl d6_lowestOf_0 ?_
  refine j_get G 0 6 0 in6 fl6_11 d6_lowestOf_1 rfl rfl (by decide) (v := .int (iZ (P 0))) rfl rfl ?_
  rcases (show P 0 = 0 ∨ P 0 = 1 ∨ P 0 = 2 ∨ P 0 = 3 ∨ (P 0 < 0 ∨ 3 < P 0) by omega) with h1 | h1 | h1 | h1 | h1
  ·
    refine j_tabIn (tgt := 36) G d6_lowestOf_4 (by omega) 0 h1 ⟨by decide, by decide⟩ rfl (by decide) ?_
    refine j_lload_n G 1 rfl d6_lowestOf_36 ?_
    refine j_l2i G d6_lowestOf_37 ?_
    refine r_i2b G d6_lowestOf_38 ?_
    refine j_top (y := iZ (((iZ a).toInt8.toInt32).toInt)) (iZ_of _).symm ?_
    refine j_i2l G d6_lowestOf_39 (iZ_r _) ?_
    exact j_lret G F d6_lowestOf_40 ⟨((iZ a).toInt8.toInt32).toInt, rfl, (by (try simp only [nar]) <;> (repeat' split) <;> first | rfl | omega | (exfalso; omega))⟩
  ·
    refine j_tabIn (tgt := 41) G d6_lowestOf_4 (by omega) 1 h1 ⟨by decide, by decide⟩ rfl (by decide) ?_
    refine j_lload_n G 1 rfl d6_lowestOf_41 ?_
    refine j_l2i G d6_lowestOf_42 ?_
    refine r_i2s G d6_lowestOf_43 ?_
    refine j_top (y := iZ (((iZ a).toInt16.toInt32).toInt)) (iZ_of _).symm ?_
    refine j_i2l G d6_lowestOf_44 (iZ_r _) ?_
    exact j_lret G F d6_lowestOf_45 ⟨((iZ a).toInt16.toInt32).toInt, rfl, (by (try simp only [nar]) <;> (repeat' split) <;> first | rfl | omega | (exfalso; omega))⟩
  ·
    refine j_tabIn (tgt := 46) G d6_lowestOf_4 (by omega) 2 h1 ⟨by decide, by decide⟩ rfl (by decide) ?_
    refine j_lload_n G 1 rfl d6_lowestOf_46 ?_
    refine j_l2i G d6_lowestOf_47 ?_
    refine j_top (y := iZ ((iZ a).toInt)) (iZ_of _).symm ?_
    refine j_i2l G d6_lowestOf_48 (iZ_r _) ?_
    exact j_lret G F d6_lowestOf_49 ⟨(iZ a).toInt, rfl, (by (try simp only [nar]) <;> (repeat' split) <;> first | rfl | omega | (exfalso; omega))⟩
  ·
    refine j_tabIn (tgt := 50) G d6_lowestOf_4 (by omega) 3 h1 ⟨by decide, by decide⟩ rfl (by decide) ?_
    refine j_lload_n G 1 rfl d6_lowestOf_50 ?_
    exact j_lret G F d6_lowestOf_51 ⟨a, rfl, (by (try simp only [nar]) <;> (repeat' split) <;> first | rfl | omega | (exfalso; omega))⟩
  ·
    refine j_tabOut (tgt := 52) G d6_lowestOf_4 (by omega) h1 (by decide) ?_
    refine j_lload_n G 1 rfl d6_lowestOf_52 ?_
    refine j_lconst G 0 d6_lowestOf_53 rfl ?_
    refine j_lcmp G d6_lowestOf_54 (by omega) (by omega) ?_
    refine j_if_eq (tgt := 62) G d6_lowestOf_55 (by decide) (by split <;> first | decide | (split <;> decide)) (fun h2 => ?_) (fun h2 => ?_)
    ·
      have h2 : a = 0 := by
        revert h2; split <;> (try split) <;> intro h2 <;> omega
      refine j_lconst G 0 d6_lowestOf_62 rfl ?_
      exact j_lret G F d6_lowestOf_63 ⟨0, rfl, (by (try simp only [nar]) <;> (repeat' split) <;> first | rfl | omega | (exfalso; omega))⟩
    ·
      have h2 : ¬ (a = 0) := by
        revert h2; split <;> (try split) <;> intro h2 <;> omega
      refine j_lconst G 1 d6_lowestOf_58 rfl ?_
      refine j_goto (tgt := 63) G d6_lowestOf_59 (by decide) ?_
      exact j_lret G F d6_lowestOf_63 ⟨1, rfl, (by (try simp only [nar]) <;> (repeat' split) <;> first | rfl | omega | (exfalso; omega))⟩
