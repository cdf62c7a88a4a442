/-! acts: the bodies that ran, and the number -/
def trB (ran : Int) (bo : Int → Int) (b : Int) : Int → Int := if ran < 20 then upI bo ran b else bo
def trL : List Int → Int → (Int → Int) → (Int → Int)
  | [], _, bo => bo
  | b :: t, ran, bo => trL t (ran + 1) (trB ran bo b)
theorem trL_app (a b : List Int) (ran : Int) (bo : Int → Int) : trL (a ++ b) ran bo = trL b (ran + a.length) (trL a ran bo) := by
  induction a generalizing ran bo with
  | nil => simp [trL]
  | cons x t ih =>
    simp only [List.cons_append, trL, ih, List.length_cons]
    congr 1
    omega
def goL (k : Int) : List Int := if k = 2 then [30, 10] else if k = 4 ∨ k = 5 then [50, 10] else [10]
def goV (k nb x : Int) : Int := if k = 2 then x * 3 + nb else if k = 4 ∨ k = 5 then -(x + nb) else x + nb
def hoL (k f : Int) : List Int := if f = 1 then 20 :: 11 :: goL k else if f = 5 then (60 :: 11 :: goL k) ++ [50, 10] else 11 :: goL k
def hoV (k f nb vv x : Int) : Int := if f = 1 then (iZ (goV k nb x - vv) ^^^ iZ 6).toInt else if f = 5 then goV k nb x - vv + -(2 + nb) else goV k nb x - vv
def teL (k f : Int) : List Int := if f = 3 then (40 :: 12 :: hoL k k) ++ hoL k k else if f = 4 ∨ f = 5 then 51 :: 12 :: hoL k k else if f = 6 then (70 :: hoL k k) ++ (12 :: hoL k k) else 12 :: hoL k k
def teV (k f nb vv x : Int) : Int := if f = 3 then hoV k k nb vv x * 2 + hoV k k nb vv 1 else if f = 4 ∨ f = 5 then hoV k k nb vv (x - nb) * 2 else if f = 6 then hoV k k nb vv x - hoV k k nb vv x * 2 else hoV k k nb vv x * 2
def acL (k a : Int) : List Int := if a = 0 then goL k else if a = 1 then hoL k k else teL k k
def acV (k nb vv a x : Int) : Int := if a = 0 then goV k nb x else if a = 1 then hoV k k nb vv x else teV k k nb vv x
theorem goL_len (k : Int) : (goL k).length ≤ 2 := by unfold goL; (repeat' split) <;> simp
theorem hoL_len (k f : Int) : (hoL k f).length ≤ 6 := by have := goL_len k; unfold hoL; (repeat' split) <;> simp <;> omega
theorem teL_len (k f : Int) : (teL k f).length ≤ 14 := by have := hoL_len k k; unfold teL; (repeat' split) <;> simp <;> omega
theorem d10_body_0 : decode c10_body 0 = .ok (.aload_n 0, 1) := by decide +kernel
theorem d10_body_1 : decode c10_body 1 = .ok (.getfield 200, 3) := by decide +kernel
theorem d10_body_4 : decode c10_body 4 = .ok (.bipush 20, 2) := by decide +kernel
theorem d10_body_6 : decode c10_body 6 = .ok (.if_icmp .ge 13, 3) := by decide +kernel
theorem d10_body_9 : decode c10_body 9 = .ok (.aload_n 0, 1) := by decide +kernel
theorem d10_body_10 : decode c10_body 10 = .ok (.getfield 203, 3) := by decide +kernel
theorem d10_body_13 : decode c10_body 13 = .ok (.aload_n 0, 1) := by decide +kernel
theorem d10_body_14 : decode c10_body 14 = .ok (.getfield 200, 3) := by decide +kernel
theorem d10_body_17 : decode c10_body 17 = .ok (.iload_n 1, 1) := by decide +kernel
theorem d10_body_18 : decode c10_body 18 = .ok (.iastore, 1) := by decide +kernel
theorem d10_body_19 : decode c10_body 19 = .ok (.aload_n 0, 1) := by decide +kernel
theorem d10_body_20 : decode c10_body 20 = .ok (.dup, 1) := by decide +kernel
theorem d10_body_21 : decode c10_body 21 = .ok (.getfield 200, 3) := by decide +kernel
theorem d10_body_24 : decode c10_body 24 = .ok (.iconst 1, 1) := by decide +kernel
theorem d10_body_25 : decode c10_body 25 = .ok (.iadd, 1) := by decide +kernel
theorem d10_body_26 : decode c10_body 26 = .ok (.putfield 200, 3) := by decide +kernel
theorem d10_body_29 : decode c10_body 29 = .ok (.return_, 1) := by decide +kernel
theorem mw10_body : MV y10_body c10_body 2 none 1 := ⟨cd10_body, ini10, na10_body, im10_body, se10_body⟩
set_option maxHeartbeats 4000000 in
set_option maxRecDepth 100000 in
theorem k10_body (l : Launch) (E : En) (mo : Nat) (ad : Nat → Nat) (S : Nat → Int) (bo : Int → Int) (a : Int) (hra : 0 ≤ S 62 ∧ S 62 ≤ 1000) : Cm l E y10_body c10_body 2 none { frames := 0, cells := 0, slots := 0, locals := 0 } [.ref mo, .int (iZ a)] [(mo, mO ad S), (ad 63, aInt E 20 bo)] (fun r ws => ∃ (S1 : Nat → Int), ∃ (bo1 : Int → Int), r = none ∧ ws = [(mo, mO ad S1), (ad 63, aInt E 20 bo1)] ∧ S1 = upS S 62 (S 62 + 1) ∧ bo1 = trB (S 62) bo a ∧ True) := by
  refine Cm.of rfl (Nat.le_of_ble_eq_true rfl) (fun Γ A hl ha hin G F => ?_)
  subst hl
  refine j_aload_n G 0 rfl d10_body_0 ?_
  refine j_get G 0 10 62 in10 fl10_200 d10_body_1 rfl rfl (by decide) (v := .int (iZ (S 62))) rfl rfl ?_
  refine j_bipush G d10_body_4 rfl ?_
  refine j_icmp_ge (tgt := 19) G d10_body_6 (by decide) (by omega) (by decide) (fun h1 => ?_) (fun h1 => ?_)
  ·
    refine j_aload_n G 0 rfl d10_body_19 ?_
    refine j_dup G d10_body_20 rfl ?_
    refine j_get G 0 10 62 in10 fl10_200 d10_body_21 rfl rfl (by decide) (v := .int (iZ (S 62))) rfl rfl ?_
    refine j_iconst G d10_body_24 ?_
    refine j_iadd G d10_body_25 ?_
    refine j_put G 0 10 62 in10 tyok10 nm10 fl10_200 d10_body_26 rfl rfl (by decide) ⟨rfl, rfl⟩ rfl rfl (Nat.le_of_ble_eq_true rfl) (e := mO ad (upS S 62 ((S 62) + 1))) rfl ?_
    exact j_vret G F d10_body_29 ⟨(upS S 62 ((S 62) + 1)), bo, rfl, rfl, (by first | rfl | (congr 1; omega)), (by first | (unfold trB; rw [if_pos (by omega)]; done) | (unfold trB; rw [if_neg (by omega)]; done)), trivial⟩
  ·
    refine j_aload_n G 0 rfl d10_body_9 ?_
    refine j_get G 0 10 63 in10 fl10_203 d10_body_10 rfl rfl (by decide) (v := .ref (ad 63)) rfl rfl ?_
    refine j_aload_n G 0 rfl d10_body_13 ?_
    refine j_get G 0 10 62 in10 fl10_200 d10_body_14 rfl rfl (by decide) (v := .int (iZ (S 62))) rfl rfl ?_
    refine j_iload_n G 1 rfl d10_body_17 ?_
    refine j_iast G 1 rfl (by omega) d10_body_18 ?_
    refine j_aload_n G 0 rfl d10_body_19 ?_
    refine j_dup G d10_body_20 rfl ?_
    refine j_get G 0 10 62 in10 fl10_200 d10_body_21 rfl rfl (by decide) (v := .int (iZ (S 62))) rfl rfl ?_
    refine j_iconst G d10_body_24 ?_
    refine j_iadd G d10_body_25 ?_
    refine j_put G 0 10 62 in10 tyok10 nm10 fl10_200 d10_body_26 rfl rfl (by decide) ⟨rfl, rfl⟩ rfl rfl (Nat.le_of_ble_eq_true rfl) (e := mO ad (upS S 62 ((S 62) + 1))) rfl ?_
    exact j_vret G F d10_body_29 ⟨(upS S 62 ((S 62) + 1)), (upI bo (S 62) a), rfl, rfl, (by first | rfl | (congr 1; omega)), (by first | (unfold trB; rw [if_pos (by omega)]; done) | (unfold trB; rw [if_neg (by omega)]; done)), trivial⟩
theorem d10_plainGoes_0 : decode c10_plainGoes 0 = .ok (.aload_n 0, 1) := by decide +kernel
theorem d10_plainGoes_1 : decode c10_plainGoes 1 = .ok (.bipush 10, 2) := by decide +kernel
theorem d10_plainGoes_3 : decode c10_plainGoes 3 = .ok (.invokevirtual 358, 3) := by decide +kernel
theorem d10_plainGoes_6 : decode c10_plainGoes 6 = .ok (.iload_n 2, 1) := by decide +kernel
theorem d10_plainGoes_7 : decode c10_plainGoes 7 = .ok (.iload_n 1, 1) := by decide +kernel
theorem d10_plainGoes_8 : decode c10_plainGoes 8 = .ok (.iadd, 1) := by decide +kernel
theorem d10_plainGoes_9 : decode c10_plainGoes 9 = .ok (.ireturn, 1) := by decide +kernel
theorem mw10_plainGoes : MV y10_plainGoes c10_plainGoes 3 (some .int) 2 := ⟨cd10_plainGoes, ini10, na10_plainGoes, im10_plainGoes, se10_plainGoes⟩
set_option maxHeartbeats 4000000 in
set_option maxRecDepth 100000 in
theorem k10_plainGoes (l : Launch) (E : En) (mo : Nat) (ad : Nat → Nat) (S : Nat → Int) (bo : Int → Int) (a : Int) (x : Int) (hra : 0 ≤ S 62 ∧ S 62 ≤ 990) : Cm l E y10_plainGoes c10_plainGoes 3 (some .int) { frames := 1, cells := 0, slots := 0, locals := 21 } [.ref mo, .int (iZ a), .int (iZ x)] [(mo, mO ad S), (ad 63, aInt E 20 bo)] (fun r ws => ∃ (v : Int), ∃ (S1 : Nat → Int), ∃ (bo1 : Int → Int), r = some (.int (iZ v)) ∧ ws = [(mo, mO ad S1), (ad 63, aInt E 20 bo1)] ∧ S1 = upS S 62 (S 62 + (([10]).length : Int)) ∧ bo1 = trL ([10]) (S 62) bo ∧ (v = x + a)) := by
  refine Cm.of rfl (Nat.le_of_ble_eq_true rfl) (fun Γ A hl ha hin G F => ?_)
  subst hl
  refine j_aload_n G 0 rfl d10_plainGoes_0 ?_
  refine j_bipush G d10_plainGoes_1 rfl ?_
  refine j_VM G (rm' := { frames := 0, cells := 0, slots := 0, locals := 0 }) (wc := [(mo, mO ad S), (ad 63, aInt E 20 bo)]) (wr := []) (k10_body (xl Γ) E mo ad S bo 10 (by first | assumption | omega | (simp only [upS, reduceIte, Nat.reduceEqDiff, eq_self, List.length_cons, List.length_nil, List.length_append] <;> omega))) mw10_body ml10_358 [0, 1] [] rfl rfl ⟨rfl, rfl⟩ (by decide) 0 10 rfl rfl rfl ⟨Nat.le_of_ble_eq_true rfl, Nat.le_of_ble_eq_true rfl⟩ rfl (rest := []) rfl (Nat.le_of_ble_eq_true rfl) d10_plainGoes_3 ⟨Nat.le_of_ble_eq_true rfl, Nat.le_of_ble_eq_true rfl⟩ (fun r w1 hr => ?_)
  obtain ⟨S1_2, bo1_3, rfl, rfl, rfl, rfl, hq1⟩ := hr
  refine j_eq (ws' := [(mo, mO ad (upS S 62 ((S 62) + 1))), (ad 63, aInt E 20 (trB ((S 62)) bo 10))]) rfl rfl rfl ?_
  refine j_iload_n G 2 rfl d10_plainGoes_6 ?_
  refine j_iload_n G 1 rfl d10_plainGoes_7 ?_
  refine j_iadd G d10_plainGoes_8 ?_
  exact j_iret G F d10_plainGoes_9 ⟨x + a, (upS S 62 ((S 62) + 1)), (trB ((S 62)) bo 10), rfl, rfl, (by first | rfl | (congr 1; simp only [trL, trL_app, List.length_cons, List.length_nil, List.length_append, Int.natCast_add, Int.natCast_one] <;> (repeat' split) <;> (try simp) <;> omega)), (by first | rfl | (simp only [trL] <;> (repeat' split) <;> first | rfl | (exfalso; omega) | (simp only [trL_app, trL, List.cons_append, List.nil_append, List.length_cons, List.length_nil, List.length_append] <;> first | rfl | (congr 1 <;> first | omega | (congr 1 <;> first | omega | (congr 1 <;> omega)))))), (by rfl)⟩
theorem d10_bestGoes_0 : decode c10_bestGoes 0 = .ok (.aload_n 0, 1) := by decide +kernel
theorem d10_bestGoes_1 : decode c10_bestGoes 1 = .ok (.bipush 50, 2) := by decide +kernel
theorem d10_bestGoes_3 : decode c10_bestGoes 3 = .ok (.invokevirtual 358, 3) := by decide +kernel
theorem d10_bestGoes_6 : decode c10_bestGoes 6 = .ok (.aload_n 0, 1) := by decide +kernel
theorem d10_bestGoes_7 : decode c10_bestGoes 7 = .ok (.iload_n 1, 1) := by decide +kernel
theorem d10_bestGoes_8 : decode c10_bestGoes 8 = .ok (.iload_n 2, 1) := by decide +kernel
theorem d10_bestGoes_9 : decode c10_bestGoes 9 = .ok (.invokevirtual 361, 3) := by decide +kernel
theorem d10_bestGoes_12 : decode c10_bestGoes 12 = .ok (.ineg, 1) := by decide +kernel
theorem d10_bestGoes_13 : decode c10_bestGoes 13 = .ok (.ireturn, 1) := by decide +kernel
theorem mw10_bestGoes : MV y10_bestGoes c10_bestGoes 3 (some .int) 2 := ⟨cd10_bestGoes, ini10, na10_bestGoes, im10_bestGoes, se10_bestGoes⟩
set_option maxHeartbeats 4000000 in
set_option maxRecDepth 100000 in
theorem k10_bestGoes (l : Launch) (E : En) (mo : Nat) (ad : Nat → Nat) (S : Nat → Int) (bo : Int → Int) (a : Int) (x : Int) (hra : 0 ≤ S 62 ∧ S 62 ≤ 980) : Cm l E y10_bestGoes c10_bestGoes 3 (some .int) { frames := 2, cells := 0, slots := 0, locals := 43 } [.ref mo, .int (iZ a), .int (iZ x)] [(mo, mO ad S), (ad 63, aInt E 20 bo)] (fun r ws => ∃ (v : Int), ∃ (S1 : Nat → Int), ∃ (bo1 : Int → Int), r = some (.int (iZ v)) ∧ ws = [(mo, mO ad S1), (ad 63, aInt E 20 bo1)] ∧ S1 = upS S 62 (S 62 + (([50, 10]).length : Int)) ∧ bo1 = trL ([50, 10]) (S 62) bo ∧ (v = -(x + a))) := by
  refine Cm.of rfl (Nat.le_of_ble_eq_true rfl) (fun Γ A hl ha hin G F => ?_)
  subst hl
  refine j_aload_n G 0 rfl d10_bestGoes_0 ?_
  refine j_bipush G d10_bestGoes_1 rfl ?_
  refine j_VM G (rm' := { frames := 0, cells := 0, slots := 0, locals := 0 }) (wc := [(mo, mO ad S), (ad 63, aInt E 20 bo)]) (wr := []) (k10_body (xl Γ) E mo ad S bo 50 (by first | assumption | omega | (simp only [upS, reduceIte, Nat.reduceEqDiff, eq_self, List.length_cons, List.length_nil, List.length_append] <;> omega))) mw10_body ml10_358 [0, 1] [] rfl rfl ⟨rfl, rfl⟩ (by decide) 0 10 rfl rfl rfl ⟨Nat.le_of_ble_eq_true rfl, Nat.le_of_ble_eq_true rfl⟩ rfl (rest := []) rfl (Nat.le_of_ble_eq_true rfl) d10_bestGoes_3 ⟨Nat.le_of_ble_eq_true rfl, Nat.le_of_ble_eq_true rfl⟩ (fun r w1 hr => ?_)
  obtain ⟨S1_2, bo1_3, rfl, rfl, rfl, rfl, hq1⟩ := hr
  refine j_eq (ws' := [(mo, mO ad (upS S 62 ((S 62) + 1))), (ad 63, aInt E 20 (trB ((S 62)) bo 50))]) rfl rfl rfl ?_
  refine j_aload_n G 0 rfl d10_bestGoes_6 ?_
  refine j_iload_n G 1 rfl d10_bestGoes_7 ?_
  refine j_iload_n G 2 rfl d10_bestGoes_8 ?_
  refine j_VM G (rm' := { frames := 1, cells := 0, slots := 0, locals := 21 }) (wc := [(mo, mO ad (upS S 62 ((S 62) + 1))), (ad 63, aInt E 20 (trB ((S 62)) bo 50))]) (wr := []) (k10_plainGoes (xl Γ) E mo ad (upS S 62 ((S 62) + 1)) (trB ((S 62)) bo 50) a x (by first | assumption | omega | (simp only [upS, reduceIte, Nat.reduceEqDiff, eq_self, List.length_cons, List.length_nil, List.length_append] <;> omega))) mw10_plainGoes ml10_361 [0, 1] [] rfl rfl ⟨rfl, rfl⟩ (by decide) 0 10 rfl rfl rfl ⟨Nat.le_of_ble_eq_true rfl, Nat.le_of_ble_eq_true rfl⟩ rfl (rest := []) rfl (Nat.le_of_ble_eq_true rfl) d10_bestGoes_9 ⟨Nat.le_of_ble_eq_true rfl, Nat.le_of_ble_eq_true rfl⟩ (fun r w1 hr => ?_)
  obtain ⟨v5, S1_6, bo1_7, rfl, rfl, rfl, rfl, hq4⟩ := hr
  refine j_eq (ws' := [(mo, mO ad (upS S 62 (((S 62) + 1) + (([10]).length : Int)))), (ad 63, aInt E 20 (trL ([10]) (((S 62) + 1)) (trB ((S 62)) bo 50)))]) rfl rfl rfl ?_
  try simp only [upS, reduceIte, Nat.reduceEqDiff, eq_self] at hq4
  refine j_ineg G d10_bestGoes_12 ?_
  exact j_iret G F d10_bestGoes_13 ⟨-v5, (upS S 62 (((S 62) + 1) + (([10]).length : Int))), (trL ([10]) (((S 62) + 1)) (trB ((S 62)) bo 50)), rfl, rfl, (by first | rfl | (congr 1; simp only [trL, trL_app, List.length_cons, List.length_nil, List.length_append, Int.natCast_add, Int.natCast_one] <;> (repeat' split) <;> (try simp) <;> omega)), (by first | rfl | (simp only [trL] <;> (repeat' split) <;> first | rfl | (exfalso; omega) | (simp only [trL_app, trL, List.cons_append, List.nil_append, List.length_cons, List.length_nil, List.length_append] <;> first | rfl | (congr 1 <;> first | omega | (congr 1 <;> first | omega | (congr 1 <;> omega)))))), (by omega)⟩
theorem d10_goes_0 : decode c10_goes 0 = .ok (.aload_n 0, 1) := by decide +kernel
theorem d10_goes_1 : decode c10_goes 1 = .ok (.getfield 85, 3) := by decide +kernel
theorem d10_goes_4 : decode c10_goes 4 = .ok (.iload_n 1, 1) := by decide +kernel
theorem d10_goes_5 : decode c10_goes 5 = .ok (.iaload, 1) := by decide +kernel
theorem d10_goes_6 : decode c10_goes 6 = .ok (.iconst 2, 1) := by decide +kernel
theorem d10_goes_7 : decode c10_goes 7 = .ok (.if_icmp .ne 18, 3) := by decide +kernel
theorem d10_goes_10 : decode c10_goes 10 = .ok (.aload_n 0, 1) := by decide +kernel
theorem d10_goes_11 : decode c10_goes 11 = .ok (.bipush 30, 2) := by decide +kernel
theorem d10_goes_13 : decode c10_goes 13 = .ok (.invokevirtual 358, 3) := by decide +kernel
theorem d10_goes_16 : decode c10_goes 16 = .ok (.aload_n 0, 1) := by decide +kernel
theorem d10_goes_17 : decode c10_goes 17 = .ok (.iload_n 1, 1) := by decide +kernel
theorem d10_goes_18 : decode c10_goes 18 = .ok (.iload_n 2, 1) := by decide +kernel
theorem d10_goes_19 : decode c10_goes 19 = .ok (.iconst 3, 1) := by decide +kernel
theorem d10_goes_20 : decode c10_goes 20 = .ok (.imul, 1) := by decide +kernel
theorem d10_goes_21 : decode c10_goes 21 = .ok (.invokevirtual 361, 3) := by decide +kernel
theorem d10_goes_24 : decode c10_goes 24 = .ok (.ireturn, 1) := by decide +kernel
theorem d10_goes_25 : decode c10_goes 25 = .ok (.aload_n 0, 1) := by decide +kernel
theorem d10_goes_26 : decode c10_goes 26 = .ok (.getfield 85, 3) := by decide +kernel
theorem d10_goes_29 : decode c10_goes 29 = .ok (.iload_n 1, 1) := by decide +kernel
theorem d10_goes_30 : decode c10_goes 30 = .ok (.iaload, 1) := by decide +kernel
theorem d10_goes_31 : decode c10_goes 31 = .ok (.iconst 4, 1) := by decide +kernel
theorem d10_goes_32 : decode c10_goes 32 = .ok (.if_icmp .eq 13, 3) := by decide +kernel
theorem d10_goes_35 : decode c10_goes 35 = .ok (.aload_n 0, 1) := by decide +kernel
theorem d10_goes_36 : decode c10_goes 36 = .ok (.getfield 85, 3) := by decide +kernel
theorem d10_goes_39 : decode c10_goes 39 = .ok (.iload_n 1, 1) := by decide +kernel
theorem d10_goes_40 : decode c10_goes 40 = .ok (.iaload, 1) := by decide +kernel
theorem d10_goes_41 : decode c10_goes 41 = .ok (.iconst 5, 1) := by decide +kernel
theorem d10_goes_42 : decode c10_goes 42 = .ok (.if_icmp .ne 12, 3) := by decide +kernel
theorem d10_goes_45 : decode c10_goes 45 = .ok (.aload_n 0, 1) := by decide +kernel
theorem d10_goes_46 : decode c10_goes 46 = .ok (.iload_n 1, 1) := by decide +kernel
theorem d10_goes_47 : decode c10_goes 47 = .ok (.iload_n 2, 1) := by decide +kernel
theorem d10_goes_48 : decode c10_goes 48 = .ok (.invokevirtual 364, 3) := by decide +kernel
theorem d10_goes_51 : decode c10_goes 51 = .ok (.goto 9, 3) := by decide +kernel
theorem d10_goes_54 : decode c10_goes 54 = .ok (.aload_n 0, 1) := by decide +kernel
theorem d10_goes_55 : decode c10_goes 55 = .ok (.iload_n 1, 1) := by decide +kernel
theorem d10_goes_56 : decode c10_goes 56 = .ok (.iload_n 2, 1) := by decide +kernel
theorem d10_goes_57 : decode c10_goes 57 = .ok (.invokevirtual 361, 3) := by decide +kernel
theorem d10_goes_60 : decode c10_goes 60 = .ok (.ireturn, 1) := by decide +kernel
theorem mw10_goes : MV y10_goes c10_goes 3 (some .int) 2 := ⟨cd10_goes, ini10, na10_goes, im10_goes, se10_goes⟩
set_option maxHeartbeats 4000000 in
set_option maxRecDepth 100000 in
theorem k10_goes (l : Launch) (E : En) (mo : Nat) (ad : Nat → Nat) (S : Nat → Int) (kd : Int → Int) (bo : Int → Int) (a : Int) (x : Int) (hra : 0 ≤ S 62 ∧ S 62 ≤ 970) (ha : 0 ≤ a ∧ a ≤ 11) (hkd : ∀ j, 0 ≤ j → j < 12 → 0 ≤ kd j ∧ kd j ≤ 6) : Cm l E y10_goes c10_goes 3 (some .int) { frames := 3, cells := 0, slots := 0, locals := 65 } [.ref mo, .int (iZ a), .int (iZ x)] [(mo, mO ad S), (ad 24, aInt E 12 kd), (ad 63, aInt E 20 bo)] (fun r ws => ∃ (v : Int), ∃ (S1 : Nat → Int), ∃ (bo1 : Int → Int), r = some (.int (iZ v)) ∧ ws = [(mo, mO ad S1), (ad 24, aInt E 12 kd), (ad 63, aInt E 20 bo1)] ∧ S1 = upS S 62 (S 62 + ((goL (kd a)).length : Int)) ∧ bo1 = trL (goL (kd a)) (S 62) bo ∧ (v = goV (kd a) a x)) := by
  refine Cm.of rfl (Nat.le_of_ble_eq_true rfl) (fun Γ A hl ha hin G F => ?_)
  subst hl
  refine j_aload_n G 0 rfl d10_goes_0 ?_
  refine j_get G 0 10 24 in10 fl10_85 d10_goes_1 rfl rfl (by decide) (v := .ref (ad 24)) rfl rfl ?_
  refine j_iload_n G 1 rfl d10_goes_4 ?_
  refine j_iald G 1 rfl (by omega) d10_goes_5 ?_
  have hb1 := hkd a (by omega) (by omega)
  refine j_iconst G d10_goes_6 ?_
  refine j_icmp_ne (tgt := 25) G d10_goes_7 (by decide) (by omega) (by decide) (fun h2 => ?_) (fun h2 => ?_)
  ·
    refine j_aload_n G 0 rfl d10_goes_25 ?_
    refine j_get G 0 10 24 in10 fl10_85 d10_goes_26 rfl rfl (by decide) (v := .ref (ad 24)) rfl rfl ?_
    refine j_iload_n G 1 rfl d10_goes_29 ?_
    refine j_iald G 1 rfl (by omega) d10_goes_30 ?_
    have hb3 := hkd a (by omega) (by omega)
    refine j_iconst G d10_goes_31 ?_
    refine j_icmp_eq (tgt := 45) G d10_goes_32 (by decide) (by omega) (by decide) (fun h4 => ?_) (fun h4 => ?_)
    ·
      refine j_aload_n G 0 rfl d10_goes_45 ?_
      refine j_iload_n G 1 rfl d10_goes_46 ?_
      refine j_iload_n G 2 rfl d10_goes_47 ?_
      refine j_VM G (rm' := { frames := 2, cells := 0, slots := 0, locals := 43 }) (wc := [(mo, mO ad S), (ad 63, aInt E 20 bo)]) (wr := [(ad 24, aInt E 12 kd)]) (k10_bestGoes (xl Γ) E mo ad S bo a x (by first | assumption | omega | (simp only [upS, reduceIte, Nat.reduceEqDiff, eq_self, List.length_cons, List.length_nil, List.length_append] <;> omega))) mw10_bestGoes ml10_364 [0, 2] [1] rfl rfl ⟨rfl, rfl⟩ (by decide) 0 10 rfl rfl rfl ⟨Nat.le_of_ble_eq_true rfl, Nat.le_of_ble_eq_true rfl⟩ rfl (rest := []) rfl (Nat.le_of_ble_eq_true rfl) d10_goes_48 ⟨Nat.le_of_ble_eq_true rfl, Nat.le_of_ble_eq_true rfl⟩ (fun r w1 hr => ?_)
      obtain ⟨v6, S1_7, bo1_8, rfl, rfl, rfl, rfl, hq5⟩ := hr
      refine j_eq (ws' := [(ad 24, aInt E 12 kd), (mo, mO ad (upS S 62 ((S 62) + (([50, 10]).length : Int)))), (ad 63, aInt E 20 (trL ([50, 10]) ((S 62)) bo))]) rfl rfl rfl ?_
      refine j_goto (tgt := 60) G d10_goes_51 (by decide) ?_
      refine j_perm (ws' := [(mo, mO ad (upS S 62 ((S 62) + (([50, 10]).length : Int)))), (ad 24, aInt E 12 kd), (ad 63, aInt E 20 (trL ([50, 10]) ((S 62)) bo))]) [1, 0, 2] rfl rfl rfl ?_
      exact j_iret G F d10_goes_60 ⟨v6, (upS S 62 ((S 62) + (([50, 10]).length : Int))), (trL ([50, 10]) ((S 62)) bo), rfl, rfl, (by first | rfl | (congr 1; simp only [goL, trL_app, List.length_cons, List.length_nil, List.length_append, Int.natCast_add, Int.natCast_one] <;> (repeat' split) <;> (try simp) <;> omega)), (by first | rfl | (simp only [goL] <;> (repeat' split) <;> first | rfl | (exfalso; omega) | (simp only [trL_app, trL, List.cons_append, List.nil_append, List.length_cons, List.length_nil, List.length_append] <;> first | rfl | (congr 1 <;> first | omega | (congr 1 <;> first | omega | (congr 1 <;> omega)))))), (by simp only [goV] <;> (repeat' split) <;> first | omega | (exfalso; omega))⟩
    ·
      refine j_aload_n G 0 rfl d10_goes_35 ?_
      refine j_get G 0 10 24 in10 fl10_85 d10_goes_36 rfl rfl (by decide) (v := .ref (ad 24)) rfl rfl ?_
      refine j_iload_n G 1 rfl d10_goes_39 ?_
      refine j_iald G 1 rfl (by omega) d10_goes_40 ?_
      have hb9 := hkd a (by omega) (by omega)
      refine j_iconst G d10_goes_41 ?_
      refine j_icmp_ne (tgt := 54) G d10_goes_42 (by decide) (by omega) (by decide) (fun h10 => ?_) (fun h10 => ?_)
      ·
        refine j_aload_n G 0 rfl d10_goes_54 ?_
        refine j_iload_n G 1 rfl d10_goes_55 ?_
        refine j_iload_n G 2 rfl d10_goes_56 ?_
        refine j_VM G (rm' := { frames := 1, cells := 0, slots := 0, locals := 21 }) (wc := [(mo, mO ad S), (ad 63, aInt E 20 bo)]) (wr := [(ad 24, aInt E 12 kd)]) (k10_plainGoes (xl Γ) E mo ad S bo a x (by first | assumption | omega | (simp only [upS, reduceIte, Nat.reduceEqDiff, eq_self, List.length_cons, List.length_nil, List.length_append] <;> omega))) mw10_plainGoes ml10_361 [0, 2] [1] rfl rfl ⟨rfl, rfl⟩ (by decide) 0 10 rfl rfl rfl ⟨Nat.le_of_ble_eq_true rfl, Nat.le_of_ble_eq_true rfl⟩ rfl (rest := []) rfl (Nat.le_of_ble_eq_true rfl) d10_goes_57 ⟨Nat.le_of_ble_eq_true rfl, Nat.le_of_ble_eq_true rfl⟩ (fun r w1 hr => ?_)
        obtain ⟨v12, S1_13, bo1_14, rfl, rfl, rfl, rfl, hq11⟩ := hr
        refine j_eq (ws' := [(ad 24, aInt E 12 kd), (mo, mO ad (upS S 62 ((S 62) + (([10]).length : Int)))), (ad 63, aInt E 20 (trL ([10]) ((S 62)) bo))]) rfl rfl rfl ?_
        refine j_perm (ws' := [(mo, mO ad (upS S 62 ((S 62) + (([10]).length : Int)))), (ad 24, aInt E 12 kd), (ad 63, aInt E 20 (trL ([10]) ((S 62)) bo))]) [1, 0, 2] rfl rfl rfl ?_
        exact j_iret G F d10_goes_60 ⟨v12, (upS S 62 ((S 62) + (([10]).length : Int))), (trL ([10]) ((S 62)) bo), rfl, rfl, (by first | rfl | (congr 1; simp only [goL, trL_app, List.length_cons, List.length_nil, List.length_append, Int.natCast_add, Int.natCast_one] <;> (repeat' split) <;> (try simp) <;> omega)), (by first | rfl | (simp only [goL] <;> (repeat' split) <;> first | rfl | (exfalso; omega) | (simp only [trL_app, trL, List.cons_append, List.nil_append, List.length_cons, List.length_nil, List.length_append] <;> first | rfl | (congr 1 <;> first | omega | (congr 1 <;> first | omega | (congr 1 <;> omega)))))), (by simp only [goV] <;> (repeat' split) <;> first | omega | (exfalso; omega))⟩
      ·
        refine j_aload_n G 0 rfl d10_goes_45 ?_
        refine j_iload_n G 1 rfl d10_goes_46 ?_
        refine j_iload_n G 2 rfl d10_goes_47 ?_
        refine j_VM G (rm' := { frames := 2, cells := 0, slots := 0, locals := 43 }) (wc := [(mo, mO ad S), (ad 63, aInt E 20 bo)]) (wr := [(ad 24, aInt E 12 kd)]) (k10_bestGoes (xl Γ) E mo ad S bo a x (by first | assumption | omega | (simp only [upS, reduceIte, Nat.reduceEqDiff, eq_self, List.length_cons, List.length_nil, List.length_append] <;> omega))) mw10_bestGoes ml10_364 [0, 2] [1] rfl rfl ⟨rfl, rfl⟩ (by decide) 0 10 rfl rfl rfl ⟨Nat.le_of_ble_eq_true rfl, Nat.le_of_ble_eq_true rfl⟩ rfl (rest := []) rfl (Nat.le_of_ble_eq_true rfl) d10_goes_48 ⟨Nat.le_of_ble_eq_true rfl, Nat.le_of_ble_eq_true rfl⟩ (fun r w1 hr => ?_)
        obtain ⟨v16, S1_17, bo1_18, rfl, rfl, rfl, rfl, hq15⟩ := hr
        refine j_eq (ws' := [(ad 24, aInt E 12 kd), (mo, mO ad (upS S 62 ((S 62) + (([50, 10]).length : Int)))), (ad 63, aInt E 20 (trL ([50, 10]) ((S 62)) bo))]) rfl rfl rfl ?_
        refine j_goto (tgt := 60) G d10_goes_51 (by decide) ?_
        refine j_perm (ws' := [(mo, mO ad (upS S 62 ((S 62) + (([50, 10]).length : Int)))), (ad 24, aInt E 12 kd), (ad 63, aInt E 20 (trL ([50, 10]) ((S 62)) bo))]) [1, 0, 2] rfl rfl rfl ?_
        exact j_iret G F d10_goes_60 ⟨v16, (upS S 62 ((S 62) + (([50, 10]).length : Int))), (trL ([50, 10]) ((S 62)) bo), rfl, rfl, (by first | rfl | (congr 1; simp only [goL, trL_app, List.length_cons, List.length_nil, List.length_append, Int.natCast_add, Int.natCast_one] <;> (repeat' split) <;> (try simp) <;> omega)), (by first | rfl | (simp only [goL] <;> (repeat' split) <;> first | rfl | (exfalso; omega) | (simp only [trL_app, trL, List.cons_append, List.nil_append, List.length_cons, List.length_nil, List.length_append] <;> first | rfl | (congr 1 <;> first | omega | (congr 1 <;> first | omega | (congr 1 <;> omega)))))), (by simp only [goV] <;> (repeat' split) <;> first | omega | (exfalso; omega))⟩
  ·
    refine j_aload_n G 0 rfl d10_goes_10 ?_
    refine j_bipush G d10_goes_11 rfl ?_
    refine j_VM G (rm' := { frames := 0, cells := 0, slots := 0, locals := 0 }) (wc := [(mo, mO ad S), (ad 63, aInt E 20 bo)]) (wr := [(ad 24, aInt E 12 kd)]) (k10_body (xl Γ) E mo ad S bo 30 (by first | assumption | omega | (simp only [upS, reduceIte, Nat.reduceEqDiff, eq_self, List.length_cons, List.length_nil, List.length_append] <;> omega))) mw10_body ml10_358 [0, 2] [1] rfl rfl ⟨rfl, rfl⟩ (by decide) 0 10 rfl rfl rfl ⟨Nat.le_of_ble_eq_true rfl, Nat.le_of_ble_eq_true rfl⟩ rfl (rest := []) rfl (Nat.le_of_ble_eq_true rfl) d10_goes_13 ⟨Nat.le_of_ble_eq_true rfl, Nat.le_of_ble_eq_true rfl⟩ (fun r w1 hr => ?_)
    obtain ⟨S1_20, bo1_21, rfl, rfl, rfl, rfl, hq19⟩ := hr
    refine j_eq (ws' := [(ad 24, aInt E 12 kd), (mo, mO ad (upS S 62 ((S 62) + 1))), (ad 63, aInt E 20 (trB ((S 62)) bo 30))]) rfl rfl rfl ?_
    refine j_aload_n G 0 rfl d10_goes_16 ?_
    refine j_iload_n G 1 rfl d10_goes_17 ?_
    refine j_iload_n G 2 rfl d10_goes_18 ?_
    refine j_iconst G d10_goes_19 ?_
    refine j_imul G d10_goes_20 ?_
    refine j_VM G (rm' := { frames := 1, cells := 0, slots := 0, locals := 21 }) (wc := [(mo, mO ad (upS S 62 ((S 62) + 1))), (ad 63, aInt E 20 (trB ((S 62)) bo 30))]) (wr := [(ad 24, aInt E 12 kd)]) (k10_plainGoes (xl Γ) E mo ad (upS S 62 ((S 62) + 1)) (trB ((S 62)) bo 30) a (x * 3) (by first | assumption | omega | (simp only [upS, reduceIte, Nat.reduceEqDiff, eq_self, List.length_cons, List.length_nil, List.length_append] <;> omega))) mw10_plainGoes ml10_361 [1, 2] [0] rfl rfl ⟨rfl, rfl⟩ (by decide) 1 10 rfl rfl rfl ⟨Nat.le_of_ble_eq_true rfl, Nat.le_of_ble_eq_true rfl⟩ rfl (rest := []) rfl (Nat.le_of_ble_eq_true rfl) d10_goes_21 ⟨Nat.le_of_ble_eq_true rfl, Nat.le_of_ble_eq_true rfl⟩ (fun r w1 hr => ?_)
    obtain ⟨v23, S1_24, bo1_25, rfl, rfl, rfl, rfl, hq22⟩ := hr
    refine j_eq (ws' := [(ad 24, aInt E 12 kd), (mo, mO ad (upS S 62 (((S 62) + 1) + (([10]).length : Int)))), (ad 63, aInt E 20 (trL ([10]) (((S 62) + 1)) (trB ((S 62)) bo 30)))]) rfl rfl rfl ?_
    try simp only [upS, reduceIte, Nat.reduceEqDiff, eq_self] at hq22
    refine j_perm (ws' := [(mo, mO ad (upS S 62 (((S 62) + 1) + (([10]).length : Int)))), (ad 24, aInt E 12 kd), (ad 63, aInt E 20 (trL ([10]) (((S 62) + 1)) (trB ((S 62)) bo 30)))]) [1, 0, 2] rfl rfl rfl ?_
    exact j_iret G F d10_goes_24 ⟨v23, (upS S 62 (((S 62) + 1) + (([10]).length : Int))), (trL ([10]) (((S 62) + 1)) (trB ((S 62)) bo 30)), rfl, rfl, (by first | rfl | (congr 1; simp only [goL, trL_app, List.length_cons, List.length_nil, List.length_append, Int.natCast_add, Int.natCast_one] <;> (repeat' split) <;> (try simp) <;> omega)), (by first | rfl | (simp only [goL] <;> (repeat' split) <;> first | rfl | (exfalso; omega) | (simp only [trL_app, trL, List.cons_append, List.nil_append, List.length_cons, List.length_nil, List.length_append] <;> first | rfl | (congr 1 <;> first | omega | (congr 1 <;> first | omega | (congr 1 <;> omega)))))), (by simp only [goV] <;> (repeat' split) <;> first | omega | (exfalso; omega))⟩
theorem d10_plainHolds_0 : decode c10_plainHolds 0 = .ok (.aload_n 0, 1) := by decide +kernel
theorem d10_plainHolds_1 : decode c10_plainHolds 1 = .ok (.bipush 11, 2) := by decide +kernel
theorem d10_plainHolds_3 : decode c10_plainHolds 3 = .ok (.invokevirtual 358, 3) := by decide +kernel
theorem d10_plainHolds_6 : decode c10_plainHolds 6 = .ok (.aload_n 0, 1) := by decide +kernel
theorem d10_plainHolds_7 : decode c10_plainHolds 7 = .ok (.iload_n 1, 1) := by decide +kernel
theorem d10_plainHolds_8 : decode c10_plainHolds 8 = .ok (.iload_n 2, 1) := by decide +kernel
theorem d10_plainHolds_9 : decode c10_plainHolds 9 = .ok (.invokevirtual 367, 3) := by decide +kernel
theorem d10_plainHolds_12 : decode c10_plainHolds 12 = .ok (.aload_n 0, 1) := by decide +kernel
theorem d10_plainHolds_13 : decode c10_plainHolds 13 = .ok (.getfield 88, 3) := by decide +kernel
theorem d10_plainHolds_16 : decode c10_plainHolds 16 = .ok (.iload_n 1, 1) := by decide +kernel
theorem d10_plainHolds_17 : decode c10_plainHolds 17 = .ok (.iaload, 1) := by decide +kernel
theorem d10_plainHolds_18 : decode c10_plainHolds 18 = .ok (.isub, 1) := by decide +kernel
theorem d10_plainHolds_19 : decode c10_plainHolds 19 = .ok (.ireturn, 1) := by decide +kernel
theorem mw10_plainHolds : MV y10_plainHolds c10_plainHolds 3 (some .int) 2 := ⟨cd10_plainHolds, ini10, na10_plainHolds, im10_plainHolds, se10_plainHolds⟩
set_option maxHeartbeats 4000000 in
set_option maxRecDepth 100000 in
theorem k10_plainHolds (l : Launch) (E : En) (mo : Nat) (ad : Nat → Nat) (S : Nat → Int) (kd : Int → Int) (vv : Int → Int) (bo : Int → Int) (a : Int) (x : Int) (hra : 0 ≤ S 62 ∧ S 62 ≤ 960) (ha : 0 ≤ a ∧ a ≤ 11) (hkd : ∀ j, 0 ≤ j → j < 12 → 0 ≤ kd j ∧ kd j ≤ 6) : Cm l E y10_plainHolds c10_plainHolds 3 (some .int) { frames := 4, cells := 0, slots := 0, locals := 87 } [.ref mo, .int (iZ a), .int (iZ x)] [(mo, mO ad S), (ad 24, aInt E 12 kd), (ad 25, aInt E 12 vv), (ad 63, aInt E 20 bo)] (fun r ws => ∃ (v : Int), ∃ (S1 : Nat → Int), ∃ (bo1 : Int → Int), r = some (.int (iZ v)) ∧ ws = [(mo, mO ad S1), (ad 24, aInt E 12 kd), (ad 25, aInt E 12 vv), (ad 63, aInt E 20 bo1)] ∧ S1 = upS S 62 (S 62 + ((11 :: goL (kd a)).length : Int)) ∧ bo1 = trL (11 :: goL (kd a)) (S 62) bo ∧ (v = goV (kd a) a x - vv a)) := by
  refine Cm.of rfl (Nat.le_of_ble_eq_true rfl) (fun Γ A hl ha hin G F => ?_)
  subst hl
  refine j_aload_n G 0 rfl d10_plainHolds_0 ?_
  refine j_bipush G d10_plainHolds_1 rfl ?_
  refine j_VM G (rm' := { frames := 0, cells := 0, slots := 0, locals := 0 }) (wc := [(mo, mO ad S), (ad 63, aInt E 20 bo)]) (wr := [(ad 24, aInt E 12 kd), (ad 25, aInt E 12 vv)]) (k10_body (xl Γ) E mo ad S bo 11 (by first | assumption | omega | (simp only [upS, reduceIte, Nat.reduceEqDiff, eq_self, List.length_cons, List.length_nil, List.length_append] <;> omega))) mw10_body ml10_358 [0, 3] [1, 2] rfl rfl ⟨rfl, rfl⟩ (by decide) 0 10 rfl rfl rfl ⟨Nat.le_of_ble_eq_true rfl, Nat.le_of_ble_eq_true rfl⟩ rfl (rest := []) rfl (Nat.le_of_ble_eq_true rfl) d10_plainHolds_3 ⟨Nat.le_of_ble_eq_true rfl, Nat.le_of_ble_eq_true rfl⟩ (fun r w1 hr => ?_)
  obtain ⟨S1_2, bo1_3, rfl, rfl, rfl, rfl, hq1⟩ := hr
  refine j_eq (ws' := [(ad 24, aInt E 12 kd), (ad 25, aInt E 12 vv), (mo, mO ad (upS S 62 ((S 62) + 1))), (ad 63, aInt E 20 (trB ((S 62)) bo 11))]) rfl rfl rfl ?_
  refine j_aload_n G 0 rfl d10_plainHolds_6 ?_
  refine j_iload_n G 1 rfl d10_plainHolds_7 ?_
  refine j_iload_n G 2 rfl d10_plainHolds_8 ?_
  refine j_VM G (rm' := { frames := 3, cells := 0, slots := 0, locals := 65 }) (wc := [(mo, mO ad (upS S 62 ((S 62) + 1))), (ad 24, aInt E 12 kd), (ad 63, aInt E 20 (trB ((S 62)) bo 11))]) (wr := [(ad 25, aInt E 12 vv)]) (k10_goes (xl Γ) E mo ad (upS S 62 ((S 62) + 1)) kd (trB ((S 62)) bo 11) a x (by first | assumption | omega | (simp only [upS, reduceIte, Nat.reduceEqDiff, eq_self, List.length_cons, List.length_nil, List.length_append] <;> omega)) (by first | assumption | omega | (simp only [upS, reduceIte, Nat.reduceEqDiff, eq_self, List.length_cons, List.length_nil, List.length_append] <;> omega)) (by first | assumption | omega | (simp only [upS, reduceIte, Nat.reduceEqDiff, eq_self, List.length_cons, List.length_nil, List.length_append] <;> omega))) mw10_goes ml10_367 [2, 0, 3] [1] rfl rfl ⟨rfl, rfl⟩ (by decide) 2 10 rfl rfl rfl ⟨Nat.le_of_ble_eq_true rfl, Nat.le_of_ble_eq_true rfl⟩ rfl (rest := []) rfl (Nat.le_of_ble_eq_true rfl) d10_plainHolds_9 ⟨Nat.le_of_ble_eq_true rfl, Nat.le_of_ble_eq_true rfl⟩ (fun r w1 hr => ?_)
  obtain ⟨v5, S1_6, bo1_7, rfl, rfl, rfl, rfl, hq4⟩ := hr
  refine j_eq (ws' := [(ad 25, aInt E 12 vv), (mo, mO ad (upS S 62 (((S 62) + 1) + ((goL (kd a)).length : Int)))), (ad 24, aInt E 12 kd), (ad 63, aInt E 20 (trL (goL (kd a)) (((S 62) + 1)) (trB ((S 62)) bo 11)))]) rfl rfl rfl ?_
  try simp only [upS, reduceIte, Nat.reduceEqDiff, eq_self] at hq4
  refine j_aload_n G 0 rfl d10_plainHolds_12 ?_
  refine j_get G 1 10 25 in10 fl10_88 d10_plainHolds_13 rfl rfl (by decide) (v := .ref (ad 25)) rfl rfl ?_
  refine j_iload_n G 1 rfl d10_plainHolds_16 ?_
  refine j_iald G 0 rfl (by omega) d10_plainHolds_17 ?_
  refine j_isub G d10_plainHolds_18 ?_
  refine j_perm (ws' := [(mo, mO ad (upS S 62 (((S 62) + 1) + ((goL (kd a)).length : Int)))), (ad 24, aInt E 12 kd), (ad 25, aInt E 12 vv), (ad 63, aInt E 20 (trL (goL (kd a)) (((S 62) + 1)) (trB ((S 62)) bo 11)))]) [1, 2, 0, 3] rfl rfl rfl ?_
  exact j_iret G F d10_plainHolds_19 ⟨v5 - (vv a), (upS S 62 (((S 62) + 1) + ((goL (kd a)).length : Int))), (trL (goL (kd a)) (((S 62) + 1)) (trB ((S 62)) bo 11)), rfl, rfl, (by first | rfl | (congr 1; simp only [trL, trL_app, List.length_cons, List.length_nil, List.length_append, Int.natCast_add, Int.natCast_one] <;> (repeat' split) <;> (try simp) <;> omega)), (by first | rfl | (simp only [trL] <;> (repeat' split) <;> first | rfl | (exfalso; omega) | (simp only [trL_app, trL, List.cons_append, List.nil_append, List.length_cons, List.length_nil, List.length_append] <;> first | rfl | (congr 1 <;> first | omega | (congr 1 <;> first | omega | (congr 1 <;> omega)))))), (by omega)⟩
theorem d10_holdsAct_0 : decode c10_holdsAct 0 = .ok (.aload_n 0, 1) := by decide +kernel
theorem d10_holdsAct_1 : decode c10_holdsAct 1 = .ok (.getfield 85, 3) := by decide +kernel
theorem d10_holdsAct_4 : decode c10_holdsAct 4 = .ok (.iload_n 1, 1) := by decide +kernel
theorem d10_holdsAct_5 : decode c10_holdsAct 5 = .ok (.iaload, 1) := by decide +kernel
theorem d10_holdsAct_6 : decode c10_holdsAct 6 = .ok (.lookupswitch 64 #[(1, 26), (5, 42)], 26) := by decide +kernel
theorem d10_holdsAct_32 : decode c10_holdsAct 32 = .ok (.aload_n 0, 1) := by decide +kernel
theorem d10_holdsAct_33 : decode c10_holdsAct 33 = .ok (.bipush 20, 2) := by decide +kernel
theorem d10_holdsAct_35 : decode c10_holdsAct 35 = .ok (.invokevirtual 358, 3) := by decide +kernel
theorem d10_holdsAct_38 : decode c10_holdsAct 38 = .ok (.aload_n 0, 1) := by decide +kernel
theorem d10_holdsAct_39 : decode c10_holdsAct 39 = .ok (.iload_n 1, 1) := by decide +kernel
theorem d10_holdsAct_40 : decode c10_holdsAct 40 = .ok (.iload_n 2, 1) := by decide +kernel
theorem d10_holdsAct_41 : decode c10_holdsAct 41 = .ok (.invokevirtual 370, 3) := by decide +kernel
theorem d10_holdsAct_44 : decode c10_holdsAct 44 = .ok (.bipush 6, 2) := by decide +kernel
theorem d10_holdsAct_46 : decode c10_holdsAct 46 = .ok (.ixor, 1) := by decide +kernel
theorem d10_holdsAct_47 : decode c10_holdsAct 47 = .ok (.ireturn, 1) := by decide +kernel
theorem d10_holdsAct_48 : decode c10_holdsAct 48 = .ok (.aload_n 0, 1) := by decide +kernel
theorem d10_holdsAct_49 : decode c10_holdsAct 49 = .ok (.bipush 60, 2) := by decide +kernel
theorem d10_holdsAct_51 : decode c10_holdsAct 51 = .ok (.invokevirtual 358, 3) := by decide +kernel
theorem d10_holdsAct_54 : decode c10_holdsAct 54 = .ok (.aload_n 0, 1) := by decide +kernel
theorem d10_holdsAct_55 : decode c10_holdsAct 55 = .ok (.iload_n 1, 1) := by decide +kernel
theorem d10_holdsAct_56 : decode c10_holdsAct 56 = .ok (.iload_n 2, 1) := by decide +kernel
theorem d10_holdsAct_57 : decode c10_holdsAct 57 = .ok (.invokevirtual 370, 3) := by decide +kernel
theorem d10_holdsAct_60 : decode c10_holdsAct 60 = .ok (.istore_n 3, 1) := by decide +kernel
theorem d10_holdsAct_61 : decode c10_holdsAct 61 = .ok (.iload_n 3, 1) := by decide +kernel
theorem d10_holdsAct_62 : decode c10_holdsAct 62 = .ok (.aload_n 0, 1) := by decide +kernel
theorem d10_holdsAct_63 : decode c10_holdsAct 63 = .ok (.iload_n 1, 1) := by decide +kernel
theorem d10_holdsAct_64 : decode c10_holdsAct 64 = .ok (.iconst 2, 1) := by decide +kernel
theorem d10_holdsAct_65 : decode c10_holdsAct 65 = .ok (.invokevirtual 364, 3) := by decide +kernel
theorem d10_holdsAct_68 : decode c10_holdsAct 68 = .ok (.iadd, 1) := by decide +kernel
theorem d10_holdsAct_69 : decode c10_holdsAct 69 = .ok (.ireturn, 1) := by decide +kernel
theorem d10_holdsAct_70 : decode c10_holdsAct 70 = .ok (.aload_n 0, 1) := by decide +kernel
theorem d10_holdsAct_71 : decode c10_holdsAct 71 = .ok (.iload_n 1, 1) := by decide +kernel
theorem d10_holdsAct_72 : decode c10_holdsAct 72 = .ok (.iload_n 2, 1) := by decide +kernel
theorem d10_holdsAct_73 : decode c10_holdsAct 73 = .ok (.invokevirtual 370, 3) := by decide +kernel
theorem d10_holdsAct_76 : decode c10_holdsAct 76 = .ok (.ireturn, 1) := by decide +kernel
theorem mw10_holdsAct : MV y10_holdsAct c10_holdsAct 4 (some .int) 2 := ⟨cd10_holdsAct, ini10, na10_holdsAct, im10_holdsAct, se10_holdsAct⟩
set_option maxHeartbeats 4000000 in
set_option maxRecDepth 100000 in
theorem k10_holdsAct (l : Launch) (E : En) (mo : Nat) (ad : Nat → Nat) (S : Nat → Int) (kd : Int → Int) (vv : Int → Int) (bo : Int → Int) (a : Int) (x : Int) (hra : 0 ≤ S 62 ∧ S 62 ≤ 940) (ha : 0 ≤ a ∧ a ≤ 11) (hkd : ∀ j, 0 ≤ j → j < 12 → 0 ≤ kd j ∧ kd j ≤ 6) : Cm l E y10_holdsAct c10_holdsAct 4 (some .int) { frames := 5, cells := 0, slots := 0, locals := 109 } [.ref mo, .int (iZ a), .int (iZ x)] [(mo, mO ad S), (ad 24, aInt E 12 kd), (ad 25, aInt E 12 vv), (ad 63, aInt E 20 bo)] (fun r ws => ∃ (v : Int), ∃ (S1 : Nat → Int), ∃ (bo1 : Int → Int), r = some (.int (iZ v)) ∧ ws = [(mo, mO ad S1), (ad 24, aInt E 12 kd), (ad 25, aInt E 12 vv), (ad 63, aInt E 20 bo1)] ∧ S1 = upS S 62 (S 62 + ((hoL (kd a) (kd a)).length : Int)) ∧ bo1 = trL (hoL (kd a) (kd a)) (S 62) bo ∧ (v = hoV (kd a) (kd a) a (vv a) x)) := by
  refine Cm.of rfl (Nat.le_of_ble_eq_true rfl) (fun Γ A hl ha hin G F => ?_)
  subst hl
  have hgl := goL_len (kd a)
  refine j_aload_n G 0 rfl d10_holdsAct_0 ?_
  refine j_get G 0 10 24 in10 fl10_85 d10_holdsAct_1 rfl rfl (by decide) (v := .ref (ad 24)) rfl rfl ?_
  refine j_iload_n G 1 rfl d10_holdsAct_4 ?_
  refine j_iald G 1 rfl (by omega) d10_holdsAct_5 ?_
  have hb1 := hkd a (by omega) (by omega)
  rcases (show kd a = 1 ∨ kd a = 5 ∨ (¬ kd a = 1 ∧ ¬ kd a = 5) by omega) with h2 | h2 | h2
  ·
    refine j_lookup (tgt := 32) (off := 26) G d10_holdsAct_6 (by omega) rfl (by simp [Op.lookupswitch.offset]; omega) (by decide) ?_
    refine j_aload_n G 0 rfl d10_holdsAct_32 ?_
    refine j_bipush G d10_holdsAct_33 rfl ?_
    refine j_VM G (rm' := { frames := 0, cells := 0, slots := 0, locals := 0 }) (wc := [(mo, mO ad S), (ad 63, aInt E 20 bo)]) (wr := [(ad 24, aInt E 12 kd), (ad 25, aInt E 12 vv)]) (k10_body (xl Γ) E mo ad S bo 20 (by first | assumption | omega | (simp only [upS, reduceIte, Nat.reduceEqDiff, eq_self, List.length_cons, List.length_nil, List.length_append] <;> omega))) mw10_body ml10_358 [0, 3] [1, 2] rfl rfl ⟨rfl, rfl⟩ (by decide) 0 10 rfl rfl rfl ⟨Nat.le_of_ble_eq_true rfl, Nat.le_of_ble_eq_true rfl⟩ rfl (rest := []) rfl (Nat.le_of_ble_eq_true rfl) d10_holdsAct_35 ⟨Nat.le_of_ble_eq_true rfl, Nat.le_of_ble_eq_true rfl⟩ (fun r w1 hr => ?_)
    obtain ⟨S1_4, bo1_5, rfl, rfl, rfl, rfl, hq3⟩ := hr
    refine j_eq (ws' := [(ad 24, aInt E 12 kd), (ad 25, aInt E 12 vv), (mo, mO ad (upS S 62 ((S 62) + 1))), (ad 63, aInt E 20 (trB ((S 62)) bo 20))]) rfl rfl rfl ?_
    refine j_aload_n G 0 rfl d10_holdsAct_38 ?_
    refine j_iload_n G 1 rfl d10_holdsAct_39 ?_
    refine j_iload_n G 2 rfl d10_holdsAct_40 ?_
    refine j_VM G (rm' := { frames := 4, cells := 0, slots := 0, locals := 87 }) (wc := [(mo, mO ad (upS S 62 ((S 62) + 1))), (ad 24, aInt E 12 kd), (ad 25, aInt E 12 vv), (ad 63, aInt E 20 (trB ((S 62)) bo 20))]) (wr := []) (k10_plainHolds (xl Γ) E mo ad (upS S 62 ((S 62) + 1)) kd vv (trB ((S 62)) bo 20) a x (by first | assumption | omega | (simp only [upS, reduceIte, Nat.reduceEqDiff, eq_self, List.length_cons, List.length_nil, List.length_append] <;> omega)) (by first | assumption | omega | (simp only [upS, reduceIte, Nat.reduceEqDiff, eq_self, List.length_cons, List.length_nil, List.length_append] <;> omega)) (by first | assumption | omega | (simp only [upS, reduceIte, Nat.reduceEqDiff, eq_self, List.length_cons, List.length_nil, List.length_append] <;> omega))) mw10_plainHolds ml10_370 [2, 0, 1, 3] [] rfl rfl ⟨rfl, rfl⟩ (by decide) 2 10 rfl rfl rfl ⟨Nat.le_of_ble_eq_true rfl, Nat.le_of_ble_eq_true rfl⟩ rfl (rest := []) rfl (Nat.le_of_ble_eq_true rfl) d10_holdsAct_41 ⟨Nat.le_of_ble_eq_true rfl, Nat.le_of_ble_eq_true rfl⟩ (fun r w1 hr => ?_)
    obtain ⟨v7, S1_8, bo1_9, rfl, rfl, rfl, rfl, hq6⟩ := hr
    refine j_eq (ws' := [(mo, mO ad (upS S 62 (((S 62) + 1) + ((11 :: goL (kd a)).length : Int)))), (ad 24, aInt E 12 kd), (ad 25, aInt E 12 vv), (ad 63, aInt E 20 (trL (11 :: goL (kd a)) (((S 62) + 1)) (trB ((S 62)) bo 20)))]) rfl rfl rfl ?_
    try simp only [upS, reduceIte, Nat.reduceEqDiff, eq_self] at hq6
    refine j_bipush G d10_holdsAct_44 rfl ?_
    refine r_ixor G d10_holdsAct_46 ?_
    refine j_top (y := iZ (((iZ v7) ^^^ (iZ 6)).toInt)) (iZ_of _).symm ?_
    exact j_iret G F d10_holdsAct_47 ⟨((iZ v7) ^^^ (iZ 6)).toInt, (upS S 62 (((S 62) + 1) + ((11 :: goL (kd a)).length : Int))), (trL (11 :: goL (kd a)) (((S 62) + 1)) (trB ((S 62)) bo 20)), rfl, rfl, (by first | rfl | (congr 1; simp only [hoL, trL_app, List.length_cons, List.length_nil, List.length_append, Int.natCast_add, Int.natCast_one] <;> (repeat' split) <;> (try simp) <;> omega)), (by first | rfl | (simp only [hoL] <;> (repeat' split) <;> first | rfl | (exfalso; omega) | (simp only [trL_app, trL, List.cons_append, List.nil_append, List.length_cons, List.length_nil, List.length_append] <;> first | rfl | (congr 1 <;> first | omega | (congr 1 <;> first | omega | (congr 1 <;> omega)))))), (by simp only [hoV] <;> (repeat' split) <;> first | omega | (exfalso; omega) | (subst_vars; rfl))⟩
  ·
    refine j_lookup (tgt := 48) (off := 42) G d10_holdsAct_6 (by omega) rfl (by simp [Op.lookupswitch.offset]; omega) (by decide) ?_
    refine j_aload_n G 0 rfl d10_holdsAct_48 ?_
    refine j_bipush G d10_holdsAct_49 rfl ?_
    refine j_VM G (rm' := { frames := 0, cells := 0, slots := 0, locals := 0 }) (wc := [(mo, mO ad S), (ad 63, aInt E 20 bo)]) (wr := [(ad 24, aInt E 12 kd), (ad 25, aInt E 12 vv)]) (k10_body (xl Γ) E mo ad S bo 60 (by first | assumption | omega | (simp only [upS, reduceIte, Nat.reduceEqDiff, eq_self, List.length_cons, List.length_nil, List.length_append] <;> omega))) mw10_body ml10_358 [0, 3] [1, 2] rfl rfl ⟨rfl, rfl⟩ (by decide) 0 10 rfl rfl rfl ⟨Nat.le_of_ble_eq_true rfl, Nat.le_of_ble_eq_true rfl⟩ rfl (rest := []) rfl (Nat.le_of_ble_eq_true rfl) d10_holdsAct_51 ⟨Nat.le_of_ble_eq_true rfl, Nat.le_of_ble_eq_true rfl⟩ (fun r w1 hr => ?_)
    obtain ⟨S1_11, bo1_12, rfl, rfl, rfl, rfl, hq10⟩ := hr
    refine j_eq (ws' := [(ad 24, aInt E 12 kd), (ad 25, aInt E 12 vv), (mo, mO ad (upS S 62 ((S 62) + 1))), (ad 63, aInt E 20 (trB ((S 62)) bo 60))]) rfl rfl rfl ?_
    refine j_aload_n G 0 rfl d10_holdsAct_54 ?_
    refine j_iload_n G 1 rfl d10_holdsAct_55 ?_
    refine j_iload_n G 2 rfl d10_holdsAct_56 ?_
    refine j_VM G (rm' := { frames := 4, cells := 0, slots := 0, locals := 87 }) (wc := [(mo, mO ad (upS S 62 ((S 62) + 1))), (ad 24, aInt E 12 kd), (ad 25, aInt E 12 vv), (ad 63, aInt E 20 (trB ((S 62)) bo 60))]) (wr := []) (k10_plainHolds (xl Γ) E mo ad (upS S 62 ((S 62) + 1)) kd vv (trB ((S 62)) bo 60) a x (by first | assumption | omega | (simp only [upS, reduceIte, Nat.reduceEqDiff, eq_self, List.length_cons, List.length_nil, List.length_append] <;> omega)) (by first | assumption | omega | (simp only [upS, reduceIte, Nat.reduceEqDiff, eq_self, List.length_cons, List.length_nil, List.length_append] <;> omega)) (by first | assumption | omega | (simp only [upS, reduceIte, Nat.reduceEqDiff, eq_self, List.length_cons, List.length_nil, List.length_append] <;> omega))) mw10_plainHolds ml10_370 [2, 0, 1, 3] [] rfl rfl ⟨rfl, rfl⟩ (by decide) 2 10 rfl rfl rfl ⟨Nat.le_of_ble_eq_true rfl, Nat.le_of_ble_eq_true rfl⟩ rfl (rest := []) rfl (Nat.le_of_ble_eq_true rfl) d10_holdsAct_57 ⟨Nat.le_of_ble_eq_true rfl, Nat.le_of_ble_eq_true rfl⟩ (fun r w1 hr => ?_)
    obtain ⟨v14, S1_15, bo1_16, rfl, rfl, rfl, rfl, hq13⟩ := hr
    refine j_eq (ws' := [(mo, mO ad (upS S 62 (((S 62) + 1) + ((11 :: goL (kd a)).length : Int)))), (ad 24, aInt E 12 kd), (ad 25, aInt E 12 vv), (ad 63, aInt E 20 (trL (11 :: goL (kd a)) (((S 62) + 1)) (trB ((S 62)) bo 60)))]) rfl rfl rfl ?_
    try simp only [upS, reduceIte, Nat.reduceEqDiff, eq_self] at hq13
    refine j_istore_n G d10_holdsAct_60 (by decide) rfl ?_
    refine j_iload_n G 0 rfl d10_holdsAct_61 ?_
    refine j_aload_n G 1 rfl d10_holdsAct_62 ?_
    refine j_iload_n G 2 rfl d10_holdsAct_63 ?_
    refine j_iconst G d10_holdsAct_64 ?_
    refine j_VM G (rm' := { frames := 2, cells := 0, slots := 0, locals := 43 }) (wc := [(mo, mO ad (upS S 62 (((S 62) + 1) + ((11 :: goL (kd a)).length : Int)))), (ad 63, aInt E 20 (trL (11 :: goL (kd a)) (((S 62) + 1)) (trB ((S 62)) bo 60)))]) (wr := [(ad 24, aInt E 12 kd), (ad 25, aInt E 12 vv)]) (k10_bestGoes (xl Γ) E mo ad (upS S 62 (((S 62) + 1) + ((11 :: goL (kd a)).length : Int))) (trL (11 :: goL (kd a)) (((S 62) + 1)) (trB ((S 62)) bo 60)) a 2 (by first | assumption | omega | (simp only [upS, reduceIte, Nat.reduceEqDiff, eq_self, List.length_cons, List.length_nil, List.length_append] <;> omega))) mw10_bestGoes ml10_364 [0, 3] [1, 2] rfl rfl ⟨rfl, rfl⟩ (by decide) 0 10 rfl rfl rfl ⟨Nat.le_of_ble_eq_true rfl, Nat.le_of_ble_eq_true rfl⟩ rfl (rest := [.int (iZ v14)]) rfl (Nat.le_of_ble_eq_true rfl) d10_holdsAct_65 ⟨Nat.le_of_ble_eq_true rfl, Nat.le_of_ble_eq_true rfl⟩ (fun r w1 hr => ?_)
    obtain ⟨v18, S1_19, bo1_20, rfl, rfl, rfl, rfl, hq17⟩ := hr
    refine j_eq (ws' := [(ad 24, aInt E 12 kd), (ad 25, aInt E 12 vv), (mo, mO ad (upS S 62 ((((S 62) + 1) + ((11 :: goL (kd a)).length : Int)) + (([50, 10]).length : Int)))), (ad 63, aInt E 20 (trL ([50, 10]) ((((S 62) + 1) + ((11 :: goL (kd a)).length : Int))) (trL (11 :: goL (kd a)) (((S 62) + 1)) (trB ((S 62)) bo 60))))]) rfl rfl rfl ?_
    try simp only [upS, reduceIte, Nat.reduceEqDiff, eq_self] at hq17
    refine j_iadd G d10_holdsAct_68 ?_
    refine j_perm (ws' := [(mo, mO ad (upS S 62 ((((S 62) + 1) + ((11 :: goL (kd a)).length : Int)) + (([50, 10]).length : Int)))), (ad 24, aInt E 12 kd), (ad 25, aInt E 12 vv), (ad 63, aInt E 20 (trL ([50, 10]) ((((S 62) + 1) + ((11 :: goL (kd a)).length : Int))) (trL (11 :: goL (kd a)) (((S 62) + 1)) (trB ((S 62)) bo 60))))]) [2, 0, 1, 3] rfl rfl rfl ?_
    exact j_iret G F d10_holdsAct_69 ⟨v14 + v18, (upS S 62 ((((S 62) + 1) + ((11 :: goL (kd a)).length : Int)) + (([50, 10]).length : Int))), (trL ([50, 10]) ((((S 62) + 1) + ((11 :: goL (kd a)).length : Int))) (trL (11 :: goL (kd a)) (((S 62) + 1)) (trB ((S 62)) bo 60))), rfl, rfl, (by first | rfl | (congr 1; simp only [hoL, trL_app, List.length_cons, List.length_nil, List.length_append, Int.natCast_add, Int.natCast_one] <;> (repeat' split) <;> (try simp) <;> omega)), (by first | rfl | (simp only [hoL] <;> (repeat' split) <;> first | rfl | (exfalso; omega) | (simp only [trL_app, trL, List.cons_append, List.nil_append, List.length_cons, List.length_nil, List.length_append] <;> first | rfl | (congr 1 <;> first | omega | (congr 1 <;> first | omega | (congr 1 <;> omega)))))), (by simp only [hoV] <;> (repeat' split) <;> first | omega | (exfalso; omega) | (subst_vars; rfl))⟩
  ·
    refine j_lookup (tgt := 70) (off := 64) G d10_holdsAct_6 (by omega) rfl (by simp [Op.lookupswitch.offset]; omega) (by decide) ?_
    refine j_aload_n G 0 rfl d10_holdsAct_70 ?_
    refine j_iload_n G 1 rfl d10_holdsAct_71 ?_
    refine j_iload_n G 2 rfl d10_holdsAct_72 ?_
    refine j_VM G (rm' := { frames := 4, cells := 0, slots := 0, locals := 87 }) (wc := [(mo, mO ad S), (ad 24, aInt E 12 kd), (ad 25, aInt E 12 vv), (ad 63, aInt E 20 bo)]) (wr := []) (k10_plainHolds (xl Γ) E mo ad S kd vv bo a x (by first | assumption | omega | (simp only [upS, reduceIte, Nat.reduceEqDiff, eq_self, List.length_cons, List.length_nil, List.length_append] <;> omega)) (by first | assumption | omega | (simp only [upS, reduceIte, Nat.reduceEqDiff, eq_self, List.length_cons, List.length_nil, List.length_append] <;> omega)) (by first | assumption | omega | (simp only [upS, reduceIte, Nat.reduceEqDiff, eq_self, List.length_cons, List.length_nil, List.length_append] <;> omega))) mw10_plainHolds ml10_370 [0, 1, 2, 3] [] rfl rfl ⟨rfl, rfl⟩ (by decide) 0 10 rfl rfl rfl ⟨Nat.le_of_ble_eq_true rfl, Nat.le_of_ble_eq_true rfl⟩ rfl (rest := []) rfl (Nat.le_of_ble_eq_true rfl) d10_holdsAct_73 ⟨Nat.le_of_ble_eq_true rfl, Nat.le_of_ble_eq_true rfl⟩ (fun r w1 hr => ?_)
    obtain ⟨v22, S1_23, bo1_24, rfl, rfl, rfl, rfl, hq21⟩ := hr
    refine j_eq (ws' := [(mo, mO ad (upS S 62 ((S 62) + ((11 :: goL (kd a)).length : Int)))), (ad 24, aInt E 12 kd), (ad 25, aInt E 12 vv), (ad 63, aInt E 20 (trL (11 :: goL (kd a)) ((S 62)) bo))]) rfl rfl rfl ?_
    exact j_iret G F d10_holdsAct_76 ⟨v22, (upS S 62 ((S 62) + ((11 :: goL (kd a)).length : Int))), (trL (11 :: goL (kd a)) ((S 62)) bo), rfl, rfl, (by first | rfl | (congr 1; simp only [hoL, trL_app, List.length_cons, List.length_nil, List.length_append, Int.natCast_add, Int.natCast_one] <;> (repeat' split) <;> (try simp) <;> omega)), (by first | rfl | (simp only [hoL] <;> (repeat' split) <;> first | rfl | (exfalso; omega) | (simp only [trL_app, trL, List.cons_append, List.nil_append, List.length_cons, List.length_nil, List.length_append] <;> first | rfl | (congr 1 <;> first | omega | (congr 1 <;> first | omega | (congr 1 <;> omega)))))), (by simp only [hoV] <;> (repeat' split) <;> first | omega | (exfalso; omega) | (subst_vars; rfl))⟩
theorem d10_plainTells_0 : decode c10_plainTells 0 = .ok (.aload_n 0, 1) := by decide +kernel
theorem d10_plainTells_1 : decode c10_plainTells 1 = .ok (.bipush 12, 2) := by decide +kernel
theorem d10_plainTells_3 : decode c10_plainTells 3 = .ok (.invokevirtual 358, 3) := by decide +kernel
theorem d10_plainTells_6 : decode c10_plainTells 6 = .ok (.aload_n 0, 1) := by decide +kernel
theorem d10_plainTells_7 : decode c10_plainTells 7 = .ok (.iload_n 1, 1) := by decide +kernel
theorem d10_plainTells_8 : decode c10_plainTells 8 = .ok (.iload_n 2, 1) := by decide +kernel
theorem d10_plainTells_9 : decode c10_plainTells 9 = .ok (.invokevirtual 373, 3) := by decide +kernel
theorem d10_plainTells_12 : decode c10_plainTells 12 = .ok (.iconst 2, 1) := by decide +kernel
theorem d10_plainTells_13 : decode c10_plainTells 13 = .ok (.imul, 1) := by decide +kernel
theorem d10_plainTells_14 : decode c10_plainTells 14 = .ok (.ireturn, 1) := by decide +kernel
theorem mw10_plainTells : MV y10_plainTells c10_plainTells 3 (some .int) 2 := ⟨cd10_plainTells, ini10, na10_plainTells, im10_plainTells, se10_plainTells⟩
set_option maxHeartbeats 4000000 in
set_option maxRecDepth 100000 in
theorem k10_plainTells (l : Launch) (E : En) (mo : Nat) (ad : Nat → Nat) (S : Nat → Int) (kd : Int → Int) (vv : Int → Int) (bo : Int → Int) (a : Int) (x : Int) (hra : 0 ≤ S 62 ∧ S 62 ≤ 930) (ha : 0 ≤ a ∧ a ≤ 11) (hkd : ∀ j, 0 ≤ j → j < 12 → 0 ≤ kd j ∧ kd j ≤ 6) : Cm l E y10_plainTells c10_plainTells 3 (some .int) { frames := 6, cells := 0, slots := 0, locals := 132 } [.ref mo, .int (iZ a), .int (iZ x)] [(mo, mO ad S), (ad 24, aInt E 12 kd), (ad 25, aInt E 12 vv), (ad 63, aInt E 20 bo)] (fun r ws => ∃ (v : Int), ∃ (S1 : Nat → Int), ∃ (bo1 : Int → Int), r = some (.int (iZ v)) ∧ ws = [(mo, mO ad S1), (ad 24, aInt E 12 kd), (ad 25, aInt E 12 vv), (ad 63, aInt E 20 bo1)] ∧ S1 = upS S 62 (S 62 + ((12 :: hoL (kd a) (kd a)).length : Int)) ∧ bo1 = trL (12 :: hoL (kd a) (kd a)) (S 62) bo ∧ (v = hoV (kd a) (kd a) a (vv a) x * 2)) := by
  refine Cm.of rfl (Nat.le_of_ble_eq_true rfl) (fun Γ A hl ha hin G F => ?_)
  subst hl
  have hgl := hoL_len (kd a) (kd a)
  refine j_aload_n G 0 rfl d10_plainTells_0 ?_
  refine j_bipush G d10_plainTells_1 rfl ?_
  refine j_VM G (rm' := { frames := 0, cells := 0, slots := 0, locals := 0 }) (wc := [(mo, mO ad S), (ad 63, aInt E 20 bo)]) (wr := [(ad 24, aInt E 12 kd), (ad 25, aInt E 12 vv)]) (k10_body (xl Γ) E mo ad S bo 12 (by first | assumption | omega | (simp only [upS, reduceIte, Nat.reduceEqDiff, eq_self, List.length_cons, List.length_nil, List.length_append] <;> omega))) mw10_body ml10_358 [0, 3] [1, 2] rfl rfl ⟨rfl, rfl⟩ (by decide) 0 10 rfl rfl rfl ⟨Nat.le_of_ble_eq_true rfl, Nat.le_of_ble_eq_true rfl⟩ rfl (rest := []) rfl (Nat.le_of_ble_eq_true rfl) d10_plainTells_3 ⟨Nat.le_of_ble_eq_true rfl, Nat.le_of_ble_eq_true rfl⟩ (fun r w1 hr => ?_)
  obtain ⟨S1_2, bo1_3, rfl, rfl, rfl, rfl, hq1⟩ := hr
  refine j_eq (ws' := [(ad 24, aInt E 12 kd), (ad 25, aInt E 12 vv), (mo, mO ad (upS S 62 ((S 62) + 1))), (ad 63, aInt E 20 (trB ((S 62)) bo 12))]) rfl rfl rfl ?_
  refine j_aload_n G 0 rfl d10_plainTells_6 ?_
  refine j_iload_n G 1 rfl d10_plainTells_7 ?_
  refine j_iload_n G 2 rfl d10_plainTells_8 ?_
  refine j_VM G (rm' := { frames := 5, cells := 0, slots := 0, locals := 109 }) (wc := [(mo, mO ad (upS S 62 ((S 62) + 1))), (ad 24, aInt E 12 kd), (ad 25, aInt E 12 vv), (ad 63, aInt E 20 (trB ((S 62)) bo 12))]) (wr := []) (k10_holdsAct (xl Γ) E mo ad (upS S 62 ((S 62) + 1)) kd vv (trB ((S 62)) bo 12) a x (by first | assumption | omega | (simp only [upS, reduceIte, Nat.reduceEqDiff, eq_self, List.length_cons, List.length_nil, List.length_append] <;> omega)) (by first | assumption | omega | (simp only [upS, reduceIte, Nat.reduceEqDiff, eq_self, List.length_cons, List.length_nil, List.length_append] <;> omega)) (by first | assumption | omega | (simp only [upS, reduceIte, Nat.reduceEqDiff, eq_self, List.length_cons, List.length_nil, List.length_append] <;> omega))) mw10_holdsAct ml10_373 [2, 0, 1, 3] [] rfl rfl ⟨rfl, rfl⟩ (by decide) 2 10 rfl rfl rfl ⟨Nat.le_of_ble_eq_true rfl, Nat.le_of_ble_eq_true rfl⟩ rfl (rest := []) rfl (Nat.le_of_ble_eq_true rfl) d10_plainTells_9 ⟨Nat.le_of_ble_eq_true rfl, Nat.le_of_ble_eq_true rfl⟩ (fun r w1 hr => ?_)
  obtain ⟨v5, S1_6, bo1_7, rfl, rfl, rfl, rfl, hq4⟩ := hr
  refine j_eq (ws' := [(mo, mO ad (upS S 62 (((S 62) + 1) + ((hoL (kd a) (kd a)).length : Int)))), (ad 24, aInt E 12 kd), (ad 25, aInt E 12 vv), (ad 63, aInt E 20 (trL (hoL (kd a) (kd a)) (((S 62) + 1)) (trB ((S 62)) bo 12)))]) rfl rfl rfl ?_
  try simp only [upS, reduceIte, Nat.reduceEqDiff, eq_self] at hq4
  refine j_iconst G d10_plainTells_12 ?_
  refine j_imul G d10_plainTells_13 ?_
  exact j_iret G F d10_plainTells_14 ⟨v5 * 2, (upS S 62 (((S 62) + 1) + ((hoL (kd a) (kd a)).length : Int))), (trL (hoL (kd a) (kd a)) (((S 62) + 1)) (trB ((S 62)) bo 12)), rfl, rfl, (by first | rfl | (congr 1; simp only [trL, trL_app, List.length_cons, List.length_nil, List.length_append, Int.natCast_add, Int.natCast_one] <;> (repeat' split) <;> (try simp) <;> omega)), (by first | rfl | (simp only [trL] <;> (repeat' split) <;> first | rfl | (exfalso; omega) | (simp only [trL_app, trL, List.cons_append, List.nil_append, List.length_cons, List.length_nil, List.length_append] <;> first | rfl | (congr 1 <;> first | omega | (congr 1 <;> first | omega | (congr 1 <;> omega)))))), (by omega)⟩
theorem d10_tells_0 : decode c10_tells 0 = .ok (.aload_n 0, 1) := by decide +kernel
theorem d10_tells_1 : decode c10_tells 1 = .ok (.getfield 85, 3) := by decide +kernel
theorem d10_tells_4 : decode c10_tells 4 = .ok (.iload_n 1, 1) := by decide +kernel
theorem d10_tells_5 : decode c10_tells 5 = .ok (.iaload, 1) := by decide +kernel
theorem d10_tells_6 : decode c10_tells 6 = .ok (.tableswitch 91 3 6 #[30, 52, 52, 67], 30) := by decide +kernel
theorem d10_tells_36 : decode c10_tells 36 = .ok (.aload_n 0, 1) := by decide +kernel
theorem d10_tells_37 : decode c10_tells 37 = .ok (.bipush 40, 2) := by decide +kernel
theorem d10_tells_39 : decode c10_tells 39 = .ok (.invokevirtual 358, 3) := by decide +kernel
theorem d10_tells_42 : decode c10_tells 42 = .ok (.aload_n 0, 1) := by decide +kernel
theorem d10_tells_43 : decode c10_tells 43 = .ok (.iload_n 1, 1) := by decide +kernel
theorem d10_tells_44 : decode c10_tells 44 = .ok (.iload_n 2, 1) := by decide +kernel
theorem d10_tells_45 : decode c10_tells 45 = .ok (.invokevirtual 376, 3) := by decide +kernel
theorem d10_tells_48 : decode c10_tells 48 = .ok (.istore_n 3, 1) := by decide +kernel
theorem d10_tells_49 : decode c10_tells 49 = .ok (.iload_n 3, 1) := by decide +kernel
theorem d10_tells_50 : decode c10_tells 50 = .ok (.aload_n 0, 1) := by decide +kernel
theorem d10_tells_51 : decode c10_tells 51 = .ok (.iload_n 1, 1) := by decide +kernel
theorem d10_tells_52 : decode c10_tells 52 = .ok (.iconst 1, 1) := by decide +kernel
theorem d10_tells_53 : decode c10_tells 53 = .ok (.invokevirtual 373, 3) := by decide +kernel
theorem d10_tells_56 : decode c10_tells 56 = .ok (.iadd, 1) := by decide +kernel
theorem d10_tells_57 : decode c10_tells 57 = .ok (.ireturn, 1) := by decide +kernel
theorem d10_tells_58 : decode c10_tells 58 = .ok (.aload_n 0, 1) := by decide +kernel
theorem d10_tells_59 : decode c10_tells 59 = .ok (.bipush 51, 2) := by decide +kernel
theorem d10_tells_61 : decode c10_tells 61 = .ok (.invokevirtual 358, 3) := by decide +kernel
theorem d10_tells_64 : decode c10_tells 64 = .ok (.aload_n 0, 1) := by decide +kernel
theorem d10_tells_65 : decode c10_tells 65 = .ok (.iload_n 1, 1) := by decide +kernel
theorem d10_tells_66 : decode c10_tells 66 = .ok (.iload_n 2, 1) := by decide +kernel
theorem d10_tells_67 : decode c10_tells 67 = .ok (.iload_n 1, 1) := by decide +kernel
theorem d10_tells_68 : decode c10_tells 68 = .ok (.isub, 1) := by decide +kernel
theorem d10_tells_69 : decode c10_tells 69 = .ok (.invokevirtual 376, 3) := by decide +kernel
theorem d10_tells_72 : decode c10_tells 72 = .ok (.ireturn, 1) := by decide +kernel
theorem d10_tells_73 : decode c10_tells 73 = .ok (.aload_n 0, 1) := by decide +kernel
theorem d10_tells_74 : decode c10_tells 74 = .ok (.bipush 70, 2) := by decide +kernel
theorem d10_tells_76 : decode c10_tells 76 = .ok (.invokevirtual 358, 3) := by decide +kernel
theorem d10_tells_79 : decode c10_tells 79 = .ok (.aload_n 0, 1) := by decide +kernel
theorem d10_tells_80 : decode c10_tells 80 = .ok (.iload_n 1, 1) := by decide +kernel
theorem d10_tells_81 : decode c10_tells 81 = .ok (.iload_n 2, 1) := by decide +kernel
theorem d10_tells_82 : decode c10_tells 82 = .ok (.invokevirtual 373, 3) := by decide +kernel
theorem d10_tells_85 : decode c10_tells 85 = .ok (.istore 4, 2) := by decide +kernel
theorem d10_tells_87 : decode c10_tells 87 = .ok (.iload 4, 2) := by decide +kernel
theorem d10_tells_89 : decode c10_tells 89 = .ok (.aload_n 0, 1) := by decide +kernel
theorem d10_tells_90 : decode c10_tells 90 = .ok (.iload_n 1, 1) := by decide +kernel
theorem d10_tells_91 : decode c10_tells 91 = .ok (.iload_n 2, 1) := by decide +kernel
theorem d10_tells_92 : decode c10_tells 92 = .ok (.invokevirtual 376, 3) := by decide +kernel
theorem d10_tells_95 : decode c10_tells 95 = .ok (.isub, 1) := by decide +kernel
theorem d10_tells_96 : decode c10_tells 96 = .ok (.ireturn, 1) := by decide +kernel
theorem d10_tells_97 : decode c10_tells 97 = .ok (.aload_n 0, 1) := by decide +kernel
theorem d10_tells_98 : decode c10_tells 98 = .ok (.iload_n 1, 1) := by decide +kernel
theorem d10_tells_99 : decode c10_tells 99 = .ok (.iload_n 2, 1) := by decide +kernel
theorem d10_tells_100 : decode c10_tells 100 = .ok (.invokevirtual 376, 3) := by decide +kernel
theorem d10_tells_103 : decode c10_tells 103 = .ok (.ireturn, 1) := by decide +kernel
theorem mw10_tells : MV y10_tells c10_tells 5 (some .int) 2 := ⟨cd10_tells, ini10, na10_tells, im10_tells, se10_tells⟩
set_option maxHeartbeats 4000000 in
set_option maxRecDepth 100000 in
theorem k10_tells (l : Launch) (E : En) (mo : Nat) (ad : Nat → Nat) (S : Nat → Int) (kd : Int → Int) (vv : Int → Int) (bo : Int → Int) (a : Int) (x : Int) (hra : 0 ≤ S 62 ∧ S 62 ≤ 900) (ha : 0 ≤ a ∧ a ≤ 11) (hkd : ∀ j, 0 ≤ j → j < 12 → 0 ≤ kd j ∧ kd j ≤ 6) : Cm l E y10_tells c10_tells 5 (some .int) { frames := 7, cells := 0, slots := 0, locals := 154 } [.ref mo, .int (iZ a), .int (iZ x)] [(mo, mO ad S), (ad 24, aInt E 12 kd), (ad 25, aInt E 12 vv), (ad 63, aInt E 20 bo)] (fun r ws => ∃ (v : Int), ∃ (S1 : Nat → Int), ∃ (bo1 : Int → Int), r = some (.int (iZ v)) ∧ ws = [(mo, mO ad S1), (ad 24, aInt E 12 kd), (ad 25, aInt E 12 vv), (ad 63, aInt E 20 bo1)] ∧ S1 = upS S 62 (S 62 + ((teL (kd a) (kd a)).length : Int)) ∧ bo1 = trL (teL (kd a) (kd a)) (S 62) bo ∧ (v = teV (kd a) (kd a) a (vv a) x)) := by
  refine Cm.of rfl (Nat.le_of_ble_eq_true rfl) (fun Γ A hl ha hin G F => ?_)
  subst hl
  have hgl := hoL_len (kd a) (kd a)
  refine j_aload_n G 0 rfl d10_tells_0 ?_
  refine j_get G 0 10 24 in10 fl10_85 d10_tells_1 rfl rfl (by decide) (v := .ref (ad 24)) rfl rfl ?_
  refine j_iload_n G 1 rfl d10_tells_4 ?_
  refine j_iald G 1 rfl (by omega) d10_tells_5 ?_
  have hb1 := hkd a (by omega) (by omega)
  rcases (show kd a = 3 ∨ kd a = 4 ∨ kd a = 5 ∨ kd a = 6 ∨ (kd a < 3 ∨ 6 < kd a) by omega) with h2 | h2 | h2 | h2 | h2
  ·
    refine j_tabIn (tgt := 36) G d10_tells_6 (by omega) 3 h2 ⟨by decide, by decide⟩ rfl (by decide) ?_
    refine j_aload_n G 0 rfl d10_tells_36 ?_
    refine j_bipush G d10_tells_37 rfl ?_
    refine j_VM G (rm' := { frames := 0, cells := 0, slots := 0, locals := 0 }) (wc := [(mo, mO ad S), (ad 63, aInt E 20 bo)]) (wr := [(ad 24, aInt E 12 kd), (ad 25, aInt E 12 vv)]) (k10_body (xl Γ) E mo ad S bo 40 (by first | assumption | omega | (simp only [upS, reduceIte, Nat.reduceEqDiff, eq_self, List.length_cons, List.length_nil, List.length_append] <;> omega))) mw10_body ml10_358 [0, 3] [1, 2] rfl rfl ⟨rfl, rfl⟩ (by decide) 0 10 rfl rfl rfl ⟨Nat.le_of_ble_eq_true rfl, Nat.le_of_ble_eq_true rfl⟩ rfl (rest := []) rfl (Nat.le_of_ble_eq_true rfl) d10_tells_39 ⟨Nat.le_of_ble_eq_true rfl, Nat.le_of_ble_eq_true rfl⟩ (fun r w1 hr => ?_)
    obtain ⟨S1_4, bo1_5, rfl, rfl, rfl, rfl, hq3⟩ := hr
    refine j_eq (ws' := [(ad 24, aInt E 12 kd), (ad 25, aInt E 12 vv), (mo, mO ad (upS S 62 ((S 62) + 1))), (ad 63, aInt E 20 (trB ((S 62)) bo 40))]) rfl rfl rfl ?_
    refine j_aload_n G 0 rfl d10_tells_42 ?_
    refine j_iload_n G 1 rfl d10_tells_43 ?_
    refine j_iload_n G 2 rfl d10_tells_44 ?_
    refine j_VM G (rm' := { frames := 6, cells := 0, slots := 0, locals := 132 }) (wc := [(mo, mO ad (upS S 62 ((S 62) + 1))), (ad 24, aInt E 12 kd), (ad 25, aInt E 12 vv), (ad 63, aInt E 20 (trB ((S 62)) bo 40))]) (wr := []) (k10_plainTells (xl Γ) E mo ad (upS S 62 ((S 62) + 1)) kd vv (trB ((S 62)) bo 40) a x (by first | assumption | omega | (simp only [upS, reduceIte, Nat.reduceEqDiff, eq_self, List.length_cons, List.length_nil, List.length_append] <;> omega)) (by first | assumption | omega | (simp only [upS, reduceIte, Nat.reduceEqDiff, eq_self, List.length_cons, List.length_nil, List.length_append] <;> omega)) (by first | assumption | omega | (simp only [upS, reduceIte, Nat.reduceEqDiff, eq_self, List.length_cons, List.length_nil, List.length_append] <;> omega))) mw10_plainTells ml10_376 [2, 0, 1, 3] [] rfl rfl ⟨rfl, rfl⟩ (by decide) 2 10 rfl rfl rfl ⟨Nat.le_of_ble_eq_true rfl, Nat.le_of_ble_eq_true rfl⟩ rfl (rest := []) rfl (Nat.le_of_ble_eq_true rfl) d10_tells_45 ⟨Nat.le_of_ble_eq_true rfl, Nat.le_of_ble_eq_true rfl⟩ (fun r w1 hr => ?_)
    obtain ⟨v7, S1_8, bo1_9, rfl, rfl, rfl, rfl, hq6⟩ := hr
    refine j_eq (ws' := [(mo, mO ad (upS S 62 (((S 62) + 1) + ((12 :: hoL (kd a) (kd a)).length : Int)))), (ad 24, aInt E 12 kd), (ad 25, aInt E 12 vv), (ad 63, aInt E 20 (trL (12 :: hoL (kd a) (kd a)) (((S 62) + 1)) (trB ((S 62)) bo 40)))]) rfl rfl rfl ?_
    try simp only [upS, reduceIte, Nat.reduceEqDiff, eq_self] at hq6
    refine j_istore_n G d10_tells_48 (by decide) rfl ?_
    refine j_iload_n G 0 rfl d10_tells_49 ?_
    refine j_aload_n G 1 rfl d10_tells_50 ?_
    refine j_iload_n G 2 rfl d10_tells_51 ?_
    refine j_iconst G d10_tells_52 ?_
    refine j_VM G (rm' := { frames := 5, cells := 0, slots := 0, locals := 109 }) (wc := [(mo, mO ad (upS S 62 (((S 62) + 1) + ((12 :: hoL (kd a) (kd a)).length : Int)))), (ad 24, aInt E 12 kd), (ad 25, aInt E 12 vv), (ad 63, aInt E 20 (trL (12 :: hoL (kd a) (kd a)) (((S 62) + 1)) (trB ((S 62)) bo 40)))]) (wr := []) (k10_holdsAct (xl Γ) E mo ad (upS S 62 (((S 62) + 1) + ((12 :: hoL (kd a) (kd a)).length : Int))) kd vv (trL (12 :: hoL (kd a) (kd a)) (((S 62) + 1)) (trB ((S 62)) bo 40)) a 1 (by first | assumption | omega | (simp only [upS, reduceIte, Nat.reduceEqDiff, eq_self, List.length_cons, List.length_nil, List.length_append] <;> omega)) (by first | assumption | omega | (simp only [upS, reduceIte, Nat.reduceEqDiff, eq_self, List.length_cons, List.length_nil, List.length_append] <;> omega)) (by first | assumption | omega | (simp only [upS, reduceIte, Nat.reduceEqDiff, eq_self, List.length_cons, List.length_nil, List.length_append] <;> omega))) mw10_holdsAct ml10_373 [0, 1, 2, 3] [] rfl rfl ⟨rfl, rfl⟩ (by decide) 0 10 rfl rfl rfl ⟨Nat.le_of_ble_eq_true rfl, Nat.le_of_ble_eq_true rfl⟩ rfl (rest := [.int (iZ v7)]) rfl (Nat.le_of_ble_eq_true rfl) d10_tells_53 ⟨Nat.le_of_ble_eq_true rfl, Nat.le_of_ble_eq_true rfl⟩ (fun r w1 hr => ?_)
    obtain ⟨v11, S1_12, bo1_13, rfl, rfl, rfl, rfl, hq10⟩ := hr
    refine j_eq (ws' := [(mo, mO ad (upS S 62 ((((S 62) + 1) + ((12 :: hoL (kd a) (kd a)).length : Int)) + ((hoL (kd a) (kd a)).length : Int)))), (ad 24, aInt E 12 kd), (ad 25, aInt E 12 vv), (ad 63, aInt E 20 (trL (hoL (kd a) (kd a)) ((((S 62) + 1) + ((12 :: hoL (kd a) (kd a)).length : Int))) (trL (12 :: hoL (kd a) (kd a)) (((S 62) + 1)) (trB ((S 62)) bo 40))))]) rfl rfl rfl ?_
    try simp only [upS, reduceIte, Nat.reduceEqDiff, eq_self] at hq10
    refine j_iadd G d10_tells_56 ?_
    exact j_iret G F d10_tells_57 ⟨v7 + v11, (upS S 62 ((((S 62) + 1) + ((12 :: hoL (kd a) (kd a)).length : Int)) + ((hoL (kd a) (kd a)).length : Int))), (trL (hoL (kd a) (kd a)) ((((S 62) + 1) + ((12 :: hoL (kd a) (kd a)).length : Int))) (trL (12 :: hoL (kd a) (kd a)) (((S 62) + 1)) (trB ((S 62)) bo 40))), rfl, rfl, (by first | rfl | (congr 1; simp only [teL, trL_app, List.length_cons, List.length_nil, List.length_append, Int.natCast_add, Int.natCast_one] <;> (repeat' split) <;> (try simp) <;> omega)), (by first | rfl | (simp only [teL] <;> (repeat' split) <;> first | rfl | (exfalso; omega) | (simp only [trL_app, trL, List.cons_append, List.nil_append, List.length_cons, List.length_nil, List.length_append] <;> first | rfl | (congr 1 <;> first | omega | (congr 1 <;> first | omega | (congr 1 <;> omega)))))), (by simp only [teV] <;> (repeat' split) <;> first | omega | (exfalso; omega))⟩
  ·
    refine j_tabIn (tgt := 58) G d10_tells_6 (by omega) 4 h2 ⟨by decide, by decide⟩ rfl (by decide) ?_
    refine j_aload_n G 0 rfl d10_tells_58 ?_
    refine j_bipush G d10_tells_59 rfl ?_
    refine j_VM G (rm' := { frames := 0, cells := 0, slots := 0, locals := 0 }) (wc := [(mo, mO ad S), (ad 63, aInt E 20 bo)]) (wr := [(ad 24, aInt E 12 kd), (ad 25, aInt E 12 vv)]) (k10_body (xl Γ) E mo ad S bo 51 (by first | assumption | omega | (simp only [upS, reduceIte, Nat.reduceEqDiff, eq_self, List.length_cons, List.length_nil, List.length_append] <;> omega))) mw10_body ml10_358 [0, 3] [1, 2] rfl rfl ⟨rfl, rfl⟩ (by decide) 0 10 rfl rfl rfl ⟨Nat.le_of_ble_eq_true rfl, Nat.le_of_ble_eq_true rfl⟩ rfl (rest := []) rfl (Nat.le_of_ble_eq_true rfl) d10_tells_61 ⟨Nat.le_of_ble_eq_true rfl, Nat.le_of_ble_eq_true rfl⟩ (fun r w1 hr => ?_)
    obtain ⟨S1_15, bo1_16, rfl, rfl, rfl, rfl, hq14⟩ := hr
    refine j_eq (ws' := [(ad 24, aInt E 12 kd), (ad 25, aInt E 12 vv), (mo, mO ad (upS S 62 ((S 62) + 1))), (ad 63, aInt E 20 (trB ((S 62)) bo 51))]) rfl rfl rfl ?_
    refine j_aload_n G 0 rfl d10_tells_64 ?_
    refine j_iload_n G 1 rfl d10_tells_65 ?_
    refine j_iload_n G 2 rfl d10_tells_66 ?_
    refine j_iload_n G 1 rfl d10_tells_67 ?_
    refine j_isub G d10_tells_68 ?_
    refine j_VM G (rm' := { frames := 6, cells := 0, slots := 0, locals := 132 }) (wc := [(mo, mO ad (upS S 62 ((S 62) + 1))), (ad 24, aInt E 12 kd), (ad 25, aInt E 12 vv), (ad 63, aInt E 20 (trB ((S 62)) bo 51))]) (wr := []) (k10_plainTells (xl Γ) E mo ad (upS S 62 ((S 62) + 1)) kd vv (trB ((S 62)) bo 51) a (x - a) (by first | assumption | omega | (simp only [upS, reduceIte, Nat.reduceEqDiff, eq_self, List.length_cons, List.length_nil, List.length_append] <;> omega)) (by first | assumption | omega | (simp only [upS, reduceIte, Nat.reduceEqDiff, eq_self, List.length_cons, List.length_nil, List.length_append] <;> omega)) (by first | assumption | omega | (simp only [upS, reduceIte, Nat.reduceEqDiff, eq_self, List.length_cons, List.length_nil, List.length_append] <;> omega))) mw10_plainTells ml10_376 [2, 0, 1, 3] [] rfl rfl ⟨rfl, rfl⟩ (by decide) 2 10 rfl rfl rfl ⟨Nat.le_of_ble_eq_true rfl, Nat.le_of_ble_eq_true rfl⟩ rfl (rest := []) rfl (Nat.le_of_ble_eq_true rfl) d10_tells_69 ⟨Nat.le_of_ble_eq_true rfl, Nat.le_of_ble_eq_true rfl⟩ (fun r w1 hr => ?_)
    obtain ⟨v18, S1_19, bo1_20, rfl, rfl, rfl, rfl, hq17⟩ := hr
    refine j_eq (ws' := [(mo, mO ad (upS S 62 (((S 62) + 1) + ((12 :: hoL (kd a) (kd a)).length : Int)))), (ad 24, aInt E 12 kd), (ad 25, aInt E 12 vv), (ad 63, aInt E 20 (trL (12 :: hoL (kd a) (kd a)) (((S 62) + 1)) (trB ((S 62)) bo 51)))]) rfl rfl rfl ?_
    try simp only [upS, reduceIte, Nat.reduceEqDiff, eq_self] at hq17
    exact j_iret G F d10_tells_72 ⟨v18, (upS S 62 (((S 62) + 1) + ((12 :: hoL (kd a) (kd a)).length : Int))), (trL (12 :: hoL (kd a) (kd a)) (((S 62) + 1)) (trB ((S 62)) bo 51)), rfl, rfl, (by first | rfl | (congr 1; simp only [teL, trL_app, List.length_cons, List.length_nil, List.length_append, Int.natCast_add, Int.natCast_one] <;> (repeat' split) <;> (try simp) <;> omega)), (by first | rfl | (simp only [teL] <;> (repeat' split) <;> first | rfl | (exfalso; omega) | (simp only [trL_app, trL, List.cons_append, List.nil_append, List.length_cons, List.length_nil, List.length_append] <;> first | rfl | (congr 1 <;> first | omega | (congr 1 <;> first | omega | (congr 1 <;> omega)))))), (by simp only [teV] <;> (repeat' split) <;> first | omega | (exfalso; omega))⟩
  ·
    refine j_tabIn (tgt := 58) G d10_tells_6 (by omega) 5 h2 ⟨by decide, by decide⟩ rfl (by decide) ?_
    refine j_aload_n G 0 rfl d10_tells_58 ?_
    refine j_bipush G d10_tells_59 rfl ?_
    refine j_VM G (rm' := { frames := 0, cells := 0, slots := 0, locals := 0 }) (wc := [(mo, mO ad S), (ad 63, aInt E 20 bo)]) (wr := [(ad 24, aInt E 12 kd), (ad 25, aInt E 12 vv)]) (k10_body (xl Γ) E mo ad S bo 51 (by first | assumption | omega | (simp only [upS, reduceIte, Nat.reduceEqDiff, eq_self, List.length_cons, List.length_nil, List.length_append] <;> omega))) mw10_body ml10_358 [0, 3] [1, 2] rfl rfl ⟨rfl, rfl⟩ (by decide) 0 10 rfl rfl rfl ⟨Nat.le_of_ble_eq_true rfl, Nat.le_of_ble_eq_true rfl⟩ rfl (rest := []) rfl (Nat.le_of_ble_eq_true rfl) d10_tells_61 ⟨Nat.le_of_ble_eq_true rfl, Nat.le_of_ble_eq_true rfl⟩ (fun r w1 hr => ?_)
    obtain ⟨S1_22, bo1_23, rfl, rfl, rfl, rfl, hq21⟩ := hr
    refine j_eq (ws' := [(ad 24, aInt E 12 kd), (ad 25, aInt E 12 vv), (mo, mO ad (upS S 62 ((S 62) + 1))), (ad 63, aInt E 20 (trB ((S 62)) bo 51))]) rfl rfl rfl ?_
    refine j_aload_n G 0 rfl d10_tells_64 ?_
    refine j_iload_n G 1 rfl d10_tells_65 ?_
    refine j_iload_n G 2 rfl d10_tells_66 ?_
    refine j_iload_n G 1 rfl d10_tells_67 ?_
    refine j_isub G d10_tells_68 ?_
    refine j_VM G (rm' := { frames := 6, cells := 0, slots := 0, locals := 132 }) (wc := [(mo, mO ad (upS S 62 ((S 62) + 1))), (ad 24, aInt E 12 kd), (ad 25, aInt E 12 vv), (ad 63, aInt E 20 (trB ((S 62)) bo 51))]) (wr := []) (k10_plainTells (xl Γ) E mo ad (upS S 62 ((S 62) + 1)) kd vv (trB ((S 62)) bo 51) a (x - a) (by first | assumption | omega | (simp only [upS, reduceIte, Nat.reduceEqDiff, eq_self, List.length_cons, List.length_nil, List.length_append] <;> omega)) (by first | assumption | omega | (simp only [upS, reduceIte, Nat.reduceEqDiff, eq_self, List.length_cons, List.length_nil, List.length_append] <;> omega)) (by first | assumption | omega | (simp only [upS, reduceIte, Nat.reduceEqDiff, eq_self, List.length_cons, List.length_nil, List.length_append] <;> omega))) mw10_plainTells ml10_376 [2, 0, 1, 3] [] rfl rfl ⟨rfl, rfl⟩ (by decide) 2 10 rfl rfl rfl ⟨Nat.le_of_ble_eq_true rfl, Nat.le_of_ble_eq_true rfl⟩ rfl (rest := []) rfl (Nat.le_of_ble_eq_true rfl) d10_tells_69 ⟨Nat.le_of_ble_eq_true rfl, Nat.le_of_ble_eq_true rfl⟩ (fun r w1 hr => ?_)
    obtain ⟨v25, S1_26, bo1_27, rfl, rfl, rfl, rfl, hq24⟩ := hr
    refine j_eq (ws' := [(mo, mO ad (upS S 62 (((S 62) + 1) + ((12 :: hoL (kd a) (kd a)).length : Int)))), (ad 24, aInt E 12 kd), (ad 25, aInt E 12 vv), (ad 63, aInt E 20 (trL (12 :: hoL (kd a) (kd a)) (((S 62) + 1)) (trB ((S 62)) bo 51)))]) rfl rfl rfl ?_
    try simp only [upS, reduceIte, Nat.reduceEqDiff, eq_self] at hq24
    exact j_iret G F d10_tells_72 ⟨v25, (upS S 62 (((S 62) + 1) + ((12 :: hoL (kd a) (kd a)).length : Int))), (trL (12 :: hoL (kd a) (kd a)) (((S 62) + 1)) (trB ((S 62)) bo 51)), rfl, rfl, (by first | rfl | (congr 1; simp only [teL, trL_app, List.length_cons, List.length_nil, List.length_append, Int.natCast_add, Int.natCast_one] <;> (repeat' split) <;> (try simp) <;> omega)), (by first | rfl | (simp only [teL] <;> (repeat' split) <;> first | rfl | (exfalso; omega) | (simp only [trL_app, trL, List.cons_append, List.nil_append, List.length_cons, List.length_nil, List.length_append] <;> first | rfl | (congr 1 <;> first | omega | (congr 1 <;> first | omega | (congr 1 <;> omega)))))), (by simp only [teV] <;> (repeat' split) <;> first | omega | (exfalso; omega))⟩
  ·
    refine j_tabIn (tgt := 73) G d10_tells_6 (by omega) 6 h2 ⟨by decide, by decide⟩ rfl (by decide) ?_
    refine j_aload_n G 0 rfl d10_tells_73 ?_
    refine j_bipush G d10_tells_74 rfl ?_
    refine j_VM G (rm' := { frames := 0, cells := 0, slots := 0, locals := 0 }) (wc := [(mo, mO ad S), (ad 63, aInt E 20 bo)]) (wr := [(ad 24, aInt E 12 kd), (ad 25, aInt E 12 vv)]) (k10_body (xl Γ) E mo ad S bo 70 (by first | assumption | omega | (simp only [upS, reduceIte, Nat.reduceEqDiff, eq_self, List.length_cons, List.length_nil, List.length_append] <;> omega))) mw10_body ml10_358 [0, 3] [1, 2] rfl rfl ⟨rfl, rfl⟩ (by decide) 0 10 rfl rfl rfl ⟨Nat.le_of_ble_eq_true rfl, Nat.le_of_ble_eq_true rfl⟩ rfl (rest := []) rfl (Nat.le_of_ble_eq_true rfl) d10_tells_76 ⟨Nat.le_of_ble_eq_true rfl, Nat.le_of_ble_eq_true rfl⟩ (fun r w1 hr => ?_)
    obtain ⟨S1_29, bo1_30, rfl, rfl, rfl, rfl, hq28⟩ := hr
    refine j_eq (ws' := [(ad 24, aInt E 12 kd), (ad 25, aInt E 12 vv), (mo, mO ad (upS S 62 ((S 62) + 1))), (ad 63, aInt E 20 (trB ((S 62)) bo 70))]) rfl rfl rfl ?_
    refine j_aload_n G 0 rfl d10_tells_79 ?_
    refine j_iload_n G 1 rfl d10_tells_80 ?_
    refine j_iload_n G 2 rfl d10_tells_81 ?_
    refine j_VM G (rm' := { frames := 5, cells := 0, slots := 0, locals := 109 }) (wc := [(mo, mO ad (upS S 62 ((S 62) + 1))), (ad 24, aInt E 12 kd), (ad 25, aInt E 12 vv), (ad 63, aInt E 20 (trB ((S 62)) bo 70))]) (wr := []) (k10_holdsAct (xl Γ) E mo ad (upS S 62 ((S 62) + 1)) kd vv (trB ((S 62)) bo 70) a x (by first | assumption | omega | (simp only [upS, reduceIte, Nat.reduceEqDiff, eq_self, List.length_cons, List.length_nil, List.length_append] <;> omega)) (by first | assumption | omega | (simp only [upS, reduceIte, Nat.reduceEqDiff, eq_self, List.length_cons, List.length_nil, List.length_append] <;> omega)) (by first | assumption | omega | (simp only [upS, reduceIte, Nat.reduceEqDiff, eq_self, List.length_cons, List.length_nil, List.length_append] <;> omega))) mw10_holdsAct ml10_373 [2, 0, 1, 3] [] rfl rfl ⟨rfl, rfl⟩ (by decide) 2 10 rfl rfl rfl ⟨Nat.le_of_ble_eq_true rfl, Nat.le_of_ble_eq_true rfl⟩ rfl (rest := []) rfl (Nat.le_of_ble_eq_true rfl) d10_tells_82 ⟨Nat.le_of_ble_eq_true rfl, Nat.le_of_ble_eq_true rfl⟩ (fun r w1 hr => ?_)
    obtain ⟨v32, S1_33, bo1_34, rfl, rfl, rfl, rfl, hq31⟩ := hr
    refine j_eq (ws' := [(mo, mO ad (upS S 62 (((S 62) + 1) + ((hoL (kd a) (kd a)).length : Int)))), (ad 24, aInt E 12 kd), (ad 25, aInt E 12 vv), (ad 63, aInt E 20 (trL (hoL (kd a) (kd a)) (((S 62) + 1)) (trB ((S 62)) bo 70)))]) rfl rfl rfl ?_
    try simp only [upS, reduceIte, Nat.reduceEqDiff, eq_self] at hq31
    refine j_istore G d10_tells_85 (by decide) rfl ?_
    refine j_iload G 0 rfl d10_tells_87 ?_
    refine j_aload_n G 1 rfl d10_tells_89 ?_
    refine j_iload_n G 2 rfl d10_tells_90 ?_
    refine j_iload_n G 3 rfl d10_tells_91 ?_
    refine j_VM G (rm' := { frames := 6, cells := 0, slots := 0, locals := 132 }) (wc := [(mo, mO ad (upS S 62 (((S 62) + 1) + ((hoL (kd a) (kd a)).length : Int)))), (ad 24, aInt E 12 kd), (ad 25, aInt E 12 vv), (ad 63, aInt E 20 (trL (hoL (kd a) (kd a)) (((S 62) + 1)) (trB ((S 62)) bo 70)))]) (wr := []) (k10_plainTells (xl Γ) E mo ad (upS S 62 (((S 62) + 1) + ((hoL (kd a) (kd a)).length : Int))) kd vv (trL (hoL (kd a) (kd a)) (((S 62) + 1)) (trB ((S 62)) bo 70)) a x (by first | assumption | omega | (simp only [upS, reduceIte, Nat.reduceEqDiff, eq_self, List.length_cons, List.length_nil, List.length_append] <;> omega)) (by first | assumption | omega | (simp only [upS, reduceIte, Nat.reduceEqDiff, eq_self, List.length_cons, List.length_nil, List.length_append] <;> omega)) (by first | assumption | omega | (simp only [upS, reduceIte, Nat.reduceEqDiff, eq_self, List.length_cons, List.length_nil, List.length_append] <;> omega))) mw10_plainTells ml10_376 [0, 1, 2, 3] [] rfl rfl ⟨rfl, rfl⟩ (by decide) 0 10 rfl rfl rfl ⟨Nat.le_of_ble_eq_true rfl, Nat.le_of_ble_eq_true rfl⟩ rfl (rest := [.int (iZ v32)]) rfl (Nat.le_of_ble_eq_true rfl) d10_tells_92 ⟨Nat.le_of_ble_eq_true rfl, Nat.le_of_ble_eq_true rfl⟩ (fun r w1 hr => ?_)
    obtain ⟨v36, S1_37, bo1_38, rfl, rfl, rfl, rfl, hq35⟩ := hr
    refine j_eq (ws' := [(mo, mO ad (upS S 62 ((((S 62) + 1) + ((hoL (kd a) (kd a)).length : Int)) + ((12 :: hoL (kd a) (kd a)).length : Int)))), (ad 24, aInt E 12 kd), (ad 25, aInt E 12 vv), (ad 63, aInt E 20 (trL (12 :: hoL (kd a) (kd a)) ((((S 62) + 1) + ((hoL (kd a) (kd a)).length : Int))) (trL (hoL (kd a) (kd a)) (((S 62) + 1)) (trB ((S 62)) bo 70))))]) rfl rfl rfl ?_
    try simp only [upS, reduceIte, Nat.reduceEqDiff, eq_self] at hq35
    refine j_isub G d10_tells_95 ?_
    exact j_iret G F d10_tells_96 ⟨v32 - v36, (upS S 62 ((((S 62) + 1) + ((hoL (kd a) (kd a)).length : Int)) + ((12 :: hoL (kd a) (kd a)).length : Int))), (trL (12 :: hoL (kd a) (kd a)) ((((S 62) + 1) + ((hoL (kd a) (kd a)).length : Int))) (trL (hoL (kd a) (kd a)) (((S 62) + 1)) (trB ((S 62)) bo 70))), rfl, rfl, (by first | rfl | (congr 1; simp only [teL, trL_app, List.length_cons, List.length_nil, List.length_append, Int.natCast_add, Int.natCast_one] <;> (repeat' split) <;> (try simp) <;> omega)), (by first | rfl | (simp only [teL] <;> (repeat' split) <;> first | rfl | (exfalso; omega) | (simp only [trL_app, trL, List.cons_append, List.nil_append, List.length_cons, List.length_nil, List.length_append] <;> first | rfl | (congr 1 <;> first | omega | (congr 1 <;> first | omega | (congr 1 <;> omega)))))), (by simp only [teV] <;> (repeat' split) <;> first | omega | (exfalso; omega))⟩
  ·
    refine j_tabOut (tgt := 97) G d10_tells_6 (by omega) h2 (by decide) ?_
    refine j_aload_n G 0 rfl d10_tells_97 ?_
    refine j_iload_n G 1 rfl d10_tells_98 ?_
    refine j_iload_n G 2 rfl d10_tells_99 ?_
    refine j_VM G (rm' := { frames := 6, cells := 0, slots := 0, locals := 132 }) (wc := [(mo, mO ad S), (ad 24, aInt E 12 kd), (ad 25, aInt E 12 vv), (ad 63, aInt E 20 bo)]) (wr := []) (k10_plainTells (xl Γ) E mo ad S kd vv bo a x (by first | assumption | omega | (simp only [upS, reduceIte, Nat.reduceEqDiff, eq_self, List.length_cons, List.length_nil, List.length_append] <;> omega)) (by first | assumption | omega | (simp only [upS, reduceIte, Nat.reduceEqDiff, eq_self, List.length_cons, List.length_nil, List.length_append] <;> omega)) (by first | assumption | omega | (simp only [upS, reduceIte, Nat.reduceEqDiff, eq_self, List.length_cons, List.length_nil, List.length_append] <;> omega))) mw10_plainTells ml10_376 [0, 1, 2, 3] [] rfl rfl ⟨rfl, rfl⟩ (by decide) 0 10 rfl rfl rfl ⟨Nat.le_of_ble_eq_true rfl, Nat.le_of_ble_eq_true rfl⟩ rfl (rest := []) rfl (Nat.le_of_ble_eq_true rfl) d10_tells_100 ⟨Nat.le_of_ble_eq_true rfl, Nat.le_of_ble_eq_true rfl⟩ (fun r w1 hr => ?_)
    obtain ⟨v40, S1_41, bo1_42, rfl, rfl, rfl, rfl, hq39⟩ := hr
    refine j_eq (ws' := [(mo, mO ad (upS S 62 ((S 62) + ((12 :: hoL (kd a) (kd a)).length : Int)))), (ad 24, aInt E 12 kd), (ad 25, aInt E 12 vv), (ad 63, aInt E 20 (trL (12 :: hoL (kd a) (kd a)) ((S 62)) bo))]) rfl rfl rfl ?_
    exact j_iret G F d10_tells_103 ⟨v40, (upS S 62 ((S 62) + ((12 :: hoL (kd a) (kd a)).length : Int))), (trL (12 :: hoL (kd a) (kd a)) ((S 62)) bo), rfl, rfl, (by first | rfl | (congr 1; simp only [teL, trL_app, List.length_cons, List.length_nil, List.length_append, Int.natCast_add, Int.natCast_one] <;> (repeat' split) <;> (try simp) <;> omega)), (by first | rfl | (simp only [teL] <;> (repeat' split) <;> first | rfl | (exfalso; omega) | (simp only [trL_app, trL, List.cons_append, List.nil_append, List.length_cons, List.length_nil, List.length_append] <;> first | rfl | (congr 1 <;> first | omega | (congr 1 <;> first | omega | (congr 1 <;> omega)))))), (by simp only [teV] <;> (repeat' split) <;> first | omega | (exfalso; omega))⟩
theorem d10_act_0 : decode c10_act 0 = .ok (.aload_n 0, 1) := by decide +kernel
theorem d10_act_1 : decode c10_act 1 = .ok (.iconst 0, 1) := by decide +kernel
theorem d10_act_2 : decode c10_act 2 = .ok (.putfield 200, 3) := by decide +kernel
theorem d10_act_5 : decode c10_act 5 = .ok (.aload_n 0, 1) := by decide +kernel
theorem d10_act_6 : decode c10_act 6 = .ok (.iload_n 1, 1) := by decide +kernel
theorem d10_act_7 : decode c10_act 7 = .ok (.invokevirtual 315, 3) := by decide +kernel
theorem d10_act_10 : decode c10_act 10 = .ok (.ifCond .eq 13, 3) := by decide +kernel
theorem d10_act_13 : decode c10_act 13 = .ok (.aload_n 0, 1) := by decide +kernel
theorem d10_act_14 : decode c10_act 14 = .ok (.iload_n 2, 1) := by decide +kernel
theorem d10_act_15 : decode c10_act 15 = .ok (.iconst 0, 1) := by decide +kernel
theorem d10_act_16 : decode c10_act 16 = .ok (.iconst 2, 1) := by decide +kernel
theorem d10_act_17 : decode c10_act 17 = .ok (.invokevirtual 219, 3) := by decide +kernel
theorem d10_act_20 : decode c10_act 20 = .ok (.ifCond .ne 5, 3) := by decide +kernel
theorem d10_act_23 : decode c10_act 23 = .ok (.iconst 0, 1) := by decide +kernel
theorem d10_act_24 : decode c10_act 24 = .ok (.ireturn, 1) := by decide +kernel
theorem d10_act_25 : decode c10_act 25 = .ok (.iload_n 2, 1) := by decide +kernel
theorem d10_act_26 : decode c10_act 26 = .ok (.ifCond .ne 12, 3) := by decide +kernel
theorem d10_act_29 : decode c10_act 29 = .ok (.aload_n 0, 1) := by decide +kernel
theorem d10_act_30 : decode c10_act 30 = .ok (.iload_n 1, 1) := by decide +kernel
theorem d10_act_31 : decode c10_act 31 = .ok (.iload_n 3, 1) := by decide +kernel
theorem d10_act_32 : decode c10_act 32 = .ok (.invokevirtual 367, 3) := by decide +kernel
theorem d10_act_35 : decode c10_act 35 = .ok (.goto 23, 3) := by decide +kernel
theorem d10_act_38 : decode c10_act 38 = .ok (.iload_n 2, 1) := by decide +kernel
theorem d10_act_39 : decode c10_act 39 = .ok (.iconst 1, 1) := by decide +kernel
theorem d10_act_40 : decode c10_act 40 = .ok (.if_icmp .ne 12, 3) := by decide +kernel
theorem d10_act_43 : decode c10_act 43 = .ok (.aload_n 0, 1) := by decide +kernel
theorem d10_act_44 : decode c10_act 44 = .ok (.iload_n 1, 1) := by decide +kernel
theorem d10_act_45 : decode c10_act 45 = .ok (.iload_n 3, 1) := by decide +kernel
theorem d10_act_46 : decode c10_act 46 = .ok (.invokevirtual 373, 3) := by decide +kernel
theorem d10_act_49 : decode c10_act 49 = .ok (.goto 9, 3) := by decide +kernel
theorem d10_act_52 : decode c10_act 52 = .ok (.aload_n 0, 1) := by decide +kernel
theorem d10_act_53 : decode c10_act 53 = .ok (.iload_n 1, 1) := by decide +kernel
theorem d10_act_54 : decode c10_act 54 = .ok (.iload_n 3, 1) := by decide +kernel
theorem d10_act_55 : decode c10_act 55 = .ok (.invokevirtual 379, 3) := by decide +kernel
theorem d10_act_58 : decode c10_act 58 = .ok (.ireturn, 1) := by decide +kernel
theorem mw10_act : MV y10_act c10_act 4 (some .int) 3 := ⟨cd10_act, ini10, na10_act, im10_act, se10_act⟩
set_option maxHeartbeats 4000000 in
set_option maxRecDepth 100000 in
theorem k10_act (l : Launch) (E : En) (mo : Nat) (ad : Nat → Nat) (S : Nat → Int) (kd : Int → Int) (vv : Int → Int) (bo : Int → Int) (a : Int) (b : Int) (x : Int) (r_a : R32 a) (r_b : R32 b) (hru : 0 ≤ S 23 ∧ S 23 ≤ 12) (hkd : ∀ j, 0 ≤ j → j < 12 → 0 ≤ kd j ∧ kd j ≤ 6) : Cm l E y10_act c10_act 4 (some .int) { frames := 8, cells := 0, slots := 0, locals := 178 } [.ref mo, .int (iZ a), .int (iZ b), .int (iZ x)] [(mo, mO ad S), (ad 24, aInt E 12 kd), (ad 25, aInt E 12 vv), (ad 63, aInt E 20 bo)] (fun r ws => ∃ (v : Int), ∃ (S1 : Nat → Int), ∃ (bo1 : Int → Int), r = some (.int (iZ v)) ∧ ws = [(mo, mO ad S1), (ad 24, aInt E 12 kd), (ad 25, aInt E 12 vv), (ad 63, aInt E 20 bo1)] ∧ ((((0 ≤ a ∧ a ≤ S 23 - 1) ∧ 0 ≤ b ∧ b ≤ 2) ∧ v = acV (kd a) a (vv a) b x ∧ S1 = upS S 62 ((acL (kd a) b).length : Int) ∧ bo1 = trL (acL (kd a) b) 0 bo) ∨ (¬ ((0 ≤ a ∧ a ≤ S 23 - 1) ∧ 0 ≤ b ∧ b ≤ 2) ∧ v = 0 ∧ S1 = upS S 62 0 ∧ bo1 = bo))) := by
  refine Cm.of rfl (Nat.le_of_ble_eq_true rfl) (fun Γ A hl ha hin G F => ?_)
  subst hl
  refine j_aload_n G 0 rfl d10_act_0 ?_
  refine j_iconst G d10_act_1 ?_
  refine j_put G 0 10 62 in10 tyok10 nm10 fl10_200 d10_act_2 rfl rfl (by decide) ⟨rfl, rfl⟩ rfl rfl (Nat.le_of_ble_eq_true rfl) (e := mO ad (upS S 62 0)) rfl ?_
  refine j_aload_n G 0 rfl d10_act_5 ?_
  refine j_iload_n G 1 rfl d10_act_6 ?_
  refine j_VP G (k10_isRule (xl Γ) E mo ad (upS S 62 0) a (by first | assumption | omega | (simp only [upS, reduceIte, Nat.reduceEqDiff, eq_self, List.length_cons, List.length_nil, List.length_append] <;> omega)) (by first | assumption | omega | (simp only [upS, reduceIte, Nat.reduceEqDiff, eq_self, List.length_cons, List.length_nil, List.length_append] <;> omega))) mw10_isRule ml10_315 [0] rfl 0 10 rfl rfl rfl ⟨Nat.le_of_ble_eq_true rfl, Nat.le_of_ble_eq_true rfl⟩ rfl (rest := []) rfl (Nat.le_of_ble_eq_true rfl) d10_act_7 ⟨Nat.le_of_ble_eq_true rfl, Nat.le_of_ble_eq_true rfl⟩ (fun r hr => ?_)
  obtain ⟨v2, rfl, hq1⟩ := hr
  try simp only [upS, reduceIte, Nat.reduceEqDiff, eq_self] at hq1
  rcases hq1 with ⟨hq1, rfl⟩ | ⟨hq1, rfl⟩
  ·
    refine j_if_eq (tgt := 23) G d10_act_10 (by decide) (by decide) (fun h3 => absurd h3 (by decide)) (fun h3 => ?_)
    refine j_aload_n G 0 rfl d10_act_13 ?_
    refine j_iload_n G 2 rfl d10_act_14 ?_
    refine j_iconst G d10_act_15 ?_
    refine j_iconst G d10_act_16 ?_
    refine j_VP G (k10_in (xl Γ) E mo b 0 2 (by first | assumption | omega | (simp only [upS, reduceIte, Nat.reduceEqDiff, eq_self, List.length_cons, List.length_nil, List.length_append] <;> omega)) (by first | assumption | omega | (simp only [upS, reduceIte, Nat.reduceEqDiff, eq_self, List.length_cons, List.length_nil, List.length_append] <;> omega)) (by first | assumption | omega | (simp only [upS, reduceIte, Nat.reduceEqDiff, eq_self, List.length_cons, List.length_nil, List.length_append] <;> omega))) mw10_in ml10_219 [] rfl 0 10 rfl rfl rfl ⟨Nat.le_of_ble_eq_true rfl, Nat.le_of_ble_eq_true rfl⟩ rfl (rest := []) rfl (Nat.le_of_ble_eq_true rfl) d10_act_17 ⟨Nat.le_of_ble_eq_true rfl, Nat.le_of_ble_eq_true rfl⟩ (fun r hr => ?_)
    obtain ⟨v5, rfl, hq4⟩ := hr
    rcases hq4 with ⟨hq4, rfl⟩ | ⟨hq4, rfl⟩
    ·
      refine j_if_ne (tgt := 25) G d10_act_20 (by decide) (by decide) (fun h6 => ?_) (fun h6 => absurd h6 (by decide))
      refine j_iload_n G 2 rfl d10_act_25 ?_
      refine j_if_ne (tgt := 38) G d10_act_26 (by decide) (by omega) (fun h7 => ?_) (fun h7 => ?_)
      ·
        refine j_iload_n G 2 rfl d10_act_38 ?_
        refine j_iconst G d10_act_39 ?_
        refine j_icmp_ne (tgt := 52) G d10_act_40 (by decide) (by omega) (by decide) (fun h8 => ?_) (fun h8 => ?_)
        ·
          refine j_aload_n G 0 rfl d10_act_52 ?_
          refine j_iload_n G 1 rfl d10_act_53 ?_
          refine j_iload_n G 3 rfl d10_act_54 ?_
          refine j_VM G (rm' := { frames := 7, cells := 0, slots := 0, locals := 154 }) (wc := [(mo, mO ad (upS S 62 0)), (ad 24, aInt E 12 kd), (ad 25, aInt E 12 vv), (ad 63, aInt E 20 bo)]) (wr := []) (k10_tells (xl Γ) E mo ad (upS S 62 0) kd vv bo a x (by first | assumption | omega | (simp only [upS, reduceIte, Nat.reduceEqDiff, eq_self, List.length_cons, List.length_nil, List.length_append] <;> omega)) (by first | assumption | omega | (simp only [upS, reduceIte, Nat.reduceEqDiff, eq_self, List.length_cons, List.length_nil, List.length_append] <;> omega)) (by first | assumption | omega | (simp only [upS, reduceIte, Nat.reduceEqDiff, eq_self, List.length_cons, List.length_nil, List.length_append] <;> omega))) mw10_tells ml10_379 [0, 1, 2, 3] [] rfl rfl ⟨rfl, rfl⟩ (by decide) 0 10 rfl rfl rfl ⟨Nat.le_of_ble_eq_true rfl, Nat.le_of_ble_eq_true rfl⟩ rfl (rest := []) rfl (Nat.le_of_ble_eq_true rfl) d10_act_55 ⟨Nat.le_of_ble_eq_true rfl, Nat.le_of_ble_eq_true rfl⟩ (fun r w1 hr => ?_)
          obtain ⟨v10, S1_11, bo1_12, rfl, rfl, rfl, rfl, hq9⟩ := hr
          refine j_eq (ws' := [(mo, mO ad (upS S 62 (0 + ((teL (kd a) (kd a)).length : Int)))), (ad 24, aInt E 12 kd), (ad 25, aInt E 12 vv), (ad 63, aInt E 20 (trL (teL (kd a) (kd a)) (0) bo))]) rfl rfl rfl ?_
          try simp only [upS, reduceIte, Nat.reduceEqDiff, eq_self] at hq9
          exact j_iret G F d10_act_58 ⟨v10, (upS S 62 (0 + ((teL (kd a) (kd a)).length : Int))), (trL (teL (kd a) (kd a)) (0) bo), rfl, rfl, (by first | (left; exact ⟨by omega, by (simp only [acV] <;> (repeat' split) <;> first | omega | (exfalso; omega)), by (simp only [acL] <;> (repeat' split) <;> first | (congr 1; omega) | (exfalso; omega)), by (simp only [acL] <;> (repeat' split) <;> first | rfl | (exfalso; omega))⟩) | (right; exact ⟨by omega, rfl, rfl, rfl⟩))⟩
        ·
          refine j_aload_n G 0 rfl d10_act_43 ?_
          refine j_iload_n G 1 rfl d10_act_44 ?_
          refine j_iload_n G 3 rfl d10_act_45 ?_
          refine j_VM G (rm' := { frames := 5, cells := 0, slots := 0, locals := 109 }) (wc := [(mo, mO ad (upS S 62 0)), (ad 24, aInt E 12 kd), (ad 25, aInt E 12 vv), (ad 63, aInt E 20 bo)]) (wr := []) (k10_holdsAct (xl Γ) E mo ad (upS S 62 0) kd vv bo a x (by first | assumption | omega | (simp only [upS, reduceIte, Nat.reduceEqDiff, eq_self, List.length_cons, List.length_nil, List.length_append] <;> omega)) (by first | assumption | omega | (simp only [upS, reduceIte, Nat.reduceEqDiff, eq_self, List.length_cons, List.length_nil, List.length_append] <;> omega)) (by first | assumption | omega | (simp only [upS, reduceIte, Nat.reduceEqDiff, eq_self, List.length_cons, List.length_nil, List.length_append] <;> omega))) mw10_holdsAct ml10_373 [0, 1, 2, 3] [] rfl rfl ⟨rfl, rfl⟩ (by decide) 0 10 rfl rfl rfl ⟨Nat.le_of_ble_eq_true rfl, Nat.le_of_ble_eq_true rfl⟩ rfl (rest := []) rfl (Nat.le_of_ble_eq_true rfl) d10_act_46 ⟨Nat.le_of_ble_eq_true rfl, Nat.le_of_ble_eq_true rfl⟩ (fun r w1 hr => ?_)
          obtain ⟨v14, S1_15, bo1_16, rfl, rfl, rfl, rfl, hq13⟩ := hr
          refine j_eq (ws' := [(mo, mO ad (upS S 62 (0 + ((hoL (kd a) (kd a)).length : Int)))), (ad 24, aInt E 12 kd), (ad 25, aInt E 12 vv), (ad 63, aInt E 20 (trL (hoL (kd a) (kd a)) (0) bo))]) rfl rfl rfl ?_
          try simp only [upS, reduceIte, Nat.reduceEqDiff, eq_self] at hq13
          refine j_goto (tgt := 58) G d10_act_49 (by decide) ?_
          exact j_iret G F d10_act_58 ⟨v14, (upS S 62 (0 + ((hoL (kd a) (kd a)).length : Int))), (trL (hoL (kd a) (kd a)) (0) bo), rfl, rfl, (by first | (left; exact ⟨by omega, by (simp only [acV] <;> (repeat' split) <;> first | omega | (exfalso; omega)), by (simp only [acL] <;> (repeat' split) <;> first | (congr 1; omega) | (exfalso; omega)), by (simp only [acL] <;> (repeat' split) <;> first | rfl | (exfalso; omega))⟩) | (right; exact ⟨by omega, rfl, rfl, rfl⟩))⟩
      ·
        refine j_aload_n G 0 rfl d10_act_29 ?_
        refine j_iload_n G 1 rfl d10_act_30 ?_
        refine j_iload_n G 3 rfl d10_act_31 ?_
        refine j_VM G (rm' := { frames := 3, cells := 0, slots := 0, locals := 65 }) (wc := [(mo, mO ad (upS S 62 0)), (ad 24, aInt E 12 kd), (ad 63, aInt E 20 bo)]) (wr := [(ad 25, aInt E 12 vv)]) (k10_goes (xl Γ) E mo ad (upS S 62 0) kd bo a x (by first | assumption | omega | (simp only [upS, reduceIte, Nat.reduceEqDiff, eq_self, List.length_cons, List.length_nil, List.length_append] <;> omega)) (by first | assumption | omega | (simp only [upS, reduceIte, Nat.reduceEqDiff, eq_self, List.length_cons, List.length_nil, List.length_append] <;> omega)) (by first | assumption | omega | (simp only [upS, reduceIte, Nat.reduceEqDiff, eq_self, List.length_cons, List.length_nil, List.length_append] <;> omega))) mw10_goes ml10_367 [0, 1, 3] [2] rfl rfl ⟨rfl, rfl⟩ (by decide) 0 10 rfl rfl rfl ⟨Nat.le_of_ble_eq_true rfl, Nat.le_of_ble_eq_true rfl⟩ rfl (rest := []) rfl (Nat.le_of_ble_eq_true rfl) d10_act_32 ⟨Nat.le_of_ble_eq_true rfl, Nat.le_of_ble_eq_true rfl⟩ (fun r w1 hr => ?_)
        obtain ⟨v18, S1_19, bo1_20, rfl, rfl, rfl, rfl, hq17⟩ := hr
        refine j_eq (ws' := [(ad 25, aInt E 12 vv), (mo, mO ad (upS S 62 (0 + ((goL (kd a)).length : Int)))), (ad 24, aInt E 12 kd), (ad 63, aInt E 20 (trL (goL (kd a)) (0) bo))]) rfl rfl rfl ?_
        try simp only [upS, reduceIte, Nat.reduceEqDiff, eq_self] at hq17
        refine j_goto (tgt := 58) G d10_act_35 (by decide) ?_
        refine j_perm (ws' := [(mo, mO ad (upS S 62 (0 + ((goL (kd a)).length : Int)))), (ad 24, aInt E 12 kd), (ad 25, aInt E 12 vv), (ad 63, aInt E 20 (trL (goL (kd a)) (0) bo))]) [1, 2, 0, 3] rfl rfl rfl ?_
        exact j_iret G F d10_act_58 ⟨v18, (upS S 62 (0 + ((goL (kd a)).length : Int))), (trL (goL (kd a)) (0) bo), rfl, rfl, (by first | (left; exact ⟨by omega, by (simp only [acV] <;> (repeat' split) <;> first | omega | (exfalso; omega)), by (simp only [acL] <;> (repeat' split) <;> first | (congr 1; omega) | (exfalso; omega)), by (simp only [acL] <;> (repeat' split) <;> first | rfl | (exfalso; omega))⟩) | (right; exact ⟨by omega, rfl, rfl, rfl⟩))⟩
    ·
      refine j_if_ne (tgt := 25) G d10_act_20 (by decide) (by decide) (fun h21 => absurd h21 (by decide)) (fun h21 => ?_)
      refine j_iconst G d10_act_23 ?_
      exact j_iret G F d10_act_24 ⟨0, (upS S 62 0), bo, rfl, rfl, (by first | (left; exact ⟨by omega, by (simp only [acV] <;> (repeat' split) <;> first | omega | (exfalso; omega)), by (simp only [acL] <;> (repeat' split) <;> first | (congr 1; omega) | (exfalso; omega)), by (simp only [acL] <;> (repeat' split) <;> first | rfl | (exfalso; omega))⟩) | (right; exact ⟨by omega, rfl, rfl, rfl⟩))⟩
  ·
    refine j_if_eq (tgt := 23) G d10_act_10 (by decide) (by decide) (fun h22 => ?_) (fun h22 => absurd h22 (by decide))
    refine j_iconst G d10_act_23 ?_
    exact j_iret G F d10_act_24 ⟨0, (upS S 62 0), bo, rfl, rfl, (by first | (left; exact ⟨by omega, by (simp only [acV] <;> (repeat' split) <;> first | omega | (exfalso; omega)), by (simp only [acL] <;> (repeat' split) <;> first | (congr 1; omega) | (exfalso; omega)), by (simp only [acL] <;> (repeat' split) <;> first | rfl | (exfalso; omega))⟩) | (right; exact ⟨by omega, rfl, rfl, rfl⟩))⟩
