theorem d10_isStep_0 : decode c10_isStep 0 = .ok (.aload_n 0, 1) := by decide +kernel
theorem d10_isStep_1 : decode c10_isStep 1 = .ok (.iload_n 1, 1) := by decide +kernel
theorem d10_isStep_2 : decode c10_isStep 2 = .ok (.iconst 0, 1) := by decide +kernel
theorem d10_isStep_3 : decode c10_isStep 3 = .ok (.bipush 11, 2) := by decide +kernel
theorem d10_isStep_5 : decode c10_isStep 5 = .ok (.invokevirtual 219, 3) := by decide +kernel
theorem d10_isStep_8 : decode c10_isStep 8 = .ok (.ireturn, 1) := by decide +kernel
theorem mw10_isStep : MV y10_isStep c10_isStep 2 (some .boolean) 1 := ⟨cd10_isStep, ini10, na10_isStep, im10_isStep, se10_isStep⟩
set_option maxHeartbeats 4000000 in
set_option maxRecDepth 100000 in
theorem k10_isStep (l : Launch) (E : En) (h0 : Nat) (S : Nat → Int) (ad : Nat → Nat) (a : Int) (r_a : R32 a) : Cp l E y10_isStep c10_isStep 2 (some .boolean) 1 23 [.ref h0, .int (iZ a)] [(h0, mO ad S)] (fun r => ∃ (v : Int), r = some (.int (iZ v)) ∧ (((0 ≤ a ∧ a ≤ 11) ∧ v = 1) ∨ (¬ (0 ≤ a ∧ a ≤ 11) ∧ v = 0))) := by
  refine Cp.of rfl (Nat.le_of_ble_eq_true rfl) (fun Γ hl ha G F => ?_)
  subst hl
  refine j_aload_n G 0 rfl d10_isStep_0 ?_
  refine j_iload_n G 1 rfl d10_isStep_1 ?_
  refine j_iconst G d10_isStep_2 ?_
  refine j_bipush G d10_isStep_3 rfl ?_
  refine j_VP G (k10_in (xl Γ) E h0 a 0 11 (by first | assumption | omega) (by first | assumption | omega) (by first | assumption | omega)) mw10_in ml10_219 [] rfl 0 10 rfl rfl rfl ⟨Nat.le_of_ble_eq_true rfl, Nat.le_of_ble_eq_true rfl⟩ rfl (rest := []) rfl (Nat.le_of_ble_eq_true rfl) d10_isStep_5 ⟨Nat.le_of_ble_eq_true rfl, Nat.le_of_ble_eq_true rfl⟩ (fun r hr => ?_)
  obtain ⟨v2, rfl, hq1⟩ := hr
  rcases hq1 with ⟨hq1, rfl⟩ | ⟨hq1, rfl⟩
  ·
    exact j_zret G F d10_isStep_8 (by decide) ⟨1, rfl, (by first | (left; exact ⟨by omega, rfl⟩) | (right; exact ⟨by omega, rfl⟩))⟩
  ·
    exact j_zret G F d10_isStep_8 (by decide) ⟨0, rfl, (by first | (left; exact ⟨by omega, rfl⟩) | (right; exact ⟨by omega, rfl⟩))⟩
theorem d10_isRule_0 : decode c10_isRule 0 = .ok (.aload_n 0, 1) := by decide +kernel
theorem d10_isRule_1 : decode c10_isRule 1 = .ok (.iload_n 1, 1) := by decide +kernel
theorem d10_isRule_2 : decode c10_isRule 2 = .ok (.iconst 0, 1) := by decide +kernel
theorem d10_isRule_3 : decode c10_isRule 3 = .ok (.aload_n 0, 1) := by decide +kernel
theorem d10_isRule_4 : decode c10_isRule 4 = .ok (.getfield 82, 3) := by decide +kernel
theorem d10_isRule_7 : decode c10_isRule 7 = .ok (.iconst 1, 1) := by decide +kernel
theorem d10_isRule_8 : decode c10_isRule 8 = .ok (.isub, 1) := by decide +kernel
theorem d10_isRule_9 : decode c10_isRule 9 = .ok (.invokevirtual 219, 3) := by decide +kernel
theorem d10_isRule_12 : decode c10_isRule 12 = .ok (.ireturn, 1) := by decide +kernel
theorem mw10_isRule : MV y10_isRule c10_isRule 2 (some .boolean) 1 := ⟨cd10_isRule, ini10, na10_isRule, im10_isRule, se10_isRule⟩
set_option maxHeartbeats 4000000 in
set_option maxRecDepth 100000 in
theorem k10_isRule (l : Launch) (E : En) (mo : Nat) (ad : Nat → Nat) (S : Nat → Int) (a : Int) (r_a : R32 a) (hru : 0 ≤ S 23 ∧ S 23 ≤ 12) : Cp l E y10_isRule c10_isRule 2 (some .boolean) 1 23 [.ref mo, .int (iZ a)] [(mo, mO ad S)] (fun r => ∃ (v : Int), r = some (.int (iZ v)) ∧ (((0 ≤ a ∧ a ≤ S 23 - 1) ∧ v = 1) ∨ (¬ (0 ≤ a ∧ a ≤ S 23 - 1) ∧ v = 0))) := by
  refine Cp.of rfl (Nat.le_of_ble_eq_true rfl) (fun Γ hl ha G F => ?_)
  subst hl
  refine j_aload_n G 0 rfl d10_isRule_0 ?_
  refine j_iload_n G 1 rfl d10_isRule_1 ?_
  refine j_iconst G d10_isRule_2 ?_
  refine j_aload_n G 0 rfl d10_isRule_3 ?_
  refine j_get G 0 10 23 in10 fl10_82 d10_isRule_4 rfl rfl (by decide) (v := .int (iZ (S 23))) rfl rfl ?_
  refine j_iconst G d10_isRule_7 ?_
  refine j_isub G d10_isRule_8 ?_
  refine j_VP G (k10_in (xl Γ) E mo a 0 ((S 23) - 1) (by first | assumption | omega) (by first | assumption | omega) (by first | assumption | omega)) mw10_in ml10_219 [] rfl 0 10 rfl rfl rfl ⟨Nat.le_of_ble_eq_true rfl, Nat.le_of_ble_eq_true rfl⟩ rfl (rest := []) rfl (Nat.le_of_ble_eq_true rfl) d10_isRule_9 ⟨Nat.le_of_ble_eq_true rfl, Nat.le_of_ble_eq_true rfl⟩ (fun r hr => ?_)
  obtain ⟨v2, rfl, hq1⟩ := hr
  rcases hq1 with ⟨hq1, rfl⟩ | ⟨hq1, rfl⟩
  ·
    exact j_zret G F d10_isRule_12 (by decide) ⟨1, rfl, (by first | (left; exact ⟨by omega, rfl⟩) | (right; exact ⟨by omega, rfl⟩))⟩
  ·
    exact j_zret G F d10_isRule_12 (by decide) ⟨0, rfl, (by first | (left; exact ⟨by omega, rfl⟩) | (right; exact ⟨by omega, rfl⟩))⟩
theorem d10_isTape_0 : decode c10_isTape 0 = .ok (.aload_n 0, 1) := by decide +kernel
theorem d10_isTape_1 : decode c10_isTape 1 = .ok (.iload_n 1, 1) := by decide +kernel
theorem d10_isTape_2 : decode c10_isTape 2 = .ok (.iconst 0, 1) := by decide +kernel
theorem d10_isTape_3 : decode c10_isTape 3 = .ok (.iconst 5, 1) := by decide +kernel
theorem d10_isTape_4 : decode c10_isTape 4 = .ok (.invokevirtual 219, 3) := by decide +kernel
theorem d10_isTape_7 : decode c10_isTape 7 = .ok (.ireturn, 1) := by decide +kernel
theorem mw10_isTape : MV y10_isTape c10_isTape 2 (some .boolean) 1 := ⟨cd10_isTape, ini10, na10_isTape, im10_isTape, se10_isTape⟩
set_option maxHeartbeats 4000000 in
set_option maxRecDepth 100000 in
theorem k10_isTape (l : Launch) (E : En) (mo : Nat) (ad : Nat → Nat) (S : Nat → Int) (a : Int) (r_a : R32 a) : Cp l E y10_isTape c10_isTape 2 (some .boolean) 1 23 [.ref mo, .int (iZ a)] [(mo, mO ad S)] (fun r => ∃ (v : Int), r = some (.int (iZ v)) ∧ (((0 ≤ a ∧ a ≤ 5) ∧ v = 1) ∨ (¬ (0 ≤ a ∧ a ≤ 5) ∧ v = 0))) := by
  refine Cp.of rfl (Nat.le_of_ble_eq_true rfl) (fun Γ hl ha G F => ?_)
  subst hl
  refine j_aload_n G 0 rfl d10_isTape_0 ?_
  refine j_iload_n G 1 rfl d10_isTape_1 ?_
  refine j_iconst G d10_isTape_2 ?_
  refine j_iconst G d10_isTape_3 ?_
  refine j_VP G (k10_in (xl Γ) E mo a 0 5 (by first | assumption | omega) (by first | assumption | omega) (by first | assumption | omega)) mw10_in ml10_219 [] rfl 0 10 rfl rfl rfl ⟨Nat.le_of_ble_eq_true rfl, Nat.le_of_ble_eq_true rfl⟩ rfl (rest := []) rfl (Nat.le_of_ble_eq_true rfl) d10_isTape_4 ⟨Nat.le_of_ble_eq_true rfl, Nat.le_of_ble_eq_true rfl⟩ (fun r hr => ?_)
  obtain ⟨v2, rfl, hq1⟩ := hr
  rcases hq1 with ⟨hq1, rfl⟩ | ⟨hq1, rfl⟩
  ·
    exact j_zret G F d10_isTape_7 (by decide) ⟨1, rfl, (by first | (left; exact ⟨by omega, rfl⟩) | (right; exact ⟨by omega, rfl⟩))⟩
  ·
    exact j_zret G F d10_isTape_7 (by decide) ⟨0, rfl, (by first | (left; exact ⟨by omega, rfl⟩) | (right; exact ⟨by omega, rfl⟩))⟩
theorem d10_lastOf_0 : decode c10_lastOf 0 = .ok (.aload_n 0, 1) := by decide +kernel
theorem d10_lastOf_1 : decode c10_lastOf 1 = .ok (.getfield 44, 3) := by decide +kernel
theorem d10_lastOf_4 : decode c10_lastOf 4 = .ok (.bipush 9, 2) := by decide +kernel
theorem d10_lastOf_6 : decode c10_lastOf 6 = .ok (.aload_n 0, 1) := by decide +kernel
theorem d10_lastOf_7 : decode c10_lastOf 7 = .ok (.getfield 13, 3) := by decide +kernel
theorem d10_lastOf_10 : decode c10_lastOf 10 = .ok (.imul, 1) := by decide +kernel
theorem d10_lastOf_11 : decode c10_lastOf 11 = .ok (.iload_n 1, 1) := by decide +kernel
theorem d10_lastOf_12 : decode c10_lastOf 12 = .ok (.iadd, 1) := by decide +kernel
theorem d10_lastOf_13 : decode c10_lastOf 13 = .ok (.iaload, 1) := by decide +kernel
theorem d10_lastOf_14 : decode c10_lastOf 14 = .ok (.ireturn, 1) := by decide +kernel
theorem mw10_lastOf : MV y10_lastOf c10_lastOf 2 (some .int) 1 := ⟨cd10_lastOf, ini10, na10_lastOf, im10_lastOf, se10_lastOf⟩
set_option maxHeartbeats 4000000 in
set_option maxRecDepth 100000 in
theorem k10_lastOf (l : Launch) (E : En) (mo : Nat) (ad : Nat → Nat) (S : Nat → Int) (la : Int → Int) (a : Int) (hth : 0 ≤ S 1 ∧ S 1 ≤ 3) (ha : 0 ≤ a ∧ a ≤ 8) : Cp l E y10_lastOf c10_lastOf 2 (some .int) 0 0 [.ref mo, .int (iZ a)] [(mo, mO ad S), (ad 11, aInt E 36 la)] (fun r => ∃ (v : Int), r = some (.int (iZ v)) ∧ (v = la (9 * S 1 + a))) := by
  refine Cp.of rfl (Nat.le_of_ble_eq_true rfl) (fun Γ hl ha G F => ?_)
  subst hl
  refine j_aload_n G 0 rfl d10_lastOf_0 ?_
  refine j_get G 0 10 11 in10 fl10_44 d10_lastOf_1 rfl rfl (by decide) (v := .ref (ad 11)) rfl rfl ?_
  refine j_bipush G d10_lastOf_4 rfl ?_
  refine j_aload_n G 0 rfl d10_lastOf_6 ?_
  refine j_get G 0 10 1 in10 fl10_13 d10_lastOf_7 rfl rfl (by decide) (v := .int (iZ (S 1))) rfl rfl ?_
  refine j_imul G d10_lastOf_10 ?_
  refine j_iload_n G 1 rfl d10_lastOf_11 ?_
  refine j_iadd G d10_lastOf_12 ?_
  refine j_iald G 1 rfl (by omega) d10_lastOf_13 ?_
  exact j_iret G F d10_lastOf_14 ⟨la ((9 * (S 1)) + a), rfl, (by rfl)⟩
theorem d10_come_0 : decode c10_come 0 = .ok (.aload_n 0, 1) := by decide +kernel
theorem d10_come_1 : decode c10_come 1 = .ok (.iload_n 1, 1) := by decide +kernel
theorem d10_come_2 : decode c10_come 2 = .ok (.invokevirtual 293, 3) := by decide +kernel
theorem d10_come_5 : decode c10_come 5 = .ok (.ifCond .eq 13, 3) := by decide +kernel
theorem d10_come_8 : decode c10_come 8 = .ok (.aload_n 0, 1) := by decide +kernel
theorem d10_come_9 : decode c10_come 9 = .ok (.iload_n 2, 1) := by decide +kernel
theorem d10_come_10 : decode c10_come 10 = .ok (.iconst 0, 1) := by decide +kernel
theorem d10_come_11 : decode c10_come 11 = .ok (.iconst 1, 1) := by decide +kernel
theorem d10_come_12 : decode c10_come 12 = .ok (.invokevirtual 219, 3) := by decide +kernel
theorem d10_come_15 : decode c10_come 15 = .ok (.ifCond .ne 5, 3) := by decide +kernel
theorem d10_come_18 : decode c10_come 18 = .ok (.iconst (-1), 1) := by decide +kernel
theorem d10_come_19 : decode c10_come 19 = .ok (.ireturn, 1) := by decide +kernel
theorem d10_come_20 : decode c10_come 20 = .ok (.aload_n 0, 1) := by decide +kernel
theorem d10_come_21 : decode c10_come 21 = .ok (.iload_n 3, 1) := by decide +kernel
theorem d10_come_22 : decode c10_come 22 = .ok (.iconst 0, 1) := by decide +kernel
theorem d10_come_23 : decode c10_come 23 = .ok (.bipush 6, 2) := by decide +kernel
theorem d10_come_25 : decode c10_come 25 = .ok (.invokevirtual 219, 3) := by decide +kernel
theorem d10_come_28 : decode c10_come 28 = .ok (.ifCond .ne 6, 3) := by decide +kernel
theorem d10_come_31 : decode c10_come 31 = .ok (.bipush (-2), 2) := by decide +kernel
theorem d10_come_33 : decode c10_come 33 = .ok (.ireturn, 1) := by decide +kernel
theorem d10_come_34 : decode c10_come 34 = .ok (.aload_n 0, 1) := by decide +kernel
theorem d10_come_35 : decode c10_come 35 = .ok (.getfield 79, 3) := by decide +kernel
theorem d10_come_38 : decode c10_come 38 = .ok (.bipush 12, 2) := by decide +kernel
theorem d10_come_40 : decode c10_come 40 = .ok (.iload_n 2, 1) := by decide +kernel
theorem d10_come_41 : decode c10_come 41 = .ok (.imul, 1) := by decide +kernel
theorem d10_come_42 : decode c10_come 42 = .ok (.iload_n 1, 1) := by decide +kernel
theorem d10_come_43 : decode c10_come 43 = .ok (.iadd, 1) := by decide +kernel
theorem d10_come_44 : decode c10_come 44 = .ok (.iaload, 1) := by decide +kernel
theorem d10_come_45 : decode c10_come 45 = .ok (.istore 4, 2) := by decide +kernel
theorem d10_come_47 : decode c10_come 47 = .ok (.aload_n 0, 1) := by decide +kernel
theorem d10_come_48 : decode c10_come 48 = .ok (.getfield 79, 3) := by decide +kernel
theorem d10_come_51 : decode c10_come 51 = .ok (.bipush 12, 2) := by decide +kernel
theorem d10_come_53 : decode c10_come 53 = .ok (.iload_n 2, 1) := by decide +kernel
theorem d10_come_54 : decode c10_come 54 = .ok (.imul, 1) := by decide +kernel
theorem d10_come_55 : decode c10_come 55 = .ok (.iload_n 1, 1) := by decide +kernel
theorem d10_come_56 : decode c10_come 56 = .ok (.iadd, 1) := by decide +kernel
theorem d10_come_57 : decode c10_come 57 = .ok (.iload_n 3, 1) := by decide +kernel
theorem d10_come_58 : decode c10_come 58 = .ok (.iastore, 1) := by decide +kernel
theorem d10_come_59 : decode c10_come 59 = .ok (.iload 4, 2) := by decide +kernel
theorem d10_come_61 : decode c10_come 61 = .ok (.ireturn, 1) := by decide +kernel
theorem mw10_come : MV y10_come c10_come 5 (some .int) 3 := ⟨cd10_come, ini10, na10_come, im10_come, se10_come⟩
set_option maxHeartbeats 4000000 in
set_option maxRecDepth 100000 in
theorem k10_come (l : Launch) (E : En) (mo : Nat) (ad : Nat → Nat) (S : Nat → Int) (g : Int → Int) (step : Int) (side : Int) (cnt : Int) (r_step : R32 step) (r_side : R32 side) (r_cnt : R32 cnt) : Cm l E y10_come c10_come 5 (some .int) { frames := 2, cells := 0, slots := 0, locals := 44 } [.ref mo, .int (iZ step), .int (iZ side), .int (iZ cnt)] [(mo, mO ad S), (ad 22, aInt E 24 g)] (fun r ws => ∃ (v : Int), ∃ (g1 : Int → Int), r = some (.int (iZ v)) ∧ ws = [(mo, mO ad S), (ad 22, aInt E 24 g1)] ∧ (v = comeA g step side cnt ∧ g1 = comeG g step side cnt)) := by
  refine Cm.of rfl (Nat.le_of_ble_eq_true rfl) (fun Γ A hl ha hin G F => ?_)
  subst hl
  refine j_aload_n G 0 rfl d10_come_0 ?_
  refine j_iload_n G 1 rfl d10_come_1 ?_
  refine j_VP G (k10_isStep (xl Γ) E mo S ad step (by first | assumption | omega)) mw10_isStep ml10_293 [0] rfl 0 10 rfl rfl rfl ⟨Nat.le_of_ble_eq_true rfl, Nat.le_of_ble_eq_true rfl⟩ rfl (rest := []) rfl (Nat.le_of_ble_eq_true rfl) d10_come_2 ⟨Nat.le_of_ble_eq_true rfl, Nat.le_of_ble_eq_true rfl⟩ (fun r hr => ?_)
  obtain ⟨v2, rfl, hq1⟩ := hr
  rcases hq1 with ⟨hq1, rfl⟩ | ⟨hq1, rfl⟩
  ·
    refine j_if_eq (tgt := 18) G d10_come_5 (by decide) (by decide) (fun h3 => absurd h3 (by decide)) (fun h3 => ?_)
    refine j_aload_n G 0 rfl d10_come_8 ?_
    refine j_iload_n G 2 rfl d10_come_9 ?_
    refine j_iconst G d10_come_10 ?_
    refine j_iconst G d10_come_11 ?_
    refine j_VP G (k10_in (xl Γ) E mo side 0 1 (by first | assumption | omega) (by first | assumption | omega) (by first | assumption | omega)) mw10_in ml10_219 [] rfl 0 10 rfl rfl rfl ⟨Nat.le_of_ble_eq_true rfl, Nat.le_of_ble_eq_true rfl⟩ rfl (rest := []) rfl (Nat.le_of_ble_eq_true rfl) d10_come_12 ⟨Nat.le_of_ble_eq_true rfl, Nat.le_of_ble_eq_true rfl⟩ (fun r hr => ?_)
    obtain ⟨v5, rfl, hq4⟩ := hr
    rcases hq4 with ⟨hq4, rfl⟩ | ⟨hq4, rfl⟩
    ·
      refine j_if_ne (tgt := 20) G d10_come_15 (by decide) (by decide) (fun h6 => ?_) (fun h6 => absurd h6 (by decide))
      refine j_aload_n G 0 rfl d10_come_20 ?_
      refine j_iload_n G 3 rfl d10_come_21 ?_
      refine j_iconst G d10_come_22 ?_
      refine j_bipush G d10_come_23 rfl ?_
      refine j_VP G (k10_in (xl Γ) E mo cnt 0 6 (by first | assumption | omega) (by first | assumption | omega) (by first | assumption | omega)) mw10_in ml10_219 [] rfl 0 10 rfl rfl rfl ⟨Nat.le_of_ble_eq_true rfl, Nat.le_of_ble_eq_true rfl⟩ rfl (rest := []) rfl (Nat.le_of_ble_eq_true rfl) d10_come_25 ⟨Nat.le_of_ble_eq_true rfl, Nat.le_of_ble_eq_true rfl⟩ (fun r hr => ?_)
      obtain ⟨v8, rfl, hq7⟩ := hr
      rcases hq7 with ⟨hq7, rfl⟩ | ⟨hq7, rfl⟩
      ·
        refine j_if_ne (tgt := 34) G d10_come_28 (by decide) (by decide) (fun h9 => ?_) (fun h9 => absurd h9 (by decide))
        refine j_aload_n G 0 rfl d10_come_34 ?_
        refine j_get G 0 10 22 in10 fl10_79 d10_come_35 rfl rfl (by decide) (v := .ref (ad 22)) rfl rfl ?_
        refine j_bipush G d10_come_38 rfl ?_
        refine j_iload_n G 2 rfl d10_come_40 ?_
        refine j_imul G d10_come_41 ?_
        refine j_iload_n G 1 rfl d10_come_42 ?_
        refine j_iadd G d10_come_43 ?_
        refine j_iald G 1 rfl (by omega) d10_come_44 ?_
        refine j_istore G d10_come_45 (by decide) rfl ?_
        refine j_aload_n G 1 rfl d10_come_47 ?_
        refine j_get G 0 10 22 in10 fl10_79 d10_come_48 rfl rfl (by decide) (v := .ref (ad 22)) rfl rfl ?_
        refine j_bipush G d10_come_51 rfl ?_
        refine j_iload_n G 3 rfl d10_come_53 ?_
        refine j_imul G d10_come_54 ?_
        refine j_iload_n G 2 rfl d10_come_55 ?_
        refine j_iadd G d10_come_56 ?_
        refine j_iload_n G 4 rfl d10_come_57 ?_
        refine j_iast G 1 rfl (by omega) d10_come_58 ?_
        refine j_iload G 0 rfl d10_come_59 ?_
        exact j_iret G F d10_come_61 ⟨g ((12 * side) + step), (upI g ((12 * side) + step) cnt), rfl, rfl, (by refine ⟨?_, ?_⟩ <;> (try simp only [comeA, comeG]) <;> (repeat' split) <;> first | rfl | omega | (exfalso; omega))⟩
      ·
        refine j_if_ne (tgt := 34) G d10_come_28 (by decide) (by decide) (fun h10 => absurd h10 (by decide)) (fun h10 => ?_)
        refine j_bipush G d10_come_31 rfl ?_
        exact j_iret G F d10_come_33 ⟨(-2), g, rfl, rfl, (by refine ⟨?_, ?_⟩ <;> (try simp only [comeA, comeG]) <;> (repeat' split) <;> first | rfl | omega | (exfalso; omega))⟩
    ·
      refine j_if_ne (tgt := 20) G d10_come_15 (by decide) (by decide) (fun h11 => absurd h11 (by decide)) (fun h11 => ?_)
      refine j_iconst G d10_come_18 ?_
      exact j_iret G F d10_come_19 ⟨(-1), g, rfl, rfl, (by refine ⟨?_, ?_⟩ <;> (try simp only [comeA, comeG]) <;> (repeat' split) <;> first | rfl | omega | (exfalso; omega))⟩
  ·
    refine j_if_eq (tgt := 18) G d10_come_5 (by decide) (by decide) (fun h12 => ?_) (fun h12 => absurd h12 (by decide))
    refine j_iconst G d10_come_18 ?_
    exact j_iret G F d10_come_19 ⟨(-1), g, rfl, rfl, (by refine ⟨?_, ?_⟩ <;> (try simp only [comeA, comeG]) <;> (repeat' split) <;> first | rfl | omega | (exfalso; omega))⟩
theorem d10_wet_0 : decode c10_wet 0 = .ok (.aload_n 0, 1) := by decide +kernel
theorem d10_wet_1 : decode c10_wet 1 = .ok (.getfield 72, 3) := by decide +kernel
theorem d10_wet_4 : decode c10_wet 4 = .ok (.ifCond .eq 7, 3) := by decide +kernel
theorem d10_wet_7 : decode c10_wet 7 = .ok (.iconst 1, 1) := by decide +kernel
theorem d10_wet_8 : decode c10_wet 8 = .ok (.goto 4, 3) := by decide +kernel
theorem d10_wet_11 : decode c10_wet 11 = .ok (.iconst 0, 1) := by decide +kernel
theorem d10_wet_12 : decode c10_wet 12 = .ok (.istore_n 2, 1) := by decide +kernel
theorem d10_wet_13 : decode c10_wet 13 = .ok (.aload_n 0, 1) := by decide +kernel
theorem d10_wet_14 : decode c10_wet 14 = .ok (.iload_n 1, 1) := by decide +kernel
theorem d10_wet_15 : decode c10_wet 15 = .ok (.putfield 72, 3) := by decide +kernel
theorem d10_wet_18 : decode c10_wet 18 = .ok (.iload_n 2, 1) := by decide +kernel
theorem d10_wet_19 : decode c10_wet 19 = .ok (.ireturn, 1) := by decide +kernel
theorem mw10_wet : MV y10_wet c10_wet 3 (some .int) 1 := ⟨cd10_wet, ini10, na10_wet, im10_wet, se10_wet⟩
set_option maxHeartbeats 4000000 in
set_option maxRecDepth 100000 in
theorem k10_wet (l : Launch) (E : En) (mo : Nat) (ad : Nat → Nat) (S : Nat → Int) (b : Int) (hb : b = 0 ∨ b = 1) (hw : S 20 = 0 ∨ S 20 = 1) : Cm l E y10_wet c10_wet 3 (some .int) { frames := 0, cells := 0, slots := 0, locals := 0 } [.ref mo, .int (iZ b)] [(mo, mO ad S)] (fun r ws => ∃ (v : Int), r = some (.int (iZ v)) ∧ ws = [(mo, mO ad (upS S 20 b))] ∧ (v = S 20)) := by
  refine Cm.of rfl (Nat.le_of_ble_eq_true rfl) (fun Γ A hl ha hin G F => ?_)
  subst hl
  refine j_aload_n G 0 rfl d10_wet_0 ?_
  refine j_get G 0 10 20 in10 fl10_72 d10_wet_1 rfl rfl (by decide) (v := .int (iZ (S 20))) rfl rfl ?_
  have mg4 : ∀ x1 : Int, x1 = (if S 20 = 0 then 0 else 1) → J E 3 Γ (some A) 0 0 [(mo, mO ad S)] 12 [(0, .ref mo), (1, .int (iZ b))] ([.int (iZ x1)]) := by
    intro x1 ex1
    refine j_istore_n G d10_wet_12 (by decide) rfl ?_
    refine j_aload_n G 1 rfl d10_wet_13 ?_
    refine j_iload_n G 2 rfl d10_wet_14 ?_
    refine j_put G 0 10 20 in10 tyok10 nm10 fl10_72 d10_wet_15 rfl rfl (by decide) ⟨rfl, rfl⟩ (by rcases hb with h | h <;> rw [h] <;> rfl) (by rcases hb with h | h <;> rw [h] <;> rfl) (Nat.le_of_ble_eq_true rfl) (e := mO ad (upS S 20 b)) rfl ?_
    refine j_iload_n G 0 rfl d10_wet_18 ?_
    exact j_iret G F d10_wet_19 ⟨x1, rfl, rfl, (by first | omega | (simp_all; done))⟩
  refine j_if_eq (tgt := 11) G d10_wet_4 (by decide) (by omega) (fun h2 => ?_) (fun h2 => ?_)
  ·
    refine j_iconst G d10_wet_11 ?_
    refine j_eq (ws' := [(mo, mO ad S)]) (ls' := [(0, .ref mo), (1, .int (iZ b))]) rfl rfl rfl ?_
    exact mg4 _ (by first | rfl | (simp only [*, if_true, if_false, ite_true, ite_false]; done) | (split <;> first | rfl | omega | (split <;> first | rfl | omega | (split <;> first | rfl | omega))))
  ·
    refine j_iconst G d10_wet_7 ?_
    refine j_goto (tgt := 12) G d10_wet_8 (by decide) ?_
    refine j_eq (ws' := [(mo, mO ad S)]) (ls' := [(0, .ref mo), (1, .int (iZ b))]) rfl rfl rfl ?_
    exact mg4 _ (by first | rfl | (simp only [*, if_true, if_false, ite_true, ite_false]; done) | (split <;> first | rfl | omega | (split <;> first | rfl | omega | (split <;> first | rfl | omega))))
theorem d10_pond_0 : decode c10_pond 0 = .ok (.aload_n 0, 1) := by decide +kernel
theorem d10_pond_1 : decode c10_pond 1 = .ok (.iload_n 1, 1) := by decide +kernel
theorem d10_pond_2 : decode c10_pond 2 = .ok (.iconst 0, 1) := by decide +kernel
theorem d10_pond_3 : decode c10_pond 3 = .ok (.aload_n 0, 1) := by decide +kernel
theorem d10_pond_4 : decode c10_pond 4 = .ok (.getfield 13, 3) := by decide +kernel
theorem d10_pond_7 : decode c10_pond 7 = .ok (.ifCond .ge 7, 3) := by decide +kernel
theorem d10_pond_10 : decode c10_pond 10 = .ok (.iconst 0, 1) := by decide +kernel
theorem d10_pond_11 : decode c10_pond 11 = .ok (.goto 9, 3) := by decide +kernel
theorem d10_pond_14 : decode c10_pond 14 = .ok (.aload_n 0, 1) := by decide +kernel
theorem d10_pond_15 : decode c10_pond 15 = .ok (.bipush 8, 2) := by decide +kernel
theorem d10_pond_17 : decode c10_pond 17 = .ok (.invokevirtual 286, 3) := by decide +kernel
theorem d10_pond_20 : decode c10_pond 20 = .ok (.invokevirtual 219, 3) := by decide +kernel
theorem d10_pond_23 : decode c10_pond 23 = .ok (.ifCond .ne 6, 3) := by decide +kernel
theorem d10_pond_26 : decode c10_pond 26 = .ok (.bipush (-2), 2) := by decide +kernel
theorem d10_pond_28 : decode c10_pond 28 = .ok (.ireturn, 1) := by decide +kernel
theorem d10_pond_29 : decode c10_pond 29 = .ok (.aload_n 0, 1) := by decide +kernel
theorem d10_pond_30 : decode c10_pond 30 = .ok (.getfield 76, 3) := by decide +kernel
theorem d10_pond_33 : decode c10_pond 33 = .ok (.istore_n 2, 1) := by decide +kernel
theorem d10_pond_34 : decode c10_pond 34 = .ok (.aload_n 0, 1) := by decide +kernel
theorem d10_pond_35 : decode c10_pond 35 = .ok (.iload_n 1, 1) := by decide +kernel
theorem d10_pond_36 : decode c10_pond 36 = .ok (.putfield 76, 3) := by decide +kernel
theorem d10_pond_39 : decode c10_pond 39 = .ok (.iload_n 2, 1) := by decide +kernel
theorem d10_pond_40 : decode c10_pond 40 = .ok (.ireturn, 1) := by decide +kernel
theorem mw10_pond : MV y10_pond c10_pond 3 (some .int) 1 := ⟨cd10_pond, ini10, na10_pond, im10_pond, se10_pond⟩
set_option maxHeartbeats 4000000 in
set_option maxRecDepth 100000 in
theorem k10_pond (l : Launch) (E : En) (mo : Nat) (ad : Nat → Nat) (S : Nat → Int) (la : Int → Int) (a : Int) (r_a : R32 a) (hth : -1 ≤ S 1 ∧ S 1 ≤ 3) (hla : ∀ q, 0 ≤ q → q ≤ 3 → 0 ≤ la (9 * q + 8) ∧ la (9 * q + 8) ≤ 40) : Cm l E y10_pond c10_pond 3 (some .int) { frames := 1, cells := 0, slots := 0, locals := 23 } [.ref mo, .int (iZ a)] [(mo, mO ad S), (ad 11, aInt E 36 la)] (fun r ws => ∃ (v : Int), ∃ (S1 : Nat → Int), r = some (.int (iZ v)) ∧ ws = [(mo, mO ad S1), (ad 11, aInt E 36 la)] ∧ (v = pondA (S 21) (if S 1 < 0 then 0 else la (9 * S 1 + 8)) a ∧ S1 = (if 0 ≤ a ∧ a ≤ (if S 1 < 0 then 0 else la (9 * S 1 + 8)) then upS S 21 a else S))) := by
  refine Cm.of rfl (Nat.le_of_ble_eq_true rfl) (fun Γ A hl ha hin G F => ?_)
  subst hl
  have hb9 : 0 ≤ S 1 → 0 ≤ la (9 * S 1 + 8) ∧ la (9 * S 1 + 8) ≤ 40 := fun h => hla (S 1) h hth.2
  refine j_aload_n G 0 rfl d10_pond_0 ?_
  refine j_iload_n G 1 rfl d10_pond_1 ?_
  refine j_iconst G d10_pond_2 ?_
  refine j_aload_n G 0 rfl d10_pond_3 ?_
  refine j_get G 0 10 1 in10 fl10_13 d10_pond_4 rfl rfl (by decide) (v := .int (iZ (S 1))) rfl rfl ?_
  refine j_if_ge (tgt := 14) G d10_pond_7 (by decide) (by omega) (fun h1 => ?_) (fun h1 => ?_)
  ·
    refine j_aload_n G 0 rfl d10_pond_14 ?_
    refine j_bipush G d10_pond_15 rfl ?_
    refine j_VP G (k10_lastOf (xl Γ) E mo ad S la 8 (by first | assumption | omega) (by first | assumption | omega)) mw10_lastOf ml10_286 [0, 1] rfl 0 10 rfl rfl rfl ⟨Nat.le_of_ble_eq_true rfl, Nat.le_of_ble_eq_true rfl⟩ rfl (rest := [.int (iZ 0), .int (iZ a), .ref mo]) rfl (Nat.le_of_ble_eq_true rfl) d10_pond_17 ⟨Nat.le_of_ble_eq_true rfl, Nat.le_of_ble_eq_true rfl⟩ (fun r hr => ?_)
    obtain ⟨v3, rfl, hq2⟩ := hr
    refine j_VP G (k10_in (xl Γ) E mo a 0 v3 (by first | assumption | omega) (by first | assumption | omega) (by first | assumption | omega)) mw10_in ml10_219 [] rfl 0 10 rfl rfl rfl ⟨Nat.le_of_ble_eq_true rfl, Nat.le_of_ble_eq_true rfl⟩ rfl (rest := []) rfl (Nat.le_of_ble_eq_true rfl) d10_pond_20 ⟨Nat.le_of_ble_eq_true rfl, Nat.le_of_ble_eq_true rfl⟩ (fun r hr => ?_)
    obtain ⟨v5, rfl, hq4⟩ := hr
    rcases hq4 with ⟨hq4, rfl⟩ | ⟨hq4, rfl⟩
    ·
      refine j_if_ne (tgt := 29) G d10_pond_23 (by decide) (by decide) (fun h6 => ?_) (fun h6 => absurd h6 (by decide))
      refine j_aload_n G 0 rfl d10_pond_29 ?_
      refine j_get G 0 10 21 in10 fl10_76 d10_pond_30 rfl rfl (by decide) (v := .int (iZ (S 21))) rfl rfl ?_
      refine j_istore_n G d10_pond_33 (by decide) rfl ?_
      refine j_aload_n G 1 rfl d10_pond_34 ?_
      refine j_iload_n G 2 rfl d10_pond_35 ?_
      refine j_put G 0 10 21 in10 tyok10 nm10 fl10_76 d10_pond_36 rfl rfl (by decide) ⟨rfl, rfl⟩ rfl rfl (Nat.le_of_ble_eq_true rfl) (e := mO ad (upS S 21 a)) rfl ?_
      refine j_iload_n G 0 rfl d10_pond_39 ?_
      exact j_iret G F d10_pond_40 ⟨S 21, (upS S 21 a), rfl, rfl, (by refine ⟨?_, ?_⟩ <;> (try simp only [pondA]) <;> (repeat' split) <;> first | rfl | omega | (exfalso; omega))⟩
    ·
      refine j_if_ne (tgt := 29) G d10_pond_23 (by decide) (by decide) (fun h7 => absurd h7 (by decide)) (fun h7 => ?_)
      refine j_bipush G d10_pond_26 rfl ?_
      exact j_iret G F d10_pond_28 ⟨(-2), S, rfl, rfl, (by refine ⟨?_, ?_⟩ <;> (try simp only [pondA]) <;> (repeat' split) <;> first | rfl | omega | (exfalso; omega))⟩
  ·
    refine j_iconst G d10_pond_10 ?_
    refine j_goto (tgt := 20) G d10_pond_11 (by decide) ?_
    refine j_VP G (k10_in (xl Γ) E mo a 0 0 (by first | assumption | omega) (by first | assumption | omega) (by first | assumption | omega)) mw10_in ml10_219 [] rfl 0 10 rfl rfl rfl ⟨Nat.le_of_ble_eq_true rfl, Nat.le_of_ble_eq_true rfl⟩ rfl (rest := []) rfl (Nat.le_of_ble_eq_true rfl) d10_pond_20 ⟨Nat.le_of_ble_eq_true rfl, Nat.le_of_ble_eq_true rfl⟩ (fun r hr => ?_)
    obtain ⟨v9, rfl, hq8⟩ := hr
    rcases hq8 with ⟨hq8, rfl⟩ | ⟨hq8, rfl⟩
    ·
      refine j_if_ne (tgt := 29) G d10_pond_23 (by decide) (by decide) (fun h10 => ?_) (fun h10 => absurd h10 (by decide))
      refine j_aload_n G 0 rfl d10_pond_29 ?_
      refine j_get G 0 10 21 in10 fl10_76 d10_pond_30 rfl rfl (by decide) (v := .int (iZ (S 21))) rfl rfl ?_
      refine j_istore_n G d10_pond_33 (by decide) rfl ?_
      refine j_aload_n G 1 rfl d10_pond_34 ?_
      refine j_iload_n G 2 rfl d10_pond_35 ?_
      refine j_put G 0 10 21 in10 tyok10 nm10 fl10_76 d10_pond_36 rfl rfl (by decide) ⟨rfl, rfl⟩ rfl rfl (Nat.le_of_ble_eq_true rfl) (e := mO ad (upS S 21 a)) rfl ?_
      refine j_iload_n G 0 rfl d10_pond_39 ?_
      exact j_iret G F d10_pond_40 ⟨S 21, (upS S 21 a), rfl, rfl, (by refine ⟨?_, ?_⟩ <;> (try simp only [pondA]) <;> (repeat' split) <;> first | rfl | omega | (exfalso; omega))⟩
    ·
      refine j_if_ne (tgt := 29) G d10_pond_23 (by decide) (by decide) (fun h11 => absurd h11 (by decide)) (fun h11 => ?_)
      refine j_bipush G d10_pond_26 rfl ?_
      exact j_iret G F d10_pond_28 ⟨(-2), S, rfl, rfl, (by refine ⟨?_, ?_⟩ <;> (try simp only [pondA]) <;> (repeat' split) <;> first | rfl | omega | (exfalso; omega))⟩
theorem d10_rule_0 : decode c10_rule 0 = .ok (.aload_n 0, 1) := by decide +kernel
theorem d10_rule_1 : decode c10_rule 1 = .ok (.iload_n 1, 1) := by decide +kernel
theorem d10_rule_2 : decode c10_rule 2 = .ok (.iconst 0, 1) := by decide +kernel
theorem d10_rule_3 : decode c10_rule 3 = .ok (.bipush 6, 2) := by decide +kernel
theorem d10_rule_5 : decode c10_rule 5 = .ok (.invokevirtual 219, 3) := by decide +kernel
theorem d10_rule_8 : decode c10_rule 8 = .ok (.ifCond .ne 5, 3) := by decide +kernel
theorem d10_rule_11 : decode c10_rule 11 = .ok (.iconst (-1), 1) := by decide +kernel
theorem d10_rule_12 : decode c10_rule 12 = .ok (.ireturn, 1) := by decide +kernel
theorem d10_rule_13 : decode c10_rule 13 = .ok (.aload_n 0, 1) := by decide +kernel
theorem d10_rule_14 : decode c10_rule 14 = .ok (.iload_n 2, 1) := by decide +kernel
theorem d10_rule_15 : decode c10_rule 15 = .ok (.iconst 0, 1) := by decide +kernel
theorem d10_rule_16 : decode c10_rule 16 = .ok (.bipush 20, 2) := by decide +kernel
theorem d10_rule_18 : decode c10_rule 18 = .ok (.invokevirtual 219, 3) := by decide +kernel
theorem d10_rule_21 : decode c10_rule 21 = .ok (.ifCond .ne 6, 3) := by decide +kernel
theorem d10_rule_24 : decode c10_rule 24 = .ok (.bipush (-2), 2) := by decide +kernel
theorem d10_rule_26 : decode c10_rule 26 = .ok (.ireturn, 1) := by decide +kernel
theorem d10_rule_27 : decode c10_rule 27 = .ok (.aload_n 0, 1) := by decide +kernel
theorem d10_rule_28 : decode c10_rule 28 = .ok (.getfield 82, 3) := by decide +kernel
theorem d10_rule_31 : decode c10_rule 31 = .ok (.bipush 12, 2) := by decide +kernel
theorem d10_rule_33 : decode c10_rule 33 = .ok (.if_icmp .ne 6, 3) := by decide +kernel
theorem d10_rule_36 : decode c10_rule 36 = .ok (.bipush (-4), 2) := by decide +kernel
theorem d10_rule_38 : decode c10_rule 38 = .ok (.ireturn, 1) := by decide +kernel
theorem d10_rule_39 : decode c10_rule 39 = .ok (.aload_n 0, 1) := by decide +kernel
theorem d10_rule_40 : decode c10_rule 40 = .ok (.getfield 85, 3) := by decide +kernel
theorem d10_rule_43 : decode c10_rule 43 = .ok (.aload_n 0, 1) := by decide +kernel
theorem d10_rule_44 : decode c10_rule 44 = .ok (.getfield 82, 3) := by decide +kernel
theorem d10_rule_47 : decode c10_rule 47 = .ok (.iload_n 1, 1) := by decide +kernel
theorem d10_rule_48 : decode c10_rule 48 = .ok (.iastore, 1) := by decide +kernel
theorem d10_rule_49 : decode c10_rule 49 = .ok (.aload_n 0, 1) := by decide +kernel
theorem d10_rule_50 : decode c10_rule 50 = .ok (.getfield 88, 3) := by decide +kernel
theorem d10_rule_53 : decode c10_rule 53 = .ok (.aload_n 0, 1) := by decide +kernel
theorem d10_rule_54 : decode c10_rule 54 = .ok (.getfield 82, 3) := by decide +kernel
theorem d10_rule_57 : decode c10_rule 57 = .ok (.iload_n 2, 1) := by decide +kernel
theorem d10_rule_58 : decode c10_rule 58 = .ok (.iastore, 1) := by decide +kernel
theorem d10_rule_59 : decode c10_rule 59 = .ok (.aload_n 0, 1) := by decide +kernel
theorem d10_rule_60 : decode c10_rule 60 = .ok (.getfield 91, 3) := by decide +kernel
theorem d10_rule_63 : decode c10_rule 63 = .ok (.aload_n 0, 1) := by decide +kernel
theorem d10_rule_64 : decode c10_rule 64 = .ok (.getfield 82, 3) := by decide +kernel
theorem d10_rule_67 : decode c10_rule 67 = .ok (.iconst 0, 1) := by decide +kernel
theorem d10_rule_68 : decode c10_rule 68 = .ok (.iastore, 1) := by decide +kernel
theorem d10_rule_69 : decode c10_rule 69 = .ok (.aload_n 0, 1) := by decide +kernel
theorem d10_rule_70 : decode c10_rule 70 = .ok (.dup, 1) := by decide +kernel
theorem d10_rule_71 : decode c10_rule 71 = .ok (.getfield 82, 3) := by decide +kernel
theorem d10_rule_74 : decode c10_rule 74 = .ok (.iconst 1, 1) := by decide +kernel
theorem d10_rule_75 : decode c10_rule 75 = .ok (.iadd, 1) := by decide +kernel
theorem d10_rule_76 : decode c10_rule 76 = .ok (.putfield 82, 3) := by decide +kernel
theorem d10_rule_79 : decode c10_rule 79 = .ok (.aload_n 0, 1) := by decide +kernel
theorem d10_rule_80 : decode c10_rule 80 = .ok (.getfield 82, 3) := by decide +kernel
theorem d10_rule_83 : decode c10_rule 83 = .ok (.iconst 1, 1) := by decide +kernel
theorem d10_rule_84 : decode c10_rule 84 = .ok (.isub, 1) := by decide +kernel
theorem d10_rule_85 : decode c10_rule 85 = .ok (.ireturn, 1) := by decide +kernel
theorem mw10_rule : MV y10_rule c10_rule 3 (some .int) 2 := ⟨cd10_rule, ini10, na10_rule, im10_rule, se10_rule⟩
set_option maxHeartbeats 4000000 in
set_option maxRecDepth 100000 in
theorem k10_rule (l : Launch) (E : En) (mo : Nat) (ad : Nat → Nat) (S : Nat → Int) (kd : Int → Int) (vv : Int → Int) (hd : Int → Int) (a : Int) (b : Int) (r_a : R32 a) (r_b : R32 b) (hru : 0 ≤ S 23 ∧ S 23 ≤ 12) : Cm l E y10_rule c10_rule 3 (some .int) { frames := 1, cells := 0, slots := 0, locals := 23 } [.ref mo, .int (iZ a), .int (iZ b)] [(mo, mO ad S), (ad 24, aInt E 12 kd), (ad 25, aInt E 12 vv), (ad 26, aInt E 12 hd)] (fun r ws => ∃ (v : Int), ∃ (S1 : Nat → Int), ∃ (kd1 : Int → Int), ∃ (vv1 : Int → Int), ∃ (hd1 : Int → Int), r = some (.int (iZ v)) ∧ ws = [(mo, mO ad S1), (ad 24, aInt E 12 kd1), (ad 25, aInt E 12 vv1), (ad 26, aInt E 12 hd1)] ∧ (v = ruleA (S 23) a b ∧ ((ruleOk (S 23) a b ∧ S1 = upS S 23 (S 23 + 1) ∧ kd1 = upI kd (S 23) a ∧ vv1 = upI vv (S 23) b ∧ hd1 = upI hd (S 23) 0) ∨ (¬ ruleOk (S 23) a b ∧ S1 = S ∧ kd1 = kd ∧ vv1 = vv ∧ hd1 = hd)))) := by
  refine Cm.of rfl (Nat.le_of_ble_eq_true rfl) (fun Γ A hl ha hin G F => ?_)
  subst hl
  refine j_aload_n G 0 rfl d10_rule_0 ?_
  refine j_iload_n G 1 rfl d10_rule_1 ?_
  refine j_iconst G d10_rule_2 ?_
  refine j_bipush G d10_rule_3 rfl ?_
  refine j_VP G (k10_in (xl Γ) E mo a 0 6 (by first | assumption | omega) (by first | assumption | omega) (by first | assumption | omega)) mw10_in ml10_219 [] rfl 0 10 rfl rfl rfl ⟨Nat.le_of_ble_eq_true rfl, Nat.le_of_ble_eq_true rfl⟩ rfl (rest := []) rfl (Nat.le_of_ble_eq_true rfl) d10_rule_5 ⟨Nat.le_of_ble_eq_true rfl, Nat.le_of_ble_eq_true rfl⟩ (fun r hr => ?_)
  obtain ⟨v2, rfl, hq1⟩ := hr
  rcases hq1 with ⟨hq1, rfl⟩ | ⟨hq1, rfl⟩
  ·
    refine j_if_ne (tgt := 13) G d10_rule_8 (by decide) (by decide) (fun h3 => ?_) (fun h3 => absurd h3 (by decide))
    refine j_aload_n G 0 rfl d10_rule_13 ?_
    refine j_iload_n G 2 rfl d10_rule_14 ?_
    refine j_iconst G d10_rule_15 ?_
    refine j_bipush G d10_rule_16 rfl ?_
    refine j_VP G (k10_in (xl Γ) E mo b 0 20 (by first | assumption | omega) (by first | assumption | omega) (by first | assumption | omega)) mw10_in ml10_219 [] rfl 0 10 rfl rfl rfl ⟨Nat.le_of_ble_eq_true rfl, Nat.le_of_ble_eq_true rfl⟩ rfl (rest := []) rfl (Nat.le_of_ble_eq_true rfl) d10_rule_18 ⟨Nat.le_of_ble_eq_true rfl, Nat.le_of_ble_eq_true rfl⟩ (fun r hr => ?_)
    obtain ⟨v5, rfl, hq4⟩ := hr
    rcases hq4 with ⟨hq4, rfl⟩ | ⟨hq4, rfl⟩
    ·
      refine j_if_ne (tgt := 27) G d10_rule_21 (by decide) (by decide) (fun h6 => ?_) (fun h6 => absurd h6 (by decide))
      refine j_aload_n G 0 rfl d10_rule_27 ?_
      refine j_get G 0 10 23 in10 fl10_82 d10_rule_28 rfl rfl (by decide) (v := .int (iZ (S 23))) rfl rfl ?_
      refine j_bipush G d10_rule_31 rfl ?_
      refine j_icmp_ne (tgt := 39) G d10_rule_33 (by decide) (by omega) (by decide) (fun h7 => ?_) (fun h7 => ?_)
      ·
        refine j_aload_n G 0 rfl d10_rule_39 ?_
        refine j_get G 0 10 24 in10 fl10_85 d10_rule_40 rfl rfl (by decide) (v := .ref (ad 24)) rfl rfl ?_
        refine j_aload_n G 0 rfl d10_rule_43 ?_
        refine j_get G 0 10 23 in10 fl10_82 d10_rule_44 rfl rfl (by decide) (v := .int (iZ (S 23))) rfl rfl ?_
        refine j_iload_n G 1 rfl d10_rule_47 ?_
        refine j_iast G 1 rfl (by omega) d10_rule_48 ?_
        refine j_aload_n G 0 rfl d10_rule_49 ?_
        refine j_get G 0 10 25 in10 fl10_88 d10_rule_50 rfl rfl (by decide) (v := .ref (ad 25)) rfl rfl ?_
        refine j_aload_n G 0 rfl d10_rule_53 ?_
        refine j_get G 0 10 23 in10 fl10_82 d10_rule_54 rfl rfl (by decide) (v := .int (iZ (S 23))) rfl rfl ?_
        refine j_iload_n G 2 rfl d10_rule_57 ?_
        refine j_iast G 2 rfl (by omega) d10_rule_58 ?_
        refine j_aload_n G 0 rfl d10_rule_59 ?_
        refine j_get G 0 10 26 in10 fl10_91 d10_rule_60 rfl rfl (by decide) (v := .ref (ad 26)) rfl rfl ?_
        refine j_aload_n G 0 rfl d10_rule_63 ?_
        refine j_get G 0 10 23 in10 fl10_82 d10_rule_64 rfl rfl (by decide) (v := .int (iZ (S 23))) rfl rfl ?_
        refine j_iconst G d10_rule_67 ?_
        refine j_iast G 3 rfl (by omega) d10_rule_68 ?_
        refine j_aload_n G 0 rfl d10_rule_69 ?_
        refine j_dup G d10_rule_70 rfl ?_
        refine j_get G 0 10 23 in10 fl10_82 d10_rule_71 rfl rfl (by decide) (v := .int (iZ (S 23))) rfl rfl ?_
        refine j_iconst G d10_rule_74 ?_
        refine j_iadd G d10_rule_75 ?_
        refine j_put G 0 10 23 in10 tyok10 nm10 fl10_82 d10_rule_76 rfl rfl (by decide) ⟨rfl, rfl⟩ rfl rfl (Nat.le_of_ble_eq_true rfl) (e := mO ad (upS S 23 ((S 23) + 1))) rfl ?_
        refine j_aload_n G 0 rfl d10_rule_79 ?_
        refine j_get G 0 10 23 in10 fl10_82 d10_rule_80 rfl rfl (by decide) (v := .int (iZ ((S 23) + 1))) rfl rfl ?_
        refine j_iconst G d10_rule_83 ?_
        refine j_isub G d10_rule_84 ?_
        exact j_iret G F d10_rule_85 ⟨((S 23) + 1) - 1, (upS S 23 ((S 23) + 1)), (upI kd (S 23) a), (upI vv (S 23) b), (upI hd (S 23) 0), rfl, rfl, (by exact ⟨by (simp only [ruleA]; (repeat' split) <;> omega), by first | (left; exact ⟨by unfold ruleOk; omega, by subst_vars; rfl, by subst_vars; rfl, by subst_vars; rfl, by subst_vars; rfl⟩) | (right; exact ⟨by unfold ruleOk; omega, rfl, rfl, rfl, rfl⟩)⟩)⟩
      ·
        refine j_bipush G d10_rule_36 rfl ?_
        exact j_iret G F d10_rule_38 ⟨(-4), S, kd, vv, hd, rfl, rfl, (by exact ⟨by (simp only [ruleA]; (repeat' split) <;> omega), by first | (left; exact ⟨by unfold ruleOk; omega, by subst_vars; rfl, by subst_vars; rfl, by subst_vars; rfl, by subst_vars; rfl⟩) | (right; exact ⟨by unfold ruleOk; omega, rfl, rfl, rfl, rfl⟩)⟩)⟩
    ·
      refine j_if_ne (tgt := 27) G d10_rule_21 (by decide) (by decide) (fun h8 => absurd h8 (by decide)) (fun h8 => ?_)
      refine j_bipush G d10_rule_24 rfl ?_
      exact j_iret G F d10_rule_26 ⟨(-2), S, kd, vv, hd, rfl, rfl, (by exact ⟨by (simp only [ruleA]; (repeat' split) <;> omega), by first | (left; exact ⟨by unfold ruleOk; omega, by subst_vars; rfl, by subst_vars; rfl, by subst_vars; rfl, by subst_vars; rfl⟩) | (right; exact ⟨by unfold ruleOk; omega, rfl, rfl, rfl, rfl⟩)⟩)⟩
  ·
    refine j_if_ne (tgt := 13) G d10_rule_8 (by decide) (by decide) (fun h9 => absurd h9 (by decide)) (fun h9 => ?_)
    refine j_iconst G d10_rule_11 ?_
    exact j_iret G F d10_rule_12 ⟨(-1), S, kd, vv, hd, rfl, rfl, (by exact ⟨by (simp only [ruleA]; (repeat' split) <;> omega), by first | (left; exact ⟨by unfold ruleOk; omega, by subst_vars; rfl, by subst_vars; rfl, by subst_vars; rfl, by subst_vars; rfl⟩) | (right; exact ⟨by unfold ruleOk; omega, rfl, rfl, rfl, rfl⟩)⟩)⟩
theorem d10_row_0 : decode c10_row 0 = .ok (.aload_n 0, 1) := by decide +kernel
theorem d10_row_1 : decode c10_row 1 = .ok (.iload_n 1, 1) := by decide +kernel
theorem d10_row_2 : decode c10_row 2 = .ok (.invokevirtual 315, 3) := by decide +kernel
theorem d10_row_5 : decode c10_row 5 = .ok (.ifCond .ne 5, 3) := by decide +kernel
theorem d10_row_8 : decode c10_row 8 = .ok (.iconst (-1), 1) := by decide +kernel
theorem d10_row_9 : decode c10_row 9 = .ok (.ireturn, 1) := by decide +kernel
theorem d10_row_10 : decode c10_row 10 = .ok (.aload_n 0, 1) := by decide +kernel
theorem d10_row_11 : decode c10_row 11 = .ok (.iload_n 2, 1) := by decide +kernel
theorem d10_row_12 : decode c10_row 12 = .ok (.iconst 0, 1) := by decide +kernel
theorem d10_row_13 : decode c10_row 13 = .ok (.iconst 1, 1) := by decide +kernel
theorem d10_row_14 : decode c10_row 14 = .ok (.invokevirtual 219, 3) := by decide +kernel
theorem d10_row_17 : decode c10_row 17 = .ok (.ifCond .ne 6, 3) := by decide +kernel
theorem d10_row_20 : decode c10_row 20 = .ok (.bipush (-2), 2) := by decide +kernel
theorem d10_row_22 : decode c10_row 22 = .ok (.ireturn, 1) := by decide +kernel
theorem d10_row_23 : decode c10_row 23 = .ok (.aload_n 0, 1) := by decide +kernel
theorem d10_row_24 : decode c10_row 24 = .ok (.getfield 85, 3) := by decide +kernel
theorem d10_row_27 : decode c10_row 27 = .ok (.iload_n 1, 1) := by decide +kernel
theorem d10_row_28 : decode c10_row 28 = .ok (.iaload, 1) := by decide +kernel
theorem d10_row_29 : decode c10_row 29 = .ok (.bipush 6, 2) := by decide +kernel
theorem d10_row_31 : decode c10_row 31 = .ok (.if_icmp .eq 6, 3) := by decide +kernel
theorem d10_row_34 : decode c10_row 34 = .ok (.bipush (-3), 2) := by decide +kernel
theorem d10_row_36 : decode c10_row 36 = .ok (.ireturn, 1) := by decide +kernel
theorem d10_row_37 : decode c10_row 37 = .ok (.aload_n 0, 1) := by decide +kernel
theorem d10_row_38 : decode c10_row 38 = .ok (.getfield 91, 3) := by decide +kernel
theorem d10_row_41 : decode c10_row 41 = .ok (.iload_n 1, 1) := by decide +kernel
theorem d10_row_42 : decode c10_row 42 = .ok (.iaload, 1) := by decide +kernel
theorem d10_row_43 : decode c10_row 43 = .ok (.bipush 12, 2) := by decide +kernel
theorem d10_row_45 : decode c10_row 45 = .ok (.if_icmp .ne 6, 3) := by decide +kernel
theorem d10_row_48 : decode c10_row 48 = .ok (.bipush (-4), 2) := by decide +kernel
theorem d10_row_50 : decode c10_row 50 = .ok (.ireturn, 1) := by decide +kernel
theorem d10_row_51 : decode c10_row 51 = .ok (.aload_n 0, 1) := by decide +kernel
theorem d10_row_52 : decode c10_row 52 = .ok (.getfield 94, 3) := by decide +kernel
theorem d10_row_55 : decode c10_row 55 = .ok (.bipush 12, 2) := by decide +kernel
theorem d10_row_57 : decode c10_row 57 = .ok (.iload_n 1, 1) := by decide +kernel
theorem d10_row_58 : decode c10_row 58 = .ok (.imul, 1) := by decide +kernel
theorem d10_row_59 : decode c10_row 59 = .ok (.aload_n 0, 1) := by decide +kernel
theorem d10_row_60 : decode c10_row 60 = .ok (.getfield 91, 3) := by decide +kernel
theorem d10_row_63 : decode c10_row 63 = .ok (.iload_n 1, 1) := by decide +kernel
theorem d10_row_64 : decode c10_row 64 = .ok (.iaload, 1) := by decide +kernel
theorem d10_row_65 : decode c10_row 65 = .ok (.iadd, 1) := by decide +kernel
theorem d10_row_66 : decode c10_row 66 = .ok (.iload_n 2, 1) := by decide +kernel
theorem d10_row_67 : decode c10_row 67 = .ok (.iastore, 1) := by decide +kernel
theorem d10_row_68 : decode c10_row 68 = .ok (.aload_n 0, 1) := by decide +kernel
theorem d10_row_69 : decode c10_row 69 = .ok (.getfield 91, 3) := by decide +kernel
theorem d10_row_72 : decode c10_row 72 = .ok (.iload_n 1, 1) := by decide +kernel
theorem d10_row_73 : decode c10_row 73 = .ok (.dup2, 1) := by decide +kernel
theorem d10_row_74 : decode c10_row 74 = .ok (.iaload, 1) := by decide +kernel
theorem d10_row_75 : decode c10_row 75 = .ok (.iconst 1, 1) := by decide +kernel
theorem d10_row_76 : decode c10_row 76 = .ok (.iadd, 1) := by decide +kernel
theorem d10_row_77 : decode c10_row 77 = .ok (.iastore, 1) := by decide +kernel
theorem d10_row_78 : decode c10_row 78 = .ok (.aload_n 0, 1) := by decide +kernel
theorem d10_row_79 : decode c10_row 79 = .ok (.getfield 91, 3) := by decide +kernel
theorem d10_row_82 : decode c10_row 82 = .ok (.iload_n 1, 1) := by decide +kernel
theorem d10_row_83 : decode c10_row 83 = .ok (.iaload, 1) := by decide +kernel
theorem d10_row_84 : decode c10_row 84 = .ok (.ireturn, 1) := by decide +kernel
theorem mw10_row : MV y10_row c10_row 3 (some .int) 2 := ⟨cd10_row, ini10, na10_row, im10_row, se10_row⟩
set_option maxHeartbeats 4000000 in
set_option maxRecDepth 100000 in
theorem k10_row (l : Launch) (E : En) (mo : Nat) (ad : Nat → Nat) (S : Nat → Int) (kd : Int → Int) (hd : Int → Int) (rw : Int → Int) (a : Int) (b : Int) (r_a : R32 a) (r_b : R32 b) (hru : 0 ≤ S 23 ∧ S 23 ≤ 12) (hkd : ∀ j, 0 ≤ j → j < 12 → 0 ≤ kd j ∧ kd j ≤ 6) (hhd : ∀ j, 0 ≤ j → j < 12 → 0 ≤ hd j ∧ hd j ≤ 12) : Cm l E y10_row c10_row 3 (some .int) { frames := 2, cells := 0, slots := 0, locals := 44 } [.ref mo, .int (iZ a), .int (iZ b)] [(mo, mO ad S), (ad 24, aInt E 12 kd), (ad 26, aInt E 12 hd), (ad 27, aInt E 144 rw)] (fun r ws => ∃ (v : Int), ∃ (hd1 : Int → Int), ∃ (rw1 : Int → Int), r = some (.int (iZ v)) ∧ ws = [(mo, mO ad S), (ad 24, aInt E 12 kd), (ad 26, aInt E 12 hd1), (ad 27, aInt E 144 rw1)] ∧ (v = rowA (S 23) kd hd a b ∧ ((rowOk (S 23) kd hd a b ∧ hd1 = upI hd a (hd a + 1) ∧ rw1 = upI rw (12 * a + hd a) b) ∨ (¬ rowOk (S 23) kd hd a b ∧ hd1 = hd ∧ rw1 = rw)))) := by
  refine Cm.of rfl (Nat.le_of_ble_eq_true rfl) (fun Γ A hl ha hin G F => ?_)
  subst hl
  refine j_aload_n G 0 rfl d10_row_0 ?_
  refine j_iload_n G 1 rfl d10_row_1 ?_
  refine j_VP G (k10_isRule (xl Γ) E mo ad S a (by first | assumption | omega) (by first | assumption | omega)) mw10_isRule ml10_315 [0] rfl 0 10 rfl rfl rfl ⟨Nat.le_of_ble_eq_true rfl, Nat.le_of_ble_eq_true rfl⟩ rfl (rest := []) rfl (Nat.le_of_ble_eq_true rfl) d10_row_2 ⟨Nat.le_of_ble_eq_true rfl, Nat.le_of_ble_eq_true rfl⟩ (fun r hr => ?_)
  obtain ⟨v2, rfl, hq1⟩ := hr
  rcases hq1 with ⟨hq1, rfl⟩ | ⟨hq1, rfl⟩
  ·
    refine j_if_ne (tgt := 10) G d10_row_5 (by decide) (by decide) (fun h3 => ?_) (fun h3 => absurd h3 (by decide))
    refine j_aload_n G 0 rfl d10_row_10 ?_
    refine j_iload_n G 2 rfl d10_row_11 ?_
    refine j_iconst G d10_row_12 ?_
    refine j_iconst G d10_row_13 ?_
    refine j_VP G (k10_in (xl Γ) E mo b 0 1 (by first | assumption | omega) (by first | assumption | omega) (by first | assumption | omega)) mw10_in ml10_219 [] rfl 0 10 rfl rfl rfl ⟨Nat.le_of_ble_eq_true rfl, Nat.le_of_ble_eq_true rfl⟩ rfl (rest := []) rfl (Nat.le_of_ble_eq_true rfl) d10_row_14 ⟨Nat.le_of_ble_eq_true rfl, Nat.le_of_ble_eq_true rfl⟩ (fun r hr => ?_)
    obtain ⟨v5, rfl, hq4⟩ := hr
    rcases hq4 with ⟨hq4, rfl⟩ | ⟨hq4, rfl⟩
    ·
      refine j_if_ne (tgt := 23) G d10_row_17 (by decide) (by decide) (fun h6 => ?_) (fun h6 => absurd h6 (by decide))
      refine j_aload_n G 0 rfl d10_row_23 ?_
      refine j_get G 0 10 24 in10 fl10_85 d10_row_24 rfl rfl (by decide) (v := .ref (ad 24)) rfl rfl ?_
      refine j_iload_n G 1 rfl d10_row_27 ?_
      refine j_iald G 1 rfl (by omega) d10_row_28 ?_
      have hb7 := hkd a (by omega) (by omega)
      refine j_bipush G d10_row_29 rfl ?_
      refine j_icmp_eq (tgt := 37) G d10_row_31 (by decide) (by omega) (by decide) (fun h8 => ?_) (fun h8 => ?_)
      ·
        refine j_aload_n G 0 rfl d10_row_37 ?_
        refine j_get G 0 10 26 in10 fl10_91 d10_row_38 rfl rfl (by decide) (v := .ref (ad 26)) rfl rfl ?_
        refine j_iload_n G 1 rfl d10_row_41 ?_
        refine j_iald G 2 rfl (by omega) d10_row_42 ?_
        have hb9 := hhd a (by omega) (by omega)
        refine j_bipush G d10_row_43 rfl ?_
        refine j_icmp_ne (tgt := 51) G d10_row_45 (by decide) (by omega) (by decide) (fun h10 => ?_) (fun h10 => ?_)
        ·
          refine j_aload_n G 0 rfl d10_row_51 ?_
          refine j_get G 0 10 27 in10 fl10_94 d10_row_52 rfl rfl (by decide) (v := .ref (ad 27)) rfl rfl ?_
          refine j_bipush G d10_row_55 rfl ?_
          refine j_iload_n G 1 rfl d10_row_57 ?_
          refine j_imul G d10_row_58 ?_
          refine j_aload_n G 0 rfl d10_row_59 ?_
          refine j_get G 0 10 26 in10 fl10_91 d10_row_60 rfl rfl (by decide) (v := .ref (ad 26)) rfl rfl ?_
          refine j_iload_n G 1 rfl d10_row_63 ?_
          refine j_iald G 2 rfl (by omega) d10_row_64 ?_
          have hb11 := hhd a (by omega) (by omega)
          refine j_iadd G d10_row_65 ?_
          refine j_iload_n G 2 rfl d10_row_66 ?_
          refine j_iast G 3 rfl (by omega) d10_row_67 ?_
          refine j_aload_n G 0 rfl d10_row_68 ?_
          refine j_get G 0 10 26 in10 fl10_91 d10_row_69 rfl rfl (by decide) (v := .ref (ad 26)) rfl rfl ?_
          refine j_iload_n G 1 rfl d10_row_72 ?_
          refine j_dup2 G d10_row_73 rfl rfl ?_
          refine j_iald G 2 rfl (by omega) d10_row_74 ?_
          have hb12 := hhd a (by omega) (by omega)
          refine j_iconst G d10_row_75 ?_
          refine j_iadd G d10_row_76 ?_
          refine j_iast G 2 rfl (by omega) d10_row_77 ?_
          refine j_aload_n G 0 rfl d10_row_78 ?_
          refine j_get G 0 10 26 in10 fl10_91 d10_row_79 rfl rfl (by decide) (v := .ref (ad 26)) rfl rfl ?_
          refine j_iload_n G 1 rfl d10_row_82 ?_
          refine j_iald G 2 rfl (by omega) d10_row_83 ?_
          have hb13 := hhd a (by omega) (by omega)
          exact j_iret G F d10_row_84 ⟨(upI hd a ((hd a) + 1)) a, (upI hd a ((hd a) + 1)), (upI rw ((12 * a) + (hd a)) b), rfl, rfl, (by exact ⟨by (simp only [rowA]; (repeat' split) <;> first | omega | (simp only [upI_eq] at * <;> omega)), by first | (left; exact ⟨by unfold rowOk; omega, by subst_vars; rfl, by subst_vars; rfl⟩) | (right; exact ⟨by unfold rowOk; omega, rfl, rfl⟩)⟩)⟩
        ·
          refine j_bipush G d10_row_48 rfl ?_
          exact j_iret G F d10_row_50 ⟨(-4), hd, rw, rfl, rfl, (by exact ⟨by (simp only [rowA]; (repeat' split) <;> first | omega | (simp only [upI_eq] at * <;> omega)), by first | (left; exact ⟨by unfold rowOk; omega, by subst_vars; rfl, by subst_vars; rfl⟩) | (right; exact ⟨by unfold rowOk; omega, rfl, rfl⟩)⟩)⟩
      ·
        refine j_bipush G d10_row_34 rfl ?_
        exact j_iret G F d10_row_36 ⟨(-3), hd, rw, rfl, rfl, (by exact ⟨by (simp only [rowA]; (repeat' split) <;> first | omega | (simp only [upI_eq] at * <;> omega)), by first | (left; exact ⟨by unfold rowOk; omega, by subst_vars; rfl, by subst_vars; rfl⟩) | (right; exact ⟨by unfold rowOk; omega, rfl, rfl⟩)⟩)⟩
    ·
      refine j_if_ne (tgt := 23) G d10_row_17 (by decide) (by decide) (fun h14 => absurd h14 (by decide)) (fun h14 => ?_)
      refine j_bipush G d10_row_20 rfl ?_
      exact j_iret G F d10_row_22 ⟨(-2), hd, rw, rfl, rfl, (by exact ⟨by (simp only [rowA]; (repeat' split) <;> first | omega | (simp only [upI_eq] at * <;> omega)), by first | (left; exact ⟨by unfold rowOk; omega, by subst_vars; rfl, by subst_vars; rfl⟩) | (right; exact ⟨by unfold rowOk; omega, rfl, rfl⟩)⟩)⟩
  ·
    refine j_if_ne (tgt := 10) G d10_row_5 (by decide) (by decide) (fun h15 => absurd h15 (by decide)) (fun h15 => ?_)
    refine j_iconst G d10_row_8 ?_
    exact j_iret G F d10_row_9 ⟨(-1), hd, rw, rfl, rfl, (by exact ⟨by (simp only [rowA]; (repeat' split) <;> first | omega | (simp only [upI_eq] at * <;> omega)), by first | (left; exact ⟨by unfold rowOk; omega, by subst_vars; rfl, by subst_vars; rfl⟩) | (right; exact ⟨by unfold rowOk; omega, rfl, rfl⟩)⟩)⟩
theorem d10_offer_0 : decode c10_offer 0 = .ok (.aload_n 0, 1) := by decide +kernel
theorem d10_offer_1 : decode c10_offer 1 = .ok (.iload_n 1, 1) := by decide +kernel
theorem d10_offer_2 : decode c10_offer 2 = .ok (.iconst 0, 1) := by decide +kernel
theorem d10_offer_3 : decode c10_offer 3 = .ok (.iconst 3, 1) := by decide +kernel
theorem d10_offer_4 : decode c10_offer 4 = .ok (.invokevirtual 219, 3) := by decide +kernel
theorem d10_offer_7 : decode c10_offer 7 = .ok (.ifCond .ne 5, 3) := by decide +kernel
theorem d10_offer_10 : decode c10_offer 10 = .ok (.iconst (-1), 1) := by decide +kernel
theorem d10_offer_11 : decode c10_offer 11 = .ok (.ireturn, 1) := by decide +kernel
theorem d10_offer_12 : decode c10_offer 12 = .ok (.aload_n 0, 1) := by decide +kernel
theorem d10_offer_13 : decode c10_offer 13 = .ok (.iload_n 2, 1) := by decide +kernel
theorem d10_offer_14 : decode c10_offer 14 = .ok (.iconst 1, 1) := by decide +kernel
theorem d10_offer_15 : decode c10_offer 15 = .ok (.bipush 20, 2) := by decide +kernel
theorem d10_offer_17 : decode c10_offer 17 = .ok (.invokevirtual 219, 3) := by decide +kernel
theorem d10_offer_20 : decode c10_offer 20 = .ok (.ifCond .eq 14, 3) := by decide +kernel
theorem d10_offer_23 : decode c10_offer 23 = .ok (.aload_n 0, 1) := by decide +kernel
theorem d10_offer_24 : decode c10_offer 24 = .ok (.iload_n 3, 1) := by decide +kernel
theorem d10_offer_25 : decode c10_offer 25 = .ok (.iconst 0, 1) := by decide +kernel
theorem d10_offer_26 : decode c10_offer 26 = .ok (.bipush 99, 2) := by decide +kernel
theorem d10_offer_28 : decode c10_offer 28 = .ok (.invokevirtual 219, 3) := by decide +kernel
theorem d10_offer_31 : decode c10_offer 31 = .ok (.ifCond .ne 6, 3) := by decide +kernel
theorem d10_offer_34 : decode c10_offer 34 = .ok (.bipush (-2), 2) := by decide +kernel
theorem d10_offer_36 : decode c10_offer 36 = .ok (.ireturn, 1) := by decide +kernel
theorem d10_offer_37 : decode c10_offer 37 = .ok (.aload_n 0, 1) := by decide +kernel
theorem d10_offer_38 : decode c10_offer 38 = .ok (.getfield 158, 3) := by decide +kernel
theorem d10_offer_41 : decode c10_offer 41 = .ok (.iconst 4, 1) := by decide +kernel
theorem d10_offer_42 : decode c10_offer 42 = .ok (.if_icmp .ne 6, 3) := by decide +kernel
theorem d10_offer_45 : decode c10_offer 45 = .ok (.bipush (-4), 2) := by decide +kernel
theorem d10_offer_47 : decode c10_offer 47 = .ok (.ireturn, 1) := by decide +kernel
theorem d10_offer_48 : decode c10_offer 48 = .ok (.aload_n 0, 1) := by decide +kernel
theorem d10_offer_49 : decode c10_offer 49 = .ok (.getfield 161, 3) := by decide +kernel
theorem d10_offer_52 : decode c10_offer 52 = .ok (.aload_n 0, 1) := by decide +kernel
theorem d10_offer_53 : decode c10_offer 53 = .ok (.getfield 158, 3) := by decide +kernel
theorem d10_offer_56 : decode c10_offer 56 = .ok (.iload_n 1, 1) := by decide +kernel
theorem d10_offer_57 : decode c10_offer 57 = .ok (.iastore, 1) := by decide +kernel
theorem d10_offer_58 : decode c10_offer 58 = .ok (.aload_n 0, 1) := by decide +kernel
theorem d10_offer_59 : decode c10_offer 59 = .ok (.getfield 164, 3) := by decide +kernel
theorem d10_offer_62 : decode c10_offer 62 = .ok (.aload_n 0, 1) := by decide +kernel
theorem d10_offer_63 : decode c10_offer 63 = .ok (.getfield 158, 3) := by decide +kernel
theorem d10_offer_66 : decode c10_offer 66 = .ok (.iload_n 2, 1) := by decide +kernel
theorem d10_offer_67 : decode c10_offer 67 = .ok (.iastore, 1) := by decide +kernel
theorem d10_offer_68 : decode c10_offer 68 = .ok (.aload_n 0, 1) := by decide +kernel
theorem d10_offer_69 : decode c10_offer 69 = .ok (.getfield 167, 3) := by decide +kernel
theorem d10_offer_72 : decode c10_offer 72 = .ok (.aload_n 0, 1) := by decide +kernel
theorem d10_offer_73 : decode c10_offer 73 = .ok (.getfield 158, 3) := by decide +kernel
theorem d10_offer_76 : decode c10_offer 76 = .ok (.iload_n 3, 1) := by decide +kernel
theorem d10_offer_77 : decode c10_offer 77 = .ok (.iastore, 1) := by decide +kernel
theorem d10_offer_78 : decode c10_offer 78 = .ok (.aload_n 0, 1) := by decide +kernel
theorem d10_offer_79 : decode c10_offer 79 = .ok (.dup, 1) := by decide +kernel
theorem d10_offer_80 : decode c10_offer 80 = .ok (.getfield 158, 3) := by decide +kernel
theorem d10_offer_83 : decode c10_offer 83 = .ok (.iconst 1, 1) := by decide +kernel
theorem d10_offer_84 : decode c10_offer 84 = .ok (.iadd, 1) := by decide +kernel
theorem d10_offer_85 : decode c10_offer 85 = .ok (.putfield 158, 3) := by decide +kernel
theorem d10_offer_88 : decode c10_offer 88 = .ok (.aload_n 0, 1) := by decide +kernel
theorem d10_offer_89 : decode c10_offer 89 = .ok (.getfield 158, 3) := by decide +kernel
theorem d10_offer_92 : decode c10_offer 92 = .ok (.iconst 1, 1) := by decide +kernel
theorem d10_offer_93 : decode c10_offer 93 = .ok (.isub, 1) := by decide +kernel
theorem d10_offer_94 : decode c10_offer 94 = .ok (.ireturn, 1) := by decide +kernel
theorem mw10_offer : MV y10_offer c10_offer 4 (some .int) 3 := ⟨cd10_offer, ini10, na10_offer, im10_offer, se10_offer⟩
set_option maxHeartbeats 4000000 in
set_option maxRecDepth 100000 in
theorem k10_offer (l : Launch) (E : En) (mo : Nat) (ad : Nat → Nat) (S : Nat → Int) (so : Int → Int) (si : Int → Int) (pr : Int → Int) (a : Int) (b : Int) (c : Int) (r_a : R32 a) (r_b : R32 b) (r_c : R32 c) (hof : 0 ≤ S 48 ∧ S 48 ≤ 4) : Cm l E y10_offer c10_offer 4 (some .int) { frames := 1, cells := 0, slots := 0, locals := 23 } [.ref mo, .int (iZ a), .int (iZ b), .int (iZ c)] [(mo, mO ad S), (ad 49, aInt E 4 so), (ad 50, aInt E 4 si), (ad 51, aInt E 4 pr)] (fun r ws => ∃ (v : Int), ∃ (S1 : Nat → Int), ∃ (so1 : Int → Int), ∃ (si1 : Int → Int), ∃ (pr1 : Int → Int), r = some (.int (iZ v)) ∧ ws = [(mo, mO ad S1), (ad 49, aInt E 4 so1), (ad 50, aInt E 4 si1), (ad 51, aInt E 4 pr1)] ∧ (v = offerA (S 48) a b c ∧ ((offerOk (S 48) a b c ∧ S1 = upS S 48 (S 48 + 1) ∧ so1 = upI so (S 48) a ∧ si1 = upI si (S 48) b ∧ pr1 = upI pr (S 48) c) ∨ (¬ offerOk (S 48) a b c ∧ S1 = S ∧ so1 = so ∧ si1 = si ∧ pr1 = pr)))) := by
  refine Cm.of rfl (Nat.le_of_ble_eq_true rfl) (fun Γ A hl ha hin G F => ?_)
  subst hl
  refine j_aload_n G 0 rfl d10_offer_0 ?_
  refine j_iload_n G 1 rfl d10_offer_1 ?_
  refine j_iconst G d10_offer_2 ?_
  refine j_iconst G d10_offer_3 ?_
  refine j_VP G (k10_in (xl Γ) E mo a 0 3 (by first | assumption | omega) (by first | assumption | omega) (by first | assumption | omega)) mw10_in ml10_219 [] rfl 0 10 rfl rfl rfl ⟨Nat.le_of_ble_eq_true rfl, Nat.le_of_ble_eq_true rfl⟩ rfl (rest := []) rfl (Nat.le_of_ble_eq_true rfl) d10_offer_4 ⟨Nat.le_of_ble_eq_true rfl, Nat.le_of_ble_eq_true rfl⟩ (fun r hr => ?_)
  obtain ⟨v2, rfl, hq1⟩ := hr
  rcases hq1 with ⟨hq1, rfl⟩ | ⟨hq1, rfl⟩
  ·
    refine j_if_ne (tgt := 12) G d10_offer_7 (by decide) (by decide) (fun h3 => ?_) (fun h3 => absurd h3 (by decide))
    refine j_aload_n G 0 rfl d10_offer_12 ?_
    refine j_iload_n G 2 rfl d10_offer_13 ?_
    refine j_iconst G d10_offer_14 ?_
    refine j_bipush G d10_offer_15 rfl ?_
    refine j_VP G (k10_in (xl Γ) E mo b 1 20 (by first | assumption | omega) (by first | assumption | omega) (by first | assumption | omega)) mw10_in ml10_219 [] rfl 0 10 rfl rfl rfl ⟨Nat.le_of_ble_eq_true rfl, Nat.le_of_ble_eq_true rfl⟩ rfl (rest := []) rfl (Nat.le_of_ble_eq_true rfl) d10_offer_17 ⟨Nat.le_of_ble_eq_true rfl, Nat.le_of_ble_eq_true rfl⟩ (fun r hr => ?_)
    obtain ⟨v5, rfl, hq4⟩ := hr
    rcases hq4 with ⟨hq4, rfl⟩ | ⟨hq4, rfl⟩
    ·
      refine j_if_eq (tgt := 34) G d10_offer_20 (by decide) (by decide) (fun h6 => absurd h6 (by decide)) (fun h6 => ?_)
      refine j_aload_n G 0 rfl d10_offer_23 ?_
      refine j_iload_n G 3 rfl d10_offer_24 ?_
      refine j_iconst G d10_offer_25 ?_
      refine j_bipush G d10_offer_26 rfl ?_
      refine j_VP G (k10_in (xl Γ) E mo c 0 99 (by first | assumption | omega) (by first | assumption | omega) (by first | assumption | omega)) mw10_in ml10_219 [] rfl 0 10 rfl rfl rfl ⟨Nat.le_of_ble_eq_true rfl, Nat.le_of_ble_eq_true rfl⟩ rfl (rest := []) rfl (Nat.le_of_ble_eq_true rfl) d10_offer_28 ⟨Nat.le_of_ble_eq_true rfl, Nat.le_of_ble_eq_true rfl⟩ (fun r hr => ?_)
      obtain ⟨v8, rfl, hq7⟩ := hr
      rcases hq7 with ⟨hq7, rfl⟩ | ⟨hq7, rfl⟩
      ·
        refine j_if_ne (tgt := 37) G d10_offer_31 (by decide) (by decide) (fun h9 => ?_) (fun h9 => absurd h9 (by decide))
        refine j_aload_n G 0 rfl d10_offer_37 ?_
        refine j_get G 0 10 48 in10 fl10_158 d10_offer_38 rfl rfl (by decide) (v := .int (iZ (S 48))) rfl rfl ?_
        refine j_iconst G d10_offer_41 ?_
        refine j_icmp_ne (tgt := 48) G d10_offer_42 (by decide) (by omega) (by decide) (fun h10 => ?_) (fun h10 => ?_)
        ·
          refine j_aload_n G 0 rfl d10_offer_48 ?_
          refine j_get G 0 10 49 in10 fl10_161 d10_offer_49 rfl rfl (by decide) (v := .ref (ad 49)) rfl rfl ?_
          refine j_aload_n G 0 rfl d10_offer_52 ?_
          refine j_get G 0 10 48 in10 fl10_158 d10_offer_53 rfl rfl (by decide) (v := .int (iZ (S 48))) rfl rfl ?_
          refine j_iload_n G 1 rfl d10_offer_56 ?_
          refine j_iast G 1 rfl (by omega) d10_offer_57 ?_
          refine j_aload_n G 0 rfl d10_offer_58 ?_
          refine j_get G 0 10 50 in10 fl10_164 d10_offer_59 rfl rfl (by decide) (v := .ref (ad 50)) rfl rfl ?_
          refine j_aload_n G 0 rfl d10_offer_62 ?_
          refine j_get G 0 10 48 in10 fl10_158 d10_offer_63 rfl rfl (by decide) (v := .int (iZ (S 48))) rfl rfl ?_
          refine j_iload_n G 2 rfl d10_offer_66 ?_
          refine j_iast G 2 rfl (by omega) d10_offer_67 ?_
          refine j_aload_n G 0 rfl d10_offer_68 ?_
          refine j_get G 0 10 51 in10 fl10_167 d10_offer_69 rfl rfl (by decide) (v := .ref (ad 51)) rfl rfl ?_
          refine j_aload_n G 0 rfl d10_offer_72 ?_
          refine j_get G 0 10 48 in10 fl10_158 d10_offer_73 rfl rfl (by decide) (v := .int (iZ (S 48))) rfl rfl ?_
          refine j_iload_n G 3 rfl d10_offer_76 ?_
          refine j_iast G 3 rfl (by omega) d10_offer_77 ?_
          refine j_aload_n G 0 rfl d10_offer_78 ?_
          refine j_dup G d10_offer_79 rfl ?_
          refine j_get G 0 10 48 in10 fl10_158 d10_offer_80 rfl rfl (by decide) (v := .int (iZ (S 48))) rfl rfl ?_
          refine j_iconst G d10_offer_83 ?_
          refine j_iadd G d10_offer_84 ?_
          refine j_put G 0 10 48 in10 tyok10 nm10 fl10_158 d10_offer_85 rfl rfl (by decide) ⟨rfl, rfl⟩ rfl rfl (Nat.le_of_ble_eq_true rfl) (e := mO ad (upS S 48 ((S 48) + 1))) rfl ?_
          refine j_aload_n G 0 rfl d10_offer_88 ?_
          refine j_get G 0 10 48 in10 fl10_158 d10_offer_89 rfl rfl (by decide) (v := .int (iZ ((S 48) + 1))) rfl rfl ?_
          refine j_iconst G d10_offer_92 ?_
          refine j_isub G d10_offer_93 ?_
          exact j_iret G F d10_offer_94 ⟨((S 48) + 1) - 1, (upS S 48 ((S 48) + 1)), (upI so (S 48) a), (upI si (S 48) b), (upI pr (S 48) c), rfl, rfl, (by exact ⟨by (simp only [offerA]; (repeat' split) <;> omega), by first | (left; exact ⟨by unfold offerOk; omega, by subst_vars; rfl, by subst_vars; rfl, by subst_vars; rfl, by subst_vars; rfl⟩) | (right; exact ⟨by unfold offerOk; omega, rfl, rfl, rfl, rfl⟩)⟩)⟩
        ·
          refine j_bipush G d10_offer_45 rfl ?_
          exact j_iret G F d10_offer_47 ⟨(-4), S, so, si, pr, rfl, rfl, (by exact ⟨by (simp only [offerA]; (repeat' split) <;> omega), by first | (left; exact ⟨by unfold offerOk; omega, by subst_vars; rfl, by subst_vars; rfl, by subst_vars; rfl, by subst_vars; rfl⟩) | (right; exact ⟨by unfold offerOk; omega, rfl, rfl, rfl, rfl⟩)⟩)⟩
      ·
        refine j_if_ne (tgt := 37) G d10_offer_31 (by decide) (by decide) (fun h11 => absurd h11 (by decide)) (fun h11 => ?_)
        refine j_bipush G d10_offer_34 rfl ?_
        exact j_iret G F d10_offer_36 ⟨(-2), S, so, si, pr, rfl, rfl, (by exact ⟨by (simp only [offerA]; (repeat' split) <;> omega), by first | (left; exact ⟨by unfold offerOk; omega, by subst_vars; rfl, by subst_vars; rfl, by subst_vars; rfl, by subst_vars; rfl⟩) | (right; exact ⟨by unfold offerOk; omega, rfl, rfl, rfl, rfl⟩)⟩)⟩
    ·
      refine j_if_eq (tgt := 34) G d10_offer_20 (by decide) (by decide) (fun h12 => ?_) (fun h12 => absurd h12 (by decide))
      refine j_bipush G d10_offer_34 rfl ?_
      exact j_iret G F d10_offer_36 ⟨(-2), S, so, si, pr, rfl, rfl, (by exact ⟨by (simp only [offerA]; (repeat' split) <;> omega), by first | (left; exact ⟨by unfold offerOk; omega, by subst_vars; rfl, by subst_vars; rfl, by subst_vars; rfl, by subst_vars; rfl⟩) | (right; exact ⟨by unfold offerOk; omega, rfl, rfl, rfl, rfl⟩)⟩)⟩
  ·
    refine j_if_ne (tgt := 12) G d10_offer_7 (by decide) (by decide) (fun h13 => absurd h13 (by decide)) (fun h13 => ?_)
    refine j_iconst G d10_offer_10 ?_
    exact j_iret G F d10_offer_11 ⟨(-1), S, so, si, pr, rfl, rfl, (by exact ⟨by (simp only [offerA]; (repeat' split) <;> omega), by first | (left; exact ⟨by unfold offerOk; omega, by subst_vars; rfl, by subst_vars; rfl, by subst_vars; rfl, by subst_vars; rfl⟩) | (right; exact ⟨by unfold offerOk; omega, rfl, rfl, rfl, rfl⟩)⟩)⟩
theorem d10_trace_0 : decode c10_trace 0 = .ok (.aload_n 0, 1) := by decide +kernel
theorem d10_trace_1 : decode c10_trace 1 = .ok (.iload_n 1, 1) := by decide +kernel
theorem d10_trace_2 : decode c10_trace 2 = .ok (.iconst 0, 1) := by decide +kernel
theorem d10_trace_3 : decode c10_trace 3 = .ok (.bipush 19, 2) := by decide +kernel
theorem d10_trace_5 : decode c10_trace 5 = .ok (.invokevirtual 219, 3) := by decide +kernel
theorem d10_trace_8 : decode c10_trace 8 = .ok (.ifCond .eq 20, 3) := by decide +kernel
theorem d10_trace_11 : decode c10_trace 11 = .ok (.iload_n 1, 1) := by decide +kernel
theorem d10_trace_12 : decode c10_trace 12 = .ok (.aload_n 0, 1) := by decide +kernel
theorem d10_trace_13 : decode c10_trace 13 = .ok (.getfield 200, 3) := by decide +kernel
theorem d10_trace_16 : decode c10_trace 16 = .ok (.if_icmp .ge 12, 3) := by decide +kernel
theorem d10_trace_19 : decode c10_trace 19 = .ok (.aload_n 0, 1) := by decide +kernel
theorem d10_trace_20 : decode c10_trace 20 = .ok (.getfield 203, 3) := by decide +kernel
theorem d10_trace_23 : decode c10_trace 23 = .ok (.iload_n 1, 1) := by decide +kernel
theorem d10_trace_24 : decode c10_trace 24 = .ok (.iaload, 1) := by decide +kernel
theorem d10_trace_25 : decode c10_trace 25 = .ok (.goto 4, 3) := by decide +kernel
theorem d10_trace_28 : decode c10_trace 28 = .ok (.iconst (-1), 1) := by decide +kernel
theorem d10_trace_29 : decode c10_trace 29 = .ok (.ireturn, 1) := by decide +kernel
theorem mw10_trace : MV y10_trace c10_trace 2 (some .int) 1 := ⟨cd10_trace, ini10, na10_trace, im10_trace, se10_trace⟩
set_option maxHeartbeats 4000000 in
set_option maxRecDepth 100000 in
theorem k10_trace (l : Launch) (E : En) (mo : Nat) (ad : Nat → Nat) (S : Nat → Int) (bo : Int → Int) (a : Int) (r_a : R32 a) (hra : 0 ≤ S 62 ∧ S 62 ≤ 1000000) : Cp l E y10_trace c10_trace 2 (some .int) 1 23 [.ref mo, .int (iZ a)] [(mo, mO ad S), (ad 63, aInt E 20 bo)] (fun r => ∃ (v : Int), r = some (.int (iZ v)) ∧ (v = traceA (S 62) bo a)) := by
  refine Cp.of rfl (Nat.le_of_ble_eq_true rfl) (fun Γ hl ha G F => ?_)
  subst hl
  refine j_aload_n G 0 rfl d10_trace_0 ?_
  refine j_iload_n G 1 rfl d10_trace_1 ?_
  refine j_iconst G d10_trace_2 ?_
  refine j_bipush G d10_trace_3 rfl ?_
  refine j_VP G (k10_in (xl Γ) E mo a 0 19 (by first | assumption | omega) (by first | assumption | omega) (by first | assumption | omega)) mw10_in ml10_219 [] rfl 0 10 rfl rfl rfl ⟨Nat.le_of_ble_eq_true rfl, Nat.le_of_ble_eq_true rfl⟩ rfl (rest := []) rfl (Nat.le_of_ble_eq_true rfl) d10_trace_5 ⟨Nat.le_of_ble_eq_true rfl, Nat.le_of_ble_eq_true rfl⟩ (fun r hr => ?_)
  obtain ⟨v2, rfl, hq1⟩ := hr
  rcases hq1 with ⟨hq1, rfl⟩ | ⟨hq1, rfl⟩
  ·
    refine j_if_eq (tgt := 28) G d10_trace_8 (by decide) (by decide) (fun h3 => absurd h3 (by decide)) (fun h3 => ?_)
    refine j_iload_n G 1 rfl d10_trace_11 ?_
    refine j_aload_n G 0 rfl d10_trace_12 ?_
    refine j_get G 0 10 62 in10 fl10_200 d10_trace_13 rfl rfl (by decide) (v := .int (iZ (S 62))) rfl rfl ?_
    refine j_icmp_ge (tgt := 28) G d10_trace_16 (by decide) (by omega) (by omega) (fun h4 => ?_) (fun h4 => ?_)
    ·
      refine j_iconst G d10_trace_28 ?_
      exact j_iret G F d10_trace_29 ⟨(-1), rfl, (by (try simp only [traceA]) <;> (repeat' split) <;> first | rfl | omega | (exfalso; omega))⟩
    ·
      refine j_aload_n G 0 rfl d10_trace_19 ?_
      refine j_get G 0 10 63 in10 fl10_203 d10_trace_20 rfl rfl (by decide) (v := .ref (ad 63)) rfl rfl ?_
      refine j_iload_n G 1 rfl d10_trace_23 ?_
      refine j_iald G 1 rfl (by omega) d10_trace_24 ?_
      refine j_goto (tgt := 29) G d10_trace_25 (by decide) ?_
      exact j_iret G F d10_trace_29 ⟨bo a, rfl, (by (try simp only [traceA]) <;> (repeat' split) <;> first | rfl | omega | (exfalso; omega))⟩
  ·
    refine j_if_eq (tgt := 28) G d10_trace_8 (by decide) (by decide) (fun h5 => ?_) (fun h5 => absurd h5 (by decide))
    refine j_iconst G d10_trace_28 ?_
    exact j_iret G F d10_trace_29 ⟨(-1), rfl, (by (try simp only [traceA]) <;> (repeat' split) <;> first | rfl | omega | (exfalso; omega))⟩
theorem d10_taken_0 : decode c10_taken 0 = .ok (.aload_n 0, 1) := by decide +kernel
theorem d10_taken_1 : decode c10_taken 1 = .ok (.iload_n 2, 1) := by decide +kernel
theorem d10_taken_2 : decode c10_taken 2 = .ok (.iconst 0, 1) := by decide +kernel
theorem d10_taken_3 : decode c10_taken 3 = .ok (.bipush 6, 2) := by decide +kernel
theorem d10_taken_5 : decode c10_taken 5 = .ok (.invokevirtual 219, 3) := by decide +kernel
theorem d10_taken_8 : decode c10_taken 8 = .ok (.ifCond .ne 6, 3) := by decide +kernel
theorem d10_taken_11 : decode c10_taken 11 = .ok (.bipush (-2), 2) := by decide +kernel
theorem d10_taken_13 : decode c10_taken 13 = .ok (.ireturn, 1) := by decide +kernel
theorem d10_taken_14 : decode c10_taken 14 = .ok (.aload_n 0, 1) := by decide +kernel
theorem d10_taken_15 : decode c10_taken 15 = .ok (.iload_n 1, 1) := by decide +kernel
theorem d10_taken_16 : decode c10_taken 16 = .ok (.invokevirtual 315, 3) := by decide +kernel
theorem d10_taken_19 : decode c10_taken 19 = .ok (.ifCond .ne 6, 3) := by decide +kernel
theorem d10_taken_22 : decode c10_taken 22 = .ok (.bipush (-11), 2) := by decide +kernel
theorem d10_taken_24 : decode c10_taken 24 = .ok (.ireturn, 1) := by decide +kernel
theorem d10_taken_25 : decode c10_taken 25 = .ok (.iload_n 2, 1) := by decide +kernel
theorem d10_taken_26 : decode c10_taken 26 = .ok (.ifCond .eq 28, 3) := by decide +kernel
theorem d10_taken_29 : decode c10_taken 29 = .ok (.aload_n 0, 1) := by decide +kernel
theorem d10_taken_30 : decode c10_taken 30 = .ok (.getfield 85, 3) := by decide +kernel
theorem d10_taken_33 : decode c10_taken 33 = .ok (.iload_n 1, 1) := by decide +kernel
theorem d10_taken_34 : decode c10_taken 34 = .ok (.iaload, 1) := by decide +kernel
theorem d10_taken_35 : decode c10_taken 35 = .ok (.iload_n 2, 1) := by decide +kernel
theorem d10_taken_36 : decode c10_taken 36 = .ok (.if_icmp .eq 18, 3) := by decide +kernel
theorem d10_taken_39 : decode c10_taken 39 = .ok (.iload_n 2, 1) := by decide +kernel
theorem d10_taken_40 : decode c10_taken 40 = .ok (.iconst 4, 1) := by decide +kernel
theorem d10_taken_41 : decode c10_taken 41 = .ok (.if_icmp .ne 22, 3) := by decide +kernel
theorem d10_taken_44 : decode c10_taken 44 = .ok (.aload_n 0, 1) := by decide +kernel
theorem d10_taken_45 : decode c10_taken 45 = .ok (.getfield 85, 3) := by decide +kernel
theorem d10_taken_48 : decode c10_taken 48 = .ok (.iload_n 1, 1) := by decide +kernel
theorem d10_taken_49 : decode c10_taken 49 = .ok (.iaload, 1) := by decide +kernel
theorem d10_taken_50 : decode c10_taken 50 = .ok (.iconst 5, 1) := by decide +kernel
theorem d10_taken_51 : decode c10_taken 51 = .ok (.if_icmp .ne 12, 3) := by decide +kernel
theorem d10_taken_54 : decode c10_taken 54 = .ok (.aload_n 0, 1) := by decide +kernel
theorem d10_taken_55 : decode c10_taken 55 = .ok (.getfield 85, 3) := by decide +kernel
theorem d10_taken_58 : decode c10_taken 58 = .ok (.iload_n 1, 1) := by decide +kernel
theorem d10_taken_59 : decode c10_taken 59 = .ok (.iaload, 1) := by decide +kernel
theorem d10_taken_60 : decode c10_taken 60 = .ok (.goto 5, 3) := by decide +kernel
theorem d10_taken_63 : decode c10_taken 63 = .ok (.bipush (-12), 2) := by decide +kernel
theorem d10_taken_65 : decode c10_taken 65 = .ok (.ireturn, 1) := by decide +kernel
theorem mw10_taken : MV y10_taken c10_taken 3 (some .int) 2 := ⟨cd10_taken, ini10, na10_taken, im10_taken, se10_taken⟩
set_option maxHeartbeats 4000000 in
set_option maxRecDepth 100000 in
theorem k10_taken (l : Launch) (E : En) (mo : Nat) (ad : Nat → Nat) (S : Nat → Int) (kd : Int → Int) (a : Int) (b : Int) (r_a : R32 a) (r_b : R32 b) (hru : 0 ≤ S 23 ∧ S 23 ≤ 12) (hkd : ∀ j, 0 ≤ j → j < 12 → 0 ≤ kd j ∧ kd j ≤ 6) : Cp l E y10_taken c10_taken 3 (some .int) 2 44 [.ref mo, .int (iZ a), .int (iZ b)] [(mo, mO ad S), (ad 24, aInt E 12 kd)] (fun r => ∃ (v : Int), r = some (.int (iZ v)) ∧ (v = takenA (S 23) kd a b)) := by
  refine Cp.of rfl (Nat.le_of_ble_eq_true rfl) (fun Γ hl ha G F => ?_)
  subst hl
  refine j_aload_n G 0 rfl d10_taken_0 ?_
  refine j_iload_n G 2 rfl d10_taken_1 ?_
  refine j_iconst G d10_taken_2 ?_
  refine j_bipush G d10_taken_3 rfl ?_
  refine j_VP G (k10_in (xl Γ) E mo b 0 6 (by first | assumption | omega) (by first | assumption | omega) (by first | assumption | omega)) mw10_in ml10_219 [] rfl 0 10 rfl rfl rfl ⟨Nat.le_of_ble_eq_true rfl, Nat.le_of_ble_eq_true rfl⟩ rfl (rest := []) rfl (Nat.le_of_ble_eq_true rfl) d10_taken_5 ⟨Nat.le_of_ble_eq_true rfl, Nat.le_of_ble_eq_true rfl⟩ (fun r hr => ?_)
  obtain ⟨v2, rfl, hq1⟩ := hr
  rcases hq1 with ⟨hq1, rfl⟩ | ⟨hq1, rfl⟩
  ·
    refine j_if_ne (tgt := 14) G d10_taken_8 (by decide) (by decide) (fun h3 => ?_) (fun h3 => absurd h3 (by decide))
    refine j_aload_n G 0 rfl d10_taken_14 ?_
    refine j_iload_n G 1 rfl d10_taken_15 ?_
    refine j_VP G (k10_isRule (xl Γ) E mo ad S a (by first | assumption | omega) (by first | assumption | omega)) mw10_isRule ml10_315 [0] rfl 0 10 rfl rfl rfl ⟨Nat.le_of_ble_eq_true rfl, Nat.le_of_ble_eq_true rfl⟩ rfl (rest := []) rfl (Nat.le_of_ble_eq_true rfl) d10_taken_16 ⟨Nat.le_of_ble_eq_true rfl, Nat.le_of_ble_eq_true rfl⟩ (fun r hr => ?_)
    obtain ⟨v5, rfl, hq4⟩ := hr
    rcases hq4 with ⟨hq4, rfl⟩ | ⟨hq4, rfl⟩
    ·
      refine j_if_ne (tgt := 25) G d10_taken_19 (by decide) (by decide) (fun h6 => ?_) (fun h6 => absurd h6 (by decide))
      refine j_iload_n G 2 rfl d10_taken_25 ?_
      refine j_if_eq (tgt := 54) G d10_taken_26 (by decide) (by omega) (fun h7 => ?_) (fun h7 => ?_)
      ·
        refine j_aload_n G 0 rfl d10_taken_54 ?_
        refine j_get G 0 10 24 in10 fl10_85 d10_taken_55 rfl rfl (by decide) (v := .ref (ad 24)) rfl rfl ?_
        refine j_iload_n G 1 rfl d10_taken_58 ?_
        refine j_iald G 1 rfl (by omega) d10_taken_59 ?_
        have hb8 := hkd a (by omega) (by omega)
        refine j_goto (tgt := 65) G d10_taken_60 (by decide) ?_
        exact j_iret G F d10_taken_65 ⟨kd a, rfl, (by (try simp only [takenA]) <;> (repeat' split) <;> first | rfl | omega | (exfalso; omega))⟩
      ·
        refine j_aload_n G 0 rfl d10_taken_29 ?_
        refine j_get G 0 10 24 in10 fl10_85 d10_taken_30 rfl rfl (by decide) (v := .ref (ad 24)) rfl rfl ?_
        refine j_iload_n G 1 rfl d10_taken_33 ?_
        refine j_iald G 1 rfl (by omega) d10_taken_34 ?_
        have hb9 := hkd a (by omega) (by omega)
        refine j_iload_n G 2 rfl d10_taken_35 ?_
        refine j_icmp_eq (tgt := 54) G d10_taken_36 (by decide) (by omega) (by omega) (fun h10 => ?_) (fun h10 => ?_)
        ·
          refine j_aload_n G 0 rfl d10_taken_54 ?_
          refine j_get G 0 10 24 in10 fl10_85 d10_taken_55 rfl rfl (by decide) (v := .ref (ad 24)) rfl rfl ?_
          refine j_iload_n G 1 rfl d10_taken_58 ?_
          refine j_iald G 1 rfl (by omega) d10_taken_59 ?_
          have hb11 := hkd a (by omega) (by omega)
          refine j_goto (tgt := 65) G d10_taken_60 (by decide) ?_
          exact j_iret G F d10_taken_65 ⟨kd a, rfl, (by (try simp only [takenA]) <;> (repeat' split) <;> first | rfl | omega | (exfalso; omega))⟩
        ·
          refine j_iload_n G 2 rfl d10_taken_39 ?_
          refine j_iconst G d10_taken_40 ?_
          refine j_icmp_ne (tgt := 63) G d10_taken_41 (by decide) (by omega) (by decide) (fun h12 => ?_) (fun h12 => ?_)
          ·
            refine j_bipush G d10_taken_63 rfl ?_
            exact j_iret G F d10_taken_65 ⟨(-12), rfl, (by (try simp only [takenA]) <;> (repeat' split) <;> first | rfl | omega | (exfalso; omega))⟩
          ·
            refine j_aload_n G 0 rfl d10_taken_44 ?_
            refine j_get G 0 10 24 in10 fl10_85 d10_taken_45 rfl rfl (by decide) (v := .ref (ad 24)) rfl rfl ?_
            refine j_iload_n G 1 rfl d10_taken_48 ?_
            refine j_iald G 1 rfl (by omega) d10_taken_49 ?_
            have hb13 := hkd a (by omega) (by omega)
            refine j_iconst G d10_taken_50 ?_
            refine j_icmp_ne (tgt := 63) G d10_taken_51 (by decide) (by omega) (by decide) (fun h14 => ?_) (fun h14 => ?_)
            ·
              refine j_bipush G d10_taken_63 rfl ?_
              exact j_iret G F d10_taken_65 ⟨(-12), rfl, (by (try simp only [takenA]) <;> (repeat' split) <;> first | rfl | omega | (exfalso; omega))⟩
            ·
              refine j_aload_n G 0 rfl d10_taken_54 ?_
              refine j_get G 0 10 24 in10 fl10_85 d10_taken_55 rfl rfl (by decide) (v := .ref (ad 24)) rfl rfl ?_
              refine j_iload_n G 1 rfl d10_taken_58 ?_
              refine j_iald G 1 rfl (by omega) d10_taken_59 ?_
              have hb15 := hkd a (by omega) (by omega)
              refine j_goto (tgt := 65) G d10_taken_60 (by decide) ?_
              exact j_iret G F d10_taken_65 ⟨kd a, rfl, (by (try simp only [takenA]) <;> (repeat' split) <;> first | rfl | omega | (exfalso; omega))⟩
    ·
      refine j_if_ne (tgt := 25) G d10_taken_19 (by decide) (by decide) (fun h16 => absurd h16 (by decide)) (fun h16 => ?_)
      refine j_bipush G d10_taken_22 rfl ?_
      exact j_iret G F d10_taken_24 ⟨(-11), rfl, (by (try simp only [takenA]) <;> (repeat' split) <;> first | rfl | omega | (exfalso; omega))⟩
  ·
    refine j_if_ne (tgt := 14) G d10_taken_8 (by decide) (by decide) (fun h17 => absurd h17 (by decide)) (fun h17 => ?_)
    refine j_bipush G d10_taken_11 rfl ?_
    exact j_iret G F d10_taken_13 ⟨(-2), rfl, (by (try simp only [takenA]) <;> (repeat' split) <;> first | rfl | omega | (exfalso; omega))⟩
theorem d10_count_0 : decode c10_count 0 = .ok (.iload_n 1, 1) := by decide +kernel
theorem d10_count_1 : decode c10_count 1 = .ok (.tableswitch 81 0 5 #[39, 44, 49, 54, 59, 76], 39) := by decide +kernel
theorem d10_count_40 : decode c10_count 40 = .ok (.aload_n 0, 1) := by decide +kernel
theorem d10_count_41 : decode c10_count 41 = .ok (.getfield 7, 3) := by decide +kernel
theorem d10_count_44 : decode c10_count 44 = .ok (.ireturn, 1) := by decide +kernel
theorem d10_count_45 : decode c10_count 45 = .ok (.aload_n 0, 1) := by decide +kernel
theorem d10_count_46 : decode c10_count 46 = .ok (.getfield 82, 3) := by decide +kernel
theorem d10_count_49 : decode c10_count 49 = .ok (.ireturn, 1) := by decide +kernel
theorem d10_count_50 : decode c10_count 50 = .ok (.aload_n 0, 1) := by decide +kernel
theorem d10_count_51 : decode c10_count 51 = .ok (.getfield 158, 3) := by decide +kernel
theorem d10_count_54 : decode c10_count 54 = .ok (.ireturn, 1) := by decide +kernel
theorem d10_count_55 : decode c10_count 55 = .ok (.aload_n 0, 1) := by decide +kernel
theorem d10_count_56 : decode c10_count 56 = .ok (.getfield 16, 3) := by decide +kernel
theorem d10_count_59 : decode c10_count 59 = .ok (.ireturn, 1) := by decide +kernel
theorem d10_count_60 : decode c10_count 60 = .ok (.aload_n 0, 1) := by decide +kernel
theorem d10_count_61 : decode c10_count 61 = .ok (.getfield 13, 3) := by decide +kernel
theorem d10_count_64 : decode c10_count 64 = .ok (.ifCond .ge 8, 3) := by decide +kernel
theorem d10_count_67 : decode c10_count 67 = .ok (.bipush (-5), 2) := by decide +kernel
theorem d10_count_69 : decode c10_count 69 = .ok (.goto 7, 3) := by decide +kernel
theorem d10_count_72 : decode c10_count 72 = .ok (.aload_n 0, 1) := by decide +kernel
theorem d10_count_73 : decode c10_count 73 = .ok (.getfield 13, 3) := by decide +kernel
theorem d10_count_76 : decode c10_count 76 = .ok (.ireturn, 1) := by decide +kernel
theorem d10_count_77 : decode c10_count 77 = .ok (.aload_n 0, 1) := by decide +kernel
theorem d10_count_78 : decode c10_count 78 = .ok (.getfield 200, 3) := by decide +kernel
theorem d10_count_81 : decode c10_count 81 = .ok (.ireturn, 1) := by decide +kernel
theorem d10_count_82 : decode c10_count 82 = .ok (.bipush (-2), 2) := by decide +kernel
theorem d10_count_84 : decode c10_count 84 = .ok (.ireturn, 1) := by decide +kernel
theorem mw10_count : MV y10_count c10_count 2 (some .int) 1 := ⟨cd10_count, ini10, na10_count, im10_count, se10_count⟩
set_option maxHeartbeats 4000000 in
set_option maxRecDepth 100000 in
theorem k10_count (l : Launch) (E : En) (mo : Nat) (ad : Nat → Nat) (S : Nat → Int) (a : Int) (r_a : R32 a) (hth : -1 ≤ S 1 ∧ S 1 ≤ 3) : Cp l E y10_count c10_count 2 (some .int) 0 0 [.ref mo, .int (iZ a)] [(mo, mO ad S)] (fun r => ∃ (v : Int), r = some (.int (iZ v)) ∧ (v = countA (S 0) (S 23) (S 48) (S 2) (S 1) (S 62) a)) := by
  refine Cp.of rfl (Nat.le_of_ble_eq_true rfl) (fun Γ hl ha G F => ?_)
  subst hl
  refine j_iload_n G 1 rfl d10_count_0 ?_
  rcases (show a = 0 ∨ a = 1 ∨ a = 2 ∨ a = 3 ∨ a = 4 ∨ a = 5 ∨ (a < 0 ∨ 5 < a) by omega) with h1 | h1 | h1 | h1 | h1 | h1 | h1
  ·
    refine j_tabIn (tgt := 40) G d10_count_1 (by omega) 0 h1 ⟨by decide, by decide⟩ rfl (by decide) ?_
    refine j_aload_n G 0 rfl d10_count_40 ?_
    refine j_get G 0 10 0 in10 fl10_7 d10_count_41 rfl rfl (by decide) (v := .int (iZ (S 0))) rfl rfl ?_
    exact j_iret G F d10_count_44 ⟨S 0, rfl, (by (try simp only [countA]) <;> (repeat' split) <;> first | rfl | omega | (exfalso; omega))⟩
  ·
    refine j_tabIn (tgt := 45) G d10_count_1 (by omega) 1 h1 ⟨by decide, by decide⟩ rfl (by decide) ?_
    refine j_aload_n G 0 rfl d10_count_45 ?_
    refine j_get G 0 10 23 in10 fl10_82 d10_count_46 rfl rfl (by decide) (v := .int (iZ (S 23))) rfl rfl ?_
    exact j_iret G F d10_count_49 ⟨S 23, rfl, (by (try simp only [countA]) <;> (repeat' split) <;> first | rfl | omega | (exfalso; omega))⟩
  ·
    refine j_tabIn (tgt := 50) G d10_count_1 (by omega) 2 h1 ⟨by decide, by decide⟩ rfl (by decide) ?_
    refine j_aload_n G 0 rfl d10_count_50 ?_
    refine j_get G 0 10 48 in10 fl10_158 d10_count_51 rfl rfl (by decide) (v := .int (iZ (S 48))) rfl rfl ?_
    exact j_iret G F d10_count_54 ⟨S 48, rfl, (by (try simp only [countA]) <;> (repeat' split) <;> first | rfl | omega | (exfalso; omega))⟩
  ·
    refine j_tabIn (tgt := 55) G d10_count_1 (by omega) 3 h1 ⟨by decide, by decide⟩ rfl (by decide) ?_
    refine j_aload_n G 0 rfl d10_count_55 ?_
    refine j_get G 0 10 2 in10 fl10_16 d10_count_56 rfl rfl (by decide) (v := .int (iZ (S 2))) rfl rfl ?_
    exact j_iret G F d10_count_59 ⟨S 2, rfl, (by (try simp only [countA]) <;> (repeat' split) <;> first | rfl | omega | (exfalso; omega))⟩
  ·
    refine j_tabIn (tgt := 60) G d10_count_1 (by omega) 4 h1 ⟨by decide, by decide⟩ rfl (by decide) ?_
    refine j_aload_n G 0 rfl d10_count_60 ?_
    refine j_get G 0 10 1 in10 fl10_13 d10_count_61 rfl rfl (by decide) (v := .int (iZ (S 1))) rfl rfl ?_
    refine j_if_ge (tgt := 72) G d10_count_64 (by decide) (by omega) (fun h2 => ?_) (fun h2 => ?_)
    ·
      refine j_aload_n G 0 rfl d10_count_72 ?_
      refine j_get G 0 10 1 in10 fl10_13 d10_count_73 rfl rfl (by decide) (v := .int (iZ (S 1))) rfl rfl ?_
      exact j_iret G F d10_count_76 ⟨S 1, rfl, (by (try simp only [countA]) <;> (repeat' split) <;> first | rfl | omega | (exfalso; omega))⟩
    ·
      refine j_bipush G d10_count_67 rfl ?_
      refine j_goto (tgt := 76) G d10_count_69 (by decide) ?_
      exact j_iret G F d10_count_76 ⟨(-5), rfl, (by (try simp only [countA]) <;> (repeat' split) <;> first | rfl | omega | (exfalso; omega))⟩
  ·
    refine j_tabIn (tgt := 77) G d10_count_1 (by omega) 5 h1 ⟨by decide, by decide⟩ rfl (by decide) ?_
    refine j_aload_n G 0 rfl d10_count_77 ?_
    refine j_get G 0 10 62 in10 fl10_200 d10_count_78 rfl rfl (by decide) (v := .int (iZ (S 62))) rfl rfl ?_
    exact j_iret G F d10_count_81 ⟨S 62, rfl, (by (try simp only [countA]) <;> (repeat' split) <;> first | rfl | omega | (exfalso; omega))⟩
  ·
    refine j_tabOut (tgt := 82) G d10_count_1 (by omega) h1 (by decide) ?_
    refine j_bipush G d10_count_82 rfl ?_
    exact j_iret G F d10_count_84 ⟨(-2), rfl, (by (try simp only [countA]) <;> (repeat' split) <;> first | rfl | omega | (exfalso; omega))⟩
