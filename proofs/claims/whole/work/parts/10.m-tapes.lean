theorem d10_tape_0 : decode c10_tape 0 = .ok (.aload_n 0, 1) := by decide +kernel
theorem d10_tape_1 : decode c10_tape 1 = .ok (.iload_n 1, 1) := by decide +kernel
theorem d10_tape_2 : decode c10_tape 2 = .ok (.invokevirtual 349, 3) := by decide +kernel
theorem d10_tape_5 : decode c10_tape 5 = .ok (.ifCond .ne 5, 3) := by decide +kernel
theorem d10_tape_8 : decode c10_tape 8 = .ok (.iconst (-1), 1) := by decide +kernel
theorem d10_tape_9 : decode c10_tape 9 = .ok (.ireturn, 1) := by decide +kernel
theorem d10_tape_10 : decode c10_tape 10 = .ok (.aload_n 0, 1) := by decide +kernel
theorem d10_tape_11 : decode c10_tape 11 = .ok (.iload_n 2, 1) := by decide +kernel
theorem d10_tape_12 : decode c10_tape 12 = .ok (.iconst (-1), 1) := by decide +kernel
theorem d10_tape_13 : decode c10_tape 13 = .ok (.iconst 4, 1) := by decide +kernel
theorem d10_tape_14 : decode c10_tape 14 = .ok (.invokevirtual 219, 3) := by decide +kernel
theorem d10_tape_17 : decode c10_tape 17 = .ok (.ifCond .eq 13, 3) := by decide +kernel
theorem d10_tape_20 : decode c10_tape 20 = .ok (.iload_n 2, 1) := by decide +kernel
theorem d10_tape_21 : decode c10_tape 21 = .ok (.ifCond .lt 12, 3) := by decide +kernel
theorem d10_tape_24 : decode c10_tape 24 = .ok (.iload_n 3, 1) := by decide +kernel
theorem d10_tape_25 : decode c10_tape 25 = .ok (.bipush 60, 2) := by decide +kernel
theorem d10_tape_27 : decode c10_tape 27 = .ok (.if_icmp .le 6, 3) := by decide +kernel
theorem d10_tape_30 : decode c10_tape 30 = .ok (.bipush (-2), 2) := by decide +kernel
theorem d10_tape_32 : decode c10_tape 32 = .ok (.ireturn, 1) := by decide +kernel
theorem d10_tape_33 : decode c10_tape 33 = .ok (.iload_n 2, 1) := by decide +kernel
theorem d10_tape_34 : decode c10_tape 34 = .ok (.ifCond .lt 10, 3) := by decide +kernel
theorem d10_tape_37 : decode c10_tape 37 = .ok (.iload_n 3, 1) := by decide +kernel
theorem d10_tape_38 : decode c10_tape 38 = .ok (.ifCond .ge 6, 3) := by decide +kernel
theorem d10_tape_41 : decode c10_tape 41 = .ok (.bipush (-14), 2) := by decide +kernel
theorem d10_tape_43 : decode c10_tape 43 = .ok (.ireturn, 1) := by decide +kernel
theorem d10_tape_44 : decode c10_tape 44 = .ok (.aload_n 0, 1) := by decide +kernel
theorem d10_tape_45 : decode c10_tape 45 = .ok (.getfield 206, 3) := by decide +kernel
theorem d10_tape_48 : decode c10_tape 48 = .ok (.iload_n 1, 1) := by decide +kernel
theorem d10_tape_49 : decode c10_tape 49 = .ok (.iload_n 2, 1) := by decide +kernel
theorem d10_tape_50 : decode c10_tape 50 = .ok (.iastore, 1) := by decide +kernel
theorem d10_tape_51 : decode c10_tape 51 = .ok (.aload_n 0, 1) := by decide +kernel
theorem d10_tape_52 : decode c10_tape 52 = .ok (.getfield 209, 3) := by decide +kernel
theorem d10_tape_55 : decode c10_tape 55 = .ok (.iload_n 1, 1) := by decide +kernel
theorem d10_tape_56 : decode c10_tape 56 = .ok (.iload_n 2, 1) := by decide +kernel
theorem d10_tape_57 : decode c10_tape 57 = .ok (.ifCond .ge 7, 3) := by decide +kernel
theorem d10_tape_60 : decode c10_tape 60 = .ok (.iconst 0, 1) := by decide +kernel
theorem d10_tape_61 : decode c10_tape 61 = .ok (.goto 4, 3) := by decide +kernel
theorem d10_tape_64 : decode c10_tape 64 = .ok (.iload_n 3, 1) := by decide +kernel
theorem d10_tape_65 : decode c10_tape 65 = .ok (.iastore, 1) := by decide +kernel
theorem d10_tape_66 : decode c10_tape 66 = .ok (.iconst 0, 1) := by decide +kernel
theorem d10_tape_67 : decode c10_tape 67 = .ok (.istore 4, 2) := by decide +kernel
theorem d10_tape_69 : decode c10_tape 69 = .ok (.iload 4, 2) := by decide +kernel
theorem d10_tape_71 : decode c10_tape 71 = .ok (.bipush 60, 2) := by decide +kernel
theorem d10_tape_73 : decode c10_tape 73 = .ok (.if_icmp .ge 22, 3) := by decide +kernel
theorem d10_tape_76 : decode c10_tape 76 = .ok (.aload_n 0, 1) := by decide +kernel
theorem d10_tape_77 : decode c10_tape 77 = .ok (.getfield 212, 3) := by decide +kernel
theorem d10_tape_80 : decode c10_tape 80 = .ok (.bipush 60, 2) := by decide +kernel
theorem d10_tape_82 : decode c10_tape 82 = .ok (.iload_n 1, 1) := by decide +kernel
theorem d10_tape_83 : decode c10_tape 83 = .ok (.imul, 1) := by decide +kernel
theorem d10_tape_84 : decode c10_tape 84 = .ok (.iload 4, 2) := by decide +kernel
theorem d10_tape_86 : decode c10_tape 86 = .ok (.iadd, 1) := by decide +kernel
theorem d10_tape_87 : decode c10_tape 87 = .ok (.lconst 0, 1) := by decide +kernel
theorem d10_tape_88 : decode c10_tape 88 = .ok (.lastore, 1) := by decide +kernel
theorem d10_tape_89 : decode c10_tape 89 = .ok (.iinc 4 1, 3) := by decide +kernel
theorem d10_tape_92 : decode c10_tape 92 = .ok (.goto (-23), 3) := by decide +kernel
theorem d10_tape_95 : decode c10_tape 95 = .ok (.iconst 1, 1) := by decide +kernel
theorem d10_tape_96 : decode c10_tape 96 = .ok (.ireturn, 1) := by decide +kernel
theorem mw10_tape : MV y10_tape c10_tape 5 (some .int) 3 := ⟨cd10_tape, ini10, na10_tape, im10_tape, se10_tape⟩
set_option maxHeartbeats 4000000 in
set_option maxRecDepth 100000 in
theorem k10_tape (l : Launch) (E : En) (mo : Nat) (ad : Nat → Nat) (S : Nat → Int) (so : Int → Int) (le : Int → Int) (it : Int → Int) (a : Int) (b : Int) (c : Int) (r_a : R32 a) (r_b : R32 b) (r_c : R32 c) : Cm l E y10_tape c10_tape 5 (some .int) { frames := 2, cells := 0, slots := 0, locals := 44 } [.ref mo, .int (iZ a), .int (iZ b), .int (iZ c)] [(mo, mO ad S), (ad 64, aInt E 6 so), (ad 65, aInt E 6 le), (ad 66, aLng E 360 it)] (fun r ws => ∃ (v : Int), ∃ (so1 : Int → Int), ∃ (le1 : Int → Int), ∃ (it1 : Int → Int), r = some (.int (iZ v)) ∧ ws = [(mo, mO ad S), (ad 64, aInt E 6 so1), (ad 65, aInt E 6 le1), (ad 66, aLng E 360 it1)] ∧ (v = tapeA a b c ∧ ((tapeOk a b c ∧ so1 = upI so a b ∧ le1 = upI le a (tapeL b c) ∧ it1 = tapeI it a) ∨ (¬ tapeOk a b c ∧ so1 = so ∧ le1 = le ∧ it1 = it)))) := by
  refine Cm.of rfl (Nat.le_of_ble_eq_true rfl) (fun Γ A hl ha hin G F => ?_)
  subst hl
  refine j_aload_n G 0 rfl d10_tape_0 ?_
  refine j_iload_n G 1 rfl d10_tape_1 ?_
  refine j_VP G (k10_isTape (xl Γ) E mo ad S a (by first | assumption | omega)) mw10_isTape ml10_349 [0] rfl 0 10 rfl rfl rfl ⟨Nat.le_of_ble_eq_true rfl, Nat.le_of_ble_eq_true rfl⟩ rfl (rest := []) rfl (Nat.le_of_ble_eq_true rfl) d10_tape_2 ⟨Nat.le_of_ble_eq_true rfl, Nat.le_of_ble_eq_true rfl⟩ (fun r hr => ?_)
  obtain ⟨v2, rfl, hq1⟩ := hr
  rcases hq1 with ⟨hq1, rfl⟩ | ⟨hq1, rfl⟩
  ·
    refine j_if_ne (tgt := 10) G d10_tape_5 (by decide) (by decide) (fun h3 => ?_) (fun h3 => absurd h3 (by decide))
    refine j_aload_n G 0 rfl d10_tape_10 ?_
    refine j_iload_n G 2 rfl d10_tape_11 ?_
    refine j_iconst G d10_tape_12 ?_
    refine j_iconst G d10_tape_13 ?_
    refine j_VP G (k10_in (xl Γ) E mo b (-1) 4 (by first | assumption | omega) (by first | assumption | omega) (by first | assumption | omega)) mw10_in ml10_219 [] rfl 0 10 rfl rfl rfl ⟨Nat.le_of_ble_eq_true rfl, Nat.le_of_ble_eq_true rfl⟩ rfl (rest := []) rfl (Nat.le_of_ble_eq_true rfl) d10_tape_14 ⟨Nat.le_of_ble_eq_true rfl, Nat.le_of_ble_eq_true rfl⟩ (fun r hr => ?_)
    obtain ⟨v5, rfl, hq4⟩ := hr
    rcases hq4 with ⟨hq4, rfl⟩ | ⟨hq4, rfl⟩
    ·
      refine j_if_eq (tgt := 30) G d10_tape_17 (by decide) (by decide) (fun h6 => absurd h6 (by decide)) (fun h6 => ?_)
      refine j_iload_n G 2 rfl d10_tape_20 ?_
      refine j_if_lt (tgt := 33) G d10_tape_21 (by decide) (by omega) (fun h7 => ?_) (fun h7 => ?_)
      ·
        refine j_iload_n G 2 rfl d10_tape_33 ?_
        refine j_if_lt (tgt := 44) G d10_tape_34 (by decide) (by omega) (fun h8 => ?_) (fun h8 => ?_)
        ·
          refine j_aload_n G 0 rfl d10_tape_44 ?_
          refine j_get G 0 10 64 in10 fl10_206 d10_tape_45 rfl rfl (by decide) (v := .ref (ad 64)) rfl rfl ?_
          refine j_iload_n G 1 rfl d10_tape_48 ?_
          refine j_iload_n G 2 rfl d10_tape_49 ?_
          refine j_iast G 1 rfl (by omega) d10_tape_50 ?_
          refine j_aload_n G 0 rfl d10_tape_51 ?_
          refine j_get G 0 10 65 in10 fl10_209 d10_tape_52 rfl rfl (by decide) (v := .ref (ad 65)) rfl rfl ?_
          refine j_iload_n G 1 rfl d10_tape_55 ?_
          refine j_iload_n G 2 rfl d10_tape_56 ?_
          have mg57 : ∀ x9 : Int, x9 = (if 0 ≤ b then c else 0) → J E 5 Γ (some A) 0 0 [(mo, mO ad S), (ad 64, aInt E 6 (upI so a b)), (ad 65, aInt E 6 le), (ad 66, aLng E 360 it)] 65 [(0, .ref mo), (1, .int (iZ a)), (2, .int (iZ b)), (3, .int (iZ c))] ([.int (iZ x9), .int (iZ a), .ref (ad 65)]) := by
            intro x9 ex9
            refine j_iast G 2 rfl (by omega) d10_tape_65 ?_
            refine j_iconst G d10_tape_66 ?_
            refine j_istore G d10_tape_67 (by decide) rfl ?_
            have lp69 : ∀ (fu : Nat) (kk : Int) (g : Int → Int), (60 - kk).toNat < fu → (0 ≤ kk ∧ kk ≤ 60) → (∀ j, g j = if 60 * a ≤ j ∧ j < 60 * a + kk then 0 else it j) →  J E 5 Γ (some A) 0 0 [(mo, mO ad S), (ad 64, aInt E 6 (upI so a b)), (ad 65, aInt E 6 (upI le a x9)), (ad 66, aLng E 360 g)] 69 [(4, .int (iZ kk)), (0, .ref mo), (1, .int (iZ a)), (2, .int (iZ b)), (3, .int (iZ c))] [] := by
              intro fu
              induction fu with
              | zero =>
                intro kk g hm
                exact absurd hm (Nat.not_lt_zero _)
              | succ fu ih69 =>
                intro kk g hm hk hg
                refine j_iload G 0 rfl d10_tape_69 ?_
                refine j_bipush G d10_tape_71 rfl ?_
                refine j_icmp_ge (tgt := 95) G d10_tape_73 (by decide) (by omega) (by decide) (fun h10 => ?_) (fun h10 => ?_)
                ·
                  refine j_iconst G d10_tape_95 ?_
                  exact j_iret G F d10_tape_96 ⟨1, (upI so a b), (upI le a x9), g, rfl, rfl, (by exact ⟨by (simp only [tapeA]; (repeat' split) <;> omega), by first | (left; exact ⟨by unfold tapeOk; omega, by subst_vars; rfl, by congr 1; unfold tapeL; (repeat' split) <;> omega, by funext j; rw [hg]; unfold tapeI; (repeat' split) <;> first | rfl | omega⟩) | (right; exact ⟨by unfold tapeOk; omega, rfl, rfl, rfl⟩)⟩)⟩
                ·
                  refine j_aload_n G 1 rfl d10_tape_76 ?_
                  refine j_get G 0 10 66 in10 fl10_212 d10_tape_77 rfl rfl (by decide) (v := .ref (ad 66)) rfl rfl ?_
                  refine j_bipush G d10_tape_80 rfl ?_
                  refine j_iload_n G 2 rfl d10_tape_82 ?_
                  refine j_imul G d10_tape_83 ?_
                  refine j_iload G 0 rfl d10_tape_84 ?_
                  refine j_iadd G d10_tape_86 ?_
                  refine j_lconst G 0 d10_tape_87 rfl ?_
                  refine j_last G 3 rfl (by omega) d10_tape_88 ?_
                  refine j_iinc G d10_tape_89 0 rfl (by decide) rfl ?_
                  refine j_goto (tgt := 69) G d10_tape_92 (by decide) ?_
                  exact ih69 (kk + 1) (upI g ((60 * a) + kk) 0) (by omega) (by first | assumption | omega) (by intro j; simp only [upI, hg]; (repeat' split) <;> first | rfl | omega)
            exact lp69 _ 0 it (Nat.lt_succ_self _) (by first | assumption | omega) (fun j => by rw [if_neg (by omega)])
          refine j_if_ge (tgt := 64) G d10_tape_57 (by decide) (by omega) (fun h11 => ?_) (fun h11 => ?_)
          ·
            refine j_iload_n G 3 rfl d10_tape_64 ?_
            refine j_eq (ws' := [(mo, mO ad S), (ad 64, aInt E 6 (upI so a b)), (ad 65, aInt E 6 le), (ad 66, aLng E 360 it)]) (ls' := [(0, .ref mo), (1, .int (iZ a)), (2, .int (iZ b)), (3, .int (iZ c))]) rfl rfl rfl ?_
            exact mg57 _ (by first | rfl | (simp only [*, if_true, if_false, ite_true, ite_false]; done) | (split <;> first | rfl | omega | (split <;> first | rfl | omega | (split <;> first | rfl | omega))))
          ·
            refine j_iconst G d10_tape_60 ?_
            refine j_goto (tgt := 65) G d10_tape_61 (by decide) ?_
            refine j_eq (ws' := [(mo, mO ad S), (ad 64, aInt E 6 (upI so a b)), (ad 65, aInt E 6 le), (ad 66, aLng E 360 it)]) (ls' := [(0, .ref mo), (1, .int (iZ a)), (2, .int (iZ b)), (3, .int (iZ c))]) rfl rfl rfl ?_
            exact mg57 _ (by first | rfl | (simp only [*, if_true, if_false, ite_true, ite_false]; done) | (split <;> first | rfl | omega | (split <;> first | rfl | omega | (split <;> first | rfl | omega))))
        ·
          refine j_iload_n G 3 rfl d10_tape_37 ?_
          refine j_if_ge (tgt := 44) G d10_tape_38 (by decide) (by omega) (fun h12 => ?_) (fun h12 => ?_)
          ·
            refine j_aload_n G 0 rfl d10_tape_44 ?_
            refine j_get G 0 10 64 in10 fl10_206 d10_tape_45 rfl rfl (by decide) (v := .ref (ad 64)) rfl rfl ?_
            refine j_iload_n G 1 rfl d10_tape_48 ?_
            refine j_iload_n G 2 rfl d10_tape_49 ?_
            refine j_iast G 1 rfl (by omega) d10_tape_50 ?_
            refine j_aload_n G 0 rfl d10_tape_51 ?_
            refine j_get G 0 10 65 in10 fl10_209 d10_tape_52 rfl rfl (by decide) (v := .ref (ad 65)) rfl rfl ?_
            refine j_iload_n G 1 rfl d10_tape_55 ?_
            refine j_iload_n G 2 rfl d10_tape_56 ?_
            have mg57 : ∀ x13 : Int, x13 = (if 0 ≤ b then c else 0) → J E 5 Γ (some A) 0 0 [(mo, mO ad S), (ad 64, aInt E 6 (upI so a b)), (ad 65, aInt E 6 le), (ad 66, aLng E 360 it)] 65 [(0, .ref mo), (1, .int (iZ a)), (2, .int (iZ b)), (3, .int (iZ c))] ([.int (iZ x13), .int (iZ a), .ref (ad 65)]) := by
              intro x13 ex13
              refine j_iast G 2 rfl (by omega) d10_tape_65 ?_
              refine j_iconst G d10_tape_66 ?_
              refine j_istore G d10_tape_67 (by decide) rfl ?_
              have lp69 : ∀ (fu : Nat) (kk : Int) (g : Int → Int), (60 - kk).toNat < fu → (0 ≤ kk ∧ kk ≤ 60) → (∀ j, g j = if 60 * a ≤ j ∧ j < 60 * a + kk then 0 else it j) →  J E 5 Γ (some A) 0 0 [(mo, mO ad S), (ad 64, aInt E 6 (upI so a b)), (ad 65, aInt E 6 (upI le a x13)), (ad 66, aLng E 360 g)] 69 [(4, .int (iZ kk)), (0, .ref mo), (1, .int (iZ a)), (2, .int (iZ b)), (3, .int (iZ c))] [] := by
                intro fu
                induction fu with
                | zero =>
                  intro kk g hm
                  exact absurd hm (Nat.not_lt_zero _)
                | succ fu ih69 =>
                  intro kk g hm hk hg
                  refine j_iload G 0 rfl d10_tape_69 ?_
                  refine j_bipush G d10_tape_71 rfl ?_
                  refine j_icmp_ge (tgt := 95) G d10_tape_73 (by decide) (by omega) (by decide) (fun h14 => ?_) (fun h14 => ?_)
                  ·
                    refine j_iconst G d10_tape_95 ?_
                    exact j_iret G F d10_tape_96 ⟨1, (upI so a b), (upI le a x13), g, rfl, rfl, (by exact ⟨by (simp only [tapeA]; (repeat' split) <;> omega), by first | (left; exact ⟨by unfold tapeOk; omega, by subst_vars; rfl, by congr 1; unfold tapeL; (repeat' split) <;> omega, by funext j; rw [hg]; unfold tapeI; (repeat' split) <;> first | rfl | omega⟩) | (right; exact ⟨by unfold tapeOk; omega, rfl, rfl, rfl⟩)⟩)⟩
                  ·
                    refine j_aload_n G 1 rfl d10_tape_76 ?_
                    refine j_get G 0 10 66 in10 fl10_212 d10_tape_77 rfl rfl (by decide) (v := .ref (ad 66)) rfl rfl ?_
                    refine j_bipush G d10_tape_80 rfl ?_
                    refine j_iload_n G 2 rfl d10_tape_82 ?_
                    refine j_imul G d10_tape_83 ?_
                    refine j_iload G 0 rfl d10_tape_84 ?_
                    refine j_iadd G d10_tape_86 ?_
                    refine j_lconst G 0 d10_tape_87 rfl ?_
                    refine j_last G 3 rfl (by omega) d10_tape_88 ?_
                    refine j_iinc G d10_tape_89 0 rfl (by decide) rfl ?_
                    refine j_goto (tgt := 69) G d10_tape_92 (by decide) ?_
                    exact ih69 (kk + 1) (upI g ((60 * a) + kk) 0) (by omega) (by first | assumption | omega) (by intro j; simp only [upI, hg]; (repeat' split) <;> first | rfl | omega)
              exact lp69 _ 0 it (Nat.lt_succ_self _) (by first | assumption | omega) (fun j => by rw [if_neg (by omega)])
            refine j_if_ge (tgt := 64) G d10_tape_57 (by decide) (by omega) (fun h15 => ?_) (fun h15 => ?_)
            ·
              refine j_iload_n G 3 rfl d10_tape_64 ?_
              refine j_eq (ws' := [(mo, mO ad S), (ad 64, aInt E 6 (upI so a b)), (ad 65, aInt E 6 le), (ad 66, aLng E 360 it)]) (ls' := [(0, .ref mo), (1, .int (iZ a)), (2, .int (iZ b)), (3, .int (iZ c))]) rfl rfl rfl ?_
              exact mg57 _ (by first | rfl | (simp only [*, if_true, if_false, ite_true, ite_false]; done) | (split <;> first | rfl | omega | (split <;> first | rfl | omega | (split <;> first | rfl | omega))))
            ·
              refine j_iconst G d10_tape_60 ?_
              refine j_goto (tgt := 65) G d10_tape_61 (by decide) ?_
              refine j_eq (ws' := [(mo, mO ad S), (ad 64, aInt E 6 (upI so a b)), (ad 65, aInt E 6 le), (ad 66, aLng E 360 it)]) (ls' := [(0, .ref mo), (1, .int (iZ a)), (2, .int (iZ b)), (3, .int (iZ c))]) rfl rfl rfl ?_
              exact mg57 _ (by first | rfl | (simp only [*, if_true, if_false, ite_true, ite_false]; done) | (split <;> first | rfl | omega | (split <;> first | rfl | omega | (split <;> first | rfl | omega))))
          ·
            refine j_bipush G d10_tape_41 rfl ?_
            exact j_iret G F d10_tape_43 ⟨(-14), so, le, it, rfl, rfl, (by exact ⟨by (simp only [tapeA]; (repeat' split) <;> omega), by first | (left; exact ⟨by unfold tapeOk; omega, by subst_vars; rfl, by congr 1; unfold tapeL; (repeat' split) <;> omega, by funext j; rw [hg]; unfold tapeI; (repeat' split) <;> first | rfl | omega⟩) | (right; exact ⟨by unfold tapeOk; omega, rfl, rfl, rfl⟩)⟩)⟩
      ·
        refine j_iload_n G 3 rfl d10_tape_24 ?_
        refine j_bipush G d10_tape_25 rfl ?_
        refine j_icmp_le (tgt := 33) G d10_tape_27 (by decide) (by omega) (by decide) (fun h16 => ?_) (fun h16 => ?_)
        ·
          refine j_iload_n G 2 rfl d10_tape_33 ?_
          refine j_if_lt (tgt := 44) G d10_tape_34 (by decide) (by omega) (fun h17 => ?_) (fun h17 => ?_)
          ·
            refine j_aload_n G 0 rfl d10_tape_44 ?_
            refine j_get G 0 10 64 in10 fl10_206 d10_tape_45 rfl rfl (by decide) (v := .ref (ad 64)) rfl rfl ?_
            refine j_iload_n G 1 rfl d10_tape_48 ?_
            refine j_iload_n G 2 rfl d10_tape_49 ?_
            refine j_iast G 1 rfl (by omega) d10_tape_50 ?_
            refine j_aload_n G 0 rfl d10_tape_51 ?_
            refine j_get G 0 10 65 in10 fl10_209 d10_tape_52 rfl rfl (by decide) (v := .ref (ad 65)) rfl rfl ?_
            refine j_iload_n G 1 rfl d10_tape_55 ?_
            refine j_iload_n G 2 rfl d10_tape_56 ?_
            have mg57 : ∀ x18 : Int, x18 = (if 0 ≤ b then c else 0) → J E 5 Γ (some A) 0 0 [(mo, mO ad S), (ad 64, aInt E 6 (upI so a b)), (ad 65, aInt E 6 le), (ad 66, aLng E 360 it)] 65 [(0, .ref mo), (1, .int (iZ a)), (2, .int (iZ b)), (3, .int (iZ c))] ([.int (iZ x18), .int (iZ a), .ref (ad 65)]) := by
              intro x18 ex18
              refine j_iast G 2 rfl (by omega) d10_tape_65 ?_
              refine j_iconst G d10_tape_66 ?_
              refine j_istore G d10_tape_67 (by decide) rfl ?_
              have lp69 : ∀ (fu : Nat) (kk : Int) (g : Int → Int), (60 - kk).toNat < fu → (0 ≤ kk ∧ kk ≤ 60) → (∀ j, g j = if 60 * a ≤ j ∧ j < 60 * a + kk then 0 else it j) →  J E 5 Γ (some A) 0 0 [(mo, mO ad S), (ad 64, aInt E 6 (upI so a b)), (ad 65, aInt E 6 (upI le a x18)), (ad 66, aLng E 360 g)] 69 [(4, .int (iZ kk)), (0, .ref mo), (1, .int (iZ a)), (2, .int (iZ b)), (3, .int (iZ c))] [] := by
                intro fu
                induction fu with
                | zero =>
                  intro kk g hm
                  exact absurd hm (Nat.not_lt_zero _)
                | succ fu ih69 =>
                  intro kk g hm hk hg
                  refine j_iload G 0 rfl d10_tape_69 ?_
                  refine j_bipush G d10_tape_71 rfl ?_
                  refine j_icmp_ge (tgt := 95) G d10_tape_73 (by decide) (by omega) (by decide) (fun h19 => ?_) (fun h19 => ?_)
                  ·
                    refine j_iconst G d10_tape_95 ?_
                    exact j_iret G F d10_tape_96 ⟨1, (upI so a b), (upI le a x18), g, rfl, rfl, (by exact ⟨by (simp only [tapeA]; (repeat' split) <;> omega), by first | (left; exact ⟨by unfold tapeOk; omega, by subst_vars; rfl, by congr 1; unfold tapeL; (repeat' split) <;> omega, by funext j; rw [hg]; unfold tapeI; (repeat' split) <;> first | rfl | omega⟩) | (right; exact ⟨by unfold tapeOk; omega, rfl, rfl, rfl⟩)⟩)⟩
                  ·
                    refine j_aload_n G 1 rfl d10_tape_76 ?_
                    refine j_get G 0 10 66 in10 fl10_212 d10_tape_77 rfl rfl (by decide) (v := .ref (ad 66)) rfl rfl ?_
                    refine j_bipush G d10_tape_80 rfl ?_
                    refine j_iload_n G 2 rfl d10_tape_82 ?_
                    refine j_imul G d10_tape_83 ?_
                    refine j_iload G 0 rfl d10_tape_84 ?_
                    refine j_iadd G d10_tape_86 ?_
                    refine j_lconst G 0 d10_tape_87 rfl ?_
                    refine j_last G 3 rfl (by omega) d10_tape_88 ?_
                    refine j_iinc G d10_tape_89 0 rfl (by decide) rfl ?_
                    refine j_goto (tgt := 69) G d10_tape_92 (by decide) ?_
                    exact ih69 (kk + 1) (upI g ((60 * a) + kk) 0) (by omega) (by first | assumption | omega) (by intro j; simp only [upI, hg]; (repeat' split) <;> first | rfl | omega)
              exact lp69 _ 0 it (Nat.lt_succ_self _) (by first | assumption | omega) (fun j => by rw [if_neg (by omega)])
            refine j_if_ge (tgt := 64) G d10_tape_57 (by decide) (by omega) (fun h20 => ?_) (fun h20 => ?_)
            ·
              refine j_iload_n G 3 rfl d10_tape_64 ?_
              refine j_eq (ws' := [(mo, mO ad S), (ad 64, aInt E 6 (upI so a b)), (ad 65, aInt E 6 le), (ad 66, aLng E 360 it)]) (ls' := [(0, .ref mo), (1, .int (iZ a)), (2, .int (iZ b)), (3, .int (iZ c))]) rfl rfl rfl ?_
              exact mg57 _ (by first | rfl | (simp only [*, if_true, if_false, ite_true, ite_false]; done) | (split <;> first | rfl | omega | (split <;> first | rfl | omega | (split <;> first | rfl | omega))))
            ·
              refine j_iconst G d10_tape_60 ?_
              refine j_goto (tgt := 65) G d10_tape_61 (by decide) ?_
              refine j_eq (ws' := [(mo, mO ad S), (ad 64, aInt E 6 (upI so a b)), (ad 65, aInt E 6 le), (ad 66, aLng E 360 it)]) (ls' := [(0, .ref mo), (1, .int (iZ a)), (2, .int (iZ b)), (3, .int (iZ c))]) rfl rfl rfl ?_
              exact mg57 _ (by first | rfl | (simp only [*, if_true, if_false, ite_true, ite_false]; done) | (split <;> first | rfl | omega | (split <;> first | rfl | omega | (split <;> first | rfl | omega))))
          ·
            refine j_iload_n G 3 rfl d10_tape_37 ?_
            refine j_if_ge (tgt := 44) G d10_tape_38 (by decide) (by omega) (fun h21 => ?_) (fun h21 => ?_)
            ·
              refine j_aload_n G 0 rfl d10_tape_44 ?_
              refine j_get G 0 10 64 in10 fl10_206 d10_tape_45 rfl rfl (by decide) (v := .ref (ad 64)) rfl rfl ?_
              refine j_iload_n G 1 rfl d10_tape_48 ?_
              refine j_iload_n G 2 rfl d10_tape_49 ?_
              refine j_iast G 1 rfl (by omega) d10_tape_50 ?_
              refine j_aload_n G 0 rfl d10_tape_51 ?_
              refine j_get G 0 10 65 in10 fl10_209 d10_tape_52 rfl rfl (by decide) (v := .ref (ad 65)) rfl rfl ?_
              refine j_iload_n G 1 rfl d10_tape_55 ?_
              refine j_iload_n G 2 rfl d10_tape_56 ?_
              have mg57 : ∀ x22 : Int, x22 = (if 0 ≤ b then c else 0) → J E 5 Γ (some A) 0 0 [(mo, mO ad S), (ad 64, aInt E 6 (upI so a b)), (ad 65, aInt E 6 le), (ad 66, aLng E 360 it)] 65 [(0, .ref mo), (1, .int (iZ a)), (2, .int (iZ b)), (3, .int (iZ c))] ([.int (iZ x22), .int (iZ a), .ref (ad 65)]) := by
                intro x22 ex22
                refine j_iast G 2 rfl (by omega) d10_tape_65 ?_
                refine j_iconst G d10_tape_66 ?_
                refine j_istore G d10_tape_67 (by decide) rfl ?_
                have lp69 : ∀ (fu : Nat) (kk : Int) (g : Int → Int), (60 - kk).toNat < fu → (0 ≤ kk ∧ kk ≤ 60) → (∀ j, g j = if 60 * a ≤ j ∧ j < 60 * a + kk then 0 else it j) →  J E 5 Γ (some A) 0 0 [(mo, mO ad S), (ad 64, aInt E 6 (upI so a b)), (ad 65, aInt E 6 (upI le a x22)), (ad 66, aLng E 360 g)] 69 [(4, .int (iZ kk)), (0, .ref mo), (1, .int (iZ a)), (2, .int (iZ b)), (3, .int (iZ c))] [] := by
                  intro fu
                  induction fu with
                  | zero =>
                    intro kk g hm
                    exact absurd hm (Nat.not_lt_zero _)
                  | succ fu ih69 =>
                    intro kk g hm hk hg
                    refine j_iload G 0 rfl d10_tape_69 ?_
                    refine j_bipush G d10_tape_71 rfl ?_
                    refine j_icmp_ge (tgt := 95) G d10_tape_73 (by decide) (by omega) (by decide) (fun h23 => ?_) (fun h23 => ?_)
                    ·
                      refine j_iconst G d10_tape_95 ?_
                      exact j_iret G F d10_tape_96 ⟨1, (upI so a b), (upI le a x22), g, rfl, rfl, (by exact ⟨by (simp only [tapeA]; (repeat' split) <;> omega), by first | (left; exact ⟨by unfold tapeOk; omega, by subst_vars; rfl, by congr 1; unfold tapeL; (repeat' split) <;> omega, by funext j; rw [hg]; unfold tapeI; (repeat' split) <;> first | rfl | omega⟩) | (right; exact ⟨by unfold tapeOk; omega, rfl, rfl, rfl⟩)⟩)⟩
                    ·
                      refine j_aload_n G 1 rfl d10_tape_76 ?_
                      refine j_get G 0 10 66 in10 fl10_212 d10_tape_77 rfl rfl (by decide) (v := .ref (ad 66)) rfl rfl ?_
                      refine j_bipush G d10_tape_80 rfl ?_
                      refine j_iload_n G 2 rfl d10_tape_82 ?_
                      refine j_imul G d10_tape_83 ?_
                      refine j_iload G 0 rfl d10_tape_84 ?_
                      refine j_iadd G d10_tape_86 ?_
                      refine j_lconst G 0 d10_tape_87 rfl ?_
                      refine j_last G 3 rfl (by omega) d10_tape_88 ?_
                      refine j_iinc G d10_tape_89 0 rfl (by decide) rfl ?_
                      refine j_goto (tgt := 69) G d10_tape_92 (by decide) ?_
                      exact ih69 (kk + 1) (upI g ((60 * a) + kk) 0) (by omega) (by first | assumption | omega) (by intro j; simp only [upI, hg]; (repeat' split) <;> first | rfl | omega)
                exact lp69 _ 0 it (Nat.lt_succ_self _) (by first | assumption | omega) (fun j => by rw [if_neg (by omega)])
              refine j_if_ge (tgt := 64) G d10_tape_57 (by decide) (by omega) (fun h24 => ?_) (fun h24 => ?_)
              ·
                refine j_iload_n G 3 rfl d10_tape_64 ?_
                refine j_eq (ws' := [(mo, mO ad S), (ad 64, aInt E 6 (upI so a b)), (ad 65, aInt E 6 le), (ad 66, aLng E 360 it)]) (ls' := [(0, .ref mo), (1, .int (iZ a)), (2, .int (iZ b)), (3, .int (iZ c))]) rfl rfl rfl ?_
                exact mg57 _ (by first | rfl | (simp only [*, if_true, if_false, ite_true, ite_false]; done) | (split <;> first | rfl | omega | (split <;> first | rfl | omega | (split <;> first | rfl | omega))))
              ·
                refine j_iconst G d10_tape_60 ?_
                refine j_goto (tgt := 65) G d10_tape_61 (by decide) ?_
                refine j_eq (ws' := [(mo, mO ad S), (ad 64, aInt E 6 (upI so a b)), (ad 65, aInt E 6 le), (ad 66, aLng E 360 it)]) (ls' := [(0, .ref mo), (1, .int (iZ a)), (2, .int (iZ b)), (3, .int (iZ c))]) rfl rfl rfl ?_
                exact mg57 _ (by first | rfl | (simp only [*, if_true, if_false, ite_true, ite_false]; done) | (split <;> first | rfl | omega | (split <;> first | rfl | omega | (split <;> first | rfl | omega))))
            ·
              refine j_bipush G d10_tape_41 rfl ?_
              exact j_iret G F d10_tape_43 ⟨(-14), so, le, it, rfl, rfl, (by exact ⟨by (simp only [tapeA]; (repeat' split) <;> omega), by first | (left; exact ⟨by unfold tapeOk; omega, by subst_vars; rfl, by congr 1; unfold tapeL; (repeat' split) <;> omega, by funext j; rw [hg]; unfold tapeI; (repeat' split) <;> first | rfl | omega⟩) | (right; exact ⟨by unfold tapeOk; omega, rfl, rfl, rfl⟩)⟩)⟩
        ·
          refine j_bipush G d10_tape_30 rfl ?_
          exact j_iret G F d10_tape_32 ⟨(-2), so, le, it, rfl, rfl, (by exact ⟨by (simp only [tapeA]; (repeat' split) <;> omega), by first | (left; exact ⟨by unfold tapeOk; omega, by subst_vars; rfl, by congr 1; unfold tapeL; (repeat' split) <;> omega, by funext j; rw [hg]; unfold tapeI; (repeat' split) <;> first | rfl | omega⟩) | (right; exact ⟨by unfold tapeOk; omega, rfl, rfl, rfl⟩)⟩)⟩
    ·
      refine j_if_eq (tgt := 30) G d10_tape_17 (by decide) (by decide) (fun h25 => ?_) (fun h25 => absurd h25 (by decide))
      refine j_bipush G d10_tape_30 rfl ?_
      exact j_iret G F d10_tape_32 ⟨(-2), so, le, it, rfl, rfl, (by exact ⟨by (simp only [tapeA]; (repeat' split) <;> omega), by first | (left; exact ⟨by unfold tapeOk; omega, by subst_vars; rfl, by congr 1; unfold tapeL; (repeat' split) <;> omega, by funext j; rw [hg]; unfold tapeI; (repeat' split) <;> first | rfl | omega⟩) | (right; exact ⟨by unfold tapeOk; omega, rfl, rfl, rfl⟩)⟩)⟩
  ·
    refine j_if_ne (tgt := 10) G d10_tape_5 (by decide) (by decide) (fun h26 => absurd h26 (by decide)) (fun h26 => ?_)
    refine j_iconst G d10_tape_8 ?_
    exact j_iret G F d10_tape_9 ⟨(-1), so, le, it, rfl, rfl, (by exact ⟨by (simp only [tapeA]; (repeat' split) <;> omega), by first | (left; exact ⟨by unfold tapeOk; omega, by subst_vars; rfl, by congr 1; unfold tapeL; (repeat' split) <;> omega, by funext j; rw [hg]; unfold tapeI; (repeat' split) <;> first | rfl | omega⟩) | (right; exact ⟨by unfold tapeOk; omega, rfl, rfl, rfl⟩)⟩)⟩
theorem d10_narrow_0 : decode c10_narrow 0 = .ok (.iload_n 1, 1) := by decide +kernel
theorem d10_narrow_1 : decode c10_narrow 1 = .ok (.ifCond .ne 10, 3) := by decide +kernel
theorem d10_narrow_4 : decode c10_narrow 4 = .ok (.lload_n 2, 1) := by decide +kernel
theorem d10_narrow_5 : decode c10_narrow 5 = .ok (.l2i, 1) := by decide +kernel
theorem d10_narrow_6 : decode c10_narrow 6 = .ok (.i2b, 1) := by decide +kernel
theorem d10_narrow_7 : decode c10_narrow 7 = .ok (.i2l, 1) := by decide +kernel
theorem d10_narrow_8 : decode c10_narrow 8 = .ok (.goto 46, 3) := by decide +kernel
theorem d10_narrow_11 : decode c10_narrow 11 = .ok (.iload_n 1, 1) := by decide +kernel
theorem d10_narrow_12 : decode c10_narrow 12 = .ok (.iconst 1, 1) := by decide +kernel
theorem d10_narrow_13 : decode c10_narrow 13 = .ok (.if_icmp .ne 10, 3) := by decide +kernel
theorem d10_narrow_16 : decode c10_narrow 16 = .ok (.lload_n 2, 1) := by decide +kernel
theorem d10_narrow_17 : decode c10_narrow 17 = .ok (.l2i, 1) := by decide +kernel
theorem d10_narrow_18 : decode c10_narrow 18 = .ok (.i2s, 1) := by decide +kernel
theorem d10_narrow_19 : decode c10_narrow 19 = .ok (.i2l, 1) := by decide +kernel
theorem d10_narrow_20 : decode c10_narrow 20 = .ok (.goto 34, 3) := by decide +kernel
theorem d10_narrow_23 : decode c10_narrow 23 = .ok (.iload_n 1, 1) := by decide +kernel
theorem d10_narrow_24 : decode c10_narrow 24 = .ok (.iconst 2, 1) := by decide +kernel
theorem d10_narrow_25 : decode c10_narrow 25 = .ok (.if_icmp .ne 9, 3) := by decide +kernel
theorem d10_narrow_28 : decode c10_narrow 28 = .ok (.lload_n 2, 1) := by decide +kernel
theorem d10_narrow_29 : decode c10_narrow 29 = .ok (.l2i, 1) := by decide +kernel
theorem d10_narrow_30 : decode c10_narrow 30 = .ok (.i2l, 1) := by decide +kernel
theorem d10_narrow_31 : decode c10_narrow 31 = .ok (.goto 23, 3) := by decide +kernel
theorem d10_narrow_34 : decode c10_narrow 34 = .ok (.iload_n 1, 1) := by decide +kernel
theorem d10_narrow_35 : decode c10_narrow 35 = .ok (.iconst 4, 1) := by decide +kernel
theorem d10_narrow_36 : decode c10_narrow 36 = .ok (.if_icmp .ne 17, 3) := by decide +kernel
theorem d10_narrow_39 : decode c10_narrow 39 = .ok (.lload_n 2, 1) := by decide +kernel
theorem d10_narrow_40 : decode c10_narrow 40 = .ok (.lconst 0, 1) := by decide +kernel
theorem d10_narrow_41 : decode c10_narrow 41 = .ok (.lcmp, 1) := by decide +kernel
theorem d10_narrow_42 : decode c10_narrow 42 = .ok (.ifCond .eq 7, 3) := by decide +kernel
theorem d10_narrow_45 : decode c10_narrow 45 = .ok (.lconst 1, 1) := by decide +kernel
theorem d10_narrow_46 : decode c10_narrow 46 = .ok (.goto 8, 3) := by decide +kernel
theorem d10_narrow_49 : decode c10_narrow 49 = .ok (.lconst 0, 1) := by decide +kernel
theorem d10_narrow_50 : decode c10_narrow 50 = .ok (.goto 4, 3) := by decide +kernel
theorem d10_narrow_53 : decode c10_narrow 53 = .ok (.lload_n 2, 1) := by decide +kernel
theorem d10_narrow_54 : decode c10_narrow 54 = .ok (.lreturn, 1) := by decide +kernel
theorem mw10_narrow : MV y10_narrow c10_narrow 4 (some .long) 2 := ⟨cd10_narrow, ini10, na10_narrow, im10_narrow, se10_narrow⟩
set_option maxHeartbeats 4000000 in
set_option maxRecDepth 100000 in
theorem k10_narrow (l : Launch) (E : En) (mo : Nat) (ad : Nat → Nat) (S : Nat → Int) (a : Int) (b : Int) (r_a : R32 a) (rb : R64 b) : Cp l E y10_narrow c10_narrow 4 (some .long) 0 0 [.ref mo, .int (iZ a), .long (lZ b)] [(mo, mO ad S)] (fun r => ∃ (v : Int), r = some (.long (lZ v)) ∧ (v = nar a b)) := by
  refine Cp.of rfl (Nat.le_of_ble_eq_true rfl) (fun Γ hl ha G F => ?_)
  subst hl
  refine j_iload_n G 1 rfl d10_narrow_0 ?_
  refine j_if_ne (tgt := 11) G d10_narrow_1 (by decide) (by omega) (fun h1 => ?_) (fun h1 => ?_)
  ·
    refine j_iload_n G 1 rfl d10_narrow_11 ?_
    refine j_iconst G d10_narrow_12 ?_
    refine j_icmp_ne (tgt := 23) G d10_narrow_13 (by decide) (by omega) (by decide) (fun h2 => ?_) (fun h2 => ?_)
    ·
      refine j_iload_n G 1 rfl d10_narrow_23 ?_
      refine j_iconst G d10_narrow_24 ?_
      refine j_icmp_ne (tgt := 34) G d10_narrow_25 (by decide) (by omega) (by decide) (fun h3 => ?_) (fun h3 => ?_)
      ·
        refine j_iload_n G 1 rfl d10_narrow_34 ?_
        refine j_iconst G d10_narrow_35 ?_
        refine j_icmp_ne (tgt := 53) G d10_narrow_36 (by decide) (by omega) (by decide) (fun h4 => ?_) (fun h4 => ?_)
        ·
          refine j_lload_n G 2 rfl d10_narrow_53 ?_
          exact j_lret G F d10_narrow_54 ⟨b, rfl, (by (try simp only [nar]) <;> (repeat' split) <;> first | rfl | omega | (exfalso; omega))⟩
        ·
          refine j_lload_n G 2 rfl d10_narrow_39 ?_
          refine j_lconst G 0 d10_narrow_40 rfl ?_
          refine j_lcmp G d10_narrow_41 (by omega) (by omega) ?_
          refine j_if_eq (tgt := 49) G d10_narrow_42 (by decide) (by split <;> first | decide | (split <;> decide)) (fun h5 => ?_) (fun h5 => ?_)
          ·
            have h5 : b = 0 := by
              revert h5; split <;> (try split) <;> intro h5 <;> omega
            refine j_lconst G 0 d10_narrow_49 rfl ?_
            refine j_goto (tgt := 54) G d10_narrow_50 (by decide) ?_
            exact j_lret G F d10_narrow_54 ⟨0, rfl, (by (try simp only [nar]) <;> (repeat' split) <;> first | rfl | omega | (exfalso; omega))⟩
          ·
            have h5 : ¬ (b = 0) := by
              revert h5; split <;> (try split) <;> intro h5 <;> omega
            refine j_lconst G 1 d10_narrow_45 rfl ?_
            refine j_goto (tgt := 54) G d10_narrow_46 (by decide) ?_
            exact j_lret G F d10_narrow_54 ⟨1, rfl, (by (try simp only [nar]) <;> (repeat' split) <;> first | rfl | omega | (exfalso; omega))⟩
      ·
        refine j_lload_n G 2 rfl d10_narrow_28 ?_
        refine j_l2i G d10_narrow_29 ?_
        refine j_top (y := iZ ((iZ b).toInt)) (iZ_of _).symm ?_
        refine j_i2l G d10_narrow_30 (iZ_r _) ?_
        refine j_goto (tgt := 54) G d10_narrow_31 (by decide) ?_
        exact j_lret G F d10_narrow_54 ⟨(iZ b).toInt, rfl, (by (try simp only [nar]) <;> (repeat' split) <;> first | rfl | omega | (exfalso; omega))⟩
    ·
      refine j_lload_n G 2 rfl d10_narrow_16 ?_
      refine j_l2i G d10_narrow_17 ?_
      refine r_i2s G d10_narrow_18 ?_
      refine j_top (y := iZ (((iZ b).toInt16.toInt32).toInt)) (iZ_of _).symm ?_
      refine j_i2l G d10_narrow_19 (iZ_r _) ?_
      refine j_goto (tgt := 54) G d10_narrow_20 (by decide) ?_
      exact j_lret G F d10_narrow_54 ⟨((iZ b).toInt16.toInt32).toInt, rfl, (by (try simp only [nar]) <;> (repeat' split) <;> first | rfl | omega | (exfalso; omega))⟩
  ·
    refine j_lload_n G 2 rfl d10_narrow_4 ?_
    refine j_l2i G d10_narrow_5 ?_
    refine r_i2b G d10_narrow_6 ?_
    refine j_top (y := iZ (((iZ b).toInt8.toInt32).toInt)) (iZ_of _).symm ?_
    refine j_i2l G d10_narrow_7 (iZ_r _) ?_
    refine j_goto (tgt := 54) G d10_narrow_8 (by decide) ?_
    exact j_lret G F d10_narrow_54 ⟨((iZ b).toInt8.toInt32).toInt, rfl, (by (try simp only [nar]) <;> (repeat' split) <;> first | rfl | omega | (exfalso; omega))⟩
theorem d10_item_0 : decode c10_item 0 = .ok (.aload_n 0, 1) := by decide +kernel
theorem d10_item_1 : decode c10_item 1 = .ok (.iload_n 1, 1) := by decide +kernel
theorem d10_item_2 : decode c10_item 2 = .ok (.invokevirtual 349, 3) := by decide +kernel
theorem d10_item_5 : decode c10_item 5 = .ok (.ifCond .ne 5, 3) := by decide +kernel
theorem d10_item_8 : decode c10_item 8 = .ok (.iconst (-1), 1) := by decide +kernel
theorem d10_item_9 : decode c10_item 9 = .ok (.ireturn, 1) := by decide +kernel
theorem d10_item_10 : decode c10_item 10 = .ok (.aload_n 0, 1) := by decide +kernel
theorem d10_item_11 : decode c10_item 11 = .ok (.getfield 206, 3) := by decide +kernel
theorem d10_item_14 : decode c10_item 14 = .ok (.iload_n 1, 1) := by decide +kernel
theorem d10_item_15 : decode c10_item 15 = .ok (.iaload, 1) := by decide +kernel
theorem d10_item_16 : decode c10_item 16 = .ok (.ifCond .ge 6, 3) := by decide +kernel
theorem d10_item_19 : decode c10_item 19 = .ok (.bipush (-11), 2) := by decide +kernel
theorem d10_item_21 : decode c10_item 21 = .ok (.ireturn, 1) := by decide +kernel
theorem d10_item_22 : decode c10_item 22 = .ok (.aload_n 0, 1) := by decide +kernel
theorem d10_item_23 : decode c10_item 23 = .ok (.iload_n 2, 1) := by decide +kernel
theorem d10_item_24 : decode c10_item 24 = .ok (.iconst 0, 1) := by decide +kernel
theorem d10_item_25 : decode c10_item 25 = .ok (.aload_n 0, 1) := by decide +kernel
theorem d10_item_26 : decode c10_item 26 = .ok (.getfield 209, 3) := by decide +kernel
theorem d10_item_29 : decode c10_item 29 = .ok (.iload_n 1, 1) := by decide +kernel
theorem d10_item_30 : decode c10_item 30 = .ok (.iaload, 1) := by decide +kernel
theorem d10_item_31 : decode c10_item 31 = .ok (.iconst 1, 1) := by decide +kernel
theorem d10_item_32 : decode c10_item 32 = .ok (.isub, 1) := by decide +kernel
theorem d10_item_33 : decode c10_item 33 = .ok (.invokevirtual 219, 3) := by decide +kernel
theorem d10_item_36 : decode c10_item 36 = .ok (.ifCond .ne 6, 3) := by decide +kernel
theorem d10_item_39 : decode c10_item 39 = .ok (.bipush (-13), 2) := by decide +kernel
theorem d10_item_41 : decode c10_item 41 = .ok (.ireturn, 1) := by decide +kernel
theorem d10_item_42 : decode c10_item 42 = .ok (.aload_n 0, 1) := by decide +kernel
theorem d10_item_43 : decode c10_item 43 = .ok (.getfield 212, 3) := by decide +kernel
theorem d10_item_46 : decode c10_item 46 = .ok (.bipush 60, 2) := by decide +kernel
theorem d10_item_48 : decode c10_item 48 = .ok (.iload_n 1, 1) := by decide +kernel
theorem d10_item_49 : decode c10_item 49 = .ok (.imul, 1) := by decide +kernel
theorem d10_item_50 : decode c10_item 50 = .ok (.iload_n 2, 1) := by decide +kernel
theorem d10_item_51 : decode c10_item 51 = .ok (.iadd, 1) := by decide +kernel
theorem d10_item_52 : decode c10_item 52 = .ok (.aload_n 0, 1) := by decide +kernel
theorem d10_item_53 : decode c10_item 53 = .ok (.aload_n 0, 1) := by decide +kernel
theorem d10_item_54 : decode c10_item 54 = .ok (.getfield 206, 3) := by decide +kernel
theorem d10_item_57 : decode c10_item 57 = .ok (.iload_n 1, 1) := by decide +kernel
theorem d10_item_58 : decode c10_item 58 = .ok (.iaload, 1) := by decide +kernel
theorem d10_item_59 : decode c10_item 59 = .ok (.lload_n 3, 1) := by decide +kernel
theorem d10_item_60 : decode c10_item 60 = .ok (.invokevirtual 382, 3) := by decide +kernel
theorem d10_item_63 : decode c10_item 63 = .ok (.lastore, 1) := by decide +kernel
theorem d10_item_64 : decode c10_item 64 = .ok (.iconst 1, 1) := by decide +kernel
theorem d10_item_65 : decode c10_item 65 = .ok (.ireturn, 1) := by decide +kernel
theorem mw10_item : MV y10_item c10_item 5 (some .int) 3 := ⟨cd10_item, ini10, na10_item, im10_item, se10_item⟩
set_option maxHeartbeats 4000000 in
set_option maxRecDepth 100000 in
theorem k10_item (l : Launch) (E : En) (mo : Nat) (ad : Nat → Nat) (S : Nat → Int) (so : Int → Int) (le : Int → Int) (it : Int → Int) (a : Int) (b : Int) (c : Int) (r_a : R32 a) (r_b : R32 b) (rc : R64 c) (hso : ∀ j, 0 ≤ j → j < 6 → -1 ≤ so j ∧ so j ≤ 4) (hle : ∀ j, 0 ≤ j → j < 6 → 0 ≤ le j ∧ le j ≤ 60) : Cm l E y10_item c10_item 5 (some .int) { frames := 2, cells := 0, slots := 0, locals := 44 } [.ref mo, .int (iZ a), .int (iZ b), .long (lZ c)] [(mo, mO ad S), (ad 64, aInt E 6 so), (ad 65, aInt E 6 le), (ad 66, aLng E 360 it)] (fun r ws => ∃ (v : Int), ∃ (it1 : Int → Int), r = some (.int (iZ v)) ∧ ws = [(mo, mO ad S), (ad 64, aInt E 6 so), (ad 65, aInt E 6 le), (ad 66, aLng E 360 it1)] ∧ (v = itemA so le a b ∧ ((itemOk so le a b ∧ it1 = upI it (60 * a + b) (nar (so a) c)) ∨ (¬ itemOk so le a b ∧ it1 = it)))) := by
  refine Cm.of rfl (Nat.le_of_ble_eq_true rfl) (fun Γ A hl ha hin G F => ?_)
  subst hl
  refine j_aload_n G 0 rfl d10_item_0 ?_
  refine j_iload_n G 1 rfl d10_item_1 ?_
  refine j_VP G (k10_isTape (xl Γ) E mo ad S a (by first | assumption | omega)) mw10_isTape ml10_349 [0] rfl 0 10 rfl rfl rfl ⟨Nat.le_of_ble_eq_true rfl, Nat.le_of_ble_eq_true rfl⟩ rfl (rest := []) rfl (Nat.le_of_ble_eq_true rfl) d10_item_2 ⟨Nat.le_of_ble_eq_true rfl, Nat.le_of_ble_eq_true rfl⟩ (fun r hr => ?_)
  obtain ⟨v2, rfl, hq1⟩ := hr
  rcases hq1 with ⟨hq1, rfl⟩ | ⟨hq1, rfl⟩
  ·
    refine j_if_ne (tgt := 10) G d10_item_5 (by decide) (by decide) (fun h3 => ?_) (fun h3 => absurd h3 (by decide))
    refine j_aload_n G 0 rfl d10_item_10 ?_
    refine j_get G 0 10 64 in10 fl10_206 d10_item_11 rfl rfl (by decide) (v := .ref (ad 64)) rfl rfl ?_
    refine j_iload_n G 1 rfl d10_item_14 ?_
    refine j_iald G 1 rfl (by omega) d10_item_15 ?_
    have hb4 := hso a (by omega) (by omega)
    refine j_if_ge (tgt := 22) G d10_item_16 (by decide) (by omega) (fun h5 => ?_) (fun h5 => ?_)
    ·
      refine j_aload_n G 0 rfl d10_item_22 ?_
      refine j_iload_n G 2 rfl d10_item_23 ?_
      refine j_iconst G d10_item_24 ?_
      refine j_aload_n G 0 rfl d10_item_25 ?_
      refine j_get G 0 10 65 in10 fl10_209 d10_item_26 rfl rfl (by decide) (v := .ref (ad 65)) rfl rfl ?_
      refine j_iload_n G 1 rfl d10_item_29 ?_
      refine j_iald G 2 rfl (by omega) d10_item_30 ?_
      have hb6 := hle a (by omega) (by omega)
      refine j_iconst G d10_item_31 ?_
      refine j_isub G d10_item_32 ?_
      refine j_VP G (k10_in (xl Γ) E mo b 0 ((le a) - 1) (by first | assumption | omega) (by first | assumption | omega) (by first | assumption | omega)) mw10_in ml10_219 [] rfl 0 10 rfl rfl rfl ⟨Nat.le_of_ble_eq_true rfl, Nat.le_of_ble_eq_true rfl⟩ rfl (rest := []) rfl (Nat.le_of_ble_eq_true rfl) d10_item_33 ⟨Nat.le_of_ble_eq_true rfl, Nat.le_of_ble_eq_true rfl⟩ (fun r hr => ?_)
      obtain ⟨v8, rfl, hq7⟩ := hr
      rcases hq7 with ⟨hq7, rfl⟩ | ⟨hq7, rfl⟩
      ·
        refine j_if_ne (tgt := 42) G d10_item_36 (by decide) (by decide) (fun h9 => ?_) (fun h9 => absurd h9 (by decide))
        refine j_aload_n G 0 rfl d10_item_42 ?_
        refine j_get G 0 10 66 in10 fl10_212 d10_item_43 rfl rfl (by decide) (v := .ref (ad 66)) rfl rfl ?_
        refine j_bipush G d10_item_46 rfl ?_
        refine j_iload_n G 1 rfl d10_item_48 ?_
        refine j_imul G d10_item_49 ?_
        refine j_iload_n G 2 rfl d10_item_50 ?_
        refine j_iadd G d10_item_51 ?_
        refine j_aload_n G 0 rfl d10_item_52 ?_
        refine j_aload_n G 0 rfl d10_item_53 ?_
        refine j_get G 0 10 64 in10 fl10_206 d10_item_54 rfl rfl (by decide) (v := .ref (ad 64)) rfl rfl ?_
        refine j_iload_n G 1 rfl d10_item_57 ?_
        refine j_iald G 1 rfl (by omega) d10_item_58 ?_
        have hb10 := hso a (by omega) (by omega)
        refine j_lload_n G 3 rfl d10_item_59 ?_
        refine j_VP G (k10_narrow (xl Γ) E mo ad S (so a) c (by first | assumption | omega) (by first | assumption | omega)) mw10_narrow ml10_382 [0] rfl 0 10 rfl rfl rfl ⟨Nat.le_of_ble_eq_true rfl, Nat.le_of_ble_eq_true rfl⟩ rfl (rest := [.int (iZ ((60 * a) + b)), .ref (ad 66)]) rfl (Nat.le_of_ble_eq_true rfl) d10_item_60 ⟨Nat.le_of_ble_eq_true rfl, Nat.le_of_ble_eq_true rfl⟩ (fun r hr => ?_)
        obtain ⟨v12, rfl, hq11⟩ := hr
        refine j_last G 3 rfl (by omega) d10_item_63 ?_
        refine j_iconst G d10_item_64 ?_
        exact j_iret G F d10_item_65 ⟨1, (upI it ((60 * a) + b) v12), rfl, rfl, (by exact ⟨by (simp only [itemA]; (repeat' split) <;> omega), by first | (left; exact ⟨by unfold itemOk; omega, by subst_vars; rfl⟩) | (right; exact ⟨by unfold itemOk; omega, rfl⟩)⟩)⟩
      ·
        refine j_if_ne (tgt := 42) G d10_item_36 (by decide) (by decide) (fun h13 => absurd h13 (by decide)) (fun h13 => ?_)
        refine j_bipush G d10_item_39 rfl ?_
        exact j_iret G F d10_item_41 ⟨(-13), it, rfl, rfl, (by exact ⟨by (simp only [itemA]; (repeat' split) <;> omega), by first | (left; exact ⟨by unfold itemOk; omega, by subst_vars; rfl⟩) | (right; exact ⟨by unfold itemOk; omega, rfl⟩)⟩)⟩
    ·
      refine j_bipush G d10_item_19 rfl ?_
      exact j_iret G F d10_item_21 ⟨(-11), it, rfl, rfl, (by exact ⟨by (simp only [itemA]; (repeat' split) <;> omega), by first | (left; exact ⟨by unfold itemOk; omega, by subst_vars; rfl⟩) | (right; exact ⟨by unfold itemOk; omega, rfl⟩)⟩)⟩
  ·
    refine j_if_ne (tgt := 10) G d10_item_5 (by decide) (by decide) (fun h14 => absurd h14 (by decide)) (fun h14 => ?_)
    refine j_iconst G d10_item_8 ?_
    exact j_iret G F d10_item_9 ⟨(-1), it, rfl, rfl, (by exact ⟨by (simp only [itemA]; (repeat' split) <;> omega), by first | (left; exact ⟨by unfold itemOk; omega, by subst_vars; rfl⟩) | (right; exact ⟨by unfold itemOk; omega, rfl⟩)⟩)⟩
theorem d10_read_0 : decode c10_read 0 = .ok (.aload_n 0, 1) := by decide +kernel
theorem d10_read_1 : decode c10_read 1 = .ok (.iload_n 1, 1) := by decide +kernel
theorem d10_read_2 : decode c10_read 2 = .ok (.invokevirtual 349, 3) := by decide +kernel
theorem d10_read_5 : decode c10_read 5 = .ok (.ifCond .eq 29, 3) := by decide +kernel
theorem d10_read_8 : decode c10_read 8 = .ok (.aload_n 0, 1) := by decide +kernel
theorem d10_read_9 : decode c10_read 9 = .ok (.getfield 206, 3) := by decide +kernel
theorem d10_read_12 : decode c10_read 12 = .ok (.iload_n 1, 1) := by decide +kernel
theorem d10_read_13 : decode c10_read 13 = .ok (.iaload, 1) := by decide +kernel
theorem d10_read_14 : decode c10_read 14 = .ok (.ifCond .lt 20, 3) := by decide +kernel
theorem d10_read_17 : decode c10_read 17 = .ok (.aload_n 0, 1) := by decide +kernel
theorem d10_read_18 : decode c10_read 18 = .ok (.iload_n 2, 1) := by decide +kernel
theorem d10_read_19 : decode c10_read 19 = .ok (.iconst 0, 1) := by decide +kernel
theorem d10_read_20 : decode c10_read 20 = .ok (.aload_n 0, 1) := by decide +kernel
theorem d10_read_21 : decode c10_read 21 = .ok (.getfield 209, 3) := by decide +kernel
theorem d10_read_24 : decode c10_read 24 = .ok (.iload_n 1, 1) := by decide +kernel
theorem d10_read_25 : decode c10_read 25 = .ok (.iaload, 1) := by decide +kernel
theorem d10_read_26 : decode c10_read 26 = .ok (.iconst 1, 1) := by decide +kernel
theorem d10_read_27 : decode c10_read 27 = .ok (.isub, 1) := by decide +kernel
theorem d10_read_28 : decode c10_read 28 = .ok (.invokevirtual 219, 3) := by decide +kernel
theorem d10_read_31 : decode c10_read 31 = .ok (.ifCond .ne 9, 3) := by decide +kernel
theorem d10_read_34 : decode c10_read 34 = .ok (.ldc2_w 310, 3) := by decide +kernel
theorem d10_read_37 : decode c10_read 37 = .ok (.goto 14, 3) := by decide +kernel
theorem d10_read_40 : decode c10_read 40 = .ok (.aload_n 0, 1) := by decide +kernel
theorem d10_read_41 : decode c10_read 41 = .ok (.getfield 212, 3) := by decide +kernel
theorem d10_read_44 : decode c10_read 44 = .ok (.bipush 60, 2) := by decide +kernel
theorem d10_read_46 : decode c10_read 46 = .ok (.iload_n 1, 1) := by decide +kernel
theorem d10_read_47 : decode c10_read 47 = .ok (.imul, 1) := by decide +kernel
theorem d10_read_48 : decode c10_read 48 = .ok (.iload_n 2, 1) := by decide +kernel
theorem d10_read_49 : decode c10_read 49 = .ok (.iadd, 1) := by decide +kernel
theorem d10_read_50 : decode c10_read 50 = .ok (.laload, 1) := by decide +kernel
theorem d10_read_51 : decode c10_read 51 = .ok (.lreturn, 1) := by decide +kernel
theorem mw10_read : MV y10_read c10_read 3 (some .long) 2 := ⟨cd10_read, ini10, na10_read, im10_read, se10_read⟩
set_option maxHeartbeats 4000000 in
set_option maxRecDepth 100000 in
theorem k10_read (l : Launch) (E : En) (mo : Nat) (ad : Nat → Nat) (S : Nat → Int) (so : Int → Int) (le : Int → Int) (it : Int → Int) (a : Int) (b : Int) (r_a : R32 a) (r_b : R32 b) (hso : ∀ j, 0 ≤ j → j < 6 → -1 ≤ so j ∧ so j ≤ 4) (hle : ∀ j, 0 ≤ j → j < 6 → 0 ≤ le j ∧ le j ≤ 60) : Cp l E y10_read c10_read 3 (some .long) 2 44 [.ref mo, .int (iZ a), .int (iZ b)] [(mo, mO ad S), (ad 64, aInt E 6 so), (ad 65, aInt E 6 le), (ad 66, aLng E 360 it)] (fun r => ∃ (v : Int), r = some (.long (lZ v)) ∧ ((readOk so le a b ∧ v = it (60 * a + b)) ∨ (¬ readOk so le a b ∧ v = -9223372036854775808))) := by
  refine Cp.of rfl (Nat.le_of_ble_eq_true rfl) (fun Γ hl ha G F => ?_)
  subst hl
  refine j_aload_n G 0 rfl d10_read_0 ?_
  refine j_iload_n G 1 rfl d10_read_1 ?_
  refine j_VP G (k10_isTape (xl Γ) E mo ad S a (by first | assumption | omega)) mw10_isTape ml10_349 [0] rfl 0 10 rfl rfl rfl ⟨Nat.le_of_ble_eq_true rfl, Nat.le_of_ble_eq_true rfl⟩ rfl (rest := []) rfl (Nat.le_of_ble_eq_true rfl) d10_read_2 ⟨Nat.le_of_ble_eq_true rfl, Nat.le_of_ble_eq_true rfl⟩ (fun r hr => ?_)
  obtain ⟨v2, rfl, hq1⟩ := hr
  rcases hq1 with ⟨hq1, rfl⟩ | ⟨hq1, rfl⟩
  ·
    refine j_if_eq (tgt := 34) G d10_read_5 (by decide) (by decide) (fun h3 => absurd h3 (by decide)) (fun h3 => ?_)
    refine j_aload_n G 0 rfl d10_read_8 ?_
    refine j_get G 0 10 64 in10 fl10_206 d10_read_9 rfl rfl (by decide) (v := .ref (ad 64)) rfl rfl ?_
    refine j_iload_n G 1 rfl d10_read_12 ?_
    refine j_iald G 1 rfl (by omega) d10_read_13 ?_
    have hb4 := hso a (by omega) (by omega)
    refine j_if_lt (tgt := 34) G d10_read_14 (by decide) (by omega) (fun h5 => ?_) (fun h5 => ?_)
    ·
      refine j_ldc2 G (-9223372036854775808) ct10_310 (by decide) d10_read_34 ?_
      refine j_goto (tgt := 51) G d10_read_37 (by decide) ?_
      exact j_lret G F d10_read_51 ⟨(-9223372036854775808), rfl, (by first | (left; exact ⟨by unfold readOk; omega, rfl⟩) | (right; exact ⟨by unfold readOk; omega, rfl⟩))⟩
    ·
      refine j_aload_n G 0 rfl d10_read_17 ?_
      refine j_iload_n G 2 rfl d10_read_18 ?_
      refine j_iconst G d10_read_19 ?_
      refine j_aload_n G 0 rfl d10_read_20 ?_
      refine j_get G 0 10 65 in10 fl10_209 d10_read_21 rfl rfl (by decide) (v := .ref (ad 65)) rfl rfl ?_
      refine j_iload_n G 1 rfl d10_read_24 ?_
      refine j_iald G 2 rfl (by omega) d10_read_25 ?_
      have hb6 := hle a (by omega) (by omega)
      refine j_iconst G d10_read_26 ?_
      refine j_isub G d10_read_27 ?_
      refine j_VP G (k10_in (xl Γ) E mo b 0 ((le a) - 1) (by first | assumption | omega) (by first | assumption | omega) (by first | assumption | omega)) mw10_in ml10_219 [] rfl 0 10 rfl rfl rfl ⟨Nat.le_of_ble_eq_true rfl, Nat.le_of_ble_eq_true rfl⟩ rfl (rest := []) rfl (Nat.le_of_ble_eq_true rfl) d10_read_28 ⟨Nat.le_of_ble_eq_true rfl, Nat.le_of_ble_eq_true rfl⟩ (fun r hr => ?_)
      obtain ⟨v8, rfl, hq7⟩ := hr
      rcases hq7 with ⟨hq7, rfl⟩ | ⟨hq7, rfl⟩
      ·
        refine j_if_ne (tgt := 40) G d10_read_31 (by decide) (by decide) (fun h9 => ?_) (fun h9 => absurd h9 (by decide))
        refine j_aload_n G 0 rfl d10_read_40 ?_
        refine j_get G 0 10 66 in10 fl10_212 d10_read_41 rfl rfl (by decide) (v := .ref (ad 66)) rfl rfl ?_
        refine j_bipush G d10_read_44 rfl ?_
        refine j_iload_n G 1 rfl d10_read_46 ?_
        refine j_imul G d10_read_47 ?_
        refine j_iload_n G 2 rfl d10_read_48 ?_
        refine j_iadd G d10_read_49 ?_
        refine j_lald G 3 rfl (by omega) d10_read_50 ?_
        exact j_lret G F d10_read_51 ⟨it ((60 * a) + b), rfl, (by first | (left; exact ⟨by unfold readOk; omega, rfl⟩) | (right; exact ⟨by unfold readOk; omega, rfl⟩))⟩
      ·
        refine j_if_ne (tgt := 40) G d10_read_31 (by decide) (by decide) (fun h10 => absurd h10 (by decide)) (fun h10 => ?_)
        refine j_ldc2 G (-9223372036854775808) ct10_310 (by decide) d10_read_34 ?_
        refine j_goto (tgt := 51) G d10_read_37 (by decide) ?_
        exact j_lret G F d10_read_51 ⟨(-9223372036854775808), rfl, (by first | (left; exact ⟨by unfold readOk; omega, rfl⟩) | (right; exact ⟨by unfold readOk; omega, rfl⟩))⟩
  ·
    refine j_if_eq (tgt := 34) G d10_read_5 (by decide) (by decide) (fun h11 => ?_) (fun h11 => absurd h11 (by decide))
    refine j_ldc2 G (-9223372036854775808) ct10_310 (by decide) d10_read_34 ?_
    refine j_goto (tgt := 51) G d10_read_37 (by decide) ?_
    exact j_lret G F d10_read_51 ⟨(-9223372036854775808), rfl, (by first | (left; exact ⟨by unfold readOk; omega, rfl⟩) | (right; exact ⟨by unfold readOk; omega, rfl⟩))⟩
theorem d10_shift_0 : decode c10_shift 0 = .ok (.aload_n 0, 1) := by decide +kernel
theorem d10_shift_1 : decode c10_shift 1 = .ok (.iload_n 1, 1) := by decide +kernel
theorem d10_shift_2 : decode c10_shift 2 = .ok (.invokevirtual 349, 3) := by decide +kernel
theorem d10_shift_5 : decode c10_shift 5 = .ok (.ifCond .eq 11, 3) := by decide +kernel
theorem d10_shift_8 : decode c10_shift 8 = .ok (.aload_n 0, 1) := by decide +kernel
theorem d10_shift_9 : decode c10_shift 9 = .ok (.iload_n 3, 1) := by decide +kernel
theorem d10_shift_10 : decode c10_shift 10 = .ok (.invokevirtual 349, 3) := by decide +kernel
theorem d10_shift_13 : decode c10_shift 13 = .ok (.ifCond .ne 5, 3) := by decide +kernel
theorem d10_shift_16 : decode c10_shift 16 = .ok (.iconst (-1), 1) := by decide +kernel
theorem d10_shift_17 : decode c10_shift 17 = .ok (.ireturn, 1) := by decide +kernel
theorem d10_shift_18 : decode c10_shift 18 = .ok (.aload_n 0, 1) := by decide +kernel
theorem d10_shift_19 : decode c10_shift 19 = .ok (.getfield 206, 3) := by decide +kernel
theorem d10_shift_22 : decode c10_shift 22 = .ok (.iload_n 1, 1) := by decide +kernel
theorem d10_shift_23 : decode c10_shift 23 = .ok (.iaload, 1) := by decide +kernel
theorem d10_shift_24 : decode c10_shift 24 = .ok (.ifCond .lt 12, 3) := by decide +kernel
theorem d10_shift_27 : decode c10_shift 27 = .ok (.aload_n 0, 1) := by decide +kernel
theorem d10_shift_28 : decode c10_shift 28 = .ok (.getfield 206, 3) := by decide +kernel
theorem d10_shift_31 : decode c10_shift 31 = .ok (.iload_n 3, 1) := by decide +kernel
theorem d10_shift_32 : decode c10_shift 32 = .ok (.iaload, 1) := by decide +kernel
theorem d10_shift_33 : decode c10_shift 33 = .ok (.ifCond .ge 6, 3) := by decide +kernel
theorem d10_shift_36 : decode c10_shift 36 = .ok (.bipush (-11), 2) := by decide +kernel
theorem d10_shift_38 : decode c10_shift 38 = .ok (.ireturn, 1) := by decide +kernel
theorem d10_shift_39 : decode c10_shift 39 = .ok (.aload_n 0, 1) := by decide +kernel
theorem d10_shift_40 : decode c10_shift 40 = .ok (.getfield 206, 3) := by decide +kernel
theorem d10_shift_43 : decode c10_shift 43 = .ok (.iload_n 1, 1) := by decide +kernel
theorem d10_shift_44 : decode c10_shift 44 = .ok (.iaload, 1) := by decide +kernel
theorem d10_shift_45 : decode c10_shift 45 = .ok (.aload_n 0, 1) := by decide +kernel
theorem d10_shift_46 : decode c10_shift 46 = .ok (.getfield 206, 3) := by decide +kernel
theorem d10_shift_49 : decode c10_shift 49 = .ok (.iload_n 3, 1) := by decide +kernel
theorem d10_shift_50 : decode c10_shift 50 = .ok (.iaload, 1) := by decide +kernel
theorem d10_shift_51 : decode c10_shift 51 = .ok (.if_icmp .eq 6, 3) := by decide +kernel
theorem d10_shift_54 : decode c10_shift 54 = .ok (.bipush (-12), 2) := by decide +kernel
theorem d10_shift_56 : decode c10_shift 56 = .ok (.ireturn, 1) := by decide +kernel
theorem d10_shift_57 : decode c10_shift 57 = .ok (.iload 5, 2) := by decide +kernel
theorem d10_shift_59 : decode c10_shift 59 = .ok (.ifCond .lt 39, 3) := by decide +kernel
theorem d10_shift_62 : decode c10_shift 62 = .ok (.iload_n 2, 1) := by decide +kernel
theorem d10_shift_63 : decode c10_shift 63 = .ok (.ifCond .lt 35, 3) := by decide +kernel
theorem d10_shift_66 : decode c10_shift 66 = .ok (.iload 4, 2) := by decide +kernel
theorem d10_shift_68 : decode c10_shift 68 = .ok (.ifCond .lt 30, 3) := by decide +kernel
theorem d10_shift_71 : decode c10_shift 71 = .ok (.iload_n 2, 1) := by decide +kernel
theorem d10_shift_72 : decode c10_shift 72 = .ok (.aload_n 0, 1) := by decide +kernel
theorem d10_shift_73 : decode c10_shift 73 = .ok (.getfield 209, 3) := by decide +kernel
theorem d10_shift_76 : decode c10_shift 76 = .ok (.iload_n 1, 1) := by decide +kernel
theorem d10_shift_77 : decode c10_shift 77 = .ok (.iaload, 1) := by decide +kernel
theorem d10_shift_78 : decode c10_shift 78 = .ok (.iload 5, 2) := by decide +kernel
theorem d10_shift_80 : decode c10_shift 80 = .ok (.isub, 1) := by decide +kernel
theorem d10_shift_81 : decode c10_shift 81 = .ok (.if_icmp .gt 17, 3) := by decide +kernel
theorem d10_shift_84 : decode c10_shift 84 = .ok (.iload 4, 2) := by decide +kernel
theorem d10_shift_86 : decode c10_shift 86 = .ok (.aload_n 0, 1) := by decide +kernel
theorem d10_shift_87 : decode c10_shift 87 = .ok (.getfield 209, 3) := by decide +kernel
theorem d10_shift_90 : decode c10_shift 90 = .ok (.iload_n 3, 1) := by decide +kernel
theorem d10_shift_91 : decode c10_shift 91 = .ok (.iaload, 1) := by decide +kernel
theorem d10_shift_92 : decode c10_shift 92 = .ok (.iload 5, 2) := by decide +kernel
theorem d10_shift_94 : decode c10_shift 94 = .ok (.isub, 1) := by decide +kernel
theorem d10_shift_95 : decode c10_shift 95 = .ok (.if_icmp .le 6, 3) := by decide +kernel
theorem d10_shift_98 : decode c10_shift 98 = .ok (.bipush (-13), 2) := by decide +kernel
theorem d10_shift_100 : decode c10_shift 100 = .ok (.ireturn, 1) := by decide +kernel
theorem d10_shift_101 : decode c10_shift 101 = .ok (.iconst 0, 1) := by decide +kernel
theorem d10_shift_102 : decode c10_shift 102 = .ok (.istore 6, 2) := by decide +kernel
theorem d10_shift_104 : decode c10_shift 104 = .ok (.iload 6, 2) := by decide +kernel
theorem d10_shift_106 : decode c10_shift 106 = .ok (.iload 5, 2) := by decide +kernel
theorem d10_shift_108 : decode c10_shift 108 = .ok (.if_icmp .ge 30, 3) := by decide +kernel
theorem d10_shift_111 : decode c10_shift 111 = .ok (.aload_n 0, 1) := by decide +kernel
theorem d10_shift_112 : decode c10_shift 112 = .ok (.getfield 216, 3) := by decide +kernel
theorem d10_shift_115 : decode c10_shift 115 = .ok (.iload 6, 2) := by decide +kernel
theorem d10_shift_117 : decode c10_shift 117 = .ok (.aload_n 0, 1) := by decide +kernel
theorem d10_shift_118 : decode c10_shift 118 = .ok (.getfield 212, 3) := by decide +kernel
theorem d10_shift_121 : decode c10_shift 121 = .ok (.bipush 60, 2) := by decide +kernel
theorem d10_shift_123 : decode c10_shift 123 = .ok (.iload_n 1, 1) := by decide +kernel
theorem d10_shift_124 : decode c10_shift 124 = .ok (.imul, 1) := by decide +kernel
theorem d10_shift_125 : decode c10_shift 125 = .ok (.iload_n 2, 1) := by decide +kernel
theorem d10_shift_126 : decode c10_shift 126 = .ok (.iadd, 1) := by decide +kernel
theorem d10_shift_127 : decode c10_shift 127 = .ok (.iload 6, 2) := by decide +kernel
theorem d10_shift_129 : decode c10_shift 129 = .ok (.iadd, 1) := by decide +kernel
theorem d10_shift_130 : decode c10_shift 130 = .ok (.laload, 1) := by decide +kernel
theorem d10_shift_131 : decode c10_shift 131 = .ok (.lastore, 1) := by decide +kernel
theorem d10_shift_132 : decode c10_shift 132 = .ok (.iinc 6 1, 3) := by decide +kernel
theorem d10_shift_135 : decode c10_shift 135 = .ok (.goto (-31), 3) := by decide +kernel
theorem d10_shift_138 : decode c10_shift 138 = .ok (.iconst 0, 1) := by decide +kernel
theorem d10_shift_139 : decode c10_shift 139 = .ok (.istore 6, 2) := by decide +kernel
theorem d10_shift_141 : decode c10_shift 141 = .ok (.iload 6, 2) := by decide +kernel
theorem d10_shift_143 : decode c10_shift 143 = .ok (.iload 5, 2) := by decide +kernel
theorem d10_shift_145 : decode c10_shift 145 = .ok (.if_icmp .ge 31, 3) := by decide +kernel
theorem d10_shift_148 : decode c10_shift 148 = .ok (.aload_n 0, 1) := by decide +kernel
theorem d10_shift_149 : decode c10_shift 149 = .ok (.getfield 212, 3) := by decide +kernel
theorem d10_shift_152 : decode c10_shift 152 = .ok (.bipush 60, 2) := by decide +kernel
theorem d10_shift_154 : decode c10_shift 154 = .ok (.iload_n 3, 1) := by decide +kernel
theorem d10_shift_155 : decode c10_shift 155 = .ok (.imul, 1) := by decide +kernel
theorem d10_shift_156 : decode c10_shift 156 = .ok (.iload 4, 2) := by decide +kernel
theorem d10_shift_158 : decode c10_shift 158 = .ok (.iadd, 1) := by decide +kernel
theorem d10_shift_159 : decode c10_shift 159 = .ok (.iload 6, 2) := by decide +kernel
theorem d10_shift_161 : decode c10_shift 161 = .ok (.iadd, 1) := by decide +kernel
theorem d10_shift_162 : decode c10_shift 162 = .ok (.aload_n 0, 1) := by decide +kernel
theorem d10_shift_163 : decode c10_shift 163 = .ok (.getfield 216, 3) := by decide +kernel
theorem d10_shift_166 : decode c10_shift 166 = .ok (.iload 6, 2) := by decide +kernel
theorem d10_shift_168 : decode c10_shift 168 = .ok (.laload, 1) := by decide +kernel
theorem d10_shift_169 : decode c10_shift 169 = .ok (.lastore, 1) := by decide +kernel
theorem d10_shift_170 : decode c10_shift 170 = .ok (.iinc 6 1, 3) := by decide +kernel
theorem d10_shift_173 : decode c10_shift 173 = .ok (.goto (-32), 3) := by decide +kernel
theorem d10_shift_176 : decode c10_shift 176 = .ok (.iload 5, 2) := by decide +kernel
theorem d10_shift_178 : decode c10_shift 178 = .ok (.ireturn, 1) := by decide +kernel
theorem mw10_shift : MV y10_shift c10_shift 7 (some .int) 5 := ⟨cd10_shift, ini10, na10_shift, im10_shift, se10_shift⟩
set_option maxHeartbeats 4000000 in
set_option maxRecDepth 100000 in
theorem k10_shift (l : Launch) (E : En) (mo : Nat) (ad : Nat → Nat) (S : Nat → Int) (so : Int → Int) (le : Int → Int) (it : Int → Int) (asd : Int → Int) (t : Int) (i : Int) (o : Int) (j : Int) (n : Int) (r_t : R32 t) (r_i : R32 i) (r_o : R32 o) (r_j : R32 j) (r_n : R32 n) (hso : ∀ j, 0 ≤ j → j < 6 → -1 ≤ so j ∧ so j ≤ 4) (hle : ∀ j, 0 ≤ j → j < 6 → 0 ≤ le j ∧ le j ≤ 60) : Cm l E y10_shift c10_shift 7 (some .int) { frames := 2, cells := 0, slots := 0, locals := 44 } [.ref mo, .int (iZ t), .int (iZ i), .int (iZ o), .int (iZ j), .int (iZ n)] [(mo, mO ad S), (ad 64, aInt E 6 so), (ad 65, aInt E 6 le), (ad 66, aLng E 360 it), (ad 67, aLng E 60 asd)] (fun r ws => ∃ (v : Int), ∃ (it1 : Int → Int), ∃ (asd1 : Int → Int), r = some (.int (iZ v)) ∧ ws = [(mo, mO ad S), (ad 64, aInt E 6 so), (ad 65, aInt E 6 le), (ad 66, aLng E 360 it1), (ad 67, aLng E 60 asd1)] ∧ (v = shiftA so le t i o j n ∧ ((shiftOk so le t i o j n ∧ it1 = shiftI it t i o j n) ∨ (¬ shiftOk so le t i o j n ∧ it1 = it)))) := by
  refine Cm.of rfl (Nat.le_of_ble_eq_true rfl) (fun Γ A hl ha hin G F => ?_)
  subst hl
  refine j_aload_n G 0 rfl d10_shift_0 ?_
  refine j_iload_n G 1 rfl d10_shift_1 ?_
  refine j_VP G (k10_isTape (xl Γ) E mo ad S t (by first | assumption | omega)) mw10_isTape ml10_349 [0] rfl 0 10 rfl rfl rfl ⟨Nat.le_of_ble_eq_true rfl, Nat.le_of_ble_eq_true rfl⟩ rfl (rest := []) rfl (Nat.le_of_ble_eq_true rfl) d10_shift_2 ⟨Nat.le_of_ble_eq_true rfl, Nat.le_of_ble_eq_true rfl⟩ (fun r hr => ?_)
  obtain ⟨v2, rfl, hq1⟩ := hr
  rcases hq1 with ⟨hq1, rfl⟩ | ⟨hq1, rfl⟩
  ·
    refine j_if_eq (tgt := 16) G d10_shift_5 (by decide) (by decide) (fun h3 => absurd h3 (by decide)) (fun h3 => ?_)
    refine j_aload_n G 0 rfl d10_shift_8 ?_
    refine j_iload_n G 3 rfl d10_shift_9 ?_
    refine j_VP G (k10_isTape (xl Γ) E mo ad S o (by first | assumption | omega)) mw10_isTape ml10_349 [0] rfl 0 10 rfl rfl rfl ⟨Nat.le_of_ble_eq_true rfl, Nat.le_of_ble_eq_true rfl⟩ rfl (rest := []) rfl (Nat.le_of_ble_eq_true rfl) d10_shift_10 ⟨Nat.le_of_ble_eq_true rfl, Nat.le_of_ble_eq_true rfl⟩ (fun r hr => ?_)
    obtain ⟨v5, rfl, hq4⟩ := hr
    rcases hq4 with ⟨hq4, rfl⟩ | ⟨hq4, rfl⟩
    ·
      refine j_if_ne (tgt := 18) G d10_shift_13 (by decide) (by decide) (fun h6 => ?_) (fun h6 => absurd h6 (by decide))
      refine j_aload_n G 0 rfl d10_shift_18 ?_
      refine j_get G 0 10 64 in10 fl10_206 d10_shift_19 rfl rfl (by decide) (v := .ref (ad 64)) rfl rfl ?_
      refine j_iload_n G 1 rfl d10_shift_22 ?_
      refine j_iald G 1 rfl (by omega) d10_shift_23 ?_
      have hb7 := hso t (by omega) (by omega)
      refine j_if_lt (tgt := 36) G d10_shift_24 (by decide) (by omega) (fun h8 => ?_) (fun h8 => ?_)
      ·
        refine j_bipush G d10_shift_36 rfl ?_
        exact j_iret G F d10_shift_38 ⟨(-11), it, asd, rfl, rfl, (by exact ⟨by (simp only [shiftA]; (repeat' split) <;> omega), by first | (left; exact ⟨by unfold shiftOk; omega, by funext q; rw [hu]; unfold shiftI; (repeat' split) <;> first | rfl | omega⟩) | (right; exact ⟨by unfold shiftOk; omega, rfl⟩)⟩)⟩
      ·
        refine j_aload_n G 0 rfl d10_shift_27 ?_
        refine j_get G 0 10 64 in10 fl10_206 d10_shift_28 rfl rfl (by decide) (v := .ref (ad 64)) rfl rfl ?_
        refine j_iload_n G 3 rfl d10_shift_31 ?_
        refine j_iald G 1 rfl (by omega) d10_shift_32 ?_
        have hb9 := hso o (by omega) (by omega)
        refine j_if_ge (tgt := 39) G d10_shift_33 (by decide) (by omega) (fun h10 => ?_) (fun h10 => ?_)
        ·
          refine j_aload_n G 0 rfl d10_shift_39 ?_
          refine j_get G 0 10 64 in10 fl10_206 d10_shift_40 rfl rfl (by decide) (v := .ref (ad 64)) rfl rfl ?_
          refine j_iload_n G 1 rfl d10_shift_43 ?_
          refine j_iald G 1 rfl (by omega) d10_shift_44 ?_
          have hb11 := hso t (by omega) (by omega)
          refine j_aload_n G 0 rfl d10_shift_45 ?_
          refine j_get G 0 10 64 in10 fl10_206 d10_shift_46 rfl rfl (by decide) (v := .ref (ad 64)) rfl rfl ?_
          refine j_iload_n G 3 rfl d10_shift_49 ?_
          refine j_iald G 1 rfl (by omega) d10_shift_50 ?_
          have hb12 := hso o (by omega) (by omega)
          refine j_icmp_eq (tgt := 57) G d10_shift_51 (by decide) (by omega) (by omega) (fun h13 => ?_) (fun h13 => ?_)
          ·
            refine j_iload G 5 rfl d10_shift_57 ?_
            refine j_if_lt (tgt := 98) G d10_shift_59 (by decide) (by omega) (fun h14 => ?_) (fun h14 => ?_)
            ·
              refine j_bipush G d10_shift_98 rfl ?_
              exact j_iret G F d10_shift_100 ⟨(-13), it, asd, rfl, rfl, (by exact ⟨by (simp only [shiftA]; (repeat' split) <;> omega), by first | (left; exact ⟨by unfold shiftOk; omega, by funext q; rw [hu]; unfold shiftI; (repeat' split) <;> first | rfl | omega⟩) | (right; exact ⟨by unfold shiftOk; omega, rfl⟩)⟩)⟩
            ·
              refine j_iload_n G 2 rfl d10_shift_62 ?_
              refine j_if_lt (tgt := 98) G d10_shift_63 (by decide) (by omega) (fun h15 => ?_) (fun h15 => ?_)
              ·
                refine j_bipush G d10_shift_98 rfl ?_
                exact j_iret G F d10_shift_100 ⟨(-13), it, asd, rfl, rfl, (by exact ⟨by (simp only [shiftA]; (repeat' split) <;> omega), by first | (left; exact ⟨by unfold shiftOk; omega, by funext q; rw [hu]; unfold shiftI; (repeat' split) <;> first | rfl | omega⟩) | (right; exact ⟨by unfold shiftOk; omega, rfl⟩)⟩)⟩
              ·
                refine j_iload G 4 rfl d10_shift_66 ?_
                refine j_if_lt (tgt := 98) G d10_shift_68 (by decide) (by omega) (fun h16 => ?_) (fun h16 => ?_)
                ·
                  refine j_bipush G d10_shift_98 rfl ?_
                  exact j_iret G F d10_shift_100 ⟨(-13), it, asd, rfl, rfl, (by exact ⟨by (simp only [shiftA]; (repeat' split) <;> omega), by first | (left; exact ⟨by unfold shiftOk; omega, by funext q; rw [hu]; unfold shiftI; (repeat' split) <;> first | rfl | omega⟩) | (right; exact ⟨by unfold shiftOk; omega, rfl⟩)⟩)⟩
                ·
                  refine j_iload_n G 2 rfl d10_shift_71 ?_
                  refine j_aload_n G 0 rfl d10_shift_72 ?_
                  refine j_get G 0 10 65 in10 fl10_209 d10_shift_73 rfl rfl (by decide) (v := .ref (ad 65)) rfl rfl ?_
                  refine j_iload_n G 1 rfl d10_shift_76 ?_
                  refine j_iald G 2 rfl (by omega) d10_shift_77 ?_
                  have hb17 := hle t (by omega) (by omega)
                  refine j_iload G 5 rfl d10_shift_78 ?_
                  refine j_isub G d10_shift_80 ?_
                  refine j_icmp_gt (tgt := 98) G d10_shift_81 (by decide) (by omega) (by omega) (fun h18 => ?_) (fun h18 => ?_)
                  ·
                    refine j_bipush G d10_shift_98 rfl ?_
                    exact j_iret G F d10_shift_100 ⟨(-13), it, asd, rfl, rfl, (by exact ⟨by (simp only [shiftA]; (repeat' split) <;> omega), by first | (left; exact ⟨by unfold shiftOk; omega, by funext q; rw [hu]; unfold shiftI; (repeat' split) <;> first | rfl | omega⟩) | (right; exact ⟨by unfold shiftOk; omega, rfl⟩)⟩)⟩
                  ·
                    refine j_iload G 4 rfl d10_shift_84 ?_
                    refine j_aload_n G 0 rfl d10_shift_86 ?_
                    refine j_get G 0 10 65 in10 fl10_209 d10_shift_87 rfl rfl (by decide) (v := .ref (ad 65)) rfl rfl ?_
                    refine j_iload_n G 3 rfl d10_shift_90 ?_
                    refine j_iald G 2 rfl (by omega) d10_shift_91 ?_
                    have hb19 := hle o (by omega) (by omega)
                    refine j_iload G 5 rfl d10_shift_92 ?_
                    refine j_isub G d10_shift_94 ?_
                    refine j_icmp_le (tgt := 101) G d10_shift_95 (by decide) (by omega) (by omega) (fun h20 => ?_) (fun h20 => ?_)
                    ·
                      refine j_iconst G d10_shift_101 ?_
                      refine j_istore G d10_shift_102 (by decide) rfl ?_
                      have lp104 : ∀ (fu : Nat) (kk : Int) (g : Int → Int), (n - kk).toNat < fu → (0 ≤ kk ∧ kk ≤ n) → (∀ j, 0 ≤ j → j < kk → g j = it (60 * t + i + j)) →  J E 7 Γ (some A) 0 0 [(mo, mO ad S), (ad 64, aInt E 6 so), (ad 65, aInt E 6 le), (ad 66, aLng E 360 it), (ad 67, aLng E 60 g)] 104 [(6, .int (iZ kk)), (0, .ref mo), (1, .int (iZ t)), (2, .int (iZ i)), (3, .int (iZ o)), (4, .int (iZ j)), (5, .int (iZ n))] [] := by
                        intro fu
                        induction fu with
                        | zero =>
                          intro kk g hm
                          exact absurd hm (Nat.not_lt_zero _)
                        | succ fu ih104 =>
                          intro kk g hm hk hg
                          refine j_iload G 0 rfl d10_shift_104 ?_
                          refine j_iload G 6 rfl d10_shift_106 ?_
                          refine j_icmp_ge (tgt := 138) G d10_shift_108 (by decide) (by omega) (by omega) (fun h21 => ?_) (fun h21 => ?_)
                          ·
                            refine j_iconst G d10_shift_138 ?_
                            refine j_istore G d10_shift_139 (by decide) rfl ?_
                            have lp141 : ∀ (fu : Nat) (mm : Int) (u : Int → Int), (n - mm).toNat < fu → (0 ≤ mm ∧ mm ≤ n) → (∀ q, u q = if 60 * o + j ≤ q ∧ q < 60 * o + j + mm then it (60 * t + i + (q - (60 * o + j))) else it q) →  J E 7 Γ (some A) 0 0 [(mo, mO ad S), (ad 64, aInt E 6 so), (ad 65, aInt E 6 le), (ad 66, aLng E 360 u), (ad 67, aLng E 60 g)] 141 [(6, .int (iZ mm)), (0, .ref mo), (1, .int (iZ t)), (2, .int (iZ i)), (3, .int (iZ o)), (4, .int (iZ j)), (5, .int (iZ n))] [] := by
                              intro fu
                              induction fu with
                              | zero =>
                                intro mm u hm
                                exact absurd hm (Nat.not_lt_zero _)
                              | succ fu ih141 =>
                                intro mm u hm hm hu
                                refine j_iload G 0 rfl d10_shift_141 ?_
                                refine j_iload G 6 rfl d10_shift_143 ?_
                                refine j_icmp_ge (tgt := 176) G d10_shift_145 (by decide) (by omega) (by omega) (fun h22 => ?_) (fun h22 => ?_)
                                ·
                                  refine j_iload G 6 rfl d10_shift_176 ?_
                                  exact j_iret G F d10_shift_178 ⟨n, u, g, rfl, rfl, (by exact ⟨by (simp only [shiftA]; (repeat' split) <;> omega), by first | (left; exact ⟨by unfold shiftOk; omega, by funext q; rw [hu]; unfold shiftI; (repeat' split) <;> first | rfl | omega⟩) | (right; exact ⟨by unfold shiftOk; omega, rfl⟩)⟩)⟩
                                ·
                                  refine j_aload_n G 1 rfl d10_shift_148 ?_
                                  refine j_get G 0 10 66 in10 fl10_212 d10_shift_149 rfl rfl (by decide) (v := .ref (ad 66)) rfl rfl ?_
                                  refine j_bipush G d10_shift_152 rfl ?_
                                  refine j_iload_n G 4 rfl d10_shift_154 ?_
                                  refine j_imul G d10_shift_155 ?_
                                  refine j_iload G 5 rfl d10_shift_156 ?_
                                  refine j_iadd G d10_shift_158 ?_
                                  refine j_iload G 0 rfl d10_shift_159 ?_
                                  refine j_iadd G d10_shift_161 ?_
                                  refine j_aload_n G 1 rfl d10_shift_162 ?_
                                  refine j_get G 0 10 67 in10 fl10_216 d10_shift_163 rfl rfl (by decide) (v := .ref (ad 67)) rfl rfl ?_
                                  refine j_iload G 0 rfl d10_shift_166 ?_
                                  refine j_lald G 4 rfl (by omega) d10_shift_168 ?_
                                  refine j_last G 3 rfl (by omega) d10_shift_169 ?_
                                  refine j_iinc G d10_shift_170 0 rfl (by decide) rfl ?_
                                  refine j_goto (tgt := 141) G d10_shift_173 (by decide) ?_
                                  exact ih141 (mm + 1) (upI u (((60 * o) + j) + mm) (g mm)) (by omega) (by first | assumption | omega) (fun q => if hj : q = 60 * o + j + mm then (by unfold upI; rw [if_pos hj]; rw [if_pos (by omega), hg mm (by omega) (by omega)]; congr 1; omega) else (by unfold upI; rw [if_neg hj]; rw [hu]; (repeat' split) <;> first | rfl | omega))
                            exact lp141 _ 0 it (Nat.lt_succ_self _) (by first | assumption | omega) (fun q => by rw [if_neg (by omega)])
                          ·
                            refine j_aload_n G 1 rfl d10_shift_111 ?_
                            refine j_get G 0 10 67 in10 fl10_216 d10_shift_112 rfl rfl (by decide) (v := .ref (ad 67)) rfl rfl ?_
                            refine j_iload G 0 rfl d10_shift_115 ?_
                            refine j_aload_n G 1 rfl d10_shift_117 ?_
                            refine j_get G 0 10 66 in10 fl10_212 d10_shift_118 rfl rfl (by decide) (v := .ref (ad 66)) rfl rfl ?_
                            refine j_bipush G d10_shift_121 rfl ?_
                            refine j_iload_n G 2 rfl d10_shift_123 ?_
                            refine j_imul G d10_shift_124 ?_
                            refine j_iload_n G 3 rfl d10_shift_125 ?_
                            refine j_iadd G d10_shift_126 ?_
                            refine j_iload G 0 rfl d10_shift_127 ?_
                            refine j_iadd G d10_shift_129 ?_
                            refine j_lald G 3 rfl (by omega) d10_shift_130 ?_
                            refine j_last G 4 rfl (by omega) d10_shift_131 ?_
                            refine j_iinc G d10_shift_132 0 rfl (by decide) rfl ?_
                            refine j_goto (tgt := 104) G d10_shift_135 (by decide) ?_
                            exact ih104 (kk + 1) (upI g kk (it (((60 * t) + i) + kk))) (by omega) (by first | assumption | omega) (fun j h1 h2 => if hj : j = kk then (by unfold upI; rw [if_pos hj]; rw [hj]) else (by unfold upI; rw [if_neg hj]; exact hg j h1 (by omega)))
                      exact lp104 _ 0 asd (Nat.lt_succ_self _) (by first | assumption | omega) (fun j h1 h2 => by omega)
                    ·
                      refine j_bipush G d10_shift_98 rfl ?_
                      exact j_iret G F d10_shift_100 ⟨(-13), it, asd, rfl, rfl, (by exact ⟨by (simp only [shiftA]; (repeat' split) <;> omega), by first | (left; exact ⟨by unfold shiftOk; omega, by funext q; rw [hu]; unfold shiftI; (repeat' split) <;> first | rfl | omega⟩) | (right; exact ⟨by unfold shiftOk; omega, rfl⟩)⟩)⟩
          ·
            refine j_bipush G d10_shift_54 rfl ?_
            exact j_iret G F d10_shift_56 ⟨(-12), it, asd, rfl, rfl, (by exact ⟨by (simp only [shiftA]; (repeat' split) <;> omega), by first | (left; exact ⟨by unfold shiftOk; omega, by funext q; rw [hu]; unfold shiftI; (repeat' split) <;> first | rfl | omega⟩) | (right; exact ⟨by unfold shiftOk; omega, rfl⟩)⟩)⟩
        ·
          refine j_bipush G d10_shift_36 rfl ?_
          exact j_iret G F d10_shift_38 ⟨(-11), it, asd, rfl, rfl, (by exact ⟨by (simp only [shiftA]; (repeat' split) <;> omega), by first | (left; exact ⟨by unfold shiftOk; omega, by funext q; rw [hu]; unfold shiftI; (repeat' split) <;> first | rfl | omega⟩) | (right; exact ⟨by unfold shiftOk; omega, rfl⟩)⟩)⟩
    ·
      refine j_if_ne (tgt := 18) G d10_shift_13 (by decide) (by decide) (fun h23 => absurd h23 (by decide)) (fun h23 => ?_)
      refine j_iconst G d10_shift_16 ?_
      exact j_iret G F d10_shift_17 ⟨(-1), it, asd, rfl, rfl, (by exact ⟨by (simp only [shiftA]; (repeat' split) <;> omega), by first | (left; exact ⟨by unfold shiftOk; omega, by funext q; rw [hu]; unfold shiftI; (repeat' split) <;> first | rfl | omega⟩) | (right; exact ⟨by unfold shiftOk; omega, rfl⟩)⟩)⟩
  ·
    refine j_if_eq (tgt := 16) G d10_shift_5 (by decide) (by decide) (fun h24 => ?_) (fun h24 => absurd h24 (by decide))
    refine j_iconst G d10_shift_16 ?_
    exact j_iret G F d10_shift_17 ⟨(-1), it, asd, rfl, rfl, (by exact ⟨by (simp only [shiftA]; (repeat' split) <;> omega), by first | (left; exact ⟨by unfold shiftOk; omega, by funext q; rw [hu]; unfold shiftI; (repeat' split) <;> first | rfl | omega⟩) | (right; exact ⟨by unfold shiftOk; omega, rfl⟩)⟩)⟩
theorem d10_copy_0 : decode c10_copy 0 = .ok (.iconst 0, 1) := by decide +kernel
theorem d10_copy_1 : decode c10_copy 1 = .ok (.istore_n 3, 1) := by decide +kernel
theorem d10_copy_2 : decode c10_copy 2 = .ok (.iload_n 3, 1) := by decide +kernel
theorem d10_copy_3 : decode c10_copy 3 = .ok (.aload_n 2, 1) := by decide +kernel
theorem d10_copy_4 : decode c10_copy 4 = .ok (.arraylength, 1) := by decide +kernel
theorem d10_copy_5 : decode c10_copy 5 = .ok (.if_icmp .ge 15, 3) := by decide +kernel
theorem d10_copy_8 : decode c10_copy 8 = .ok (.aload_n 2, 1) := by decide +kernel
theorem d10_copy_9 : decode c10_copy 9 = .ok (.iload_n 3, 1) := by decide +kernel
theorem d10_copy_10 : decode c10_copy 10 = .ok (.aload_n 1, 1) := by decide +kernel
theorem d10_copy_11 : decode c10_copy 11 = .ok (.iload_n 3, 1) := by decide +kernel
theorem d10_copy_12 : decode c10_copy 12 = .ok (.iaload, 1) := by decide +kernel
theorem d10_copy_13 : decode c10_copy 13 = .ok (.iastore, 1) := by decide +kernel
theorem d10_copy_14 : decode c10_copy 14 = .ok (.iinc 3 1, 3) := by decide +kernel
theorem d10_copy_17 : decode c10_copy 17 = .ok (.goto (-15), 3) := by decide +kernel
theorem d10_copy_20 : decode c10_copy 20 = .ok (.return_, 1) := by decide +kernel
theorem mw10_copy : MV y10_copy c10_copy 4 none 2 := ⟨cd10_copy, ini10, na10_copy, im10_copy, se10_copy⟩
set_option maxHeartbeats 4000000 in
set_option maxRecDepth 100000 in
theorem k10_copy (l : Launch) (E : En) (mo : Nat) (pa : Nat) (pb : Nat) (len : Nat) (f : Int → Int) (g : Int → Int) (hlen : (len : Int) ≤ 1000) : Cm l E y10_copy c10_copy 4 none { frames := 0, cells := 0, slots := 0, locals := 0 } [.ref mo, .ref pa, .ref pb] [(pa, aInt E len f), (pb, aInt E len g)] (fun r ws => r = none ∧ ws = [(pa, aInt E len f), (pb, aInt E len f)] ∧ True) := by
  refine Cm.of rfl (Nat.le_of_ble_eq_true rfl) (fun Γ A hl ha hin G F => ?_)
  subst hl
  refine j_iconst G d10_copy_0 ?_
  refine j_istore_n G d10_copy_1 (by decide) rfl ?_
  have lp2 : ∀ (fu : Nat) (kk : Int) (u : Int → Int), ((len : Int) - kk).toNat < fu → (0 ≤ kk ∧ kk ≤ (len : Int)) → (∀ j, 0 ≤ j → j < kk → u j = f j) →  J E 4 Γ (some A) 0 0 [(pa, aInt E len f), (pb, aInt E len u)] 2 [(3, .int (iZ kk)), (0, .ref mo), (1, .ref pa), (2, .ref pb)] [] := by
    intro fu
    induction fu with
    | zero =>
      intro kk u hm
      exact absurd hm (Nat.not_lt_zero _)
    | succ fu ih2 =>
      intro kk u hm hk hu
      refine j_iload_n G 0 rfl d10_copy_2 ?_
      refine j_aload_n G 3 rfl d10_copy_3 ?_
      refine j_alen G 1 rfl d10_copy_4 ?_
      refine j_icmp_ge (tgt := 20) G d10_copy_5 (by decide) (by omega) (by omega) (fun h1 => ?_) (fun h1 => ?_)
      ·
        refine j_ext 1 (e := aInt E len u) (e' := aInt E len f) rfl (fun H => aInt_ext (fun j h1 h2 => hu j h1 (by omega))) ?_
        exact j_vret G F d10_copy_20 ⟨rfl, rfl, trivial⟩
      ·
        refine j_aload_n G 3 rfl d10_copy_8 ?_
        refine j_iload_n G 0 rfl d10_copy_9 ?_
        refine j_aload_n G 2 rfl d10_copy_10 ?_
        refine j_iload_n G 0 rfl d10_copy_11 ?_
        refine j_iald G 0 rfl (by omega) d10_copy_12 ?_
        refine j_iast G 1 rfl (by omega) d10_copy_13 ?_
        refine j_iinc G d10_copy_14 0 rfl (by decide) rfl ?_
        refine j_goto (tgt := 2) G d10_copy_17 (by decide) ?_
        exact ih2 (kk + 1) (upI u kk (f kk)) (by omega) (by first | assumption | omega) (fun j h1 h2 => if hj : j = kk then (by unfold upI; rw [if_pos hj]; rw [hj]) else (by unfold upI; rw [if_neg hj]; exact hu j h1 (by omega)))
  exact lp2 _ 0 g (Nat.lt_succ_self _) (by first | assumption | omega) (fun j h1 h2 => by omega)
theorem d10_image_0 : decode c10_image 0 = .ok (.aload_n 0, 1) := by decide +kernel
theorem d10_image_1 : decode c10_image 1 = .ok (.iconst 1, 1) := by decide +kernel
theorem d10_image_2 : decode c10_image 2 = .ok (.putfield 173, 3) := by decide +kernel
theorem d10_image_5 : decode c10_image 5 = .ok (.aload_n 0, 1) := by decide +kernel
theorem d10_image_6 : decode c10_image 6 = .ok (.aload_n 0, 1) := by decide +kernel
theorem d10_image_7 : decode c10_image 7 = .ok (.getfield 72, 3) := by decide +kernel
theorem d10_image_10 : decode c10_image 10 = .ok (.putfield 176, 3) := by decide +kernel
theorem d10_image_13 : decode c10_image 13 = .ok (.aload_n 0, 1) := by decide +kernel
theorem d10_image_14 : decode c10_image 14 = .ok (.aload_n 0, 1) := by decide +kernel
theorem d10_image_15 : decode c10_image 15 = .ok (.getfield 13, 3) := by decide +kernel
theorem d10_image_18 : decode c10_image 18 = .ok (.putfield 179, 3) := by decide +kernel
theorem d10_image_21 : decode c10_image 21 = .ok (.aload_n 0, 1) := by decide +kernel
theorem d10_image_22 : decode c10_image 22 = .ok (.aload_n 0, 1) := by decide +kernel
theorem d10_image_23 : decode c10_image 23 = .ok (.getfield 76, 3) := by decide +kernel
theorem d10_image_26 : decode c10_image 26 = .ok (.putfield 182, 3) := by decide +kernel
theorem d10_image_29 : decode c10_image 29 = .ok (.aload_n 0, 1) := by decide +kernel
theorem d10_image_30 : decode c10_image 30 = .ok (.aload_n 0, 1) := by decide +kernel
theorem d10_image_31 : decode c10_image 31 = .ok (.getfield 158, 3) := by decide +kernel
theorem d10_image_34 : decode c10_image 34 = .ok (.putfield 185, 3) := by decide +kernel
theorem d10_image_37 : decode c10_image 37 = .ok (.aload_n 0, 1) := by decide +kernel
theorem d10_image_38 : decode c10_image 38 = .ok (.aload_n 0, 1) := by decide +kernel
theorem d10_image_39 : decode c10_image 39 = .ok (.getfield 79, 3) := by decide +kernel
theorem d10_image_42 : decode c10_image 42 = .ok (.aload_n 0, 1) := by decide +kernel
theorem d10_image_43 : decode c10_image 43 = .ok (.getfield 188, 3) := by decide +kernel
theorem d10_image_46 : decode c10_image 46 = .ok (.invokevirtual 354, 3) := by decide +kernel
theorem d10_image_49 : decode c10_image 49 = .ok (.aload_n 0, 1) := by decide +kernel
theorem d10_image_50 : decode c10_image 50 = .ok (.aload_n 0, 1) := by decide +kernel
theorem d10_image_51 : decode c10_image 51 = .ok (.getfield 161, 3) := by decide +kernel
theorem d10_image_54 : decode c10_image 54 = .ok (.aload_n 0, 1) := by decide +kernel
theorem d10_image_55 : decode c10_image 55 = .ok (.getfield 191, 3) := by decide +kernel
theorem d10_image_58 : decode c10_image 58 = .ok (.invokevirtual 354, 3) := by decide +kernel
theorem d10_image_61 : decode c10_image 61 = .ok (.aload_n 0, 1) := by decide +kernel
theorem d10_image_62 : decode c10_image 62 = .ok (.aload_n 0, 1) := by decide +kernel
theorem d10_image_63 : decode c10_image 63 = .ok (.getfield 164, 3) := by decide +kernel
theorem d10_image_66 : decode c10_image 66 = .ok (.aload_n 0, 1) := by decide +kernel
theorem d10_image_67 : decode c10_image 67 = .ok (.getfield 194, 3) := by decide +kernel
theorem d10_image_70 : decode c10_image 70 = .ok (.invokevirtual 354, 3) := by decide +kernel
theorem d10_image_73 : decode c10_image 73 = .ok (.aload_n 0, 1) := by decide +kernel
theorem d10_image_74 : decode c10_image 74 = .ok (.aload_n 0, 1) := by decide +kernel
theorem d10_image_75 : decode c10_image 75 = .ok (.getfield 167, 3) := by decide +kernel
theorem d10_image_78 : decode c10_image 78 = .ok (.aload_n 0, 1) := by decide +kernel
theorem d10_image_79 : decode c10_image 79 = .ok (.getfield 197, 3) := by decide +kernel
theorem d10_image_82 : decode c10_image 82 = .ok (.invokevirtual 354, 3) := by decide +kernel
theorem d10_image_85 : decode c10_image 85 = .ok (.aload_n 0, 1) := by decide +kernel
theorem d10_image_86 : decode c10_image 86 = .ok (.getfield 76, 3) := by decide +kernel
theorem d10_image_89 : decode c10_image 89 = .ok (.ireturn, 1) := by decide +kernel
theorem mw10_image : MV y10_image c10_image 1 (some .int) 0 := ⟨cd10_image, ini10, na10_image, im10_image, se10_image⟩
set_option maxHeartbeats 4000000 in
set_option maxRecDepth 100000 in
theorem k10_image (l : Launch) (E : En) (mo : Nat) (ad : Nat → Nat) (S : Nat → Int) (g : Int → Int) (so : Int → Int) (si : Int → Int) (pr : Int → Int) (g2 : Int → Int) (so2 : Int → Int) (si2 : Int → Int) (pr2 : Int → Int) (hw : S 20 = 0 ∨ S 20 = 1) (hw2 : S 54 = 0 ∨ S 54 = 1) (hw3 : S 53 = 0 ∨ S 53 = 1) : Cm l E y10_image c10_image 1 (some .int) { frames := 1, cells := 0, slots := 0, locals := 23 } [.ref mo] [(mo, mO ad S), (ad 22, aInt E 24 g), (ad 49, aInt E 4 so), (ad 50, aInt E 4 si), (ad 51, aInt E 4 pr), (ad 58, aInt E 24 g2), (ad 59, aInt E 4 so2), (ad 60, aInt E 4 si2), (ad 61, aInt E 4 pr2)] (fun r ws => ∃ (v : Int), r = some (.int (iZ v)) ∧ ws = [(mo, mO ad (upS (upS (upS (upS (upS S 53 1) 54 (S 20)) 55 (S 1)) 56 (S 21)) 57 (S 48))), (ad 22, aInt E 24 g), (ad 49, aInt E 4 so), (ad 50, aInt E 4 si), (ad 51, aInt E 4 pr), (ad 58, aInt E 24 g), (ad 59, aInt E 4 so), (ad 60, aInt E 4 si), (ad 61, aInt E 4 pr)] ∧ (v = S 21)) := by
  refine Cm.of rfl (Nat.le_of_ble_eq_true rfl) (fun Γ A hl ha hin G F => ?_)
  subst hl
  refine j_aload_n G 0 rfl d10_image_0 ?_
  refine j_iconst G d10_image_1 ?_
  refine j_put G 0 10 53 in10 tyok10 nm10 fl10_173 d10_image_2 rfl rfl (by decide) ⟨rfl, rfl⟩ rfl rfl (Nat.le_of_ble_eq_true rfl) (e := mO ad (upS S 53 1)) rfl ?_
  refine j_aload_n G 0 rfl d10_image_5 ?_
  refine j_aload_n G 0 rfl d10_image_6 ?_
  refine j_get G 0 10 20 in10 fl10_72 d10_image_7 rfl rfl (by decide) (v := .int (iZ (S 20))) rfl rfl ?_
  refine j_put G 0 10 54 in10 tyok10 nm10 fl10_176 d10_image_10 rfl rfl (by decide) ⟨rfl, rfl⟩ (by rcases hw with h | h <;> rw [h] <;> rfl) (by rcases hw with h | h <;> rw [h] <;> rfl) (Nat.le_of_ble_eq_true rfl) (e := mO ad (upS (upS S 53 1) 54 (S 20))) rfl ?_
  refine j_aload_n G 0 rfl d10_image_13 ?_
  refine j_aload_n G 0 rfl d10_image_14 ?_
  refine j_get G 0 10 1 in10 fl10_13 d10_image_15 rfl rfl (by decide) (v := .int (iZ (S 1))) rfl rfl ?_
  refine j_put G 0 10 55 in10 tyok10 nm10 fl10_179 d10_image_18 rfl rfl (by decide) ⟨rfl, rfl⟩ rfl rfl (Nat.le_of_ble_eq_true rfl) (e := mO ad (upS (upS (upS S 53 1) 54 (S 20)) 55 (S 1))) rfl ?_
  refine j_aload_n G 0 rfl d10_image_21 ?_
  refine j_aload_n G 0 rfl d10_image_22 ?_
  refine j_get G 0 10 21 in10 fl10_76 d10_image_23 rfl rfl (by decide) (v := .int (iZ (S 21))) rfl rfl ?_
  refine j_put G 0 10 56 in10 tyok10 nm10 fl10_182 d10_image_26 rfl rfl (by decide) ⟨rfl, rfl⟩ rfl rfl (Nat.le_of_ble_eq_true rfl) (e := mO ad (upS (upS (upS (upS S 53 1) 54 (S 20)) 55 (S 1)) 56 (S 21))) rfl ?_
  refine j_aload_n G 0 rfl d10_image_29 ?_
  refine j_aload_n G 0 rfl d10_image_30 ?_
  refine j_get G 0 10 48 in10 fl10_158 d10_image_31 rfl rfl (by decide) (v := .int (iZ (S 48))) rfl rfl ?_
  refine j_put G 0 10 57 in10 tyok10 nm10 fl10_185 d10_image_34 rfl rfl (by decide) ⟨rfl, rfl⟩ rfl rfl (Nat.le_of_ble_eq_true rfl) (e := mO ad (upS (upS (upS (upS (upS S 53 1) 54 (S 20)) 55 (S 1)) 56 (S 21)) 57 (S 48))) rfl ?_
  refine j_aload_n G 0 rfl d10_image_37 ?_
  refine j_aload_n G 0 rfl d10_image_38 ?_
  refine j_get G 0 10 22 in10 fl10_79 d10_image_39 rfl rfl (by decide) (v := .ref (ad 22)) rfl rfl ?_
  refine j_aload_n G 0 rfl d10_image_42 ?_
  refine j_get G 0 10 58 in10 fl10_188 d10_image_43 rfl rfl (by decide) (v := .ref (ad 58)) rfl rfl ?_
  refine j_VM G (rm' := { frames := 0, cells := 0, slots := 0, locals := 0 }) (wc := [(ad 22, aInt E 24 g), (ad 58, aInt E 24 g2)]) (wr := [(mo, mO ad (upS (upS (upS (upS (upS S 53 1) 54 (S 20)) 55 (S 1)) 56 (S 21)) 57 (S 48))), (ad 49, aInt E 4 so), (ad 50, aInt E 4 si), (ad 51, aInt E 4 pr), (ad 59, aInt E 4 so2), (ad 60, aInt E 4 si2), (ad 61, aInt E 4 pr2)]) (k10_copy (xl Γ) E mo (ad 22) (ad 58) 24 g g2 (by first | assumption | omega)) mw10_copy ml10_354 [1, 5] [0, 2, 3, 4, 6, 7, 8] rfl rfl ⟨rfl, rfl⟩ (by decide) 0 10 rfl rfl rfl ⟨Nat.le_of_ble_eq_true rfl, Nat.le_of_ble_eq_true rfl⟩ rfl (rest := []) rfl (Nat.le_of_ble_eq_true rfl) d10_image_46 ⟨Nat.le_of_ble_eq_true rfl, Nat.le_of_ble_eq_true rfl⟩ (fun r w1 hr => ?_)
  obtain ⟨rfl, rfl, hq1⟩ := hr
  refine j_eq (ws' := [(mo, mO ad (upS (upS (upS (upS (upS S 53 1) 54 (S 20)) 55 (S 1)) 56 (S 21)) 57 (S 48))), (ad 49, aInt E 4 so), (ad 50, aInt E 4 si), (ad 51, aInt E 4 pr), (ad 59, aInt E 4 so2), (ad 60, aInt E 4 si2), (ad 61, aInt E 4 pr2), (ad 22, aInt E 24 g), (ad 58, aInt E 24 g)]) rfl rfl rfl ?_
  refine j_aload_n G 0 rfl d10_image_49 ?_
  refine j_aload_n G 0 rfl d10_image_50 ?_
  refine j_get G 0 10 49 in10 fl10_161 d10_image_51 rfl rfl (by decide) (v := .ref (ad 49)) rfl rfl ?_
  refine j_aload_n G 0 rfl d10_image_54 ?_
  refine j_get G 0 10 59 in10 fl10_191 d10_image_55 rfl rfl (by decide) (v := .ref (ad 59)) rfl rfl ?_
  refine j_VM G (rm' := { frames := 0, cells := 0, slots := 0, locals := 0 }) (wc := [(ad 49, aInt E 4 so), (ad 59, aInt E 4 so2)]) (wr := [(mo, mO ad (upS (upS (upS (upS (upS S 53 1) 54 (S 20)) 55 (S 1)) 56 (S 21)) 57 (S 48))), (ad 50, aInt E 4 si), (ad 51, aInt E 4 pr), (ad 60, aInt E 4 si2), (ad 61, aInt E 4 pr2), (ad 22, aInt E 24 g), (ad 58, aInt E 24 g)]) (k10_copy (xl Γ) E mo (ad 49) (ad 59) 4 so so2 (by first | assumption | omega)) mw10_copy ml10_354 [1, 4] [0, 2, 3, 5, 6, 7, 8] rfl rfl ⟨rfl, rfl⟩ (by decide) 0 10 rfl rfl rfl ⟨Nat.le_of_ble_eq_true rfl, Nat.le_of_ble_eq_true rfl⟩ rfl (rest := []) rfl (Nat.le_of_ble_eq_true rfl) d10_image_58 ⟨Nat.le_of_ble_eq_true rfl, Nat.le_of_ble_eq_true rfl⟩ (fun r w1 hr => ?_)
  obtain ⟨rfl, rfl, hq2⟩ := hr
  refine j_eq (ws' := [(mo, mO ad (upS (upS (upS (upS (upS S 53 1) 54 (S 20)) 55 (S 1)) 56 (S 21)) 57 (S 48))), (ad 50, aInt E 4 si), (ad 51, aInt E 4 pr), (ad 60, aInt E 4 si2), (ad 61, aInt E 4 pr2), (ad 22, aInt E 24 g), (ad 58, aInt E 24 g), (ad 49, aInt E 4 so), (ad 59, aInt E 4 so)]) rfl rfl rfl ?_
  refine j_aload_n G 0 rfl d10_image_61 ?_
  refine j_aload_n G 0 rfl d10_image_62 ?_
  refine j_get G 0 10 50 in10 fl10_164 d10_image_63 rfl rfl (by decide) (v := .ref (ad 50)) rfl rfl ?_
  refine j_aload_n G 0 rfl d10_image_66 ?_
  refine j_get G 0 10 60 in10 fl10_194 d10_image_67 rfl rfl (by decide) (v := .ref (ad 60)) rfl rfl ?_
  refine j_VM G (rm' := { frames := 0, cells := 0, slots := 0, locals := 0 }) (wc := [(ad 50, aInt E 4 si), (ad 60, aInt E 4 si2)]) (wr := [(mo, mO ad (upS (upS (upS (upS (upS S 53 1) 54 (S 20)) 55 (S 1)) 56 (S 21)) 57 (S 48))), (ad 51, aInt E 4 pr), (ad 61, aInt E 4 pr2), (ad 22, aInt E 24 g), (ad 58, aInt E 24 g), (ad 49, aInt E 4 so), (ad 59, aInt E 4 so)]) (k10_copy (xl Γ) E mo (ad 50) (ad 60) 4 si si2 (by first | assumption | omega)) mw10_copy ml10_354 [1, 3] [0, 2, 4, 5, 6, 7, 8] rfl rfl ⟨rfl, rfl⟩ (by decide) 0 10 rfl rfl rfl ⟨Nat.le_of_ble_eq_true rfl, Nat.le_of_ble_eq_true rfl⟩ rfl (rest := []) rfl (Nat.le_of_ble_eq_true rfl) d10_image_70 ⟨Nat.le_of_ble_eq_true rfl, Nat.le_of_ble_eq_true rfl⟩ (fun r w1 hr => ?_)
  obtain ⟨rfl, rfl, hq3⟩ := hr
  refine j_eq (ws' := [(mo, mO ad (upS (upS (upS (upS (upS S 53 1) 54 (S 20)) 55 (S 1)) 56 (S 21)) 57 (S 48))), (ad 51, aInt E 4 pr), (ad 61, aInt E 4 pr2), (ad 22, aInt E 24 g), (ad 58, aInt E 24 g), (ad 49, aInt E 4 so), (ad 59, aInt E 4 so), (ad 50, aInt E 4 si), (ad 60, aInt E 4 si)]) rfl rfl rfl ?_
  refine j_aload_n G 0 rfl d10_image_73 ?_
  refine j_aload_n G 0 rfl d10_image_74 ?_
  refine j_get G 0 10 51 in10 fl10_167 d10_image_75 rfl rfl (by decide) (v := .ref (ad 51)) rfl rfl ?_
  refine j_aload_n G 0 rfl d10_image_78 ?_
  refine j_get G 0 10 61 in10 fl10_197 d10_image_79 rfl rfl (by decide) (v := .ref (ad 61)) rfl rfl ?_
  refine j_VM G (rm' := { frames := 0, cells := 0, slots := 0, locals := 0 }) (wc := [(ad 51, aInt E 4 pr), (ad 61, aInt E 4 pr2)]) (wr := [(mo, mO ad (upS (upS (upS (upS (upS S 53 1) 54 (S 20)) 55 (S 1)) 56 (S 21)) 57 (S 48))), (ad 22, aInt E 24 g), (ad 58, aInt E 24 g), (ad 49, aInt E 4 so), (ad 59, aInt E 4 so), (ad 50, aInt E 4 si), (ad 60, aInt E 4 si)]) (k10_copy (xl Γ) E mo (ad 51) (ad 61) 4 pr pr2 (by first | assumption | omega)) mw10_copy ml10_354 [1, 2] [0, 3, 4, 5, 6, 7, 8] rfl rfl ⟨rfl, rfl⟩ (by decide) 0 10 rfl rfl rfl ⟨Nat.le_of_ble_eq_true rfl, Nat.le_of_ble_eq_true rfl⟩ rfl (rest := []) rfl (Nat.le_of_ble_eq_true rfl) d10_image_82 ⟨Nat.le_of_ble_eq_true rfl, Nat.le_of_ble_eq_true rfl⟩ (fun r w1 hr => ?_)
  obtain ⟨rfl, rfl, hq4⟩ := hr
  refine j_eq (ws' := [(mo, mO ad (upS (upS (upS (upS (upS S 53 1) 54 (S 20)) 55 (S 1)) 56 (S 21)) 57 (S 48))), (ad 22, aInt E 24 g), (ad 58, aInt E 24 g), (ad 49, aInt E 4 so), (ad 59, aInt E 4 so), (ad 50, aInt E 4 si), (ad 60, aInt E 4 si), (ad 51, aInt E 4 pr), (ad 61, aInt E 4 pr)]) rfl rfl rfl ?_
  refine j_aload_n G 0 rfl d10_image_85 ?_
  refine j_get G 0 10 21 in10 fl10_76 d10_image_86 rfl rfl (by decide) (v := .int (iZ (S 21))) rfl rfl ?_
  refine j_perm (ws' := [(mo, mO ad (upS (upS (upS (upS (upS S 53 1) 54 (S 20)) 55 (S 1)) 56 (S 21)) 57 (S 48))), (ad 22, aInt E 24 g), (ad 49, aInt E 4 so), (ad 50, aInt E 4 si), (ad 51, aInt E 4 pr), (ad 58, aInt E 24 g), (ad 59, aInt E 4 so), (ad 60, aInt E 4 si), (ad 61, aInt E 4 pr)]) [0, 1, 3, 5, 7, 2, 4, 6, 8] rfl rfl rfl ?_
  exact j_iret G F d10_image_89 ⟨S 21, rfl, rfl, (by rfl)⟩
theorem d10_undo_0 : decode c10_undo 0 = .ok (.aload_n 0, 1) := by decide +kernel
theorem d10_undo_1 : decode c10_undo 1 = .ok (.getfield 173, 3) := by decide +kernel
theorem d10_undo_4 : decode c10_undo 4 = .ok (.ifCond .ne 6, 3) := by decide +kernel
theorem d10_undo_7 : decode c10_undo 7 = .ok (.bipush (-3), 2) := by decide +kernel
theorem d10_undo_9 : decode c10_undo 9 = .ok (.ireturn, 1) := by decide +kernel
theorem d10_undo_10 : decode c10_undo 10 = .ok (.aload_n 0, 1) := by decide +kernel
theorem d10_undo_11 : decode c10_undo 11 = .ok (.aload_n 0, 1) := by decide +kernel
theorem d10_undo_12 : decode c10_undo 12 = .ok (.getfield 176, 3) := by decide +kernel
theorem d10_undo_15 : decode c10_undo 15 = .ok (.putfield 72, 3) := by decide +kernel
theorem d10_undo_18 : decode c10_undo 18 = .ok (.aload_n 0, 1) := by decide +kernel
theorem d10_undo_19 : decode c10_undo 19 = .ok (.aload_n 0, 1) := by decide +kernel
theorem d10_undo_20 : decode c10_undo 20 = .ok (.getfield 179, 3) := by decide +kernel
theorem d10_undo_23 : decode c10_undo 23 = .ok (.putfield 13, 3) := by decide +kernel
theorem d10_undo_26 : decode c10_undo 26 = .ok (.aload_n 0, 1) := by decide +kernel
theorem d10_undo_27 : decode c10_undo 27 = .ok (.aload_n 0, 1) := by decide +kernel
theorem d10_undo_28 : decode c10_undo 28 = .ok (.getfield 182, 3) := by decide +kernel
theorem d10_undo_31 : decode c10_undo 31 = .ok (.putfield 76, 3) := by decide +kernel
theorem d10_undo_34 : decode c10_undo 34 = .ok (.aload_n 0, 1) := by decide +kernel
theorem d10_undo_35 : decode c10_undo 35 = .ok (.aload_n 0, 1) := by decide +kernel
theorem d10_undo_36 : decode c10_undo 36 = .ok (.getfield 185, 3) := by decide +kernel
theorem d10_undo_39 : decode c10_undo 39 = .ok (.putfield 158, 3) := by decide +kernel
theorem d10_undo_42 : decode c10_undo 42 = .ok (.aload_n 0, 1) := by decide +kernel
theorem d10_undo_43 : decode c10_undo 43 = .ok (.aload_n 0, 1) := by decide +kernel
theorem d10_undo_44 : decode c10_undo 44 = .ok (.getfield 188, 3) := by decide +kernel
theorem d10_undo_47 : decode c10_undo 47 = .ok (.aload_n 0, 1) := by decide +kernel
theorem d10_undo_48 : decode c10_undo 48 = .ok (.getfield 79, 3) := by decide +kernel
theorem d10_undo_51 : decode c10_undo 51 = .ok (.invokevirtual 354, 3) := by decide +kernel
theorem d10_undo_54 : decode c10_undo 54 = .ok (.aload_n 0, 1) := by decide +kernel
theorem d10_undo_55 : decode c10_undo 55 = .ok (.aload_n 0, 1) := by decide +kernel
theorem d10_undo_56 : decode c10_undo 56 = .ok (.getfield 191, 3) := by decide +kernel
theorem d10_undo_59 : decode c10_undo 59 = .ok (.aload_n 0, 1) := by decide +kernel
theorem d10_undo_60 : decode c10_undo 60 = .ok (.getfield 161, 3) := by decide +kernel
theorem d10_undo_63 : decode c10_undo 63 = .ok (.invokevirtual 354, 3) := by decide +kernel
theorem d10_undo_66 : decode c10_undo 66 = .ok (.aload_n 0, 1) := by decide +kernel
theorem d10_undo_67 : decode c10_undo 67 = .ok (.aload_n 0, 1) := by decide +kernel
theorem d10_undo_68 : decode c10_undo 68 = .ok (.getfield 194, 3) := by decide +kernel
theorem d10_undo_71 : decode c10_undo 71 = .ok (.aload_n 0, 1) := by decide +kernel
theorem d10_undo_72 : decode c10_undo 72 = .ok (.getfield 164, 3) := by decide +kernel
theorem d10_undo_75 : decode c10_undo 75 = .ok (.invokevirtual 354, 3) := by decide +kernel
theorem d10_undo_78 : decode c10_undo 78 = .ok (.aload_n 0, 1) := by decide +kernel
theorem d10_undo_79 : decode c10_undo 79 = .ok (.aload_n 0, 1) := by decide +kernel
theorem d10_undo_80 : decode c10_undo 80 = .ok (.getfield 197, 3) := by decide +kernel
theorem d10_undo_83 : decode c10_undo 83 = .ok (.aload_n 0, 1) := by decide +kernel
theorem d10_undo_84 : decode c10_undo 84 = .ok (.getfield 167, 3) := by decide +kernel
theorem d10_undo_87 : decode c10_undo 87 = .ok (.invokevirtual 354, 3) := by decide +kernel
theorem d10_undo_90 : decode c10_undo 90 = .ok (.aload_n 0, 1) := by decide +kernel
theorem d10_undo_91 : decode c10_undo 91 = .ok (.getfield 76, 3) := by decide +kernel
theorem d10_undo_94 : decode c10_undo 94 = .ok (.ireturn, 1) := by decide +kernel
theorem mw10_undo : MV y10_undo c10_undo 1 (some .int) 0 := ⟨cd10_undo, ini10, na10_undo, im10_undo, se10_undo⟩
set_option maxHeartbeats 4000000 in
set_option maxRecDepth 100000 in
theorem k10_undo (l : Launch) (E : En) (mo : Nat) (ad : Nat → Nat) (S : Nat → Int) (g : Int → Int) (so : Int → Int) (si : Int → Int) (pr : Int → Int) (g2 : Int → Int) (so2 : Int → Int) (si2 : Int → Int) (pr2 : Int → Int) (hw : S 20 = 0 ∨ S 20 = 1) (hw2 : S 54 = 0 ∨ S 54 = 1) (hw3 : S 53 = 0 ∨ S 53 = 1) : Cm l E y10_undo c10_undo 1 (some .int) { frames := 1, cells := 0, slots := 0, locals := 23 } [.ref mo] [(mo, mO ad S), (ad 22, aInt E 24 g), (ad 49, aInt E 4 so), (ad 50, aInt E 4 si), (ad 51, aInt E 4 pr), (ad 58, aInt E 24 g2), (ad 59, aInt E 4 so2), (ad 60, aInt E 4 si2), (ad 61, aInt E 4 pr2)] (fun r ws => ∃ (v : Int), ∃ (S1 : Nat → Int), ∃ (g1 : Int → Int), ∃ (so1 : Int → Int), ∃ (si1 : Int → Int), ∃ (pr1 : Int → Int), r = some (.int (iZ v)) ∧ ws = [(mo, mO ad S1), (ad 22, aInt E 24 g1), (ad 49, aInt E 4 so1), (ad 50, aInt E 4 si1), (ad 51, aInt E 4 pr1), (ad 58, aInt E 24 g2), (ad 59, aInt E 4 so2), (ad 60, aInt E 4 si2), (ad 61, aInt E 4 pr2)] ∧ ((S 53 = 0 ∧ v = -3 ∧ S1 = S ∧ g1 = g ∧ so1 = so ∧ si1 = si ∧ pr1 = pr) ∨ (¬ S 53 = 0 ∧ v = S 56 ∧ S1 = upS (upS (upS (upS S 20 (S 54)) 1 (S 55)) 21 (S 56)) 48 (S 57) ∧ g1 = g2 ∧ so1 = so2 ∧ si1 = si2 ∧ pr1 = pr2))) := by
  refine Cm.of rfl (Nat.le_of_ble_eq_true rfl) (fun Γ A hl ha hin G F => ?_)
  subst hl
  refine j_aload_n G 0 rfl d10_undo_0 ?_
  refine j_get G 0 10 53 in10 fl10_173 d10_undo_1 rfl rfl (by decide) (v := .int (iZ (S 53))) rfl rfl ?_
  refine j_if_ne (tgt := 10) G d10_undo_4 (by decide) (by omega) (fun h1 => ?_) (fun h1 => ?_)
  ·
    refine j_aload_n G 0 rfl d10_undo_10 ?_
    refine j_aload_n G 0 rfl d10_undo_11 ?_
    refine j_get G 0 10 54 in10 fl10_176 d10_undo_12 rfl rfl (by decide) (v := .int (iZ (S 54))) rfl rfl ?_
    refine j_put G 0 10 20 in10 tyok10 nm10 fl10_72 d10_undo_15 rfl rfl (by decide) ⟨rfl, rfl⟩ (by rcases hw2 with h | h <;> rw [h] <;> rfl) (by rcases hw2 with h | h <;> rw [h] <;> rfl) (Nat.le_of_ble_eq_true rfl) (e := mO ad (upS S 20 (S 54))) rfl ?_
    refine j_aload_n G 0 rfl d10_undo_18 ?_
    refine j_aload_n G 0 rfl d10_undo_19 ?_
    refine j_get G 0 10 55 in10 fl10_179 d10_undo_20 rfl rfl (by decide) (v := .int (iZ (S 55))) rfl rfl ?_
    refine j_put G 0 10 1 in10 tyok10 nm10 fl10_13 d10_undo_23 rfl rfl (by decide) ⟨rfl, rfl⟩ rfl rfl (Nat.le_of_ble_eq_true rfl) (e := mO ad (upS (upS S 20 (S 54)) 1 (S 55))) rfl ?_
    refine j_aload_n G 0 rfl d10_undo_26 ?_
    refine j_aload_n G 0 rfl d10_undo_27 ?_
    refine j_get G 0 10 56 in10 fl10_182 d10_undo_28 rfl rfl (by decide) (v := .int (iZ (S 56))) rfl rfl ?_
    refine j_put G 0 10 21 in10 tyok10 nm10 fl10_76 d10_undo_31 rfl rfl (by decide) ⟨rfl, rfl⟩ rfl rfl (Nat.le_of_ble_eq_true rfl) (e := mO ad (upS (upS (upS S 20 (S 54)) 1 (S 55)) 21 (S 56))) rfl ?_
    refine j_aload_n G 0 rfl d10_undo_34 ?_
    refine j_aload_n G 0 rfl d10_undo_35 ?_
    refine j_get G 0 10 57 in10 fl10_185 d10_undo_36 rfl rfl (by decide) (v := .int (iZ (S 57))) rfl rfl ?_
    refine j_put G 0 10 48 in10 tyok10 nm10 fl10_158 d10_undo_39 rfl rfl (by decide) ⟨rfl, rfl⟩ rfl rfl (Nat.le_of_ble_eq_true rfl) (e := mO ad (upS (upS (upS (upS S 20 (S 54)) 1 (S 55)) 21 (S 56)) 48 (S 57))) rfl ?_
    refine j_aload_n G 0 rfl d10_undo_42 ?_
    refine j_aload_n G 0 rfl d10_undo_43 ?_
    refine j_get G 0 10 58 in10 fl10_188 d10_undo_44 rfl rfl (by decide) (v := .ref (ad 58)) rfl rfl ?_
    refine j_aload_n G 0 rfl d10_undo_47 ?_
    refine j_get G 0 10 22 in10 fl10_79 d10_undo_48 rfl rfl (by decide) (v := .ref (ad 22)) rfl rfl ?_
    refine j_VM G (rm' := { frames := 0, cells := 0, slots := 0, locals := 0 }) (wc := [(ad 58, aInt E 24 g2), (ad 22, aInt E 24 g)]) (wr := [(mo, mO ad (upS (upS (upS (upS S 20 (S 54)) 1 (S 55)) 21 (S 56)) 48 (S 57))), (ad 49, aInt E 4 so), (ad 50, aInt E 4 si), (ad 51, aInt E 4 pr), (ad 59, aInt E 4 so2), (ad 60, aInt E 4 si2), (ad 61, aInt E 4 pr2)]) (k10_copy (xl Γ) E mo (ad 58) (ad 22) 24 g2 g (by first | assumption | omega)) mw10_copy ml10_354 [5, 1] [0, 2, 3, 4, 6, 7, 8] rfl rfl ⟨rfl, rfl⟩ (by decide) 0 10 rfl rfl rfl ⟨Nat.le_of_ble_eq_true rfl, Nat.le_of_ble_eq_true rfl⟩ rfl (rest := []) rfl (Nat.le_of_ble_eq_true rfl) d10_undo_51 ⟨Nat.le_of_ble_eq_true rfl, Nat.le_of_ble_eq_true rfl⟩ (fun r w1 hr => ?_)
    obtain ⟨rfl, rfl, hq2⟩ := hr
    refine j_eq (ws' := [(mo, mO ad (upS (upS (upS (upS S 20 (S 54)) 1 (S 55)) 21 (S 56)) 48 (S 57))), (ad 49, aInt E 4 so), (ad 50, aInt E 4 si), (ad 51, aInt E 4 pr), (ad 59, aInt E 4 so2), (ad 60, aInt E 4 si2), (ad 61, aInt E 4 pr2), (ad 58, aInt E 24 g2), (ad 22, aInt E 24 g2)]) rfl rfl rfl ?_
    refine j_aload_n G 0 rfl d10_undo_54 ?_
    refine j_aload_n G 0 rfl d10_undo_55 ?_
    refine j_get G 0 10 59 in10 fl10_191 d10_undo_56 rfl rfl (by decide) (v := .ref (ad 59)) rfl rfl ?_
    refine j_aload_n G 0 rfl d10_undo_59 ?_
    refine j_get G 0 10 49 in10 fl10_161 d10_undo_60 rfl rfl (by decide) (v := .ref (ad 49)) rfl rfl ?_
    refine j_VM G (rm' := { frames := 0, cells := 0, slots := 0, locals := 0 }) (wc := [(ad 59, aInt E 4 so2), (ad 49, aInt E 4 so)]) (wr := [(mo, mO ad (upS (upS (upS (upS S 20 (S 54)) 1 (S 55)) 21 (S 56)) 48 (S 57))), (ad 50, aInt E 4 si), (ad 51, aInt E 4 pr), (ad 60, aInt E 4 si2), (ad 61, aInt E 4 pr2), (ad 58, aInt E 24 g2), (ad 22, aInt E 24 g2)]) (k10_copy (xl Γ) E mo (ad 59) (ad 49) 4 so2 so (by first | assumption | omega)) mw10_copy ml10_354 [4, 1] [0, 2, 3, 5, 6, 7, 8] rfl rfl ⟨rfl, rfl⟩ (by decide) 0 10 rfl rfl rfl ⟨Nat.le_of_ble_eq_true rfl, Nat.le_of_ble_eq_true rfl⟩ rfl (rest := []) rfl (Nat.le_of_ble_eq_true rfl) d10_undo_63 ⟨Nat.le_of_ble_eq_true rfl, Nat.le_of_ble_eq_true rfl⟩ (fun r w1 hr => ?_)
    obtain ⟨rfl, rfl, hq3⟩ := hr
    refine j_eq (ws' := [(mo, mO ad (upS (upS (upS (upS S 20 (S 54)) 1 (S 55)) 21 (S 56)) 48 (S 57))), (ad 50, aInt E 4 si), (ad 51, aInt E 4 pr), (ad 60, aInt E 4 si2), (ad 61, aInt E 4 pr2), (ad 58, aInt E 24 g2), (ad 22, aInt E 24 g2), (ad 59, aInt E 4 so2), (ad 49, aInt E 4 so2)]) rfl rfl rfl ?_
    refine j_aload_n G 0 rfl d10_undo_66 ?_
    refine j_aload_n G 0 rfl d10_undo_67 ?_
    refine j_get G 0 10 60 in10 fl10_194 d10_undo_68 rfl rfl (by decide) (v := .ref (ad 60)) rfl rfl ?_
    refine j_aload_n G 0 rfl d10_undo_71 ?_
    refine j_get G 0 10 50 in10 fl10_164 d10_undo_72 rfl rfl (by decide) (v := .ref (ad 50)) rfl rfl ?_
    refine j_VM G (rm' := { frames := 0, cells := 0, slots := 0, locals := 0 }) (wc := [(ad 60, aInt E 4 si2), (ad 50, aInt E 4 si)]) (wr := [(mo, mO ad (upS (upS (upS (upS S 20 (S 54)) 1 (S 55)) 21 (S 56)) 48 (S 57))), (ad 51, aInt E 4 pr), (ad 61, aInt E 4 pr2), (ad 58, aInt E 24 g2), (ad 22, aInt E 24 g2), (ad 59, aInt E 4 so2), (ad 49, aInt E 4 so2)]) (k10_copy (xl Γ) E mo (ad 60) (ad 50) 4 si2 si (by first | assumption | omega)) mw10_copy ml10_354 [3, 1] [0, 2, 4, 5, 6, 7, 8] rfl rfl ⟨rfl, rfl⟩ (by decide) 0 10 rfl rfl rfl ⟨Nat.le_of_ble_eq_true rfl, Nat.le_of_ble_eq_true rfl⟩ rfl (rest := []) rfl (Nat.le_of_ble_eq_true rfl) d10_undo_75 ⟨Nat.le_of_ble_eq_true rfl, Nat.le_of_ble_eq_true rfl⟩ (fun r w1 hr => ?_)
    obtain ⟨rfl, rfl, hq4⟩ := hr
    refine j_eq (ws' := [(mo, mO ad (upS (upS (upS (upS S 20 (S 54)) 1 (S 55)) 21 (S 56)) 48 (S 57))), (ad 51, aInt E 4 pr), (ad 61, aInt E 4 pr2), (ad 58, aInt E 24 g2), (ad 22, aInt E 24 g2), (ad 59, aInt E 4 so2), (ad 49, aInt E 4 so2), (ad 60, aInt E 4 si2), (ad 50, aInt E 4 si2)]) rfl rfl rfl ?_
    refine j_aload_n G 0 rfl d10_undo_78 ?_
    refine j_aload_n G 0 rfl d10_undo_79 ?_
    refine j_get G 0 10 61 in10 fl10_197 d10_undo_80 rfl rfl (by decide) (v := .ref (ad 61)) rfl rfl ?_
    refine j_aload_n G 0 rfl d10_undo_83 ?_
    refine j_get G 0 10 51 in10 fl10_167 d10_undo_84 rfl rfl (by decide) (v := .ref (ad 51)) rfl rfl ?_
    refine j_VM G (rm' := { frames := 0, cells := 0, slots := 0, locals := 0 }) (wc := [(ad 61, aInt E 4 pr2), (ad 51, aInt E 4 pr)]) (wr := [(mo, mO ad (upS (upS (upS (upS S 20 (S 54)) 1 (S 55)) 21 (S 56)) 48 (S 57))), (ad 58, aInt E 24 g2), (ad 22, aInt E 24 g2), (ad 59, aInt E 4 so2), (ad 49, aInt E 4 so2), (ad 60, aInt E 4 si2), (ad 50, aInt E 4 si2)]) (k10_copy (xl Γ) E mo (ad 61) (ad 51) 4 pr2 pr (by first | assumption | omega)) mw10_copy ml10_354 [2, 1] [0, 3, 4, 5, 6, 7, 8] rfl rfl ⟨rfl, rfl⟩ (by decide) 0 10 rfl rfl rfl ⟨Nat.le_of_ble_eq_true rfl, Nat.le_of_ble_eq_true rfl⟩ rfl (rest := []) rfl (Nat.le_of_ble_eq_true rfl) d10_undo_87 ⟨Nat.le_of_ble_eq_true rfl, Nat.le_of_ble_eq_true rfl⟩ (fun r w1 hr => ?_)
    obtain ⟨rfl, rfl, hq5⟩ := hr
    refine j_eq (ws' := [(mo, mO ad (upS (upS (upS (upS S 20 (S 54)) 1 (S 55)) 21 (S 56)) 48 (S 57))), (ad 58, aInt E 24 g2), (ad 22, aInt E 24 g2), (ad 59, aInt E 4 so2), (ad 49, aInt E 4 so2), (ad 60, aInt E 4 si2), (ad 50, aInt E 4 si2), (ad 61, aInt E 4 pr2), (ad 51, aInt E 4 pr2)]) rfl rfl rfl ?_
    refine j_aload_n G 0 rfl d10_undo_90 ?_
    refine j_get G 0 10 21 in10 fl10_76 d10_undo_91 rfl rfl (by decide) (v := .int (iZ (S 56))) rfl rfl ?_
    refine j_perm (ws' := [(mo, mO ad (upS (upS (upS (upS S 20 (S 54)) 1 (S 55)) 21 (S 56)) 48 (S 57))), (ad 22, aInt E 24 g2), (ad 49, aInt E 4 so2), (ad 50, aInt E 4 si2), (ad 51, aInt E 4 pr2), (ad 58, aInt E 24 g2), (ad 59, aInt E 4 so2), (ad 60, aInt E 4 si2), (ad 61, aInt E 4 pr2)]) [0, 2, 4, 6, 8, 1, 3, 5, 7] rfl rfl rfl ?_
    exact j_iret G F d10_undo_94 ⟨S 56, (upS (upS (upS (upS S 20 (S 54)) 1 (S 55)) 21 (S 56)) 48 (S 57)), g2, so2, si2, pr2, rfl, rfl, (by first | (left; exact ⟨by omega, rfl, rfl, rfl, rfl, rfl, rfl⟩) | (right; exact ⟨by omega, rfl, rfl, rfl, rfl, rfl, rfl⟩))⟩
  ·
    refine j_bipush G d10_undo_7 rfl ?_
    exact j_iret G F d10_undo_9 ⟨(-3), S, g, so, si, pr, rfl, rfl, (by first | (left; exact ⟨by omega, rfl, rfl, rfl, rfl, rfl, rfl⟩) | (right; exact ⟨by omega, rfl, rfl, rfl, rfl, rfl, rfl⟩))⟩
theorem d10_choose_0 : decode c10_choose 0 = .ok (.aload_n 0, 1) := by decide +kernel
theorem d10_choose_1 : decode c10_choose 1 = .ok (.iload_n 1, 1) := by decide +kernel
theorem d10_choose_2 : decode c10_choose 2 = .ok (.iconst 0, 1) := by decide +kernel
theorem d10_choose_3 : decode c10_choose 3 = .ok (.aload_n 0, 1) := by decide +kernel
theorem d10_choose_4 : decode c10_choose 4 = .ok (.getfield 7, 3) := by decide +kernel
theorem d10_choose_7 : decode c10_choose 7 = .ok (.iconst 1, 1) := by decide +kernel
theorem d10_choose_8 : decode c10_choose 8 = .ok (.isub, 1) := by decide +kernel
theorem d10_choose_9 : decode c10_choose 9 = .ok (.invokevirtual 219, 3) := by decide +kernel
theorem d10_choose_12 : decode c10_choose 12 = .ok (.ifCond .ne 5, 3) := by decide +kernel
theorem d10_choose_15 : decode c10_choose 15 = .ok (.iconst (-1), 1) := by decide +kernel
theorem d10_choose_16 : decode c10_choose 16 = .ok (.ireturn, 1) := by decide +kernel
theorem d10_choose_17 : decode c10_choose 17 = .ok (.aload_n 0, 1) := by decide +kernel
theorem d10_choose_18 : decode c10_choose 18 = .ok (.getfield 13, 3) := by decide +kernel
theorem d10_choose_21 : decode c10_choose 21 = .ok (.ifCond .ge 8, 3) := by decide +kernel
theorem d10_choose_24 : decode c10_choose 24 = .ok (.bipush (-5), 2) := by decide +kernel
theorem d10_choose_26 : decode c10_choose 26 = .ok (.goto 7, 3) := by decide +kernel
theorem d10_choose_29 : decode c10_choose 29 = .ok (.aload_n 0, 1) := by decide +kernel
theorem d10_choose_30 : decode c10_choose 30 = .ok (.getfield 13, 3) := by decide +kernel
theorem d10_choose_33 : decode c10_choose 33 = .ok (.istore_n 2, 1) := by decide +kernel
theorem d10_choose_34 : decode c10_choose 34 = .ok (.aload_n 0, 1) := by decide +kernel
theorem d10_choose_35 : decode c10_choose 35 = .ok (.iload_n 1, 1) := by decide +kernel
theorem d10_choose_36 : decode c10_choose 36 = .ok (.putfield 13, 3) := by decide +kernel
theorem d10_choose_39 : decode c10_choose 39 = .ok (.aload_n 0, 1) := by decide +kernel
theorem d10_choose_40 : decode c10_choose 40 = .ok (.aload_n 0, 1) := by decide +kernel
theorem d10_choose_41 : decode c10_choose 41 = .ok (.aload_n 0, 1) := by decide +kernel
theorem d10_choose_42 : decode c10_choose 42 = .ok (.getfield 76, 3) := by decide +kernel
theorem d10_choose_45 : decode c10_choose 45 = .ok (.aload_n 0, 1) := by decide +kernel
theorem d10_choose_46 : decode c10_choose 46 = .ok (.bipush 8, 2) := by decide +kernel
theorem d10_choose_48 : decode c10_choose 48 = .ok (.invokevirtual 286, 3) := by decide +kernel
theorem d10_choose_51 : decode c10_choose 51 = .ok (.invokevirtual 276, 3) := by decide +kernel
theorem d10_choose_54 : decode c10_choose 54 = .ok (.putfield 76, 3) := by decide +kernel
theorem d10_choose_57 : decode c10_choose 57 = .ok (.iload_n 2, 1) := by decide +kernel
theorem d10_choose_58 : decode c10_choose 58 = .ok (.ireturn, 1) := by decide +kernel
theorem mw10_choose : MV y10_choose c10_choose 3 (some .int) 1 := ⟨cd10_choose, ini10, na10_choose, im10_choose, se10_choose⟩
set_option maxHeartbeats 4000000 in
set_option maxRecDepth 100000 in
theorem k10_choose (l : Launch) (E : En) (mo : Nat) (ad : Nat → Nat) (S : Nat → Int) (la : Int → Int) (a : Int) (r_a : R32 a) (hcl : 0 ≤ S 0 ∧ S 0 ≤ 4) (hth : -1 ≤ S 1 ∧ S 1 ≤ S 0 - 1) (hfi : 0 ≤ S 21 ∧ S 21 ≤ 40) (hla : ∀ q, 0 ≤ q → q ≤ 3 → 0 ≤ la (9 * q + 8) ∧ la (9 * q + 8) ≤ 40) : Cm l E y10_choose c10_choose 3 (some .int) { frames := 1, cells := 0, slots := 0, locals := 23 } [.ref mo, .int (iZ a)] [(mo, mO ad S), (ad 11, aInt E 36 la)] (fun r ws => ∃ (v : Int), ∃ (S1 : Nat → Int), r = some (.int (iZ v)) ∧ ws = [(mo, mO ad S1), (ad 11, aInt E 36 la)] ∧ (((0 ≤ a ∧ a ≤ S 0 - 1) ∧ v = (if S 1 < 0 then -5 else S 1) ∧ S1 = upS (upS S 1 a) 21 (min (S 21) (la (9 * a + 8)))) ∨ (¬ (0 ≤ a ∧ a ≤ S 0 - 1) ∧ v = -1 ∧ S1 = S))) := by
  refine Cm.of rfl (Nat.le_of_ble_eq_true rfl) (fun Γ A hl ha hin G F => ?_)
  subst hl
  refine j_aload_n G 0 rfl d10_choose_0 ?_
  refine j_iload_n G 1 rfl d10_choose_1 ?_
  refine j_iconst G d10_choose_2 ?_
  refine j_aload_n G 0 rfl d10_choose_3 ?_
  refine j_get G 0 10 0 in10 fl10_7 d10_choose_4 rfl rfl (by decide) (v := .int (iZ (S 0))) rfl rfl ?_
  refine j_iconst G d10_choose_7 ?_
  refine j_isub G d10_choose_8 ?_
  refine j_VP G (k10_in (xl Γ) E mo a 0 ((S 0) - 1) (by first | assumption | omega) (by first | assumption | omega) (by first | assumption | omega)) mw10_in ml10_219 [] rfl 0 10 rfl rfl rfl ⟨Nat.le_of_ble_eq_true rfl, Nat.le_of_ble_eq_true rfl⟩ rfl (rest := []) rfl (Nat.le_of_ble_eq_true rfl) d10_choose_9 ⟨Nat.le_of_ble_eq_true rfl, Nat.le_of_ble_eq_true rfl⟩ (fun r hr => ?_)
  obtain ⟨v2, rfl, hq1⟩ := hr
  rcases hq1 with ⟨hq1, rfl⟩ | ⟨hq1, rfl⟩
  ·
    refine j_if_ne (tgt := 17) G d10_choose_12 (by decide) (by decide) (fun h3 => ?_) (fun h3 => absurd h3 (by decide))
    refine j_aload_n G 0 rfl d10_choose_17 ?_
    refine j_get G 0 10 1 in10 fl10_13 d10_choose_18 rfl rfl (by decide) (v := .int (iZ (S 1))) rfl rfl ?_
    have mg21 : ∀ x4 : Int, x4 = (if 0 ≤ S 1 then (S 1) else (-5)) → J E 3 Γ (some A) 0 0 [(mo, mO ad S), (ad 11, aInt E 36 la)] 33 [(0, .ref mo), (1, .int (iZ a))] ([.int (iZ x4)]) := by
      intro x4 ex4
      refine j_istore_n G d10_choose_33 (by decide) rfl ?_
      refine j_aload_n G 1 rfl d10_choose_34 ?_
      refine j_iload_n G 2 rfl d10_choose_35 ?_
      have hb9 := hla a (by omega) (by omega)
      refine j_put G 0 10 1 in10 tyok10 nm10 fl10_13 d10_choose_36 rfl rfl (by decide) ⟨rfl, rfl⟩ rfl rfl (Nat.le_of_ble_eq_true rfl) (e := mO ad (upS S 1 a)) rfl ?_
      refine j_aload_n G 1 rfl d10_choose_39 ?_
      refine j_aload_n G 1 rfl d10_choose_40 ?_
      refine j_aload_n G 1 rfl d10_choose_41 ?_
      refine j_get G 0 10 21 in10 fl10_76 d10_choose_42 rfl rfl (by decide) (v := .int (iZ (S 21))) rfl rfl ?_
      refine j_aload_n G 1 rfl d10_choose_45 ?_
      refine j_bipush G d10_choose_46 rfl ?_
      refine j_VP G (k10_lastOf (xl Γ) E mo ad (upS S 1 a) la 8 (by simp only [upS, reduceIte]; omega) (by first | assumption | omega)) mw10_lastOf ml10_286 [0, 1] rfl 0 10 rfl rfl rfl ⟨Nat.le_of_ble_eq_true rfl, Nat.le_of_ble_eq_true rfl⟩ rfl (rest := [.int (iZ (S 21)), .ref mo, .ref mo]) rfl (Nat.le_of_ble_eq_true rfl) d10_choose_48 ⟨Nat.le_of_ble_eq_true rfl, Nat.le_of_ble_eq_true rfl⟩ (fun r hr => ?_)
      obtain ⟨v6, rfl, hq5⟩ := hr
      try simp only [upS, reduceIte, Nat.reduceEqDiff, eq_self] at hq5
      refine j_VP G (k10_min (xl Γ) E mo (S 21) v6 (by first | assumption | omega) (by first | assumption | omega)) mw10_min ml10_276 [] rfl 0 10 rfl rfl rfl ⟨Nat.le_of_ble_eq_true rfl, Nat.le_of_ble_eq_true rfl⟩ rfl (rest := [.ref mo]) rfl (Nat.le_of_ble_eq_true rfl) d10_choose_51 ⟨Nat.le_of_ble_eq_true rfl, Nat.le_of_ble_eq_true rfl⟩ (fun r hr => ?_)
      obtain ⟨v8, rfl, hq7⟩ := hr
      refine j_put G 0 10 21 in10 tyok10 nm10 fl10_76 d10_choose_54 rfl rfl (by decide) ⟨rfl, rfl⟩ rfl rfl (Nat.le_of_ble_eq_true rfl) (e := mO ad (upS (upS S 1 a) 21 v8)) rfl ?_
      refine j_iload_n G 0 rfl d10_choose_57 ?_
      exact j_iret G F d10_choose_58 ⟨x4, (upS (upS S 1 a) 21 v8), rfl, rfl, (by first | (left; exact ⟨by omega, by first | rfl | omega | (subst_vars; rfl), by subst_vars; rfl⟩) | (right; exact ⟨by omega, rfl, rfl⟩))⟩
    refine j_if_ge (tgt := 29) G d10_choose_21 (by decide) (by omega) (fun h9 => ?_) (fun h9 => ?_)
    ·
      refine j_aload_n G 0 rfl d10_choose_29 ?_
      refine j_get G 0 10 1 in10 fl10_13 d10_choose_30 rfl rfl (by decide) (v := .int (iZ (S 1))) rfl rfl ?_
      refine j_eq (ws' := [(mo, mO ad S), (ad 11, aInt E 36 la)]) (ls' := [(0, .ref mo), (1, .int (iZ a))]) rfl rfl rfl ?_
      exact mg21 _ (by first | rfl | (simp only [*, if_true, if_false, ite_true, ite_false]; done) | (split <;> first | rfl | omega | (split <;> first | rfl | omega | (split <;> first | rfl | omega))))
    ·
      refine j_bipush G d10_choose_24 rfl ?_
      refine j_goto (tgt := 33) G d10_choose_26 (by decide) ?_
      refine j_eq (ws' := [(mo, mO ad S), (ad 11, aInt E 36 la)]) (ls' := [(0, .ref mo), (1, .int (iZ a))]) rfl rfl rfl ?_
      exact mg21 _ (by first | rfl | (simp only [*, if_true, if_false, ite_true, ite_false]; done) | (split <;> first | rfl | omega | (split <;> first | rfl | omega | (split <;> first | rfl | omega))))
  ·
    refine j_if_ne (tgt := 17) G d10_choose_12 (by decide) (by decide) (fun h10 => absurd h10 (by decide)) (fun h10 => ?_)
    refine j_iconst G d10_choose_15 ?_
    exact j_iret G F d10_choose_16 ⟨(-1), S, rfl, rfl, (by first | (left; exact ⟨by omega, by first | rfl | omega | (subst_vars; rfl), by subst_vars; rfl⟩) | (right; exact ⟨by omega, rfl, rfl⟩))⟩
