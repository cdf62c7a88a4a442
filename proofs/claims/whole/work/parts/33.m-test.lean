theorem d10_takesTest_0 : decode c10_takesTest 0 = .ok (.aload_n 0, 1) := by decide +kernel
theorem d10_takesTest_1 : decode c10_takesTest 1 = .ok (.invokevirtual 223, 3) := by decide +kernel
theorem d10_takesTest_4 : decode c10_takesTest 4 = .ok (.istore_n 1, 1) := by decide +kernel
theorem d10_takesTest_5 : decode c10_takesTest 5 = .ok (.iload_n 1, 1) := by decide +kernel
theorem d10_takesTest_6 : decode c10_takesTest 6 = .ok (.bipush 115, 2) := by decide +kernel
theorem d10_takesTest_8 : decode c10_takesTest 8 = .ok (.if_icmp .eq 11, 3) := by decide +kernel
theorem d10_takesTest_11 : decode c10_takesTest 11 = .ok (.iload_n 1, 1) := by decide +kernel
theorem d10_takesTest_12 : decode c10_takesTest 12 = .ok (.bipush 119, 2) := by decide +kernel
theorem d10_takesTest_14 : decode c10_takesTest 14 = .ok (.if_icmp .eq 5, 3) := by decide +kernel
theorem d10_takesTest_17 : decode c10_takesTest 17 = .ok (.iconst 0, 1) := by decide +kernel
theorem d10_takesTest_18 : decode c10_takesTest 18 = .ok (.ireturn, 1) := by decide +kernel
theorem d10_takesTest_19 : decode c10_takesTest 19 = .ok (.aload_n 0, 1) := by decide +kernel
theorem d10_takesTest_20 : decode c10_takesTest 20 = .ok (.dup, 1) := by decide +kernel
theorem d10_takesTest_21 : decode c10_takesTest 21 = .ok (.getfield 19, 3) := by decide +kernel
theorem d10_takesTest_24 : decode c10_takesTest 24 = .ok (.iconst 1, 1) := by decide +kernel
theorem d10_takesTest_25 : decode c10_takesTest 25 = .ok (.iadd, 1) := by decide +kernel
theorem d10_takesTest_26 : decode c10_takesTest 26 = .ok (.putfield 19, 3) := by decide +kernel
theorem d10_takesTest_29 : decode c10_takesTest 29 = .ok (.aload_n 0, 1) := by decide +kernel
theorem d10_takesTest_30 : decode c10_takesTest 30 = .ok (.invokevirtual 223, 3) := by decide +kernel
theorem d10_takesTest_33 : decode c10_takesTest 33 = .ok (.istore_n 2, 1) := by decide +kernel
theorem d10_takesTest_34 : decode c10_takesTest 34 = .ok (.aload_n 0, 1) := by decide +kernel
theorem d10_takesTest_35 : decode c10_takesTest 35 = .ok (.iload_n 2, 1) := by decide +kernel
theorem d10_takesTest_36 : decode c10_takesTest 36 = .ok (.bipush 60, 2) := by decide +kernel
theorem d10_takesTest_38 : decode c10_takesTest 38 = .ok (.bipush 62, 2) := by decide +kernel
theorem d10_takesTest_40 : decode c10_takesTest 40 = .ok (.invokevirtual 219, 3) := by decide +kernel
theorem d10_takesTest_43 : decode c10_takesTest 43 = .ok (.ifCond .ne 5, 3) := by decide +kernel
theorem d10_takesTest_46 : decode c10_takesTest 46 = .ok (.iconst 0, 1) := by decide +kernel
theorem d10_takesTest_47 : decode c10_takesTest 47 = .ok (.ireturn, 1) := by decide +kernel
theorem d10_takesTest_48 : decode c10_takesTest 48 = .ok (.aload_n 0, 1) := by decide +kernel
theorem d10_takesTest_49 : decode c10_takesTest 49 = .ok (.dup, 1) := by decide +kernel
theorem d10_takesTest_50 : decode c10_takesTest 50 = .ok (.getfield 19, 3) := by decide +kernel
theorem d10_takesTest_53 : decode c10_takesTest 53 = .ok (.iconst 1, 1) := by decide +kernel
theorem d10_takesTest_54 : decode c10_takesTest 54 = .ok (.iadd, 1) := by decide +kernel
theorem d10_takesTest_55 : decode c10_takesTest 55 = .ok (.putfield 19, 3) := by decide +kernel
theorem d10_takesTest_58 : decode c10_takesTest 58 = .ok (.aload_n 0, 1) := by decide +kernel
theorem d10_takesTest_59 : decode c10_takesTest 59 = .ok (.iconst 2, 1) := by decide +kernel
theorem d10_takesTest_60 : decode c10_takesTest 60 = .ok (.invokevirtual 239, 3) := by decide +kernel
theorem d10_takesTest_63 : decode c10_takesTest 63 = .ok (.ifCond .ne 5, 3) := by decide +kernel
theorem d10_takesTest_66 : decode c10_takesTest 66 = .ok (.iconst 0, 1) := by decide +kernel
theorem d10_takesTest_67 : decode c10_takesTest 67 = .ok (.ireturn, 1) := by decide +kernel
theorem d10_takesTest_68 : decode c10_takesTest 68 = .ok (.aload_n 0, 1) := by decide +kernel
theorem d10_takesTest_69 : decode c10_takesTest 69 = .ok (.iload_n 1, 1) := by decide +kernel
theorem d10_takesTest_70 : decode c10_takesTest 70 = .ok (.bipush 115, 2) := by decide +kernel
theorem d10_takesTest_72 : decode c10_takesTest 72 = .ok (.if_icmp .ne 7, 3) := by decide +kernel
theorem d10_takesTest_75 : decode c10_takesTest 75 = .ok (.iconst 0, 1) := by decide +kernel
theorem d10_takesTest_76 : decode c10_takesTest 76 = .ok (.goto 6, 3) := by decide +kernel
theorem d10_takesTest_79 : decode c10_takesTest 79 = .ok (.sipush 10000, 3) := by decide +kernel
theorem d10_takesTest_82 : decode c10_takesTest 82 = .ok (.bipush 100, 2) := by decide +kernel
theorem d10_takesTest_84 : decode c10_takesTest 84 = .ok (.iload_n 2, 1) := by decide +kernel
theorem d10_takesTest_85 : decode c10_takesTest 85 = .ok (.bipush 60, 2) := by decide +kernel
theorem d10_takesTest_87 : decode c10_takesTest 87 = .ok (.isub, 1) := by decide +kernel
theorem d10_takesTest_88 : decode c10_takesTest 88 = .ok (.imul, 1) := by decide +kernel
theorem d10_takesTest_89 : decode c10_takesTest 89 = .ok (.iadd, 1) := by decide +kernel
theorem d10_takesTest_90 : decode c10_takesTest 90 = .ok (.aload_n 0, 1) := by decide +kernel
theorem d10_takesTest_91 : decode c10_takesTest 91 = .ok (.getfield 22, 3) := by decide +kernel
theorem d10_takesTest_94 : decode c10_takesTest 94 = .ok (.iadd, 1) := by decide +kernel
theorem d10_takesTest_95 : decode c10_takesTest 95 = .ok (.invokevirtual 235, 3) := by decide +kernel
theorem d10_takesTest_98 : decode c10_takesTest 98 = .ok (.aload_n 0, 1) := by decide +kernel
theorem d10_takesTest_99 : decode c10_takesTest 99 = .ok (.invokevirtual 242, 3) := by decide +kernel
theorem d10_takesTest_102 : decode c10_takesTest 102 = .ok (.iconst 1, 1) := by decide +kernel
theorem d10_takesTest_103 : decode c10_takesTest 103 = .ok (.ireturn, 1) := by decide +kernel
theorem mw10_takesTest : MV y10_takesTest c10_takesTest 3 (some .boolean) 0 := ⟨cd10_takesTest, ini10, na10_takesTest, im10_takesTest, se10_takesTest⟩
set_option maxHeartbeats 4000000 in
set_option maxRecDepth 100000 in
theorem k10_takesTest (l : Launch) (E : En) (mo : Nat) (ad : Nat → Nat) (S : Nat → Int) (tx : Int → Int) (sg : Int → Int) (wt : Int → Int) (σ : List Fr) (a : Int) (bb : Int) (htx : ∀ j, 0 ≤ j → j < 100 → -128 ≤ tx j ∧ tx j ≤ 127) (hfd : 0 ≤ S 2 ∧ S 2 ≤ 100) (hat : 0 ≤ S 3 ∧ S 3 ≤ S 2) (hW : Wnt sg wt a σ (S 17) (S 16) (S 18)) (hsg : ∀ j, 0 ≤ j → j < 400 → -200 ≤ sg j ∧ sg j ≤ 20000) (hwb : ∀ j, 0 ≤ j → j < 101 → 0 ≤ wt j ∧ wt j ≤ 200) (hB : 0 ≤ bb ∧ bb ≤ 300) (hc : S 16 + S 17 ≤ bb + S 3 ∧ 0 ≤ S 16 ∧ 0 ≤ S 17 ∧ S 17 ≤ S 3) : Cm l E y10_takesTest c10_takesTest 3 (some .boolean) { frames := 3, cells := 0, slots := 0, locals := 65 } [.ref mo] [(mo, mO ad S), (ad 5, aInt E 100 tx), (ad 14, aInt E 400 sg), (ad 15, aInt E 101 wt)] (fun r ws => ∃ (v : Int), ∃ (sg1 : Int → Int), ∃ (at1 : Int), ∃ (dg1 : Int), ∃ (w1 : Int), ∃ (e1 : Int), ∃ (o1 : Int), r = some (.int (iZ v)) ∧ ws = [(mo, mO ad (upS (upS (upS (upS (upS S 3 at1) 4 dg1) 17 w1) 16 e1) 18 o1)), (ad 5, aInt E 100 tx), (ad 14, aInt E 400 sg1), (ad 15, aInt E 101 wt)] ∧ (((tsOk tx (S 2) (S 3) ∧ at1 = nbP tx (S 2) 2 (S 3 + 2) ∧ (at1 ≤ S 2 ∧ S 3 + 2 < at1) ∧ Hav sg1 wt a (whl σ (tsB tx (S 2) (S 3))).1 (whl σ (tsB tx (S 2) (S 3))).2 w1 e1 o1 ∧ (e1 + w1 = S 16 + S 17 + 1 ∧ w1 ≤ S 17 ∧ 0 ≤ w1 ∧ S 16 ≤ e1) ∧ ((∀ j, 0 ≤ j → j < 400 → -200 ≤ sg1 j ∧ sg1 j ≤ 20000) ∧ ∀ j, j < S 16 → sg1 j = sg j)) ∧ v = 1) ∨ ((¬ tsOk tx (S 2) (S 3) ∧ at1 = tsF tx (S 2) (S 3) ∧ (at1 ≤ S 2 ∧ S 3 ≤ at1) ∧ (e1 = S 16 ∧ w1 = S 17 ∧ o1 = S 18) ∧ ((∀ j, 0 ≤ j → j < 400 → -200 ≤ sg1 j ∧ sg1 j ≤ 20000) ∧ ∀ j, j < S 16 → sg1 j = sg j)) ∧ v = 0))) := by
  refine Cm.of (by decide +kernel) (Nat.le_of_ble_eq_true rfl) (fun Γ A hl hargs hin G F => ?_)
  subst hl
  refine j_aload_n G 0 rfl d10_takesTest_0 ?_
  refine j_VP G (k10_next (xl Γ) E mo ad S tx (by first | assumption | omega | (simp only [upS, reduceIte, Nat.reduceEqDiff, eq_self, List.length_cons, List.length_nil, List.length_append] <;> omega)) (by first | assumption | omega | (simp only [upS, reduceIte, Nat.reduceEqDiff, eq_self, List.length_cons, List.length_nil, List.length_append] <;> omega)) (by first | assumption | omega | (simp only [upS, reduceIte, Nat.reduceEqDiff, eq_self, List.length_cons, List.length_nil, List.length_append] <;> omega))) mw10_next ml10_223 [0, 1] rfl 0 10 rfl rfl rfl ⟨Nat.le_of_ble_eq_true rfl, Nat.le_of_ble_eq_true rfl⟩ rfl (rest := []) rfl (Nat.le_of_ble_eq_true rfl) d10_takesTest_1 ⟨Nat.le_of_ble_eq_true rfl, Nat.le_of_ble_eq_true rfl⟩ (fun r hr => ?_)
  obtain ⟨v2, rfl, ⟨hq1_0, hq1_1, hq1_2⟩⟩ := hr
  have hc1 := hq1_0
  have hc2 := hq1_1
  have hc3 := hq1_2
  refine j_istore_n G d10_takesTest_4 (by decide) rfl ?_
  refine j_iload_n G 0 rfl d10_takesTest_5 ?_
  refine j_bipush G d10_takesTest_6 rfl ?_
  refine j_icmp_eq (tgt := 19) G d10_takesTest_8 (by decide) (by omega) (by decide) (fun h3 => ?_) (fun h3 => ?_)
  ·
    refine j_aload_n G 1 rfl d10_takesTest_19 ?_
    refine j_dup G d10_takesTest_20 rfl ?_
    refine j_get G 0 10 3 in10 fl10_19 d10_takesTest_21 rfl rfl (by decide) (v := .int (iZ (S 3))) rfl rfl ?_
    refine j_iconst G d10_takesTest_24 ?_
    refine j_iadd G d10_takesTest_25 ?_
    refine j_put G 0 10 3 in10 tyok10 nm10 fl10_19 d10_takesTest_26 rfl rfl (by decide) ⟨rfl, rfl⟩ rfl rfl (Nat.le_of_ble_eq_true rfl) (e := mO ad (upS S 3 ((S 3) + 1))) rfl ?_
    refine j_aload_n G 1 rfl d10_takesTest_29 ?_
    refine j_VP G (k10_next (xl Γ) E mo ad (upS S 3 ((S 3) + 1)) tx (by first | assumption | omega | (simp only [upS, reduceIte, Nat.reduceEqDiff, eq_self, List.length_cons, List.length_nil, List.length_append] <;> omega)) (by first | assumption | omega | (simp only [upS, reduceIte, Nat.reduceEqDiff, eq_self, List.length_cons, List.length_nil, List.length_append] <;> omega)) (by first | assumption | omega | (simp only [upS, reduceIte, Nat.reduceEqDiff, eq_self, List.length_cons, List.length_nil, List.length_append] <;> omega))) mw10_next ml10_223 [0, 1] rfl 0 10 rfl rfl rfl ⟨Nat.le_of_ble_eq_true rfl, Nat.le_of_ble_eq_true rfl⟩ rfl (rest := []) rfl (Nat.le_of_ble_eq_true rfl) d10_takesTest_30 ⟨Nat.le_of_ble_eq_true rfl, Nat.le_of_ble_eq_true rfl⟩ (fun r hr => ?_)
    obtain ⟨v5, rfl, ⟨hq4_0, hq4_1, hq4_2⟩⟩ := hr
    try simp only [upS, reduceIte, Nat.reduceEqDiff, eq_self] at hq4_0 hq4_1 hq4_2
    have hr1 := hq4_0
    have hr2 := hq4_1
    have hr3 := hq4_2
    refine j_istore_n G d10_takesTest_33 (by decide) rfl ?_
    refine j_aload_n G 2 rfl d10_takesTest_34 ?_
    refine j_iload_n G 0 rfl d10_takesTest_35 ?_
    refine j_bipush G d10_takesTest_36 rfl ?_
    refine j_bipush G d10_takesTest_38 rfl ?_
    refine j_VP G (k10_in (xl Γ) E mo v5 60 62 (by first | assumption | omega | (simp only [upS, reduceIte, Nat.reduceEqDiff, eq_self, List.length_cons, List.length_nil, List.length_append] <;> omega)) (by first | assumption | omega | (simp only [upS, reduceIte, Nat.reduceEqDiff, eq_self, List.length_cons, List.length_nil, List.length_append] <;> omega)) (by first | assumption | omega | (simp only [upS, reduceIte, Nat.reduceEqDiff, eq_self, List.length_cons, List.length_nil, List.length_append] <;> omega))) mw10_in ml10_219 [] rfl 0 10 rfl rfl rfl ⟨Nat.le_of_ble_eq_true rfl, Nat.le_of_ble_eq_true rfl⟩ rfl (rest := []) rfl (Nat.le_of_ble_eq_true rfl) d10_takesTest_40 ⟨Nat.le_of_ble_eq_true rfl, Nat.le_of_ble_eq_true rfl⟩ (fun r hr => ?_)
    obtain ⟨v7, rfl, hq6⟩ := hr
    rcases hq6 with ⟨hq6, rfl⟩ | ⟨hq6, rfl⟩
    ·
      refine j_if_ne (tgt := 48) G d10_takesTest_43 (by decide) (by decide) (fun h8 => ?_) (fun h8 => absurd h8 (by decide))
      refine j_aload_n G 2 rfl d10_takesTest_48 ?_
      refine j_dup G d10_takesTest_49 rfl ?_
      refine j_get G 0 10 3 in10 fl10_19 d10_takesTest_50 rfl rfl (by decide) (v := .int (iZ ((S 3) + 1))) rfl rfl ?_
      refine j_iconst G d10_takesTest_53 ?_
      refine j_iadd G d10_takesTest_54 ?_
      refine j_put G 0 10 3 in10 tyok10 nm10 fl10_19 d10_takesTest_55 rfl rfl (by decide) ⟨rfl, rfl⟩ rfl rfl (Nat.le_of_ble_eq_true rfl) (e := mO ad (upS S 3 (((S 3) + 1) + 1))) rfl ?_
      refine j_aload_n G 2 rfl d10_takesTest_58 ?_
      refine j_iconst G d10_takesTest_59 ?_
      refine j_VM G (rm' := { frames := 2, cells := 0, slots := 0, locals := 43 }) (wc := [(mo, mO ad (upS S 3 (((S 3) + 1) + 1))), (ad 5, aInt E 100 tx)]) (wr := [(ad 14, aInt E 400 sg), (ad 15, aInt E 101 wt)]) (k10_takesNumber (xl Γ) E mo ad (upS S 3 (((S 3) + 1) + 1)) tx 2 (by first | assumption | omega | (simp only [upS, reduceIte, Nat.reduceEqDiff, eq_self, List.length_cons, List.length_nil, List.length_append] <;> omega)) (by first | assumption | omega | (simp only [upS, reduceIte, Nat.reduceEqDiff, eq_self, List.length_cons, List.length_nil, List.length_append] <;> omega)) (by first | assumption | omega | (simp only [upS, reduceIte, Nat.reduceEqDiff, eq_self, List.length_cons, List.length_nil, List.length_append] <;> omega)) (by first | assumption | omega | (simp only [upS, reduceIte, Nat.reduceEqDiff, eq_self, List.length_cons, List.length_nil, List.length_append] <;> omega))) mw10_takesNumber ml10_239 [0, 1] [2, 3] rfl rfl ⟨rfl, rfl⟩ (by decide) 0 10 rfl rfl rfl ⟨Nat.le_of_ble_eq_true rfl, Nat.le_of_ble_eq_true rfl⟩ rfl (rest := []) rfl (Nat.le_of_ble_eq_true rfl) d10_takesTest_60 ⟨Nat.le_of_ble_eq_true rfl, Nat.le_of_ble_eq_true rfl⟩ (fun r w1 hr => ?_)
      obtain ⟨v10, at1_11, dg1_12, rfl, rfl, hq9⟩ := hr
      refine j_eq (ws' := [(ad 14, aInt E 400 sg), (ad 15, aInt E 101 wt), (mo, mO ad (upS (upS S 3 at1_11) 4 dg1_12)), (ad 5, aInt E 100 tx)]) rfl rfl rfl ?_
      try simp only [upS, reduceIte, Nat.reduceEqDiff, eq_self] at hq9
      rcases hq9 with ⟨hq9, rfl⟩ | ⟨hq9, rfl⟩
      ·
        refine j_if_ne (tgt := 68) G d10_takesTest_63 (by decide) (by decide) (fun h13 => ?_) (fun h13 => absurd h13 (by decide))
        simp only [show S 3 + 1 + 1 = S 3 + 2 from by omega, show Int.toNat 2 = 2 from rfl] at *
        have hnv := nbV_r2 (U := tx) (n := S 2) (p := S 3 + 2)
        refine j_aload_n G 2 rfl d10_takesTest_68 ?_
        refine j_iload_n G 1 rfl d10_takesTest_69 ?_
        refine j_bipush G d10_takesTest_70 rfl ?_
        have mg72 : ∀ x14 : Int, x14 = (if v2 ≠ 115 then 10000 else 0) → J E 3 Γ (some A) 0 0 [(ad 14, aInt E 400 sg), (ad 15, aInt E 101 wt), (mo, mO ad (upS (upS S 3 at1_11) 4 dg1_12)), (ad 5, aInt E 100 tx)] 82 [(2, .int (iZ v5)), (1, .int (iZ v2)), (0, .ref mo)] ([.int (iZ x14), .ref mo]) := by
          intro x14 ex14
          refine j_bipush G d10_takesTest_82 rfl ?_
          refine j_iload_n G 0 rfl d10_takesTest_84 ?_
          refine j_bipush G d10_takesTest_85 rfl ?_
          refine j_isub G d10_takesTest_87 ?_
          refine j_imul G d10_takesTest_88 ?_
          refine j_iadd G d10_takesTest_89 ?_
          refine j_aload_n G 2 rfl d10_takesTest_90 ?_
          refine j_get G 2 10 4 in10 fl10_22 d10_takesTest_91 rfl rfl (by decide) (v := .int (iZ dg1_12)) rfl rfl ?_
          refine j_iadd G d10_takesTest_94 ?_
          refine j_nm (fun tt ett => ?_)
          have htt : tt = tsT tx (S 2) (S 3) := by unfold tsT; rw [ett, ← hc1, ← hr1]; omega
          have ht0 : 0 ≤ tt ∧ tt ≤ 20000 := by omega
          refine j_VM G (rm' := { frames := 0, cells := 0, slots := 0, locals := 0 }) (wc := [(mo, mO ad (upS (upS S 3 at1_11) 4 dg1_12)), (ad 14, aInt E 400 sg)]) (wr := [(ad 15, aInt E 101 wt), (ad 5, aInt E 100 tx)]) (k10_put (xl Γ) E mo ad (upS (upS S 3 at1_11) 4 dg1_12) sg tt (by first | assumption | omega | (simp only [upS, reduceIte, Nat.reduceEqDiff, eq_self, List.length_cons, List.length_nil, List.length_append] <;> omega))) mw10_put ml10_235 [2, 0] [1, 3] rfl rfl ⟨rfl, rfl⟩ (by decide) 2 10 rfl rfl rfl ⟨Nat.le_of_ble_eq_true rfl, Nat.le_of_ble_eq_true rfl⟩ rfl (rest := []) rfl (Nat.le_of_ble_eq_true rfl) d10_takesTest_95 ⟨Nat.le_of_ble_eq_true rfl, Nat.le_of_ble_eq_true rfl⟩ (fun r w1 hr => ?_)
          obtain ⟨sg1_16, rfl, rfl, rfl, hq15⟩ := hr
          refine j_eq (ws' := [(ad 15, aInt E 101 wt), (ad 5, aInt E 100 tx), (mo, mO ad (upS (upS (upS S 3 at1_11) 4 dg1_12) 16 ((S 16) + 1))), (ad 14, aInt E 400 (upI sg ((S 16)) tt))]) rfl rfl rfl ?_
          try simp only [upS, reduceIte, Nat.reduceEqDiff, eq_self] at hq15
          have hH1 : Hav (upI sg (S 16) tt) wt a σ (tsB tx (S 2) (S 3)) (S 17) (S 16 + 1) (S 18) := by have q := hav_test hW ht0.1; rw [htt] at q ⊢; exact q
          have hsg1 : ∀ j, 0 ≤ j → j < 400 → -200 ≤ (upI sg (S 16) tt) j ∧ (upI sg (S 16) tt) j ≤ 20000 := (fun j h1 h2 => if hj : j = S 16 then (by unfold upI; rw [if_pos hj]; omega) else (by unfold upI; rw [if_neg hj]; exact hsg j h1 h2))
          refine j_aload_n G 2 rfl d10_takesTest_98 ?_
          refine j_VM G (rm' := { frames := 1, cells := 0, slots := 0, locals := 21 }) (wc := [(mo, mO ad (upS (upS (upS S 3 at1_11) 4 dg1_12) 16 ((S 16) + 1))), (ad 14, aInt E 400 (upI sg ((S 16)) tt)), (ad 15, aInt E 101 wt)]) (wr := [(ad 5, aInt E 100 tx)]) (k10_whole (xl Γ) E mo ad (upS (upS (upS S 3 at1_11) 4 dg1_12) 16 ((S 16) + 1)) (upI sg ((S 16)) tt) wt σ (tsB tx (S 2) (S 3)) a (by first | assumption | omega | (simp only [upS, reduceIte, Nat.reduceEqDiff, eq_self, List.length_cons, List.length_nil, List.length_append] <;> omega)) (by first | assumption | omega | (simp only [upS, reduceIte, Nat.reduceEqDiff, eq_self, List.length_cons, List.length_nil, List.length_append] <;> omega)) (by first | assumption | omega | (simp only [upS, reduceIte, Nat.reduceEqDiff, eq_self, List.length_cons, List.length_nil, List.length_append] <;> omega)) (by first | assumption | omega | (simp only [upS, reduceIte, Nat.reduceEqDiff, eq_self, List.length_cons, List.length_nil, List.length_append] <;> omega))) mw10_whole ml10_242 [2, 3, 0] [1] rfl rfl ⟨rfl, rfl⟩ (by decide) 2 10 rfl rfl rfl ⟨Nat.le_of_ble_eq_true rfl, Nat.le_of_ble_eq_true rfl⟩ rfl (rest := []) rfl (Nat.le_of_ble_eq_true rfl) d10_takesTest_99 ⟨Nat.le_of_ble_eq_true rfl, Nat.le_of_ble_eq_true rfl⟩ (fun r w1 hr => ?_)
          obtain ⟨sg1_18, w1_19, e1_20, o1_21, rfl, rfl, ⟨hq17_0, hq17_1, hq17_2, hq17_3⟩⟩ := hr
          refine j_eq (ws' := [(ad 5, aInt E 100 tx), (mo, mO ad (upS (upS (upS (upS (upS S 3 at1_11) 4 dg1_12) 17 w1_19) 16 e1_20) 18 o1_21)), (ad 14, aInt E 400 sg1_18), (ad 15, aInt E 101 wt)]) rfl rfl rfl ?_
          try simp only [upS, reduceIte, Nat.reduceEqDiff, eq_self] at hq17_0 hq17_1 hq17_2 hq17_3
          have hf0 := hq17_0
          have hf1 := hq17_1
          have hf2 := hq17_2
          have hf3 := hq17_3
          refine j_iconst G d10_takesTest_102 ?_
          refine j_perm (ws' := [(mo, mO ad (upS (upS (upS (upS (upS S 3 at1_11) 4 dg1_12) 17 w1_19) 16 e1_20) 18 o1_21)), (ad 5, aInt E 100 tx), (ad 14, aInt E 400 sg1_18), (ad 15, aInt E 101 wt)]) [1, 0, 2, 3] rfl rfl rfl ?_
          exact j_zret G F d10_takesTest_103 (by decide) ⟨1, sg1_18, at1_11, dg1_12, w1_19, e1_20, o1_21, rfl, rfl, (by first | (right; refine ⟨⟨fun q => (by have q1 := q.1; omega), (by unfold tsF; (repeat' split) <;> omega), ⟨by omega, by omega⟩, ⟨rfl, rfl, rfl⟩, hsg, fun _ _ => rfl⟩, rfl⟩; done) | (left; exact ⟨⟨⟨by omega, by omega, by omega⟩, by omega, ⟨by omega, by omega⟩, hf0, ⟨by omega, by omega, by omega, by omega⟩, hf2, fun j h => (by rw [hf3 j (by omega), upI_ne (by omega)])⟩, rfl⟩))⟩
        refine j_icmp_ne (tgt := 79) G d10_takesTest_72 (by decide) (by omega) (by decide) (fun h22 => ?_) (fun h22 => ?_)
        ·
          refine j_sipush G d10_takesTest_79 rfl ?_
          refine j_eq (ws' := [(ad 14, aInt E 400 sg), (ad 15, aInt E 101 wt), (mo, mO ad (upS (upS S 3 at1_11) 4 dg1_12)), (ad 5, aInt E 100 tx)]) (ls' := [(2, .int (iZ v5)), (1, .int (iZ v2)), (0, .ref mo)]) rfl rfl rfl ?_
          exact mg72 _ (by first | rfl | (simp only [*, if_true, if_false, ite_true, ite_false]; done) | (split <;> first | rfl | omega | (split <;> first | rfl | omega | (split <;> first | rfl | omega))))
        ·
          refine j_iconst G d10_takesTest_75 ?_
          refine j_goto (tgt := 82) G d10_takesTest_76 (by decide) ?_
          refine j_eq (ws' := [(ad 14, aInt E 400 sg), (ad 15, aInt E 101 wt), (mo, mO ad (upS (upS S 3 at1_11) 4 dg1_12)), (ad 5, aInt E 100 tx)]) (ls' := [(2, .int (iZ v5)), (1, .int (iZ v2)), (0, .ref mo)]) rfl rfl rfl ?_
          exact mg72 _ (by first | rfl | (simp only [*, if_true, if_false, ite_true, ite_false]; done) | (split <;> first | rfl | omega | (split <;> first | rfl | omega | (split <;> first | rfl | omega))))
      ·
        refine j_if_ne (tgt := 68) G d10_takesTest_63 (by decide) (by decide) (fun h23 => absurd h23 (by decide)) (fun h23 => ?_)
        simp only [show S 3 + 1 + 1 = S 3 + 2 from by omega, show Int.toNat 2 = 2 from rfl] at *
        refine j_iconst G d10_takesTest_66 ?_
        refine j_perm (ws' := [(mo, mO ad (upS (upS S 3 at1_11) 4 dg1_12)), (ad 5, aInt E 100 tx), (ad 14, aInt E 400 sg), (ad 15, aInt E 101 wt)]) [2, 3, 0, 1] rfl rfl rfl ?_
        exact j_zret G F d10_takesTest_67 (by decide) ⟨0, sg, at1_11, dg1_12, (S 17), (S 16), (S 18), rfl, rfl, (by first | (right; refine ⟨⟨fun q => (by have q1 := q.1; omega), (by unfold tsF; (repeat' split) <;> omega), ⟨by omega, by omega⟩, ⟨rfl, rfl, rfl⟩, hsg, fun _ _ => rfl⟩, rfl⟩; done) | (left; exact ⟨⟨⟨by omega, by omega, by omega⟩, by omega, ⟨by omega, by omega⟩, hf0, ⟨by omega, by omega, by omega, by omega⟩, hf2, fun j h => (by rw [hf3 j (by omega), upI_ne (by omega)])⟩, rfl⟩))⟩
    ·
      refine j_if_ne (tgt := 48) G d10_takesTest_43 (by decide) (by decide) (fun h24 => absurd h24 (by decide)) (fun h24 => ?_)
      refine j_iconst G d10_takesTest_46 ?_
      exact j_zret G F d10_takesTest_47 (by decide) ⟨0, sg, ((S 3) + 1), (S 4), (S 17), (S 16), (S 18), rfl, rfl, (by first | (right; refine ⟨⟨fun q => (by have q1 := q.1; omega), (by unfold tsF; (repeat' split) <;> omega), ⟨by omega, by omega⟩, ⟨rfl, rfl, rfl⟩, hsg, fun _ _ => rfl⟩, rfl⟩; done) | (left; exact ⟨⟨⟨by omega, by omega, by omega⟩, by omega, ⟨by omega, by omega⟩, hf0, ⟨by omega, by omega, by omega, by omega⟩, hf2, fun j h => (by rw [hf3 j (by omega), upI_ne (by omega)])⟩, rfl⟩))⟩
  ·
    refine j_iload_n G 0 rfl d10_takesTest_11 ?_
    refine j_bipush G d10_takesTest_12 rfl ?_
    refine j_icmp_eq (tgt := 19) G d10_takesTest_14 (by decide) (by omega) (by decide) (fun h25 => ?_) (fun h25 => ?_)
    ·
      refine j_aload_n G 1 rfl d10_takesTest_19 ?_
      refine j_dup G d10_takesTest_20 rfl ?_
      refine j_get G 0 10 3 in10 fl10_19 d10_takesTest_21 rfl rfl (by decide) (v := .int (iZ (S 3))) rfl rfl ?_
      refine j_iconst G d10_takesTest_24 ?_
      refine j_iadd G d10_takesTest_25 ?_
      refine j_put G 0 10 3 in10 tyok10 nm10 fl10_19 d10_takesTest_26 rfl rfl (by decide) ⟨rfl, rfl⟩ rfl rfl (Nat.le_of_ble_eq_true rfl) (e := mO ad (upS S 3 ((S 3) + 1))) rfl ?_
      refine j_aload_n G 1 rfl d10_takesTest_29 ?_
      refine j_VP G (k10_next (xl Γ) E mo ad (upS S 3 ((S 3) + 1)) tx (by first | assumption | omega | (simp only [upS, reduceIte, Nat.reduceEqDiff, eq_self, List.length_cons, List.length_nil, List.length_append] <;> omega)) (by first | assumption | omega | (simp only [upS, reduceIte, Nat.reduceEqDiff, eq_self, List.length_cons, List.length_nil, List.length_append] <;> omega)) (by first | assumption | omega | (simp only [upS, reduceIte, Nat.reduceEqDiff, eq_self, List.length_cons, List.length_nil, List.length_append] <;> omega))) mw10_next ml10_223 [0, 1] rfl 0 10 rfl rfl rfl ⟨Nat.le_of_ble_eq_true rfl, Nat.le_of_ble_eq_true rfl⟩ rfl (rest := []) rfl (Nat.le_of_ble_eq_true rfl) d10_takesTest_30 ⟨Nat.le_of_ble_eq_true rfl, Nat.le_of_ble_eq_true rfl⟩ (fun r hr => ?_)
      obtain ⟨v27, rfl, ⟨hq26_0, hq26_1, hq26_2⟩⟩ := hr
      try simp only [upS, reduceIte, Nat.reduceEqDiff, eq_self] at hq26_0 hq26_1 hq26_2
      have hr1 := hq26_0
      have hr2 := hq26_1
      have hr3 := hq26_2
      refine j_istore_n G d10_takesTest_33 (by decide) rfl ?_
      refine j_aload_n G 2 rfl d10_takesTest_34 ?_
      refine j_iload_n G 0 rfl d10_takesTest_35 ?_
      refine j_bipush G d10_takesTest_36 rfl ?_
      refine j_bipush G d10_takesTest_38 rfl ?_
      refine j_VP G (k10_in (xl Γ) E mo v27 60 62 (by first | assumption | omega | (simp only [upS, reduceIte, Nat.reduceEqDiff, eq_self, List.length_cons, List.length_nil, List.length_append] <;> omega)) (by first | assumption | omega | (simp only [upS, reduceIte, Nat.reduceEqDiff, eq_self, List.length_cons, List.length_nil, List.length_append] <;> omega)) (by first | assumption | omega | (simp only [upS, reduceIte, Nat.reduceEqDiff, eq_self, List.length_cons, List.length_nil, List.length_append] <;> omega))) mw10_in ml10_219 [] rfl 0 10 rfl rfl rfl ⟨Nat.le_of_ble_eq_true rfl, Nat.le_of_ble_eq_true rfl⟩ rfl (rest := []) rfl (Nat.le_of_ble_eq_true rfl) d10_takesTest_40 ⟨Nat.le_of_ble_eq_true rfl, Nat.le_of_ble_eq_true rfl⟩ (fun r hr => ?_)
      obtain ⟨v29, rfl, hq28⟩ := hr
      rcases hq28 with ⟨hq28, rfl⟩ | ⟨hq28, rfl⟩
      ·
        refine j_if_ne (tgt := 48) G d10_takesTest_43 (by decide) (by decide) (fun h30 => ?_) (fun h30 => absurd h30 (by decide))
        refine j_aload_n G 2 rfl d10_takesTest_48 ?_
        refine j_dup G d10_takesTest_49 rfl ?_
        refine j_get G 0 10 3 in10 fl10_19 d10_takesTest_50 rfl rfl (by decide) (v := .int (iZ ((S 3) + 1))) rfl rfl ?_
        refine j_iconst G d10_takesTest_53 ?_
        refine j_iadd G d10_takesTest_54 ?_
        refine j_put G 0 10 3 in10 tyok10 nm10 fl10_19 d10_takesTest_55 rfl rfl (by decide) ⟨rfl, rfl⟩ rfl rfl (Nat.le_of_ble_eq_true rfl) (e := mO ad (upS S 3 (((S 3) + 1) + 1))) rfl ?_
        refine j_aload_n G 2 rfl d10_takesTest_58 ?_
        refine j_iconst G d10_takesTest_59 ?_
        refine j_VM G (rm' := { frames := 2, cells := 0, slots := 0, locals := 43 }) (wc := [(mo, mO ad (upS S 3 (((S 3) + 1) + 1))), (ad 5, aInt E 100 tx)]) (wr := [(ad 14, aInt E 400 sg), (ad 15, aInt E 101 wt)]) (k10_takesNumber (xl Γ) E mo ad (upS S 3 (((S 3) + 1) + 1)) tx 2 (by first | assumption | omega | (simp only [upS, reduceIte, Nat.reduceEqDiff, eq_self, List.length_cons, List.length_nil, List.length_append] <;> omega)) (by first | assumption | omega | (simp only [upS, reduceIte, Nat.reduceEqDiff, eq_self, List.length_cons, List.length_nil, List.length_append] <;> omega)) (by first | assumption | omega | (simp only [upS, reduceIte, Nat.reduceEqDiff, eq_self, List.length_cons, List.length_nil, List.length_append] <;> omega)) (by first | assumption | omega | (simp only [upS, reduceIte, Nat.reduceEqDiff, eq_self, List.length_cons, List.length_nil, List.length_append] <;> omega))) mw10_takesNumber ml10_239 [0, 1] [2, 3] rfl rfl ⟨rfl, rfl⟩ (by decide) 0 10 rfl rfl rfl ⟨Nat.le_of_ble_eq_true rfl, Nat.le_of_ble_eq_true rfl⟩ rfl (rest := []) rfl (Nat.le_of_ble_eq_true rfl) d10_takesTest_60 ⟨Nat.le_of_ble_eq_true rfl, Nat.le_of_ble_eq_true rfl⟩ (fun r w1 hr => ?_)
        obtain ⟨v32, at1_33, dg1_34, rfl, rfl, hq31⟩ := hr
        refine j_eq (ws' := [(ad 14, aInt E 400 sg), (ad 15, aInt E 101 wt), (mo, mO ad (upS (upS S 3 at1_33) 4 dg1_34)), (ad 5, aInt E 100 tx)]) rfl rfl rfl ?_
        try simp only [upS, reduceIte, Nat.reduceEqDiff, eq_self] at hq31
        rcases hq31 with ⟨hq31, rfl⟩ | ⟨hq31, rfl⟩
        ·
          refine j_if_ne (tgt := 68) G d10_takesTest_63 (by decide) (by decide) (fun h35 => ?_) (fun h35 => absurd h35 (by decide))
          simp only [show S 3 + 1 + 1 = S 3 + 2 from by omega, show Int.toNat 2 = 2 from rfl] at *
          have hnv := nbV_r2 (U := tx) (n := S 2) (p := S 3 + 2)
          refine j_aload_n G 2 rfl d10_takesTest_68 ?_
          refine j_iload_n G 1 rfl d10_takesTest_69 ?_
          refine j_bipush G d10_takesTest_70 rfl ?_
          have mg72 : ∀ x36 : Int, x36 = (if v2 ≠ 115 then 10000 else 0) → J E 3 Γ (some A) 0 0 [(ad 14, aInt E 400 sg), (ad 15, aInt E 101 wt), (mo, mO ad (upS (upS S 3 at1_33) 4 dg1_34)), (ad 5, aInt E 100 tx)] 82 [(2, .int (iZ v27)), (1, .int (iZ v2)), (0, .ref mo)] ([.int (iZ x36), .ref mo]) := by
            intro x36 ex36
            refine j_bipush G d10_takesTest_82 rfl ?_
            refine j_iload_n G 0 rfl d10_takesTest_84 ?_
            refine j_bipush G d10_takesTest_85 rfl ?_
            refine j_isub G d10_takesTest_87 ?_
            refine j_imul G d10_takesTest_88 ?_
            refine j_iadd G d10_takesTest_89 ?_
            refine j_aload_n G 2 rfl d10_takesTest_90 ?_
            refine j_get G 2 10 4 in10 fl10_22 d10_takesTest_91 rfl rfl (by decide) (v := .int (iZ dg1_34)) rfl rfl ?_
            refine j_iadd G d10_takesTest_94 ?_
            refine j_nm (fun tt ett => ?_)
            have htt : tt = tsT tx (S 2) (S 3) := by unfold tsT; rw [ett, ← hc1, ← hr1]; omega
            have ht0 : 0 ≤ tt ∧ tt ≤ 20000 := by omega
            refine j_VM G (rm' := { frames := 0, cells := 0, slots := 0, locals := 0 }) (wc := [(mo, mO ad (upS (upS S 3 at1_33) 4 dg1_34)), (ad 14, aInt E 400 sg)]) (wr := [(ad 15, aInt E 101 wt), (ad 5, aInt E 100 tx)]) (k10_put (xl Γ) E mo ad (upS (upS S 3 at1_33) 4 dg1_34) sg tt (by first | assumption | omega | (simp only [upS, reduceIte, Nat.reduceEqDiff, eq_self, List.length_cons, List.length_nil, List.length_append] <;> omega))) mw10_put ml10_235 [2, 0] [1, 3] rfl rfl ⟨rfl, rfl⟩ (by decide) 2 10 rfl rfl rfl ⟨Nat.le_of_ble_eq_true rfl, Nat.le_of_ble_eq_true rfl⟩ rfl (rest := []) rfl (Nat.le_of_ble_eq_true rfl) d10_takesTest_95 ⟨Nat.le_of_ble_eq_true rfl, Nat.le_of_ble_eq_true rfl⟩ (fun r w1 hr => ?_)
            obtain ⟨sg1_38, rfl, rfl, rfl, hq37⟩ := hr
            refine j_eq (ws' := [(ad 15, aInt E 101 wt), (ad 5, aInt E 100 tx), (mo, mO ad (upS (upS (upS S 3 at1_33) 4 dg1_34) 16 ((S 16) + 1))), (ad 14, aInt E 400 (upI sg ((S 16)) tt))]) rfl rfl rfl ?_
            try simp only [upS, reduceIte, Nat.reduceEqDiff, eq_self] at hq37
            have hH1 : Hav (upI sg (S 16) tt) wt a σ (tsB tx (S 2) (S 3)) (S 17) (S 16 + 1) (S 18) := by have q := hav_test hW ht0.1; rw [htt] at q ⊢; exact q
            have hsg1 : ∀ j, 0 ≤ j → j < 400 → -200 ≤ (upI sg (S 16) tt) j ∧ (upI sg (S 16) tt) j ≤ 20000 := (fun j h1 h2 => if hj : j = S 16 then (by unfold upI; rw [if_pos hj]; omega) else (by unfold upI; rw [if_neg hj]; exact hsg j h1 h2))
            refine j_aload_n G 2 rfl d10_takesTest_98 ?_
            refine j_VM G (rm' := { frames := 1, cells := 0, slots := 0, locals := 21 }) (wc := [(mo, mO ad (upS (upS (upS S 3 at1_33) 4 dg1_34) 16 ((S 16) + 1))), (ad 14, aInt E 400 (upI sg ((S 16)) tt)), (ad 15, aInt E 101 wt)]) (wr := [(ad 5, aInt E 100 tx)]) (k10_whole (xl Γ) E mo ad (upS (upS (upS S 3 at1_33) 4 dg1_34) 16 ((S 16) + 1)) (upI sg ((S 16)) tt) wt σ (tsB tx (S 2) (S 3)) a (by first | assumption | omega | (simp only [upS, reduceIte, Nat.reduceEqDiff, eq_self, List.length_cons, List.length_nil, List.length_append] <;> omega)) (by first | assumption | omega | (simp only [upS, reduceIte, Nat.reduceEqDiff, eq_self, List.length_cons, List.length_nil, List.length_append] <;> omega)) (by first | assumption | omega | (simp only [upS, reduceIte, Nat.reduceEqDiff, eq_self, List.length_cons, List.length_nil, List.length_append] <;> omega)) (by first | assumption | omega | (simp only [upS, reduceIte, Nat.reduceEqDiff, eq_self, List.length_cons, List.length_nil, List.length_append] <;> omega))) mw10_whole ml10_242 [2, 3, 0] [1] rfl rfl ⟨rfl, rfl⟩ (by decide) 2 10 rfl rfl rfl ⟨Nat.le_of_ble_eq_true rfl, Nat.le_of_ble_eq_true rfl⟩ rfl (rest := []) rfl (Nat.le_of_ble_eq_true rfl) d10_takesTest_99 ⟨Nat.le_of_ble_eq_true rfl, Nat.le_of_ble_eq_true rfl⟩ (fun r w1 hr => ?_)
            obtain ⟨sg1_40, w1_41, e1_42, o1_43, rfl, rfl, ⟨hq39_0, hq39_1, hq39_2, hq39_3⟩⟩ := hr
            refine j_eq (ws' := [(ad 5, aInt E 100 tx), (mo, mO ad (upS (upS (upS (upS (upS S 3 at1_33) 4 dg1_34) 17 w1_41) 16 e1_42) 18 o1_43)), (ad 14, aInt E 400 sg1_40), (ad 15, aInt E 101 wt)]) rfl rfl rfl ?_
            try simp only [upS, reduceIte, Nat.reduceEqDiff, eq_self] at hq39_0 hq39_1 hq39_2 hq39_3
            have hf0 := hq39_0
            have hf1 := hq39_1
            have hf2 := hq39_2
            have hf3 := hq39_3
            refine j_iconst G d10_takesTest_102 ?_
            refine j_perm (ws' := [(mo, mO ad (upS (upS (upS (upS (upS S 3 at1_33) 4 dg1_34) 17 w1_41) 16 e1_42) 18 o1_43)), (ad 5, aInt E 100 tx), (ad 14, aInt E 400 sg1_40), (ad 15, aInt E 101 wt)]) [1, 0, 2, 3] rfl rfl rfl ?_
            exact j_zret G F d10_takesTest_103 (by decide) ⟨1, sg1_40, at1_33, dg1_34, w1_41, e1_42, o1_43, rfl, rfl, (by first | (right; refine ⟨⟨fun q => (by have q1 := q.1; omega), (by unfold tsF; (repeat' split) <;> omega), ⟨by omega, by omega⟩, ⟨rfl, rfl, rfl⟩, hsg, fun _ _ => rfl⟩, rfl⟩; done) | (left; exact ⟨⟨⟨by omega, by omega, by omega⟩, by omega, ⟨by omega, by omega⟩, hf0, ⟨by omega, by omega, by omega, by omega⟩, hf2, fun j h => (by rw [hf3 j (by omega), upI_ne (by omega)])⟩, rfl⟩))⟩
          refine j_icmp_ne (tgt := 79) G d10_takesTest_72 (by decide) (by omega) (by decide) (fun h44 => ?_) (fun h44 => ?_)
          ·
            refine j_sipush G d10_takesTest_79 rfl ?_
            refine j_eq (ws' := [(ad 14, aInt E 400 sg), (ad 15, aInt E 101 wt), (mo, mO ad (upS (upS S 3 at1_33) 4 dg1_34)), (ad 5, aInt E 100 tx)]) (ls' := [(2, .int (iZ v27)), (1, .int (iZ v2)), (0, .ref mo)]) rfl rfl rfl ?_
            exact mg72 _ (by first | rfl | (simp only [*, if_true, if_false, ite_true, ite_false]; done) | (split <;> first | rfl | omega | (split <;> first | rfl | omega | (split <;> first | rfl | omega))))
          ·
            refine j_iconst G d10_takesTest_75 ?_
            refine j_goto (tgt := 82) G d10_takesTest_76 (by decide) ?_
            refine j_eq (ws' := [(ad 14, aInt E 400 sg), (ad 15, aInt E 101 wt), (mo, mO ad (upS (upS S 3 at1_33) 4 dg1_34)), (ad 5, aInt E 100 tx)]) (ls' := [(2, .int (iZ v27)), (1, .int (iZ v2)), (0, .ref mo)]) rfl rfl rfl ?_
            exact mg72 _ (by first | rfl | (simp only [*, if_true, if_false, ite_true, ite_false]; done) | (split <;> first | rfl | omega | (split <;> first | rfl | omega | (split <;> first | rfl | omega))))
        ·
          refine j_if_ne (tgt := 68) G d10_takesTest_63 (by decide) (by decide) (fun h45 => absurd h45 (by decide)) (fun h45 => ?_)
          simp only [show S 3 + 1 + 1 = S 3 + 2 from by omega, show Int.toNat 2 = 2 from rfl] at *
          refine j_iconst G d10_takesTest_66 ?_
          refine j_perm (ws' := [(mo, mO ad (upS (upS S 3 at1_33) 4 dg1_34)), (ad 5, aInt E 100 tx), (ad 14, aInt E 400 sg), (ad 15, aInt E 101 wt)]) [2, 3, 0, 1] rfl rfl rfl ?_
          exact j_zret G F d10_takesTest_67 (by decide) ⟨0, sg, at1_33, dg1_34, (S 17), (S 16), (S 18), rfl, rfl, (by first | (right; refine ⟨⟨fun q => (by have q1 := q.1; omega), (by unfold tsF; (repeat' split) <;> omega), ⟨by omega, by omega⟩, ⟨rfl, rfl, rfl⟩, hsg, fun _ _ => rfl⟩, rfl⟩; done) | (left; exact ⟨⟨⟨by omega, by omega, by omega⟩, by omega, ⟨by omega, by omega⟩, hf0, ⟨by omega, by omega, by omega, by omega⟩, hf2, fun j h => (by rw [hf3 j (by omega), upI_ne (by omega)])⟩, rfl⟩))⟩
      ·
        refine j_if_ne (tgt := 48) G d10_takesTest_43 (by decide) (by decide) (fun h46 => absurd h46 (by decide)) (fun h46 => ?_)
        refine j_iconst G d10_takesTest_46 ?_
        exact j_zret G F d10_takesTest_47 (by decide) ⟨0, sg, ((S 3) + 1), (S 4), (S 17), (S 16), (S 18), rfl, rfl, (by first | (right; refine ⟨⟨fun q => (by have q1 := q.1; omega), (by unfold tsF; (repeat' split) <;> omega), ⟨by omega, by omega⟩, ⟨rfl, rfl, rfl⟩, hsg, fun _ _ => rfl⟩, rfl⟩; done) | (left; exact ⟨⟨⟨by omega, by omega, by omega⟩, by omega, ⟨by omega, by omega⟩, hf0, ⟨by omega, by omega, by omega, by omega⟩, hf2, fun j h => (by rw [hf3 j (by omega), upI_ne (by omega)])⟩, rfl⟩))⟩
    ·
      refine j_iconst G d10_takesTest_17 ?_
      exact j_zret G F d10_takesTest_18 (by decide) ⟨0, sg, (S 3), (S 4), (S 17), (S 16), (S 18), rfl, rfl, (by first | (right; refine ⟨⟨fun q => (by have q1 := q.1; omega), (by unfold tsF; (repeat' split) <;> omega), ⟨by omega, by omega⟩, ⟨rfl, rfl, rfl⟩, hsg, fun _ _ => rfl⟩, rfl⟩; done) | (left; exact ⟨⟨⟨by omega, by omega, by omega⟩, by omega, ⟨by omega, by omega⟩, hf0, ⟨by omega, by omega, by omega, by omega⟩, hf2, fun j h => (by rw [hf3 j (by omega), upI_ne (by omega)])⟩, rfl⟩))⟩
