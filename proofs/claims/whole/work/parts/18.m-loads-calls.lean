noncomputable def lF (C : Nat → Int) (P : Int → Int) (drag dd tank : Int) : Int := Classical.epsilon (isL C P drag dd tank)
theorem isL_lF {C : Nat → Int} {P : Int → Int} {drag dd tank v : Int} (h : isL C P drag dd tank v) : v = lF C P drag dd tank := isL_one h (Classical.epsilon_spec ⟨v, h⟩)
theorem isL_r {C : Nat → Int} {P : Int → Int} {drag dd tank v : Int} (h : isL C P drag dd tank v) : v = -5 ∨ (0 ≤ v ∧ v ≤ tank) := h.elim (fun q => Or.inl q.1) (fun q => Or.inr q.1)
noncomputable def jmF (C : Nat → Int) (P : Int → Int) (drag dd tank : Int) : Nat → Int → Int
  | 0, _ => 0
  | m + 1, n => if lF C P (drag + n) dd tank = lF C P drag dd tank then jmF C P drag dd tank m (n + 1) else n
theorem jmF_s (C : Nat → Int) (P : Int → Int) (drag dd tank : Int) (m : Nat) (n : Int) : jmF C P drag dd tank (m + 1) n = if lF C P (drag + n) dd tank = lF C P drag dd tank then jmF C P drag dd tank m (n + 1) else n := rfl
/-- the answers, by the cliff's numbers; t: which cliff (below 0: none) -/
def ofA (C : Nat → Int) (P : Int → Int) (t a : Int) : Int := if t < 0 then -1 else if 10 ≤ a ∧ a ≤ 9 + C 1 then P (a - 10) else if a = 0 then C 1 else if a = 1 then C 2 else if a = 2 then C 3 else if a = 3 then C 4 else if a = 4 then C 5 else if a = 5 then C 6 else if a = 6 then C 7 else -1
def pullOk (C : Nat → Int) (t i step d u w : Int) : Prop := ¬ t < 0 ∧ (0 ≤ i ∧ i ≤ C 1 - 1) ∧ (0 ≤ step ∧ step ≤ 11) ∧ ((0 ≤ d ∧ d ≤ 6) ∧ (0 ≤ u ∧ u ≤ 6)) ∧ (0 ≤ w ∧ w ≤ 99)
theorem d10_isLoad_0 : decode c10_isLoad 0 = .ok (.aload_n 0, 1) := by decide +kernel
theorem d10_isLoad_1 : decode c10_isLoad 1 = .ok (.iload_n 1, 1) := by decide +kernel
theorem d10_isLoad_2 : decode c10_isLoad 2 = .ok (.iconst 0, 1) := by decide +kernel
theorem d10_isLoad_3 : decode c10_isLoad 3 = .ok (.bipush 6, 2) := by decide +kernel
theorem d10_isLoad_5 : decode c10_isLoad 5 = .ok (.invokevirtual 219, 3) := by decide +kernel
theorem d10_isLoad_8 : decode c10_isLoad 8 = .ok (.ifCond .eq 18, 3) := by decide +kernel
theorem d10_isLoad_11 : decode c10_isLoad 11 = .ok (.aload_n 0, 1) := by decide +kernel
theorem d10_isLoad_12 : decode c10_isLoad 12 = .ok (.iload_n 2, 1) := by decide +kernel
theorem d10_isLoad_13 : decode c10_isLoad 13 = .ok (.iconst 0, 1) := by decide +kernel
theorem d10_isLoad_14 : decode c10_isLoad 14 = .ok (.bipush 6, 2) := by decide +kernel
theorem d10_isLoad_16 : decode c10_isLoad 16 = .ok (.invokevirtual 219, 3) := by decide +kernel
theorem d10_isLoad_19 : decode c10_isLoad 19 = .ok (.ifCond .eq 7, 3) := by decide +kernel
theorem d10_isLoad_22 : decode c10_isLoad 22 = .ok (.iconst 1, 1) := by decide +kernel
theorem d10_isLoad_23 : decode c10_isLoad 23 = .ok (.goto 4, 3) := by decide +kernel
theorem d10_isLoad_26 : decode c10_isLoad 26 = .ok (.iconst 0, 1) := by decide +kernel
theorem d10_isLoad_27 : decode c10_isLoad 27 = .ok (.ireturn, 1) := by decide +kernel
theorem mw10_isLoad : MV y10_isLoad c10_isLoad 3 (some .boolean) 2 := ⟨cd10_isLoad, ini10, na10_isLoad, im10_isLoad, se10_isLoad⟩
set_option maxHeartbeats 4000000 in
set_option maxRecDepth 100000 in
theorem k10_isLoad (l : Launch) (E : En) (h0 : Nat) (ad : Nat → Nat) (S : Nat → Int) (d : Int) (u : Int) (r_d : R32 d) (r_u : R32 u) : Cp l E y10_isLoad c10_isLoad 3 (some .boolean) 1 23 [.ref h0, .int (iZ d), .int (iZ u)] [(h0, mO ad S)] (fun r => ∃ (v : Int), r = some (.int (iZ v)) ∧ (((((0 ≤ d ∧ d ≤ 6) ∧ (0 ≤ u ∧ u ≤ 6))) ∧ v = 1) ∨ (¬ (((0 ≤ d ∧ d ≤ 6) ∧ (0 ≤ u ∧ u ≤ 6))) ∧ v = 0))) := by
  refine Cp.of (by decide +kernel) (Nat.le_of_ble_eq_true rfl) (fun Γ hl hargs G F => ?_)
  subst hl
  refine j_aload_n G 0 rfl d10_isLoad_0 ?_
  refine j_iload_n G 1 rfl d10_isLoad_1 ?_
  refine j_iconst G d10_isLoad_2 ?_
  refine j_bipush G d10_isLoad_3 rfl ?_
  refine j_VP G (k10_in (xl Γ) E h0 d 0 6 (by first | assumption | omega | (simp only [upS, reduceIte, Nat.reduceEqDiff, eq_self, List.length_cons, List.length_nil, List.length_append] <;> omega)) (by first | assumption | omega | (simp only [upS, reduceIte, Nat.reduceEqDiff, eq_self, List.length_cons, List.length_nil, List.length_append] <;> omega)) (by first | assumption | omega | (simp only [upS, reduceIte, Nat.reduceEqDiff, eq_self, List.length_cons, List.length_nil, List.length_append] <;> omega))) mw10_in ml10_219 [] rfl 0 10 rfl rfl rfl ⟨Nat.le_of_ble_eq_true rfl, Nat.le_of_ble_eq_true rfl⟩ rfl (rest := []) rfl (Nat.le_of_ble_eq_true rfl) d10_isLoad_5 ⟨Nat.le_of_ble_eq_true rfl, Nat.le_of_ble_eq_true rfl⟩ (fun r hr => ?_)
  obtain ⟨v2, rfl, hq1⟩ := hr
  rcases hq1 with ⟨hq1, rfl⟩ | ⟨hq1, rfl⟩
  ·
    refine j_if_eq (tgt := 26) G d10_isLoad_8 (by decide) (by decide) (fun h3 => absurd h3 (by decide)) (fun h3 => ?_)
    refine j_aload_n G 0 rfl d10_isLoad_11 ?_
    refine j_iload_n G 2 rfl d10_isLoad_12 ?_
    refine j_iconst G d10_isLoad_13 ?_
    refine j_bipush G d10_isLoad_14 rfl ?_
    refine j_VP G (k10_in (xl Γ) E h0 u 0 6 (by first | assumption | omega | (simp only [upS, reduceIte, Nat.reduceEqDiff, eq_self, List.length_cons, List.length_nil, List.length_append] <;> omega)) (by first | assumption | omega | (simp only [upS, reduceIte, Nat.reduceEqDiff, eq_self, List.length_cons, List.length_nil, List.length_append] <;> omega)) (by first | assumption | omega | (simp only [upS, reduceIte, Nat.reduceEqDiff, eq_self, List.length_cons, List.length_nil, List.length_append] <;> omega))) mw10_in ml10_219 [] rfl 0 10 rfl rfl rfl ⟨Nat.le_of_ble_eq_true rfl, Nat.le_of_ble_eq_true rfl⟩ rfl (rest := []) rfl (Nat.le_of_ble_eq_true rfl) d10_isLoad_16 ⟨Nat.le_of_ble_eq_true rfl, Nat.le_of_ble_eq_true rfl⟩ (fun r hr => ?_)
    obtain ⟨v5, rfl, hq4⟩ := hr
    rcases hq4 with ⟨hq4, rfl⟩ | ⟨hq4, rfl⟩
    ·
      refine j_if_eq (tgt := 26) G d10_isLoad_19 (by decide) (by decide) (fun h6 => absurd h6 (by decide)) (fun h6 => ?_)
      refine j_iconst G d10_isLoad_22 ?_
      refine j_goto (tgt := 27) G d10_isLoad_23 (by decide) ?_
      exact j_zret G F d10_isLoad_27 (by decide) ⟨1, rfl, (by first | (left; exact ⟨by omega, rfl⟩) | (right; exact ⟨by omega, rfl⟩))⟩
    ·
      refine j_if_eq (tgt := 26) G d10_isLoad_19 (by decide) (by decide) (fun h7 => ?_) (fun h7 => absurd h7 (by decide))
      refine j_iconst G d10_isLoad_26 ?_
      exact j_zret G F d10_isLoad_27 (by decide) ⟨0, rfl, (by first | (left; exact ⟨by omega, rfl⟩) | (right; exact ⟨by omega, rfl⟩))⟩
  ·
    refine j_if_eq (tgt := 26) G d10_isLoad_8 (by decide) (by decide) (fun h8 => ?_) (fun h8 => absurd h8 (by decide))
    refine j_iconst G d10_isLoad_26 ?_
    exact j_zret G F d10_isLoad_27 (by decide) ⟨0, rfl, (by first | (left; exact ⟨by omega, rfl⟩) | (right; exact ⟨by omega, rfl⟩))⟩
theorem d10_of_0 : decode c10_of 0 = .ok (.aload_n 0, 1) := by decide +kernel
theorem d10_of_1 : decode c10_of 1 = .ok (.getfield 13, 3) := by decide +kernel
theorem d10_of_4 : decode c10_of 4 = .ok (.ifCond .ge 5, 3) := by decide +kernel
theorem d10_of_7 : decode c10_of 7 = .ok (.iconst (-1), 1) := by decide +kernel
theorem d10_of_8 : decode c10_of 8 = .ok (.ireturn, 1) := by decide +kernel
theorem d10_of_9 : decode c10_of 9 = .ok (.aload_n 0, 1) := by decide +kernel
theorem d10_of_10 : decode c10_of 10 = .ok (.iload_n 1, 1) := by decide +kernel
theorem d10_of_11 : decode c10_of 11 = .ok (.bipush 10, 2) := by decide +kernel
theorem d10_of_13 : decode c10_of 13 = .ok (.bipush 9, 2) := by decide +kernel
theorem d10_of_15 : decode c10_of 15 = .ok (.aload_n 0, 1) := by decide +kernel
theorem d10_of_16 : decode c10_of 16 = .ok (.getfield 47, 3) := by decide +kernel
theorem d10_of_19 : decode c10_of 19 = .ok (.aload_n 0, 1) := by decide +kernel
theorem d10_of_20 : decode c10_of 20 = .ok (.getfield 13, 3) := by decide +kernel
theorem d10_of_23 : decode c10_of 23 = .ok (.iaload, 1) := by decide +kernel
theorem d10_of_24 : decode c10_of 24 = .ok (.iadd, 1) := by decide +kernel
theorem d10_of_25 : decode c10_of 25 = .ok (.invokevirtual 219, 3) := by decide +kernel
theorem d10_of_28 : decode c10_of 28 = .ok (.ifCond .eq 20, 3) := by decide +kernel
theorem d10_of_31 : decode c10_of 31 = .ok (.aload_n 0, 1) := by decide +kernel
theorem d10_of_32 : decode c10_of 32 = .ok (.getfield 50, 3) := by decide +kernel
theorem d10_of_35 : decode c10_of 35 = .ok (.iconst 5, 1) := by decide +kernel
theorem d10_of_36 : decode c10_of 36 = .ok (.aload_n 0, 1) := by decide +kernel
theorem d10_of_37 : decode c10_of 37 = .ok (.getfield 13, 3) := by decide +kernel
theorem d10_of_40 : decode c10_of 40 = .ok (.imul, 1) := by decide +kernel
theorem d10_of_41 : decode c10_of 41 = .ok (.iload_n 1, 1) := by decide +kernel
theorem d10_of_42 : decode c10_of 42 = .ok (.iadd, 1) := by decide +kernel
theorem d10_of_43 : decode c10_of 43 = .ok (.bipush 10, 2) := by decide +kernel
theorem d10_of_45 : decode c10_of 45 = .ok (.isub, 1) := by decide +kernel
theorem d10_of_46 : decode c10_of 46 = .ok (.iaload, 1) := by decide +kernel
theorem d10_of_47 : decode c10_of 47 = .ok (.ireturn, 1) := by decide +kernel
theorem d10_of_48 : decode c10_of 48 = .ok (.iload_n 1, 1) := by decide +kernel
theorem d10_of_49 : decode c10_of 49 = .ok (.tableswitch 91 0 6 #[43, 53, 59, 65, 71, 77, 84], 43) := by decide +kernel
theorem d10_of_92 : decode c10_of 92 = .ok (.aload_n 0, 1) := by decide +kernel
theorem d10_of_93 : decode c10_of 93 = .ok (.getfield 47, 3) := by decide +kernel
theorem d10_of_96 : decode c10_of 96 = .ok (.aload_n 0, 1) := by decide +kernel
theorem d10_of_97 : decode c10_of 97 = .ok (.getfield 13, 3) := by decide +kernel
theorem d10_of_100 : decode c10_of 100 = .ok (.iaload, 1) := by decide +kernel
theorem d10_of_101 : decode c10_of 101 = .ok (.ireturn, 1) := by decide +kernel
theorem d10_of_102 : decode c10_of 102 = .ok (.aload_n 0, 1) := by decide +kernel
theorem d10_of_103 : decode c10_of 103 = .ok (.iconst 1, 1) := by decide +kernel
theorem d10_of_104 : decode c10_of 104 = .ok (.invokevirtual 286, 3) := by decide +kernel
theorem d10_of_107 : decode c10_of 107 = .ok (.ireturn, 1) := by decide +kernel
theorem d10_of_108 : decode c10_of 108 = .ok (.aload_n 0, 1) := by decide +kernel
theorem d10_of_109 : decode c10_of 109 = .ok (.iconst 2, 1) := by decide +kernel
theorem d10_of_110 : decode c10_of 110 = .ok (.invokevirtual 286, 3) := by decide +kernel
theorem d10_of_113 : decode c10_of 113 = .ok (.ireturn, 1) := by decide +kernel
theorem d10_of_114 : decode c10_of 114 = .ok (.aload_n 0, 1) := by decide +kernel
theorem d10_of_115 : decode c10_of 115 = .ok (.iconst 4, 1) := by decide +kernel
theorem d10_of_116 : decode c10_of 116 = .ok (.invokevirtual 286, 3) := by decide +kernel
theorem d10_of_119 : decode c10_of 119 = .ok (.ireturn, 1) := by decide +kernel
theorem d10_of_120 : decode c10_of 120 = .ok (.aload_n 0, 1) := by decide +kernel
theorem d10_of_121 : decode c10_of 121 = .ok (.iconst 5, 1) := by decide +kernel
theorem d10_of_122 : decode c10_of 122 = .ok (.invokevirtual 286, 3) := by decide +kernel
theorem d10_of_125 : decode c10_of 125 = .ok (.ireturn, 1) := by decide +kernel
theorem d10_of_126 : decode c10_of 126 = .ok (.aload_n 0, 1) := by decide +kernel
theorem d10_of_127 : decode c10_of 127 = .ok (.bipush 6, 2) := by decide +kernel
theorem d10_of_129 : decode c10_of 129 = .ok (.invokevirtual 286, 3) := by decide +kernel
theorem d10_of_132 : decode c10_of 132 = .ok (.ireturn, 1) := by decide +kernel
theorem d10_of_133 : decode c10_of 133 = .ok (.aload_n 0, 1) := by decide +kernel
theorem d10_of_134 : decode c10_of 134 = .ok (.bipush 8, 2) := by decide +kernel
theorem d10_of_136 : decode c10_of 136 = .ok (.invokevirtual 286, 3) := by decide +kernel
theorem d10_of_139 : decode c10_of 139 = .ok (.ireturn, 1) := by decide +kernel
theorem d10_of_140 : decode c10_of 140 = .ok (.iconst (-1), 1) := by decide +kernel
theorem d10_of_141 : decode c10_of 141 = .ok (.ireturn, 1) := by decide +kernel
theorem mw10_of : MV y10_of c10_of 2 (some .int) 1 := ⟨cd10_of, ini10, na10_of, im10_of, se10_of⟩
set_option maxHeartbeats 4000000 in
set_option maxRecDepth 100000 in
theorem k10_of (l : Launch) (E : En) (mo : Nat) (ad : Nat → Nat) (S : Nat → Int) (la : Int → Int) (po : Int → Int) (pt : Int → Int) (a : Int) (r_a : R32 a) (hth : -1 ≤ S 1 ∧ S 1 ≤ 3) (hwm : 0 ≤ S 1 → wfC (cM la po (S 1)) (pM pt (S 1))) : Cp l E y10_of c10_of 2 (some .int) 1 23 [.ref mo, .int (iZ a)] [(mo, mO ad S), (ad 11, aInt E 36 la), (ad 12, aInt E 4 po), (ad 13, aInt E 20 pt)] (fun r => ∃ (v : Int), r = some (.int (iZ v)) ∧ (v = ofA (cM la po (S 1)) (pM pt (S 1)) (S 1) a)) := by
  refine Cp.of (by decide +kernel) (Nat.le_of_ble_eq_true rfl) (fun Γ hl hargs G F => ?_)
  subst hl
  refine j_aload_n G 0 rfl d10_of_0 ?_
  refine j_get G 0 10 1 in10 fl10_13 d10_of_1 rfl rfl (by decide) (v := .int (iZ (S 1))) rfl rfl ?_
  refine j_if_ge (tgt := 9) G d10_of_4 (by decide) (by omega) (fun h1 => ?_) (fun h1 => ?_)
  ·
    have hwm1 := hwm (by omega)
    have hpo : 1 ≤ po (S 1) ∧ po (S 1) ≤ 5 := hwm1.1
    have htk : 0 ≤ la (9 * S 1 + 5) ∧ la (9 * S 1 + 5) ≤ 60 := hwm1.2.2.2.2.2.1
    refine j_aload_n G 0 rfl d10_of_9 ?_
    refine j_iload_n G 1 rfl d10_of_10 ?_
    refine j_bipush G d10_of_11 rfl ?_
    refine j_bipush G d10_of_13 rfl ?_
    refine j_aload_n G 0 rfl d10_of_15 ?_
    refine j_get G 0 10 12 in10 fl10_47 d10_of_16 rfl rfl (by decide) (v := .ref (ad 12)) rfl rfl ?_
    refine j_aload_n G 0 rfl d10_of_19 ?_
    refine j_get G 0 10 1 in10 fl10_13 d10_of_20 rfl rfl (by decide) (v := .int (iZ (S 1))) rfl rfl ?_
    refine j_iald G 2 rfl (by omega) d10_of_23 ?_
    refine j_iadd G d10_of_24 ?_
    refine j_VP G (k10_in (xl Γ) E mo a 10 (9 + (po (S 1))) (by first | assumption | omega | (simp only [upS, reduceIte, Nat.reduceEqDiff, eq_self, List.length_cons, List.length_nil, List.length_append] <;> omega)) (by first | assumption | omega | (simp only [upS, reduceIte, Nat.reduceEqDiff, eq_self, List.length_cons, List.length_nil, List.length_append] <;> omega)) (by first | assumption | omega | (simp only [upS, reduceIte, Nat.reduceEqDiff, eq_self, List.length_cons, List.length_nil, List.length_append] <;> omega))) mw10_in ml10_219 [] rfl 0 10 rfl rfl rfl ⟨Nat.le_of_ble_eq_true rfl, Nat.le_of_ble_eq_true rfl⟩ rfl (rest := []) rfl (Nat.le_of_ble_eq_true rfl) d10_of_25 ⟨Nat.le_of_ble_eq_true rfl, Nat.le_of_ble_eq_true rfl⟩ (fun r hr => ?_)
    obtain ⟨v3, rfl, hq2⟩ := hr
    rcases hq2 with ⟨hq2, rfl⟩ | ⟨hq2, rfl⟩
    ·
      refine j_if_eq (tgt := 48) G d10_of_28 (by decide) (by decide) (fun h4 => absurd h4 (by decide)) (fun h4 => ?_)
      refine j_aload_n G 0 rfl d10_of_31 ?_
      refine j_get G 0 10 13 in10 fl10_50 d10_of_32 rfl rfl (by decide) (v := .ref (ad 13)) rfl rfl ?_
      refine j_iconst G d10_of_35 ?_
      refine j_aload_n G 0 rfl d10_of_36 ?_
      refine j_get G 0 10 1 in10 fl10_13 d10_of_37 rfl rfl (by decide) (v := .int (iZ (S 1))) rfl rfl ?_
      refine j_imul G d10_of_40 ?_
      refine j_iload_n G 1 rfl d10_of_41 ?_
      refine j_iadd G d10_of_42 ?_
      refine j_bipush G d10_of_43 rfl ?_
      refine j_isub G d10_of_45 ?_
      refine j_iald G 3 rfl (by omega) d10_of_46 ?_
      exact j_iret G F d10_of_47 ⟨pt (((5 * (S 1)) + a) - 10), rfl, (by simp only [ofA] <;> (repeat' split) <;> first | rfl | omega | (exfalso; omega) | (exfalso; have hx : cM la po (S 1) 1 = po (S 1) := rfl; omega) | (show _ = pt (5 * S 1 + _); congr 1; omega))⟩
    ·
      refine j_if_eq (tgt := 48) G d10_of_28 (by decide) (by decide) (fun h5 => ?_) (fun h5 => absurd h5 (by decide))
      refine j_iload_n G 1 rfl d10_of_48 ?_
      rcases (show a = 0 ∨ a = 1 ∨ a = 2 ∨ a = 3 ∨ a = 4 ∨ a = 5 ∨ a = 6 ∨ (a < 0 ∨ 6 < a) by omega) with h6 | h6 | h6 | h6 | h6 | h6 | h6 | h6
      ·
        refine j_tabIn (tgt := 92) G d10_of_49 (by omega) 0 h6 ⟨by decide, by decide⟩ rfl (by decide) ?_
        refine j_aload_n G 0 rfl d10_of_92 ?_
        refine j_get G 0 10 12 in10 fl10_47 d10_of_93 rfl rfl (by decide) (v := .ref (ad 12)) rfl rfl ?_
        refine j_aload_n G 0 rfl d10_of_96 ?_
        refine j_get G 0 10 1 in10 fl10_13 d10_of_97 rfl rfl (by decide) (v := .int (iZ (S 1))) rfl rfl ?_
        refine j_iald G 2 rfl (by omega) d10_of_100 ?_
        exact j_iret G F d10_of_101 ⟨po (S 1), rfl, (by simp only [ofA] <;> (repeat' split) <;> first | rfl | omega | (exfalso; omega) | (exfalso; have hx : cM la po (S 1) 1 = po (S 1) := rfl; omega) | (show _ = pt (5 * S 1 + _); congr 1; omega))⟩
      ·
        refine j_tabIn (tgt := 102) G d10_of_49 (by omega) 1 h6 ⟨by decide, by decide⟩ rfl (by decide) ?_
        refine j_aload_n G 0 rfl d10_of_102 ?_
        refine j_iconst G d10_of_103 ?_
        refine j_VP G (k10_lastOf (xl Γ) E mo ad S la 1 (by first | assumption | omega | (simp only [upS, reduceIte, Nat.reduceEqDiff, eq_self, List.length_cons, List.length_nil, List.length_append] <;> omega)) (by first | assumption | omega | (simp only [upS, reduceIte, Nat.reduceEqDiff, eq_self, List.length_cons, List.length_nil, List.length_append] <;> omega))) mw10_lastOf ml10_286 [0, 1] rfl 0 10 rfl rfl rfl ⟨Nat.le_of_ble_eq_true rfl, Nat.le_of_ble_eq_true rfl⟩ rfl (rest := []) rfl (Nat.le_of_ble_eq_true rfl) d10_of_104 ⟨Nat.le_of_ble_eq_true rfl, Nat.le_of_ble_eq_true rfl⟩ (fun r hr => ?_)
        obtain ⟨_, rfl, rfl⟩ := hr
        exact j_iret G F d10_of_107 ⟨la (9 * (S 1) + 1), rfl, (by simp only [ofA] <;> (repeat' split) <;> first | rfl | omega | (exfalso; omega) | (exfalso; have hx : cM la po (S 1) 1 = po (S 1) := rfl; omega) | (show _ = pt (5 * S 1 + _); congr 1; omega))⟩
      ·
        refine j_tabIn (tgt := 108) G d10_of_49 (by omega) 2 h6 ⟨by decide, by decide⟩ rfl (by decide) ?_
        refine j_aload_n G 0 rfl d10_of_108 ?_
        refine j_iconst G d10_of_109 ?_
        refine j_VP G (k10_lastOf (xl Γ) E mo ad S la 2 (by first | assumption | omega | (simp only [upS, reduceIte, Nat.reduceEqDiff, eq_self, List.length_cons, List.length_nil, List.length_append] <;> omega)) (by first | assumption | omega | (simp only [upS, reduceIte, Nat.reduceEqDiff, eq_self, List.length_cons, List.length_nil, List.length_append] <;> omega))) mw10_lastOf ml10_286 [0, 1] rfl 0 10 rfl rfl rfl ⟨Nat.le_of_ble_eq_true rfl, Nat.le_of_ble_eq_true rfl⟩ rfl (rest := []) rfl (Nat.le_of_ble_eq_true rfl) d10_of_110 ⟨Nat.le_of_ble_eq_true rfl, Nat.le_of_ble_eq_true rfl⟩ (fun r hr => ?_)
        obtain ⟨_, rfl, rfl⟩ := hr
        exact j_iret G F d10_of_113 ⟨la (9 * (S 1) + 2), rfl, (by simp only [ofA] <;> (repeat' split) <;> first | rfl | omega | (exfalso; omega) | (exfalso; have hx : cM la po (S 1) 1 = po (S 1) := rfl; omega) | (show _ = pt (5 * S 1 + _); congr 1; omega))⟩
      ·
        refine j_tabIn (tgt := 114) G d10_of_49 (by omega) 3 h6 ⟨by decide, by decide⟩ rfl (by decide) ?_
        refine j_aload_n G 0 rfl d10_of_114 ?_
        refine j_iconst G d10_of_115 ?_
        refine j_VP G (k10_lastOf (xl Γ) E mo ad S la 4 (by first | assumption | omega | (simp only [upS, reduceIte, Nat.reduceEqDiff, eq_self, List.length_cons, List.length_nil, List.length_append] <;> omega)) (by first | assumption | omega | (simp only [upS, reduceIte, Nat.reduceEqDiff, eq_self, List.length_cons, List.length_nil, List.length_append] <;> omega))) mw10_lastOf ml10_286 [0, 1] rfl 0 10 rfl rfl rfl ⟨Nat.le_of_ble_eq_true rfl, Nat.le_of_ble_eq_true rfl⟩ rfl (rest := []) rfl (Nat.le_of_ble_eq_true rfl) d10_of_116 ⟨Nat.le_of_ble_eq_true rfl, Nat.le_of_ble_eq_true rfl⟩ (fun r hr => ?_)
        obtain ⟨_, rfl, rfl⟩ := hr
        exact j_iret G F d10_of_119 ⟨la (9 * (S 1) + 4), rfl, (by simp only [ofA] <;> (repeat' split) <;> first | rfl | omega | (exfalso; omega) | (exfalso; have hx : cM la po (S 1) 1 = po (S 1) := rfl; omega) | (show _ = pt (5 * S 1 + _); congr 1; omega))⟩
      ·
        refine j_tabIn (tgt := 120) G d10_of_49 (by omega) 4 h6 ⟨by decide, by decide⟩ rfl (by decide) ?_
        refine j_aload_n G 0 rfl d10_of_120 ?_
        refine j_iconst G d10_of_121 ?_
        refine j_VP G (k10_lastOf (xl Γ) E mo ad S la 5 (by first | assumption | omega | (simp only [upS, reduceIte, Nat.reduceEqDiff, eq_self, List.length_cons, List.length_nil, List.length_append] <;> omega)) (by first | assumption | omega | (simp only [upS, reduceIte, Nat.reduceEqDiff, eq_self, List.length_cons, List.length_nil, List.length_append] <;> omega))) mw10_lastOf ml10_286 [0, 1] rfl 0 10 rfl rfl rfl ⟨Nat.le_of_ble_eq_true rfl, Nat.le_of_ble_eq_true rfl⟩ rfl (rest := []) rfl (Nat.le_of_ble_eq_true rfl) d10_of_122 ⟨Nat.le_of_ble_eq_true rfl, Nat.le_of_ble_eq_true rfl⟩ (fun r hr => ?_)
        obtain ⟨_, rfl, rfl⟩ := hr
        exact j_iret G F d10_of_125 ⟨la (9 * (S 1) + 5), rfl, (by simp only [ofA] <;> (repeat' split) <;> first | rfl | omega | (exfalso; omega) | (exfalso; have hx : cM la po (S 1) 1 = po (S 1) := rfl; omega) | (show _ = pt (5 * S 1 + _); congr 1; omega))⟩
      ·
        refine j_tabIn (tgt := 126) G d10_of_49 (by omega) 5 h6 ⟨by decide, by decide⟩ rfl (by decide) ?_
        refine j_aload_n G 0 rfl d10_of_126 ?_
        refine j_bipush G d10_of_127 rfl ?_
        refine j_VP G (k10_lastOf (xl Γ) E mo ad S la 6 (by first | assumption | omega | (simp only [upS, reduceIte, Nat.reduceEqDiff, eq_self, List.length_cons, List.length_nil, List.length_append] <;> omega)) (by first | assumption | omega | (simp only [upS, reduceIte, Nat.reduceEqDiff, eq_self, List.length_cons, List.length_nil, List.length_append] <;> omega))) mw10_lastOf ml10_286 [0, 1] rfl 0 10 rfl rfl rfl ⟨Nat.le_of_ble_eq_true rfl, Nat.le_of_ble_eq_true rfl⟩ rfl (rest := []) rfl (Nat.le_of_ble_eq_true rfl) d10_of_129 ⟨Nat.le_of_ble_eq_true rfl, Nat.le_of_ble_eq_true rfl⟩ (fun r hr => ?_)
        obtain ⟨_, rfl, rfl⟩ := hr
        exact j_iret G F d10_of_132 ⟨la (9 * (S 1) + 6), rfl, (by simp only [ofA] <;> (repeat' split) <;> first | rfl | omega | (exfalso; omega) | (exfalso; have hx : cM la po (S 1) 1 = po (S 1) := rfl; omega) | (show _ = pt (5 * S 1 + _); congr 1; omega))⟩
      ·
        refine j_tabIn (tgt := 133) G d10_of_49 (by omega) 6 h6 ⟨by decide, by decide⟩ rfl (by decide) ?_
        refine j_aload_n G 0 rfl d10_of_133 ?_
        refine j_bipush G d10_of_134 rfl ?_
        refine j_VP G (k10_lastOf (xl Γ) E mo ad S la 8 (by first | assumption | omega | (simp only [upS, reduceIte, Nat.reduceEqDiff, eq_self, List.length_cons, List.length_nil, List.length_append] <;> omega)) (by first | assumption | omega | (simp only [upS, reduceIte, Nat.reduceEqDiff, eq_self, List.length_cons, List.length_nil, List.length_append] <;> omega))) mw10_lastOf ml10_286 [0, 1] rfl 0 10 rfl rfl rfl ⟨Nat.le_of_ble_eq_true rfl, Nat.le_of_ble_eq_true rfl⟩ rfl (rest := []) rfl (Nat.le_of_ble_eq_true rfl) d10_of_136 ⟨Nat.le_of_ble_eq_true rfl, Nat.le_of_ble_eq_true rfl⟩ (fun r hr => ?_)
        obtain ⟨_, rfl, rfl⟩ := hr
        exact j_iret G F d10_of_139 ⟨la (9 * (S 1) + 8), rfl, (by simp only [ofA] <;> (repeat' split) <;> first | rfl | omega | (exfalso; omega) | (exfalso; have hx : cM la po (S 1) 1 = po (S 1) := rfl; omega) | (show _ = pt (5 * S 1 + _); congr 1; omega))⟩
      ·
        refine j_tabOut (tgt := 140) G d10_of_49 (by omega) h6 (by decide) ?_
        refine j_iconst G d10_of_140 ?_
        exact j_iret G F d10_of_141 ⟨(-1), rfl, (by simp only [ofA] <;> (repeat' split) <;> first | rfl | omega | (exfalso; omega) | (exfalso; have hx : cM la po (S 1) 1 = po (S 1) := rfl; omega) | (show _ = pt (5 * S 1 + _); congr 1; omega))⟩
  ·
    refine j_iconst G d10_of_7 ?_
    exact j_iret G F d10_of_8 ⟨(-1), rfl, (by simp only [ofA] <;> (repeat' split) <;> first | rfl | omega | (exfalso; omega) | (exfalso; have hx : cM la po (S 1) 1 = po (S 1) := rfl; omega) | (show _ = pt (5 * S 1 + _); congr 1; omega))⟩
theorem d10_told_0 : decode c10_told 0 = .ok (.aload_n 0, 1) := by decide +kernel
theorem d10_told_1 : decode c10_told 1 = .ok (.iload_n 1, 1) := by decide +kernel
theorem d10_told_2 : decode c10_told 2 = .ok (.iconst 0, 1) := by decide +kernel
theorem d10_told_3 : decode c10_told 3 = .ok (.iconst 1, 1) := by decide +kernel
theorem d10_told_4 : decode c10_told 4 = .ok (.invokevirtual 219, 3) := by decide +kernel
theorem d10_told_7 : decode c10_told 7 = .ok (.ifCond .eq 18, 3) := by decide +kernel
theorem d10_told_10 : decode c10_told 10 = .ok (.aload_n 0, 1) := by decide +kernel
theorem d10_told_11 : decode c10_told 11 = .ok (.iload_n 2, 1) := by decide +kernel
theorem d10_told_12 : decode c10_told 12 = .ok (.invokevirtual 293, 3) := by decide +kernel
theorem d10_told_15 : decode c10_told 15 = .ok (.ifCond .eq 10, 3) := by decide +kernel
theorem d10_told_18 : decode c10_told 18 = .ok (.aload_n 0, 1) := by decide +kernel
theorem d10_told_19 : decode c10_told 19 = .ok (.getfield 13, 3) := by decide +kernel
theorem d10_told_22 : decode c10_told 22 = .ok (.ifCond .ge 5, 3) := by decide +kernel
theorem d10_told_25 : decode c10_told 25 = .ok (.iconst (-1), 1) := by decide +kernel
theorem d10_told_26 : decode c10_told 26 = .ok (.ireturn, 1) := by decide +kernel
theorem d10_told_27 : decode c10_told 27 = .ok (.aload_n 0, 1) := by decide +kernel
theorem d10_told_28 : decode c10_told 28 = .ok (.iload_n 1, 1) := by decide +kernel
theorem d10_told_29 : decode c10_told 29 = .ok (.ifCond .ne 7, 3) := by decide +kernel
theorem d10_told_32 : decode c10_told 32 = .ok (.iconst 3, 1) := by decide +kernel
theorem d10_told_33 : decode c10_told 33 = .ok (.goto 5, 3) := by decide +kernel
theorem d10_told_36 : decode c10_told 36 = .ok (.bipush 7, 2) := by decide +kernel
theorem d10_told_38 : decode c10_told 38 = .ok (.iload_n 2, 1) := by decide +kernel
theorem d10_told_39 : decode c10_told 39 = .ok (.invokevirtual 296, 3) := by decide +kernel
theorem d10_told_42 : decode c10_told 42 = .ok (.ireturn, 1) := by decide +kernel
theorem mw10_told : MV y10_told c10_told 3 (some .int) 2 := ⟨cd10_told, ini10, na10_told, im10_told, se10_told⟩
set_option maxHeartbeats 4000000 in
set_option maxRecDepth 100000 in
theorem k10_told (l : Launch) (E : En) (mo : Nat) (ad : Nat → Nat) (S : Nat → Int) (cl : Int → Int) (wd : Int → Int) (nu : Int → Int) (fo : Int → Int) (to : Int → Int) (sg : Int → Int) (pl : Int → Int) (Fq : Int → Int → Int → Int) (a : Int) (step : Int) (r_a : R32 a) (r_step : R32 step) (hth : -1 ≤ S 1 ∧ S 1 ≤ 3) (hms : 0 ≤ S 1 → MSum wd nu fo to sg cl Fq (S 1)) (hsg : ∀ j, 0 ≤ j → j < 400 → -200 ≤ sg j ∧ sg j ≤ 20000) (hpl : ∀ j, 0 ≤ j → j < 100 → 0 ≤ pl j ∧ pl j ≤ 1) (hw : S 20 = 0 ∨ S 20 = 1) : Cm l E y10_told c10_told 3 (some .int) { frames := 2, cells := 0, slots := 0, locals := 51 } [.ref mo, .int (iZ a), .int (iZ step)] [(mo, mO ad S), (ad 6, aInt E 4 cl), (ad 7, aInt E 48 wd), (ad 8, aInt E 48 nu), (ad 9, aInt E 48 fo), (ad 10, aInt E 48 to), (ad 14, aInt E 400 sg), (ad 19, aBoo E 100 pl)] (fun r ws => ∃ (v : Int), ∃ (pl1 : Int → Int), r = some (.int (iZ v)) ∧ ws = [(mo, mO ad S), (ad 6, aInt E 4 cl), (ad 7, aInt E 48 wd), (ad 8, aInt E 48 nu), (ad 9, aInt E 48 fo), (ad 10, aInt E 48 to), (ad 14, aInt E 400 sg), (ad 19, aBoo E 100 pl1)] ∧ ((((0 ≤ a ∧ a ≤ 1) ∧ (0 ≤ step ∧ step ≤ 11) ∧ ¬ S 1 < 0) ∧ v = smM wd nu cl Fq (S 1) (if a = 0 then 3 else 7) step (S 20) ∧ ∀ j, 0 ≤ j → j < 100 → 0 ≤ pl1 j ∧ pl1 j ≤ 1) ∨ (¬ ((0 ≤ a ∧ a ≤ 1) ∧ (0 ≤ step ∧ step ≤ 11) ∧ ¬ S 1 < 0) ∧ v = -1 ∧ ∀ j, 0 ≤ j → j < 100 → 0 ≤ pl1 j ∧ pl1 j ≤ 1))) := by
  refine Cm.of (by decide +kernel) (Nat.le_of_ble_eq_true rfl) (fun Γ A hl hargs hin G F => ?_)
  subst hl
  refine j_aload_n G 0 rfl d10_told_0 ?_
  refine j_iload_n G 1 rfl d10_told_1 ?_
  refine j_iconst G d10_told_2 ?_
  refine j_iconst G d10_told_3 ?_
  refine j_VP G (k10_in (xl Γ) E mo a 0 1 (by first | assumption | omega | (simp only [upS, reduceIte, Nat.reduceEqDiff, eq_self, List.length_cons, List.length_nil, List.length_append] <;> omega)) (by first | assumption | omega | (simp only [upS, reduceIte, Nat.reduceEqDiff, eq_self, List.length_cons, List.length_nil, List.length_append] <;> omega)) (by first | assumption | omega | (simp only [upS, reduceIte, Nat.reduceEqDiff, eq_self, List.length_cons, List.length_nil, List.length_append] <;> omega))) mw10_in ml10_219 [] rfl 0 10 rfl rfl rfl ⟨Nat.le_of_ble_eq_true rfl, Nat.le_of_ble_eq_true rfl⟩ rfl (rest := []) rfl (Nat.le_of_ble_eq_true rfl) d10_told_4 ⟨Nat.le_of_ble_eq_true rfl, Nat.le_of_ble_eq_true rfl⟩ (fun r hr => ?_)
  obtain ⟨v2, rfl, hq1⟩ := hr
  rcases hq1 with ⟨hq1, rfl⟩ | ⟨hq1, rfl⟩
  ·
    refine j_if_eq (tgt := 25) G d10_told_7 (by decide) (by decide) (fun h3 => absurd h3 (by decide)) (fun h3 => ?_)
    refine j_aload_n G 0 rfl d10_told_10 ?_
    refine j_iload_n G 2 rfl d10_told_11 ?_
    refine j_VP G (k10_isStep (xl Γ) E mo S ad step (by first | assumption | omega | (simp only [upS, reduceIte, Nat.reduceEqDiff, eq_self, List.length_cons, List.length_nil, List.length_append] <;> omega))) mw10_isStep ml10_293 [0] rfl 0 10 rfl rfl rfl ⟨Nat.le_of_ble_eq_true rfl, Nat.le_of_ble_eq_true rfl⟩ rfl (rest := []) rfl (Nat.le_of_ble_eq_true rfl) d10_told_12 ⟨Nat.le_of_ble_eq_true rfl, Nat.le_of_ble_eq_true rfl⟩ (fun r hr => ?_)
    obtain ⟨v5, rfl, hq4⟩ := hr
    rcases hq4 with ⟨hq4, rfl⟩ | ⟨hq4, rfl⟩
    ·
      refine j_if_eq (tgt := 25) G d10_told_15 (by decide) (by decide) (fun h6 => absurd h6 (by decide)) (fun h6 => ?_)
      refine j_aload_n G 0 rfl d10_told_18 ?_
      refine j_get G 0 10 1 in10 fl10_13 d10_told_19 rfl rfl (by decide) (v := .int (iZ (S 1))) rfl rfl ?_
      refine j_if_ge (tgt := 27) G d10_told_22 (by decide) (by omega) (fun h7 => ?_) (fun h7 => ?_)
      ·
        have hms1 := hms (by omega)
        refine j_aload_n G 0 rfl d10_told_27 ?_
        refine j_iload_n G 1 rfl d10_told_28 ?_
        refine j_if_ne (tgt := 36) G d10_told_29 (by decide) (by omega) (fun h8 => ?_) (fun h8 => ?_)
        ·
          refine j_bipush G d10_told_36 rfl ?_
          refine j_iload_n G 2 rfl d10_told_38 ?_
          refine j_VM G (rm' := { frames := 1, cells := 0, slots := 0, locals := 27 }) (wc := [(mo, mO ad S), (ad 6, aInt E 4 cl), (ad 7, aInt E 48 wd), (ad 8, aInt E 48 nu), (ad 9, aInt E 48 fo), (ad 10, aInt E 48 to), (ad 14, aInt E 400 sg), (ad 19, aBoo E 100 pl)]) (wr := []) (k10_sum (xl Γ) E mo ad S cl wd nu fo to sg pl Fq 7 step (by first | assumption | omega | (simp only [upS, reduceIte, Nat.reduceEqDiff, eq_self, List.length_cons, List.length_nil, List.length_append] <;> omega)) (by first | assumption | omega | (simp only [upS, reduceIte, Nat.reduceEqDiff, eq_self, List.length_cons, List.length_nil, List.length_append] <;> omega)) (by first | assumption | omega | (simp only [upS, reduceIte, Nat.reduceEqDiff, eq_self, List.length_cons, List.length_nil, List.length_append] <;> omega)) (by first | assumption | omega | (simp only [upS, reduceIte, Nat.reduceEqDiff, eq_self, List.length_cons, List.length_nil, List.length_append] <;> omega)) (by first | assumption | omega | (simp only [upS, reduceIte, Nat.reduceEqDiff, eq_self, List.length_cons, List.length_nil, List.length_append] <;> omega)) (by first | assumption | omega | (simp only [upS, reduceIte, Nat.reduceEqDiff, eq_self, List.length_cons, List.length_nil, List.length_append] <;> omega)) (by first | assumption | omega | (simp only [upS, reduceIte, Nat.reduceEqDiff, eq_self, List.length_cons, List.length_nil, List.length_append] <;> omega))) mw10_sum ml10_296 [0, 1, 2, 3, 4, 5, 6, 7] [] rfl rfl ⟨rfl, rfl⟩ (by decide) 0 10 rfl rfl rfl ⟨Nat.le_of_ble_eq_true rfl, Nat.le_of_ble_eq_true rfl⟩ rfl (rest := []) rfl (Nat.le_of_ble_eq_true rfl) d10_told_39 ⟨Nat.le_of_ble_eq_true rfl, Nat.le_of_ble_eq_true rfl⟩ (fun r w1 hr => ?_)
          obtain ⟨v10, pl1_11, rfl, rfl, ⟨hq9_0, hq9_1, hq9_2⟩⟩ := hr
          refine j_eq (ws' := [(mo, mO ad S), (ad 6, aInt E 4 cl), (ad 7, aInt E 48 wd), (ad 8, aInt E 48 nu), (ad 9, aInt E 48 fo), (ad 10, aInt E 48 to), (ad 14, aInt E 400 sg), (ad 19, aBoo E 100 pl1_11)]) rfl rfl rfl ?_
          exact j_iret G F d10_told_42 ⟨v10, pl1_11, rfl, rfl, (by first | (right; exact ⟨by omega, rfl, hpl⟩) | (left; refine ⟨by omega, ?_, by assumption⟩; first | (rw [if_pos (by omega)]; assumption) | (rw [if_neg (by omega)]; assumption)))⟩
        ·
          refine j_iconst G d10_told_32 ?_
          refine j_goto (tgt := 38) G d10_told_33 (by decide) ?_
          refine j_iload_n G 2 rfl d10_told_38 ?_
          refine j_VM G (rm' := { frames := 1, cells := 0, slots := 0, locals := 27 }) (wc := [(mo, mO ad S), (ad 6, aInt E 4 cl), (ad 7, aInt E 48 wd), (ad 8, aInt E 48 nu), (ad 9, aInt E 48 fo), (ad 10, aInt E 48 to), (ad 14, aInt E 400 sg), (ad 19, aBoo E 100 pl)]) (wr := []) (k10_sum (xl Γ) E mo ad S cl wd nu fo to sg pl Fq 3 step (by first | assumption | omega | (simp only [upS, reduceIte, Nat.reduceEqDiff, eq_self, List.length_cons, List.length_nil, List.length_append] <;> omega)) (by first | assumption | omega | (simp only [upS, reduceIte, Nat.reduceEqDiff, eq_self, List.length_cons, List.length_nil, List.length_append] <;> omega)) (by first | assumption | omega | (simp only [upS, reduceIte, Nat.reduceEqDiff, eq_self, List.length_cons, List.length_nil, List.length_append] <;> omega)) (by first | assumption | omega | (simp only [upS, reduceIte, Nat.reduceEqDiff, eq_self, List.length_cons, List.length_nil, List.length_append] <;> omega)) (by first | assumption | omega | (simp only [upS, reduceIte, Nat.reduceEqDiff, eq_self, List.length_cons, List.length_nil, List.length_append] <;> omega)) (by first | assumption | omega | (simp only [upS, reduceIte, Nat.reduceEqDiff, eq_self, List.length_cons, List.length_nil, List.length_append] <;> omega)) (by first | assumption | omega | (simp only [upS, reduceIte, Nat.reduceEqDiff, eq_self, List.length_cons, List.length_nil, List.length_append] <;> omega))) mw10_sum ml10_296 [0, 1, 2, 3, 4, 5, 6, 7] [] rfl rfl ⟨rfl, rfl⟩ (by decide) 0 10 rfl rfl rfl ⟨Nat.le_of_ble_eq_true rfl, Nat.le_of_ble_eq_true rfl⟩ rfl (rest := []) rfl (Nat.le_of_ble_eq_true rfl) d10_told_39 ⟨Nat.le_of_ble_eq_true rfl, Nat.le_of_ble_eq_true rfl⟩ (fun r w1 hr => ?_)
          obtain ⟨v13, pl1_14, rfl, rfl, ⟨hq12_0, hq12_1, hq12_2⟩⟩ := hr
          refine j_eq (ws' := [(mo, mO ad S), (ad 6, aInt E 4 cl), (ad 7, aInt E 48 wd), (ad 8, aInt E 48 nu), (ad 9, aInt E 48 fo), (ad 10, aInt E 48 to), (ad 14, aInt E 400 sg), (ad 19, aBoo E 100 pl1_14)]) rfl rfl rfl ?_
          exact j_iret G F d10_told_42 ⟨v13, pl1_14, rfl, rfl, (by first | (right; exact ⟨by omega, rfl, hpl⟩) | (left; refine ⟨by omega, ?_, by assumption⟩; first | (rw [if_pos (by omega)]; assumption) | (rw [if_neg (by omega)]; assumption)))⟩
      ·
        refine j_iconst G d10_told_25 ?_
        exact j_iret G F d10_told_26 ⟨(-1), pl, rfl, rfl, (by first | (right; exact ⟨by omega, rfl, hpl⟩) | (left; refine ⟨by omega, ?_, by assumption⟩; first | (rw [if_pos (by omega)]; assumption) | (rw [if_neg (by omega)]; assumption)))⟩
    ·
      refine j_if_eq (tgt := 25) G d10_told_15 (by decide) (by decide) (fun h15 => ?_) (fun h15 => absurd h15 (by decide))
      refine j_iconst G d10_told_25 ?_
      exact j_iret G F d10_told_26 ⟨(-1), pl, rfl, rfl, (by first | (right; exact ⟨by omega, rfl, hpl⟩) | (left; refine ⟨by omega, ?_, by assumption⟩; first | (rw [if_pos (by omega)]; assumption) | (rw [if_neg (by omega)]; assumption)))⟩
  ·
    refine j_if_eq (tgt := 25) G d10_told_7 (by decide) (by decide) (fun h16 => ?_) (fun h16 => absurd h16 (by decide))
    refine j_iconst G d10_told_25 ?_
    exact j_iret G F d10_told_26 ⟨(-1), pl, rfl, rfl, (by first | (right; exact ⟨by omega, rfl, hpl⟩) | (left; refine ⟨by omega, ?_, by assumption⟩; first | (rw [if_pos (by omega)]; assumption) | (rw [if_neg (by omega)]; assumption)))⟩
theorem d10_pull_0 : decode c10_pull 0 = .ok (.aload_n 0, 1) := by decide +kernel
theorem d10_pull_1 : decode c10_pull 1 = .ok (.getfield 13, 3) := by decide +kernel
theorem d10_pull_4 : decode c10_pull 4 = .ok (.ifCond .lt 53, 3) := by decide +kernel
theorem d10_pull_7 : decode c10_pull 7 = .ok (.aload_n 0, 1) := by decide +kernel
theorem d10_pull_8 : decode c10_pull 8 = .ok (.iload_n 1, 1) := by decide +kernel
theorem d10_pull_9 : decode c10_pull 9 = .ok (.iconst 0, 1) := by decide +kernel
theorem d10_pull_10 : decode c10_pull 10 = .ok (.aload_n 0, 1) := by decide +kernel
theorem d10_pull_11 : decode c10_pull 11 = .ok (.getfield 47, 3) := by decide +kernel
theorem d10_pull_14 : decode c10_pull 14 = .ok (.aload_n 0, 1) := by decide +kernel
theorem d10_pull_15 : decode c10_pull 15 = .ok (.getfield 13, 3) := by decide +kernel
theorem d10_pull_18 : decode c10_pull 18 = .ok (.iaload, 1) := by decide +kernel
theorem d10_pull_19 : decode c10_pull 19 = .ok (.iconst 1, 1) := by decide +kernel
theorem d10_pull_20 : decode c10_pull 20 = .ok (.isub, 1) := by decide +kernel
theorem d10_pull_21 : decode c10_pull 21 = .ok (.invokevirtual 219, 3) := by decide +kernel
theorem d10_pull_24 : decode c10_pull 24 = .ok (.ifCond .eq 33, 3) := by decide +kernel
theorem d10_pull_27 : decode c10_pull 27 = .ok (.aload_n 0, 1) := by decide +kernel
theorem d10_pull_28 : decode c10_pull 28 = .ok (.iload_n 2, 1) := by decide +kernel
theorem d10_pull_29 : decode c10_pull 29 = .ok (.invokevirtual 293, 3) := by decide +kernel
theorem d10_pull_32 : decode c10_pull 32 = .ok (.ifCond .eq 25, 3) := by decide +kernel
theorem d10_pull_35 : decode c10_pull 35 = .ok (.aload_n 0, 1) := by decide +kernel
theorem d10_pull_36 : decode c10_pull 36 = .ok (.iload_n 3, 1) := by decide +kernel
theorem d10_pull_37 : decode c10_pull 37 = .ok (.iload 4, 2) := by decide +kernel
theorem d10_pull_39 : decode c10_pull 39 = .ok (.invokevirtual 307, 3) := by decide +kernel
theorem d10_pull_42 : decode c10_pull 42 = .ok (.ifCond .eq 15, 3) := by decide +kernel
theorem d10_pull_45 : decode c10_pull 45 = .ok (.aload_n 0, 1) := by decide +kernel
theorem d10_pull_46 : decode c10_pull 46 = .ok (.iload 5, 2) := by decide +kernel
theorem d10_pull_48 : decode c10_pull 48 = .ok (.iconst 0, 1) := by decide +kernel
theorem d10_pull_49 : decode c10_pull 49 = .ok (.bipush 99, 2) := by decide +kernel
theorem d10_pull_51 : decode c10_pull 51 = .ok (.invokevirtual 219, 3) := by decide +kernel
theorem d10_pull_54 : decode c10_pull 54 = .ok (.ifCond .ne 7, 3) := by decide +kernel
theorem d10_pull_57 : decode c10_pull 57 = .ok (.ldc2_w 310, 3) := by decide +kernel
theorem d10_pull_60 : decode c10_pull 60 = .ok (.lreturn, 1) := by decide +kernel
theorem d10_pull_61 : decode c10_pull 61 = .ok (.aload_n 0, 1) := by decide +kernel
theorem d10_pull_62 : decode c10_pull 62 = .ok (.iload_n 1, 1) := by decide +kernel
theorem d10_pull_63 : decode c10_pull 63 = .ok (.aload_n 0, 1) := by decide +kernel
theorem d10_pull_64 : decode c10_pull 64 = .ok (.iconst 3, 1) := by decide +kernel
theorem d10_pull_65 : decode c10_pull 65 = .ok (.iload_n 2, 1) := by decide +kernel
theorem d10_pull_66 : decode c10_pull 66 = .ok (.invokevirtual 296, 3) := by decide +kernel
theorem d10_pull_69 : decode c10_pull 69 = .ok (.iload_n 3, 1) := by decide +kernel
theorem d10_pull_70 : decode c10_pull 70 = .ok (.iload 4, 2) := by decide +kernel
theorem d10_pull_72 : decode c10_pull 72 = .ok (.iload 5, 2) := by decide +kernel
theorem d10_pull_74 : decode c10_pull 74 = .ok (.invokevirtual 299, 3) := by decide +kernel
theorem d10_pull_77 : decode c10_pull 77 = .ok (.lreturn, 1) := by decide +kernel
theorem mw10_pull : MV y10_pull c10_pull 6 (some .long) 5 := ⟨cd10_pull, ini10, na10_pull, im10_pull, se10_pull⟩
set_option maxHeartbeats 4000000 in
set_option maxRecDepth 100000 in
theorem k10_pull (l : Launch) (E : En) (mo : Nat) (ad : Nat → Nat) (S : Nat → Int) (la : Int → Int) (po : Int → Int) (pt : Int → Int) (cl : Int → Int) (wd : Int → Int) (nu : Int → Int) (fo : Int → Int) (to : Int → Int) (sg : Int → Int) (pl : Int → Int) (Fq : Int → Int → Int → Int) (i : Int) (step : Int) (d : Int) (u : Int) (w : Int) (r_i : R32 i) (r_step : R32 step) (r_d : R32 d) (r_u : R32 u) (r_w : R32 w) (hth : -1 ≤ S 1 ∧ S 1 ≤ 3) (hms : 0 ≤ S 1 → MSum wd nu fo to sg cl Fq (S 1)) (hwm : 0 ≤ S 1 → wfC (cM la po (S 1)) (pM pt (S 1))) (hsg : ∀ j, 0 ≤ j → j < 400 → -200 ≤ sg j ∧ sg j ≤ 20000) (hpl : ∀ j, 0 ≤ j → j < 100 → 0 ≤ pl j ∧ pl j ≤ 1) (hw : S 20 = 0 ∨ S 20 = 1) : Cm l E y10_pull c10_pull 6 (some .long) { frames := 2, cells := 0, slots := 0, locals := 51 } [.ref mo, .int (iZ i), .int (iZ step), .int (iZ d), .int (iZ u), .int (iZ w)] [(mo, mO ad S), (ad 11, aInt E 36 la), (ad 12, aInt E 4 po), (ad 13, aInt E 20 pt), (ad 6, aInt E 4 cl), (ad 7, aInt E 48 wd), (ad 8, aInt E 48 nu), (ad 9, aInt E 48 fo), (ad 10, aInt E 48 to), (ad 14, aInt E 400 sg), (ad 19, aBoo E 100 pl)] (fun r ws => ∃ (v : Int), ∃ (pl1 : Int → Int), r = some (.long (lZ v)) ∧ ws = [(mo, mO ad S), (ad 11, aInt E 36 la), (ad 12, aInt E 4 po), (ad 13, aInt E 20 pt), (ad 6, aInt E 4 cl), (ad 7, aInt E 48 wd), (ad 8, aInt E 48 nu), (ad 9, aInt E 48 fo), (ad 10, aInt E 48 to), (ad 14, aInt E 400 sg), (ad 19, aBoo E 100 pl1)] ∧ ((pullOk (cM la po (S 1)) (S 1) i step d u w ∧ v = pulM (cM la po (S 1)) (pM pt (S 1)) i (la (9 * S 1 + 2) * (d - u) + w) (smM wd nu cl Fq (S 1) 3 step (S 20)) ∧ ∀ j, 0 ≤ j → j < 100 → 0 ≤ pl1 j ∧ pl1 j ≤ 1) ∨ (¬ pullOk (cM la po (S 1)) (S 1) i step d u w ∧ v = -9223372036854775808 ∧ ∀ j, 0 ≤ j → j < 100 → 0 ≤ pl1 j ∧ pl1 j ≤ 1))) := by
  refine Cm.of (by decide +kernel) (Nat.le_of_ble_eq_true rfl) (fun Γ A hl hargs hin G F => ?_)
  subst hl
  refine j_aload_n G 0 rfl d10_pull_0 ?_
  refine j_get G 0 10 1 in10 fl10_13 d10_pull_1 rfl rfl (by decide) (v := .int (iZ (S 1))) rfl rfl ?_
  refine j_if_lt (tgt := 57) G d10_pull_4 (by decide) (by omega) (fun h1 => ?_) (fun h1 => ?_)
  ·
    refine j_ldc2 G (-9223372036854775808) ct10_310 (by decide) d10_pull_57 ?_
    exact j_lret G F d10_pull_60 ⟨(-9223372036854775808), pl, rfl, rfl, (by first | (right; exact ⟨fun q => by obtain ⟨q1, q2, q3, q4, q5⟩ := q; have hx : cM la po (S 1) 1 = po (S 1) := rfl; first | omega | contradiction, rfl, hpl⟩) | (left; refine ⟨⟨by omega, by show 0 ≤ i ∧ i ≤ po (S 1) - 1; omega, by omega, by omega, by omega⟩, ?_, by assumption⟩; subst_vars; rfl))⟩
  ·
    have hms1 := hms (by omega)
    have hwm1 := hwm (by omega)
    have hpo : 1 ≤ po (S 1) ∧ po (S 1) ≤ 5 := hwm1.1
    have htk : 0 ≤ la (9 * S 1 + 5) ∧ la (9 * S 1 + 5) ≤ 60 := hwm1.2.2.2.2.2.1
    refine j_aload_n G 0 rfl d10_pull_7 ?_
    refine j_iload_n G 1 rfl d10_pull_8 ?_
    refine j_iconst G d10_pull_9 ?_
    refine j_aload_n G 0 rfl d10_pull_10 ?_
    refine j_get G 0 10 12 in10 fl10_47 d10_pull_11 rfl rfl (by decide) (v := .ref (ad 12)) rfl rfl ?_
    refine j_aload_n G 0 rfl d10_pull_14 ?_
    refine j_get G 0 10 1 in10 fl10_13 d10_pull_15 rfl rfl (by decide) (v := .int (iZ (S 1))) rfl rfl ?_
    refine j_iald G 2 rfl (by omega) d10_pull_18 ?_
    refine j_iconst G d10_pull_19 ?_
    refine j_isub G d10_pull_20 ?_
    refine j_VP G (k10_in (xl Γ) E mo i 0 ((po (S 1)) - 1) (by first | assumption | omega | (simp only [upS, reduceIte, Nat.reduceEqDiff, eq_self, List.length_cons, List.length_nil, List.length_append] <;> omega)) (by first | assumption | omega | (simp only [upS, reduceIte, Nat.reduceEqDiff, eq_self, List.length_cons, List.length_nil, List.length_append] <;> omega)) (by first | assumption | omega | (simp only [upS, reduceIte, Nat.reduceEqDiff, eq_self, List.length_cons, List.length_nil, List.length_append] <;> omega))) mw10_in ml10_219 [] rfl 0 10 rfl rfl rfl ⟨Nat.le_of_ble_eq_true rfl, Nat.le_of_ble_eq_true rfl⟩ rfl (rest := []) rfl (Nat.le_of_ble_eq_true rfl) d10_pull_21 ⟨Nat.le_of_ble_eq_true rfl, Nat.le_of_ble_eq_true rfl⟩ (fun r hr => ?_)
    obtain ⟨v3, rfl, hq2⟩ := hr
    rcases hq2 with ⟨hq2, rfl⟩ | ⟨hq2, rfl⟩
    ·
      refine j_if_eq (tgt := 57) G d10_pull_24 (by decide) (by decide) (fun h4 => absurd h4 (by decide)) (fun h4 => ?_)
      refine j_aload_n G 0 rfl d10_pull_27 ?_
      refine j_iload_n G 2 rfl d10_pull_28 ?_
      refine j_VP G (k10_isStep (xl Γ) E mo S ad step (by first | assumption | omega | (simp only [upS, reduceIte, Nat.reduceEqDiff, eq_self, List.length_cons, List.length_nil, List.length_append] <;> omega))) mw10_isStep ml10_293 [0] rfl 0 10 rfl rfl rfl ⟨Nat.le_of_ble_eq_true rfl, Nat.le_of_ble_eq_true rfl⟩ rfl (rest := []) rfl (Nat.le_of_ble_eq_true rfl) d10_pull_29 ⟨Nat.le_of_ble_eq_true rfl, Nat.le_of_ble_eq_true rfl⟩ (fun r hr => ?_)
      obtain ⟨v6, rfl, hq5⟩ := hr
      rcases hq5 with ⟨hq5, rfl⟩ | ⟨hq5, rfl⟩
      ·
        refine j_if_eq (tgt := 57) G d10_pull_32 (by decide) (by decide) (fun h7 => absurd h7 (by decide)) (fun h7 => ?_)
        refine j_aload_n G 0 rfl d10_pull_35 ?_
        refine j_iload_n G 3 rfl d10_pull_36 ?_
        refine j_iload G 4 rfl d10_pull_37 ?_
        refine j_VP G (k10_isLoad (xl Γ) E mo ad S d u (by first | assumption | omega | (simp only [upS, reduceIte, Nat.reduceEqDiff, eq_self, List.length_cons, List.length_nil, List.length_append] <;> omega)) (by first | assumption | omega | (simp only [upS, reduceIte, Nat.reduceEqDiff, eq_self, List.length_cons, List.length_nil, List.length_append] <;> omega))) mw10_isLoad ml10_307 [0] rfl 0 10 rfl rfl rfl ⟨Nat.le_of_ble_eq_true rfl, Nat.le_of_ble_eq_true rfl⟩ rfl (rest := []) rfl (Nat.le_of_ble_eq_true rfl) d10_pull_39 ⟨Nat.le_of_ble_eq_true rfl, Nat.le_of_ble_eq_true rfl⟩ (fun r hr => ?_)
        obtain ⟨v9, rfl, hq8⟩ := hr
        rcases hq8 with ⟨hq8, rfl⟩ | ⟨hq8, rfl⟩
        ·
          refine j_if_eq (tgt := 57) G d10_pull_42 (by decide) (by decide) (fun h10 => absurd h10 (by decide)) (fun h10 => ?_)
          refine j_aload_n G 0 rfl d10_pull_45 ?_
          refine j_iload G 5 rfl d10_pull_46 ?_
          refine j_iconst G d10_pull_48 ?_
          refine j_bipush G d10_pull_49 rfl ?_
          refine j_VP G (k10_in (xl Γ) E mo w 0 99 (by first | assumption | omega | (simp only [upS, reduceIte, Nat.reduceEqDiff, eq_self, List.length_cons, List.length_nil, List.length_append] <;> omega)) (by first | assumption | omega | (simp only [upS, reduceIte, Nat.reduceEqDiff, eq_self, List.length_cons, List.length_nil, List.length_append] <;> omega)) (by first | assumption | omega | (simp only [upS, reduceIte, Nat.reduceEqDiff, eq_self, List.length_cons, List.length_nil, List.length_append] <;> omega))) mw10_in ml10_219 [] rfl 0 10 rfl rfl rfl ⟨Nat.le_of_ble_eq_true rfl, Nat.le_of_ble_eq_true rfl⟩ rfl (rest := []) rfl (Nat.le_of_ble_eq_true rfl) d10_pull_51 ⟨Nat.le_of_ble_eq_true rfl, Nat.le_of_ble_eq_true rfl⟩ (fun r hr => ?_)
          obtain ⟨v12, rfl, hq11⟩ := hr
          rcases hq11 with ⟨hq11, rfl⟩ | ⟨hq11, rfl⟩
          ·
            refine j_if_ne (tgt := 61) G d10_pull_54 (by decide) (by decide) (fun h13 => ?_) (fun h13 => absurd h13 (by decide))
            refine j_aload_n G 0 rfl d10_pull_61 ?_
            refine j_iload_n G 1 rfl d10_pull_62 ?_
            refine j_aload_n G 0 rfl d10_pull_63 ?_
            refine j_iconst G d10_pull_64 ?_
            refine j_iload_n G 2 rfl d10_pull_65 ?_
            refine j_VM G (rm' := { frames := 1, cells := 0, slots := 0, locals := 27 }) (wc := [(mo, mO ad S), (ad 6, aInt E 4 cl), (ad 7, aInt E 48 wd), (ad 8, aInt E 48 nu), (ad 9, aInt E 48 fo), (ad 10, aInt E 48 to), (ad 14, aInt E 400 sg), (ad 19, aBoo E 100 pl)]) (wr := [(ad 11, aInt E 36 la), (ad 12, aInt E 4 po), (ad 13, aInt E 20 pt)]) (k10_sum (xl Γ) E mo ad S cl wd nu fo to sg pl Fq 3 step (by first | assumption | omega | (simp only [upS, reduceIte, Nat.reduceEqDiff, eq_self, List.length_cons, List.length_nil, List.length_append] <;> omega)) (by first | assumption | omega | (simp only [upS, reduceIte, Nat.reduceEqDiff, eq_self, List.length_cons, List.length_nil, List.length_append] <;> omega)) (by first | assumption | omega | (simp only [upS, reduceIte, Nat.reduceEqDiff, eq_self, List.length_cons, List.length_nil, List.length_append] <;> omega)) (by first | assumption | omega | (simp only [upS, reduceIte, Nat.reduceEqDiff, eq_self, List.length_cons, List.length_nil, List.length_append] <;> omega)) (by first | assumption | omega | (simp only [upS, reduceIte, Nat.reduceEqDiff, eq_self, List.length_cons, List.length_nil, List.length_append] <;> omega)) (by first | assumption | omega | (simp only [upS, reduceIte, Nat.reduceEqDiff, eq_self, List.length_cons, List.length_nil, List.length_append] <;> omega)) (by first | assumption | omega | (simp only [upS, reduceIte, Nat.reduceEqDiff, eq_self, List.length_cons, List.length_nil, List.length_append] <;> omega))) mw10_sum ml10_296 [0, 4, 5, 6, 7, 8, 9, 10] [1, 2, 3] rfl rfl ⟨rfl, rfl⟩ (by decide) 0 10 rfl rfl rfl ⟨Nat.le_of_ble_eq_true rfl, Nat.le_of_ble_eq_true rfl⟩ rfl (rest := [.int (iZ i), .ref mo]) rfl (Nat.le_of_ble_eq_true rfl) d10_pull_66 ⟨Nat.le_of_ble_eq_true rfl, Nat.le_of_ble_eq_true rfl⟩ (fun r w1 hr => ?_)
            obtain ⟨v15, pl1_16, rfl, rfl, ⟨hq14_0, hq14_1, hq14_2⟩⟩ := hr
            refine j_eq (ws' := [(ad 11, aInt E 36 la), (ad 12, aInt E 4 po), (ad 13, aInt E 20 pt), (mo, mO ad S), (ad 6, aInt E 4 cl), (ad 7, aInt E 48 wd), (ad 8, aInt E 48 nu), (ad 9, aInt E 48 fo), (ad 10, aInt E 48 to), (ad 14, aInt E 400 sg), (ad 19, aBoo E 100 pl1_16)]) rfl rfl rfl ?_
            refine j_iload_n G 3 rfl d10_pull_69 ?_
            refine j_iload G 4 rfl d10_pull_70 ?_
            refine j_iload G 5 rfl d10_pull_72 ?_
            refine j_VP G (k10_pullOf (xl Γ) E mo ad S la po pt i v15 d u w (by first | assumption | omega | (simp only [upS, reduceIte, Nat.reduceEqDiff, eq_self, List.length_cons, List.length_nil, List.length_append] <;> omega)) (by first | assumption | omega | (simp only [upS, reduceIte, Nat.reduceEqDiff, eq_self, List.length_cons, List.length_nil, List.length_append] <;> omega)) (by first | assumption | omega | (simp only [upS, reduceIte, Nat.reduceEqDiff, eq_self, List.length_cons, List.length_nil, List.length_append] <;> omega)) (by first | assumption | omega | (simp only [upS, reduceIte, Nat.reduceEqDiff, eq_self, List.length_cons, List.length_nil, List.length_append] <;> omega)) (by first | assumption | omega | (simp only [upS, reduceIte, Nat.reduceEqDiff, eq_self, List.length_cons, List.length_nil, List.length_append] <;> omega)) (by first | assumption | omega | (simp only [upS, reduceIte, Nat.reduceEqDiff, eq_self, List.length_cons, List.length_nil, List.length_append] <;> omega)) (by first | assumption | omega | (simp only [upS, reduceIte, Nat.reduceEqDiff, eq_self, List.length_cons, List.length_nil, List.length_append] <;> omega))) mw10_pullOf ml10_299 [3, 0, 1, 2] rfl 3 10 rfl rfl rfl ⟨Nat.le_of_ble_eq_true rfl, Nat.le_of_ble_eq_true rfl⟩ rfl (rest := []) rfl (Nat.le_of_ble_eq_true rfl) d10_pull_74 ⟨Nat.le_of_ble_eq_true rfl, Nat.le_of_ble_eq_true rfl⟩ (fun r hr => ?_)
            obtain ⟨v18, rfl, hq17⟩ := hr
            refine j_perm (ws' := [(mo, mO ad S), (ad 11, aInt E 36 la), (ad 12, aInt E 4 po), (ad 13, aInt E 20 pt), (ad 6, aInt E 4 cl), (ad 7, aInt E 48 wd), (ad 8, aInt E 48 nu), (ad 9, aInt E 48 fo), (ad 10, aInt E 48 to), (ad 14, aInt E 400 sg), (ad 19, aBoo E 100 pl1_16)]) [3, 0, 1, 2, 4, 5, 6, 7, 8, 9, 10] rfl rfl rfl ?_
            exact j_lret G F d10_pull_77 ⟨v18, pl1_16, rfl, rfl, (by first | (right; exact ⟨fun q => by obtain ⟨q1, q2, q3, q4, q5⟩ := q; have hx : cM la po (S 1) 1 = po (S 1) := rfl; first | omega | contradiction, rfl, hpl⟩) | (left; refine ⟨⟨by omega, by show 0 ≤ i ∧ i ≤ po (S 1) - 1; omega, by omega, by omega, by omega⟩, ?_, by assumption⟩; subst_vars; rfl))⟩
          ·
            refine j_if_ne (tgt := 61) G d10_pull_54 (by decide) (by decide) (fun h19 => absurd h19 (by decide)) (fun h19 => ?_)
            refine j_ldc2 G (-9223372036854775808) ct10_310 (by decide) d10_pull_57 ?_
            exact j_lret G F d10_pull_60 ⟨(-9223372036854775808), pl, rfl, rfl, (by first | (right; exact ⟨fun q => by obtain ⟨q1, q2, q3, q4, q5⟩ := q; have hx : cM la po (S 1) 1 = po (S 1) := rfl; first | omega | contradiction, rfl, hpl⟩) | (left; refine ⟨⟨by omega, by show 0 ≤ i ∧ i ≤ po (S 1) - 1; omega, by omega, by omega, by omega⟩, ?_, by assumption⟩; subst_vars; rfl))⟩
        ·
          refine j_if_eq (tgt := 57) G d10_pull_42 (by decide) (by decide) (fun h20 => ?_) (fun h20 => absurd h20 (by decide))
          refine j_ldc2 G (-9223372036854775808) ct10_310 (by decide) d10_pull_57 ?_
          exact j_lret G F d10_pull_60 ⟨(-9223372036854775808), pl, rfl, rfl, (by first | (right; exact ⟨fun q => by obtain ⟨q1, q2, q3, q4, q5⟩ := q; have hx : cM la po (S 1) 1 = po (S 1) := rfl; first | omega | contradiction, rfl, hpl⟩) | (left; refine ⟨⟨by omega, by show 0 ≤ i ∧ i ≤ po (S 1) - 1; omega, by omega, by omega, by omega⟩, ?_, by assumption⟩; subst_vars; rfl))⟩
      ·
        refine j_if_eq (tgt := 57) G d10_pull_32 (by decide) (by decide) (fun h21 => ?_) (fun h21 => absurd h21 (by decide))
        refine j_ldc2 G (-9223372036854775808) ct10_310 (by decide) d10_pull_57 ?_
        exact j_lret G F d10_pull_60 ⟨(-9223372036854775808), pl, rfl, rfl, (by first | (right; exact ⟨fun q => by obtain ⟨q1, q2, q3, q4, q5⟩ := q; have hx : cM la po (S 1) 1 = po (S 1) := rfl; first | omega | contradiction, rfl, hpl⟩) | (left; refine ⟨⟨by omega, by show 0 ≤ i ∧ i ≤ po (S 1) - 1; omega, by omega, by omega, by omega⟩, ?_, by assumption⟩; subst_vars; rfl))⟩
    ·
      refine j_if_eq (tgt := 57) G d10_pull_24 (by decide) (by decide) (fun h22 => ?_) (fun h22 => absurd h22 (by decide))
      refine j_ldc2 G (-9223372036854775808) ct10_310 (by decide) d10_pull_57 ?_
      exact j_lret G F d10_pull_60 ⟨(-9223372036854775808), pl, rfl, rfl, (by first | (right; exact ⟨fun q => by obtain ⟨q1, q2, q3, q4, q5⟩ := q; have hx : cM la po (S 1) 1 = po (S 1) := rfl; first | omega | contradiction, rfl, hpl⟩) | (left; refine ⟨⟨by omega, by show 0 ≤ i ∧ i ≤ po (S 1) - 1; omega, by omega, by omega, by omega⟩, ?_, by assumption⟩; subst_vars; rfl))⟩
theorem d10_stops_0 : decode c10_stops 0 = .ok (.aload_n 0, 1) := by decide +kernel
theorem d10_stops_1 : decode c10_stops 1 = .ok (.iload_n 1, 1) := by decide +kernel
theorem d10_stops_2 : decode c10_stops 2 = .ok (.invokevirtual 293, 3) := by decide +kernel
theorem d10_stops_5 : decode c10_stops 5 = .ok (.ifCond .eq 10, 3) := by decide +kernel
theorem d10_stops_8 : decode c10_stops 8 = .ok (.aload_n 0, 1) := by decide +kernel
theorem d10_stops_9 : decode c10_stops 9 = .ok (.getfield 13, 3) := by decide +kernel
theorem d10_stops_12 : decode c10_stops 12 = .ok (.ifCond .ge 5, 3) := by decide +kernel
theorem d10_stops_15 : decode c10_stops 15 = .ok (.iconst (-1), 1) := by decide +kernel
theorem d10_stops_16 : decode c10_stops 16 = .ok (.ireturn, 1) := by decide +kernel
theorem d10_stops_17 : decode c10_stops 17 = .ok (.aload_n 0, 1) := by decide +kernel
theorem d10_stops_18 : decode c10_stops 18 = .ok (.iload_n 2, 1) := by decide +kernel
theorem d10_stops_19 : decode c10_stops 19 = .ok (.iload_n 3, 1) := by decide +kernel
theorem d10_stops_20 : decode c10_stops 20 = .ok (.invokevirtual 307, 3) := by decide +kernel
theorem d10_stops_23 : decode c10_stops 23 = .ok (.ifCond .eq 32, 3) := by decide +kernel
theorem d10_stops_26 : decode c10_stops 26 = .ok (.aload_n 0, 1) := by decide +kernel
theorem d10_stops_27 : decode c10_stops 27 = .ok (.iload 4, 2) := by decide +kernel
theorem d10_stops_29 : decode c10_stops 29 = .ok (.iconst 0, 1) := by decide +kernel
theorem d10_stops_30 : decode c10_stops 30 = .ok (.bipush 99, 2) := by decide +kernel
theorem d10_stops_32 : decode c10_stops 32 = .ok (.invokevirtual 219, 3) := by decide +kernel
theorem d10_stops_35 : decode c10_stops 35 = .ok (.ifCond .eq 20, 3) := by decide +kernel
theorem d10_stops_38 : decode c10_stops 38 = .ok (.aload_n 0, 1) := by decide +kernel
theorem d10_stops_39 : decode c10_stops 39 = .ok (.aload_n 0, 1) := by decide +kernel
theorem d10_stops_40 : decode c10_stops 40 = .ok (.iconst 3, 1) := by decide +kernel
theorem d10_stops_41 : decode c10_stops 41 = .ok (.iload_n 1, 1) := by decide +kernel
theorem d10_stops_42 : decode c10_stops 42 = .ok (.invokevirtual 296, 3) := by decide +kernel
theorem d10_stops_45 : decode c10_stops 45 = .ok (.iload_n 2, 1) := by decide +kernel
theorem d10_stops_46 : decode c10_stops 46 = .ok (.iload_n 3, 1) := by decide +kernel
theorem d10_stops_47 : decode c10_stops 47 = .ok (.iload 4, 2) := by decide +kernel
theorem d10_stops_49 : decode c10_stops 49 = .ok (.invokevirtual 303, 3) := by decide +kernel
theorem d10_stops_52 : decode c10_stops 52 = .ok (.goto 5, 3) := by decide +kernel
theorem d10_stops_55 : decode c10_stops 55 = .ok (.bipush (-2), 2) := by decide +kernel
theorem d10_stops_57 : decode c10_stops 57 = .ok (.ireturn, 1) := by decide +kernel
theorem mw10_stops : MV y10_stops c10_stops 5 (some .int) 4 := ⟨cd10_stops, ini10, na10_stops, im10_stops, se10_stops⟩
set_option maxHeartbeats 4000000 in
set_option maxRecDepth 100000 in
theorem k10_stops (l : Launch) (E : En) (mo : Nat) (ad : Nat → Nat) (S : Nat → Int) (la : Int → Int) (po : Int → Int) (pt : Int → Int) (cl : Int → Int) (wd : Int → Int) (nu : Int → Int) (fo : Int → Int) (to : Int → Int) (sg : Int → Int) (pl : Int → Int) (Fq : Int → Int → Int → Int) (step : Int) (d : Int) (u : Int) (w : Int) (r_step : R32 step) (r_d : R32 d) (r_u : R32 u) (r_w : R32 w) (hth : -1 ≤ S 1 ∧ S 1 ≤ 3) (hms : 0 ≤ S 1 → MSum wd nu fo to sg cl Fq (S 1)) (hwm : 0 ≤ S 1 → wfC (cM la po (S 1)) (pM pt (S 1))) (hsg : ∀ j, 0 ≤ j → j < 400 → -200 ≤ sg j ∧ sg j ≤ 20000) (hpl : ∀ j, 0 ≤ j → j < 100 → 0 ≤ pl j ∧ pl j ≤ 1) (hw : S 20 = 0 ∨ S 20 = 1) : Cm l E y10_stops c10_stops 5 (some .int) { frames := 3, cells := 0, slots := 0, locals := 73 } [.ref mo, .int (iZ step), .int (iZ d), .int (iZ u), .int (iZ w)] [(mo, mO ad S), (ad 11, aInt E 36 la), (ad 12, aInt E 4 po), (ad 13, aInt E 20 pt), (ad 6, aInt E 4 cl), (ad 7, aInt E 48 wd), (ad 8, aInt E 48 nu), (ad 9, aInt E 48 fo), (ad 10, aInt E 48 to), (ad 14, aInt E 400 sg), (ad 19, aBoo E 100 pl)] (fun r ws => ∃ (v : Int), ∃ (pl1 : Int → Int), r = some (.int (iZ v)) ∧ ws = [(mo, mO ad S), (ad 11, aInt E 36 la), (ad 12, aInt E 4 po), (ad 13, aInt E 20 pt), (ad 6, aInt E 4 cl), (ad 7, aInt E 48 wd), (ad 8, aInt E 48 nu), (ad 9, aInt E 48 fo), (ad 10, aInt E 48 to), (ad 14, aInt E 400 sg), (ad 19, aBoo E 100 pl1)] ∧ (v = (if (0 ≤ step ∧ step ≤ 11) ∧ ¬ S 1 < 0 then (if ((0 ≤ d ∧ d ≤ 6) ∧ (0 ≤ u ∧ u ≤ 6)) ∧ (0 ≤ w ∧ w ≤ 99) then stopM (cM la po (S 1)) (pM pt (S 1)) (la (9 * S 1 + 2) * (d - u) + w) (smM wd nu cl Fq (S 1) 3 step (S 20)) else -2) else -1) ∧ ∀ j, 0 ≤ j → j < 100 → 0 ≤ pl1 j ∧ pl1 j ≤ 1)) := by
  refine Cm.of (by decide +kernel) (Nat.le_of_ble_eq_true rfl) (fun Γ A hl hargs hin G F => ?_)
  subst hl
  refine j_aload_n G 0 rfl d10_stops_0 ?_
  refine j_iload_n G 1 rfl d10_stops_1 ?_
  refine j_VP G (k10_isStep (xl Γ) E mo S ad step (by first | assumption | omega | (simp only [upS, reduceIte, Nat.reduceEqDiff, eq_self, List.length_cons, List.length_nil, List.length_append] <;> omega))) mw10_isStep ml10_293 [0] rfl 0 10 rfl rfl rfl ⟨Nat.le_of_ble_eq_true rfl, Nat.le_of_ble_eq_true rfl⟩ rfl (rest := []) rfl (Nat.le_of_ble_eq_true rfl) d10_stops_2 ⟨Nat.le_of_ble_eq_true rfl, Nat.le_of_ble_eq_true rfl⟩ (fun r hr => ?_)
  obtain ⟨v2, rfl, hq1⟩ := hr
  rcases hq1 with ⟨hq1, rfl⟩ | ⟨hq1, rfl⟩
  ·
    refine j_if_eq (tgt := 15) G d10_stops_5 (by decide) (by decide) (fun h3 => absurd h3 (by decide)) (fun h3 => ?_)
    refine j_aload_n G 0 rfl d10_stops_8 ?_
    refine j_get G 0 10 1 in10 fl10_13 d10_stops_9 rfl rfl (by decide) (v := .int (iZ (S 1))) rfl rfl ?_
    refine j_if_ge (tgt := 17) G d10_stops_12 (by decide) (by omega) (fun h4 => ?_) (fun h4 => ?_)
    ·
      have hms1 := hms (by omega)
      have hwm1 := hwm (by omega)
      have hpo : 1 ≤ po (S 1) ∧ po (S 1) ≤ 5 := hwm1.1
      have htk : 0 ≤ la (9 * S 1 + 5) ∧ la (9 * S 1 + 5) ≤ 60 := hwm1.2.2.2.2.2.1
      refine j_aload_n G 0 rfl d10_stops_17 ?_
      refine j_iload_n G 2 rfl d10_stops_18 ?_
      refine j_iload_n G 3 rfl d10_stops_19 ?_
      refine j_VP G (k10_isLoad (xl Γ) E mo ad S d u (by first | assumption | omega | (simp only [upS, reduceIte, Nat.reduceEqDiff, eq_self, List.length_cons, List.length_nil, List.length_append] <;> omega)) (by first | assumption | omega | (simp only [upS, reduceIte, Nat.reduceEqDiff, eq_self, List.length_cons, List.length_nil, List.length_append] <;> omega))) mw10_isLoad ml10_307 [0] rfl 0 10 rfl rfl rfl ⟨Nat.le_of_ble_eq_true rfl, Nat.le_of_ble_eq_true rfl⟩ rfl (rest := []) rfl (Nat.le_of_ble_eq_true rfl) d10_stops_20 ⟨Nat.le_of_ble_eq_true rfl, Nat.le_of_ble_eq_true rfl⟩ (fun r hr => ?_)
      obtain ⟨v6, rfl, hq5⟩ := hr
      rcases hq5 with ⟨hq5, rfl⟩ | ⟨hq5, rfl⟩
      ·
        refine j_if_eq (tgt := 55) G d10_stops_23 (by decide) (by decide) (fun h7 => absurd h7 (by decide)) (fun h7 => ?_)
        refine j_aload_n G 0 rfl d10_stops_26 ?_
        refine j_iload G 4 rfl d10_stops_27 ?_
        refine j_iconst G d10_stops_29 ?_
        refine j_bipush G d10_stops_30 rfl ?_
        refine j_VP G (k10_in (xl Γ) E mo w 0 99 (by first | assumption | omega | (simp only [upS, reduceIte, Nat.reduceEqDiff, eq_self, List.length_cons, List.length_nil, List.length_append] <;> omega)) (by first | assumption | omega | (simp only [upS, reduceIte, Nat.reduceEqDiff, eq_self, List.length_cons, List.length_nil, List.length_append] <;> omega)) (by first | assumption | omega | (simp only [upS, reduceIte, Nat.reduceEqDiff, eq_self, List.length_cons, List.length_nil, List.length_append] <;> omega))) mw10_in ml10_219 [] rfl 0 10 rfl rfl rfl ⟨Nat.le_of_ble_eq_true rfl, Nat.le_of_ble_eq_true rfl⟩ rfl (rest := []) rfl (Nat.le_of_ble_eq_true rfl) d10_stops_32 ⟨Nat.le_of_ble_eq_true rfl, Nat.le_of_ble_eq_true rfl⟩ (fun r hr => ?_)
        obtain ⟨v9, rfl, hq8⟩ := hr
        rcases hq8 with ⟨hq8, rfl⟩ | ⟨hq8, rfl⟩
        ·
          refine j_if_eq (tgt := 55) G d10_stops_35 (by decide) (by decide) (fun h10 => absurd h10 (by decide)) (fun h10 => ?_)
          refine j_aload_n G 0 rfl d10_stops_38 ?_
          refine j_aload_n G 0 rfl d10_stops_39 ?_
          refine j_iconst G d10_stops_40 ?_
          refine j_iload_n G 1 rfl d10_stops_41 ?_
          refine j_VM G (rm' := { frames := 1, cells := 0, slots := 0, locals := 27 }) (wc := [(mo, mO ad S), (ad 6, aInt E 4 cl), (ad 7, aInt E 48 wd), (ad 8, aInt E 48 nu), (ad 9, aInt E 48 fo), (ad 10, aInt E 48 to), (ad 14, aInt E 400 sg), (ad 19, aBoo E 100 pl)]) (wr := [(ad 11, aInt E 36 la), (ad 12, aInt E 4 po), (ad 13, aInt E 20 pt)]) (k10_sum (xl Γ) E mo ad S cl wd nu fo to sg pl Fq 3 step (by first | assumption | omega | (simp only [upS, reduceIte, Nat.reduceEqDiff, eq_self, List.length_cons, List.length_nil, List.length_append] <;> omega)) (by first | assumption | omega | (simp only [upS, reduceIte, Nat.reduceEqDiff, eq_self, List.length_cons, List.length_nil, List.length_append] <;> omega)) (by first | assumption | omega | (simp only [upS, reduceIte, Nat.reduceEqDiff, eq_self, List.length_cons, List.length_nil, List.length_append] <;> omega)) (by first | assumption | omega | (simp only [upS, reduceIte, Nat.reduceEqDiff, eq_self, List.length_cons, List.length_nil, List.length_append] <;> omega)) (by first | assumption | omega | (simp only [upS, reduceIte, Nat.reduceEqDiff, eq_self, List.length_cons, List.length_nil, List.length_append] <;> omega)) (by first | assumption | omega | (simp only [upS, reduceIte, Nat.reduceEqDiff, eq_self, List.length_cons, List.length_nil, List.length_append] <;> omega)) (by first | assumption | omega | (simp only [upS, reduceIte, Nat.reduceEqDiff, eq_self, List.length_cons, List.length_nil, List.length_append] <;> omega))) mw10_sum ml10_296 [0, 4, 5, 6, 7, 8, 9, 10] [1, 2, 3] rfl rfl ⟨rfl, rfl⟩ (by decide) 0 10 rfl rfl rfl ⟨Nat.le_of_ble_eq_true rfl, Nat.le_of_ble_eq_true rfl⟩ rfl (rest := [.ref mo]) rfl (Nat.le_of_ble_eq_true rfl) d10_stops_42 ⟨Nat.le_of_ble_eq_true rfl, Nat.le_of_ble_eq_true rfl⟩ (fun r w1 hr => ?_)
          obtain ⟨v12, pl1_13, rfl, rfl, ⟨hq11_0, hq11_1, hq11_2⟩⟩ := hr
          refine j_eq (ws' := [(ad 11, aInt E 36 la), (ad 12, aInt E 4 po), (ad 13, aInt E 20 pt), (mo, mO ad S), (ad 6, aInt E 4 cl), (ad 7, aInt E 48 wd), (ad 8, aInt E 48 nu), (ad 9, aInt E 48 fo), (ad 10, aInt E 48 to), (ad 14, aInt E 400 sg), (ad 19, aBoo E 100 pl1_13)]) rfl rfl rfl ?_
          refine j_iload_n G 2 rfl d10_stops_45 ?_
          refine j_iload_n G 3 rfl d10_stops_46 ?_
          refine j_iload G 4 rfl d10_stops_47 ?_
          refine j_VP G (k10_stopsBy (xl Γ) E mo ad S la po pt v12 d u w (by first | assumption | omega | (simp only [upS, reduceIte, Nat.reduceEqDiff, eq_self, List.length_cons, List.length_nil, List.length_append] <;> omega)) (by first | assumption | omega | (simp only [upS, reduceIte, Nat.reduceEqDiff, eq_self, List.length_cons, List.length_nil, List.length_append] <;> omega)) (by first | assumption | omega | (simp only [upS, reduceIte, Nat.reduceEqDiff, eq_self, List.length_cons, List.length_nil, List.length_append] <;> omega)) (by first | assumption | omega | (simp only [upS, reduceIte, Nat.reduceEqDiff, eq_self, List.length_cons, List.length_nil, List.length_append] <;> omega)) (by first | assumption | omega | (simp only [upS, reduceIte, Nat.reduceEqDiff, eq_self, List.length_cons, List.length_nil, List.length_append] <;> omega)) (by first | assumption | omega | (simp only [upS, reduceIte, Nat.reduceEqDiff, eq_self, List.length_cons, List.length_nil, List.length_append] <;> omega))) mw10_stopsBy ml10_303 [3, 0, 1, 2] rfl 3 10 rfl rfl rfl ⟨Nat.le_of_ble_eq_true rfl, Nat.le_of_ble_eq_true rfl⟩ rfl (rest := []) rfl (Nat.le_of_ble_eq_true rfl) d10_stops_49 ⟨Nat.le_of_ble_eq_true rfl, Nat.le_of_ble_eq_true rfl⟩ (fun r hr => ?_)
          obtain ⟨v15, rfl, hq14⟩ := hr
          refine j_goto (tgt := 57) G d10_stops_52 (by decide) ?_
          refine j_perm (ws' := [(mo, mO ad S), (ad 11, aInt E 36 la), (ad 12, aInt E 4 po), (ad 13, aInt E 20 pt), (ad 6, aInt E 4 cl), (ad 7, aInt E 48 wd), (ad 8, aInt E 48 nu), (ad 9, aInt E 48 fo), (ad 10, aInt E 48 to), (ad 14, aInt E 400 sg), (ad 19, aBoo E 100 pl1_13)]) [3, 0, 1, 2, 4, 5, 6, 7, 8, 9, 10] rfl rfl rfl ?_
          exact j_iret G F d10_stops_57 ⟨v15, pl1_13, rfl, rfl, (by refine ⟨?_, by assumption⟩; first | (rw [if_neg (by omega)]; done) | (rw [if_pos (by omega), if_neg (by omega)]; done) | (rw [if_pos (by omega), if_pos (by omega)]; subst_vars; rfl))⟩
        ·
          refine j_if_eq (tgt := 55) G d10_stops_35 (by decide) (by decide) (fun h16 => ?_) (fun h16 => absurd h16 (by decide))
          refine j_bipush G d10_stops_55 rfl ?_
          exact j_iret G F d10_stops_57 ⟨(-2), pl, rfl, rfl, (by refine ⟨?_, by assumption⟩; first | (rw [if_neg (by omega)]; done) | (rw [if_pos (by omega), if_neg (by omega)]; done) | (rw [if_pos (by omega), if_pos (by omega)]; subst_vars; rfl))⟩
      ·
        refine j_if_eq (tgt := 55) G d10_stops_23 (by decide) (by decide) (fun h17 => ?_) (fun h17 => absurd h17 (by decide))
        refine j_bipush G d10_stops_55 rfl ?_
        exact j_iret G F d10_stops_57 ⟨(-2), pl, rfl, rfl, (by refine ⟨?_, by assumption⟩; first | (rw [if_neg (by omega)]; done) | (rw [if_pos (by omega), if_neg (by omega)]; done) | (rw [if_pos (by omega), if_pos (by omega)]; subst_vars; rfl))⟩
    ·
      refine j_iconst G d10_stops_15 ?_
      exact j_iret G F d10_stops_16 ⟨(-1), pl, rfl, rfl, (by refine ⟨?_, by assumption⟩; first | (rw [if_neg (by omega)]; done) | (rw [if_pos (by omega), if_neg (by omega)]; done) | (rw [if_pos (by omega), if_pos (by omega)]; subst_vars; rfl))⟩
  ·
    refine j_if_eq (tgt := 15) G d10_stops_5 (by decide) (by decide) (fun h18 => ?_) (fun h18 => absurd h18 (by decide))
    refine j_iconst G d10_stops_15 ?_
    exact j_iret G F d10_stops_16 ⟨(-1), pl, rfl, rfl, (by refine ⟨?_, by assumption⟩; first | (rw [if_neg (by omega)]; done) | (rw [if_pos (by omega), if_neg (by omega)]; done) | (rw [if_pos (by omega), if_pos (by omega)]; subst_vars; rfl))⟩
theorem d10_least_0 : decode c10_least 0 = .ok (.aload_n 0, 1) := by decide +kernel
theorem d10_least_1 : decode c10_least 1 = .ok (.iload_n 1, 1) := by decide +kernel
theorem d10_least_2 : decode c10_least 2 = .ok (.invokevirtual 293, 3) := by decide +kernel
theorem d10_least_5 : decode c10_least 5 = .ok (.ifCond .eq 10, 3) := by decide +kernel
theorem d10_least_8 : decode c10_least 8 = .ok (.aload_n 0, 1) := by decide +kernel
theorem d10_least_9 : decode c10_least 9 = .ok (.getfield 13, 3) := by decide +kernel
theorem d10_least_12 : decode c10_least 12 = .ok (.ifCond .ge 5, 3) := by decide +kernel
theorem d10_least_15 : decode c10_least 15 = .ok (.iconst (-1), 1) := by decide +kernel
theorem d10_least_16 : decode c10_least 16 = .ok (.ireturn, 1) := by decide +kernel
theorem d10_least_17 : decode c10_least 17 = .ok (.aload_n 0, 1) := by decide +kernel
theorem d10_least_18 : decode c10_least 18 = .ok (.iload_n 2, 1) := by decide +kernel
theorem d10_least_19 : decode c10_least 19 = .ok (.iload_n 3, 1) := by decide +kernel
theorem d10_least_20 : decode c10_least 20 = .ok (.invokevirtual 307, 3) := by decide +kernel
theorem d10_least_23 : decode c10_least 23 = .ok (.ifCond .eq 23, 3) := by decide +kernel
theorem d10_least_26 : decode c10_least 26 = .ok (.aload_n 0, 1) := by decide +kernel
theorem d10_least_27 : decode c10_least 27 = .ok (.aload_n 0, 1) := by decide +kernel
theorem d10_least_28 : decode c10_least 28 = .ok (.iconst 3, 1) := by decide +kernel
theorem d10_least_29 : decode c10_least 29 = .ok (.iload_n 1, 1) := by decide +kernel
theorem d10_least_30 : decode c10_least 30 = .ok (.invokevirtual 296, 3) := by decide +kernel
theorem d10_least_33 : decode c10_least 33 = .ok (.iload_n 2, 1) := by decide +kernel
theorem d10_least_34 : decode c10_least 34 = .ok (.iload_n 3, 1) := by decide +kernel
theorem d10_least_35 : decode c10_least 35 = .ok (.aload_n 0, 1) := by decide +kernel
theorem d10_least_36 : decode c10_least 36 = .ok (.iconst 5, 1) := by decide +kernel
theorem d10_least_37 : decode c10_least 37 = .ok (.invokevirtual 286, 3) := by decide +kernel
theorem d10_least_40 : decode c10_least 40 = .ok (.invokevirtual 312, 3) := by decide +kernel
theorem d10_least_43 : decode c10_least 43 = .ok (.goto 5, 3) := by decide +kernel
theorem d10_least_46 : decode c10_least 46 = .ok (.bipush (-2), 2) := by decide +kernel
theorem d10_least_48 : decode c10_least 48 = .ok (.ireturn, 1) := by decide +kernel
theorem mw10_least : MV y10_least c10_least 4 (some .int) 3 := ⟨cd10_least, ini10, na10_least, im10_least, se10_least⟩
set_option maxHeartbeats 4000000 in
set_option maxRecDepth 100000 in
theorem k10_least (l : Launch) (E : En) (mo : Nat) (ad : Nat → Nat) (S : Nat → Int) (la : Int → Int) (po : Int → Int) (pt : Int → Int) (cl : Int → Int) (wd : Int → Int) (nu : Int → Int) (fo : Int → Int) (to : Int → Int) (sg : Int → Int) (pl : Int → Int) (Fq : Int → Int → Int → Int) (step : Int) (d : Int) (u : Int) (r_step : R32 step) (r_d : R32 d) (r_u : R32 u) (hth : -1 ≤ S 1 ∧ S 1 ≤ 3) (hms : 0 ≤ S 1 → MSum wd nu fo to sg cl Fq (S 1)) (hwm : 0 ≤ S 1 → wfC (cM la po (S 1)) (pM pt (S 1))) (hsg : ∀ j, 0 ≤ j → j < 400 → -200 ≤ sg j ∧ sg j ≤ 20000) (hpl : ∀ j, 0 ≤ j → j < 100 → 0 ≤ pl j ∧ pl j ≤ 1) (hw : S 20 = 0 ∨ S 20 = 1) : Cm l E y10_least c10_least 4 (some .int) { frames := 4, cells := 0, slots := 0, locals := 98 } [.ref mo, .int (iZ step), .int (iZ d), .int (iZ u)] [(mo, mO ad S), (ad 11, aInt E 36 la), (ad 12, aInt E 4 po), (ad 13, aInt E 20 pt), (ad 6, aInt E 4 cl), (ad 7, aInt E 48 wd), (ad 8, aInt E 48 nu), (ad 9, aInt E 48 fo), (ad 10, aInt E 48 to), (ad 14, aInt E 400 sg), (ad 19, aBoo E 100 pl)] (fun r ws => ∃ (v : Int), ∃ (pl1 : Int → Int), r = some (.int (iZ v)) ∧ ws = [(mo, mO ad S), (ad 11, aInt E 36 la), (ad 12, aInt E 4 po), (ad 13, aInt E 20 pt), (ad 6, aInt E 4 cl), (ad 7, aInt E 48 wd), (ad 8, aInt E 48 nu), (ad 9, aInt E 48 fo), (ad 10, aInt E 48 to), (ad 14, aInt E 400 sg), (ad 19, aBoo E 100 pl1)] ∧ (v = (if (0 ≤ step ∧ step ≤ 11) ∧ ¬ S 1 < 0 then (if ((0 ≤ d ∧ d ≤ 6) ∧ (0 ≤ u ∧ u ≤ 6)) then lF (cM la po (S 1)) (pM pt (S 1)) (smM wd nu cl Fq (S 1) 3 step (S 20)) (d - u) (la (9 * S 1 + 5)) else -2) else -1) ∧ ∀ j, 0 ≤ j → j < 100 → 0 ≤ pl1 j ∧ pl1 j ≤ 1)) := by
  refine Cm.of (by decide +kernel) (Nat.le_of_ble_eq_true rfl) (fun Γ A hl hargs hin G F => ?_)
  subst hl
  refine j_aload_n G 0 rfl d10_least_0 ?_
  refine j_iload_n G 1 rfl d10_least_1 ?_
  refine j_VP G (k10_isStep (xl Γ) E mo S ad step (by first | assumption | omega | (simp only [upS, reduceIte, Nat.reduceEqDiff, eq_self, List.length_cons, List.length_nil, List.length_append] <;> omega))) mw10_isStep ml10_293 [0] rfl 0 10 rfl rfl rfl ⟨Nat.le_of_ble_eq_true rfl, Nat.le_of_ble_eq_true rfl⟩ rfl (rest := []) rfl (Nat.le_of_ble_eq_true rfl) d10_least_2 ⟨Nat.le_of_ble_eq_true rfl, Nat.le_of_ble_eq_true rfl⟩ (fun r hr => ?_)
  obtain ⟨v2, rfl, hq1⟩ := hr
  rcases hq1 with ⟨hq1, rfl⟩ | ⟨hq1, rfl⟩
  ·
    refine j_if_eq (tgt := 15) G d10_least_5 (by decide) (by decide) (fun h3 => absurd h3 (by decide)) (fun h3 => ?_)
    refine j_aload_n G 0 rfl d10_least_8 ?_
    refine j_get G 0 10 1 in10 fl10_13 d10_least_9 rfl rfl (by decide) (v := .int (iZ (S 1))) rfl rfl ?_
    refine j_if_ge (tgt := 17) G d10_least_12 (by decide) (by omega) (fun h4 => ?_) (fun h4 => ?_)
    ·
      have hms1 := hms (by omega)
      have hwm1 := hwm (by omega)
      have hpo : 1 ≤ po (S 1) ∧ po (S 1) ≤ 5 := hwm1.1
      have htk : 0 ≤ la (9 * S 1 + 5) ∧ la (9 * S 1 + 5) ≤ 60 := hwm1.2.2.2.2.2.1
      refine j_aload_n G 0 rfl d10_least_17 ?_
      refine j_iload_n G 2 rfl d10_least_18 ?_
      refine j_iload_n G 3 rfl d10_least_19 ?_
      refine j_VP G (k10_isLoad (xl Γ) E mo ad S d u (by first | assumption | omega | (simp only [upS, reduceIte, Nat.reduceEqDiff, eq_self, List.length_cons, List.length_nil, List.length_append] <;> omega)) (by first | assumption | omega | (simp only [upS, reduceIte, Nat.reduceEqDiff, eq_self, List.length_cons, List.length_nil, List.length_append] <;> omega))) mw10_isLoad ml10_307 [0] rfl 0 10 rfl rfl rfl ⟨Nat.le_of_ble_eq_true rfl, Nat.le_of_ble_eq_true rfl⟩ rfl (rest := []) rfl (Nat.le_of_ble_eq_true rfl) d10_least_20 ⟨Nat.le_of_ble_eq_true rfl, Nat.le_of_ble_eq_true rfl⟩ (fun r hr => ?_)
      obtain ⟨v6, rfl, hq5⟩ := hr
      rcases hq5 with ⟨hq5, rfl⟩ | ⟨hq5, rfl⟩
      ·
        refine j_if_eq (tgt := 46) G d10_least_23 (by decide) (by decide) (fun h7 => absurd h7 (by decide)) (fun h7 => ?_)
        refine j_aload_n G 0 rfl d10_least_26 ?_
        refine j_aload_n G 0 rfl d10_least_27 ?_
        refine j_iconst G d10_least_28 ?_
        refine j_iload_n G 1 rfl d10_least_29 ?_
        refine j_VM G (rm' := { frames := 1, cells := 0, slots := 0, locals := 27 }) (wc := [(mo, mO ad S), (ad 6, aInt E 4 cl), (ad 7, aInt E 48 wd), (ad 8, aInt E 48 nu), (ad 9, aInt E 48 fo), (ad 10, aInt E 48 to), (ad 14, aInt E 400 sg), (ad 19, aBoo E 100 pl)]) (wr := [(ad 11, aInt E 36 la), (ad 12, aInt E 4 po), (ad 13, aInt E 20 pt)]) (k10_sum (xl Γ) E mo ad S cl wd nu fo to sg pl Fq 3 step (by first | assumption | omega | (simp only [upS, reduceIte, Nat.reduceEqDiff, eq_self, List.length_cons, List.length_nil, List.length_append] <;> omega)) (by first | assumption | omega | (simp only [upS, reduceIte, Nat.reduceEqDiff, eq_self, List.length_cons, List.length_nil, List.length_append] <;> omega)) (by first | assumption | omega | (simp only [upS, reduceIte, Nat.reduceEqDiff, eq_self, List.length_cons, List.length_nil, List.length_append] <;> omega)) (by first | assumption | omega | (simp only [upS, reduceIte, Nat.reduceEqDiff, eq_self, List.length_cons, List.length_nil, List.length_append] <;> omega)) (by first | assumption | omega | (simp only [upS, reduceIte, Nat.reduceEqDiff, eq_self, List.length_cons, List.length_nil, List.length_append] <;> omega)) (by first | assumption | omega | (simp only [upS, reduceIte, Nat.reduceEqDiff, eq_self, List.length_cons, List.length_nil, List.length_append] <;> omega)) (by first | assumption | omega | (simp only [upS, reduceIte, Nat.reduceEqDiff, eq_self, List.length_cons, List.length_nil, List.length_append] <;> omega))) mw10_sum ml10_296 [0, 4, 5, 6, 7, 8, 9, 10] [1, 2, 3] rfl rfl ⟨rfl, rfl⟩ (by decide) 0 10 rfl rfl rfl ⟨Nat.le_of_ble_eq_true rfl, Nat.le_of_ble_eq_true rfl⟩ rfl (rest := [.ref mo]) rfl (Nat.le_of_ble_eq_true rfl) d10_least_30 ⟨Nat.le_of_ble_eq_true rfl, Nat.le_of_ble_eq_true rfl⟩ (fun r w1 hr => ?_)
        obtain ⟨v9, pl1_10, rfl, rfl, ⟨hq8_0, hq8_1, hq8_2⟩⟩ := hr
        refine j_eq (ws' := [(ad 11, aInt E 36 la), (ad 12, aInt E 4 po), (ad 13, aInt E 20 pt), (mo, mO ad S), (ad 6, aInt E 4 cl), (ad 7, aInt E 48 wd), (ad 8, aInt E 48 nu), (ad 9, aInt E 48 fo), (ad 10, aInt E 48 to), (ad 14, aInt E 400 sg), (ad 19, aBoo E 100 pl1_10)]) rfl rfl rfl ?_
        refine j_iload_n G 2 rfl d10_least_33 ?_
        refine j_iload_n G 3 rfl d10_least_34 ?_
        refine j_aload_n G 0 rfl d10_least_35 ?_
        refine j_iconst G d10_least_36 ?_
        refine j_VP G (k10_lastOf (xl Γ) E mo ad S la 5 (by first | assumption | omega | (simp only [upS, reduceIte, Nat.reduceEqDiff, eq_self, List.length_cons, List.length_nil, List.length_append] <;> omega)) (by first | assumption | omega | (simp only [upS, reduceIte, Nat.reduceEqDiff, eq_self, List.length_cons, List.length_nil, List.length_append] <;> omega))) mw10_lastOf ml10_286 [3, 0] rfl 3 10 rfl rfl rfl ⟨Nat.le_of_ble_eq_true rfl, Nat.le_of_ble_eq_true rfl⟩ rfl (rest := [.int (iZ u), .int (iZ d), .int (iZ v9), .ref mo]) rfl (Nat.le_of_ble_eq_true rfl) d10_least_37 ⟨Nat.le_of_ble_eq_true rfl, Nat.le_of_ble_eq_true rfl⟩ (fun r hr => ?_)
        obtain ⟨_, rfl, rfl⟩ := hr
        refine j_VP G (k10_leastBy (xl Γ) E mo ad S la po pt v9 d u (la (9 * (S 1) + 5)) (by first | assumption | omega | (simp only [upS, reduceIte, Nat.reduceEqDiff, eq_self, List.length_cons, List.length_nil, List.length_append] <;> omega)) (by first | assumption | omega | (simp only [upS, reduceIte, Nat.reduceEqDiff, eq_self, List.length_cons, List.length_nil, List.length_append] <;> omega)) (by first | assumption | omega | (simp only [upS, reduceIte, Nat.reduceEqDiff, eq_self, List.length_cons, List.length_nil, List.length_append] <;> omega)) (by first | assumption | omega | (simp only [upS, reduceIte, Nat.reduceEqDiff, eq_self, List.length_cons, List.length_nil, List.length_append] <;> omega)) (by first | assumption | omega | (simp only [upS, reduceIte, Nat.reduceEqDiff, eq_self, List.length_cons, List.length_nil, List.length_append] <;> omega)) (by first | assumption | omega | (simp only [upS, reduceIte, Nat.reduceEqDiff, eq_self, List.length_cons, List.length_nil, List.length_append] <;> omega))) mw10_leastBy ml10_312 [3, 0, 1, 2] rfl 3 10 rfl rfl rfl ⟨Nat.le_of_ble_eq_true rfl, Nat.le_of_ble_eq_true rfl⟩ rfl (rest := []) rfl (Nat.le_of_ble_eq_true rfl) d10_least_40 ⟨Nat.le_of_ble_eq_true rfl, Nat.le_of_ble_eq_true rfl⟩ (fun r hr => ?_)
        obtain ⟨v13, rfl, hq12⟩ := hr
        refine j_goto (tgt := 48) G d10_least_43 (by decide) ?_
        refine j_perm (ws' := [(mo, mO ad S), (ad 11, aInt E 36 la), (ad 12, aInt E 4 po), (ad 13, aInt E 20 pt), (ad 6, aInt E 4 cl), (ad 7, aInt E 48 wd), (ad 8, aInt E 48 nu), (ad 9, aInt E 48 fo), (ad 10, aInt E 48 to), (ad 14, aInt E 400 sg), (ad 19, aBoo E 100 pl1_10)]) [3, 0, 1, 2, 4, 5, 6, 7, 8, 9, 10] rfl rfl rfl ?_
        exact j_iret G F d10_least_48 ⟨v13, pl1_10, rfl, rfl, (by refine ⟨?_, by assumption⟩; first | (rw [if_neg (by omega)]; done) | (rw [if_pos (by omega), if_neg (by omega)]; done) | (rw [if_pos (by omega), if_pos (by omega)]; subst_vars; exact isL_lF (by assumption)))⟩
      ·
        refine j_if_eq (tgt := 46) G d10_least_23 (by decide) (by decide) (fun h14 => ?_) (fun h14 => absurd h14 (by decide))
        refine j_bipush G d10_least_46 rfl ?_
        exact j_iret G F d10_least_48 ⟨(-2), pl, rfl, rfl, (by refine ⟨?_, by assumption⟩; first | (rw [if_neg (by omega)]; done) | (rw [if_pos (by omega), if_neg (by omega)]; done) | (rw [if_pos (by omega), if_pos (by omega)]; subst_vars; exact isL_lF (by assumption)))⟩
    ·
      refine j_iconst G d10_least_15 ?_
      exact j_iret G F d10_least_16 ⟨(-1), pl, rfl, rfl, (by refine ⟨?_, by assumption⟩; first | (rw [if_neg (by omega)]; done) | (rw [if_pos (by omega), if_neg (by omega)]; done) | (rw [if_pos (by omega), if_pos (by omega)]; subst_vars; exact isL_lF (by assumption)))⟩
  ·
    refine j_if_eq (tgt := 15) G d10_least_5 (by decide) (by decide) (fun h15 => ?_) (fun h15 => absurd h15 (by decide))
    refine j_iconst G d10_least_15 ?_
    exact j_iret G F d10_least_16 ⟨(-1), pl, rfl, rfl, (by refine ⟨?_, by assumption⟩; first | (rw [if_neg (by omega)]; done) | (rw [if_pos (by omega), if_neg (by omega)]; done) | (rw [if_pos (by omega), if_pos (by omega)]; subst_vars; exact isL_lF (by assumption)))⟩
theorem d10_jump_0 : decode c10_jump 0 = .ok (.aload_n 0, 1) := by decide +kernel
theorem d10_jump_1 : decode c10_jump 1 = .ok (.iload_n 1, 1) := by decide +kernel
theorem d10_jump_2 : decode c10_jump 2 = .ok (.invokevirtual 293, 3) := by decide +kernel
theorem d10_jump_5 : decode c10_jump 5 = .ok (.ifCond .eq 10, 3) := by decide +kernel
theorem d10_jump_8 : decode c10_jump 8 = .ok (.aload_n 0, 1) := by decide +kernel
theorem d10_jump_9 : decode c10_jump 9 = .ok (.getfield 13, 3) := by decide +kernel
theorem d10_jump_12 : decode c10_jump 12 = .ok (.ifCond .ge 5, 3) := by decide +kernel
theorem d10_jump_15 : decode c10_jump 15 = .ok (.iconst (-1), 1) := by decide +kernel
theorem d10_jump_16 : decode c10_jump 16 = .ok (.ireturn, 1) := by decide +kernel
theorem d10_jump_17 : decode c10_jump 17 = .ok (.aload_n 0, 1) := by decide +kernel
theorem d10_jump_18 : decode c10_jump 18 = .ok (.iload_n 2, 1) := by decide +kernel
theorem d10_jump_19 : decode c10_jump 19 = .ok (.iload_n 3, 1) := by decide +kernel
theorem d10_jump_20 : decode c10_jump 20 = .ok (.invokevirtual 307, 3) := by decide +kernel
theorem d10_jump_23 : decode c10_jump 23 = .ok (.ifCond .ne 6, 3) := by decide +kernel
theorem d10_jump_26 : decode c10_jump 26 = .ok (.bipush (-2), 2) := by decide +kernel
theorem d10_jump_28 : decode c10_jump 28 = .ok (.ireturn, 1) := by decide +kernel
theorem d10_jump_29 : decode c10_jump 29 = .ok (.aload_n 0, 1) := by decide +kernel
theorem d10_jump_30 : decode c10_jump 30 = .ok (.iconst 3, 1) := by decide +kernel
theorem d10_jump_31 : decode c10_jump 31 = .ok (.iload_n 1, 1) := by decide +kernel
theorem d10_jump_32 : decode c10_jump 32 = .ok (.invokevirtual 296, 3) := by decide +kernel
theorem d10_jump_35 : decode c10_jump 35 = .ok (.istore 4, 2) := by decide +kernel
theorem d10_jump_37 : decode c10_jump 37 = .ok (.aload_n 0, 1) := by decide +kernel
theorem d10_jump_38 : decode c10_jump 38 = .ok (.iload 4, 2) := by decide +kernel
theorem d10_jump_40 : decode c10_jump 40 = .ok (.iload_n 2, 1) := by decide +kernel
theorem d10_jump_41 : decode c10_jump 41 = .ok (.iload_n 3, 1) := by decide +kernel
theorem d10_jump_42 : decode c10_jump 42 = .ok (.aload_n 0, 1) := by decide +kernel
theorem d10_jump_43 : decode c10_jump 43 = .ok (.iconst 5, 1) := by decide +kernel
theorem d10_jump_44 : decode c10_jump 44 = .ok (.invokevirtual 286, 3) := by decide +kernel
theorem d10_jump_47 : decode c10_jump 47 = .ok (.invokevirtual 312, 3) := by decide +kernel
theorem d10_jump_50 : decode c10_jump 50 = .ok (.istore 5, 2) := by decide +kernel
theorem d10_jump_52 : decode c10_jump 52 = .ok (.iconst 1, 1) := by decide +kernel
theorem d10_jump_53 : decode c10_jump 53 = .ok (.istore 6, 2) := by decide +kernel
theorem d10_jump_55 : decode c10_jump 55 = .ok (.iload 6, 2) := by decide +kernel
theorem d10_jump_57 : decode c10_jump 57 = .ok (.bipush 100, 2) := by decide +kernel
theorem d10_jump_59 : decode c10_jump 59 = .ok (.if_icmp .ge 33, 3) := by decide +kernel
theorem d10_jump_62 : decode c10_jump 62 = .ok (.aload_n 0, 1) := by decide +kernel
theorem d10_jump_63 : decode c10_jump 63 = .ok (.iload 4, 2) := by decide +kernel
theorem d10_jump_65 : decode c10_jump 65 = .ok (.iload 6, 2) := by decide +kernel
theorem d10_jump_67 : decode c10_jump 67 = .ok (.iadd, 1) := by decide +kernel
theorem d10_jump_68 : decode c10_jump 68 = .ok (.iload_n 2, 1) := by decide +kernel
theorem d10_jump_69 : decode c10_jump 69 = .ok (.iload_n 3, 1) := by decide +kernel
theorem d10_jump_70 : decode c10_jump 70 = .ok (.aload_n 0, 1) := by decide +kernel
theorem d10_jump_71 : decode c10_jump 71 = .ok (.iconst 5, 1) := by decide +kernel
theorem d10_jump_72 : decode c10_jump 72 = .ok (.invokevirtual 286, 3) := by decide +kernel
theorem d10_jump_75 : decode c10_jump 75 = .ok (.invokevirtual 312, 3) := by decide +kernel
theorem d10_jump_78 : decode c10_jump 78 = .ok (.iload 5, 2) := by decide +kernel
theorem d10_jump_80 : decode c10_jump 80 = .ok (.if_icmp .eq 6, 3) := by decide +kernel
theorem d10_jump_83 : decode c10_jump 83 = .ok (.iload 6, 2) := by decide +kernel
theorem d10_jump_85 : decode c10_jump 85 = .ok (.ireturn, 1) := by decide +kernel
theorem d10_jump_86 : decode c10_jump 86 = .ok (.iinc 6 1, 3) := by decide +kernel
theorem d10_jump_89 : decode c10_jump 89 = .ok (.goto (-34), 3) := by decide +kernel
theorem d10_jump_92 : decode c10_jump 92 = .ok (.iconst 0, 1) := by decide +kernel
theorem d10_jump_93 : decode c10_jump 93 = .ok (.ireturn, 1) := by decide +kernel
theorem mw10_jump : MV y10_jump c10_jump 7 (some .int) 3 := ⟨cd10_jump, ini10, na10_jump, im10_jump, se10_jump⟩
set_option maxHeartbeats 4000000 in
set_option maxRecDepth 100000 in
theorem k10_jump (l : Launch) (E : En) (mo : Nat) (ad : Nat → Nat) (S : Nat → Int) (la : Int → Int) (po : Int → Int) (pt : Int → Int) (cl : Int → Int) (wd : Int → Int) (nu : Int → Int) (fo : Int → Int) (to : Int → Int) (sg : Int → Int) (pl : Int → Int) (Fq : Int → Int → Int → Int) (step : Int) (d : Int) (u : Int) (r_step : R32 step) (r_d : R32 d) (r_u : R32 u) (hth : -1 ≤ S 1 ∧ S 1 ≤ 3) (hms : 0 ≤ S 1 → MSum wd nu fo to sg cl Fq (S 1)) (hwm : 0 ≤ S 1 → wfC (cM la po (S 1)) (pM pt (S 1))) (hsg : ∀ j, 0 ≤ j → j < 400 → -200 ≤ sg j ∧ sg j ≤ 20000) (hpl : ∀ j, 0 ≤ j → j < 100 → 0 ≤ pl j ∧ pl j ≤ 1) (hw : S 20 = 0 ∨ S 20 = 1) : Cm l E y10_jump c10_jump 7 (some .int) { frames := 4, cells := 0, slots := 0, locals := 98 } [.ref mo, .int (iZ step), .int (iZ d), .int (iZ u)] [(mo, mO ad S), (ad 11, aInt E 36 la), (ad 12, aInt E 4 po), (ad 13, aInt E 20 pt), (ad 6, aInt E 4 cl), (ad 7, aInt E 48 wd), (ad 8, aInt E 48 nu), (ad 9, aInt E 48 fo), (ad 10, aInt E 48 to), (ad 14, aInt E 400 sg), (ad 19, aBoo E 100 pl)] (fun r ws => ∃ (v : Int), ∃ (pl1 : Int → Int), r = some (.int (iZ v)) ∧ ws = [(mo, mO ad S), (ad 11, aInt E 36 la), (ad 12, aInt E 4 po), (ad 13, aInt E 20 pt), (ad 6, aInt E 4 cl), (ad 7, aInt E 48 wd), (ad 8, aInt E 48 nu), (ad 9, aInt E 48 fo), (ad 10, aInt E 48 to), (ad 14, aInt E 400 sg), (ad 19, aBoo E 100 pl1)] ∧ (v = (if (0 ≤ step ∧ step ≤ 11) ∧ ¬ S 1 < 0 then (if ((0 ≤ d ∧ d ≤ 6) ∧ (0 ≤ u ∧ u ≤ 6)) then jmF (cM la po (S 1)) (pM pt (S 1)) (smM wd nu cl Fq (S 1) 3 step (S 20)) (d - u) (la (9 * S 1 + 5)) 99 1 else -2) else -1) ∧ ∀ j, 0 ≤ j → j < 100 → 0 ≤ pl1 j ∧ pl1 j ≤ 1)) := by
  refine Cm.of (by decide +kernel) (Nat.le_of_ble_eq_true rfl) (fun Γ A hl hargs hin G F => ?_)
  subst hl
  refine j_aload_n G 0 rfl d10_jump_0 ?_
  refine j_iload_n G 1 rfl d10_jump_1 ?_
  refine j_VP G (k10_isStep (xl Γ) E mo S ad step (by first | assumption | omega | (simp only [upS, reduceIte, Nat.reduceEqDiff, eq_self, List.length_cons, List.length_nil, List.length_append] <;> omega))) mw10_isStep ml10_293 [0] rfl 0 10 rfl rfl rfl ⟨Nat.le_of_ble_eq_true rfl, Nat.le_of_ble_eq_true rfl⟩ rfl (rest := []) rfl (Nat.le_of_ble_eq_true rfl) d10_jump_2 ⟨Nat.le_of_ble_eq_true rfl, Nat.le_of_ble_eq_true rfl⟩ (fun r hr => ?_)
  obtain ⟨v2, rfl, hq1⟩ := hr
  rcases hq1 with ⟨hq1, rfl⟩ | ⟨hq1, rfl⟩
  ·
    refine j_if_eq (tgt := 15) G d10_jump_5 (by decide) (by decide) (fun h3 => absurd h3 (by decide)) (fun h3 => ?_)
    refine j_aload_n G 0 rfl d10_jump_8 ?_
    refine j_get G 0 10 1 in10 fl10_13 d10_jump_9 rfl rfl (by decide) (v := .int (iZ (S 1))) rfl rfl ?_
    refine j_if_ge (tgt := 17) G d10_jump_12 (by decide) (by omega) (fun h4 => ?_) (fun h4 => ?_)
    ·
      have hms1 := hms (by omega)
      have hwm1 := hwm (by omega)
      have hpo : 1 ≤ po (S 1) ∧ po (S 1) ≤ 5 := hwm1.1
      have htk : 0 ≤ la (9 * S 1 + 5) ∧ la (9 * S 1 + 5) ≤ 60 := hwm1.2.2.2.2.2.1
      refine j_aload_n G 0 rfl d10_jump_17 ?_
      refine j_iload_n G 2 rfl d10_jump_18 ?_
      refine j_iload_n G 3 rfl d10_jump_19 ?_
      refine j_VP G (k10_isLoad (xl Γ) E mo ad S d u (by first | assumption | omega | (simp only [upS, reduceIte, Nat.reduceEqDiff, eq_self, List.length_cons, List.length_nil, List.length_append] <;> omega)) (by first | assumption | omega | (simp only [upS, reduceIte, Nat.reduceEqDiff, eq_self, List.length_cons, List.length_nil, List.length_append] <;> omega))) mw10_isLoad ml10_307 [0] rfl 0 10 rfl rfl rfl ⟨Nat.le_of_ble_eq_true rfl, Nat.le_of_ble_eq_true rfl⟩ rfl (rest := []) rfl (Nat.le_of_ble_eq_true rfl) d10_jump_20 ⟨Nat.le_of_ble_eq_true rfl, Nat.le_of_ble_eq_true rfl⟩ (fun r hr => ?_)
      obtain ⟨v6, rfl, hq5⟩ := hr
      rcases hq5 with ⟨hq5, rfl⟩ | ⟨hq5, rfl⟩
      ·
        refine j_if_ne (tgt := 29) G d10_jump_23 (by decide) (by decide) (fun h7 => ?_) (fun h7 => absurd h7 (by decide))
        refine j_aload_n G 0 rfl d10_jump_29 ?_
        refine j_iconst G d10_jump_30 ?_
        refine j_iload_n G 1 rfl d10_jump_31 ?_
        refine j_VM G (rm' := { frames := 1, cells := 0, slots := 0, locals := 27 }) (wc := [(mo, mO ad S), (ad 6, aInt E 4 cl), (ad 7, aInt E 48 wd), (ad 8, aInt E 48 nu), (ad 9, aInt E 48 fo), (ad 10, aInt E 48 to), (ad 14, aInt E 400 sg), (ad 19, aBoo E 100 pl)]) (wr := [(ad 11, aInt E 36 la), (ad 12, aInt E 4 po), (ad 13, aInt E 20 pt)]) (k10_sum (xl Γ) E mo ad S cl wd nu fo to sg pl Fq 3 step (by first | assumption | omega | (simp only [upS, reduceIte, Nat.reduceEqDiff, eq_self, List.length_cons, List.length_nil, List.length_append] <;> omega)) (by first | assumption | omega | (simp only [upS, reduceIte, Nat.reduceEqDiff, eq_self, List.length_cons, List.length_nil, List.length_append] <;> omega)) (by first | assumption | omega | (simp only [upS, reduceIte, Nat.reduceEqDiff, eq_self, List.length_cons, List.length_nil, List.length_append] <;> omega)) (by first | assumption | omega | (simp only [upS, reduceIte, Nat.reduceEqDiff, eq_self, List.length_cons, List.length_nil, List.length_append] <;> omega)) (by first | assumption | omega | (simp only [upS, reduceIte, Nat.reduceEqDiff, eq_self, List.length_cons, List.length_nil, List.length_append] <;> omega)) (by first | assumption | omega | (simp only [upS, reduceIte, Nat.reduceEqDiff, eq_self, List.length_cons, List.length_nil, List.length_append] <;> omega)) (by first | assumption | omega | (simp only [upS, reduceIte, Nat.reduceEqDiff, eq_self, List.length_cons, List.length_nil, List.length_append] <;> omega))) mw10_sum ml10_296 [0, 4, 5, 6, 7, 8, 9, 10] [1, 2, 3] rfl rfl ⟨rfl, rfl⟩ (by decide) 0 10 rfl rfl rfl ⟨Nat.le_of_ble_eq_true rfl, Nat.le_of_ble_eq_true rfl⟩ rfl (rest := []) rfl (Nat.le_of_ble_eq_true rfl) d10_jump_32 ⟨Nat.le_of_ble_eq_true rfl, Nat.le_of_ble_eq_true rfl⟩ (fun r w1 hr => ?_)
        obtain ⟨v9, pl1_10, rfl, rfl, ⟨hq8_0, hq8_1, hq8_2⟩⟩ := hr
        refine j_eq (ws' := [(ad 11, aInt E 36 la), (ad 12, aInt E 4 po), (ad 13, aInt E 20 pt), (mo, mO ad S), (ad 6, aInt E 4 cl), (ad 7, aInt E 48 wd), (ad 8, aInt E 48 nu), (ad 9, aInt E 48 fo), (ad 10, aInt E 48 to), (ad 14, aInt E 400 sg), (ad 19, aBoo E 100 pl1_10)]) rfl rfl rfl ?_
        have hSM := hq8_0
        refine j_istore G d10_jump_35 (by decide) rfl ?_
        refine j_aload_n G 1 rfl d10_jump_37 ?_
        refine j_iload G 0 rfl d10_jump_38 ?_
        refine j_iload_n G 3 rfl d10_jump_40 ?_
        refine j_iload_n G 4 rfl d10_jump_41 ?_
        refine j_aload_n G 1 rfl d10_jump_42 ?_
        refine j_iconst G d10_jump_43 ?_
        refine j_VP G (k10_lastOf (xl Γ) E mo ad S la 5 (by first | assumption | omega | (simp only [upS, reduceIte, Nat.reduceEqDiff, eq_self, List.length_cons, List.length_nil, List.length_append] <;> omega)) (by first | assumption | omega | (simp only [upS, reduceIte, Nat.reduceEqDiff, eq_self, List.length_cons, List.length_nil, List.length_append] <;> omega))) mw10_lastOf ml10_286 [3, 0] rfl 3 10 rfl rfl rfl ⟨Nat.le_of_ble_eq_true rfl, Nat.le_of_ble_eq_true rfl⟩ rfl (rest := [.int (iZ u), .int (iZ d), .int (iZ v9), .ref mo]) rfl (Nat.le_of_ble_eq_true rfl) d10_jump_44 ⟨Nat.le_of_ble_eq_true rfl, Nat.le_of_ble_eq_true rfl⟩ (fun r hr => ?_)
        obtain ⟨_, rfl, rfl⟩ := hr
        refine j_VP G (k10_leastBy (xl Γ) E mo ad S la po pt v9 d u (la (9 * (S 1) + 5)) (by first | assumption | omega | (simp only [upS, reduceIte, Nat.reduceEqDiff, eq_self, List.length_cons, List.length_nil, List.length_append] <;> omega)) (by first | assumption | omega | (simp only [upS, reduceIte, Nat.reduceEqDiff, eq_self, List.length_cons, List.length_nil, List.length_append] <;> omega)) (by first | assumption | omega | (simp only [upS, reduceIte, Nat.reduceEqDiff, eq_self, List.length_cons, List.length_nil, List.length_append] <;> omega)) (by first | assumption | omega | (simp only [upS, reduceIte, Nat.reduceEqDiff, eq_self, List.length_cons, List.length_nil, List.length_append] <;> omega)) (by first | assumption | omega | (simp only [upS, reduceIte, Nat.reduceEqDiff, eq_self, List.length_cons, List.length_nil, List.length_append] <;> omega)) (by first | assumption | omega | (simp only [upS, reduceIte, Nat.reduceEqDiff, eq_self, List.length_cons, List.length_nil, List.length_append] <;> omega))) mw10_leastBy ml10_312 [3, 0, 1, 2] rfl 3 10 rfl rfl rfl ⟨Nat.le_of_ble_eq_true rfl, Nat.le_of_ble_eq_true rfl⟩ rfl (rest := []) rfl (Nat.le_of_ble_eq_true rfl) d10_jump_47 ⟨Nat.le_of_ble_eq_true rfl, Nat.le_of_ble_eq_true rfl⟩ (fun r hr => ?_)
        obtain ⟨v13, rfl, hq12⟩ := hr
        have hisB := hq12
        rw [hSM] at hisB
        have hisR := isL_r hisB
        refine j_istore G d10_jump_50 (by decide) rfl ?_
        refine j_iconst G d10_jump_52 ?_
        refine j_istore G d10_jump_53 (by decide) rfl ?_
        have lp55 : ∀ (fu : Nat) (kk : Int), (100 - kk).toNat < fu → (1 ≤ kk ∧ kk ≤ 100) → (jmF (cM la po (S 1)) (pM pt (S 1)) (smM wd nu cl Fq (S 1) 3 step (S 20)) (d - u) (la (9 * S 1 + 5)) 99 1 = jmF (cM la po (S 1)) (pM pt (S 1)) (smM wd nu cl Fq (S 1) 3 step (S 20)) (d - u) (la (9 * S 1 + 5)) (100 - kk).toNat kk) →  J E 7 Γ (some A) 0 0 [(ad 11, aInt E 36 la), (ad 12, aInt E 4 po), (ad 13, aInt E 20 pt), (mo, mO ad S), (ad 6, aInt E 4 cl), (ad 7, aInt E 48 wd), (ad 8, aInt E 48 nu), (ad 9, aInt E 48 fo), (ad 10, aInt E 48 to), (ad 14, aInt E 400 sg), (ad 19, aBoo E 100 pl1_10)] 55 [(6, .int (iZ kk)), (5, .int (iZ v13)), (4, .int (iZ v9)), (0, .ref mo), (1, .int (iZ step)), (2, .int (iZ d)), (3, .int (iZ u))] [] := by
          intro fu
          induction fu with
          | zero =>
            intro kk hm
            exact absurd hm (Nat.not_lt_zero _)
          | succ fu ih55 =>
            intro kk hm hk hj
            refine j_iload G 0 rfl d10_jump_55 ?_
            refine j_bipush G d10_jump_57 rfl ?_
            refine j_icmp_ge (tgt := 92) G d10_jump_59 (by decide) (by omega) (by decide) (fun h14 => ?_) (fun h14 => ?_)
            ·
              refine j_iconst G d10_jump_92 ?_
              refine j_perm (ws' := [(mo, mO ad S), (ad 11, aInt E 36 la), (ad 12, aInt E 4 po), (ad 13, aInt E 20 pt), (ad 6, aInt E 4 cl), (ad 7, aInt E 48 wd), (ad 8, aInt E 48 nu), (ad 9, aInt E 48 fo), (ad 10, aInt E 48 to), (ad 14, aInt E 400 sg), (ad 19, aBoo E 100 pl1_10)]) [3, 0, 1, 2, 4, 5, 6, 7, 8, 9, 10] rfl rfl rfl ?_
              exact j_iret G F d10_jump_93 ⟨0, pl1_10, rfl, rfl, (by refine ⟨?_, by assumption⟩; first | (rw [if_neg (by omega)]; done) | (rw [if_pos (by omega), if_neg (by omega)]; done) | (rw [if_pos (by omega), if_pos (by omega), hj, show (100 - kk).toNat = (100 - (kk + 1)).toNat + 1 by omega, jmF_s, if_neg (by rw [← isL_lF hisA, ← isL_lF hisB]; omega)]; done) | (rw [if_pos (by omega), if_pos (by omega), hj, show (100 - kk).toNat = 0 by omega]; rfl))⟩
            ·
              refine j_aload_n G 3 rfl d10_jump_62 ?_
              refine j_iload G 2 rfl d10_jump_63 ?_
              refine j_iload G 0 rfl d10_jump_65 ?_
              refine j_iadd G d10_jump_67 ?_
              refine j_iload_n G 5 rfl d10_jump_68 ?_
              refine j_iload_n G 6 rfl d10_jump_69 ?_
              refine j_aload_n G 3 rfl d10_jump_70 ?_
              refine j_iconst G d10_jump_71 ?_
              refine j_VP G (k10_lastOf (xl Γ) E mo ad S la 5 (by first | assumption | omega | (simp only [upS, reduceIte, Nat.reduceEqDiff, eq_self, List.length_cons, List.length_nil, List.length_append] <;> omega)) (by first | assumption | omega | (simp only [upS, reduceIte, Nat.reduceEqDiff, eq_self, List.length_cons, List.length_nil, List.length_append] <;> omega))) mw10_lastOf ml10_286 [3, 0] rfl 3 10 rfl rfl rfl ⟨Nat.le_of_ble_eq_true rfl, Nat.le_of_ble_eq_true rfl⟩ rfl (rest := [.int (iZ u), .int (iZ d), .int (iZ (v9 + kk)), .ref mo]) rfl (Nat.le_of_ble_eq_true rfl) d10_jump_72 ⟨Nat.le_of_ble_eq_true rfl, Nat.le_of_ble_eq_true rfl⟩ (fun r hr => ?_)
              obtain ⟨_, rfl, rfl⟩ := hr
              refine j_VP G (k10_leastBy (xl Γ) E mo ad S la po pt (v9 + kk) d u (la (9 * (S 1) + 5)) (by first | assumption | omega | (simp only [upS, reduceIte, Nat.reduceEqDiff, eq_self, List.length_cons, List.length_nil, List.length_append] <;> omega)) (by first | assumption | omega | (simp only [upS, reduceIte, Nat.reduceEqDiff, eq_self, List.length_cons, List.length_nil, List.length_append] <;> omega)) (by first | assumption | omega | (simp only [upS, reduceIte, Nat.reduceEqDiff, eq_self, List.length_cons, List.length_nil, List.length_append] <;> omega)) (by first | assumption | omega | (simp only [upS, reduceIte, Nat.reduceEqDiff, eq_self, List.length_cons, List.length_nil, List.length_append] <;> omega)) (by first | assumption | omega | (simp only [upS, reduceIte, Nat.reduceEqDiff, eq_self, List.length_cons, List.length_nil, List.length_append] <;> omega)) (by first | assumption | omega | (simp only [upS, reduceIte, Nat.reduceEqDiff, eq_self, List.length_cons, List.length_nil, List.length_append] <;> omega))) mw10_leastBy ml10_312 [3, 0, 1, 2] rfl 3 10 rfl rfl rfl ⟨Nat.le_of_ble_eq_true rfl, Nat.le_of_ble_eq_true rfl⟩ rfl (rest := []) rfl (Nat.le_of_ble_eq_true rfl) d10_jump_75 ⟨Nat.le_of_ble_eq_true rfl, Nat.le_of_ble_eq_true rfl⟩ (fun r hr => ?_)
              obtain ⟨v17, rfl, hq16⟩ := hr
              have hisA := hq16
              rw [hSM] at hisA
              have hisS := isL_r hisA
              refine j_iload G 1 rfl d10_jump_78 ?_
              refine j_icmp_eq (tgt := 86) G d10_jump_80 (by decide) (by omega) (by omega) (fun h18 => ?_) (fun h18 => ?_)
              ·
                refine j_iinc G d10_jump_86 0 rfl (by decide) rfl ?_
                refine j_goto (tgt := 55) G d10_jump_89 (by decide) ?_
                exact ih55 (kk + 1) (by omega) (by first | assumption | omega) (by rw [hj, show (100 - kk).toNat = (100 - (kk + 1)).toNat + 1 by omega, jmF_s, if_pos (by rw [← isL_lF hisA, ← isL_lF hisB]; omega)])
              ·
                refine j_iload G 0 rfl d10_jump_83 ?_
                refine j_perm (ws' := [(mo, mO ad S), (ad 11, aInt E 36 la), (ad 12, aInt E 4 po), (ad 13, aInt E 20 pt), (ad 6, aInt E 4 cl), (ad 7, aInt E 48 wd), (ad 8, aInt E 48 nu), (ad 9, aInt E 48 fo), (ad 10, aInt E 48 to), (ad 14, aInt E 400 sg), (ad 19, aBoo E 100 pl1_10)]) [3, 0, 1, 2, 4, 5, 6, 7, 8, 9, 10] rfl rfl rfl ?_
                exact j_iret G F d10_jump_85 ⟨kk, pl1_10, rfl, rfl, (by refine ⟨?_, by assumption⟩; first | (rw [if_neg (by omega)]; done) | (rw [if_pos (by omega), if_neg (by omega)]; done) | (rw [if_pos (by omega), if_pos (by omega), hj, show (100 - kk).toNat = (100 - (kk + 1)).toNat + 1 by omega, jmF_s, if_neg (by rw [← isL_lF hisA, ← isL_lF hisB]; omega)]; done) | (rw [if_pos (by omega), if_pos (by omega), hj, show (100 - kk).toNat = 0 by omega]; rfl))⟩
        exact lp55 _ 1 (Nat.lt_succ_self _) (by first | assumption | omega) rfl
      ·
        refine j_if_ne (tgt := 29) G d10_jump_23 (by decide) (by decide) (fun h19 => absurd h19 (by decide)) (fun h19 => ?_)
        refine j_bipush G d10_jump_26 rfl ?_
        exact j_iret G F d10_jump_28 ⟨(-2), pl, rfl, rfl, (by refine ⟨?_, by assumption⟩; first | (rw [if_neg (by omega)]; done) | (rw [if_pos (by omega), if_neg (by omega)]; done) | (rw [if_pos (by omega), if_pos (by omega), hj, show (100 - kk).toNat = (100 - (kk + 1)).toNat + 1 by omega, jmF_s, if_neg (by rw [← isL_lF hisA, ← isL_lF hisB]; omega)]; done) | (rw [if_pos (by omega), if_pos (by omega), hj, show (100 - kk).toNat = 0 by omega]; rfl))⟩
    ·
      refine j_iconst G d10_jump_15 ?_
      exact j_iret G F d10_jump_16 ⟨(-1), pl, rfl, rfl, (by refine ⟨?_, by assumption⟩; first | (rw [if_neg (by omega)]; done) | (rw [if_pos (by omega), if_neg (by omega)]; done) | (rw [if_pos (by omega), if_pos (by omega), hj, show (100 - kk).toNat = (100 - (kk + 1)).toNat + 1 by omega, jmF_s, if_neg (by rw [← isL_lF hisA, ← isL_lF hisB]; omega)]; done) | (rw [if_pos (by omega), if_pos (by omega), hj, show (100 - kk).toNat = 0 by omega]; rfl))⟩
  ·
    refine j_if_eq (tgt := 15) G d10_jump_5 (by decide) (by decide) (fun h20 => ?_) (fun h20 => absurd h20 (by decide))
    refine j_iconst G d10_jump_15 ?_
    exact j_iret G F d10_jump_16 ⟨(-1), pl, rfl, rfl, (by refine ⟨?_, by assumption⟩; first | (rw [if_neg (by omega)]; done) | (rw [if_pos (by omega), if_neg (by omega)]; done) | (rw [if_pos (by omega), if_pos (by omega), hj, show (100 - kk).toNat = (100 - (kk + 1)).toNat + 1 by omega, jmF_s, if_neg (by rw [← isL_lF hisA, ← isL_lF hisB]; omega)]; done) | (rw [if_pos (by omega), if_pos (by omega), hj, show (100 - kk).toNat = 0 by omega]; rfl))⟩
