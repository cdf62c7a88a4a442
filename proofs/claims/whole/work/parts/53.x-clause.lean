theorem add_ok {U dr dr1 : Int → Int} {n p m w : Int} (hm : mb m (clV U n p)) (hk : hdK U n p = w) (h : ∀ j, 0 ≤ j → j < 24 → dr1 j = dr j + bz m j * clN U n p) : ∀ j, 0 ≤ j → j < 24 → dr1 j = dr j + (if hdK U n p = w ∧ ¬ clV U n p (j % 12) (j / 12) = 0 then clN U n p else 0) := fun j h1 h2 => by
  rw [h j h1 h2, mb_bz hm h1 h2]
  by_cases q : clV U n p (j % 12) (j / 12) = 0
  · rw [if_pos q, if_neg (fun z => z.2 q), Int.zero_mul]
  · rw [if_neg q, if_pos ⟨hk, q⟩, Int.one_mul]
theorem add_no {U dr : Int → Int} {n p w : Int} (hk : ¬ hdK U n p = w) : ∀ j, 0 ≤ j → j < 24 → dr j = dr j + (if hdK U n p = w ∧ ¬ clV U n p (j % 12) (j / 12) = 0 then clN U n p else 0) := fun j _ _ => by
  rw [if_neg (fun z => hk z.1)]; omega
theorem d1_addIn_0 : decode c1_addIn 0 = .ok (.iconst 0, 1) := by decide +kernel
theorem d1_addIn_1 : decode c1_addIn 1 = .ok (.istore_n 3, 1) := by decide +kernel
theorem d1_addIn_2 : decode c1_addIn 2 = .ok (.iload_n 3, 1) := by decide +kernel
theorem d1_addIn_3 : decode c1_addIn 3 = .ok (.aload_n 0, 1) := by decide +kernel
theorem d1_addIn_4 : decode c1_addIn 4 = .ok (.arraylength, 1) := by decide +kernel
theorem d1_addIn_5 : decode c1_addIn 5 = .ok (.if_icmp .ge 22, 3) := by decide +kernel
theorem d1_addIn_8 : decode c1_addIn 8 = .ok (.aload_n 0, 1) := by decide +kernel
theorem d1_addIn_9 : decode c1_addIn 9 = .ok (.iload_n 3, 1) := by decide +kernel
theorem d1_addIn_10 : decode c1_addIn 10 = .ok (.dup2, 1) := by decide +kernel
theorem d1_addIn_11 : decode c1_addIn 11 = .ok (.iaload, 1) := by decide +kernel
theorem d1_addIn_12 : decode c1_addIn 12 = .ok (.iload_n 1, 1) := by decide +kernel
theorem d1_addIn_13 : decode c1_addIn 13 = .ok (.iload_n 3, 1) := by decide +kernel
theorem d1_addIn_14 : decode c1_addIn 14 = .ok (.ishr, 1) := by decide +kernel
theorem d1_addIn_15 : decode c1_addIn 15 = .ok (.iconst 1, 1) := by decide +kernel
theorem d1_addIn_16 : decode c1_addIn 16 = .ok (.iand, 1) := by decide +kernel
theorem d1_addIn_17 : decode c1_addIn 17 = .ok (.iload_n 2, 1) := by decide +kernel
theorem d1_addIn_18 : decode c1_addIn 18 = .ok (.imul, 1) := by decide +kernel
theorem d1_addIn_19 : decode c1_addIn 19 = .ok (.iadd, 1) := by decide +kernel
theorem d1_addIn_20 : decode c1_addIn 20 = .ok (.iastore, 1) := by decide +kernel
theorem d1_addIn_21 : decode c1_addIn 21 = .ok (.iinc 3 1, 3) := by decide +kernel
theorem d1_addIn_24 : decode c1_addIn 24 = .ok (.goto (-22), 3) := by decide +kernel
theorem d1_addIn_27 : decode c1_addIn 27 = .ok (.return_, 1) := by decide +kernel
theorem mw1_addIn : MS y1_addIn c1_addIn 4 none 3 := ⟨cd1_addIn, ini1, na1_addIn, st1_addIn⟩
set_option maxHeartbeats 4000000 in
set_option maxRecDepth 100000 in
theorem k1_addIn (l : Launch) (E : En) (aa : Nat) (dr : Int → Int) (m : Int) (n : Int)  : Cm l E y1_addIn c1_addIn 4 none { frames := 0, cells := 0, slots := 0, locals := 0 } [.ref aa, .int (iZ m), .int (iZ n)] [(aa, aInt E 24 dr)] (fun r ws => ∃ (dr1 : Int → Int), r = none ∧ ws = [(aa, aInt E 24 dr1)] ∧ (∀ j, 0 ≤ j → j < 24 → dr1 j = dr j + bz m j * n)) := by
  refine Cm.of (by decide +kernel) (Nat.le_of_ble_eq_true rfl) (fun Γ A hl hargs hin G F => ?_)
  subst hl
  refine j_iconst G d1_addIn_0 ?_
  refine j_istore_n G d1_addIn_1 (by decide) rfl ?_
  have lp2 : ∀ (fu : Nat) (k : Int) (g : Int → Int), (24 - k).toNat < fu → (0 ≤ k ∧ k ≤ 24) → (∀ j, 0 ≤ j → j < 24 → g j = if j < k then dr j + bz m j * n else dr j) →  J E 4 Γ (some A) 0 0 [(aa, aInt E 24 g)] 2 [(3, .int (iZ k)), (0, .ref aa), (1, .int (iZ m)), (2, .int (iZ n))] [] := by
    intro fu
    induction fu with
    | zero =>
      intro k g hm
      exact absurd hm (Nat.not_lt_zero _)
    | succ fu ih2 =>
      intro k g hm hk hg
      refine j_iload_n G 0 rfl d1_addIn_2 ?_
      refine j_aload_n G 1 rfl d1_addIn_3 ?_
      refine j_alen G 0 rfl d1_addIn_4 ?_
      refine j_icmp_ge (tgt := 27) G d1_addIn_5 (by decide) (by omega) (by decide) (fun h1 => ?_) (fun h1 => ?_)
      ·
        exact j_vret G F d1_addIn_27 ⟨g, rfl, rfl, (by exact fun j h1 h2 => (by rw [hg j h1 h2, if_pos (by omega)]))⟩
      ·
        have hgk : g k = dr k := by rw [hg k (by omega) (by omega), if_neg (by omega)]
        refine j_aload_n G 1 rfl d1_addIn_8 ?_
        refine j_iload_n G 0 rfl d1_addIn_9 ?_
        refine j_dup2 G d1_addIn_10 rfl rfl ?_
        refine j_iald G 0 rfl (by omega) d1_addIn_11 ?_
        refine j_iload_n G 2 rfl d1_addIn_12 ?_
        refine j_iload_n G 0 rfl d1_addIn_13 ?_
        refine r_ishr G d1_addIn_14 ?_
        refine j_top (y := iZ (((iZ m) >>> ((iZ k) &&& 31)).toInt)) (iZ_of _).symm ?_
        refine j_iconst G d1_addIn_15 ?_
        refine r_iand G d1_addIn_16 ?_
        refine j_top (y := (iZ (bz m k))) (bz_top) ?_
        refine j_iload_n G 3 rfl d1_addIn_17 ?_
        refine j_imul G d1_addIn_18 ?_
        refine j_iadd G d1_addIn_19 ?_
        refine j_iast G 0 rfl (by omega) d1_addIn_20 ?_
        refine j_iinc G d1_addIn_21 0 rfl (by decide) rfl ?_
        refine j_goto (tgt := 2) G d1_addIn_24 (by decide) ?_
        exact ih2 (k + 1) (upI g k ((g k) + ((bz m k) * n))) (by omega) (by first | assumption | omega) (fun j h1 h2 => if hj : j = k then (by subst hj; rw [upI_eq, if_pos (by omega), hgk]) else (by rw [upI_ne hj, hg j h1 h2]; by_cases q : j < k; (rw [if_pos q, if_pos (by omega)]); (rw [if_neg q, if_neg (by omega)])))
  exact lp2 _ 0 dr (Nat.lt_succ_self _) (by first | assumption | omega) (fun j h1 h2 => (if_neg (by omega)).symm)
theorem d0_clause_0 : decode c0_clause 0 = .ok (.aload_n 0, 1) := by decide +kernel
theorem d0_clause_1 : decode c0_clause 1 = .ok (.invokevirtual 51, 3) := by decide +kernel
theorem d0_clause_4 : decode c0_clause 4 = .ok (.istore_n 2, 1) := by decide +kernel
theorem d0_clause_5 : decode c0_clause 5 = .ok (.aload_n 0, 1) := by decide +kernel
theorem d0_clause_6 : decode c0_clause 6 = .ok (.bipush 32, 2) := by decide +kernel
theorem d0_clause_8 : decode c0_clause 8 = .ok (.bipush 32, 2) := by decide +kernel
theorem d0_clause_10 : decode c0_clause 10 = .ok (.bipush 32, 2) := by decide +kernel
theorem d0_clause_12 : decode c0_clause 12 = .ok (.invokevirtual 54, 3) := by decide +kernel
theorem d0_clause_15 : decode c0_clause 15 = .ok (.pop, 1) := by decide +kernel
theorem d0_clause_16 : decode c0_clause 16 = .ok (.aload_n 0, 1) := by decide +kernel
theorem d0_clause_17 : decode c0_clause 17 = .ok (.iconst 3, 1) := by decide +kernel
theorem d0_clause_18 : decode c0_clause 18 = .ok (.invokevirtual 58, 3) := by decide +kernel
theorem d0_clause_21 : decode c0_clause 21 = .ok (.istore_n 3, 1) := by decide +kernel
theorem d0_clause_22 : decode c0_clause 22 = .ok (.iload_n 2, 1) := by decide +kernel
theorem d0_clause_23 : decode c0_clause 23 = .ok (.iconst 3, 1) := by decide +kernel
theorem d0_clause_24 : decode c0_clause 24 = .ok (.if_icmp .eq 9, 3) := by decide +kernel
theorem d0_clause_27 : decode c0_clause 27 = .ok (.iload_n 2, 1) := by decide +kernel
theorem d0_clause_28 : decode c0_clause 28 = .ok (.bipush 7, 2) := by decide +kernel
theorem d0_clause_30 : decode c0_clause 30 = .ok (.if_icmp .ne 42, 3) := by decide +kernel
theorem d0_clause_33 : decode c0_clause 33 = .ok (.aload_n 0, 1) := by decide +kernel
theorem d0_clause_34 : decode c0_clause 34 = .ok (.bipush 32, 2) := by decide +kernel
theorem d0_clause_36 : decode c0_clause 36 = .ok (.bipush 32, 2) := by decide +kernel
theorem d0_clause_38 : decode c0_clause 38 = .ok (.bipush 32, 2) := by decide +kernel
theorem d0_clause_40 : decode c0_clause 40 = .ok (.invokevirtual 54, 3) := by decide +kernel
theorem d0_clause_43 : decode c0_clause 43 = .ok (.pop, 1) := by decide +kernel
theorem d0_clause_44 : decode c0_clause 44 = .ok (.iload_n 2, 1) := by decide +kernel
theorem d0_clause_45 : decode c0_clause 45 = .ok (.iconst 3, 1) := by decide +kernel
theorem d0_clause_46 : decode c0_clause 46 = .ok (.if_icmp .ne 10, 3) := by decide +kernel
theorem d0_clause_49 : decode c0_clause 49 = .ok (.aload_n 1, 1) := by decide +kernel
theorem d0_clause_50 : decode c0_clause 50 = .ok (.getfield 62, 3) := by decide +kernel
theorem d0_clause_53 : decode c0_clause 53 = .ok (.goto 7, 3) := by decide +kernel
theorem d0_clause_56 : decode c0_clause 56 = .ok (.aload_n 1, 1) := by decide +kernel
theorem d0_clause_57 : decode c0_clause 57 = .ok (.getfield 65, 3) := by decide +kernel
theorem d0_clause_60 : decode c0_clause 60 = .ok (.aload_n 0, 1) := by decide +kernel
theorem d0_clause_61 : decode c0_clause 61 = .ok (.iconst 0, 1) := by decide +kernel
theorem d0_clause_62 : decode c0_clause 62 = .ok (.invokevirtual 68, 3) := by decide +kernel
theorem d0_clause_65 : decode c0_clause 65 = .ok (.iload_n 3, 1) := by decide +kernel
theorem d0_clause_66 : decode c0_clause 66 = .ok (.invokestatic 71, 3) := by decide +kernel
theorem d0_clause_69 : decode c0_clause 69 = .ok (.goto 9, 3) := by decide +kernel
theorem d0_clause_72 : decode c0_clause 72 = .ok (.aload_n 1, 1) := by decide +kernel
theorem d0_clause_73 : decode c0_clause 73 = .ok (.iload_n 2, 1) := by decide +kernel
theorem d0_clause_74 : decode c0_clause 74 = .ok (.iload_n 3, 1) := by decide +kernel
theorem d0_clause_75 : decode c0_clause 75 = .ok (.invokevirtual 75, 3) := by decide +kernel
theorem d0_clause_78 : decode c0_clause 78 = .ok (.return_, 1) := by decide +kernel
theorem mw0_clause : MV y0_clause c0_clause 4 none 1 := ⟨cd0_clause, ini0, na0_clause, im0_clause, se0_clause⟩
set_option maxHeartbeats 4000000 in
set_option maxRecDepth 100000 in
theorem k0_clause (l : Launch) (E : En) (ra : Nat) (ba : Nat) (R : Nat → Int) (tb : Int → Int) (U : Int → Int) (ca : Nat) (pa : Nat) (da : Nat) (sa : Nat) (C : Nat → Int) (P : Int → Int) (dr : Int → Int) (sr : Int → Int) (htb : ∀ j, 0 ≤ j → j < 100 → tb j = U j % 256 ∧ -128 ≤ U j ∧ U j ≤ 127) (hln : 0 ≤ R 1 ∧ R 1 ≤ 100) (hat : 0 ≤ R 2 ∧ R 2 ≤ R 1) (hft : -1 ≤ R 3 ∧ R 3 ≤ 200) (hlv : R 3 < 0) (hC1 : 0 ≤ C 1 ∧ C 1 ≤ 5) : Cm l E y0_clause c0_clause 4 none { frames := 17, cells := 0, slots := 0, locals := 394 } [.ref ra, .ref ca] [(ra, o0 (some ba) R), (ba, aInt E 100 tb), (ca, o1 (some pa) (some da) (some sa) C), (pa, aInt E 5 P), (da, aInt E 24 dr), (sa, aInt E 24 sr)] (fun r ws => ∃ (at1 : Int), ∃ (ft1 : Int), ∃ (C1 : Nat → Int), ∃ (P1 : Int → Int), ∃ (dr1 : Int → Int), ∃ (sr1 : Int → Int), r = none ∧ ws = [(ra, o0 (some ba) (upS (upS R 2 at1) 3 ft1)), (ba, aInt E 100 tb), (ca, o1 (some pa) (some da) (some sa) C1), (pa, aInt E 5 P1), (da, aInt E 24 dr1), (sa, aInt E 24 sr1)] ∧ (((clOk U (R 1) (R 2) ∧ at1 = clE U (R 1) (R 2) ∧ ft1 = R 3 ∧ C1 = (tkF (hdK U (R 1) (R 2)) (clN U (R 1) (R 2)) (C, P)).1 ∧ P1 = (tkF (hdK U (R 1) (R 2)) (clN U (R 1) (R 2)) (C, P)).2 ∧ (∀ j, 0 ≤ j → j < 24 → dr1 j = dr j + (if hdK U (R 1) (R 2) = 3 ∧ ¬ clV U (R 1) (R 2) (j % 12) (j / 12) = 0 then clN U (R 1) (R 2) else 0)) ∧ (∀ j, 0 ≤ j → j < 24 → sr1 j = sr j + (if hdK U (R 1) (R 2) = 7 ∧ ¬ clV U (R 1) (R 2) (j % 12) (j / 12) = 0 then clN U (R 1) (R 2) else 0))) ∨ (¬ clOk U (R 1) (R 2) ∧ ft1 = clE U (R 1) (R 2) ∧ 0 ≤ ft1)) ∧ (R 2 ≤ at1 ∧ at1 ≤ R 1) ∧ (-1 ≤ ft1 ∧ ft1 ≤ 200) ∧ (0 ≤ C1 1 ∧ C1 1 ≤ 5))) := by
  refine Cm.of (by decide +kernel) (Nat.le_of_ble_eq_true rfl) (fun Γ A hl hargs hin G F => ?_)
  subst hl
  refine j_aload_n G 0 rfl d0_clause_0 ?_
  refine j_VM G (rm' := { frames := 4, cells := 0, slots := 0, locals := 85 }) (wc := [(ra, o0 (some ba) R), (ba, aInt E 100 tb)]) (wr := [(ca, o1 (some pa) (some da) (some sa) C), (pa, aInt E 5 P), (da, aInt E 24 dr), (sa, aInt E 24 sr)]) (k0_word (xl Γ) E ra ba R tb U (by first | assumption | omega | (simp only [upS, reduceIte, Nat.reduceEqDiff, eq_self, List.length_cons, List.length_nil, List.length_append] <;> omega)) (by first | assumption | omega | (simp only [upS, reduceIte, Nat.reduceEqDiff, eq_self, List.length_cons, List.length_nil, List.length_append] <;> omega)) (by first | assumption | omega | (simp only [upS, reduceIte, Nat.reduceEqDiff, eq_self, List.length_cons, List.length_nil, List.length_append] <;> omega)) (by first | assumption | omega | (simp only [upS, reduceIte, Nat.reduceEqDiff, eq_self, List.length_cons, List.length_nil, List.length_append] <;> omega)) (by first | assumption | omega | (simp only [upS, reduceIte, Nat.reduceEqDiff, eq_self, List.length_cons, List.length_nil, List.length_append] <;> omega))) mw0_word ml0_51 [0, 1] [2, 3, 4, 5] rfl rfl ⟨rfl, rfl⟩ (by decide) 0 0 rfl rfl rfl ⟨Nat.le_of_ble_eq_true rfl, Nat.le_of_ble_eq_true rfl⟩ rfl (rest := []) rfl (Nat.le_of_ble_eq_true rfl) d0_clause_1 ⟨Nat.le_of_ble_eq_true rfl, Nat.le_of_ble_eq_true rfl⟩ (fun r w1 hr => ?_)
  obtain ⟨v2, at1_3, ft1_4, rfl, rfl, hq1⟩ := hr
  refine j_eq (ws' := [(ca, o1 (some pa) (some da) (some sa) C), (pa, aInt E 5 P), (da, aInt E 24 dr), (sa, aInt E 24 sr), (ra, o0 (some ba) (upS (upS R 2 at1_3) 3 ft1_4)), (ba, aInt E 100 tb)]) rfl rfl rfl ?_
  have hW := hq1
  have hwr := wl_r (hdK U (R 1) (R 2))
  have hkr := hdK_r U (R 1) (R 2)
  have hmr := mt_r U (R 1) (R 2) (hdK U (R 1) (R 2))
  refine j_istore_n G d0_clause_4 (by decide) rfl ?_
  refine j_aload_n G 1 rfl d0_clause_5 ?_
  refine j_bipush G d0_clause_6 rfl ?_
  refine j_bipush G d0_clause_8 rfl ?_
  refine j_bipush G d0_clause_10 rfl ?_
  refine j_VM G (rm' := { frames := 1, cells := 0, slots := 0, locals := 20 }) (wc := [(ra, o0 (some ba) (upS (upS R 2 at1_3) 3 ft1_4)), (ba, aInt E 100 tb)]) (wr := [(ca, o1 (some pa) (some da) (some sa) C), (pa, aInt E 5 P), (da, aInt E 24 dr), (sa, aInt E 24 sr)]) (k0_takeOneOf (xl Γ) E ra ba (upS (upS R 2 at1_3) 3 ft1_4) tb U 32 32 32 (by first | assumption | omega | (simp only [upS, reduceIte, Nat.reduceEqDiff, eq_self, List.length_cons, List.length_nil, List.length_append] <;> omega)) (by first | assumption | omega | (simp only [upS, reduceIte, Nat.reduceEqDiff, eq_self, List.length_cons, List.length_nil, List.length_append] <;> omega)) (by first | assumption | omega | (simp only [upS, reduceIte, Nat.reduceEqDiff, eq_self, List.length_cons, List.length_nil, List.length_append] <;> omega)) (by first | assumption | omega | (simp only [upS, reduceIte, Nat.reduceEqDiff, eq_self, List.length_cons, List.length_nil, List.length_append] <;> omega)) (by first | assumption | omega | (simp only [upS, reduceIte, Nat.reduceEqDiff, eq_self, List.length_cons, List.length_nil, List.length_append] <;> omega))) mw0_takeOneOf ml0_54 [4, 5] [0, 1, 2, 3] rfl rfl ⟨rfl, rfl⟩ (by decide) 4 0 rfl rfl rfl ⟨Nat.le_of_ble_eq_true rfl, Nat.le_of_ble_eq_true rfl⟩ rfl (rest := []) rfl (Nat.le_of_ble_eq_true rfl) d0_clause_12 ⟨Nat.le_of_ble_eq_true rfl, Nat.le_of_ble_eq_true rfl⟩ (fun r w1 hr => ?_)
  obtain ⟨v6, at1_7, ft1_8, rfl, rfl, ⟨hq5_0, hq5_1, hq5_2, hq5_3⟩⟩ := hr
  refine j_eq (ws' := [(ca, o1 (some pa) (some da) (some sa) C), (pa, aInt E 5 P), (da, aInt E 24 dr), (sa, aInt E 24 sr), (ra, o0 (some ba) (upS (upS R 2 at1_7) 3 ft1_8)), (ba, aInt E 100 tb)]) rfl rfl rfl ?_
  try simp only [upS, reduceIte, Nat.reduceEqDiff, eq_self] at hq5_0 hq5_1 hq5_2 hq5_3
  have hT := tk_of hq5_0
  have hTr := hq5_1
  have hTs := hq5_2
  clear hq5_0
  refine j_pop G d0_clause_15 rfl ?_
  refine j_aload_n G 1 rfl d0_clause_16 ?_
  refine j_iconst G d0_clause_17 ?_
  refine j_VM G (rm' := { frames := 1, cells := 0, slots := 0, locals := 20 }) (wc := [(ra, o0 (some ba) (upS (upS R 2 at1_7) 3 ft1_8)), (ba, aInt E 100 tb)]) (wr := [(ca, o1 (some pa) (some da) (some sa) C), (pa, aInt E 5 P), (da, aInt E 24 dr), (sa, aInt E 24 sr)]) (k0_number (xl Γ) E ra ba (upS (upS R 2 at1_7) 3 ft1_8) tb U 3 (by first | assumption | omega | (simp only [upS, reduceIte, Nat.reduceEqDiff, eq_self, List.length_cons, List.length_nil, List.length_append] <;> omega)) (by first | assumption | omega | (simp only [upS, reduceIte, Nat.reduceEqDiff, eq_self, List.length_cons, List.length_nil, List.length_append] <;> omega)) (by first | assumption | omega | (simp only [upS, reduceIte, Nat.reduceEqDiff, eq_self, List.length_cons, List.length_nil, List.length_append] <;> omega)) (by first | assumption | omega | (simp only [upS, reduceIte, Nat.reduceEqDiff, eq_self, List.length_cons, List.length_nil, List.length_append] <;> omega)) (by first | assumption | omega | (simp only [upS, reduceIte, Nat.reduceEqDiff, eq_self, List.length_cons, List.length_nil, List.length_append] <;> omega))) mw0_number ml0_58 [4, 5] [0, 1, 2, 3] rfl rfl ⟨rfl, rfl⟩ (by decide) 4 0 rfl rfl rfl ⟨Nat.le_of_ble_eq_true rfl, Nat.le_of_ble_eq_true rfl⟩ rfl (rest := []) rfl (Nat.le_of_ble_eq_true rfl) d0_clause_18 ⟨Nat.le_of_ble_eq_true rfl, Nat.le_of_ble_eq_true rfl⟩ (fun r w1 hr => ?_)
  obtain ⟨v10, at1_11, ft1_12, rfl, rfl, ⟨hq9_0, hq9_1, hq9_2, hq9_3⟩⟩ := hr
  refine j_eq (ws' := [(ca, o1 (some pa) (some da) (some sa) C), (pa, aInt E 5 P), (da, aInt E 24 dr), (sa, aInt E 24 sr), (ra, o0 (some ba) (upS (upS R 2 at1_11) 3 ft1_12)), (ba, aInt E 100 tb)]) rfl rfl rfl ?_
  try simp only [upS, reduceIte, Nat.reduceEqDiff, eq_self] at hq9_0 hq9_1 hq9_2 hq9_3
  have hN := nm_of hq9_0
  rw [show Int.toNat 3 = 3 from rfl] at hN
  have hNr := hq9_1
  have hNs := hq9_2
  have hNv := hq9_3
  clear hq9_0
  refine j_istore_n G d0_clause_21 (by decide) rfl ?_
  refine j_iload_n G 1 rfl d0_clause_22 ?_
  refine j_iconst G d0_clause_23 ?_
  refine j_icmp_eq (tgt := 33) G d0_clause_24 (by decide) (by omega) (by decide) (fun h13 => ?_) (fun h13 => ?_)
  ·
    refine j_aload_n G 2 rfl d0_clause_33 ?_
    refine j_bipush G d0_clause_34 rfl ?_
    refine j_bipush G d0_clause_36 rfl ?_
    refine j_bipush G d0_clause_38 rfl ?_
    refine j_VM G (rm' := { frames := 1, cells := 0, slots := 0, locals := 20 }) (wc := [(ra, o0 (some ba) (upS (upS R 2 at1_11) 3 ft1_12)), (ba, aInt E 100 tb)]) (wr := [(ca, o1 (some pa) (some da) (some sa) C), (pa, aInt E 5 P), (da, aInt E 24 dr), (sa, aInt E 24 sr)]) (k0_takeOneOf (xl Γ) E ra ba (upS (upS R 2 at1_11) 3 ft1_12) tb U 32 32 32 (by first | assumption | omega | (simp only [upS, reduceIte, Nat.reduceEqDiff, eq_self, List.length_cons, List.length_nil, List.length_append] <;> omega)) (by first | assumption | omega | (simp only [upS, reduceIte, Nat.reduceEqDiff, eq_self, List.length_cons, List.length_nil, List.length_append] <;> omega)) (by first | assumption | omega | (simp only [upS, reduceIte, Nat.reduceEqDiff, eq_self, List.length_cons, List.length_nil, List.length_append] <;> omega)) (by first | assumption | omega | (simp only [upS, reduceIte, Nat.reduceEqDiff, eq_self, List.length_cons, List.length_nil, List.length_append] <;> omega)) (by first | assumption | omega | (simp only [upS, reduceIte, Nat.reduceEqDiff, eq_self, List.length_cons, List.length_nil, List.length_append] <;> omega))) mw0_takeOneOf ml0_54 [4, 5] [0, 1, 2, 3] rfl rfl ⟨rfl, rfl⟩ (by decide) 4 0 rfl rfl rfl ⟨Nat.le_of_ble_eq_true rfl, Nat.le_of_ble_eq_true rfl⟩ rfl (rest := []) rfl (Nat.le_of_ble_eq_true rfl) d0_clause_40 ⟨Nat.le_of_ble_eq_true rfl, Nat.le_of_ble_eq_true rfl⟩ (fun r w1 hr => ?_)
    obtain ⟨v15, at1_16, ft1_17, rfl, rfl, ⟨hq14_0, hq14_1, hq14_2, hq14_3⟩⟩ := hr
    refine j_eq (ws' := [(ca, o1 (some pa) (some da) (some sa) C), (pa, aInt E 5 P), (da, aInt E 24 dr), (sa, aInt E 24 sr), (ra, o0 (some ba) (upS (upS R 2 at1_16) 3 ft1_17)), (ba, aInt E 100 tb)]) rfl rfl rfl ?_
    try simp only [upS, reduceIte, Nat.reduceEqDiff, eq_self] at hq14_0 hq14_1 hq14_2 hq14_3
    have hT2 := tk_of hq14_0
    have hT2r := hq14_1
    have hT2s := hq14_2
    clear hq14_0
    refine j_pop G d0_clause_43 rfl ?_
    refine j_iload_n G 1 rfl d0_clause_44 ?_
    refine j_iconst G d0_clause_45 ?_
    refine j_icmp_ne (tgt := 56) G d0_clause_46 (by decide) (by omega) (by decide) (fun h18 => ?_) (fun h18 => ?_)
    ·
      refine j_aload_n G 3 rfl d0_clause_56 ?_
      refine j_get G 0 1 9 in1 fl0_65 d0_clause_57 rfl rfl (by decide) (v := .ref sa) rfl rfl ?_
      refine j_aload_n G 2 rfl d0_clause_60 ?_
      refine j_iconst G d0_clause_61 ?_
      refine j_VM G (rm' := { frames := 16, cells := 0, slots := 0, locals := 372 }) (wc := [(ra, o0 (some ba) (upS (upS R 2 at1_16) 3 ft1_17)), (ba, aInt E 100 tb)]) (wr := [(ca, o1 (some pa) (some da) (some sa) C), (pa, aInt E 5 P), (da, aInt E 24 dr), (sa, aInt E 24 sr)]) (k0_either_0 (xl Γ) E ra ba (upS (upS R 2 at1_16) 3 ft1_17) tb U 0 (by first | assumption | omega | (simp only [upS, reduceIte, Nat.reduceEqDiff, eq_self, List.length_cons, List.length_nil, List.length_append] <;> omega)) (by first | assumption | omega | (simp only [upS, reduceIte, Nat.reduceEqDiff, eq_self, List.length_cons, List.length_nil, List.length_append] <;> omega)) (by first | assumption | omega | (simp only [upS, reduceIte, Nat.reduceEqDiff, eq_self, List.length_cons, List.length_nil, List.length_append] <;> omega)) (by first | assumption | omega | (simp only [upS, reduceIte, Nat.reduceEqDiff, eq_self, List.length_cons, List.length_nil, List.length_append] <;> omega)) (by first | assumption | omega | (simp only [upS, reduceIte, Nat.reduceEqDiff, eq_self, List.length_cons, List.length_nil, List.length_append] <;> omega))) mw0_either ml0_68 [4, 5] [0, 1, 2, 3] rfl rfl ⟨rfl, rfl⟩ (by decide) 4 0 rfl rfl rfl ⟨Nat.le_of_ble_eq_true rfl, Nat.le_of_ble_eq_true rfl⟩ rfl (rest := [.ref sa]) rfl (Nat.le_of_ble_eq_true rfl) d0_clause_62 ⟨Nat.le_of_ble_eq_true rfl, Nat.le_of_ble_eq_true rfl⟩ (fun r w1 hr => ?_)
      obtain ⟨v20, at1_21, ft1_22, rfl, rfl, ⟨hq19_0, hq19_1, hq19_2⟩⟩ := hr
      refine j_eq (ws' := [(ca, o1 (some pa) (some da) (some sa) C), (pa, aInt E 5 P), (da, aInt E 24 dr), (sa, aInt E 24 sr), (ra, o0 (some ba) (upS (upS R 2 at1_21) 3 ft1_22)), (ba, aInt E 100 tb)]) rfl rfl rfl ?_
      try simp only [upS, reduceIte, Nat.reduceEqDiff, eq_self] at hq19_0 hq19_1 hq19_2
      have hE := hq19_0
      have hEr := hq19_1
      have hEx := hq19_2
      have hfin := cl_ex hat.1 hlv hW hT hN (by omega) (by omega) hT2 hE
      refine j_iload_n G 0 rfl d0_clause_65 ?_
      refine j_SM G (rm' := { frames := 0, cells := 0, slots := 0, locals := 0 }) (wc := [(sa, aInt E 24 sr)]) (wr := [(ca, o1 (some pa) (some da) (some sa) C), (pa, aInt E 5 P), (da, aInt E 24 dr), (ra, o0 (some ba) (upS (upS R 2 at1_21) 3 ft1_22)), (ba, aInt E 100 tb)]) (k1_addIn (xl Γ) E sa sr v20 v10 ) mw1_addIn ml0_71 [3] [0, 1, 2, 4, 5] rfl rfl ⟨rfl, rfl⟩ (by decide) ⟨Nat.le_of_ble_eq_true rfl, Nat.le_of_ble_eq_true rfl⟩ rfl (rest := []) rfl (Nat.le_of_ble_eq_true rfl) d0_clause_66 ⟨Nat.le_of_ble_eq_true rfl, Nat.le_of_ble_eq_true rfl⟩ (fun r w1 hr => ?_)
      obtain ⟨dr1_24, rfl, rfl, hq23⟩ := hr
      refine j_eq (ws' := [(ca, o1 (some pa) (some da) (some sa) C), (pa, aInt E 5 P), (da, aInt E 24 dr), (ra, o0 (some ba) (upS (upS R 2 at1_21) 3 ft1_22)), (ba, aInt E 100 tb), (sa, aInt E 24 dr1_24)]) rfl rfl rfl ?_
      have hadd := hq23
      refine j_goto (tgt := 78) G d0_clause_69 (by decide) ?_
      refine j_perm (ws' := [(ra, o0 (some ba) (upS (upS R 2 at1_21) 3 ft1_22)), (ba, aInt E 100 tb), (ca, o1 (some pa) (some da) (some sa) C), (pa, aInt E 5 P), (da, aInt E 24 dr), (sa, aInt E 24 dr1_24)]) [3, 4, 0, 1, 2, 5] rfl rfl rfl ?_
      exact j_vret G F d0_clause_78 ⟨at1_21, ft1_22, C, P, dr, dr1_24, rfl, rfl, (by first | (refine ⟨?_, by omega, by omega, (by rw [htk0]; exact tkF_1 hC1)⟩; rcases hfin with ⟨q1, q2, q3, q4, q5⟩ | ⟨q1, q2, q3⟩; (left; rw [q4, q5] at htk0 htk1; exact ⟨q1, q2, q3, htk0, htk1, add_no (by omega), add_no (by omega)⟩); (right; exact ⟨q1, q2, q3⟩)) | (refine ⟨?_, by omega, by omega, hC1⟩; rcases hfin with ⟨q1, q2, q3, q4, q5, q6⟩ | ⟨q1, q2, q3⟩; (left; rw [q5] at hadd; refine ⟨q1, q2, q3, ?_, ?_, ?_, ?_⟩; (rw [tkF_e (by omega)]); (rw [tkF_e (by omega)]); (first | exact add_ok q6 (by omega) hadd | exact add_no (by omega)); (first | exact add_ok q6 (by omega) hadd | exact add_no (by omega))); (right; exact ⟨q1, q2, q3⟩)))⟩
    ·
      refine j_aload_n G 3 rfl d0_clause_49 ?_
      refine j_get G 0 1 8 in1 fl0_62 d0_clause_50 rfl rfl (by decide) (v := .ref da) rfl rfl ?_
      refine j_goto (tgt := 60) G d0_clause_53 (by decide) ?_
      refine j_aload_n G 2 rfl d0_clause_60 ?_
      refine j_iconst G d0_clause_61 ?_
      refine j_VM G (rm' := { frames := 16, cells := 0, slots := 0, locals := 372 }) (wc := [(ra, o0 (some ba) (upS (upS R 2 at1_16) 3 ft1_17)), (ba, aInt E 100 tb)]) (wr := [(ca, o1 (some pa) (some da) (some sa) C), (pa, aInt E 5 P), (da, aInt E 24 dr), (sa, aInt E 24 sr)]) (k0_either_0 (xl Γ) E ra ba (upS (upS R 2 at1_16) 3 ft1_17) tb U 0 (by first | assumption | omega | (simp only [upS, reduceIte, Nat.reduceEqDiff, eq_self, List.length_cons, List.length_nil, List.length_append] <;> omega)) (by first | assumption | omega | (simp only [upS, reduceIte, Nat.reduceEqDiff, eq_self, List.length_cons, List.length_nil, List.length_append] <;> omega)) (by first | assumption | omega | (simp only [upS, reduceIte, Nat.reduceEqDiff, eq_self, List.length_cons, List.length_nil, List.length_append] <;> omega)) (by first | assumption | omega | (simp only [upS, reduceIte, Nat.reduceEqDiff, eq_self, List.length_cons, List.length_nil, List.length_append] <;> omega)) (by first | assumption | omega | (simp only [upS, reduceIte, Nat.reduceEqDiff, eq_self, List.length_cons, List.length_nil, List.length_append] <;> omega))) mw0_either ml0_68 [4, 5] [0, 1, 2, 3] rfl rfl ⟨rfl, rfl⟩ (by decide) 4 0 rfl rfl rfl ⟨Nat.le_of_ble_eq_true rfl, Nat.le_of_ble_eq_true rfl⟩ rfl (rest := [.ref da]) rfl (Nat.le_of_ble_eq_true rfl) d0_clause_62 ⟨Nat.le_of_ble_eq_true rfl, Nat.le_of_ble_eq_true rfl⟩ (fun r w1 hr => ?_)
      obtain ⟨v26, at1_27, ft1_28, rfl, rfl, ⟨hq25_0, hq25_1, hq25_2⟩⟩ := hr
      refine j_eq (ws' := [(ca, o1 (some pa) (some da) (some sa) C), (pa, aInt E 5 P), (da, aInt E 24 dr), (sa, aInt E 24 sr), (ra, o0 (some ba) (upS (upS R 2 at1_27) 3 ft1_28)), (ba, aInt E 100 tb)]) rfl rfl rfl ?_
      try simp only [upS, reduceIte, Nat.reduceEqDiff, eq_self] at hq25_0 hq25_1 hq25_2
      have hE := hq25_0
      have hEr := hq25_1
      have hEx := hq25_2
      have hfin := cl_ex hat.1 hlv hW hT hN (by omega) (by omega) hT2 hE
      refine j_iload_n G 0 rfl d0_clause_65 ?_
      refine j_SM G (rm' := { frames := 0, cells := 0, slots := 0, locals := 0 }) (wc := [(da, aInt E 24 dr)]) (wr := [(ca, o1 (some pa) (some da) (some sa) C), (pa, aInt E 5 P), (sa, aInt E 24 sr), (ra, o0 (some ba) (upS (upS R 2 at1_27) 3 ft1_28)), (ba, aInt E 100 tb)]) (k1_addIn (xl Γ) E da dr v26 v10 ) mw1_addIn ml0_71 [2] [0, 1, 3, 4, 5] rfl rfl ⟨rfl, rfl⟩ (by decide) ⟨Nat.le_of_ble_eq_true rfl, Nat.le_of_ble_eq_true rfl⟩ rfl (rest := []) rfl (Nat.le_of_ble_eq_true rfl) d0_clause_66 ⟨Nat.le_of_ble_eq_true rfl, Nat.le_of_ble_eq_true rfl⟩ (fun r w1 hr => ?_)
      obtain ⟨dr1_30, rfl, rfl, hq29⟩ := hr
      refine j_eq (ws' := [(ca, o1 (some pa) (some da) (some sa) C), (pa, aInt E 5 P), (sa, aInt E 24 sr), (ra, o0 (some ba) (upS (upS R 2 at1_27) 3 ft1_28)), (ba, aInt E 100 tb), (da, aInt E 24 dr1_30)]) rfl rfl rfl ?_
      have hadd := hq29
      refine j_goto (tgt := 78) G d0_clause_69 (by decide) ?_
      refine j_perm (ws' := [(ra, o0 (some ba) (upS (upS R 2 at1_27) 3 ft1_28)), (ba, aInt E 100 tb), (ca, o1 (some pa) (some da) (some sa) C), (pa, aInt E 5 P), (da, aInt E 24 dr1_30), (sa, aInt E 24 sr)]) [3, 4, 0, 1, 5, 2] rfl rfl rfl ?_
      exact j_vret G F d0_clause_78 ⟨at1_27, ft1_28, C, P, dr1_30, sr, rfl, rfl, (by first | (refine ⟨?_, by omega, by omega, (by rw [htk0]; exact tkF_1 hC1)⟩; rcases hfin with ⟨q1, q2, q3, q4, q5⟩ | ⟨q1, q2, q3⟩; (left; rw [q4, q5] at htk0 htk1; exact ⟨q1, q2, q3, htk0, htk1, add_no (by omega), add_no (by omega)⟩); (right; exact ⟨q1, q2, q3⟩)) | (refine ⟨?_, by omega, by omega, hC1⟩; rcases hfin with ⟨q1, q2, q3, q4, q5, q6⟩ | ⟨q1, q2, q3⟩; (left; rw [q5] at hadd; refine ⟨q1, q2, q3, ?_, ?_, ?_, ?_⟩; (rw [tkF_e (by omega)]); (rw [tkF_e (by omega)]); (first | exact add_ok q6 (by omega) hadd | exact add_no (by omega)); (first | exact add_ok q6 (by omega) hadd | exact add_no (by omega))); (right; exact ⟨q1, q2, q3⟩)))⟩
  ·
    refine j_iload_n G 1 rfl d0_clause_27 ?_
    refine j_bipush G d0_clause_28 rfl ?_
    refine j_icmp_ne (tgt := 72) G d0_clause_30 (by decide) (by omega) (by decide) (fun h31 => ?_) (fun h31 => ?_)
    ·
      have hfin := cl_take hat.1 hlv hW hT hN (by omega)
      refine j_aload_n G 3 rfl d0_clause_72 ?_
      refine j_iload_n G 1 rfl d0_clause_73 ?_
      refine j_iload_n G 0 rfl d0_clause_74 ?_
      refine j_VM G (rm' := { frames := 1, cells := 0, slots := 0, locals := 21 }) (wc := [(ca, o1 (some pa) (some da) (some sa) C), (pa, aInt E 5 P)]) (wr := [(da, aInt E 24 dr), (sa, aInt E 24 sr), (ra, o0 (some ba) (upS (upS R 2 at1_11) 3 ft1_12)), (ba, aInt E 100 tb)]) (k1_take (xl Γ) E ca pa da sa C P v2 v10 (by first | assumption | omega | (simp only [upS, reduceIte, Nat.reduceEqDiff, eq_self, List.length_cons, List.length_nil, List.length_append] <;> omega)) (by first | assumption | omega | (simp only [upS, reduceIte, Nat.reduceEqDiff, eq_self, List.length_cons, List.length_nil, List.length_append] <;> omega)) (by first | assumption | omega | (simp only [upS, reduceIte, Nat.reduceEqDiff, eq_self, List.length_cons, List.length_nil, List.length_append] <;> omega))) mw1_take ml0_75 [0, 1] [2, 3, 4, 5] rfl rfl ⟨rfl, rfl⟩ (by decide) 0 1 rfl rfl rfl ⟨Nat.le_of_ble_eq_true rfl, Nat.le_of_ble_eq_true rfl⟩ rfl (rest := []) rfl (Nat.le_of_ble_eq_true rfl) d0_clause_75 ⟨Nat.le_of_ble_eq_true rfl, Nat.le_of_ble_eq_true rfl⟩ (fun r w1 hr => ?_)
      obtain ⟨C1_33, P1_34, rfl, rfl, ⟨hq32_0, hq32_1⟩⟩ := hr
      refine j_eq (ws' := [(da, aInt E 24 dr), (sa, aInt E 24 sr), (ra, o0 (some ba) (upS (upS R 2 at1_11) 3 ft1_12)), (ba, aInt E 100 tb), (ca, o1 (some pa) (some da) (some sa) C1_33), (pa, aInt E 5 P1_34)]) rfl rfl rfl ?_
      have htk0 := hq32_0
      have htk1 := hq32_1
      refine j_perm (ws' := [(ra, o0 (some ba) (upS (upS R 2 at1_11) 3 ft1_12)), (ba, aInt E 100 tb), (ca, o1 (some pa) (some da) (some sa) C1_33), (pa, aInt E 5 P1_34), (da, aInt E 24 dr), (sa, aInt E 24 sr)]) [2, 3, 4, 5, 0, 1] rfl rfl rfl ?_
      exact j_vret G F d0_clause_78 ⟨at1_11, ft1_12, C1_33, P1_34, dr, sr, rfl, rfl, (by first | (refine ⟨?_, by omega, by omega, (by rw [htk0]; exact tkF_1 hC1)⟩; rcases hfin with ⟨q1, q2, q3, q4, q5⟩ | ⟨q1, q2, q3⟩; (left; rw [q4, q5] at htk0 htk1; exact ⟨q1, q2, q3, htk0, htk1, add_no (by omega), add_no (by omega)⟩); (right; exact ⟨q1, q2, q3⟩)) | (refine ⟨?_, by omega, by omega, hC1⟩; rcases hfin with ⟨q1, q2, q3, q4, q5, q6⟩ | ⟨q1, q2, q3⟩; (left; rw [q5] at hadd; refine ⟨q1, q2, q3, ?_, ?_, ?_, ?_⟩; (rw [tkF_e (by omega)]); (rw [tkF_e (by omega)]); (first | exact add_ok q6 (by omega) hadd | exact add_no (by omega)); (first | exact add_ok q6 (by omega) hadd | exact add_no (by omega))); (right; exact ⟨q1, q2, q3⟩)))⟩
    ·
      refine j_aload_n G 2 rfl d0_clause_33 ?_
      refine j_bipush G d0_clause_34 rfl ?_
      refine j_bipush G d0_clause_36 rfl ?_
      refine j_bipush G d0_clause_38 rfl ?_
      refine j_VM G (rm' := { frames := 1, cells := 0, slots := 0, locals := 20 }) (wc := [(ra, o0 (some ba) (upS (upS R 2 at1_11) 3 ft1_12)), (ba, aInt E 100 tb)]) (wr := [(ca, o1 (some pa) (some da) (some sa) C), (pa, aInt E 5 P), (da, aInt E 24 dr), (sa, aInt E 24 sr)]) (k0_takeOneOf (xl Γ) E ra ba (upS (upS R 2 at1_11) 3 ft1_12) tb U 32 32 32 (by first | assumption | omega | (simp only [upS, reduceIte, Nat.reduceEqDiff, eq_self, List.length_cons, List.length_nil, List.length_append] <;> omega)) (by first | assumption | omega | (simp only [upS, reduceIte, Nat.reduceEqDiff, eq_self, List.length_cons, List.length_nil, List.length_append] <;> omega)) (by first | assumption | omega | (simp only [upS, reduceIte, Nat.reduceEqDiff, eq_self, List.length_cons, List.length_nil, List.length_append] <;> omega)) (by first | assumption | omega | (simp only [upS, reduceIte, Nat.reduceEqDiff, eq_self, List.length_cons, List.length_nil, List.length_append] <;> omega)) (by first | assumption | omega | (simp only [upS, reduceIte, Nat.reduceEqDiff, eq_self, List.length_cons, List.length_nil, List.length_append] <;> omega))) mw0_takeOneOf ml0_54 [4, 5] [0, 1, 2, 3] rfl rfl ⟨rfl, rfl⟩ (by decide) 4 0 rfl rfl rfl ⟨Nat.le_of_ble_eq_true rfl, Nat.le_of_ble_eq_true rfl⟩ rfl (rest := []) rfl (Nat.le_of_ble_eq_true rfl) d0_clause_40 ⟨Nat.le_of_ble_eq_true rfl, Nat.le_of_ble_eq_true rfl⟩ (fun r w1 hr => ?_)
      obtain ⟨v36, at1_37, ft1_38, rfl, rfl, ⟨hq35_0, hq35_1, hq35_2, hq35_3⟩⟩ := hr
      refine j_eq (ws' := [(ca, o1 (some pa) (some da) (some sa) C), (pa, aInt E 5 P), (da, aInt E 24 dr), (sa, aInt E 24 sr), (ra, o0 (some ba) (upS (upS R 2 at1_37) 3 ft1_38)), (ba, aInt E 100 tb)]) rfl rfl rfl ?_
      try simp only [upS, reduceIte, Nat.reduceEqDiff, eq_self] at hq35_0 hq35_1 hq35_2 hq35_3
      have hT2 := tk_of hq35_0
      have hT2r := hq35_1
      have hT2s := hq35_2
      clear hq35_0
      refine j_pop G d0_clause_43 rfl ?_
      refine j_iload_n G 1 rfl d0_clause_44 ?_
      refine j_iconst G d0_clause_45 ?_
      refine j_icmp_ne (tgt := 56) G d0_clause_46 (by decide) (by omega) (by decide) (fun h39 => ?_) (fun h39 => ?_)
      ·
        refine j_aload_n G 3 rfl d0_clause_56 ?_
        refine j_get G 0 1 9 in1 fl0_65 d0_clause_57 rfl rfl (by decide) (v := .ref sa) rfl rfl ?_
        refine j_aload_n G 2 rfl d0_clause_60 ?_
        refine j_iconst G d0_clause_61 ?_
        refine j_VM G (rm' := { frames := 16, cells := 0, slots := 0, locals := 372 }) (wc := [(ra, o0 (some ba) (upS (upS R 2 at1_37) 3 ft1_38)), (ba, aInt E 100 tb)]) (wr := [(ca, o1 (some pa) (some da) (some sa) C), (pa, aInt E 5 P), (da, aInt E 24 dr), (sa, aInt E 24 sr)]) (k0_either_0 (xl Γ) E ra ba (upS (upS R 2 at1_37) 3 ft1_38) tb U 0 (by first | assumption | omega | (simp only [upS, reduceIte, Nat.reduceEqDiff, eq_self, List.length_cons, List.length_nil, List.length_append] <;> omega)) (by first | assumption | omega | (simp only [upS, reduceIte, Nat.reduceEqDiff, eq_self, List.length_cons, List.length_nil, List.length_append] <;> omega)) (by first | assumption | omega | (simp only [upS, reduceIte, Nat.reduceEqDiff, eq_self, List.length_cons, List.length_nil, List.length_append] <;> omega)) (by first | assumption | omega | (simp only [upS, reduceIte, Nat.reduceEqDiff, eq_self, List.length_cons, List.length_nil, List.length_append] <;> omega)) (by first | assumption | omega | (simp only [upS, reduceIte, Nat.reduceEqDiff, eq_self, List.length_cons, List.length_nil, List.length_append] <;> omega))) mw0_either ml0_68 [4, 5] [0, 1, 2, 3] rfl rfl ⟨rfl, rfl⟩ (by decide) 4 0 rfl rfl rfl ⟨Nat.le_of_ble_eq_true rfl, Nat.le_of_ble_eq_true rfl⟩ rfl (rest := [.ref sa]) rfl (Nat.le_of_ble_eq_true rfl) d0_clause_62 ⟨Nat.le_of_ble_eq_true rfl, Nat.le_of_ble_eq_true rfl⟩ (fun r w1 hr => ?_)
        obtain ⟨v41, at1_42, ft1_43, rfl, rfl, ⟨hq40_0, hq40_1, hq40_2⟩⟩ := hr
        refine j_eq (ws' := [(ca, o1 (some pa) (some da) (some sa) C), (pa, aInt E 5 P), (da, aInt E 24 dr), (sa, aInt E 24 sr), (ra, o0 (some ba) (upS (upS R 2 at1_42) 3 ft1_43)), (ba, aInt E 100 tb)]) rfl rfl rfl ?_
        try simp only [upS, reduceIte, Nat.reduceEqDiff, eq_self] at hq40_0 hq40_1 hq40_2
        have hE := hq40_0
        have hEr := hq40_1
        have hEx := hq40_2
        have hfin := cl_ex hat.1 hlv hW hT hN (by omega) (by omega) hT2 hE
        refine j_iload_n G 0 rfl d0_clause_65 ?_
        refine j_SM G (rm' := { frames := 0, cells := 0, slots := 0, locals := 0 }) (wc := [(sa, aInt E 24 sr)]) (wr := [(ca, o1 (some pa) (some da) (some sa) C), (pa, aInt E 5 P), (da, aInt E 24 dr), (ra, o0 (some ba) (upS (upS R 2 at1_42) 3 ft1_43)), (ba, aInt E 100 tb)]) (k1_addIn (xl Γ) E sa sr v41 v10 ) mw1_addIn ml0_71 [3] [0, 1, 2, 4, 5] rfl rfl ⟨rfl, rfl⟩ (by decide) ⟨Nat.le_of_ble_eq_true rfl, Nat.le_of_ble_eq_true rfl⟩ rfl (rest := []) rfl (Nat.le_of_ble_eq_true rfl) d0_clause_66 ⟨Nat.le_of_ble_eq_true rfl, Nat.le_of_ble_eq_true rfl⟩ (fun r w1 hr => ?_)
        obtain ⟨dr1_45, rfl, rfl, hq44⟩ := hr
        refine j_eq (ws' := [(ca, o1 (some pa) (some da) (some sa) C), (pa, aInt E 5 P), (da, aInt E 24 dr), (ra, o0 (some ba) (upS (upS R 2 at1_42) 3 ft1_43)), (ba, aInt E 100 tb), (sa, aInt E 24 dr1_45)]) rfl rfl rfl ?_
        have hadd := hq44
        refine j_goto (tgt := 78) G d0_clause_69 (by decide) ?_
        refine j_perm (ws' := [(ra, o0 (some ba) (upS (upS R 2 at1_42) 3 ft1_43)), (ba, aInt E 100 tb), (ca, o1 (some pa) (some da) (some sa) C), (pa, aInt E 5 P), (da, aInt E 24 dr), (sa, aInt E 24 dr1_45)]) [3, 4, 0, 1, 2, 5] rfl rfl rfl ?_
        exact j_vret G F d0_clause_78 ⟨at1_42, ft1_43, C, P, dr, dr1_45, rfl, rfl, (by first | (refine ⟨?_, by omega, by omega, (by rw [htk0]; exact tkF_1 hC1)⟩; rcases hfin with ⟨q1, q2, q3, q4, q5⟩ | ⟨q1, q2, q3⟩; (left; rw [q4, q5] at htk0 htk1; exact ⟨q1, q2, q3, htk0, htk1, add_no (by omega), add_no (by omega)⟩); (right; exact ⟨q1, q2, q3⟩)) | (refine ⟨?_, by omega, by omega, hC1⟩; rcases hfin with ⟨q1, q2, q3, q4, q5, q6⟩ | ⟨q1, q2, q3⟩; (left; rw [q5] at hadd; refine ⟨q1, q2, q3, ?_, ?_, ?_, ?_⟩; (rw [tkF_e (by omega)]); (rw [tkF_e (by omega)]); (first | exact add_ok q6 (by omega) hadd | exact add_no (by omega)); (first | exact add_ok q6 (by omega) hadd | exact add_no (by omega))); (right; exact ⟨q1, q2, q3⟩)))⟩
      ·
        refine j_aload_n G 3 rfl d0_clause_49 ?_
        refine j_get G 0 1 8 in1 fl0_62 d0_clause_50 rfl rfl (by decide) (v := .ref da) rfl rfl ?_
        refine j_goto (tgt := 60) G d0_clause_53 (by decide) ?_
        refine j_aload_n G 2 rfl d0_clause_60 ?_
        refine j_iconst G d0_clause_61 ?_
        refine j_VM G (rm' := { frames := 16, cells := 0, slots := 0, locals := 372 }) (wc := [(ra, o0 (some ba) (upS (upS R 2 at1_37) 3 ft1_38)), (ba, aInt E 100 tb)]) (wr := [(ca, o1 (some pa) (some da) (some sa) C), (pa, aInt E 5 P), (da, aInt E 24 dr), (sa, aInt E 24 sr)]) (k0_either_0 (xl Γ) E ra ba (upS (upS R 2 at1_37) 3 ft1_38) tb U 0 (by first | assumption | omega | (simp only [upS, reduceIte, Nat.reduceEqDiff, eq_self, List.length_cons, List.length_nil, List.length_append] <;> omega)) (by first | assumption | omega | (simp only [upS, reduceIte, Nat.reduceEqDiff, eq_self, List.length_cons, List.length_nil, List.length_append] <;> omega)) (by first | assumption | omega | (simp only [upS, reduceIte, Nat.reduceEqDiff, eq_self, List.length_cons, List.length_nil, List.length_append] <;> omega)) (by first | assumption | omega | (simp only [upS, reduceIte, Nat.reduceEqDiff, eq_self, List.length_cons, List.length_nil, List.length_append] <;> omega)) (by first | assumption | omega | (simp only [upS, reduceIte, Nat.reduceEqDiff, eq_self, List.length_cons, List.length_nil, List.length_append] <;> omega))) mw0_either ml0_68 [4, 5] [0, 1, 2, 3] rfl rfl ⟨rfl, rfl⟩ (by decide) 4 0 rfl rfl rfl ⟨Nat.le_of_ble_eq_true rfl, Nat.le_of_ble_eq_true rfl⟩ rfl (rest := [.ref da]) rfl (Nat.le_of_ble_eq_true rfl) d0_clause_62 ⟨Nat.le_of_ble_eq_true rfl, Nat.le_of_ble_eq_true rfl⟩ (fun r w1 hr => ?_)
        obtain ⟨v47, at1_48, ft1_49, rfl, rfl, ⟨hq46_0, hq46_1, hq46_2⟩⟩ := hr
        refine j_eq (ws' := [(ca, o1 (some pa) (some da) (some sa) C), (pa, aInt E 5 P), (da, aInt E 24 dr), (sa, aInt E 24 sr), (ra, o0 (some ba) (upS (upS R 2 at1_48) 3 ft1_49)), (ba, aInt E 100 tb)]) rfl rfl rfl ?_
        try simp only [upS, reduceIte, Nat.reduceEqDiff, eq_self] at hq46_0 hq46_1 hq46_2
        have hE := hq46_0
        have hEr := hq46_1
        have hEx := hq46_2
        have hfin := cl_ex hat.1 hlv hW hT hN (by omega) (by omega) hT2 hE
        refine j_iload_n G 0 rfl d0_clause_65 ?_
        refine j_SM G (rm' := { frames := 0, cells := 0, slots := 0, locals := 0 }) (wc := [(da, aInt E 24 dr)]) (wr := [(ca, o1 (some pa) (some da) (some sa) C), (pa, aInt E 5 P), (sa, aInt E 24 sr), (ra, o0 (some ba) (upS (upS R 2 at1_48) 3 ft1_49)), (ba, aInt E 100 tb)]) (k1_addIn (xl Γ) E da dr v47 v10 ) mw1_addIn ml0_71 [2] [0, 1, 3, 4, 5] rfl rfl ⟨rfl, rfl⟩ (by decide) ⟨Nat.le_of_ble_eq_true rfl, Nat.le_of_ble_eq_true rfl⟩ rfl (rest := []) rfl (Nat.le_of_ble_eq_true rfl) d0_clause_66 ⟨Nat.le_of_ble_eq_true rfl, Nat.le_of_ble_eq_true rfl⟩ (fun r w1 hr => ?_)
        obtain ⟨dr1_51, rfl, rfl, hq50⟩ := hr
        refine j_eq (ws' := [(ca, o1 (some pa) (some da) (some sa) C), (pa, aInt E 5 P), (sa, aInt E 24 sr), (ra, o0 (some ba) (upS (upS R 2 at1_48) 3 ft1_49)), (ba, aInt E 100 tb), (da, aInt E 24 dr1_51)]) rfl rfl rfl ?_
        have hadd := hq50
        refine j_goto (tgt := 78) G d0_clause_69 (by decide) ?_
        refine j_perm (ws' := [(ra, o0 (some ba) (upS (upS R 2 at1_48) 3 ft1_49)), (ba, aInt E 100 tb), (ca, o1 (some pa) (some da) (some sa) C), (pa, aInt E 5 P), (da, aInt E 24 dr1_51), (sa, aInt E 24 sr)]) [3, 4, 0, 1, 5, 2] rfl rfl rfl ?_
        exact j_vret G F d0_clause_78 ⟨at1_48, ft1_49, C, P, dr1_51, sr, rfl, rfl, (by first | (refine ⟨?_, by omega, by omega, (by rw [htk0]; exact tkF_1 hC1)⟩; rcases hfin with ⟨q1, q2, q3, q4, q5⟩ | ⟨q1, q2, q3⟩; (left; rw [q4, q5] at htk0 htk1; exact ⟨q1, q2, q3, htk0, htk1, add_no (by omega), add_no (by omega)⟩); (right; exact ⟨q1, q2, q3⟩)) | (refine ⟨?_, by omega, by omega, hC1⟩; rcases hfin with ⟨q1, q2, q3, q4, q5, q6⟩ | ⟨q1, q2, q3⟩; (left; rw [q5] at hadd; refine ⟨q1, q2, q3, ?_, ?_, ?_, ?_⟩; (rw [tkF_e (by omega)]); (rw [tkF_e (by omega)]); (first | exact add_ok q6 (by omega) hadd | exact add_no (by omega)); (first | exact add_ok q6 (by omega) hadd | exact add_no (by omega))); (right; exact ⟨q1, q2, q3⟩)))⟩
