/-- what place c tells of clause i -/
def ClF (U : Int → Int) (n : Int) (wd nu fo to sg : Int → Int) (lo e : Int) (i : Nat) (c : Int) : Prop := wd c = hdK U n (cpos U n i) ∧ nu c = clN U n (cpos U n i) ∧ (isE (hdK U n (cpos U n i)) → PF sg (fo c) (to c) (clV U n (cpos U n i)) ∧ lo ≤ fo c ∧ to c ≤ e)
theorem ClF.keep {U : Int → Int} {n : Int} {wd nu fo to sg wd' nu' fo' to' sg' : Int → Int} {lo e e' c c' : Int} {i : Nat} (h : ClF U n wd nu fo to sg lo e i c) (hc : ¬ c = c') (h1 : Only c' wd wd') (h2 : Only c' nu nu') (h3 : Only c' fo fo') (h4 : Only c' to to') (h5 : ∀ j, j < e → sg' j = sg j) (he : e ≤ e') : ClF U n wd' nu' fo' to' sg' lo e' i c := by
  obtain ⟨q1, q2, q3⟩ := h
  refine ⟨by rw [h1 c hc]; exact q1, by rw [h2 c hc]; exact q2, fun q => ?_⟩
  obtain ⟨r1, r2, r3⟩ := q3 q
  rw [h3 c hc, h4 c hc]
  exact ⟨PF_ext r1 (fun j _ h => h5 j (by omega)), r2, by omega⟩
theorem Only.of {c x : Int} {f g : Int → Int} (h : g = upI f c x) : Only c f g := by rw [h]; exact Only.up
def Out (lo hi : Int) (f g : Int → Int) : Prop := ∀ j, (j < lo ∨ hi ≤ j) → g j = f j
theorem Out.rf {lo hi : Int} {f : Int → Int} : Out lo hi f f := fun _ _ => rfl
theorem Out.only {lo hi c : Int} {f g h : Int → Int} (a : Out lo hi f g) (b : Only c g h) (h1 : lo ≤ c) (h2 : c < hi) : Out lo hi f h := fun j q => (b j (by omega)).trans (a j q)
theorem Out.up {lo hi c x : Int} {f g : Int → Int} (a : Out lo hi f g) (h1 : lo ≤ c) (h2 : c < hi) : Out lo hi f (upI g c x) := fun j q => (upI_ne (by omega)).trans (a j q)
section
variable {U : Int → Int} {n : Int} {i m : Nat}
theorem txF_bad (h : ¬ clOk U n (cpos U n i)) : txF U n (m + 1) i = (0, clE U n (cpos U n i)) := if_neg h
theorem txF_end (h : clOk U n (cpos U n i)) (h2 : clE U n (cpos U n i) = n) : txF U n (m + 1) i = (1, (i : Int) + 1) := by unfold txF; rw [if_pos h, if_pos h2]
theorem txF_stop (h : clOk U n (cpos U n i)) (h2 : ¬ clE U n (cpos U n i) = n) (h3 : i = 11 ∨ ¬ nx U n (clE U n (cpos U n i)) = 59) : txF U n (m + 1) i = (0, clE U n (cpos U n i)) := by unfold txF; rw [if_pos h, if_neg h2, if_pos h3]
theorem txF_go (h : clOk U n (cpos U n i)) (h2 : ¬ clE U n (cpos U n i) = n) (h3 : ¬ (i = 11 ∨ ¬ nx U n (clE U n (cpos U n i)) = 59)) : txF U n (m + 1) i = txF U n m (i + 1) := by
  rw [txF]
  rw [if_pos h, if_neg h2, if_neg h3]
end
theorem d10_goesText_0 : decode c10_goesText 0 = .ok (.aload_n 0, 1) := by decide +kernel
theorem d10_goesText_1 : decode c10_goesText 1 = .ok (.iconst 0, 1) := by decide +kernel
theorem d10_goesText_2 : decode c10_goesText 2 = .ok (.putfield 19, 3) := by decide +kernel
theorem d10_goesText_5 : decode c10_goesText 5 = .ok (.aload_n 0, 1) := by decide +kernel
theorem d10_goesText_6 : decode c10_goesText 6 = .ok (.bipush 100, 2) := by decide +kernel
theorem d10_goesText_8 : decode c10_goesText 8 = .ok (.iload_n 1, 1) := by decide +kernel
theorem d10_goesText_9 : decode c10_goesText 9 = .ok (.imul, 1) := by decide +kernel
theorem d10_goesText_10 : decode c10_goesText 10 = .ok (.putfield 59, 3) := by decide +kernel
theorem d10_goesText_13 : decode c10_goesText 13 = .ok (.iconst 0, 1) := by decide +kernel
theorem d10_goesText_14 : decode c10_goesText 14 = .ok (.istore_n 2, 1) := by decide +kernel
theorem d10_goesText_15 : decode c10_goesText 15 = .ok (.aload_n 0, 1) := by decide +kernel
theorem d10_goesText_16 : decode c10_goesText 16 = .ok (.bipush 12, 2) := by decide +kernel
theorem d10_goesText_18 : decode c10_goesText 18 = .ok (.iload_n 1, 1) := by decide +kernel
theorem d10_goesText_19 : decode c10_goesText 19 = .ok (.imul, 1) := by decide +kernel
theorem d10_goesText_20 : decode c10_goesText 20 = .ok (.iload_n 2, 1) := by decide +kernel
theorem d10_goesText_21 : decode c10_goesText 21 = .ok (.iadd, 1) := by decide +kernel
theorem d10_goesText_22 : decode c10_goesText 22 = .ok (.invokevirtual 273, 3) := by decide +kernel
theorem d10_goesText_25 : decode c10_goesText 25 = .ok (.ifCond .ne 5, 3) := by decide +kernel
theorem d10_goesText_28 : decode c10_goesText 28 = .ok (.iconst 0, 1) := by decide +kernel
theorem d10_goesText_29 : decode c10_goesText 29 = .ok (.ireturn, 1) := by decide +kernel
theorem d10_goesText_30 : decode c10_goesText 30 = .ok (.iinc 2 1, 3) := by decide +kernel
theorem d10_goesText_33 : decode c10_goesText 33 = .ok (.aload_n 0, 1) := by decide +kernel
theorem d10_goesText_34 : decode c10_goesText 34 = .ok (.getfield 29, 3) := by decide +kernel
theorem d10_goesText_37 : decode c10_goesText 37 = .ok (.iload_n 1, 1) := by decide +kernel
theorem d10_goesText_38 : decode c10_goesText 38 = .ok (.iload_n 2, 1) := by decide +kernel
theorem d10_goesText_39 : decode c10_goesText 39 = .ok (.iastore, 1) := by decide +kernel
theorem d10_goesText_40 : decode c10_goesText 40 = .ok (.aload_n 0, 1) := by decide +kernel
theorem d10_goesText_41 : decode c10_goesText 41 = .ok (.getfield 19, 3) := by decide +kernel
theorem d10_goesText_44 : decode c10_goesText 44 = .ok (.aload_n 0, 1) := by decide +kernel
theorem d10_goesText_45 : decode c10_goesText 45 = .ok (.getfield 16, 3) := by decide +kernel
theorem d10_goesText_48 : decode c10_goesText 48 = .ok (.if_icmp .ne 5, 3) := by decide +kernel
theorem d10_goesText_51 : decode c10_goesText 51 = .ok (.iconst 1, 1) := by decide +kernel
theorem d10_goesText_52 : decode c10_goesText 52 = .ok (.ireturn, 1) := by decide +kernel
theorem d10_goesText_53 : decode c10_goesText 53 = .ok (.iload_n 2, 1) := by decide +kernel
theorem d10_goesText_54 : decode c10_goesText 54 = .ok (.bipush 12, 2) := by decide +kernel
theorem d10_goesText_56 : decode c10_goesText 56 = .ok (.if_icmp .eq 12, 3) := by decide +kernel
theorem d10_goesText_59 : decode c10_goesText 59 = .ok (.aload_n 0, 1) := by decide +kernel
theorem d10_goesText_60 : decode c10_goesText 60 = .ok (.bipush 59, 2) := by decide +kernel
theorem d10_goesText_62 : decode c10_goesText 62 = .ok (.invokevirtual 227, 3) := by decide +kernel
theorem d10_goesText_65 : decode c10_goesText 65 = .ok (.ifCond .ne (-50), 3) := by decide +kernel
theorem d10_goesText_68 : decode c10_goesText 68 = .ok (.iconst 0, 1) := by decide +kernel
theorem d10_goesText_69 : decode c10_goesText 69 = .ok (.ireturn, 1) := by decide +kernel
theorem mw10_goesText : MV y10_goesText c10_goesText 3 (some .boolean) 1 := ⟨cd10_goesText, ini10, na10_goesText, im10_goesText, se10_goesText⟩
set_option maxHeartbeats 4000000 in
set_option maxRecDepth 100000 in
theorem k10_goesText (l : Launch) (E : En) (mo : Nat) (ad : Nat → Nat) (S : Nat → Int) (tx : Int → Int) (wd : Int → Int) (nu : Int → Int) (fo : Int → Int) (to : Int → Int) (sg : Int → Int) (wt : Int → Int) (cl : Int → Int) (f : Int) (htx : ∀ j, 0 ≤ j → j < 100 → -128 ≤ tx j ∧ tx j ≤ 127) (hfd : 0 ≤ S 2 ∧ S 2 ≤ 100) (hf : 0 ≤ f ∧ f ≤ 3) (hsg : ∀ j, 0 ≤ j → j < 400 → -200 ≤ sg j ∧ sg j ≤ 20000) (hwb : ∀ j, 0 ≤ j → j < 101 → 0 ≤ wt j ∧ wt j ≤ 200) : Cm l E y10_goesText c10_goesText 3 (some .boolean) { frames := 6, cells := 0, slots := 0, locals := 131 } [.ref mo, .int (iZ f)] [(mo, mO ad S), (ad 5, aInt E 100 tx), (ad 7, aInt E 48 wd), (ad 8, aInt E 48 nu), (ad 9, aInt E 48 fo), (ad 10, aInt E 48 to), (ad 14, aInt E 400 sg), (ad 15, aInt E 101 wt), (ad 6, aInt E 4 cl)] (fun r ws => ∃ (v : Int), ∃ (wd1 : Int → Int), ∃ (nu1 : Int → Int), ∃ (fo1 : Int → Int), ∃ (to1 : Int → Int), ∃ (sg1 : Int → Int), ∃ (wt1 : Int → Int), ∃ (cl1 : Int → Int), ∃ (az1 : Int), ∃ (dg1 : Int), ∃ (e1 : Int), ∃ (w1 : Int), ∃ (o1 : Int), r = some (.int (iZ v)) ∧ ws = [(mo, mO ad (upS (upS (upS (upS (upS S 3 az1) 4 dg1) 16 e1) 17 w1) 18 o1)), (ad 5, aInt E 100 tx), (ad 7, aInt E 48 wd1), (ad 8, aInt E 48 nu1), (ad 9, aInt E 48 fo1), (ad 10, aInt E 48 to1), (ad 14, aInt E 400 sg1), (ad 15, aInt E 101 wt1), (ad 6, aInt E 4 cl1)] ∧ ((((txF tx (S 2) 12 0).1 = 1 ∧ cl1 f = (txF tx (S 2) 12 0).2 ∧ (1 ≤ cl1 f ∧ cl1 f ≤ 12) ∧ (∀ i : Nat, (i : Int) < cl1 f → ClF tx (S 2) wd1 nu1 fo1 to1 sg1 (100 * f) e1 i (12 * f + i)) ∧ (100 * f ≤ e1 ∧ e1 ≤ 100 * f + az1)) ∧ ((0 ≤ az1 ∧ az1 ≤ S 2) ∧ (∀ j, 0 ≤ j → j < 400 → -200 ≤ sg1 j ∧ sg1 j ≤ 20000) ∧ (∀ j, 0 ≤ j → j < 101 → 0 ≤ wt1 j ∧ wt1 j ≤ 200) ∧ ((Out (12 * f) (12 * f + 12) wd wd1) ∧ (Out (12 * f) (12 * f + 12) nu nu1) ∧ (Out (12 * f) (12 * f + 12) fo fo1) ∧ (Out (12 * f) (12 * f + 12) to to1)) ∧ (∀ j, j < 100 * f → sg1 j = sg j) ∧ Only f cl cl1)) ∧ v = 1 ∨ (((txF tx (S 2) 12 0).1 = 0 ∧ az1 = (txF tx (S 2) 12 0).2) ∧ ((0 ≤ az1 ∧ az1 ≤ S 2) ∧ (∀ j, 0 ≤ j → j < 400 → -200 ≤ sg1 j ∧ sg1 j ≤ 20000) ∧ (∀ j, 0 ≤ j → j < 101 → 0 ≤ wt1 j ∧ wt1 j ≤ 200) ∧ ((Out (12 * f) (12 * f + 12) wd wd1) ∧ (Out (12 * f) (12 * f + 12) nu nu1) ∧ (Out (12 * f) (12 * f + 12) fo fo1) ∧ (Out (12 * f) (12 * f + 12) to to1)) ∧ (∀ j, j < 100 * f → sg1 j = sg j) ∧ Only f cl cl1)) ∧ v = 0)) := by
  refine Cm.of (by decide +kernel) (Nat.le_of_ble_eq_true rfl) (fun Γ A hl hargs hin G F => ?_)
  subst hl
  refine j_aload_n G 0 rfl d10_goesText_0 ?_
  refine j_iconst G d10_goesText_1 ?_
  refine j_put G 0 10 3 in10 tyok10 nm10 fl10_19 d10_goesText_2 rfl rfl (by decide) ⟨rfl, rfl⟩ rfl rfl (Nat.le_of_ble_eq_true rfl) (e := mO ad (upS S 3 0)) rfl ?_
  refine j_aload_n G 0 rfl d10_goesText_5 ?_
  refine j_bipush G d10_goesText_6 rfl ?_
  refine j_iload_n G 1 rfl d10_goesText_8 ?_
  refine j_imul G d10_goesText_9 ?_
  refine j_put G 0 10 16 in10 tyok10 nm10 fl10_59 d10_goesText_10 rfl rfl (by decide) ⟨rfl, rfl⟩ rfl rfl (Nat.le_of_ble_eq_true rfl) (e := mO ad (upS (upS S 3 0) 16 (100 * f))) rfl ?_
  refine j_iconst G d10_goesText_13 ?_
  refine j_istore_n G d10_goesText_14 (by decide) rfl ?_
  refine j_eq (ws' := [(mo, mO ad (upS (upS (upS (upS (upS S 3 0) 4 (S 4)) 16 (100 * f)) 17 (S 17)) 18 (S 18))), (ad 5, aInt E 100 tx), (ad 7, aInt E 48 wd), (ad 8, aInt E 48 nu), (ad 9, aInt E 48 fo), (ad 10, aInt E 48 to), (ad 14, aInt E 400 sg), (ad 15, aInt E 101 wt), (ad 6, aInt E 4 cl)]) rfl rfl rfl ?_
  have lp15 : ∀ (fu : Nat) (n : Int) (az : Int) (dg : Int) (e : Int) (w : Int) (o : Int) (wd2 : Int → Int) (nu2 : Int → Int) (fo2 : Int → Int) (to2 : Int → Int) (sg2 : Int → Int) (wt2 : Int → Int) (cl2 : Int → Int), (12 - n).toNat < fu → (0 ≤ n ∧ n ≤ 11) → (0 ≤ az ∧ az ≤ S 2) → (az = cpos tx (S 2) n.toNat) → (e ≤ 100 * f + az ∧ 100 * f ≤ e) → (txF tx (S 2) 12 0 = txF tx (S 2) (12 - n).toNat n.toNat) → (∀ i : Nat, (i : Int) < n → ClF tx (S 2) wd2 nu2 fo2 to2 sg2 (100 * f) e i (12 * f + i)) → ((Out (12 * f) (12 * f + 12) wd wd2) ∧ (Out (12 * f) (12 * f + 12) nu nu2) ∧ (Out (12 * f) (12 * f + 12) fo fo2) ∧ (Out (12 * f) (12 * f + 12) to to2)) → (∀ j, j < 100 * f → sg2 j = sg j) → (∀ j, 0 ≤ j → j < 400 → -200 ≤ sg2 j ∧ sg2 j ≤ 20000) → (∀ j, 0 ≤ j → j < 101 → 0 ≤ wt2 j ∧ wt2 j ≤ 200) → (Only f cl cl2) →  J E 3 Γ (some A) 0 0 [(mo, mO ad (upS (upS (upS (upS (upS S 3 az) 4 dg) 16 e) 17 w) 18 o)), (ad 5, aInt E 100 tx), (ad 7, aInt E 48 wd2), (ad 8, aInt E 48 nu2), (ad 9, aInt E 48 fo2), (ad 10, aInt E 48 to2), (ad 14, aInt E 400 sg2), (ad 15, aInt E 101 wt2), (ad 6, aInt E 4 cl2)] 15 [(2, .int (iZ n)), (0, .ref mo), (1, .int (iZ f))] [] := by
    intro fu
    induction fu with
    | zero =>
      intro n az dg e w o wd2 nu2 fo2 to2 sg2 wt2 cl2 hm
      exact absurd hm (Nat.not_lt_zero _)
    | succ fu ih15 =>
      intro n az dg e w o wd2 nu2 fo2 to2 sg2 wt2 cl2 hm hn haz hp hc2 hT hcl hk hsk hsg2 hwb2 hck
      have hst : (12 - n).toNat = (12 - (n + 1)).toNat + 1 := by omega
      rw [hst] at hT
      refine j_aload_n G 1 rfl d10_goesText_15 ?_
      refine j_bipush G d10_goesText_16 rfl ?_
      refine j_iload_n G 2 rfl d10_goesText_18 ?_
      refine j_imul G d10_goesText_19 ?_
      refine j_iload_n G 0 rfl d10_goesText_20 ?_
      refine j_iadd G d10_goesText_21 ?_
      refine j_VM G (rm' := { frames := 5, cells := 0, slots := 0, locals := 110 }) (wc := [(mo, mO ad (upS (upS (upS (upS (upS S 3 az) 4 dg) 16 e) 17 w) 18 o)), (ad 5, aInt E 100 tx), (ad 7, aInt E 48 wd2), (ad 8, aInt E 48 nu2), (ad 9, aInt E 48 fo2), (ad 10, aInt E 48 to2), (ad 14, aInt E 400 sg2), (ad 15, aInt E 101 wt2)]) (wr := [(ad 6, aInt E 4 cl2)]) (k10_takesClause (xl Γ) E mo ad (upS (upS (upS (upS (upS S 3 az) 4 dg) 16 e) 17 w) 18 o) tx wd2 nu2 fo2 to2 sg2 wt2 ((12 * f) + n) (100 * f) (by first | assumption | omega | (simp only [upS, reduceIte, Nat.reduceEqDiff, eq_self, List.length_cons, List.length_nil, List.length_append] <;> omega)) (by first | assumption | omega | (simp only [upS, reduceIte, Nat.reduceEqDiff, eq_self, List.length_cons, List.length_nil, List.length_append] <;> omega)) (by first | assumption | omega | (simp only [upS, reduceIte, Nat.reduceEqDiff, eq_self, List.length_cons, List.length_nil, List.length_append] <;> omega)) (by first | assumption | omega | (simp only [upS, reduceIte, Nat.reduceEqDiff, eq_self, List.length_cons, List.length_nil, List.length_append] <;> omega)) (by first | assumption | omega | (simp only [upS, reduceIte, Nat.reduceEqDiff, eq_self, List.length_cons, List.length_nil, List.length_append] <;> omega)) (by first | assumption | omega | (simp only [upS, reduceIte, Nat.reduceEqDiff, eq_self, List.length_cons, List.length_nil, List.length_append] <;> omega)) (by first | assumption | omega | (simp only [upS, reduceIte, Nat.reduceEqDiff, eq_self, List.length_cons, List.length_nil, List.length_append] <;> omega)) (by first | assumption | omega | (simp only [upS, reduceIte, Nat.reduceEqDiff, eq_self, List.length_cons, List.length_nil, List.length_append] <;> omega))) mw10_takesClause ml10_273 [0, 1, 2, 3, 4, 5, 6, 7] [8] rfl rfl ⟨rfl, rfl⟩ (by decide) 0 10 rfl rfl rfl ⟨Nat.le_of_ble_eq_true rfl, Nat.le_of_ble_eq_true rfl⟩ rfl (rest := []) rfl (Nat.le_of_ble_eq_true rfl) d10_goesText_22 ⟨Nat.le_of_ble_eq_true rfl, Nat.le_of_ble_eq_true rfl⟩ (fun r w1 hr => ?_)
      obtain ⟨v2, wd1_3, nu1_4, fo1_5, to1_6, sg1_7, wt1_8, az1_9, dg1_10, w1_11, e1_12, o1_13, rfl, rfl, hq1⟩ := hr
      refine j_eq (ws' := [(ad 6, aInt E 4 cl2), (mo, mO ad (upS (upS (upS (upS (upS S 3 az1_9) 4 dg1_10) 17 w1_11) 16 e1_12) 18 o1_13)), (ad 5, aInt E 100 tx), (ad 7, aInt E 48 wd1_3), (ad 8, aInt E 48 nu1_4), (ad 9, aInt E 48 fo1_5), (ad 10, aInt E 48 to1_6), (ad 14, aInt E 400 sg1_7), (ad 15, aInt E 101 wt1_8)]) rfl rfl rfl ?_
      try simp only [upS, reduceIte, Nat.reduceEqDiff, eq_self] at hq1
      rcases hq1 with ⟨hq1, rfl⟩ | ⟨hq1, rfl⟩
      ·
        have hs22 := hq1
        refine j_if_ne (tgt := 30) G d10_goesText_25 (by decide) (by decide) (fun h14 => ?_) (fun h14 => absurd h14 (by decide))
        obtain ⟨⟨hok, hce, hnc, hec⟩, hz1, hz2, hsgN, hsq, hwbN, hwd, hnO, hfO, htO⟩ := hs22
        have hwdO := Only.of hwd
        have hkN := And.intro (hk.1.only hwdO (by omega) (by omega)) (And.intro (hk.2.1.only hnO (by omega) (by omega)) (And.intro (hk.2.2.1.only hfO (by omega) (by omega)) (hk.2.2.2.only htO (by omega) (by omega))))
        have hskN := fun j (h : j < 100 * f) => (hsq j (by omega)).trans (hsk j h)
        rw [hp] at hok hce hnc hec hwd
        have hclN := fun (i : Nat) (h : (i : Int) < n + 1) => if hi : (i : Int) < n then (hcl i hi).keep (c' := 12 * f + n) (by omega) hwdO hnO hfO htO hsq hz2.2 else (by have hi2 : i = n.toNat := (by omega); subst hi2; rw [show 12 * f + (n.toNat : Int) = 12 * f + n by omega]; exact ⟨by rw [hwd]; exact upI_eq, hnc, fun q => ⟨(hec q).1, by have := (hec q).2.1; omega, by rw [(hec q).2.2]; exact Int.le_refl _⟩⟩)
        refine j_iinc G d10_goesText_30 0 rfl (by decide) rfl ?_
        refine j_aload_n G 1 rfl d10_goesText_33 ?_
        refine j_get G 1 10 6 in10 fl10_29 d10_goesText_34 rfl rfl (by decide) (v := .ref (ad 6)) rfl rfl ?_
        refine j_iload_n G 2 rfl d10_goesText_37 ?_
        refine j_iload_n G 0 rfl d10_goesText_38 ?_
        refine j_iast G 0 rfl (by omega) d10_goesText_39 ?_
        have hckN : Only f cl (upI cl2 f (n + 1)) := fun j h => (upI_ne h).trans (hck j h)
        refine j_aload_n G 1 rfl d10_goesText_40 ?_
        refine j_get G 1 10 3 in10 fl10_19 d10_goesText_41 rfl rfl (by decide) (v := .int (iZ az1_9)) rfl rfl ?_
        refine j_aload_n G 1 rfl d10_goesText_44 ?_
        refine j_get G 1 10 2 in10 fl10_16 d10_goesText_45 rfl rfl (by decide) (v := .int (iZ (S 2))) rfl rfl ?_
        refine j_icmp_ne (tgt := 53) G d10_goesText_48 (by decide) (by omega) (by omega) (fun h15 => ?_) (fun h15 => ?_)
        ·
          have hne : ¬ clE tx (S 2) (cpos tx (S 2) n.toNat) = S 2 := by omega
          refine j_iload_n G 0 rfl d10_goesText_53 ?_
          refine j_bipush G d10_goesText_54 rfl ?_
          refine j_icmp_eq (tgt := 68) G d10_goesText_56 (by decide) (by omega) (by decide) (fun h16 => ?_) (fun h16 => ?_)
          ·
            have hTv := hT.trans (txF_stop hok hne (by rw [← hce]; first | (left; omega) | (right; exact hs62.1)))
            refine j_iconst G d10_goesText_68 ?_
            refine j_perm (ws' := [(mo, mO ad (upS (upS (upS (upS (upS S 3 az1_9) 4 dg1_10) 17 w1_11) 16 e1_12) 18 o1_13)), (ad 5, aInt E 100 tx), (ad 7, aInt E 48 wd1_3), (ad 8, aInt E 48 nu1_4), (ad 9, aInt E 48 fo1_5), (ad 10, aInt E 48 to1_6), (ad 14, aInt E 400 sg1_7), (ad 15, aInt E 101 wt1_8), (ad 6, aInt E 4 (upI cl2 f (n + 1)))]) [1, 2, 3, 4, 5, 6, 7, 8, 0] rfl rfl rfl ?_
            exact j_zret G F d10_goesText_69 (by decide) ⟨0, wd1_3, nu1_4, fo1_5, to1_6, sg1_7, wt1_8, (upI cl2 f (n + 1)), az1_9, dg1_10, e1_12, w1_11, o1_13, rfl, rfl, (by first | (left; exact ⟨⟨⟨congrArg Prod.fst hTv, (by rw [upI_eq, hTv]; omega), (by rw [upI_eq]; omega), (by rw [upI_eq]; exact hclN), by omega⟩, by omega, hsgN, hwbN, hkN, hskN, hckN⟩, rfl⟩) | (right; exact ⟨⟨⟨congrArg Prod.fst hTv, (by rw [hTv]; first | exact hce | omega)⟩, by omega, hsgN, hwbN, hkN, hskN, (by first | exact hckN | exact hck)⟩, rfl⟩))⟩
          ·
            refine j_aload_n G 1 rfl d10_goesText_59 ?_
            refine j_bipush G d10_goesText_60 rfl ?_
            refine j_VM G (rm' := { frames := 1, cells := 0, slots := 0, locals := 20 }) (wc := [(mo, mO ad (upS (upS (upS (upS (upS S 3 az1_9) 4 dg1_10) 17 w1_11) 16 e1_12) 18 o1_13)), (ad 5, aInt E 100 tx)]) (wr := [(ad 6, aInt E 4 (upI cl2 f (n + 1))), (ad 7, aInt E 48 wd1_3), (ad 8, aInt E 48 nu1_4), (ad 9, aInt E 48 fo1_5), (ad 10, aInt E 48 to1_6), (ad 14, aInt E 400 sg1_7), (ad 15, aInt E 101 wt1_8)]) (k10_takes (xl Γ) E mo ad (upS (upS (upS (upS (upS S 3 az1_9) 4 dg1_10) 17 w1_11) 16 e1_12) 18 o1_13) tx 59 (by first | assumption | omega | (simp only [upS, reduceIte, Nat.reduceEqDiff, eq_self, List.length_cons, List.length_nil, List.length_append] <;> omega)) (by first | assumption | omega | (simp only [upS, reduceIte, Nat.reduceEqDiff, eq_self, List.length_cons, List.length_nil, List.length_append] <;> omega)) (by first | assumption | omega | (simp only [upS, reduceIte, Nat.reduceEqDiff, eq_self, List.length_cons, List.length_nil, List.length_append] <;> omega)) (by first | assumption | omega | (simp only [upS, reduceIte, Nat.reduceEqDiff, eq_self, List.length_cons, List.length_nil, List.length_append] <;> omega))) mw10_takes ml10_227 [1, 2] [0, 3, 4, 5, 6, 7, 8] rfl rfl ⟨rfl, rfl⟩ (by decide) 1 10 rfl rfl rfl ⟨Nat.le_of_ble_eq_true rfl, Nat.le_of_ble_eq_true rfl⟩ rfl (rest := []) rfl (Nat.le_of_ble_eq_true rfl) d10_goesText_62 ⟨Nat.le_of_ble_eq_true rfl, Nat.le_of_ble_eq_true rfl⟩ (fun r w1 hr => ?_)
            obtain ⟨v18, at1_19, rfl, rfl, hq17⟩ := hr
            refine j_eq (ws' := [(ad 6, aInt E 4 (upI cl2 f (n + 1))), (ad 7, aInt E 48 wd1_3), (ad 8, aInt E 48 nu1_4), (ad 9, aInt E 48 fo1_5), (ad 10, aInt E 48 to1_6), (ad 14, aInt E 400 sg1_7), (ad 15, aInt E 101 wt1_8), (mo, mO ad (upS (upS (upS (upS (upS S 4 dg1_10) 17 w1_11) 16 e1_12) 18 o1_13) 3 at1_19)), (ad 5, aInt E 100 tx)]) rfl rfl rfl ?_
            try simp only [upS, reduceIte, Nat.reduceEqDiff, eq_self] at hq17
            rcases hq17 with ⟨hq17, rfl⟩ | ⟨hq17, rfl⟩
            ·
              have hs62 := hq17
              refine j_if_ne (tgt := 15) G d10_goesText_65 (by decide) (by decide) (fun h20 => ?_) (fun h20 => absurd h20 (by decide))
              refine j_perm (ws' := [(mo, mO ad (upS (upS (upS (upS (upS S 4 dg1_10) 17 w1_11) 16 e1_12) 18 o1_13) 3 at1_19)), (ad 5, aInt E 100 tx), (ad 7, aInt E 48 wd1_3), (ad 8, aInt E 48 nu1_4), (ad 9, aInt E 48 fo1_5), (ad 10, aInt E 48 to1_6), (ad 14, aInt E 400 sg1_7), (ad 15, aInt E 101 wt1_8), (ad 6, aInt E 4 (upI cl2 f (n + 1)))]) [7, 8, 1, 2, 3, 4, 5, 6, 0] rfl rfl rfl ?_
              refine j_eq (ws' := [(mo, mO ad (upS (upS (upS (upS (upS S 3 at1_19) 4 dg1_10) 16 e1_12) 17 w1_11) 18 o1_13)), (ad 5, aInt E 100 tx), (ad 7, aInt E 48 wd1_3), (ad 8, aInt E 48 nu1_4), (ad 9, aInt E 48 fo1_5), (ad 10, aInt E 48 to1_6), (ad 14, aInt E 400 sg1_7), (ad 15, aInt E 101 wt1_8), (ad 6, aInt E 4 (upI cl2 f (n + 1)))]) rfl rfl rfl ?_
              exact ih15 (n + 1) at1_19 dg1_10 e1_12 w1_11 o1_13 wd1_3 nu1_4 fo1_5 to1_6 sg1_7 wt1_8 (upI cl2 f (n + 1)) (by omega) (by first | assumption | omega) (by first | assumption | omega) (by rw [show (n + 1).toNat = n.toNat + 1 by omega]; show _ = clE tx (S 2) (cpos tx (S 2) n.toNat) + 1; rw [← hce]; exact hs62.2.1) (by first | assumption | omega) (by rw [hT, show (n + 1).toNat = n.toNat + 1 by omega]; exact txF_go hok hne (by rw [← hce]; omega)) hclN hkN hskN hsgN hwbN hckN
            ·
              have hs62 := hq17
              refine j_if_ne (tgt := 15) G d10_goesText_65 (by decide) (by decide) (fun h21 => absurd h21 (by decide)) (fun h21 => ?_)
              have hTv := hT.trans (txF_stop hok hne (by rw [← hce]; first | (left; omega) | (right; exact hs62.1)))
              refine j_iconst G d10_goesText_68 ?_
              refine j_perm (ws' := [(mo, mO ad (upS (upS (upS (upS (upS S 4 dg1_10) 17 w1_11) 16 e1_12) 18 o1_13) 3 at1_19)), (ad 5, aInt E 100 tx), (ad 7, aInt E 48 wd1_3), (ad 8, aInt E 48 nu1_4), (ad 9, aInt E 48 fo1_5), (ad 10, aInt E 48 to1_6), (ad 14, aInt E 400 sg1_7), (ad 15, aInt E 101 wt1_8), (ad 6, aInt E 4 (upI cl2 f (n + 1)))]) [7, 8, 1, 2, 3, 4, 5, 6, 0] rfl rfl rfl ?_
              exact j_zret G F d10_goesText_69 (by decide) ⟨0, wd1_3, nu1_4, fo1_5, to1_6, sg1_7, wt1_8, (upI cl2 f (n + 1)), at1_19, dg1_10, e1_12, w1_11, o1_13, rfl, rfl, (by first | (left; exact ⟨⟨⟨congrArg Prod.fst hTv, (by rw [upI_eq, hTv]; omega), (by rw [upI_eq]; omega), (by rw [upI_eq]; exact hclN), by omega⟩, by omega, hsgN, hwbN, hkN, hskN, hckN⟩, rfl⟩) | (right; exact ⟨⟨⟨congrArg Prod.fst hTv, (by rw [hTv]; first | exact hce | omega)⟩, by omega, hsgN, hwbN, hkN, hskN, (by first | exact hckN | exact hck)⟩, rfl⟩))⟩
        ·
          have hTv := hT.trans (txF_end hok (by omega))
          refine j_iconst G d10_goesText_51 ?_
          refine j_perm (ws' := [(mo, mO ad (upS (upS (upS (upS (upS S 3 az1_9) 4 dg1_10) 17 w1_11) 16 e1_12) 18 o1_13)), (ad 5, aInt E 100 tx), (ad 7, aInt E 48 wd1_3), (ad 8, aInt E 48 nu1_4), (ad 9, aInt E 48 fo1_5), (ad 10, aInt E 48 to1_6), (ad 14, aInt E 400 sg1_7), (ad 15, aInt E 101 wt1_8), (ad 6, aInt E 4 (upI cl2 f (n + 1)))]) [1, 2, 3, 4, 5, 6, 7, 8, 0] rfl rfl rfl ?_
          exact j_zret G F d10_goesText_52 (by decide) ⟨1, wd1_3, nu1_4, fo1_5, to1_6, sg1_7, wt1_8, (upI cl2 f (n + 1)), az1_9, dg1_10, e1_12, w1_11, o1_13, rfl, rfl, (by first | (left; exact ⟨⟨⟨congrArg Prod.fst hTv, (by rw [upI_eq, hTv]; omega), (by rw [upI_eq]; omega), (by rw [upI_eq]; exact hclN), by omega⟩, by omega, hsgN, hwbN, hkN, hskN, hckN⟩, rfl⟩) | (right; exact ⟨⟨⟨congrArg Prod.fst hTv, (by rw [hTv]; first | exact hce | omega)⟩, by omega, hsgN, hwbN, hkN, hskN, (by first | exact hckN | exact hck)⟩, rfl⟩))⟩
      ·
        have hs22 := hq1
        refine j_if_ne (tgt := 30) G d10_goesText_25 (by decide) (by decide) (fun h22 => absurd h22 (by decide)) (fun h22 => ?_)
        obtain ⟨⟨hok, hce⟩, hz1, hz2, hsgN, hsq, hwbN, hwd, hnO, hfO, htO⟩ := hs22
        have hwdO := Only.of hwd
        have hkN := And.intro (hk.1.only hwdO (by omega) (by omega)) (And.intro (hk.2.1.only hnO (by omega) (by omega)) (And.intro (hk.2.2.1.only hfO (by omega) (by omega)) (hk.2.2.2.only htO (by omega) (by omega))))
        have hskN := fun j (h : j < 100 * f) => (hsq j (by omega)).trans (hsk j h)
        rw [hp] at hok hce
        have hTv := hT.trans (txF_bad hok)
        refine j_iconst G d10_goesText_28 ?_
        refine j_perm (ws' := [(mo, mO ad (upS (upS (upS (upS (upS S 3 az1_9) 4 dg1_10) 17 w1_11) 16 e1_12) 18 o1_13)), (ad 5, aInt E 100 tx), (ad 7, aInt E 48 wd1_3), (ad 8, aInt E 48 nu1_4), (ad 9, aInt E 48 fo1_5), (ad 10, aInt E 48 to1_6), (ad 14, aInt E 400 sg1_7), (ad 15, aInt E 101 wt1_8), (ad 6, aInt E 4 cl2)]) [1, 2, 3, 4, 5, 6, 7, 8, 0] rfl rfl rfl ?_
        exact j_zret G F d10_goesText_29 (by decide) ⟨0, wd1_3, nu1_4, fo1_5, to1_6, sg1_7, wt1_8, cl2, az1_9, dg1_10, e1_12, w1_11, o1_13, rfl, rfl, (by first | (left; exact ⟨⟨⟨congrArg Prod.fst hTv, (by rw [upI_eq, hTv]; omega), (by rw [upI_eq]; omega), (by rw [upI_eq]; exact hclN), by omega⟩, by omega, hsgN, hwbN, hkN, hskN, hckN⟩, rfl⟩) | (right; exact ⟨⟨⟨congrArg Prod.fst hTv, (by rw [hTv]; first | exact hce | omega)⟩, by omega, hsgN, hwbN, hkN, hskN, (by first | exact hckN | exact hck)⟩, rfl⟩))⟩
  exact lp15 _ 0 0 (S 4) (100 * f) (S 17) (S 18) wd nu fo to sg wt cl (Nat.lt_succ_self _) (by first | assumption | omega) (by first | assumption | omega) rfl (by first | assumption | omega) rfl (fun i h => by omega) ⟨Out.rf, Out.rf, Out.rf, Out.rf⟩ (fun _ _ => rfl) hsg hwb Only.rf
