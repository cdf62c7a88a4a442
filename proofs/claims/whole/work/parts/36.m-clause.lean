/-- reading a clause into place c changes no other place -/
def Only (c : Int) (f g : Int → Int) : Prop := ∀ j, ¬ j = c → g j = f j
theorem Only.rf {c : Int} {f : Int → Int} : Only c f f := fun _ _ => rfl
theorem Only.up {c x : Int} {f : Int → Int} : Only c f (upI f c x) := fun _ h => upI_ne h
theorem clM_r {U : Int → Int} {n p : Int} (h : p ≤ n) : hdE U n p ≤ clM U n p ∧ clM U n p ≤ n := by
  have h1 := hdE_r (U := U) h
  have h2 := nbP_r (U := U) (n := n) 3 (hdE U n p) h1.2
  exact ⟨h2.1, h2.2.1⟩
section
variable {U : Int → Int} {n p : Int}
theorem cl_h (h : ¬ hdOk U n p) : ¬ clOk U n p ∧ clE U n p = hdE U n p := ⟨fun q => h q.1, by unfold clE; rw [if_neg h]⟩
theorem cl_d (h : hdOk U n p) (h2 : ¬ (48 ≤ nx U n (hdE U n p) ∧ nx U n (hdE U n p) ≤ 57)) : ¬ clOk U n p ∧ clE U n p = hdE U n p := ⟨fun q => h2 q.2.1, by unfold clE; rw [if_pos h, if_neg h2]⟩
theorem cl_p (h : hdOk U n p) (h2 : 48 ≤ nx U n (hdE U n p) ∧ nx U n (hdE U n p) ≤ 57) (h3 : ¬ isE (hdK U n p)) : clOk U n p ∧ clE U n p = clM U n p := ⟨⟨h, h2, fun q => absurd q h3⟩, by unfold clE; rw [if_pos h, if_pos h2, if_neg h3]⟩
theorem cl_b (h : hdOk U n p) (h2 : 48 ≤ nx U n (hdE U n p) ∧ nx U n (hdE U n p) ≤ 57) (h3 : isE (hdK U n p)) (h4 : ¬ nx U n (clM U n p) = 32) : ¬ clOk U n p ∧ clE U n p = clM U n p := ⟨fun q => h4 (q.2.2 h3).1, by unfold clE; rw [if_pos h, if_pos h2, if_pos h3, if_neg h4]⟩
theorem cl_e (h : hdOk U n p) (h2 : 48 ≤ nx U n (hdE U n p) ∧ nx U n (hdE U n p) ≤ 57) (h3 : isE (hdK U n p)) (h4 : nx U n (clM U n p) = 32) (h5 : (exT U n (clM U n p + 1)).1 = 2) : clOk U n p ∧ clE U n p = (exT U n (clM U n p + 1)).2.2.2 := ⟨⟨h, h2, fun _ => ⟨h4, h5⟩⟩, by unfold clE; rw [if_pos h, if_pos h2, if_pos h3, if_pos h4]⟩
theorem cl_f (h : hdOk U n p) (h2 : 48 ≤ nx U n (hdE U n p) ∧ nx U n (hdE U n p) ≤ 57) (h3 : isE (hdK U n p)) (h4 : nx U n (clM U n p) = 32) (h5 : (exT U n (clM U n p + 1)).1 = 3) : ¬ clOk U n p ∧ clE U n p = (exT U n (clM U n p + 1)).2.2.2 := ⟨fun q => by have := (q.2.2 h3).2; omega, by unfold clE; rw [if_pos h, if_pos h2, if_pos h3, if_pos h4]⟩
end
theorem d10_takesClause_0 : decode c10_takesClause 0 = .ok (.aload_n 0, 1) := by decide +kernel
theorem d10_takesClause_1 : decode c10_takesClause 1 = .ok (.iload_n 1, 1) := by decide +kernel
theorem d10_takesClause_2 : decode c10_takesClause 2 = .ok (.invokevirtual 267, 3) := by decide +kernel
theorem d10_takesClause_5 : decode c10_takesClause 5 = .ok (.ifCond .eq 11, 3) := by decide +kernel
theorem d10_takesClause_8 : decode c10_takesClause 8 = .ok (.aload_n 0, 1) := by decide +kernel
theorem d10_takesClause_9 : decode c10_takesClause 9 = .ok (.iconst 3, 1) := by decide +kernel
theorem d10_takesClause_10 : decode c10_takesClause 10 = .ok (.invokevirtual 239, 3) := by decide +kernel
theorem d10_takesClause_13 : decode c10_takesClause 13 = .ok (.ifCond .ne 5, 3) := by decide +kernel
theorem d10_takesClause_16 : decode c10_takesClause 16 = .ok (.iconst 0, 1) := by decide +kernel
theorem d10_takesClause_17 : decode c10_takesClause 17 = .ok (.ireturn, 1) := by decide +kernel
theorem d10_takesClause_18 : decode c10_takesClause 18 = .ok (.aload_n 0, 1) := by decide +kernel
theorem d10_takesClause_19 : decode c10_takesClause 19 = .ok (.getfield 35, 3) := by decide +kernel
theorem d10_takesClause_22 : decode c10_takesClause 22 = .ok (.iload_n 1, 1) := by decide +kernel
theorem d10_takesClause_23 : decode c10_takesClause 23 = .ok (.aload_n 0, 1) := by decide +kernel
theorem d10_takesClause_24 : decode c10_takesClause 24 = .ok (.getfield 22, 3) := by decide +kernel
theorem d10_takesClause_27 : decode c10_takesClause 27 = .ok (.iastore, 1) := by decide +kernel
theorem d10_takesClause_28 : decode c10_takesClause 28 = .ok (.aload_n 0, 1) := by decide +kernel
theorem d10_takesClause_29 : decode c10_takesClause 29 = .ok (.getfield 32, 3) := by decide +kernel
theorem d10_takesClause_32 : decode c10_takesClause 32 = .ok (.iload_n 1, 1) := by decide +kernel
theorem d10_takesClause_33 : decode c10_takesClause 33 = .ok (.iaload, 1) := by decide +kernel
theorem d10_takesClause_34 : decode c10_takesClause 34 = .ok (.iconst 3, 1) := by decide +kernel
theorem d10_takesClause_35 : decode c10_takesClause 35 = .ok (.if_icmp .eq 14, 3) := by decide +kernel
theorem d10_takesClause_38 : decode c10_takesClause 38 = .ok (.aload_n 0, 1) := by decide +kernel
theorem d10_takesClause_39 : decode c10_takesClause 39 = .ok (.getfield 32, 3) := by decide +kernel
theorem d10_takesClause_42 : decode c10_takesClause 42 = .ok (.iload_n 1, 1) := by decide +kernel
theorem d10_takesClause_43 : decode c10_takesClause 43 = .ok (.iaload, 1) := by decide +kernel
theorem d10_takesClause_44 : decode c10_takesClause 44 = .ok (.bipush 7, 2) := by decide +kernel
theorem d10_takesClause_46 : decode c10_takesClause 46 = .ok (.if_icmp .ne 20, 3) := by decide +kernel
theorem d10_takesClause_49 : decode c10_takesClause 49 = .ok (.aload_n 0, 1) := by decide +kernel
theorem d10_takesClause_50 : decode c10_takesClause 50 = .ok (.bipush 32, 2) := by decide +kernel
theorem d10_takesClause_52 : decode c10_takesClause 52 = .ok (.invokevirtual 227, 3) := by decide +kernel
theorem d10_takesClause_55 : decode c10_takesClause 55 = .ok (.ifCond .eq 15, 3) := by decide +kernel
theorem d10_takesClause_58 : decode c10_takesClause 58 = .ok (.aload_n 0, 1) := by decide +kernel
theorem d10_takesClause_59 : decode c10_takesClause 59 = .ok (.iload_n 1, 1) := by decide +kernel
theorem d10_takesClause_60 : decode c10_takesClause 60 = .ok (.invokevirtual 270, 3) := by decide +kernel
theorem d10_takesClause_63 : decode c10_takesClause 63 = .ok (.ifCond .eq 7, 3) := by decide +kernel
theorem d10_takesClause_66 : decode c10_takesClause 66 = .ok (.iconst 1, 1) := by decide +kernel
theorem d10_takesClause_67 : decode c10_takesClause 67 = .ok (.goto 4, 3) := by decide +kernel
theorem d10_takesClause_70 : decode c10_takesClause 70 = .ok (.iconst 0, 1) := by decide +kernel
theorem d10_takesClause_71 : decode c10_takesClause 71 = .ok (.ireturn, 1) := by decide +kernel
theorem mw10_takesClause : MV y10_takesClause c10_takesClause 2 (some .boolean) 1 := ⟨cd10_takesClause, ini10, na10_takesClause, im10_takesClause, se10_takesClause⟩
set_option maxHeartbeats 4000000 in
set_option maxRecDepth 100000 in
theorem k10_takesClause (l : Launch) (E : En) (mo : Nat) (ad : Nat → Nat) (S : Nat → Int) (tx : Int → Int) (wd : Int → Int) (nu : Int → Int) (fo : Int → Int) (to : Int → Int) (sg : Int → Int) (wt : Int → Int) (c : Int) (bb : Int) (htx : ∀ j, 0 ≤ j → j < 100 → -128 ≤ tx j ∧ tx j ≤ 127) (hfd : 0 ≤ S 2 ∧ S 2 ≤ 100) (hat : 0 ≤ S 3 ∧ S 3 ≤ S 2) (hcc : 0 ≤ c ∧ c ≤ 47) (hsg : ∀ j, 0 ≤ j → j < 400 → -200 ≤ sg j ∧ sg j ≤ 20000) (hwb : ∀ j, 0 ≤ j → j < 101 → 0 ≤ wt j ∧ wt j ≤ 200) (hB : 0 ≤ bb ∧ bb ≤ 300) (hc : S 16 ≤ bb + S 3 ∧ 0 ≤ S 16) : Cm l E y10_takesClause c10_takesClause 2 (some .boolean) { frames := 5, cells := 0, slots := 0, locals := 110 } [.ref mo, .int (iZ c)] [(mo, mO ad S), (ad 5, aInt E 100 tx), (ad 7, aInt E 48 wd), (ad 8, aInt E 48 nu), (ad 9, aInt E 48 fo), (ad 10, aInt E 48 to), (ad 14, aInt E 400 sg), (ad 15, aInt E 101 wt)] (fun r ws => ∃ (v : Int), ∃ (wd1 : Int → Int), ∃ (nu1 : Int → Int), ∃ (fo1 : Int → Int), ∃ (to1 : Int → Int), ∃ (sg1 : Int → Int), ∃ (wt1 : Int → Int), ∃ (az1 : Int), ∃ (dg1 : Int), ∃ (w1 : Int), ∃ (e1 : Int), ∃ (o1 : Int), r = some (.int (iZ v)) ∧ ws = [(mo, mO ad (upS (upS (upS (upS (upS S 3 az1) 4 dg1) 17 w1) 16 e1) 18 o1)), (ad 5, aInt E 100 tx), (ad 7, aInt E 48 wd1), (ad 8, aInt E 48 nu1), (ad 9, aInt E 48 fo1), (ad 10, aInt E 48 to1), (ad 14, aInt E 400 sg1), (ad 15, aInt E 101 wt1)] ∧ (((clOk tx (S 2) (S 3) ∧ az1 = clE tx (S 2) (S 3) ∧ nu1 c = clN tx (S 2) (S 3) ∧ (isE (hdK tx (S 2) (S 3)) → PF sg1 (fo1 c) (to1 c) (clV tx (S 2) (S 3)) ∧ S 16 ≤ fo1 c ∧ to1 c = e1)) ∧ (S 3 ≤ az1 ∧ az1 ≤ S 2) ∧ (e1 ≤ bb + az1 ∧ S 16 ≤ e1) ∧ (∀ j, 0 ≤ j → j < 400 → -200 ≤ sg1 j ∧ sg1 j ≤ 20000) ∧ (∀ j, j < S 16 → sg1 j = sg j) ∧ (∀ j, 0 ≤ j → j < 101 → 0 ≤ wt1 j ∧ wt1 j ≤ 200) ∧ (wd1 = upI wd c (hdK tx (S 2) (S 3)) ∧ Only c nu nu1 ∧ Only c fo fo1 ∧ Only c to to1)) ∧ v = 1 ∨ ((¬ clOk tx (S 2) (S 3) ∧ az1 = clE tx (S 2) (S 3)) ∧ (S 3 ≤ az1 ∧ az1 ≤ S 2) ∧ (e1 ≤ bb + az1 ∧ S 16 ≤ e1) ∧ (∀ j, 0 ≤ j → j < 400 → -200 ≤ sg1 j ∧ sg1 j ≤ 20000) ∧ (∀ j, j < S 16 → sg1 j = sg j) ∧ (∀ j, 0 ≤ j → j < 101 → 0 ≤ wt1 j ∧ wt1 j ≤ 200) ∧ (wd1 = upI wd c (hdK tx (S 2) (S 3)) ∧ Only c nu nu1 ∧ Only c fo fo1 ∧ Only c to to1)) ∧ v = 0)) := by
  refine Cm.of (by decide +kernel) (Nat.le_of_ble_eq_true rfl) (fun Γ A hl hargs hin G F => ?_)
  subst hl
  have her := hdE_r (U := tx) (n := S 2) (p := S 3) hat.2
  have hmr := clM_r (U := tx) (n := S 2) (p := S 3) hat.2
  have hkr := hdK_r tx (S 2) (S 3)
  refine j_aload_n G 0 rfl d10_takesClause_0 ?_
  refine j_iload_n G 1 rfl d10_takesClause_1 ?_
  refine j_VM G (rm' := { frames := 3, cells := 0, slots := 0, locals := 64 }) (wc := [(mo, mO ad S), (ad 5, aInt E 100 tx), (ad 7, aInt E 48 wd)]) (wr := [(ad 8, aInt E 48 nu), (ad 9, aInt E 48 fo), (ad 10, aInt E 48 to), (ad 14, aInt E 400 sg), (ad 15, aInt E 101 wt)]) (k10_takesHead (xl Γ) E mo ad S tx wd c (by first | assumption | omega | (simp only [upS, reduceIte, Nat.reduceEqDiff, eq_self, List.length_cons, List.length_nil, List.length_append] <;> omega)) (by first | assumption | omega | (simp only [upS, reduceIte, Nat.reduceEqDiff, eq_self, List.length_cons, List.length_nil, List.length_append] <;> omega)) (by first | assumption | omega | (simp only [upS, reduceIte, Nat.reduceEqDiff, eq_self, List.length_cons, List.length_nil, List.length_append] <;> omega)) (by first | assumption | omega | (simp only [upS, reduceIte, Nat.reduceEqDiff, eq_self, List.length_cons, List.length_nil, List.length_append] <;> omega))) mw10_takesHead ml10_267 [0, 1, 2] [3, 4, 5, 6, 7] rfl rfl ⟨rfl, rfl⟩ (by decide) 0 10 rfl rfl rfl ⟨Nat.le_of_ble_eq_true rfl, Nat.le_of_ble_eq_true rfl⟩ rfl (rest := []) rfl (Nat.le_of_ble_eq_true rfl) d10_takesClause_2 ⟨Nat.le_of_ble_eq_true rfl, Nat.le_of_ble_eq_true rfl⟩ (fun r w1 hr => ?_)
  obtain ⟨v2, az1_3, wd1_4, rfl, rfl, rfl, hq1⟩ := hr
  refine j_eq (ws' := [(ad 8, aInt E 48 nu), (ad 9, aInt E 48 fo), (ad 10, aInt E 48 to), (ad 14, aInt E 400 sg), (ad 15, aInt E 101 wt), (mo, mO ad (upS S 3 az1_3)), (ad 5, aInt E 100 tx), (ad 7, aInt E 48 (upI wd c (hdK tx ((S 2)) ((S 3)))))]) rfl rfl rfl ?_
  rcases hq1 with ⟨hq1, rfl⟩ | ⟨hq1, rfl⟩
  ·
    have hs2 := hq1
    refine j_if_eq (tgt := 16) G d10_takesClause_5 (by decide) (by decide) (fun h5 => absurd h5 (by decide)) (fun h5 => ?_)
    obtain ⟨hh1, hh2, hh3⟩ := hs2
    refine j_aload_n G 0 rfl d10_takesClause_8 ?_
    refine j_iconst G d10_takesClause_9 ?_
    refine j_VM G (rm' := { frames := 2, cells := 0, slots := 0, locals := 43 }) (wc := [(mo, mO ad (upS S 3 az1_3)), (ad 5, aInt E 100 tx)]) (wr := [(ad 8, aInt E 48 nu), (ad 9, aInt E 48 fo), (ad 10, aInt E 48 to), (ad 14, aInt E 400 sg), (ad 15, aInt E 101 wt), (ad 7, aInt E 48 (upI wd c (hdK tx ((S 2)) ((S 3)))))]) (k10_takesNumber (xl Γ) E mo ad (upS S 3 az1_3) tx 3 (by first | assumption | omega | (simp only [upS, reduceIte, Nat.reduceEqDiff, eq_self, List.length_cons, List.length_nil, List.length_append] <;> omega)) (by first | assumption | omega | (simp only [upS, reduceIte, Nat.reduceEqDiff, eq_self, List.length_cons, List.length_nil, List.length_append] <;> omega)) (by first | assumption | omega | (simp only [upS, reduceIte, Nat.reduceEqDiff, eq_self, List.length_cons, List.length_nil, List.length_append] <;> omega)) (by first | assumption | omega | (simp only [upS, reduceIte, Nat.reduceEqDiff, eq_self, List.length_cons, List.length_nil, List.length_append] <;> omega))) mw10_takesNumber ml10_239 [5, 6] [0, 1, 2, 3, 4, 7] rfl rfl ⟨rfl, rfl⟩ (by decide) 5 10 rfl rfl rfl ⟨Nat.le_of_ble_eq_true rfl, Nat.le_of_ble_eq_true rfl⟩ rfl (rest := []) rfl (Nat.le_of_ble_eq_true rfl) d10_takesClause_10 ⟨Nat.le_of_ble_eq_true rfl, Nat.le_of_ble_eq_true rfl⟩ (fun r w1 hr => ?_)
    obtain ⟨v7, at1_8, dg1_9, rfl, rfl, hq6⟩ := hr
    refine j_eq (ws' := [(ad 8, aInt E 48 nu), (ad 9, aInt E 48 fo), (ad 10, aInt E 48 to), (ad 14, aInt E 400 sg), (ad 15, aInt E 101 wt), (ad 7, aInt E 48 (upI wd c (hdK tx ((S 2)) ((S 3))))), (mo, mO ad (upS (upS S 3 at1_8) 4 dg1_9)), (ad 5, aInt E 100 tx)]) rfl rfl rfl ?_
    try simp only [upS, reduceIte, Nat.reduceEqDiff, eq_self] at hq6
    rcases hq6 with ⟨hq6, rfl⟩ | ⟨hq6, rfl⟩
    ·
      have hs10 := hq6
      refine j_if_ne (tgt := 18) G d10_takesClause_13 (by decide) (by decide) (fun h10 => ?_) (fun h10 => absurd h10 (by decide))
      obtain ⟨hm1, hm2, hm3, hm4, hm5⟩ := hs10
      have e3 : (3 : Int).toNat = 3 := rfl
      rw [e3, hh2] at hm2 hm3
      rw [hh2] at hm1
      have hm2b : _ = clM tx (S 2) (S 3) := hm2
      have hm3b : _ = clN tx (S 2) (S 3) := hm3
      have hwc : upI wd c (hdK tx (S 2) (S 3)) c = hdK tx (S 2) (S 3) := upI_eq
      refine j_aload_n G 0 rfl d10_takesClause_18 ?_
      refine j_get G 6 10 8 in10 fl10_35 d10_takesClause_19 rfl rfl (by decide) (v := .ref (ad 8)) rfl rfl ?_
      refine j_iload_n G 1 rfl d10_takesClause_22 ?_
      refine j_aload_n G 0 rfl d10_takesClause_23 ?_
      refine j_get G 6 10 4 in10 fl10_22 d10_takesClause_24 rfl rfl (by decide) (v := .int (iZ dg1_9)) rfl rfl ?_
      refine j_iast G 0 rfl (by omega) d10_takesClause_27 ?_
      refine j_aload_n G 0 rfl d10_takesClause_28 ?_
      refine j_get G 6 10 7 in10 fl10_32 d10_takesClause_29 rfl rfl (by decide) (v := .ref (ad 7)) rfl rfl ?_
      refine j_iload_n G 1 rfl d10_takesClause_32 ?_
      refine j_iald G 5 rfl (by omega) d10_takesClause_33 ?_
      refine j_iconst G d10_takesClause_34 ?_
      refine j_icmp_eq (tgt := 49) G d10_takesClause_35 (by decide) (by omega) (by decide) (fun h11 => ?_) (fun h11 => ?_)
      ·
        refine j_aload_n G 0 rfl d10_takesClause_49 ?_
        refine j_bipush G d10_takesClause_50 rfl ?_
        refine j_VM G (rm' := { frames := 1, cells := 0, slots := 0, locals := 20 }) (wc := [(mo, mO ad (upS (upS S 3 at1_8) 4 dg1_9)), (ad 5, aInt E 100 tx)]) (wr := [(ad 8, aInt E 48 (upI nu c dg1_9)), (ad 9, aInt E 48 fo), (ad 10, aInt E 48 to), (ad 14, aInt E 400 sg), (ad 15, aInt E 101 wt), (ad 7, aInt E 48 (upI wd c (hdK tx ((S 2)) ((S 3)))))]) (k10_takes (xl Γ) E mo ad (upS (upS S 3 at1_8) 4 dg1_9) tx 32 (by first | assumption | omega | (simp only [upS, reduceIte, Nat.reduceEqDiff, eq_self, List.length_cons, List.length_nil, List.length_append] <;> omega)) (by first | assumption | omega | (simp only [upS, reduceIte, Nat.reduceEqDiff, eq_self, List.length_cons, List.length_nil, List.length_append] <;> omega)) (by first | assumption | omega | (simp only [upS, reduceIte, Nat.reduceEqDiff, eq_self, List.length_cons, List.length_nil, List.length_append] <;> omega)) (by first | assumption | omega | (simp only [upS, reduceIte, Nat.reduceEqDiff, eq_self, List.length_cons, List.length_nil, List.length_append] <;> omega))) mw10_takes ml10_227 [6, 7] [0, 1, 2, 3, 4, 5] rfl rfl ⟨rfl, rfl⟩ (by decide) 6 10 rfl rfl rfl ⟨Nat.le_of_ble_eq_true rfl, Nat.le_of_ble_eq_true rfl⟩ rfl (rest := []) rfl (Nat.le_of_ble_eq_true rfl) d10_takesClause_52 ⟨Nat.le_of_ble_eq_true rfl, Nat.le_of_ble_eq_true rfl⟩ (fun r w1 hr => ?_)
        obtain ⟨v13, at1_14, rfl, rfl, hq12⟩ := hr
        refine j_eq (ws' := [(ad 8, aInt E 48 (upI nu c dg1_9)), (ad 9, aInt E 48 fo), (ad 10, aInt E 48 to), (ad 14, aInt E 400 sg), (ad 15, aInt E 101 wt), (ad 7, aInt E 48 (upI wd c (hdK tx ((S 2)) ((S 3))))), (mo, mO ad (upS (upS S 4 dg1_9) 3 at1_14)), (ad 5, aInt E 100 tx)]) rfl rfl rfl ?_
        try simp only [upS, reduceIte, Nat.reduceEqDiff, eq_self] at hq12
        rcases hq12 with ⟨hq12, rfl⟩ | ⟨hq12, rfl⟩
        ·
          have hs52 := hq12
          refine j_if_eq (tgt := 70) G d10_takesClause_55 (by decide) (by decide) (fun h15 => absurd h15 (by decide)) (fun h15 => ?_)
          obtain ⟨hb1, hb2⟩ := hs52
          rw [hm2b] at hb1
          have hb3 : _ = clM tx (S 2) (S 3) + 1 := hb2.1.trans (by rw [hm2b])
          refine j_aload_n G 0 rfl d10_takesClause_58 ?_
          refine j_iload_n G 1 rfl d10_takesClause_59 ?_
          refine j_VM G (rm' := { frames := 4, cells := 0, slots := 0, locals := 87 }) (wc := [(mo, mO ad (upS (upS S 4 dg1_9) 3 at1_14)), (ad 5, aInt E 100 tx), (ad 9, aInt E 48 fo), (ad 10, aInt E 48 to), (ad 14, aInt E 400 sg), (ad 15, aInt E 101 wt)]) (wr := [(ad 8, aInt E 48 (upI nu c dg1_9)), (ad 7, aInt E 48 (upI wd c (hdK tx ((S 2)) ((S 3)))))]) (k10_takesE (xl Γ) E mo ad (upS (upS S 4 dg1_9) 3 at1_14) tx fo to sg wt c bb (by first | assumption | omega | (simp only [upS, reduceIte, Nat.reduceEqDiff, eq_self, List.length_cons, List.length_nil, List.length_append] <;> omega)) (by first | assumption | omega | (simp only [upS, reduceIte, Nat.reduceEqDiff, eq_self, List.length_cons, List.length_nil, List.length_append] <;> omega)) (by first | assumption | omega | (simp only [upS, reduceIte, Nat.reduceEqDiff, eq_self, List.length_cons, List.length_nil, List.length_append] <;> omega)) (by first | assumption | omega | (simp only [upS, reduceIte, Nat.reduceEqDiff, eq_self, List.length_cons, List.length_nil, List.length_append] <;> omega)) (by first | assumption | omega | (simp only [upS, reduceIte, Nat.reduceEqDiff, eq_self, List.length_cons, List.length_nil, List.length_append] <;> omega)) (by first | assumption | omega | (simp only [upS, reduceIte, Nat.reduceEqDiff, eq_self, List.length_cons, List.length_nil, List.length_append] <;> omega)) (by first | assumption | omega | (simp only [upS, reduceIte, Nat.reduceEqDiff, eq_self, List.length_cons, List.length_nil, List.length_append] <;> omega)) (by first | assumption | omega | (simp only [upS, reduceIte, Nat.reduceEqDiff, eq_self, List.length_cons, List.length_nil, List.length_append] <;> omega))) mw10_takesE ml10_270 [6, 7, 1, 2, 3, 4] [0, 5] rfl rfl ⟨rfl, rfl⟩ (by decide) 6 10 rfl rfl rfl ⟨Nat.le_of_ble_eq_true rfl, Nat.le_of_ble_eq_true rfl⟩ rfl (rest := []) rfl (Nat.le_of_ble_eq_true rfl) d10_takesClause_60 ⟨Nat.le_of_ble_eq_true rfl, Nat.le_of_ble_eq_true rfl⟩ (fun r w1 hr => ?_)
          obtain ⟨v17, fo1_18, to1_19, sg1_20, wt1_21, az1_22, dg1_23, w1_24, e1_25, o1_26, rfl, rfl, hq16⟩ := hr
          refine j_eq (ws' := [(ad 8, aInt E 48 (upI nu c dg1_9)), (ad 7, aInt E 48 (upI wd c (hdK tx ((S 2)) ((S 3))))), (mo, mO ad (upS (upS (upS (upS (upS S 3 az1_22) 4 dg1_23) 17 w1_24) 16 e1_25) 18 o1_26)), (ad 5, aInt E 100 tx), (ad 9, aInt E 48 fo1_18), (ad 10, aInt E 48 to1_19), (ad 14, aInt E 400 sg1_20), (ad 15, aInt E 101 wt1_21)]) rfl rfl rfl ?_
          try simp only [upS, reduceIte, Nat.reduceEqDiff, eq_self] at hq16
          rcases hq16 with ⟨hq16, rfl⟩ | ⟨hq16, rfl⟩
          ·
            have hs60 := hq16
            refine j_if_eq (tgt := 70) G d10_takesClause_63 (by decide) (by decide) (fun h27 => absurd h27 (by decide)) (fun h27 => ?_)
            refine j_iconst G d10_takesClause_66 ?_
            refine j_goto (tgt := 71) G d10_takesClause_67 (by decide) ?_
            refine j_perm (ws' := [(mo, mO ad (upS (upS (upS (upS (upS S 3 az1_22) 4 dg1_23) 17 w1_24) 16 e1_25) 18 o1_26)), (ad 5, aInt E 100 tx), (ad 7, aInt E 48 (upI wd c (hdK tx ((S 2)) ((S 3))))), (ad 8, aInt E 48 (upI nu c dg1_9)), (ad 9, aInt E 48 fo1_18), (ad 10, aInt E 48 to1_19), (ad 14, aInt E 400 sg1_20), (ad 15, aInt E 101 wt1_21)]) [2, 3, 1, 0, 4, 5, 6, 7] rfl rfl rfl ?_
            exact j_zret G F d10_takesClause_71 (by decide) ⟨1, (upI wd c (hdK tx ((S 2)) ((S 3)))), (upI nu c dg1_9), fo1_18, to1_19, sg1_20, wt1_21, az1_22, dg1_23, w1_24, e1_25, o1_26, rfl, rfl, (by first | (obtain ⟨⟨g1, g2, g3, g4, g5⟩, g6, g7, hs5, hs6, g10, hs8⟩ := hs60; rw [hb3] at g1 g2 g3; have q2 := cl_e hh1 hm1 (by omega) hb1 g1; left; exact ⟨⟨⟨q2.1, (by rw [q2.2]; exact g2), upI_eq.trans hm3b, fun _ => ⟨(by rw [g4, g5, upI_eq]; exact g3), (by rw [g5, upI_eq]; omega), g4⟩⟩, ⟨by omega, by omega⟩, ⟨by omega, by omega⟩, hs5, hs6, hs8, ⟨rfl, Only.up, (by rw [g5]; exact Only.up), g10⟩⟩, rfl⟩) | (obtain ⟨⟨g1, g2, g5⟩, g6, g7, hs5, hs6, g10, hs8⟩ := hs60; rw [hb3] at g1 g2; have q2 := cl_f hh1 hm1 (by omega) hb1 g1; right; exact ⟨⟨⟨q2.1, (by rw [q2.2]; exact g2)⟩, ⟨by omega, by omega⟩, ⟨by omega, by omega⟩, hs5, hs6, hs8, ⟨rfl, Only.up, (by rw [g5]; exact Only.up), g10⟩⟩, rfl⟩) | (have q0 := hs52.1; rw [hm2b] at q0; have q2 := cl_b hh1 hm1 (by omega) q0; right; exact ⟨⟨⟨q2.1, (by rw [q2.2]; omega)⟩, ⟨by omega, by omega⟩, ⟨by omega, by omega⟩, hsg, (fun _ _ => rfl), hwb, ⟨rfl, Only.up, Only.rf, Only.rf⟩⟩, rfl⟩) | (have q2 := cl_p hh1 hm1 (by omega); left; exact ⟨⟨⟨q2.1, (by rw [q2.2]; exact hm2b), upI_eq.trans hm3b, fun q => absurd q (by omega)⟩, ⟨by omega, by omega⟩, ⟨by omega, by omega⟩, hsg, (fun _ _ => rfl), hwb, ⟨rfl, Only.up, Only.rf, Only.rf⟩⟩, rfl⟩))⟩
          ·
            have hs60 := hq16
            refine j_if_eq (tgt := 70) G d10_takesClause_63 (by decide) (by decide) (fun h28 => ?_) (fun h28 => absurd h28 (by decide))
            refine j_iconst G d10_takesClause_70 ?_
            refine j_perm (ws' := [(mo, mO ad (upS (upS (upS (upS (upS S 3 az1_22) 4 dg1_23) 17 w1_24) 16 e1_25) 18 o1_26)), (ad 5, aInt E 100 tx), (ad 7, aInt E 48 (upI wd c (hdK tx ((S 2)) ((S 3))))), (ad 8, aInt E 48 (upI nu c dg1_9)), (ad 9, aInt E 48 fo1_18), (ad 10, aInt E 48 to1_19), (ad 14, aInt E 400 sg1_20), (ad 15, aInt E 101 wt1_21)]) [2, 3, 1, 0, 4, 5, 6, 7] rfl rfl rfl ?_
            exact j_zret G F d10_takesClause_71 (by decide) ⟨0, (upI wd c (hdK tx ((S 2)) ((S 3)))), (upI nu c dg1_9), fo1_18, to1_19, sg1_20, wt1_21, az1_22, dg1_23, w1_24, e1_25, o1_26, rfl, rfl, (by first | (obtain ⟨⟨g1, g2, g3, g4, g5⟩, g6, g7, hs5, hs6, g10, hs8⟩ := hs60; rw [hb3] at g1 g2 g3; have q2 := cl_e hh1 hm1 (by omega) hb1 g1; left; exact ⟨⟨⟨q2.1, (by rw [q2.2]; exact g2), upI_eq.trans hm3b, fun _ => ⟨(by rw [g4, g5, upI_eq]; exact g3), (by rw [g5, upI_eq]; omega), g4⟩⟩, ⟨by omega, by omega⟩, ⟨by omega, by omega⟩, hs5, hs6, hs8, ⟨rfl, Only.up, (by rw [g5]; exact Only.up), g10⟩⟩, rfl⟩) | (obtain ⟨⟨g1, g2, g5⟩, g6, g7, hs5, hs6, g10, hs8⟩ := hs60; rw [hb3] at g1 g2; have q2 := cl_f hh1 hm1 (by omega) hb1 g1; right; exact ⟨⟨⟨q2.1, (by rw [q2.2]; exact g2)⟩, ⟨by omega, by omega⟩, ⟨by omega, by omega⟩, hs5, hs6, hs8, ⟨rfl, Only.up, (by rw [g5]; exact Only.up), g10⟩⟩, rfl⟩) | (have q0 := hs52.1; rw [hm2b] at q0; have q2 := cl_b hh1 hm1 (by omega) q0; right; exact ⟨⟨⟨q2.1, (by rw [q2.2]; omega)⟩, ⟨by omega, by omega⟩, ⟨by omega, by omega⟩, hsg, (fun _ _ => rfl), hwb, ⟨rfl, Only.up, Only.rf, Only.rf⟩⟩, rfl⟩) | (have q2 := cl_p hh1 hm1 (by omega); left; exact ⟨⟨⟨q2.1, (by rw [q2.2]; exact hm2b), upI_eq.trans hm3b, fun q => absurd q (by omega)⟩, ⟨by omega, by omega⟩, ⟨by omega, by omega⟩, hsg, (fun _ _ => rfl), hwb, ⟨rfl, Only.up, Only.rf, Only.rf⟩⟩, rfl⟩))⟩
        ·
          have hs52 := hq12
          refine j_if_eq (tgt := 70) G d10_takesClause_55 (by decide) (by decide) (fun h29 => ?_) (fun h29 => absurd h29 (by decide))
          refine j_iconst G d10_takesClause_70 ?_
          refine j_perm (ws' := [(mo, mO ad (upS (upS S 4 dg1_9) 3 at1_14)), (ad 5, aInt E 100 tx), (ad 7, aInt E 48 (upI wd c (hdK tx ((S 2)) ((S 3))))), (ad 8, aInt E 48 (upI nu c dg1_9)), (ad 9, aInt E 48 fo), (ad 10, aInt E 48 to), (ad 14, aInt E 400 sg), (ad 15, aInt E 101 wt)]) [6, 7, 5, 0, 1, 2, 3, 4] rfl rfl rfl ?_
          exact j_zret G F d10_takesClause_71 (by decide) ⟨0, (upI wd c (hdK tx ((S 2)) ((S 3)))), (upI nu c dg1_9), fo, to, sg, wt, at1_14, dg1_9, (S 17), (S 16), (S 18), rfl, rfl, (by first | (obtain ⟨⟨g1, g2, g3, g4, g5⟩, g6, g7, hs5, hs6, g10, hs8⟩ := hs60; rw [hb3] at g1 g2 g3; have q2 := cl_e hh1 hm1 (by omega) hb1 g1; left; exact ⟨⟨⟨q2.1, (by rw [q2.2]; exact g2), upI_eq.trans hm3b, fun _ => ⟨(by rw [g4, g5, upI_eq]; exact g3), (by rw [g5, upI_eq]; omega), g4⟩⟩, ⟨by omega, by omega⟩, ⟨by omega, by omega⟩, hs5, hs6, hs8, ⟨rfl, Only.up, (by rw [g5]; exact Only.up), g10⟩⟩, rfl⟩) | (obtain ⟨⟨g1, g2, g5⟩, g6, g7, hs5, hs6, g10, hs8⟩ := hs60; rw [hb3] at g1 g2; have q2 := cl_f hh1 hm1 (by omega) hb1 g1; right; exact ⟨⟨⟨q2.1, (by rw [q2.2]; exact g2)⟩, ⟨by omega, by omega⟩, ⟨by omega, by omega⟩, hs5, hs6, hs8, ⟨rfl, Only.up, (by rw [g5]; exact Only.up), g10⟩⟩, rfl⟩) | (have q0 := hs52.1; rw [hm2b] at q0; have q2 := cl_b hh1 hm1 (by omega) q0; right; exact ⟨⟨⟨q2.1, (by rw [q2.2]; omega)⟩, ⟨by omega, by omega⟩, ⟨by omega, by omega⟩, hsg, (fun _ _ => rfl), hwb, ⟨rfl, Only.up, Only.rf, Only.rf⟩⟩, rfl⟩) | (have q2 := cl_p hh1 hm1 (by omega); left; exact ⟨⟨⟨q2.1, (by rw [q2.2]; exact hm2b), upI_eq.trans hm3b, fun q => absurd q (by omega)⟩, ⟨by omega, by omega⟩, ⟨by omega, by omega⟩, hsg, (fun _ _ => rfl), hwb, ⟨rfl, Only.up, Only.rf, Only.rf⟩⟩, rfl⟩))⟩
      ·
        refine j_aload_n G 0 rfl d10_takesClause_38 ?_
        refine j_get G 6 10 7 in10 fl10_32 d10_takesClause_39 rfl rfl (by decide) (v := .ref (ad 7)) rfl rfl ?_
        refine j_iload_n G 1 rfl d10_takesClause_42 ?_
        refine j_iald G 5 rfl (by omega) d10_takesClause_43 ?_
        refine j_bipush G d10_takesClause_44 rfl ?_
        refine j_icmp_ne (tgt := 66) G d10_takesClause_46 (by decide) (by omega) (by decide) (fun h30 => ?_) (fun h30 => ?_)
        ·
          refine j_iconst G d10_takesClause_66 ?_
          refine j_goto (tgt := 71) G d10_takesClause_67 (by decide) ?_
          refine j_perm (ws' := [(mo, mO ad (upS (upS S 3 at1_8) 4 dg1_9)), (ad 5, aInt E 100 tx), (ad 7, aInt E 48 (upI wd c (hdK tx ((S 2)) ((S 3))))), (ad 8, aInt E 48 (upI nu c dg1_9)), (ad 9, aInt E 48 fo), (ad 10, aInt E 48 to), (ad 14, aInt E 400 sg), (ad 15, aInt E 101 wt)]) [6, 7, 5, 0, 1, 2, 3, 4] rfl rfl rfl ?_
          exact j_zret G F d10_takesClause_71 (by decide) ⟨1, (upI wd c (hdK tx ((S 2)) ((S 3)))), (upI nu c dg1_9), fo, to, sg, wt, at1_8, dg1_9, (S 17), (S 16), (S 18), rfl, rfl, (by first | (obtain ⟨⟨g1, g2, g3, g4, g5⟩, g6, g7, hs5, hs6, g10, hs8⟩ := hs60; rw [hb3] at g1 g2 g3; have q2 := cl_e hh1 hm1 (by omega) hb1 g1; left; exact ⟨⟨⟨q2.1, (by rw [q2.2]; exact g2), upI_eq.trans hm3b, fun _ => ⟨(by rw [g4, g5, upI_eq]; exact g3), (by rw [g5, upI_eq]; omega), g4⟩⟩, ⟨by omega, by omega⟩, ⟨by omega, by omega⟩, hs5, hs6, hs8, ⟨rfl, Only.up, (by rw [g5]; exact Only.up), g10⟩⟩, rfl⟩) | (obtain ⟨⟨g1, g2, g5⟩, g6, g7, hs5, hs6, g10, hs8⟩ := hs60; rw [hb3] at g1 g2; have q2 := cl_f hh1 hm1 (by omega) hb1 g1; right; exact ⟨⟨⟨q2.1, (by rw [q2.2]; exact g2)⟩, ⟨by omega, by omega⟩, ⟨by omega, by omega⟩, hs5, hs6, hs8, ⟨rfl, Only.up, (by rw [g5]; exact Only.up), g10⟩⟩, rfl⟩) | (have q0 := hs52.1; rw [hm2b] at q0; have q2 := cl_b hh1 hm1 (by omega) q0; right; exact ⟨⟨⟨q2.1, (by rw [q2.2]; omega)⟩, ⟨by omega, by omega⟩, ⟨by omega, by omega⟩, hsg, (fun _ _ => rfl), hwb, ⟨rfl, Only.up, Only.rf, Only.rf⟩⟩, rfl⟩) | (have q2 := cl_p hh1 hm1 (by omega); left; exact ⟨⟨⟨q2.1, (by rw [q2.2]; exact hm2b), upI_eq.trans hm3b, fun q => absurd q (by omega)⟩, ⟨by omega, by omega⟩, ⟨by omega, by omega⟩, hsg, (fun _ _ => rfl), hwb, ⟨rfl, Only.up, Only.rf, Only.rf⟩⟩, rfl⟩))⟩
        ·
          refine j_aload_n G 0 rfl d10_takesClause_49 ?_
          refine j_bipush G d10_takesClause_50 rfl ?_
          refine j_VM G (rm' := { frames := 1, cells := 0, slots := 0, locals := 20 }) (wc := [(mo, mO ad (upS (upS S 3 at1_8) 4 dg1_9)), (ad 5, aInt E 100 tx)]) (wr := [(ad 8, aInt E 48 (upI nu c dg1_9)), (ad 9, aInt E 48 fo), (ad 10, aInt E 48 to), (ad 14, aInt E 400 sg), (ad 15, aInt E 101 wt), (ad 7, aInt E 48 (upI wd c (hdK tx ((S 2)) ((S 3)))))]) (k10_takes (xl Γ) E mo ad (upS (upS S 3 at1_8) 4 dg1_9) tx 32 (by first | assumption | omega | (simp only [upS, reduceIte, Nat.reduceEqDiff, eq_self, List.length_cons, List.length_nil, List.length_append] <;> omega)) (by first | assumption | omega | (simp only [upS, reduceIte, Nat.reduceEqDiff, eq_self, List.length_cons, List.length_nil, List.length_append] <;> omega)) (by first | assumption | omega | (simp only [upS, reduceIte, Nat.reduceEqDiff, eq_self, List.length_cons, List.length_nil, List.length_append] <;> omega)) (by first | assumption | omega | (simp only [upS, reduceIte, Nat.reduceEqDiff, eq_self, List.length_cons, List.length_nil, List.length_append] <;> omega))) mw10_takes ml10_227 [6, 7] [0, 1, 2, 3, 4, 5] rfl rfl ⟨rfl, rfl⟩ (by decide) 6 10 rfl rfl rfl ⟨Nat.le_of_ble_eq_true rfl, Nat.le_of_ble_eq_true rfl⟩ rfl (rest := []) rfl (Nat.le_of_ble_eq_true rfl) d10_takesClause_52 ⟨Nat.le_of_ble_eq_true rfl, Nat.le_of_ble_eq_true rfl⟩ (fun r w1 hr => ?_)
          obtain ⟨v32, at1_33, rfl, rfl, hq31⟩ := hr
          refine j_eq (ws' := [(ad 8, aInt E 48 (upI nu c dg1_9)), (ad 9, aInt E 48 fo), (ad 10, aInt E 48 to), (ad 14, aInt E 400 sg), (ad 15, aInt E 101 wt), (ad 7, aInt E 48 (upI wd c (hdK tx ((S 2)) ((S 3))))), (mo, mO ad (upS (upS S 4 dg1_9) 3 at1_33)), (ad 5, aInt E 100 tx)]) rfl rfl rfl ?_
          try simp only [upS, reduceIte, Nat.reduceEqDiff, eq_self] at hq31
          rcases hq31 with ⟨hq31, rfl⟩ | ⟨hq31, rfl⟩
          ·
            have hs52 := hq31
            refine j_if_eq (tgt := 70) G d10_takesClause_55 (by decide) (by decide) (fun h34 => absurd h34 (by decide)) (fun h34 => ?_)
            obtain ⟨hb1, hb2⟩ := hs52
            rw [hm2b] at hb1
            have hb3 : _ = clM tx (S 2) (S 3) + 1 := hb2.1.trans (by rw [hm2b])
            refine j_aload_n G 0 rfl d10_takesClause_58 ?_
            refine j_iload_n G 1 rfl d10_takesClause_59 ?_
            refine j_VM G (rm' := { frames := 4, cells := 0, slots := 0, locals := 87 }) (wc := [(mo, mO ad (upS (upS S 4 dg1_9) 3 at1_33)), (ad 5, aInt E 100 tx), (ad 9, aInt E 48 fo), (ad 10, aInt E 48 to), (ad 14, aInt E 400 sg), (ad 15, aInt E 101 wt)]) (wr := [(ad 8, aInt E 48 (upI nu c dg1_9)), (ad 7, aInt E 48 (upI wd c (hdK tx ((S 2)) ((S 3)))))]) (k10_takesE (xl Γ) E mo ad (upS (upS S 4 dg1_9) 3 at1_33) tx fo to sg wt c bb (by first | assumption | omega | (simp only [upS, reduceIte, Nat.reduceEqDiff, eq_self, List.length_cons, List.length_nil, List.length_append] <;> omega)) (by first | assumption | omega | (simp only [upS, reduceIte, Nat.reduceEqDiff, eq_self, List.length_cons, List.length_nil, List.length_append] <;> omega)) (by first | assumption | omega | (simp only [upS, reduceIte, Nat.reduceEqDiff, eq_self, List.length_cons, List.length_nil, List.length_append] <;> omega)) (by first | assumption | omega | (simp only [upS, reduceIte, Nat.reduceEqDiff, eq_self, List.length_cons, List.length_nil, List.length_append] <;> omega)) (by first | assumption | omega | (simp only [upS, reduceIte, Nat.reduceEqDiff, eq_self, List.length_cons, List.length_nil, List.length_append] <;> omega)) (by first | assumption | omega | (simp only [upS, reduceIte, Nat.reduceEqDiff, eq_self, List.length_cons, List.length_nil, List.length_append] <;> omega)) (by first | assumption | omega | (simp only [upS, reduceIte, Nat.reduceEqDiff, eq_self, List.length_cons, List.length_nil, List.length_append] <;> omega)) (by first | assumption | omega | (simp only [upS, reduceIte, Nat.reduceEqDiff, eq_self, List.length_cons, List.length_nil, List.length_append] <;> omega))) mw10_takesE ml10_270 [6, 7, 1, 2, 3, 4] [0, 5] rfl rfl ⟨rfl, rfl⟩ (by decide) 6 10 rfl rfl rfl ⟨Nat.le_of_ble_eq_true rfl, Nat.le_of_ble_eq_true rfl⟩ rfl (rest := []) rfl (Nat.le_of_ble_eq_true rfl) d10_takesClause_60 ⟨Nat.le_of_ble_eq_true rfl, Nat.le_of_ble_eq_true rfl⟩ (fun r w1 hr => ?_)
            obtain ⟨v36, fo1_37, to1_38, sg1_39, wt1_40, az1_41, dg1_42, w1_43, e1_44, o1_45, rfl, rfl, hq35⟩ := hr
            refine j_eq (ws' := [(ad 8, aInt E 48 (upI nu c dg1_9)), (ad 7, aInt E 48 (upI wd c (hdK tx ((S 2)) ((S 3))))), (mo, mO ad (upS (upS (upS (upS (upS S 3 az1_41) 4 dg1_42) 17 w1_43) 16 e1_44) 18 o1_45)), (ad 5, aInt E 100 tx), (ad 9, aInt E 48 fo1_37), (ad 10, aInt E 48 to1_38), (ad 14, aInt E 400 sg1_39), (ad 15, aInt E 101 wt1_40)]) rfl rfl rfl ?_
            try simp only [upS, reduceIte, Nat.reduceEqDiff, eq_self] at hq35
            rcases hq35 with ⟨hq35, rfl⟩ | ⟨hq35, rfl⟩
            ·
              have hs60 := hq35
              refine j_if_eq (tgt := 70) G d10_takesClause_63 (by decide) (by decide) (fun h46 => absurd h46 (by decide)) (fun h46 => ?_)
              refine j_iconst G d10_takesClause_66 ?_
              refine j_goto (tgt := 71) G d10_takesClause_67 (by decide) ?_
              refine j_perm (ws' := [(mo, mO ad (upS (upS (upS (upS (upS S 3 az1_41) 4 dg1_42) 17 w1_43) 16 e1_44) 18 o1_45)), (ad 5, aInt E 100 tx), (ad 7, aInt E 48 (upI wd c (hdK tx ((S 2)) ((S 3))))), (ad 8, aInt E 48 (upI nu c dg1_9)), (ad 9, aInt E 48 fo1_37), (ad 10, aInt E 48 to1_38), (ad 14, aInt E 400 sg1_39), (ad 15, aInt E 101 wt1_40)]) [2, 3, 1, 0, 4, 5, 6, 7] rfl rfl rfl ?_
              exact j_zret G F d10_takesClause_71 (by decide) ⟨1, (upI wd c (hdK tx ((S 2)) ((S 3)))), (upI nu c dg1_9), fo1_37, to1_38, sg1_39, wt1_40, az1_41, dg1_42, w1_43, e1_44, o1_45, rfl, rfl, (by first | (obtain ⟨⟨g1, g2, g3, g4, g5⟩, g6, g7, hs5, hs6, g10, hs8⟩ := hs60; rw [hb3] at g1 g2 g3; have q2 := cl_e hh1 hm1 (by omega) hb1 g1; left; exact ⟨⟨⟨q2.1, (by rw [q2.2]; exact g2), upI_eq.trans hm3b, fun _ => ⟨(by rw [g4, g5, upI_eq]; exact g3), (by rw [g5, upI_eq]; omega), g4⟩⟩, ⟨by omega, by omega⟩, ⟨by omega, by omega⟩, hs5, hs6, hs8, ⟨rfl, Only.up, (by rw [g5]; exact Only.up), g10⟩⟩, rfl⟩) | (obtain ⟨⟨g1, g2, g5⟩, g6, g7, hs5, hs6, g10, hs8⟩ := hs60; rw [hb3] at g1 g2; have q2 := cl_f hh1 hm1 (by omega) hb1 g1; right; exact ⟨⟨⟨q2.1, (by rw [q2.2]; exact g2)⟩, ⟨by omega, by omega⟩, ⟨by omega, by omega⟩, hs5, hs6, hs8, ⟨rfl, Only.up, (by rw [g5]; exact Only.up), g10⟩⟩, rfl⟩) | (have q0 := hs52.1; rw [hm2b] at q0; have q2 := cl_b hh1 hm1 (by omega) q0; right; exact ⟨⟨⟨q2.1, (by rw [q2.2]; omega)⟩, ⟨by omega, by omega⟩, ⟨by omega, by omega⟩, hsg, (fun _ _ => rfl), hwb, ⟨rfl, Only.up, Only.rf, Only.rf⟩⟩, rfl⟩) | (have q2 := cl_p hh1 hm1 (by omega); left; exact ⟨⟨⟨q2.1, (by rw [q2.2]; exact hm2b), upI_eq.trans hm3b, fun q => absurd q (by omega)⟩, ⟨by omega, by omega⟩, ⟨by omega, by omega⟩, hsg, (fun _ _ => rfl), hwb, ⟨rfl, Only.up, Only.rf, Only.rf⟩⟩, rfl⟩))⟩
            ·
              have hs60 := hq35
              refine j_if_eq (tgt := 70) G d10_takesClause_63 (by decide) (by decide) (fun h47 => ?_) (fun h47 => absurd h47 (by decide))
              refine j_iconst G d10_takesClause_70 ?_
              refine j_perm (ws' := [(mo, mO ad (upS (upS (upS (upS (upS S 3 az1_41) 4 dg1_42) 17 w1_43) 16 e1_44) 18 o1_45)), (ad 5, aInt E 100 tx), (ad 7, aInt E 48 (upI wd c (hdK tx ((S 2)) ((S 3))))), (ad 8, aInt E 48 (upI nu c dg1_9)), (ad 9, aInt E 48 fo1_37), (ad 10, aInt E 48 to1_38), (ad 14, aInt E 400 sg1_39), (ad 15, aInt E 101 wt1_40)]) [2, 3, 1, 0, 4, 5, 6, 7] rfl rfl rfl ?_
              exact j_zret G F d10_takesClause_71 (by decide) ⟨0, (upI wd c (hdK tx ((S 2)) ((S 3)))), (upI nu c dg1_9), fo1_37, to1_38, sg1_39, wt1_40, az1_41, dg1_42, w1_43, e1_44, o1_45, rfl, rfl, (by first | (obtain ⟨⟨g1, g2, g3, g4, g5⟩, g6, g7, hs5, hs6, g10, hs8⟩ := hs60; rw [hb3] at g1 g2 g3; have q2 := cl_e hh1 hm1 (by omega) hb1 g1; left; exact ⟨⟨⟨q2.1, (by rw [q2.2]; exact g2), upI_eq.trans hm3b, fun _ => ⟨(by rw [g4, g5, upI_eq]; exact g3), (by rw [g5, upI_eq]; omega), g4⟩⟩, ⟨by omega, by omega⟩, ⟨by omega, by omega⟩, hs5, hs6, hs8, ⟨rfl, Only.up, (by rw [g5]; exact Only.up), g10⟩⟩, rfl⟩) | (obtain ⟨⟨g1, g2, g5⟩, g6, g7, hs5, hs6, g10, hs8⟩ := hs60; rw [hb3] at g1 g2; have q2 := cl_f hh1 hm1 (by omega) hb1 g1; right; exact ⟨⟨⟨q2.1, (by rw [q2.2]; exact g2)⟩, ⟨by omega, by omega⟩, ⟨by omega, by omega⟩, hs5, hs6, hs8, ⟨rfl, Only.up, (by rw [g5]; exact Only.up), g10⟩⟩, rfl⟩) | (have q0 := hs52.1; rw [hm2b] at q0; have q2 := cl_b hh1 hm1 (by omega) q0; right; exact ⟨⟨⟨q2.1, (by rw [q2.2]; omega)⟩, ⟨by omega, by omega⟩, ⟨by omega, by omega⟩, hsg, (fun _ _ => rfl), hwb, ⟨rfl, Only.up, Only.rf, Only.rf⟩⟩, rfl⟩) | (have q2 := cl_p hh1 hm1 (by omega); left; exact ⟨⟨⟨q2.1, (by rw [q2.2]; exact hm2b), upI_eq.trans hm3b, fun q => absurd q (by omega)⟩, ⟨by omega, by omega⟩, ⟨by omega, by omega⟩, hsg, (fun _ _ => rfl), hwb, ⟨rfl, Only.up, Only.rf, Only.rf⟩⟩, rfl⟩))⟩
          ·
            have hs52 := hq31
            refine j_if_eq (tgt := 70) G d10_takesClause_55 (by decide) (by decide) (fun h48 => ?_) (fun h48 => absurd h48 (by decide))
            refine j_iconst G d10_takesClause_70 ?_
            refine j_perm (ws' := [(mo, mO ad (upS (upS S 4 dg1_9) 3 at1_33)), (ad 5, aInt E 100 tx), (ad 7, aInt E 48 (upI wd c (hdK tx ((S 2)) ((S 3))))), (ad 8, aInt E 48 (upI nu c dg1_9)), (ad 9, aInt E 48 fo), (ad 10, aInt E 48 to), (ad 14, aInt E 400 sg), (ad 15, aInt E 101 wt)]) [6, 7, 5, 0, 1, 2, 3, 4] rfl rfl rfl ?_
            exact j_zret G F d10_takesClause_71 (by decide) ⟨0, (upI wd c (hdK tx ((S 2)) ((S 3)))), (upI nu c dg1_9), fo, to, sg, wt, at1_33, dg1_9, (S 17), (S 16), (S 18), rfl, rfl, (by first | (obtain ⟨⟨g1, g2, g3, g4, g5⟩, g6, g7, hs5, hs6, g10, hs8⟩ := hs60; rw [hb3] at g1 g2 g3; have q2 := cl_e hh1 hm1 (by omega) hb1 g1; left; exact ⟨⟨⟨q2.1, (by rw [q2.2]; exact g2), upI_eq.trans hm3b, fun _ => ⟨(by rw [g4, g5, upI_eq]; exact g3), (by rw [g5, upI_eq]; omega), g4⟩⟩, ⟨by omega, by omega⟩, ⟨by omega, by omega⟩, hs5, hs6, hs8, ⟨rfl, Only.up, (by rw [g5]; exact Only.up), g10⟩⟩, rfl⟩) | (obtain ⟨⟨g1, g2, g5⟩, g6, g7, hs5, hs6, g10, hs8⟩ := hs60; rw [hb3] at g1 g2; have q2 := cl_f hh1 hm1 (by omega) hb1 g1; right; exact ⟨⟨⟨q2.1, (by rw [q2.2]; exact g2)⟩, ⟨by omega, by omega⟩, ⟨by omega, by omega⟩, hs5, hs6, hs8, ⟨rfl, Only.up, (by rw [g5]; exact Only.up), g10⟩⟩, rfl⟩) | (have q0 := hs52.1; rw [hm2b] at q0; have q2 := cl_b hh1 hm1 (by omega) q0; right; exact ⟨⟨⟨q2.1, (by rw [q2.2]; omega)⟩, ⟨by omega, by omega⟩, ⟨by omega, by omega⟩, hsg, (fun _ _ => rfl), hwb, ⟨rfl, Only.up, Only.rf, Only.rf⟩⟩, rfl⟩) | (have q2 := cl_p hh1 hm1 (by omega); left; exact ⟨⟨⟨q2.1, (by rw [q2.2]; exact hm2b), upI_eq.trans hm3b, fun q => absurd q (by omega)⟩, ⟨by omega, by omega⟩, ⟨by omega, by omega⟩, hsg, (fun _ _ => rfl), hwb, ⟨rfl, Only.up, Only.rf, Only.rf⟩⟩, rfl⟩))⟩
    ·
      have hs10 := hq6
      refine j_if_ne (tgt := 18) G d10_takesClause_13 (by decide) (by decide) (fun h49 => absurd h49 (by decide)) (fun h49 => ?_)
      refine j_iconst G d10_takesClause_16 ?_
      refine j_perm (ws' := [(mo, mO ad (upS (upS S 3 at1_8) 4 dg1_9)), (ad 5, aInt E 100 tx), (ad 7, aInt E 48 (upI wd c (hdK tx ((S 2)) ((S 3))))), (ad 8, aInt E 48 nu), (ad 9, aInt E 48 fo), (ad 10, aInt E 48 to), (ad 14, aInt E 400 sg), (ad 15, aInt E 101 wt)]) [6, 7, 5, 0, 1, 2, 3, 4] rfl rfl rfl ?_
      exact j_zret G F d10_takesClause_17 (by decide) ⟨0, (upI wd c (hdK tx ((S 2)) ((S 3)))), nu, fo, to, sg, wt, at1_8, dg1_9, (S 17), (S 16), (S 18), rfl, rfl, (by first | (have q0 := hs10.1; rw [hh2] at q0; have q2 := cl_d hh1 q0; right; exact ⟨⟨⟨q2.1, (by rw [q2.2]; omega)⟩, ⟨by omega, by omega⟩, ⟨by omega, by omega⟩, hsg, (fun _ _ => rfl), hwb, ⟨rfl, Only.rf, Only.rf, Only.rf⟩⟩, rfl⟩) | (have q2 := cl_h hs2.1; right; exact ⟨⟨⟨q2.1, (by rw [q2.2]; omega)⟩, ⟨by omega, by omega⟩, ⟨by omega, by omega⟩, hsg, (fun _ _ => rfl), hwb, ⟨rfl, Only.rf, Only.rf, Only.rf⟩⟩, rfl⟩))⟩
  ·
    have hs2 := hq1
    refine j_if_eq (tgt := 16) G d10_takesClause_5 (by decide) (by decide) (fun h50 => ?_) (fun h50 => absurd h50 (by decide))
    refine j_iconst G d10_takesClause_16 ?_
    refine j_perm (ws' := [(mo, mO ad (upS S 3 az1_3)), (ad 5, aInt E 100 tx), (ad 7, aInt E 48 (upI wd c (hdK tx ((S 2)) ((S 3))))), (ad 8, aInt E 48 nu), (ad 9, aInt E 48 fo), (ad 10, aInt E 48 to), (ad 14, aInt E 400 sg), (ad 15, aInt E 101 wt)]) [5, 6, 7, 0, 1, 2, 3, 4] rfl rfl rfl ?_
    exact j_zret G F d10_takesClause_17 (by decide) ⟨0, (upI wd c (hdK tx ((S 2)) ((S 3)))), nu, fo, to, sg, wt, az1_3, (S 4), (S 17), (S 16), (S 18), rfl, rfl, (by first | (have q0 := hs10.1; rw [hh2] at q0; have q2 := cl_d hh1 q0; right; exact ⟨⟨⟨q2.1, (by rw [q2.2]; omega)⟩, ⟨by omega, by omega⟩, ⟨by omega, by omega⟩, hsg, (fun _ _ => rfl), hwb, ⟨rfl, Only.rf, Only.rf, Only.rf⟩⟩, rfl⟩) | (have q2 := cl_h hs2.1; right; exact ⟨⟨⟨q2.1, (by rw [q2.2]; omega)⟩, ⟨by omega, by omega⟩, ⟨by omega, by omega⟩, hsg, (fun _ _ => rfl), hwb, ⟨rfl, Only.rf, Only.rf, Only.rf⟩⟩, rfl⟩))⟩
