def smC (wd nu : Int → Int) (F : Int → Int → Int → Int) (w step wet c0 : Int) : Nat → Int
  | 0 => 0
  | m + 1 => smC wd nu F w step wet c0 m + (if wd (c0 + m) = w then (if F (c0 + m) step wet = 0 then 0 else nu (c0 + m)) else 0)
theorem smC_s {wd nu : Int → Int} {F : Int → Int → Int → Int} {w step wet c0 c : Int} (h : c0 ≤ c) : smC wd nu F w step wet c0 (c + 1 - c0).toNat = smC wd nu F w step wet c0 (c - c0).toNat + (if wd c = w then (if F c step wet = 0 then 0 else nu c) else 0) := by
  have e : (c + 1 - c0).toNat = (c - c0).toNat + 1 := by omega
  have e2 : c0 + ((c - c0).toNat : Int) = c := by omega
  rw [e]
  show _ + (if wd (c0 + ((c - c0).toNat : Int)) = w then (if F (c0 + ((c - c0).toNat : Int)) step wet = 0 then 0 else nu (c0 + ((c - c0).toNat : Int))) else 0) = _
  rw [e2]
/-- the clauses of the model's cliff t say what F tells of each -/
def MSum (wd nu fo to sg cl : Int → Int) (F : Int → Int → Int → Int) (t : Int) : Prop := (0 ≤ cl t ∧ cl t ≤ 12) ∧ ∀ c, 12 * t ≤ c → c < 12 * t + cl t → (0 ≤ wd c ∧ wd c ≤ 8) ∧ (0 ≤ nu c ∧ nu c ≤ 999) ∧ (wd c = 3 ∨ wd c = 7 → PF sg (fo c) (to c) (F c) ∧ (to c ≤ 400 ∧ to c - fo c ≤ 100) ∧ ∀ s q, F c s q = 0 ∨ F c s q = 1)
def smM (wd nu cl : Int → Int) (F : Int → Int → Int → Int) (t w step wet : Int) : Int := smC wd nu F w step wet (12 * t) (cl t).toNat
theorem d10_sum_0 : decode c10_sum 0 = .ok (.iconst 0, 1) := by decide +kernel
theorem d10_sum_1 : decode c10_sum 1 = .ok (.istore_n 3, 1) := by decide +kernel
theorem d10_sum_2 : decode c10_sum 2 = .ok (.bipush 12, 2) := by decide +kernel
theorem d10_sum_4 : decode c10_sum 4 = .ok (.aload_n 0, 1) := by decide +kernel
theorem d10_sum_5 : decode c10_sum 5 = .ok (.getfield 13, 3) := by decide +kernel
theorem d10_sum_8 : decode c10_sum 8 = .ok (.imul, 1) := by decide +kernel
theorem d10_sum_9 : decode c10_sum 9 = .ok (.istore 4, 2) := by decide +kernel
theorem d10_sum_11 : decode c10_sum 11 = .ok (.iload 4, 2) := by decide +kernel
theorem d10_sum_13 : decode c10_sum 13 = .ok (.bipush 12, 2) := by decide +kernel
theorem d10_sum_15 : decode c10_sum 15 = .ok (.aload_n 0, 1) := by decide +kernel
theorem d10_sum_16 : decode c10_sum 16 = .ok (.getfield 13, 3) := by decide +kernel
theorem d10_sum_19 : decode c10_sum 19 = .ok (.imul, 1) := by decide +kernel
theorem d10_sum_20 : decode c10_sum 20 = .ok (.aload_n 0, 1) := by decide +kernel
theorem d10_sum_21 : decode c10_sum 21 = .ok (.getfield 29, 3) := by decide +kernel
theorem d10_sum_24 : decode c10_sum 24 = .ok (.aload_n 0, 1) := by decide +kernel
theorem d10_sum_25 : decode c10_sum 25 = .ok (.getfield 13, 3) := by decide +kernel
theorem d10_sum_28 : decode c10_sum 28 = .ok (.iaload, 1) := by decide +kernel
theorem d10_sum_29 : decode c10_sum 29 = .ok (.iadd, 1) := by decide +kernel
theorem d10_sum_30 : decode c10_sum 30 = .ok (.if_icmp .ge 44, 3) := by decide +kernel
theorem d10_sum_33 : decode c10_sum 33 = .ok (.iload_n 3, 1) := by decide +kernel
theorem d10_sum_34 : decode c10_sum 34 = .ok (.aload_n 0, 1) := by decide +kernel
theorem d10_sum_35 : decode c10_sum 35 = .ok (.getfield 32, 3) := by decide +kernel
theorem d10_sum_38 : decode c10_sum 38 = .ok (.iload 4, 2) := by decide +kernel
theorem d10_sum_40 : decode c10_sum 40 = .ok (.iaload, 1) := by decide +kernel
theorem d10_sum_41 : decode c10_sum 41 = .ok (.iload_n 1, 1) := by decide +kernel
theorem d10_sum_42 : decode c10_sum 42 = .ok (.if_icmp .ne 23, 3) := by decide +kernel
theorem d10_sum_45 : decode c10_sum 45 = .ok (.aload_n 0, 1) := by decide +kernel
theorem d10_sum_46 : decode c10_sum 46 = .ok (.iload 4, 2) := by decide +kernel
theorem d10_sum_48 : decode c10_sum 48 = .ok (.iload_n 2, 1) := by decide +kernel
theorem d10_sum_49 : decode c10_sum 49 = .ok (.invokevirtual 290, 3) := by decide +kernel
theorem d10_sum_52 : decode c10_sum 52 = .ok (.ifCond .eq 13, 3) := by decide +kernel
theorem d10_sum_55 : decode c10_sum 55 = .ok (.aload_n 0, 1) := by decide +kernel
theorem d10_sum_56 : decode c10_sum 56 = .ok (.getfield 35, 3) := by decide +kernel
theorem d10_sum_59 : decode c10_sum 59 = .ok (.iload 4, 2) := by decide +kernel
theorem d10_sum_61 : decode c10_sum 61 = .ok (.iaload, 1) := by decide +kernel
theorem d10_sum_62 : decode c10_sum 62 = .ok (.goto 4, 3) := by decide +kernel
theorem d10_sum_65 : decode c10_sum 65 = .ok (.iconst 0, 1) := by decide +kernel
theorem d10_sum_66 : decode c10_sum 66 = .ok (.iadd, 1) := by decide +kernel
theorem d10_sum_67 : decode c10_sum 67 = .ok (.istore_n 3, 1) := by decide +kernel
theorem d10_sum_68 : decode c10_sum 68 = .ok (.iinc 4 1, 3) := by decide +kernel
theorem d10_sum_71 : decode c10_sum 71 = .ok (.goto (-60), 3) := by decide +kernel
theorem d10_sum_74 : decode c10_sum 74 = .ok (.iload_n 3, 1) := by decide +kernel
theorem d10_sum_75 : decode c10_sum 75 = .ok (.ireturn, 1) := by decide +kernel
theorem mw10_sum : MV y10_sum c10_sum 5 (some .int) 2 := ⟨cd10_sum, ini10, na10_sum, im10_sum, se10_sum⟩
set_option maxHeartbeats 4000000 in
set_option maxRecDepth 100000 in
theorem k10_sum (l : Launch) (E : En) (mo : Nat) (ad : Nat → Nat) (S : Nat → Int) (cl : Int → Int) (wd : Int → Int) (nu : Int → Int) (fo : Int → Int) (to : Int → Int) (sg : Int → Int) (pl : Int → Int) (Fq : Int → Int → Int → Int) (a : Int) (step : Int) (hsg : ∀ j, 0 ≤ j → j < 400 → -200 ≤ sg j ∧ sg j ≤ 20000) (hpl : ∀ j, 0 ≤ j → j < 100 → 0 ≤ pl j ∧ pl j ≤ 1) (hw : S 20 = 0 ∨ S 20 = 1) (hms : MSum wd nu fo to sg cl Fq (S 1)) (hth : 0 ≤ S 1 ∧ S 1 ≤ 3) (ha : a = 3 ∨ a = 7) (hst : 0 ≤ step ∧ step ≤ 11) : Cm l E y10_sum c10_sum 5 (some .int) { frames := 1, cells := 0, slots := 0, locals := 27 } [.ref mo, .int (iZ a), .int (iZ step)] [(mo, mO ad S), (ad 6, aInt E 4 cl), (ad 7, aInt E 48 wd), (ad 8, aInt E 48 nu), (ad 9, aInt E 48 fo), (ad 10, aInt E 48 to), (ad 14, aInt E 400 sg), (ad 19, aBoo E 100 pl)] (fun r ws => ∃ (v : Int), ∃ (pl1 : Int → Int), r = some (.int (iZ v)) ∧ ws = [(mo, mO ad S), (ad 6, aInt E 4 cl), (ad 7, aInt E 48 wd), (ad 8, aInt E 48 nu), (ad 9, aInt E 48 fo), (ad 10, aInt E 48 to), (ad 14, aInt E 400 sg), (ad 19, aBoo E 100 pl1)] ∧ (v = smM wd nu cl Fq (S 1) a step (S 20) ∧ (0 ≤ v ∧ v ≤ 11988) ∧ ∀ j, 0 ≤ j → j < 100 → 0 ≤ pl1 j ∧ pl1 j ≤ 1)) := by
  refine Cm.of (by decide +kernel) (Nat.le_of_ble_eq_true rfl) (fun Γ A hl hargs hin G F => ?_)
  subst hl
  have hcl := hms.1
  refine j_iconst G d10_sum_0 ?_
  refine j_istore_n G d10_sum_1 (by decide) rfl ?_
  refine j_bipush G d10_sum_2 rfl ?_
  refine j_aload_n G 1 rfl d10_sum_4 ?_
  refine j_get G 0 10 1 in10 fl10_13 d10_sum_5 rfl rfl (by decide) (v := .int (iZ (S 1))) rfl rfl ?_
  refine j_imul G d10_sum_8 ?_
  refine j_istore G d10_sum_9 (by decide) rfl ?_
  have lp11 : ∀ (fu : Nat) (acc : Int) (kk : Int) (p : Int → Int), (12 * S 1 + cl (S 1) - kk).toNat < fu → (12 * S 1 ≤ kk ∧ kk ≤ 12 * S 1 + cl (S 1)) → (acc = smC wd nu Fq a step (S 20) (12 * S 1) (kk - 12 * S 1).toNat) → (0 ≤ acc ∧ acc ≤ 999 * (kk - 12 * S 1)) → (∀ j, 0 ≤ j → j < 100 → 0 ≤ p j ∧ p j ≤ 1) →  J E 5 Γ (some A) 0 0 [(mo, mO ad S), (ad 6, aInt E 4 cl), (ad 7, aInt E 48 wd), (ad 8, aInt E 48 nu), (ad 9, aInt E 48 fo), (ad 10, aInt E 48 to), (ad 14, aInt E 400 sg), (ad 19, aBoo E 100 p)] 11 [(4, .int (iZ kk)), (3, .int (iZ acc)), (0, .ref mo), (1, .int (iZ a)), (2, .int (iZ step))] [] := by
    intro fu
    induction fu with
    | zero =>
      intro acc kk p hm
      exact absurd hm (Nat.not_lt_zero _)
    | succ fu ih11 =>
      intro acc kk p hm hk hac har hpb
      refine j_iload G 0 rfl d10_sum_11 ?_
      refine j_bipush G d10_sum_13 rfl ?_
      refine j_aload_n G 2 rfl d10_sum_15 ?_
      refine j_get G 0 10 1 in10 fl10_13 d10_sum_16 rfl rfl (by decide) (v := .int (iZ (S 1))) rfl rfl ?_
      refine j_imul G d10_sum_19 ?_
      refine j_aload_n G 2 rfl d10_sum_20 ?_
      refine j_get G 0 10 6 in10 fl10_29 d10_sum_21 rfl rfl (by decide) (v := .ref (ad 6)) rfl rfl ?_
      refine j_aload_n G 2 rfl d10_sum_24 ?_
      refine j_get G 0 10 1 in10 fl10_13 d10_sum_25 rfl rfl (by decide) (v := .int (iZ (S 1))) rfl rfl ?_
      refine j_iald G 1 rfl (by omega) d10_sum_28 ?_
      refine j_iadd G d10_sum_29 ?_
      refine j_icmp_ge (tgt := 74) G d10_sum_30 (by decide) (by omega) (by omega) (fun h1 => ?_) (fun h1 => ?_)
      ·
        refine j_iload_n G 1 rfl d10_sum_74 ?_
        exact j_iret G F d10_sum_75 ⟨acc, p, rfl, rfl, (by refine ⟨?_, by omega, hpb⟩; rw [hac]; unfold smM; congr 1; omega)⟩
      ·
        have hwk := hms.2 kk (by omega) (by omega)
        refine j_iload_n G 1 rfl d10_sum_33 ?_
        refine j_aload_n G 2 rfl d10_sum_34 ?_
        refine j_get G 0 10 7 in10 fl10_32 d10_sum_35 rfl rfl (by decide) (v := .ref (ad 7)) rfl rfl ?_
        refine j_iload G 0 rfl d10_sum_38 ?_
        refine j_iald G 2 rfl (by omega) d10_sum_40 ?_
        refine j_iload_n G 3 rfl d10_sum_41 ?_
        refine j_icmp_ne (tgt := 65) G d10_sum_42 (by decide) (by omega) (by omega) (fun h2 => ?_) (fun h2 => ?_)
        ·
          refine j_iconst G d10_sum_65 ?_
          refine j_iadd G d10_sum_66 ?_
          refine j_istore_n G d10_sum_67 (by decide) rfl ?_
          refine j_iinc G d10_sum_68 1 rfl (by decide) rfl ?_
          refine j_goto (tgt := 11) G d10_sum_71 (by decide) ?_
          exact ih11 (acc + 0) (kk + 1) p (by omega) (by first | assumption | omega) (by rw [smC_s hk.1, ← hac]; (repeat' split) <;> first | omega | (exfalso; omega)) (by first | assumption | omega) (by first | assumption | omega)
        ·
          have hq0 := hwk.2.2 (by omega)
          have hz01 := hq0.2.2 step (S 20)
          refine j_aload_n G 2 rfl d10_sum_45 ?_
          refine j_iload G 0 rfl d10_sum_46 ?_
          refine j_iload_n G 4 rfl d10_sum_48 ?_
          refine j_VM G (rm' := { frames := 0, cells := 0, slots := 0, locals := 0 }) (wc := [(mo, mO ad S), (ad 9, aInt E 48 fo), (ad 10, aInt E 48 to), (ad 14, aInt E 400 sg), (ad 19, aBoo E 100 p)]) (wr := [(ad 6, aInt E 4 cl), (ad 7, aInt E 48 wd), (ad 8, aInt E 48 nu)]) (k10_holds (xl Γ) E mo ad S fo to sg p (Fq kk) kk step (by first | assumption | omega | (simp only [upS, reduceIte, Nat.reduceEqDiff, eq_self, List.length_cons, List.length_nil, List.length_append] <;> omega)) hpb (by first | assumption | omega | (simp only [upS, reduceIte, Nat.reduceEqDiff, eq_self, List.length_cons, List.length_nil, List.length_append] <;> omega)) (by omega) (by first | assumption | omega | (simp only [upS, reduceIte, Nat.reduceEqDiff, eq_self, List.length_cons, List.length_nil, List.length_append] <;> omega)) hq0.1 hq0.2.1 (hq0.2.2 _ _)) mw10_holds ml10_290 [0, 4, 5, 6, 7] [1, 2, 3] rfl rfl ⟨rfl, rfl⟩ (by decide) 0 10 rfl rfl rfl ⟨Nat.le_of_ble_eq_true rfl, Nat.le_of_ble_eq_true rfl⟩ rfl (rest := [.int (iZ acc)]) rfl (Nat.le_of_ble_eq_true rfl) d10_sum_49 ⟨Nat.le_of_ble_eq_true rfl, Nat.le_of_ble_eq_true rfl⟩ (fun r w1 hr => ?_)
          obtain ⟨v4, pl1_5, rfl, rfl, ⟨hq3_0, hq3_1⟩⟩ := hr
          refine j_eq (ws' := [(ad 6, aInt E 4 cl), (ad 7, aInt E 48 wd), (ad 8, aInt E 48 nu), (mo, mO ad S), (ad 9, aInt E 48 fo), (ad 10, aInt E 48 to), (ad 14, aInt E 400 sg), (ad 19, aBoo E 100 pl1_5)]) rfl rfl rfl ?_
          have mg52 : ∀ x6 : Int, x6 = (if v4 = 0 then 0 else (nu kk)) → J E 5 Γ (some A) 0 0 [(ad 6, aInt E 4 cl), (ad 7, aInt E 48 wd), (ad 8, aInt E 48 nu), (mo, mO ad S), (ad 9, aInt E 48 fo), (ad 10, aInt E 48 to), (ad 14, aInt E 400 sg), (ad 19, aBoo E 100 pl1_5)] 66 [(4, .int (iZ kk)), (3, .int (iZ acc)), (0, .ref mo), (1, .int (iZ a)), (2, .int (iZ step))] ([.int (iZ x6), .int (iZ acc)]) := by
            intro x6 ex6
            refine j_iadd G d10_sum_66 ?_
            refine j_istore_n G d10_sum_67 (by decide) rfl ?_
            refine j_iinc G d10_sum_68 1 rfl (by decide) rfl ?_
            refine j_goto (tgt := 11) G d10_sum_71 (by decide) ?_
            refine j_perm (ws' := [(mo, mO ad S), (ad 6, aInt E 4 cl), (ad 7, aInt E 48 wd), (ad 8, aInt E 48 nu), (ad 9, aInt E 48 fo), (ad 10, aInt E 48 to), (ad 14, aInt E 400 sg), (ad 19, aBoo E 100 pl1_5)]) [3, 0, 1, 2, 4, 5, 6, 7] rfl rfl rfl ?_
            exact ih11 (acc + x6) (kk + 1) pl1_5 (by omega) (by first | assumption | omega) (by rw [smC_s hk.1, ← hac]; (repeat' split) <;> first | omega | (exfalso; omega)) (by first | assumption | omega) (by first | assumption | omega)
          refine j_if_eq (tgt := 65) G d10_sum_52 (by decide) (by omega) (fun h7 => ?_) (fun h7 => ?_)
          ·
            refine j_iconst G d10_sum_65 ?_
            refine j_eq (ws' := [(ad 6, aInt E 4 cl), (ad 7, aInt E 48 wd), (ad 8, aInt E 48 nu), (mo, mO ad S), (ad 9, aInt E 48 fo), (ad 10, aInt E 48 to), (ad 14, aInt E 400 sg), (ad 19, aBoo E 100 pl1_5)]) (ls' := [(4, .int (iZ kk)), (3, .int (iZ acc)), (0, .ref mo), (1, .int (iZ a)), (2, .int (iZ step))]) rfl rfl rfl ?_
            exact mg52 _ (by first | rfl | (simp only [*, if_true, if_false, ite_true, ite_false]; done) | (split <;> first | rfl | omega | (split <;> first | rfl | omega | (split <;> first | rfl | omega))))
          ·
            refine j_aload_n G 2 rfl d10_sum_55 ?_
            refine j_get G 3 10 8 in10 fl10_35 d10_sum_56 rfl rfl (by decide) (v := .ref (ad 8)) rfl rfl ?_
            refine j_iload G 0 rfl d10_sum_59 ?_
            refine j_iald G 2 rfl (by omega) d10_sum_61 ?_
            refine j_goto (tgt := 66) G d10_sum_62 (by decide) ?_
            refine j_eq (ws' := [(ad 6, aInt E 4 cl), (ad 7, aInt E 48 wd), (ad 8, aInt E 48 nu), (mo, mO ad S), (ad 9, aInt E 48 fo), (ad 10, aInt E 48 to), (ad 14, aInt E 400 sg), (ad 19, aBoo E 100 pl1_5)]) (ls' := [(4, .int (iZ kk)), (3, .int (iZ acc)), (0, .ref mo), (1, .int (iZ a)), (2, .int (iZ step))]) rfl rfl rfl ?_
            exact mg52 _ (by first | rfl | (simp only [*, if_true, if_false, ite_true, ite_false]; done) | (split <;> first | rfl | omega | (split <;> first | rfl | omega | (split <;> first | rfl | omega))))
  exact lp11 _ 0 (12 * (S 1)) pl (Nat.lt_succ_self _) (by first | assumption | omega) (by rw [Int.sub_self]; rfl) (by first | assumption | omega) hpl
