/-- what a day by the bell with n is worth -/
def beW (K : Dy) (st0 n : Int) : Int := 100 * dyA K (gB K 2 n) st0 (dUp K) 12 + dyT K (gB K 2 n) st0 12 / 81
def beF (K : Dy) (st0 : Int) : Nat → Int → Int → Int → Int
  | 0, _, b, _ => b
  | m + 1, n, b, w0 => if beW K st0 n ≤ w0 then beF K st0 m (n + 1) b w0 else beF K st0 m (n + 1) n (beW K st0 n)
theorem beF_s (K : Dy) (st0 : Int) (m : Nat) (n b w0 : Int) : beF K st0 (m + 1) n b w0 = if beW K st0 n ≤ w0 then beF K st0 m (n + 1) b w0 else beF K st0 m (n + 1) n (beW K st0 n) := rfl
theorem d10_bell_0 : decode c10_bell 0 = .ok (.aload_n 0, 1) := by decide +kernel
theorem d10_bell_1 : decode c10_bell 1 = .ok (.getfield 13, 3) := by decide +kernel
theorem d10_bell_4 : decode c10_bell 4 = .ok (.ifCond .ge 5, 3) := by decide +kernel
theorem d10_bell_7 : decode c10_bell 7 = .ok (.iconst (-1), 1) := by decide +kernel
theorem d10_bell_8 : decode c10_bell 8 = .ok (.ireturn, 1) := by decide +kernel
theorem d10_bell_9 : decode c10_bell 9 = .ok (.aload_n 0, 1) := by decide +kernel
theorem d10_bell_10 : decode c10_bell 10 = .ok (.iconst 0, 1) := by decide +kernel
theorem d10_bell_11 : decode c10_bell 11 = .ok (.iconst 0, 1) := by decide +kernel
theorem d10_bell_12 : decode c10_bell 12 = .ok (.iconst 0, 1) := by decide +kernel
theorem d10_bell_13 : decode c10_bell 13 = .ok (.iconst 0, 1) := by decide +kernel
theorem d10_bell_14 : decode c10_bell 14 = .ok (.iconst 1, 1) := by decide +kernel
theorem d10_bell_15 : decode c10_bell 15 = .ok (.invokevirtual 337, 3) := by decide +kernel
theorem d10_bell_18 : decode c10_bell 18 = .ok (.iconst 0, 1) := by decide +kernel
theorem d10_bell_19 : decode c10_bell 19 = .ok (.istore_n 1, 1) := by decide +kernel
theorem d10_bell_20 : decode c10_bell 20 = .ok (.iconst (-1), 1) := by decide +kernel
theorem d10_bell_21 : decode c10_bell 21 = .ok (.istore_n 2, 1) := by decide +kernel
theorem d10_bell_22 : decode c10_bell 22 = .ok (.iconst 0, 1) := by decide +kernel
theorem d10_bell_23 : decode c10_bell 23 = .ok (.istore_n 3, 1) := by decide +kernel
theorem d10_bell_24 : decode c10_bell 24 = .ok (.iload_n 3, 1) := by decide +kernel
theorem d10_bell_25 : decode c10_bell 25 = .ok (.bipush 12, 2) := by decide +kernel
theorem d10_bell_27 : decode c10_bell 27 = .ok (.if_icmp .ge 47, 3) := by decide +kernel
theorem d10_bell_30 : decode c10_bell 30 = .ok (.aload_n 0, 1) := by decide +kernel
theorem d10_bell_31 : decode c10_bell 31 = .ok (.iconst 2, 1) := by decide +kernel
theorem d10_bell_32 : decode c10_bell 32 = .ok (.iload_n 3, 1) := by decide +kernel
theorem d10_bell_33 : decode c10_bell 33 = .ok (.iconst 0, 1) := by decide +kernel
theorem d10_bell_34 : decode c10_bell 34 = .ok (.invokevirtual 341, 3) := by decide +kernel
theorem d10_bell_37 : decode c10_bell 37 = .ok (.bipush 100, 2) := by decide +kernel
theorem d10_bell_39 : decode c10_bell 39 = .ok (.aload_n 0, 1) := by decide +kernel
theorem d10_bell_40 : decode c10_bell 40 = .ok (.getfield 137, 3) := by decide +kernel
theorem d10_bell_43 : decode c10_bell 43 = .ok (.imul, 1) := by decide +kernel
theorem d10_bell_44 : decode c10_bell 44 = .ok (.aload_n 0, 1) := by decide +kernel
theorem d10_bell_45 : decode c10_bell 45 = .ok (.getfield 149, 3) := by decide +kernel
theorem d10_bell_48 : decode c10_bell 48 = .ok (.bipush 81, 2) := by decide +kernel
theorem d10_bell_50 : decode c10_bell 50 = .ok (.idiv, 1) := by decide +kernel
theorem d10_bell_51 : decode c10_bell 51 = .ok (.iadd, 1) := by decide +kernel
theorem d10_bell_52 : decode c10_bell 52 = .ok (.istore 4, 2) := by decide +kernel
theorem d10_bell_54 : decode c10_bell 54 = .ok (.iload 4, 2) := by decide +kernel
theorem d10_bell_56 : decode c10_bell 56 = .ok (.iload_n 2, 1) := by decide +kernel
theorem d10_bell_57 : decode c10_bell 57 = .ok (.if_icmp .gt 6, 3) := by decide +kernel
theorem d10_bell_60 : decode c10_bell 60 = .ok (.goto 8, 3) := by decide +kernel
theorem d10_bell_63 : decode c10_bell 63 = .ok (.iload_n 3, 1) := by decide +kernel
theorem d10_bell_64 : decode c10_bell 64 = .ok (.istore_n 1, 1) := by decide +kernel
theorem d10_bell_65 : decode c10_bell 65 = .ok (.iload 4, 2) := by decide +kernel
theorem d10_bell_67 : decode c10_bell 67 = .ok (.istore_n 2, 1) := by decide +kernel
theorem d10_bell_68 : decode c10_bell 68 = .ok (.iinc 3 1, 3) := by decide +kernel
theorem d10_bell_71 : decode c10_bell 71 = .ok (.goto (-47), 3) := by decide +kernel
theorem d10_bell_74 : decode c10_bell 74 = .ok (.iload_n 1, 1) := by decide +kernel
theorem d10_bell_75 : decode c10_bell 75 = .ok (.ireturn, 1) := by decide +kernel
theorem mw10_bell : MV y10_bell c10_bell 5 (some .int) 0 := ⟨cd10_bell, ini10, na10_bell, im10_bell, se10_bell⟩
set_option maxHeartbeats 4000000 in
set_option maxRecDepth 100000 in
theorem k10_bell (l : Launch) (E : En) (mo : Nat) (ad : Nat → Nat) (S : Nat → Int) (la : Int → Int) (po : Int → Int) (pt : Int → Int) (cl : Int → Int) (wd : Int → Int) (nu : Int → Int) (fo : Int → Int) (to : Int → Int) (sg : Int → Int) (pl : Int → Int) (Fq : Int → Int → Int → Int) (co : Int → Int) (spr : Int → Int) (le : Int → Int) (mk : Int → Int) (wo : Int → Int) (hd : Int → Int) (rw : Int → Int) (pn : Int → Int) (hth : -1 ≤ S 1 ∧ S 1 ≤ 3) (hms : 0 ≤ S 1 → MSum wd nu fo to sg cl Fq (S 1)) (hwm : 0 ≤ S 1 → wfC (cM la po (S 1)) (pM pt (S 1))) (hco : ∀ j, 0 ≤ j → j < 24 → 0 ≤ co j ∧ co j ≤ 6) (hsg : ∀ j, 0 ≤ j → j < 400 → -200 ≤ sg j ∧ sg j ≤ 20000) (hpl : ∀ j, 0 ≤ j → j < 100 → 0 ≤ pl j ∧ pl j ≤ 1) (hw : S 20 = 0 ∨ S 20 = 1) (hmk : ∀ j, 0 ≤ j → j < 43173 → 0 ≤ mk j ∧ mk j ≤ 1) (hfi : 0 ≤ S 21 ∧ S 21 ≤ 40) : Cm l E y10_bell c10_bell 5 (some .int) { frames := 5, cells := 0, slots := 0, locals := 126 } [.ref mo] [(mo, mO ad S), (ad 11, aInt E 36 la), (ad 12, aInt E 4 po), (ad 13, aInt E 20 pt), (ad 6, aInt E 4 cl), (ad 7, aInt E 48 wd), (ad 8, aInt E 48 nu), (ad 9, aInt E 48 fo), (ad 10, aInt E 48 to), (ad 14, aInt E 400 sg), (ad 19, aBoo E 100 pl), (ad 22, aInt E 24 co), (ad 32, aInt E 12 spr), (ad 33, aInt E 588 le), (ad 39, aBoo E 43173 mk), (ad 40, aInt E 43173 wo), (ad 26, aInt E 12 hd), (ad 27, aInt E 144 rw), (ad 47, aInt E 12 pn)] (fun r ws => ∃ (v : Int), ∃ (pl1 : Int → Int), ∃ (sp1 : Int → Int), ∃ (le1 : Int → Int), ∃ (mk1 : Int → Int), ∃ (wo1 : Int → Int), ∃ (pn1 : Int → Int), ∃ (tk1 : Int), ∃ (se1 : Int), ∃ (mx1 : Int), ∃ (ti1 : Int), ∃ (nw : Int), ∃ (lo : Int), ∃ (dn : Int), ∃ (up : Int), ∃ (wa : Int), ∃ (su : Int), ∃ (sd : Int), ∃ (wt : Int), ∃ (sl : Int), ∃ (es : Int), ∃ (tr : Int), r = some (.int (iZ v)) ∧ ws = [(mo, mO ad (upS (upS (upS (upS (upS (upS (upS (upS (upS (upS (upS (upS (upS (upS (upS S 28 tk1) 29 se1) 30 mx1) 31 ti1) 34 nw) 35 lo) 36 dn) 37 up) 38 wa) 41 su) 42 sd) 43 wt) 44 sl) 45 es) 46 tr)), (ad 11, aInt E 36 la), (ad 12, aInt E 4 po), (ad 13, aInt E 20 pt), (ad 6, aInt E 4 cl), (ad 7, aInt E 48 wd), (ad 8, aInt E 48 nu), (ad 9, aInt E 48 fo), (ad 10, aInt E 48 to), (ad 14, aInt E 400 sg), (ad 19, aBoo E 100 pl1), (ad 22, aInt E 24 co), (ad 32, aInt E 12 sp1), (ad 33, aInt E 588 le1), (ad 39, aBoo E 43173 mk1), (ad 40, aInt E 43173 wo1), (ad 26, aInt E 12 hd), (ad 27, aInt E 144 rw), (ad 47, aInt E 12 pn1)] ∧ (v = (if ¬ S 1 < 0 then beF (kB (cM la po (S 1)) (pM pt (S 1)) (fun s => smM wd nu cl Fq (S 1) 3 s (S 20)) (fun s => smM wd nu cl Fq (S 1) 7 s (S 20)) co 1) (81 * S 21) 12 0 0 (-1) else -1) ∧ (∀ j, 0 ≤ j → j < 100 → 0 ≤ pl1 j ∧ pl1 j ≤ 1) ∧ (∀ j, 0 ≤ j → j < 43173 → 0 ≤ mk1 j ∧ mk1 j ≤ 1))) := by
  refine Cm.of (by decide +kernel) (Nat.le_of_ble_eq_true rfl) (fun Γ A hl hargs hin G F => ?_)
  subst hl
  refine j_aload_n G 0 rfl d10_bell_0 ?_
  refine j_get G 0 10 1 in10 fl10_13 d10_bell_1 rfl rfl (by decide) (v := .int (iZ (S 1))) rfl rfl ?_
  refine j_if_ge (tgt := 9) G d10_bell_4 (by decide) (by omega) (fun h1 => ?_) (fun h1 => ?_)
  ·
    have hms1 := hms (by omega)
    have hwm1 := hwm (by omega)
    have hpd : 0 ≤ la (9 * S 1 + 8) ∧ la (9 * S 1 + 8) ≤ 40 := hwm1.2.2.2.2.2.2.2
    refine j_aload_n G 0 rfl d10_bell_9 ?_
    refine j_iconst G d10_bell_10 ?_
    refine j_iconst G d10_bell_11 ?_
    refine j_iconst G d10_bell_12 ?_
    refine j_iconst G d10_bell_13 ?_
    refine j_iconst G d10_bell_14 ?_
    refine j_VM G (rm' := { frames := 4, cells := 0, slots := 0, locals := 98 }) (wc := [(mo, mO ad S), (ad 11, aInt E 36 la), (ad 12, aInt E 4 po), (ad 13, aInt E 20 pt), (ad 6, aInt E 4 cl), (ad 7, aInt E 48 wd), (ad 8, aInt E 48 nu), (ad 9, aInt E 48 fo), (ad 10, aInt E 48 to), (ad 14, aInt E 400 sg), (ad 19, aBoo E 100 pl), (ad 22, aInt E 24 co), (ad 32, aInt E 12 spr), (ad 33, aInt E 588 le)]) (wr := [(ad 39, aBoo E 43173 mk), (ad 40, aInt E 43173 wo), (ad 26, aInt E 12 hd), (ad 27, aInt E 144 rw), (ad 47, aInt E 12 pn)]) (k10_layDay (xl Γ) E mo ad S la po pt cl wd nu fo to sg pl Fq co spr le 0 0 0 0 1 (by first | assumption | omega | (simp only [upS, reduceIte, Nat.reduceEqDiff, eq_self, List.length_cons, List.length_nil, List.length_append] <;> omega)) (by first | assumption | omega | (simp only [upS, reduceIte, Nat.reduceEqDiff, eq_self, List.length_cons, List.length_nil, List.length_append] <;> omega)) (by first | assumption | omega | (simp only [upS, reduceIte, Nat.reduceEqDiff, eq_self, List.length_cons, List.length_nil, List.length_append] <;> omega)) (by first | assumption | omega | (simp only [upS, reduceIte, Nat.reduceEqDiff, eq_self, List.length_cons, List.length_nil, List.length_append] <;> omega)) (by first | assumption | omega | (simp only [upS, reduceIte, Nat.reduceEqDiff, eq_self, List.length_cons, List.length_nil, List.length_append] <;> omega)) (by first | assumption | omega | (simp only [upS, reduceIte, Nat.reduceEqDiff, eq_self, List.length_cons, List.length_nil, List.length_append] <;> omega)) (by first | assumption | omega | (simp only [upS, reduceIte, Nat.reduceEqDiff, eq_self, List.length_cons, List.length_nil, List.length_append] <;> omega)) (by first | assumption | omega | (simp only [upS, reduceIte, Nat.reduceEqDiff, eq_self, List.length_cons, List.length_nil, List.length_append] <;> omega)) (by first | assumption | omega | (simp only [upS, reduceIte, Nat.reduceEqDiff, eq_self, List.length_cons, List.length_nil, List.length_append] <;> omega)) (by first | assumption | omega | (simp only [upS, reduceIte, Nat.reduceEqDiff, eq_self, List.length_cons, List.length_nil, List.length_append] <;> omega)) (by first | assumption | omega | (simp only [upS, reduceIte, Nat.reduceEqDiff, eq_self, List.length_cons, List.length_nil, List.length_append] <;> omega)) (by first | assumption | omega | (simp only [upS, reduceIte, Nat.reduceEqDiff, eq_self, List.length_cons, List.length_nil, List.length_append] <;> omega)) (by first | assumption | omega | (simp only [upS, reduceIte, Nat.reduceEqDiff, eq_self, List.length_cons, List.length_nil, List.length_append] <;> omega))) mw10_layDay ml10_337 [0, 1, 2, 3, 4, 5, 6, 7, 8, 9, 10, 11, 12, 13] [14, 15, 16, 17, 18] rfl rfl ⟨rfl, rfl⟩ (by decide) 0 10 rfl rfl rfl ⟨Nat.le_of_ble_eq_true rfl, Nat.le_of_ble_eq_true rfl⟩ rfl (rest := []) rfl (Nat.le_of_ble_eq_true rfl) d10_bell_15 ⟨Nat.le_of_ble_eq_true rfl, Nat.le_of_ble_eq_true rfl⟩ (fun r w1 hr => ?_)
    obtain ⟨pl1_3, sp1_4, le1_5, tk1_6, se1_7, mx1_8, rfl, rfl, ⟨hq2_0, hq2_1⟩⟩ := hr
    refine j_eq (ws' := [(ad 39, aBoo E 43173 mk), (ad 40, aInt E 43173 wo), (ad 26, aInt E 12 hd), (ad 27, aInt E 144 rw), (ad 47, aInt E 12 pn), (mo, mO ad (upS (upS (upS (upS S 28 tk1_6) 29 se1_7) 30 mx1_8) 31 1)), (ad 11, aInt E 36 la), (ad 12, aInt E 4 po), (ad 13, aInt E 20 pt), (ad 6, aInt E 4 cl), (ad 7, aInt E 48 wd), (ad 8, aInt E 48 nu), (ad 9, aInt E 48 fo), (ad 10, aInt E 48 to), (ad 14, aInt E 400 sg), (ad 19, aBoo E 100 pl1_3), (ad 22, aInt E 24 co), (ad 32, aInt E 12 sp1_4), (ad 33, aInt E 588 le1_5)]) rfl rfl rfl ?_
    have hly : Lay (kB (cM la po (S 1)) (pM pt (S 1)) (fun s => smM wd nu cl Fq (S 1) 3 s (S 20)) (fun s => smM wd nu cl Fq (S 1) 7 s (S 20)) co 1) tk1_6 se1_7 mx1_8 1 sp1_4 le1_5 co := hq2_0
    have hpl1 := hq2_1
    have hok := hly.2.2.2.2.1
    refine j_iconst G d10_bell_18 ?_
    refine j_istore_n G d10_bell_19 (by decide) rfl ?_
    refine j_iconst G d10_bell_20 ?_
    refine j_istore_n G d10_bell_21 (by decide) rfl ?_
    refine j_iconst G d10_bell_22 ?_
    refine j_istore_n G d10_bell_23 (by decide) rfl ?_
    refine j_eq (ws' := [(ad 39, aBoo E 43173 mk), (ad 40, aInt E 43173 wo), (ad 26, aInt E 12 hd), (ad 27, aInt E 144 rw), (ad 47, aInt E 12 pn), (mo, mO ad (upS (upS (upS (upS (upS (upS (upS (upS (upS (upS (upS (upS (upS (upS (upS S 28 tk1_6) 29 se1_7) 30 mx1_8) 31 1) 34 (S 34)) 35 (S 35)) 36 (S 36)) 37 (S 37)) 38 (S 38)) 41 (S 41)) 42 (S 42)) 43 (S 43)) 44 (S 44)) 45 (S 45)) 46 (S 46))), (ad 11, aInt E 36 la), (ad 12, aInt E 4 po), (ad 13, aInt E 20 pt), (ad 6, aInt E 4 cl), (ad 7, aInt E 48 wd), (ad 8, aInt E 48 nu), (ad 9, aInt E 48 fo), (ad 10, aInt E 48 to), (ad 14, aInt E 400 sg), (ad 19, aBoo E 100 pl1_3), (ad 22, aInt E 24 co), (ad 32, aInt E 12 sp1_4), (ad 33, aInt E 588 le1_5)]) rfl rfl rfl ?_
    have lp24 : ∀ (fu : Nat) (q : Int) (bst : Int) (w0 : Int) (mk2 : Int → Int) (wo2 : Int → Int) (pn2 : Int → Int) (nw2 : Int) (lo2 : Int) (dn2 : Int) (up2 : Int) (wa2 : Int) (su2 : Int) (sd2 : Int) (wt2 : Int) (sl2 : Int) (es2 : Int) (tr2 : Int), (12 - q).toNat < fu → (0 ≤ q ∧ q ≤ 12) → (-1 ≤ w0 ∧ w0 ≤ 8000) → (∀ j, 0 ≤ j → j < 43173 → 0 ≤ mk2 j ∧ mk2 j ≤ 1) → (beF (kB (cM la po (S 1)) (pM pt (S 1)) (fun s => smM wd nu cl Fq (S 1) 3 s (S 20)) (fun s => smM wd nu cl Fq (S 1) 7 s (S 20)) co 1) (81 * S 21) 12 0 0 (-1) = beF (kB (cM la po (S 1)) (pM pt (S 1)) (fun s => smM wd nu cl Fq (S 1) 3 s (S 20)) (fun s => smM wd nu cl Fq (S 1) 7 s (S 20)) co 1) (81 * S 21) (12 - q).toNat q bst w0) →  J E 5 Γ (some A) 0 0 [(ad 39, aBoo E 43173 mk2), (ad 40, aInt E 43173 wo2), (ad 26, aInt E 12 hd), (ad 27, aInt E 144 rw), (ad 47, aInt E 12 pn2), (mo, mO ad (upS (upS (upS (upS (upS (upS (upS (upS (upS (upS (upS (upS (upS (upS (upS S 28 tk1_6) 29 se1_7) 30 mx1_8) 31 1) 34 nw2) 35 lo2) 36 dn2) 37 up2) 38 wa2) 41 su2) 42 sd2) 43 wt2) 44 sl2) 45 es2) 46 tr2)), (ad 11, aInt E 36 la), (ad 12, aInt E 4 po), (ad 13, aInt E 20 pt), (ad 6, aInt E 4 cl), (ad 7, aInt E 48 wd), (ad 8, aInt E 48 nu), (ad 9, aInt E 48 fo), (ad 10, aInt E 48 to), (ad 14, aInt E 400 sg), (ad 19, aBoo E 100 pl1_3), (ad 22, aInt E 24 co), (ad 32, aInt E 12 sp1_4), (ad 33, aInt E 588 le1_5)] 24 [(3, .int (iZ q)), (2, .int (iZ w0)), (1, .int (iZ bst)), (0, .ref mo)] [] := by
      intro fu
      induction fu with
      | zero =>
        intro q bst w0 mk2 wo2 pn2 nw2 lo2 dn2 up2 wa2 su2 sd2 wt2 sl2 es2 tr2 hm
        exact absurd hm (Nat.not_lt_zero _)
      | succ fu ih24 =>
        intro q bst w0 mk2 wo2 pn2 nw2 lo2 dn2 up2 wa2 su2 sd2 wt2 sl2 es2 tr2 hm hq hw0 hmk2 hw
        refine j_iload_n G 0 rfl d10_bell_24 ?_
        refine j_bipush G d10_bell_25 rfl ?_
        refine j_icmp_ge (tgt := 74) G d10_bell_27 (by decide) (by omega) (by decide) (fun h9 => ?_) (fun h9 => ?_)
        ·
          refine j_iload_n G 2 rfl d10_bell_74 ?_
          refine j_perm (ws' := [(mo, mO ad (upS (upS (upS (upS (upS (upS (upS (upS (upS (upS (upS (upS (upS (upS (upS S 28 tk1_6) 29 se1_7) 30 mx1_8) 31 1) 34 nw2) 35 lo2) 36 dn2) 37 up2) 38 wa2) 41 su2) 42 sd2) 43 wt2) 44 sl2) 45 es2) 46 tr2)), (ad 11, aInt E 36 la), (ad 12, aInt E 4 po), (ad 13, aInt E 20 pt), (ad 6, aInt E 4 cl), (ad 7, aInt E 48 wd), (ad 8, aInt E 48 nu), (ad 9, aInt E 48 fo), (ad 10, aInt E 48 to), (ad 14, aInt E 400 sg), (ad 19, aBoo E 100 pl1_3), (ad 22, aInt E 24 co), (ad 32, aInt E 12 sp1_4), (ad 33, aInt E 588 le1_5), (ad 39, aBoo E 43173 mk2), (ad 40, aInt E 43173 wo2), (ad 26, aInt E 12 hd), (ad 27, aInt E 144 rw), (ad 47, aInt E 12 pn2)]) [5, 6, 7, 8, 9, 10, 11, 12, 13, 14, 15, 16, 17, 18, 0, 1, 2, 3, 4] rfl rfl rfl ?_
          exact j_iret G F d10_bell_75 ⟨bst, pl1_3, sp1_4, le1_5, mk2, wo2, pn2, tk1_6, se1_7, mx1_8, 1, nw2, lo2, dn2, up2, wa2, su2, sd2, wt2, sl2, es2, tr2, rfl, rfl, (by first | exact ⟨(if_neg (by omega)).symm, hpl, hmk⟩ | exact ⟨by rw [if_pos (by omega), hw, show (12 - q).toNat = 0 by omega]; rfl, hpl1, hmk2⟩)⟩
        ·
          refine j_aload_n G 3 rfl d10_bell_30 ?_
          refine j_iconst G d10_bell_31 ?_
          refine j_iload_n G 0 rfl d10_bell_32 ?_
          refine j_iconst G d10_bell_33 ?_
          refine j_VM G (rm' := { frames := 3, cells := 0, slots := 0, locals := 74 }) (wc := [(mo, mO ad (upS (upS (upS (upS (upS (upS (upS (upS (upS (upS (upS (upS (upS (upS (upS S 28 tk1_6) 29 se1_7) 30 mx1_8) 31 1) 34 nw2) 35 lo2) 36 dn2) 37 up2) 38 wa2) 41 su2) 42 sd2) 43 wt2) 44 sl2) 45 es2) 46 tr2)), (ad 22, aInt E 24 co), (ad 32, aInt E 12 sp1_4), (ad 33, aInt E 588 le1_5), (ad 39, aBoo E 43173 mk2), (ad 40, aInt E 43173 wo2), (ad 26, aInt E 12 hd), (ad 27, aInt E 144 rw), (ad 47, aInt E 12 pn2)]) (wr := [(ad 11, aInt E 36 la), (ad 12, aInt E 4 po), (ad 13, aInt E 20 pt), (ad 6, aInt E 4 cl), (ad 7, aInt E 48 wd), (ad 8, aInt E 48 nu), (ad 9, aInt E 48 fo), (ad 10, aInt E 48 to), (ad 14, aInt E 400 sg), (ad 19, aBoo E 100 pl1_3)]) (k10_goDay (xl Γ) E mo ad (upS (upS (upS (upS (upS (upS (upS (upS (upS (upS (upS (upS (upS (upS (upS S 28 tk1_6) 29 se1_7) 30 mx1_8) 31 1) 34 nw2) 35 lo2) 36 dn2) 37 up2) 38 wa2) 41 su2) 42 sd2) 43 wt2) 44 sl2) 45 es2) 46 tr2) co sp1_4 le1_5 mk2 wo2 hd rw pn2 (kB (cM la po (S 1)) (pM pt (S 1)) (fun s => smM wd nu cl Fq (S 1) 3 s (S 20)) (fun s => smM wd nu cl Fq (S 1) 7 s (S 20)) co 1) (gB (kB (cM la po (S 1)) (pM pt (S 1)) (fun s => smM wd nu cl Fq (S 1) 3 s (S 20)) (fun s => smM wd nu cl Fq (S 1) 7 s (S 20)) co 1) 2 q) 2 q 0 (by first | assumption | omega | (simp only [upS, reduceIte, Nat.reduceEqDiff, eq_self, List.length_cons, List.length_nil, List.length_append] <;> omega)) (by first | assumption | omega | (simp only [upS, reduceIte, Nat.reduceEqDiff, eq_self, List.length_cons, List.length_nil, List.length_append] <;> omega)) (by first | assumption | omega | (simp only [upS, reduceIte, Nat.reduceEqDiff, eq_self, List.length_cons, List.length_nil, List.length_append] <;> omega)) (by first | assumption | omega | (simp only [upS, reduceIte, Nat.reduceEqDiff, eq_self, List.length_cons, List.length_nil, List.length_append] <;> omega)) (fun q => absurd q (by decide)) (by first | assumption | omega | (simp only [upS, reduceIte, Nat.reduceEqDiff, eq_self, List.length_cons, List.length_nil, List.length_append] <;> omega)) (fun _ _ => gB_e (by decide)) (by first | assumption | omega | (simp only [upS, reduceIte, Nat.reduceEqDiff, eq_self, List.length_cons, List.length_nil, List.length_append] <;> omega))) mw10_goDay ml10_341 [5, 16, 17, 18, 0, 1, 2, 3, 4] [6, 7, 8, 9, 10, 11, 12, 13, 14, 15] rfl rfl ⟨rfl, rfl⟩ (by decide) 5 10 rfl rfl rfl ⟨Nat.le_of_ble_eq_true rfl, Nat.le_of_ble_eq_true rfl⟩ rfl (rest := []) rfl (Nat.le_of_ble_eq_true rfl) d10_bell_34 ⟨Nat.le_of_ble_eq_true rfl, Nat.le_of_ble_eq_true rfl⟩ (fun r w1 hr => ?_)
          obtain ⟨mk1_11, wo1_12, pn1_13, nw_14, lo_15, dn_16, up_17, wa_18, su_19, sd_20, wt_21, sl_22, es_23, tr_24, rfl, rfl, ⟨hq10_0, hq10_1, hq10_2, hq10_3, hq10_4, hq10_5, hq10_6, hq10_7⟩⟩ := hr
          refine j_eq (ws' := [(ad 11, aInt E 36 la), (ad 12, aInt E 4 po), (ad 13, aInt E 20 pt), (ad 6, aInt E 4 cl), (ad 7, aInt E 48 wd), (ad 8, aInt E 48 nu), (ad 9, aInt E 48 fo), (ad 10, aInt E 48 to), (ad 14, aInt E 400 sg), (ad 19, aBoo E 100 pl1_3), (mo, mO ad (upS (upS (upS (upS (upS (upS (upS (upS (upS (upS (upS (upS (upS (upS (upS S 28 tk1_6) 29 se1_7) 30 mx1_8) 31 1) 34 nw_14) 35 lo_15) 36 dn_16) 37 up_17) 38 wa_18) 41 su_19) 42 sd_20) 43 wt_21) 44 sl_22) 45 es_23) 46 tr_24)), (ad 22, aInt E 24 co), (ad 32, aInt E 12 sp1_4), (ad 33, aInt E 588 le1_5), (ad 39, aBoo E 43173 mk1_11), (ad 40, aInt E 43173 wo1_12), (ad 26, aInt E 12 hd), (ad 27, aInt E 144 rw), (ad 47, aInt E 12 pn1_13)]) rfl rfl rfl ?_
          try simp only [upS, reduceIte, Nat.reduceEqDiff, eq_self] at hq10_0 hq10_1 hq10_2 hq10_3 hq10_4 hq10_5 hq10_6 hq10_7
          have hA := hq10_0
          have hF := hq10_5
          have hvm := hq10_7
          have hTr := dyT_r (g := (gB (kB (cM la po (S 1)) (pM pt (S 1)) (fun s => smM wd nu cl Fq (S 1) 3 s (S 20)) (fun s => smM wd nu cl Fq (S 1) 7 s (S 20)) co 1) 2 q)) hok (st0 := 81 * S 21) (by omega) 12 (Nat.le_refl 12)
          have hAr := dyA_r (g := (gB (kB (cM la po (S 1)) (pM pt (S 1)) (fun s => smM wd nu cl Fq (S 1) 3 s (S 20)) (fun s => smM wd nu cl Fq (S 1) 7 s (S 20)) co 1) 2 q)) (f := dUp (kB (cM la po (S 1)) (pM pt (S 1)) (fun s => smM wd nu cl Fq (S 1) 3 s (S 20)) (fun s => smM wd nu cl Fq (S 1) 7 s (S 20)) co 1)) hok (st0 := 81 * S 21) (by omega) (fun s st h1 h2 => by have := dR hok h1 h2; omega) 12 (Nat.le_refl 12)
          rw [← hF] at hTr
          rw [← hA] at hAr
          have hWv : beW (kB (cM la po (S 1)) (pM pt (S 1)) (fun s => smM wd nu cl Fq (S 1) 3 s (S 20)) (fun s => smM wd nu cl Fq (S 1) 7 s (S 20)) co 1) (81 * S 21) q = 100 * su_19 + es_23 / 81 := by unfold beW; rw [← hA, ← hF]
          refine j_bipush G d10_bell_37 rfl ?_
          refine j_aload_n G 3 rfl d10_bell_39 ?_
          refine j_get G 10 10 41 in10 fl10_137 d10_bell_40 rfl rfl (by decide) (v := .int (iZ su_19)) rfl rfl ?_
          refine j_imul G d10_bell_43 ?_
          refine j_aload_n G 3 rfl d10_bell_44 ?_
          refine j_get G 10 10 45 in10 fl10_149 d10_bell_45 rfl rfl (by decide) (v := .int (iZ es_23)) rfl rfl ?_
          refine j_bipush G d10_bell_48 rfl ?_
          refine j_idiv G d10_bell_50 (by omega) ?_
          refine j_iadd G d10_bell_51 ?_
          refine j_istore G d10_bell_52 (by decide) rfl ?_
          refine j_iload G 0 rfl d10_bell_54 ?_
          refine j_iload_n G 2 rfl d10_bell_56 ?_
          refine j_icmp_gt (tgt := 63) G d10_bell_57 (by decide) (by omega) (by omega) (fun h25 => ?_) (fun h25 => ?_)
          ·
            refine j_iload_n G 1 rfl d10_bell_63 ?_
            refine j_istore_n G d10_bell_64 (by decide) rfl ?_
            refine j_iload G 1 rfl d10_bell_65 ?_
            refine j_istore_n G d10_bell_67 (by decide) rfl ?_
            refine j_iinc G d10_bell_68 3 rfl (by decide) rfl ?_
            refine j_goto (tgt := 24) G d10_bell_71 (by decide) ?_
            refine j_locs (ls' := [(3, .int (iZ (q + 1))), (2, .int (iZ ((100 * su_19) + (es_23 / 81)))), (1, .int (iZ q)), (0, .ref mo)]) [0, 1, 2, 4] rfl ?_
            refine j_perm (ws' := [(ad 39, aBoo E 43173 mk1_11), (ad 40, aInt E 43173 wo1_12), (ad 26, aInt E 12 hd), (ad 27, aInt E 144 rw), (ad 47, aInt E 12 pn1_13), (mo, mO ad (upS (upS (upS (upS (upS (upS (upS (upS (upS (upS (upS (upS (upS (upS (upS S 28 tk1_6) 29 se1_7) 30 mx1_8) 31 1) 34 nw_14) 35 lo_15) 36 dn_16) 37 up_17) 38 wa_18) 41 su_19) 42 sd_20) 43 wt_21) 44 sl_22) 45 es_23) 46 tr_24)), (ad 11, aInt E 36 la), (ad 12, aInt E 4 po), (ad 13, aInt E 20 pt), (ad 6, aInt E 4 cl), (ad 7, aInt E 48 wd), (ad 8, aInt E 48 nu), (ad 9, aInt E 48 fo), (ad 10, aInt E 48 to), (ad 14, aInt E 400 sg), (ad 19, aBoo E 100 pl1_3), (ad 22, aInt E 24 co), (ad 32, aInt E 12 sp1_4), (ad 33, aInt E 588 le1_5)]) [14, 15, 16, 17, 18, 10, 0, 1, 2, 3, 4, 5, 6, 7, 8, 9, 11, 12, 13] rfl rfl rfl ?_
            exact ih24 (q + 1) q ((100 * su_19) + (es_23 / 81)) mk1_11 wo1_12 pn1_13 nw_14 lo_15 dn_16 up_17 wa_18 su_19 sd_20 wt_21 sl_22 es_23 tr_24 (by omega) (by first | assumption | omega) (by first | assumption | omega) hvm (by rw [hw, show (12 - q).toNat = (12 - (q + 1)).toNat + 1 by omega, beF_s, hWv]; first | (rw [if_pos (by omega)]; done) | (rw [if_neg (by omega)]; done))
          ·
            refine j_goto (tgt := 68) G d10_bell_60 (by decide) ?_
            refine j_iinc G d10_bell_68 1 rfl (by decide) rfl ?_
            refine j_goto (tgt := 24) G d10_bell_71 (by decide) ?_
            refine j_locs (ls' := [(3, .int (iZ (q + 1))), (2, .int (iZ w0)), (1, .int (iZ bst)), (0, .ref mo)]) [0, 2, 3, 4] rfl ?_
            refine j_perm (ws' := [(ad 39, aBoo E 43173 mk1_11), (ad 40, aInt E 43173 wo1_12), (ad 26, aInt E 12 hd), (ad 27, aInt E 144 rw), (ad 47, aInt E 12 pn1_13), (mo, mO ad (upS (upS (upS (upS (upS (upS (upS (upS (upS (upS (upS (upS (upS (upS (upS S 28 tk1_6) 29 se1_7) 30 mx1_8) 31 1) 34 nw_14) 35 lo_15) 36 dn_16) 37 up_17) 38 wa_18) 41 su_19) 42 sd_20) 43 wt_21) 44 sl_22) 45 es_23) 46 tr_24)), (ad 11, aInt E 36 la), (ad 12, aInt E 4 po), (ad 13, aInt E 20 pt), (ad 6, aInt E 4 cl), (ad 7, aInt E 48 wd), (ad 8, aInt E 48 nu), (ad 9, aInt E 48 fo), (ad 10, aInt E 48 to), (ad 14, aInt E 400 sg), (ad 19, aBoo E 100 pl1_3), (ad 22, aInt E 24 co), (ad 32, aInt E 12 sp1_4), (ad 33, aInt E 588 le1_5)]) [14, 15, 16, 17, 18, 10, 0, 1, 2, 3, 4, 5, 6, 7, 8, 9, 11, 12, 13] rfl rfl rfl ?_
            exact ih24 (q + 1) bst w0 mk1_11 wo1_12 pn1_13 nw_14 lo_15 dn_16 up_17 wa_18 su_19 sd_20 wt_21 sl_22 es_23 tr_24 (by omega) (by first | assumption | omega) (by first | assumption | omega) hvm (by rw [hw, show (12 - q).toNat = (12 - (q + 1)).toNat + 1 by omega, beF_s, hWv]; first | (rw [if_pos (by omega)]; done) | (rw [if_neg (by omega)]; done))
    exact lp24 _ 0 0 (-1) mk wo pn (S 34) (S 35) (S 36) (S 37) (S 38) (S 41) (S 42) (S 43) (S 44) (S 45) (S 46) (Nat.lt_succ_self _) (by first | assumption | omega) (by first | assumption | omega) hmk rfl
  ·
    refine j_iconst G d10_bell_7 ?_
    exact j_iret G F d10_bell_8 ⟨(-1), pl, spr, le, mk, wo, pn, (S 28), (S 29), (S 30), (S 31), (S 34), (S 35), (S 36), (S 37), (S 38), (S 41), (S 42), (S 43), (S 44), (S 45), (S 46), rfl, rfl, (by first | exact ⟨(if_neg (by omega)).symm, hpl, hmk⟩ | exact ⟨by rw [if_pos (by omega), hw, show (12 - q).toNat = 0 by omega]; rfl, hpl1, hmk2⟩)⟩
