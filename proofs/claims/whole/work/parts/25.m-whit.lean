noncomputable def kB (C : Nat → Int) (P : Int → Int) (D W co : Int → Int) (n : Int) : Dy := kD C P D W co 0 0 0 0 n
/-- the best rule's lead -/
def gB (K : Dy) (kind n s st : Int) : Int := ldI K kind n s st 0 (fun _ => 0)
theorem gB_e {K : Dy} {kind n s st hd : Int} {rw : Int → Int} (h : kind ≠ 6) : gB K kind n s st = ldI K kind n s st hd rw := by
  unfold gB ldI
  rw [if_neg h, if_neg h]
noncomputable def whF (C : Nat → Int) (P : Int → Int) (D W co : Int → Int) (st0 : Int) : Nat → Int → Int
  | 0, _ => -5
  | m + 1, n => if 0 < dyT (kB C P D W co n) (gB (kB C P D W co n) 4 0) st0 12 % 9 then n else whF C P D W co st0 m (n + 1)
theorem whF_s (C : Nat → Int) (P : Int → Int) (D W co : Int → Int) (st0 : Int) (m : Nat) (n : Int) : whF C P D W co st0 (m + 1) n = if 0 < dyT (kB C P D W co n) (gB (kB C P D W co n) 4 0) st0 12 % 9 then n else whF C P D W co st0 m (n + 1) := rfl
theorem d10_whit_0 : decode c10_whit 0 = .ok (.aload_n 0, 1) := by decide +kernel
theorem d10_whit_1 : decode c10_whit 1 = .ok (.getfield 13, 3) := by decide +kernel
theorem d10_whit_4 : decode c10_whit 4 = .ok (.ifCond .ge 5, 3) := by decide +kernel
theorem d10_whit_7 : decode c10_whit 7 = .ok (.iconst (-1), 1) := by decide +kernel
theorem d10_whit_8 : decode c10_whit 8 = .ok (.ireturn, 1) := by decide +kernel
theorem d10_whit_9 : decode c10_whit 9 = .ok (.iconst 1, 1) := by decide +kernel
theorem d10_whit_10 : decode c10_whit 10 = .ok (.istore_n 1, 1) := by decide +kernel
theorem d10_whit_11 : decode c10_whit 11 = .ok (.iload_n 1, 1) := by decide +kernel
theorem d10_whit_12 : decode c10_whit 12 = .ok (.bipush 7, 2) := by decide +kernel
theorem d10_whit_14 : decode c10_whit 14 = .ok (.if_icmp .ge 37, 3) := by decide +kernel
theorem d10_whit_17 : decode c10_whit 17 = .ok (.aload_n 0, 1) := by decide +kernel
theorem d10_whit_18 : decode c10_whit 18 = .ok (.iconst 0, 1) := by decide +kernel
theorem d10_whit_19 : decode c10_whit 19 = .ok (.iconst 0, 1) := by decide +kernel
theorem d10_whit_20 : decode c10_whit 20 = .ok (.iconst 0, 1) := by decide +kernel
theorem d10_whit_21 : decode c10_whit 21 = .ok (.iconst 0, 1) := by decide +kernel
theorem d10_whit_22 : decode c10_whit 22 = .ok (.iload_n 1, 1) := by decide +kernel
theorem d10_whit_23 : decode c10_whit 23 = .ok (.invokevirtual 337, 3) := by decide +kernel
theorem d10_whit_26 : decode c10_whit 26 = .ok (.aload_n 0, 1) := by decide +kernel
theorem d10_whit_27 : decode c10_whit 27 = .ok (.iconst 4, 1) := by decide +kernel
theorem d10_whit_28 : decode c10_whit 28 = .ok (.iconst 0, 1) := by decide +kernel
theorem d10_whit_29 : decode c10_whit 29 = .ok (.iconst 0, 1) := by decide +kernel
theorem d10_whit_30 : decode c10_whit 30 = .ok (.invokevirtual 341, 3) := by decide +kernel
theorem d10_whit_33 : decode c10_whit 33 = .ok (.aload_n 0, 1) := by decide +kernel
theorem d10_whit_34 : decode c10_whit 34 = .ok (.getfield 149, 3) := by decide +kernel
theorem d10_whit_37 : decode c10_whit 37 = .ok (.bipush 9, 2) := by decide +kernel
theorem d10_whit_39 : decode c10_whit 39 = .ok (.irem, 1) := by decide +kernel
theorem d10_whit_40 : decode c10_whit 40 = .ok (.ifCond .le 5, 3) := by decide +kernel
theorem d10_whit_43 : decode c10_whit 43 = .ok (.iload_n 1, 1) := by decide +kernel
theorem d10_whit_44 : decode c10_whit 44 = .ok (.ireturn, 1) := by decide +kernel
theorem d10_whit_45 : decode c10_whit 45 = .ok (.iinc 1 1, 3) := by decide +kernel
theorem d10_whit_48 : decode c10_whit 48 = .ok (.goto (-37), 3) := by decide +kernel
theorem d10_whit_51 : decode c10_whit 51 = .ok (.bipush (-5), 2) := by decide +kernel
theorem d10_whit_53 : decode c10_whit 53 = .ok (.ireturn, 1) := by decide +kernel
theorem mw10_whit : MV y10_whit c10_whit 2 (some .int) 0 := ⟨cd10_whit, ini10, na10_whit, im10_whit, se10_whit⟩
set_option maxHeartbeats 4000000 in
set_option maxRecDepth 100000 in
theorem k10_whit (l : Launch) (E : En) (mo : Nat) (ad : Nat → Nat) (S : Nat → Int) (la : Int → Int) (po : Int → Int) (pt : Int → Int) (cl : Int → Int) (wd : Int → Int) (nu : Int → Int) (fo : Int → Int) (to : Int → Int) (sg : Int → Int) (pl : Int → Int) (Fq : Int → Int → Int → Int) (co : Int → Int) (spr : Int → Int) (le : Int → Int) (mk : Int → Int) (wo : Int → Int) (hd : Int → Int) (rw : Int → Int) (pn : Int → Int) (hth : -1 ≤ S 1 ∧ S 1 ≤ 3) (hms : 0 ≤ S 1 → MSum wd nu fo to sg cl Fq (S 1)) (hwm : 0 ≤ S 1 → wfC (cM la po (S 1)) (pM pt (S 1))) (hco : ∀ j, 0 ≤ j → j < 24 → 0 ≤ co j ∧ co j ≤ 6) (hsg : ∀ j, 0 ≤ j → j < 400 → -200 ≤ sg j ∧ sg j ≤ 20000) (hpl : ∀ j, 0 ≤ j → j < 100 → 0 ≤ pl j ∧ pl j ≤ 1) (hw : S 20 = 0 ∨ S 20 = 1) (hmk : ∀ j, 0 ≤ j → j < 43173 → 0 ≤ mk j ∧ mk j ≤ 1) (hfi : 0 ≤ S 21 ∧ S 21 ≤ 40) : Cm l E y10_whit c10_whit 2 (some .int) { frames := 5, cells := 0, slots := 0, locals := 126 } [.ref mo] [(mo, mO ad S), (ad 11, aInt E 36 la), (ad 12, aInt E 4 po), (ad 13, aInt E 20 pt), (ad 6, aInt E 4 cl), (ad 7, aInt E 48 wd), (ad 8, aInt E 48 nu), (ad 9, aInt E 48 fo), (ad 10, aInt E 48 to), (ad 14, aInt E 400 sg), (ad 19, aBoo E 100 pl), (ad 22, aInt E 24 co), (ad 32, aInt E 12 spr), (ad 33, aInt E 588 le), (ad 39, aBoo E 43173 mk), (ad 40, aInt E 43173 wo), (ad 26, aInt E 12 hd), (ad 27, aInt E 144 rw), (ad 47, aInt E 12 pn)] (fun r ws => ∃ (v : Int), ∃ (pl1 : Int → Int), ∃ (sp1 : Int → Int), ∃ (le1 : Int → Int), ∃ (mk1 : Int → Int), ∃ (wo1 : Int → Int), ∃ (pn1 : Int → Int), ∃ (tk1 : Int), ∃ (se1 : Int), ∃ (mx1 : Int), ∃ (ti1 : Int), ∃ (nw : Int), ∃ (lo : Int), ∃ (dn : Int), ∃ (up : Int), ∃ (wa : Int), ∃ (su : Int), ∃ (sd : Int), ∃ (wt : Int), ∃ (sl : Int), ∃ (es : Int), ∃ (tr : Int), r = some (.int (iZ v)) ∧ ws = [(mo, mO ad (upS (upS (upS (upS (upS (upS (upS (upS (upS (upS (upS (upS (upS (upS (upS S 28 tk1) 29 se1) 30 mx1) 31 ti1) 34 nw) 35 lo) 36 dn) 37 up) 38 wa) 41 su) 42 sd) 43 wt) 44 sl) 45 es) 46 tr)), (ad 11, aInt E 36 la), (ad 12, aInt E 4 po), (ad 13, aInt E 20 pt), (ad 6, aInt E 4 cl), (ad 7, aInt E 48 wd), (ad 8, aInt E 48 nu), (ad 9, aInt E 48 fo), (ad 10, aInt E 48 to), (ad 14, aInt E 400 sg), (ad 19, aBoo E 100 pl1), (ad 22, aInt E 24 co), (ad 32, aInt E 12 sp1), (ad 33, aInt E 588 le1), (ad 39, aBoo E 43173 mk1), (ad 40, aInt E 43173 wo1), (ad 26, aInt E 12 hd), (ad 27, aInt E 144 rw), (ad 47, aInt E 12 pn1)] ∧ (v = (if ¬ S 1 < 0 then whF (cM la po (S 1)) (pM pt (S 1)) (fun s => smM wd nu cl Fq (S 1) 3 s (S 20)) (fun s => smM wd nu cl Fq (S 1) 7 s (S 20)) co (81 * S 21) 6 1 else -1) ∧ (∀ j, 0 ≤ j → j < 100 → 0 ≤ pl1 j ∧ pl1 j ≤ 1) ∧ (∀ j, 0 ≤ j → j < 43173 → 0 ≤ mk1 j ∧ mk1 j ≤ 1))) := by
  refine Cm.of (by decide +kernel) (Nat.le_of_ble_eq_true rfl) (fun Γ A hl hargs hin G F => ?_)
  subst hl
  refine j_aload_n G 0 rfl d10_whit_0 ?_
  refine j_get G 0 10 1 in10 fl10_13 d10_whit_1 rfl rfl (by decide) (v := .int (iZ (S 1))) rfl rfl ?_
  refine j_if_ge (tgt := 9) G d10_whit_4 (by decide) (by omega) (fun h1 => ?_) (fun h1 => ?_)
  ·
    have hms1 := hms (by omega)
    have hwm1 := hwm (by omega)
    have hpd : 0 ≤ la (9 * S 1 + 8) ∧ la (9 * S 1 + 8) ≤ 40 := hwm1.2.2.2.2.2.2.2
    refine j_iconst G d10_whit_9 ?_
    refine j_istore_n G d10_whit_10 (by decide) rfl ?_
    refine j_eq (ws' := [(mo, mO ad (upS (upS (upS (upS (upS (upS (upS (upS (upS (upS (upS (upS (upS (upS (upS S 28 (S 28)) 29 (S 29)) 30 (S 30)) 31 (S 31)) 34 (S 34)) 35 (S 35)) 36 (S 36)) 37 (S 37)) 38 (S 38)) 41 (S 41)) 42 (S 42)) 43 (S 43)) 44 (S 44)) 45 (S 45)) 46 (S 46))), (ad 11, aInt E 36 la), (ad 12, aInt E 4 po), (ad 13, aInt E 20 pt), (ad 6, aInt E 4 cl), (ad 7, aInt E 48 wd), (ad 8, aInt E 48 nu), (ad 9, aInt E 48 fo), (ad 10, aInt E 48 to), (ad 14, aInt E 400 sg), (ad 19, aBoo E 100 pl), (ad 22, aInt E 24 co), (ad 32, aInt E 12 spr), (ad 33, aInt E 588 le), (ad 39, aBoo E 43173 mk), (ad 40, aInt E 43173 wo), (ad 26, aInt E 12 hd), (ad 27, aInt E 144 rw), (ad 47, aInt E 12 pn)]) rfl rfl rfl ?_
    have lp11 : ∀ (fu : Nat) (t : Int) (pl2 : Int → Int) (sp2 : Int → Int) (le2 : Int → Int) (mk2 : Int → Int) (wo2 : Int → Int) (pn2 : Int → Int) (tk12 : Int) (se12 : Int) (mx12 : Int) (ti12 : Int) (nw2 : Int) (lo2 : Int) (dn2 : Int) (up2 : Int) (wa2 : Int) (su2 : Int) (sd2 : Int) (wt2 : Int) (sl2 : Int) (es2 : Int) (tr2 : Int), (7 - t).toNat < fu → (1 ≤ t ∧ t ≤ 7) → (∀ j, 0 ≤ j → j < 100 → 0 ≤ pl2 j ∧ pl2 j ≤ 1) → (∀ j, 0 ≤ j → j < 43173 → 0 ≤ mk2 j ∧ mk2 j ≤ 1) → (whF (cM la po (S 1)) (pM pt (S 1)) (fun s => smM wd nu cl Fq (S 1) 3 s (S 20)) (fun s => smM wd nu cl Fq (S 1) 7 s (S 20)) co (81 * S 21) 6 1 = whF (cM la po (S 1)) (pM pt (S 1)) (fun s => smM wd nu cl Fq (S 1) 3 s (S 20)) (fun s => smM wd nu cl Fq (S 1) 7 s (S 20)) co (81 * S 21) (7 - t).toNat t) →  J E 2 Γ (some A) 0 0 [(mo, mO ad (upS (upS (upS (upS (upS (upS (upS (upS (upS (upS (upS (upS (upS (upS (upS S 28 tk12) 29 se12) 30 mx12) 31 ti12) 34 nw2) 35 lo2) 36 dn2) 37 up2) 38 wa2) 41 su2) 42 sd2) 43 wt2) 44 sl2) 45 es2) 46 tr2)), (ad 11, aInt E 36 la), (ad 12, aInt E 4 po), (ad 13, aInt E 20 pt), (ad 6, aInt E 4 cl), (ad 7, aInt E 48 wd), (ad 8, aInt E 48 nu), (ad 9, aInt E 48 fo), (ad 10, aInt E 48 to), (ad 14, aInt E 400 sg), (ad 19, aBoo E 100 pl2), (ad 22, aInt E 24 co), (ad 32, aInt E 12 sp2), (ad 33, aInt E 588 le2), (ad 39, aBoo E 43173 mk2), (ad 40, aInt E 43173 wo2), (ad 26, aInt E 12 hd), (ad 27, aInt E 144 rw), (ad 47, aInt E 12 pn2)] 11 [(1, .int (iZ t)), (0, .ref mo)] [] := by
      intro fu
      induction fu with
      | zero =>
        intro t pl2 sp2 le2 mk2 wo2 pn2 tk12 se12 mx12 ti12 nw2 lo2 dn2 up2 wa2 su2 sd2 wt2 sl2 es2 tr2 hm
        exact absurd hm (Nat.not_lt_zero _)
      | succ fu ih11 =>
        intro t pl2 sp2 le2 mk2 wo2 pn2 tk12 se12 mx12 ti12 nw2 lo2 dn2 up2 wa2 su2 sd2 wt2 sl2 es2 tr2 hm ht hpl2 hmk2 hw
        refine j_iload_n G 0 rfl d10_whit_11 ?_
        refine j_bipush G d10_whit_12 rfl ?_
        refine j_icmp_ge (tgt := 51) G d10_whit_14 (by decide) (by omega) (by decide) (fun h2 => ?_) (fun h2 => ?_)
        ·
          refine j_bipush G d10_whit_51 rfl ?_
          exact j_iret G F d10_whit_53 ⟨(-5), pl2, sp2, le2, mk2, wo2, pn2, tk12, se12, mx12, ti12, nw2, lo2, dn2, up2, wa2, su2, sd2, wt2, sl2, es2, tr2, rfl, rfl, (by first | exact ⟨(if_neg (by omega)).symm, hpl, hmk⟩ | exact ⟨by rw [if_pos (by omega), hw, show (7 - t).toNat = (7 - (t + 1)).toNat + 1 by omega, whF_s, ← hF, if_pos (by omega)], hpl1, hvm⟩ | exact ⟨by rw [if_pos (by omega), hw, show (7 - t).toNat = 0 by omega]; rfl, hpl2, hmk2⟩)⟩
        ·
          refine j_aload_n G 1 rfl d10_whit_17 ?_
          refine j_iconst G d10_whit_18 ?_
          refine j_iconst G d10_whit_19 ?_
          refine j_iconst G d10_whit_20 ?_
          refine j_iconst G d10_whit_21 ?_
          refine j_iload_n G 0 rfl d10_whit_22 ?_
          refine j_VM G (rm' := { frames := 4, cells := 0, slots := 0, locals := 98 }) (wc := [(mo, mO ad (upS (upS (upS (upS (upS (upS (upS (upS (upS (upS (upS (upS (upS (upS (upS S 28 tk12) 29 se12) 30 mx12) 31 ti12) 34 nw2) 35 lo2) 36 dn2) 37 up2) 38 wa2) 41 su2) 42 sd2) 43 wt2) 44 sl2) 45 es2) 46 tr2)), (ad 11, aInt E 36 la), (ad 12, aInt E 4 po), (ad 13, aInt E 20 pt), (ad 6, aInt E 4 cl), (ad 7, aInt E 48 wd), (ad 8, aInt E 48 nu), (ad 9, aInt E 48 fo), (ad 10, aInt E 48 to), (ad 14, aInt E 400 sg), (ad 19, aBoo E 100 pl2), (ad 22, aInt E 24 co), (ad 32, aInt E 12 sp2), (ad 33, aInt E 588 le2)]) (wr := [(ad 39, aBoo E 43173 mk2), (ad 40, aInt E 43173 wo2), (ad 26, aInt E 12 hd), (ad 27, aInt E 144 rw), (ad 47, aInt E 12 pn2)]) (k10_layDay (xl Γ) E mo ad (upS (upS (upS (upS (upS (upS (upS (upS (upS (upS (upS (upS (upS (upS (upS S 28 tk12) 29 se12) 30 mx12) 31 ti12) 34 nw2) 35 lo2) 36 dn2) 37 up2) 38 wa2) 41 su2) 42 sd2) 43 wt2) 44 sl2) 45 es2) 46 tr2) la po pt cl wd nu fo to sg pl2 Fq co sp2 le2 0 0 0 0 t (by first | assumption | omega | (simp only [upS, reduceIte, Nat.reduceEqDiff, eq_self, List.length_cons, List.length_nil, List.length_append] <;> omega)) (by first | assumption | omega | (simp only [upS, reduceIte, Nat.reduceEqDiff, eq_self, List.length_cons, List.length_nil, List.length_append] <;> omega)) (by first | assumption | omega | (simp only [upS, reduceIte, Nat.reduceEqDiff, eq_self, List.length_cons, List.length_nil, List.length_append] <;> omega)) (by first | assumption | omega | (simp only [upS, reduceIte, Nat.reduceEqDiff, eq_self, List.length_cons, List.length_nil, List.length_append] <;> omega)) (by first | assumption | omega | (simp only [upS, reduceIte, Nat.reduceEqDiff, eq_self, List.length_cons, List.length_nil, List.length_append] <;> omega)) (by first | assumption | omega | (simp only [upS, reduceIte, Nat.reduceEqDiff, eq_self, List.length_cons, List.length_nil, List.length_append] <;> omega)) (by first | assumption | omega | (simp only [upS, reduceIte, Nat.reduceEqDiff, eq_self, List.length_cons, List.length_nil, List.length_append] <;> omega)) (by first | assumption | omega | (simp only [upS, reduceIte, Nat.reduceEqDiff, eq_self, List.length_cons, List.length_nil, List.length_append] <;> omega)) (by first | assumption | omega | (simp only [upS, reduceIte, Nat.reduceEqDiff, eq_self, List.length_cons, List.length_nil, List.length_append] <;> omega)) (by first | assumption | omega | (simp only [upS, reduceIte, Nat.reduceEqDiff, eq_self, List.length_cons, List.length_nil, List.length_append] <;> omega)) (by first | assumption | omega | (simp only [upS, reduceIte, Nat.reduceEqDiff, eq_self, List.length_cons, List.length_nil, List.length_append] <;> omega)) (by first | assumption | omega | (simp only [upS, reduceIte, Nat.reduceEqDiff, eq_self, List.length_cons, List.length_nil, List.length_append] <;> omega)) (by first | assumption | omega | (simp only [upS, reduceIte, Nat.reduceEqDiff, eq_self, List.length_cons, List.length_nil, List.length_append] <;> omega))) mw10_layDay ml10_337 [0, 1, 2, 3, 4, 5, 6, 7, 8, 9, 10, 11, 12, 13] [14, 15, 16, 17, 18] rfl rfl ⟨rfl, rfl⟩ (by decide) 0 10 rfl rfl rfl ⟨Nat.le_of_ble_eq_true rfl, Nat.le_of_ble_eq_true rfl⟩ rfl (rest := []) rfl (Nat.le_of_ble_eq_true rfl) d10_whit_23 ⟨Nat.le_of_ble_eq_true rfl, Nat.le_of_ble_eq_true rfl⟩ (fun r w1 hr => ?_)
          obtain ⟨pl1_4, sp1_5, le1_6, tk1_7, se1_8, mx1_9, rfl, rfl, ⟨hq3_0, hq3_1⟩⟩ := hr
          refine j_eq (ws' := [(ad 39, aBoo E 43173 mk2), (ad 40, aInt E 43173 wo2), (ad 26, aInt E 12 hd), (ad 27, aInt E 144 rw), (ad 47, aInt E 12 pn2), (mo, mO ad (upS (upS (upS (upS (upS (upS (upS (upS (upS (upS (upS (upS (upS (upS (upS S 34 nw2) 35 lo2) 36 dn2) 37 up2) 38 wa2) 41 su2) 42 sd2) 43 wt2) 44 sl2) 45 es2) 46 tr2) 28 tk1_7) 29 se1_8) 30 mx1_9) 31 t)), (ad 11, aInt E 36 la), (ad 12, aInt E 4 po), (ad 13, aInt E 20 pt), (ad 6, aInt E 4 cl), (ad 7, aInt E 48 wd), (ad 8, aInt E 48 nu), (ad 9, aInt E 48 fo), (ad 10, aInt E 48 to), (ad 14, aInt E 400 sg), (ad 19, aBoo E 100 pl1_4), (ad 22, aInt E 24 co), (ad 32, aInt E 12 sp1_5), (ad 33, aInt E 588 le1_6)]) rfl rfl rfl ?_
          try simp only [upS, reduceIte, Nat.reduceEqDiff, eq_self] at hq3_0 hq3_1
          have hly : Lay (kB (cM la po (S 1)) (pM pt (S 1)) (fun s => smM wd nu cl Fq (S 1) 3 s (S 20)) (fun s => smM wd nu cl Fq (S 1) 7 s (S 20)) co t) tk1_7 se1_8 mx1_9 t sp1_5 le1_6 co := hq3_0
          have hpl1 := hq3_1
          refine j_aload_n G 1 rfl d10_whit_26 ?_
          refine j_iconst G d10_whit_27 ?_
          refine j_iconst G d10_whit_28 ?_
          refine j_iconst G d10_whit_29 ?_
          refine j_VM G (rm' := { frames := 3, cells := 0, slots := 0, locals := 74 }) (wc := [(mo, mO ad (upS (upS (upS (upS (upS (upS (upS (upS (upS (upS (upS (upS (upS (upS (upS S 34 nw2) 35 lo2) 36 dn2) 37 up2) 38 wa2) 41 su2) 42 sd2) 43 wt2) 44 sl2) 45 es2) 46 tr2) 28 tk1_7) 29 se1_8) 30 mx1_9) 31 t)), (ad 22, aInt E 24 co), (ad 32, aInt E 12 sp1_5), (ad 33, aInt E 588 le1_6), (ad 39, aBoo E 43173 mk2), (ad 40, aInt E 43173 wo2), (ad 26, aInt E 12 hd), (ad 27, aInt E 144 rw), (ad 47, aInt E 12 pn2)]) (wr := [(ad 11, aInt E 36 la), (ad 12, aInt E 4 po), (ad 13, aInt E 20 pt), (ad 6, aInt E 4 cl), (ad 7, aInt E 48 wd), (ad 8, aInt E 48 nu), (ad 9, aInt E 48 fo), (ad 10, aInt E 48 to), (ad 14, aInt E 400 sg), (ad 19, aBoo E 100 pl1_4)]) (k10_goDay (xl Γ) E mo ad (upS (upS (upS (upS (upS (upS (upS (upS (upS (upS (upS (upS (upS (upS (upS S 34 nw2) 35 lo2) 36 dn2) 37 up2) 38 wa2) 41 su2) 42 sd2) 43 wt2) 44 sl2) 45 es2) 46 tr2) 28 tk1_7) 29 se1_8) 30 mx1_9) 31 t) co sp1_5 le1_6 mk2 wo2 hd rw pn2 (kB (cM la po (S 1)) (pM pt (S 1)) (fun s => smM wd nu cl Fq (S 1) 3 s (S 20)) (fun s => smM wd nu cl Fq (S 1) 7 s (S 20)) co t) (gB (kB (cM la po (S 1)) (pM pt (S 1)) (fun s => smM wd nu cl Fq (S 1) 3 s (S 20)) (fun s => smM wd nu cl Fq (S 1) 7 s (S 20)) co t) 4 0) 4 0 0 (by first | assumption | omega | (simp only [upS, reduceIte, Nat.reduceEqDiff, eq_self, List.length_cons, List.length_nil, List.length_append] <;> omega)) (by first | assumption | omega | (simp only [upS, reduceIte, Nat.reduceEqDiff, eq_self, List.length_cons, List.length_nil, List.length_append] <;> omega)) (by first | assumption | omega | (simp only [upS, reduceIte, Nat.reduceEqDiff, eq_self, List.length_cons, List.length_nil, List.length_append] <;> omega)) (by first | assumption | omega | (simp only [upS, reduceIte, Nat.reduceEqDiff, eq_self, List.length_cons, List.length_nil, List.length_append] <;> omega)) (fun q => absurd q (by decide)) (by first | assumption | omega | (simp only [upS, reduceIte, Nat.reduceEqDiff, eq_self, List.length_cons, List.length_nil, List.length_append] <;> omega)) (fun _ _ => gB_e (by decide)) (by first | assumption | omega | (simp only [upS, reduceIte, Nat.reduceEqDiff, eq_self, List.length_cons, List.length_nil, List.length_append] <;> omega))) mw10_goDay ml10_341 [5, 16, 17, 18, 0, 1, 2, 3, 4] [6, 7, 8, 9, 10, 11, 12, 13, 14, 15] rfl rfl ⟨rfl, rfl⟩ (by decide) 5 10 rfl rfl rfl ⟨Nat.le_of_ble_eq_true rfl, Nat.le_of_ble_eq_true rfl⟩ rfl (rest := []) rfl (Nat.le_of_ble_eq_true rfl) d10_whit_30 ⟨Nat.le_of_ble_eq_true rfl, Nat.le_of_ble_eq_true rfl⟩ (fun r w1 hr => ?_)
          obtain ⟨mk1_11, wo1_12, pn1_13, nw_14, lo_15, dn_16, up_17, wa_18, su_19, sd_20, wt_21, sl_22, es_23, tr_24, rfl, rfl, ⟨hq10_0, hq10_1, hq10_2, hq10_3, hq10_4, hq10_5, hq10_6, hq10_7⟩⟩ := hr
          refine j_eq (ws' := [(ad 11, aInt E 36 la), (ad 12, aInt E 4 po), (ad 13, aInt E 20 pt), (ad 6, aInt E 4 cl), (ad 7, aInt E 48 wd), (ad 8, aInt E 48 nu), (ad 9, aInt E 48 fo), (ad 10, aInt E 48 to), (ad 14, aInt E 400 sg), (ad 19, aBoo E 100 pl1_4), (mo, mO ad (upS (upS (upS (upS (upS (upS (upS (upS (upS (upS (upS (upS (upS (upS (upS S 28 tk1_7) 29 se1_8) 30 mx1_9) 31 t) 34 nw_14) 35 lo_15) 36 dn_16) 37 up_17) 38 wa_18) 41 su_19) 42 sd_20) 43 wt_21) 44 sl_22) 45 es_23) 46 tr_24)), (ad 22, aInt E 24 co), (ad 32, aInt E 12 sp1_5), (ad 33, aInt E 588 le1_6), (ad 39, aBoo E 43173 mk1_11), (ad 40, aInt E 43173 wo1_12), (ad 26, aInt E 12 hd), (ad 27, aInt E 144 rw), (ad 47, aInt E 12 pn1_13)]) rfl rfl rfl ?_
          try simp only [upS, reduceIte, Nat.reduceEqDiff, eq_self] at hq10_0 hq10_1 hq10_2 hq10_3 hq10_4 hq10_5 hq10_6 hq10_7
          have hF := hq10_5
          have hvm := hq10_7
          have hTr := dyT_r (g := (gB (kB (cM la po (S 1)) (pM pt (S 1)) (fun s => smM wd nu cl Fq (S 1) 3 s (S 20)) (fun s => smM wd nu cl Fq (S 1) 7 s (S 20)) co t) 4 0)) hly.2.2.2.2.1 (st0 := 81 * S 21) (by omega) 12 (Nat.le_refl 12)
          rw [← hF] at hTr
          refine j_aload_n G 1 rfl d10_whit_33 ?_
          refine j_get G 10 10 45 in10 fl10_149 d10_whit_34 rfl rfl (by decide) (v := .int (iZ es_23)) rfl rfl ?_
          refine j_bipush G d10_whit_37 rfl ?_
          refine j_irem G d10_whit_39 (by omega) ?_
          refine j_if_le (tgt := 45) G d10_whit_40 (by decide) (by omega) (fun h25 => ?_) (fun h25 => ?_)
          ·
            refine j_iinc G d10_whit_45 0 rfl (by decide) rfl ?_
            refine j_goto (tgt := 11) G d10_whit_48 (by decide) ?_
            refine j_perm (ws' := [(mo, mO ad (upS (upS (upS (upS (upS (upS (upS (upS (upS (upS (upS (upS (upS (upS (upS S 28 tk1_7) 29 se1_8) 30 mx1_9) 31 t) 34 nw_14) 35 lo_15) 36 dn_16) 37 up_17) 38 wa_18) 41 su_19) 42 sd_20) 43 wt_21) 44 sl_22) 45 es_23) 46 tr_24)), (ad 11, aInt E 36 la), (ad 12, aInt E 4 po), (ad 13, aInt E 20 pt), (ad 6, aInt E 4 cl), (ad 7, aInt E 48 wd), (ad 8, aInt E 48 nu), (ad 9, aInt E 48 fo), (ad 10, aInt E 48 to), (ad 14, aInt E 400 sg), (ad 19, aBoo E 100 pl1_4), (ad 22, aInt E 24 co), (ad 32, aInt E 12 sp1_5), (ad 33, aInt E 588 le1_6), (ad 39, aBoo E 43173 mk1_11), (ad 40, aInt E 43173 wo1_12), (ad 26, aInt E 12 hd), (ad 27, aInt E 144 rw), (ad 47, aInt E 12 pn1_13)]) [10, 0, 1, 2, 3, 4, 5, 6, 7, 8, 9, 11, 12, 13, 14, 15, 16, 17, 18] rfl rfl rfl ?_
            exact ih11 (t + 1) pl1_4 sp1_5 le1_6 mk1_11 wo1_12 pn1_13 tk1_7 se1_8 mx1_9 t nw_14 lo_15 dn_16 up_17 wa_18 su_19 sd_20 wt_21 sl_22 es_23 tr_24 (by omega) (by first | assumption | omega) hpl1 hvm (by rw [hw, show (7 - t).toNat = (7 - (t + 1)).toNat + 1 by omega, whF_s, ← hF, if_neg (by omega)])
          ·
            refine j_iload_n G 0 rfl d10_whit_43 ?_
            refine j_perm (ws' := [(mo, mO ad (upS (upS (upS (upS (upS (upS (upS (upS (upS (upS (upS (upS (upS (upS (upS S 28 tk1_7) 29 se1_8) 30 mx1_9) 31 t) 34 nw_14) 35 lo_15) 36 dn_16) 37 up_17) 38 wa_18) 41 su_19) 42 sd_20) 43 wt_21) 44 sl_22) 45 es_23) 46 tr_24)), (ad 11, aInt E 36 la), (ad 12, aInt E 4 po), (ad 13, aInt E 20 pt), (ad 6, aInt E 4 cl), (ad 7, aInt E 48 wd), (ad 8, aInt E 48 nu), (ad 9, aInt E 48 fo), (ad 10, aInt E 48 to), (ad 14, aInt E 400 sg), (ad 19, aBoo E 100 pl1_4), (ad 22, aInt E 24 co), (ad 32, aInt E 12 sp1_5), (ad 33, aInt E 588 le1_6), (ad 39, aBoo E 43173 mk1_11), (ad 40, aInt E 43173 wo1_12), (ad 26, aInt E 12 hd), (ad 27, aInt E 144 rw), (ad 47, aInt E 12 pn1_13)]) [10, 0, 1, 2, 3, 4, 5, 6, 7, 8, 9, 11, 12, 13, 14, 15, 16, 17, 18] rfl rfl rfl ?_
            exact j_iret G F d10_whit_44 ⟨t, pl1_4, sp1_5, le1_6, mk1_11, wo1_12, pn1_13, tk1_7, se1_8, mx1_9, t, nw_14, lo_15, dn_16, up_17, wa_18, su_19, sd_20, wt_21, sl_22, es_23, tr_24, rfl, rfl, (by first | exact ⟨(if_neg (by omega)).symm, hpl, hmk⟩ | exact ⟨by rw [if_pos (by omega), hw, show (7 - t).toNat = (7 - (t + 1)).toNat + 1 by omega, whF_s, ← hF, if_pos (by omega)], hpl1, hvm⟩ | exact ⟨by rw [if_pos (by omega), hw, show (7 - t).toNat = 0 by omega]; rfl, hpl2, hmk2⟩)⟩
    exact lp11 _ 1 pl spr le mk wo pn (S 28) (S 29) (S 30) (S 31) (S 34) (S 35) (S 36) (S 37) (S 38) (S 41) (S 42) (S 43) (S 44) (S 45) (S 46) (Nat.lt_succ_self _) (by first | assumption | omega) hpl hmk rfl
  ·
    refine j_iconst G d10_whit_7 ?_
    exact j_iret G F d10_whit_8 ⟨(-1), pl, spr, le, mk, wo, pn, (S 28), (S 29), (S 30), (S 31), (S 34), (S 35), (S 36), (S 37), (S 38), (S 41), (S 42), (S 43), (S 44), (S 45), (S 46), rfl, rfl, (by first | exact ⟨(if_neg (by omega)).symm, hpl, hmk⟩ | exact ⟨by rw [if_pos (by omega), hw, show (7 - t).toNat = (7 - (t + 1)).toNat + 1 by omega, whF_s, ← hF, if_pos (by omega)], hpl1, hvm⟩ | exact ⟨by rw [if_pos (by omega), hw, show (7 - t).toNat = 0 by omega]; rfl, hpl2, hmk2⟩)⟩
