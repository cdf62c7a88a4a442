def dayN (K : Dy) (g : Int → Int → Int) (st0 a : Int) : Int := if a = 0 then dyA K g st0 (dUp K) 12 else if a = 1 then dyA K g st0 (dDn K) 12 else if a = 2 then dyQ K g st0 12 else if a = 3 then dyL K g st0 12 else if a = 4 then dyT K g st0 12 / 81 else if a = 5 then dyA K g st0 (fun _ _ => 1) 12 else dyP K g st0 (a - 10)
/-- what a trip now gains -/
def waN (K : Dy) (s st a : Int) : Int := if a = 0 then Vn K 0 s st else if dCan K s st 0 then 100 * dUp K s st + Vn K 0 (s + 1) (dGone K s st) - Vn K 0 (s + 1) (dNow K s st) else -99999
theorem d10_waits_0 : decode c10_waits 0 = .ok (.aload_n 0, 1) := by decide +kernel
theorem d10_waits_1 : decode c10_waits 1 = .ok (.getfield 13, 3) := by decide +kernel
theorem d10_waits_4 : decode c10_waits 4 = .ok (.ifCond .lt 60, 3) := by decide +kernel
theorem d10_waits_7 : decode c10_waits 7 = .ok (.aload_n 0, 1) := by decide +kernel
theorem d10_waits_8 : decode c10_waits 8 = .ok (.iload_n 1, 1) := by decide +kernel
theorem d10_waits_9 : decode c10_waits 9 = .ok (.invokevirtual 293, 3) := by decide +kernel
theorem d10_waits_12 : decode c10_waits 12 = .ok (.ifCond .eq 52, 3) := by decide +kernel
theorem d10_waits_15 : decode c10_waits 15 = .ok (.aload_n 0, 1) := by decide +kernel
theorem d10_waits_16 : decode c10_waits 16 = .ok (.iload_n 2, 1) := by decide +kernel
theorem d10_waits_17 : decode c10_waits 17 = .ok (.iconst 0, 1) := by decide +kernel
theorem d10_waits_18 : decode c10_waits 18 = .ok (.aload_n 0, 1) := by decide +kernel
theorem d10_waits_19 : decode c10_waits 19 = .ok (.bipush 8, 2) := by decide +kernel
theorem d10_waits_21 : decode c10_waits 21 = .ok (.invokevirtual 286, 3) := by decide +kernel
theorem d10_waits_24 : decode c10_waits 24 = .ok (.invokevirtual 219, 3) := by decide +kernel
theorem d10_waits_27 : decode c10_waits 27 = .ok (.ifCond .eq 37, 3) := by decide +kernel
theorem d10_waits_30 : decode c10_waits 30 = .ok (.aload_n 0, 1) := by decide +kernel
theorem d10_waits_31 : decode c10_waits 31 = .ok (.iload_n 3, 1) := by decide +kernel
theorem d10_waits_32 : decode c10_waits 32 = .ok (.iconst 0, 1) := by decide +kernel
theorem d10_waits_33 : decode c10_waits 33 = .ok (.bipush 8, 2) := by decide +kernel
theorem d10_waits_35 : decode c10_waits 35 = .ok (.invokevirtual 219, 3) := by decide +kernel
theorem d10_waits_38 : decode c10_waits 38 = .ok (.ifCond .eq 26, 3) := by decide +kernel
theorem d10_waits_41 : decode c10_waits 41 = .ok (.aload_n 0, 1) := by decide +kernel
theorem d10_waits_42 : decode c10_waits 42 = .ok (.iload 4, 2) := by decide +kernel
theorem d10_waits_44 : decode c10_waits 44 = .ok (.iconst 0, 1) := by decide +kernel
theorem d10_waits_45 : decode c10_waits 45 = .ok (.bipush 8, 2) := by decide +kernel
theorem d10_waits_47 : decode c10_waits 47 = .ok (.invokevirtual 219, 3) := by decide +kernel
theorem d10_waits_50 : decode c10_waits 50 = .ok (.ifCond .eq 14, 3) := by decide +kernel
theorem d10_waits_53 : decode c10_waits 53 = .ok (.aload_n 0, 1) := by decide +kernel
theorem d10_waits_54 : decode c10_waits 54 = .ok (.iload 5, 2) := by decide +kernel
theorem d10_waits_56 : decode c10_waits 56 = .ok (.iconst 0, 1) := by decide +kernel
theorem d10_waits_57 : decode c10_waits 57 = .ok (.iconst 1, 1) := by decide +kernel
theorem d10_waits_58 : decode c10_waits 58 = .ok (.invokevirtual 219, 3) := by decide +kernel
theorem d10_waits_61 : decode c10_waits 61 = .ok (.ifCond .ne 7, 3) := by decide +kernel
theorem d10_waits_64 : decode c10_waits 64 = .ok (.ldc2_w 310, 3) := by decide +kernel
theorem d10_waits_67 : decode c10_waits 67 = .ok (.lreturn, 1) := by decide +kernel
theorem d10_waits_68 : decode c10_waits 68 = .ok (.aload_n 0, 1) := by decide +kernel
theorem d10_waits_69 : decode c10_waits 69 = .ok (.iconst 0, 1) := by decide +kernel
theorem d10_waits_70 : decode c10_waits 70 = .ok (.iconst 0, 1) := by decide +kernel
theorem d10_waits_71 : decode c10_waits 71 = .ok (.iconst 0, 1) := by decide +kernel
theorem d10_waits_72 : decode c10_waits 72 = .ok (.iconst 0, 1) := by decide +kernel
theorem d10_waits_73 : decode c10_waits 73 = .ok (.iconst 1, 1) := by decide +kernel
theorem d10_waits_74 : decode c10_waits 74 = .ok (.invokevirtual 337, 3) := by decide +kernel
theorem d10_waits_77 : decode c10_waits 77 = .ok (.bipush 81, 2) := by decide +kernel
theorem d10_waits_79 : decode c10_waits 79 = .ok (.iload_n 2, 1) := by decide +kernel
theorem d10_waits_80 : decode c10_waits 80 = .ok (.imul, 1) := by decide +kernel
theorem d10_waits_81 : decode c10_waits 81 = .ok (.bipush 9, 2) := by decide +kernel
theorem d10_waits_83 : decode c10_waits 83 = .ok (.iload_n 3, 1) := by decide +kernel
theorem d10_waits_84 : decode c10_waits 84 = .ok (.imul, 1) := by decide +kernel
theorem d10_waits_85 : decode c10_waits 85 = .ok (.iadd, 1) := by decide +kernel
theorem d10_waits_86 : decode c10_waits 86 = .ok (.iload 4, 2) := by decide +kernel
theorem d10_waits_88 : decode c10_waits 88 = .ok (.iadd, 1) := by decide +kernel
theorem d10_waits_89 : decode c10_waits 89 = .ok (.istore 6, 2) := by decide +kernel
theorem d10_waits_91 : decode c10_waits 91 = .ok (.aload_n 0, 1) := by decide +kernel
theorem d10_waits_92 : decode c10_waits 92 = .ok (.iload_n 1, 1) := by decide +kernel
theorem d10_waits_93 : decode c10_waits 93 = .ok (.iload 6, 2) := by decide +kernel
theorem d10_waits_95 : decode c10_waits 95 = .ok (.iconst 0, 1) := by decide +kernel
theorem d10_waits_96 : decode c10_waits 96 = .ok (.invokevirtual 329, 3) := by decide +kernel
theorem d10_waits_99 : decode c10_waits 99 = .ok (.istore 7, 2) := by decide +kernel
theorem d10_waits_101 : decode c10_waits 101 = .ok (.iload 5, 2) := by decide +kernel
theorem d10_waits_103 : decode c10_waits 103 = .ok (.ifCond .ne 7, 3) := by decide +kernel
theorem d10_waits_106 : decode c10_waits 106 = .ok (.iload 7, 2) := by decide +kernel
theorem d10_waits_108 : decode c10_waits 108 = .ok (.i2l, 1) := by decide +kernel
theorem d10_waits_109 : decode c10_waits 109 = .ok (.lreturn, 1) := by decide +kernel
theorem d10_waits_110 : decode c10_waits 110 = .ok (.aload_n 0, 1) := by decide +kernel
theorem d10_waits_111 : decode c10_waits 111 = .ok (.iload_n 1, 1) := by decide +kernel
theorem d10_waits_112 : decode c10_waits 112 = .ok (.iload 6, 2) := by decide +kernel
theorem d10_waits_114 : decode c10_waits 114 = .ok (.invokevirtual 318, 3) := by decide +kernel
theorem d10_waits_117 : decode c10_waits 117 = .ok (.aload_n 0, 1) := by decide +kernel
theorem d10_waits_118 : decode c10_waits 118 = .ok (.iconst 0, 1) := by decide +kernel
theorem d10_waits_119 : decode c10_waits 119 = .ok (.invokevirtual 322, 3) := by decide +kernel
theorem d10_waits_122 : decode c10_waits 122 = .ok (.ifCond .ne 7, 3) := by decide +kernel
theorem d10_waits_125 : decode c10_waits 125 = .ok (.ldc2_w 345, 3) := by decide +kernel
theorem d10_waits_128 : decode c10_waits 128 = .ok (.lreturn, 1) := by decide +kernel
theorem d10_waits_129 : decode c10_waits 129 = .ok (.ldc2_w 347, 3) := by decide +kernel
theorem d10_waits_132 : decode c10_waits 132 = .ok (.aload_n 0, 1) := by decide +kernel
theorem d10_waits_133 : decode c10_waits 133 = .ok (.getfield 124, 3) := by decide +kernel
theorem d10_waits_136 : decode c10_waits 136 = .ok (.i2l, 1) := by decide +kernel
theorem d10_waits_137 : decode c10_waits 137 = .ok (.lmul, 1) := by decide +kernel
theorem d10_waits_138 : decode c10_waits 138 = .ok (.aload_n 0, 1) := by decide +kernel
theorem d10_waits_139 : decode c10_waits 139 = .ok (.getfield 134, 3) := by decide +kernel
theorem d10_waits_142 : decode c10_waits 142 = .ok (.sipush 3321, 3) := by decide +kernel
theorem d10_waits_145 : decode c10_waits 145 = .ok (.iload_n 1, 1) := by decide +kernel
theorem d10_waits_146 : decode c10_waits 146 = .ok (.iconst 1, 1) := by decide +kernel
theorem d10_waits_147 : decode c10_waits 147 = .ok (.iadd, 1) := by decide +kernel
theorem d10_waits_148 : decode c10_waits 148 = .ok (.imul, 1) := by decide +kernel
theorem d10_waits_149 : decode c10_waits 149 = .ok (.aload_n 0, 1) := by decide +kernel
theorem d10_waits_150 : decode c10_waits 150 = .ok (.invokevirtual 325, 3) := by decide +kernel
theorem d10_waits_153 : decode c10_waits 153 = .ok (.iadd, 1) := by decide +kernel
theorem d10_waits_154 : decode c10_waits 154 = .ok (.iaload, 1) := by decide +kernel
theorem d10_waits_155 : decode c10_waits 155 = .ok (.i2l, 1) := by decide +kernel
theorem d10_waits_156 : decode c10_waits 156 = .ok (.ladd, 1) := by decide +kernel
theorem d10_waits_157 : decode c10_waits 157 = .ok (.aload_n 0, 1) := by decide +kernel
theorem d10_waits_158 : decode c10_waits 158 = .ok (.getfield 134, 3) := by decide +kernel
theorem d10_waits_161 : decode c10_waits 161 = .ok (.sipush 3321, 3) := by decide +kernel
theorem d10_waits_164 : decode c10_waits 164 = .ok (.iload_n 1, 1) := by decide +kernel
theorem d10_waits_165 : decode c10_waits 165 = .ok (.iconst 1, 1) := by decide +kernel
theorem d10_waits_166 : decode c10_waits 166 = .ok (.iadd, 1) := by decide +kernel
theorem d10_waits_167 : decode c10_waits 167 = .ok (.imul, 1) := by decide +kernel
theorem d10_waits_168 : decode c10_waits 168 = .ok (.aload_n 0, 1) := by decide +kernel
theorem d10_waits_169 : decode c10_waits 169 = .ok (.getfield 115, 3) := by decide +kernel
theorem d10_waits_172 : decode c10_waits 172 = .ok (.iadd, 1) := by decide +kernel
theorem d10_waits_173 : decode c10_waits 173 = .ok (.iaload, 1) := by decide +kernel
theorem d10_waits_174 : decode c10_waits 174 = .ok (.i2l, 1) := by decide +kernel
theorem d10_waits_175 : decode c10_waits 175 = .ok (.lsub, 1) := by decide +kernel
theorem d10_waits_176 : decode c10_waits 176 = .ok (.lreturn, 1) := by decide +kernel
theorem mw10_waits : MV y10_waits c10_waits 8 (some .long) 5 := ⟨cd10_waits, ini10, na10_waits, im10_waits, se10_waits⟩
set_option maxHeartbeats 4000000 in
set_option maxRecDepth 100000 in
theorem k10_waits (l : Launch) (E : En) (mo : Nat) (ad : Nat → Nat) (S : Nat → Int) (la : Int → Int) (po : Int → Int) (pt : Int → Int) (cl : Int → Int) (wd : Int → Int) (nu : Int → Int) (fo : Int → Int) (to : Int → Int) (sg : Int → Int) (pl : Int → Int) (Fq : Int → Int → Int → Int) (co : Int → Int) (spr : Int → Int) (le : Int → Int) (mk : Int → Int) (wo : Int → Int) (step : Int) (p : Int) (a : Int) (b : Int) (w : Int) (r_step : R32 step) (r_p : R32 p) (r_a : R32 a) (r_b : R32 b) (r_w : R32 w) (hth : -1 ≤ S 1 ∧ S 1 ≤ 3) (hms : 0 ≤ S 1 → MSum wd nu fo to sg cl Fq (S 1)) (hwm : 0 ≤ S 1 → wfC (cM la po (S 1)) (pM pt (S 1))) (hco : ∀ j, 0 ≤ j → j < 24 → 0 ≤ co j ∧ co j ≤ 6) (hsg : ∀ j, 0 ≤ j → j < 400 → -200 ≤ sg j ∧ sg j ≤ 20000) (hpl : ∀ j, 0 ≤ j → j < 100 → 0 ≤ pl j ∧ pl j ≤ 1) (hw : S 20 = 0 ∨ S 20 = 1) (hmk : ∀ j, 0 ≤ j → j < 43173 → 0 ≤ mk j ∧ mk j ≤ 1) : Cm l E y10_waits c10_waits 8 (some .long) { frames := 5, cells := 0, slots := 0, locals := 126 } [.ref mo, .int (iZ step), .int (iZ p), .int (iZ a), .int (iZ b), .int (iZ w)] [(mo, mO ad S), (ad 11, aInt E 36 la), (ad 12, aInt E 4 po), (ad 13, aInt E 20 pt), (ad 6, aInt E 4 cl), (ad 7, aInt E 48 wd), (ad 8, aInt E 48 nu), (ad 9, aInt E 48 fo), (ad 10, aInt E 48 to), (ad 14, aInt E 400 sg), (ad 19, aBoo E 100 pl), (ad 22, aInt E 24 co), (ad 32, aInt E 12 spr), (ad 33, aInt E 588 le), (ad 39, aBoo E 43173 mk), (ad 40, aInt E 43173 wo)] (fun r ws => ∃ (v : Int), ∃ (pl1 : Int → Int), ∃ (sp1 : Int → Int), ∃ (le1 : Int → Int), ∃ (mk1 : Int → Int), ∃ (wo1 : Int → Int), ∃ (tk1 : Int), ∃ (se1 : Int), ∃ (mx1 : Int), ∃ (ti1 : Int), ∃ (nw : Int), ∃ (lo : Int), ∃ (dn : Int), ∃ (up : Int), ∃ (wa : Int), r = some (.long (lZ v)) ∧ ws = [(mo, mO ad (upS (upS (upS (upS (upS (upS (upS (upS (upS S 28 tk1) 29 se1) 30 mx1) 31 ti1) 34 nw) 35 lo) 36 dn) 37 up) 38 wa)), (ad 11, aInt E 36 la), (ad 12, aInt E 4 po), (ad 13, aInt E 20 pt), (ad 6, aInt E 4 cl), (ad 7, aInt E 48 wd), (ad 8, aInt E 48 nu), (ad 9, aInt E 48 fo), (ad 10, aInt E 48 to), (ad 14, aInt E 400 sg), (ad 19, aBoo E 100 pl1), (ad 22, aInt E 24 co), (ad 32, aInt E 12 sp1), (ad 33, aInt E 588 le1), (ad 39, aBoo E 43173 mk1), (ad 40, aInt E 43173 wo1)] ∧ (v = (if (¬ S 1 < 0 ∧ (0 ≤ step ∧ step ≤ 11) ∧ (0 ≤ p ∧ p ≤ la (9 * S 1 + 8)) ∧ (0 ≤ a ∧ a ≤ 8) ∧ (0 ≤ b ∧ b ≤ 8) ∧ (0 ≤ w ∧ w ≤ 1)) then waN (kD (cM la po (S 1)) (pM pt (S 1)) (fun s => smM wd nu cl Fq (S 1) 3 s (S 20)) (fun s => smM wd nu cl Fq (S 1) 7 s (S 20)) co 0 0 0 0 1) step (81 * p + 9 * a + b) w else -9223372036854775808) ∧ (∀ j, 0 ≤ j → j < 100 → 0 ≤ pl1 j ∧ pl1 j ≤ 1) ∧ (∀ j, 0 ≤ j → j < 43173 → 0 ≤ mk1 j ∧ mk1 j ≤ 1))) := by
  refine Cm.of (by decide +kernel) (Nat.le_of_ble_eq_true rfl) (fun Γ A hl hargs hin G F => ?_)
  subst hl
  refine j_aload_n G 0 rfl d10_waits_0 ?_
  refine j_get G 0 10 1 in10 fl10_13 d10_waits_1 rfl rfl (by decide) (v := .int (iZ (S 1))) rfl rfl ?_
  refine j_if_lt (tgt := 64) G d10_waits_4 (by decide) (by omega) (fun h1 => ?_) (fun h1 => ?_)
  ·
    refine j_ldc2 G (-9223372036854775808) ct10_310 (by decide) d10_waits_64 ?_
    exact j_lret G F d10_waits_67 ⟨(-9223372036854775808), pl, spr, le, mk, wo, (S 28), (S 29), (S 30), (S 31), (S 34), (S 35), (S 36), (S 37), (S 38), rfl, rfl, (by first | exact ⟨(if_neg (by omega)).symm, hpl, hmk⟩ | exact ⟨by rw [if_pos (by omega)]; unfold waN; rw [if_pos (by omega)]; exact hvv, hpl1, hvm⟩ | exact ⟨by rw [if_pos (by omega)]; unfold waN; rw [if_neg (by omega), if_neg (fun q => by obtain ⟨q1, q2⟩ := q; omega)], hpl1, hvm⟩ | exact ⟨by rw [if_pos (by omega)]; unfold waN; rw [if_neg (by omega), if_pos hcc, ← hnw, ← hup, ← hge]; omega, hpl1, hvm⟩)⟩
  ·
    refine j_aload_n G 0 rfl d10_waits_7 ?_
    refine j_iload_n G 1 rfl d10_waits_8 ?_
    refine j_VP G (k10_isStep (xl Γ) E mo S ad step (by first | assumption | omega | (simp only [upS, reduceIte, Nat.reduceEqDiff, eq_self, List.length_cons, List.length_nil, List.length_append] <;> omega))) mw10_isStep ml10_293 [0] rfl 0 10 rfl rfl rfl ⟨Nat.le_of_ble_eq_true rfl, Nat.le_of_ble_eq_true rfl⟩ rfl (rest := []) rfl (Nat.le_of_ble_eq_true rfl) d10_waits_9 ⟨Nat.le_of_ble_eq_true rfl, Nat.le_of_ble_eq_true rfl⟩ (fun r hr => ?_)
    obtain ⟨v3, rfl, hq2⟩ := hr
    rcases hq2 with ⟨hq2, rfl⟩ | ⟨hq2, rfl⟩
    ·
      refine j_if_eq (tgt := 64) G d10_waits_12 (by decide) (by decide) (fun h4 => absurd h4 (by decide)) (fun h4 => ?_)
      have hms1 := hms (by omega)
      have hwm1 := hwm (by omega)
      have hpd : 0 ≤ la (9 * S 1 + 8) ∧ la (9 * S 1 + 8) ≤ 40 := hwm1.2.2.2.2.2.2.2
      refine j_aload_n G 0 rfl d10_waits_15 ?_
      refine j_iload_n G 2 rfl d10_waits_16 ?_
      refine j_iconst G d10_waits_17 ?_
      refine j_aload_n G 0 rfl d10_waits_18 ?_
      refine j_bipush G d10_waits_19 rfl ?_
      refine j_VP G (k10_lastOf (xl Γ) E mo ad S la 8 (by first | assumption | omega | (simp only [upS, reduceIte, Nat.reduceEqDiff, eq_self, List.length_cons, List.length_nil, List.length_append] <;> omega)) (by first | assumption | omega | (simp only [upS, reduceIte, Nat.reduceEqDiff, eq_self, List.length_cons, List.length_nil, List.length_append] <;> omega))) mw10_lastOf ml10_286 [0, 1] rfl 0 10 rfl rfl rfl ⟨Nat.le_of_ble_eq_true rfl, Nat.le_of_ble_eq_true rfl⟩ rfl (rest := [.int (iZ 0), .int (iZ p), .ref mo]) rfl (Nat.le_of_ble_eq_true rfl) d10_waits_21 ⟨Nat.le_of_ble_eq_true rfl, Nat.le_of_ble_eq_true rfl⟩ (fun r hr => ?_)
      obtain ⟨_, rfl, rfl⟩ := hr
      refine j_VP G (k10_in (xl Γ) E mo p 0 (la (9 * (S 1) + 8)) (by first | assumption | omega | (simp only [upS, reduceIte, Nat.reduceEqDiff, eq_self, List.length_cons, List.length_nil, List.length_append] <;> omega)) (by first | assumption | omega | (simp only [upS, reduceIte, Nat.reduceEqDiff, eq_self, List.length_cons, List.length_nil, List.length_append] <;> omega)) (by first | assumption | omega | (simp only [upS, reduceIte, Nat.reduceEqDiff, eq_self, List.length_cons, List.length_nil, List.length_append] <;> omega))) mw10_in ml10_219 [] rfl 0 10 rfl rfl rfl ⟨Nat.le_of_ble_eq_true rfl, Nat.le_of_ble_eq_true rfl⟩ rfl (rest := []) rfl (Nat.le_of_ble_eq_true rfl) d10_waits_24 ⟨Nat.le_of_ble_eq_true rfl, Nat.le_of_ble_eq_true rfl⟩ (fun r hr => ?_)
      obtain ⟨v7, rfl, hq6⟩ := hr
      rcases hq6 with ⟨hq6, rfl⟩ | ⟨hq6, rfl⟩
      ·
        refine j_if_eq (tgt := 64) G d10_waits_27 (by decide) (by decide) (fun h8 => absurd h8 (by decide)) (fun h8 => ?_)
        refine j_aload_n G 0 rfl d10_waits_30 ?_
        refine j_iload_n G 3 rfl d10_waits_31 ?_
        refine j_iconst G d10_waits_32 ?_
        refine j_bipush G d10_waits_33 rfl ?_
        refine j_VP G (k10_in (xl Γ) E mo a 0 8 (by first | assumption | omega | (simp only [upS, reduceIte, Nat.reduceEqDiff, eq_self, List.length_cons, List.length_nil, List.length_append] <;> omega)) (by first | assumption | omega | (simp only [upS, reduceIte, Nat.reduceEqDiff, eq_self, List.length_cons, List.length_nil, List.length_append] <;> omega)) (by first | assumption | omega | (simp only [upS, reduceIte, Nat.reduceEqDiff, eq_self, List.length_cons, List.length_nil, List.length_append] <;> omega))) mw10_in ml10_219 [] rfl 0 10 rfl rfl rfl ⟨Nat.le_of_ble_eq_true rfl, Nat.le_of_ble_eq_true rfl⟩ rfl (rest := []) rfl (Nat.le_of_ble_eq_true rfl) d10_waits_35 ⟨Nat.le_of_ble_eq_true rfl, Nat.le_of_ble_eq_true rfl⟩ (fun r hr => ?_)
        obtain ⟨v10, rfl, hq9⟩ := hr
        rcases hq9 with ⟨hq9, rfl⟩ | ⟨hq9, rfl⟩
        ·
          refine j_if_eq (tgt := 64) G d10_waits_38 (by decide) (by decide) (fun h11 => absurd h11 (by decide)) (fun h11 => ?_)
          refine j_aload_n G 0 rfl d10_waits_41 ?_
          refine j_iload G 4 rfl d10_waits_42 ?_
          refine j_iconst G d10_waits_44 ?_
          refine j_bipush G d10_waits_45 rfl ?_
          refine j_VP G (k10_in (xl Γ) E mo b 0 8 (by first | assumption | omega | (simp only [upS, reduceIte, Nat.reduceEqDiff, eq_self, List.length_cons, List.length_nil, List.length_append] <;> omega)) (by first | assumption | omega | (simp only [upS, reduceIte, Nat.reduceEqDiff, eq_self, List.length_cons, List.length_nil, List.length_append] <;> omega)) (by first | assumption | omega | (simp only [upS, reduceIte, Nat.reduceEqDiff, eq_self, List.length_cons, List.length_nil, List.length_append] <;> omega))) mw10_in ml10_219 [] rfl 0 10 rfl rfl rfl ⟨Nat.le_of_ble_eq_true rfl, Nat.le_of_ble_eq_true rfl⟩ rfl (rest := []) rfl (Nat.le_of_ble_eq_true rfl) d10_waits_47 ⟨Nat.le_of_ble_eq_true rfl, Nat.le_of_ble_eq_true rfl⟩ (fun r hr => ?_)
          obtain ⟨v13, rfl, hq12⟩ := hr
          rcases hq12 with ⟨hq12, rfl⟩ | ⟨hq12, rfl⟩
          ·
            refine j_if_eq (tgt := 64) G d10_waits_50 (by decide) (by decide) (fun h14 => absurd h14 (by decide)) (fun h14 => ?_)
            refine j_aload_n G 0 rfl d10_waits_53 ?_
            refine j_iload G 5 rfl d10_waits_54 ?_
            refine j_iconst G d10_waits_56 ?_
            refine j_iconst G d10_waits_57 ?_
            refine j_VP G (k10_in (xl Γ) E mo w 0 1 (by first | assumption | omega | (simp only [upS, reduceIte, Nat.reduceEqDiff, eq_self, List.length_cons, List.length_nil, List.length_append] <;> omega)) (by first | assumption | omega | (simp only [upS, reduceIte, Nat.reduceEqDiff, eq_self, List.length_cons, List.length_nil, List.length_append] <;> omega)) (by first | assumption | omega | (simp only [upS, reduceIte, Nat.reduceEqDiff, eq_self, List.length_cons, List.length_nil, List.length_append] <;> omega))) mw10_in ml10_219 [] rfl 0 10 rfl rfl rfl ⟨Nat.le_of_ble_eq_true rfl, Nat.le_of_ble_eq_true rfl⟩ rfl (rest := []) rfl (Nat.le_of_ble_eq_true rfl) d10_waits_58 ⟨Nat.le_of_ble_eq_true rfl, Nat.le_of_ble_eq_true rfl⟩ (fun r hr => ?_)
            obtain ⟨v16, rfl, hq15⟩ := hr
            rcases hq15 with ⟨hq15, rfl⟩ | ⟨hq15, rfl⟩
            ·
              refine j_if_ne (tgt := 68) G d10_waits_61 (by decide) (by decide) (fun h17 => ?_) (fun h17 => absurd h17 (by decide))
              refine j_aload_n G 0 rfl d10_waits_68 ?_
              refine j_iconst G d10_waits_69 ?_
              refine j_iconst G d10_waits_70 ?_
              refine j_iconst G d10_waits_71 ?_
              refine j_iconst G d10_waits_72 ?_
              refine j_iconst G d10_waits_73 ?_
              refine j_VM G (rm' := { frames := 4, cells := 0, slots := 0, locals := 98 }) (wc := [(mo, mO ad S), (ad 11, aInt E 36 la), (ad 12, aInt E 4 po), (ad 13, aInt E 20 pt), (ad 6, aInt E 4 cl), (ad 7, aInt E 48 wd), (ad 8, aInt E 48 nu), (ad 9, aInt E 48 fo), (ad 10, aInt E 48 to), (ad 14, aInt E 400 sg), (ad 19, aBoo E 100 pl), (ad 22, aInt E 24 co), (ad 32, aInt E 12 spr), (ad 33, aInt E 588 le)]) (wr := [(ad 39, aBoo E 43173 mk), (ad 40, aInt E 43173 wo)]) (k10_layDay (xl Γ) E mo ad S la po pt cl wd nu fo to sg pl Fq co spr le 0 0 0 0 1 (by first | assumption | omega | (simp only [upS, reduceIte, Nat.reduceEqDiff, eq_self, List.length_cons, List.length_nil, List.length_append] <;> omega)) (by first | assumption | omega | (simp only [upS, reduceIte, Nat.reduceEqDiff, eq_self, List.length_cons, List.length_nil, List.length_append] <;> omega)) (by first | assumption | omega | (simp only [upS, reduceIte, Nat.reduceEqDiff, eq_self, List.length_cons, List.length_nil, List.length_append] <;> omega)) (by first | assumption | omega | (simp only [upS, reduceIte, Nat.reduceEqDiff, eq_self, List.length_cons, List.length_nil, List.length_append] <;> omega)) (by first | assumption | omega | (simp only [upS, reduceIte, Nat.reduceEqDiff, eq_self, List.length_cons, List.length_nil, List.length_append] <;> omega)) (by first | assumption | omega | (simp only [upS, reduceIte, Nat.reduceEqDiff, eq_self, List.length_cons, List.length_nil, List.length_append] <;> omega)) (by first | assumption | omega | (simp only [upS, reduceIte, Nat.reduceEqDiff, eq_self, List.length_cons, List.length_nil, List.length_append] <;> omega)) (by first | assumption | omega | (simp only [upS, reduceIte, Nat.reduceEqDiff, eq_self, List.length_cons, List.length_nil, List.length_append] <;> omega)) (by first | assumption | omega | (simp only [upS, reduceIte, Nat.reduceEqDiff, eq_self, List.length_cons, List.length_nil, List.length_append] <;> omega)) (by first | assumption | omega | (simp only [upS, reduceIte, Nat.reduceEqDiff, eq_self, List.length_cons, List.length_nil, List.length_append] <;> omega)) (by first | assumption | omega | (simp only [upS, reduceIte, Nat.reduceEqDiff, eq_self, List.length_cons, List.length_nil, List.length_append] <;> omega)) (by first | assumption | omega | (simp only [upS, reduceIte, Nat.reduceEqDiff, eq_self, List.length_cons, List.length_nil, List.length_append] <;> omega)) (by first | assumption | omega | (simp only [upS, reduceIte, Nat.reduceEqDiff, eq_self, List.length_cons, List.length_nil, List.length_append] <;> omega))) mw10_layDay ml10_337 [0, 1, 2, 3, 4, 5, 6, 7, 8, 9, 10, 11, 12, 13] [14, 15] rfl rfl ⟨rfl, rfl⟩ (by decide) 0 10 rfl rfl rfl ⟨Nat.le_of_ble_eq_true rfl, Nat.le_of_ble_eq_true rfl⟩ rfl (rest := []) rfl (Nat.le_of_ble_eq_true rfl) d10_waits_74 ⟨Nat.le_of_ble_eq_true rfl, Nat.le_of_ble_eq_true rfl⟩ (fun r w1 hr => ?_)
              obtain ⟨pl1_19, sp1_20, le1_21, tk1_22, se1_23, mx1_24, rfl, rfl, ⟨hq18_0, hq18_1⟩⟩ := hr
              refine j_eq (ws' := [(ad 39, aBoo E 43173 mk), (ad 40, aInt E 43173 wo), (mo, mO ad (upS (upS (upS (upS S 28 tk1_22) 29 se1_23) 30 mx1_24) 31 1)), (ad 11, aInt E 36 la), (ad 12, aInt E 4 po), (ad 13, aInt E 20 pt), (ad 6, aInt E 4 cl), (ad 7, aInt E 48 wd), (ad 8, aInt E 48 nu), (ad 9, aInt E 48 fo), (ad 10, aInt E 48 to), (ad 14, aInt E 400 sg), (ad 19, aBoo E 100 pl1_19), (ad 22, aInt E 24 co), (ad 32, aInt E 12 sp1_20), (ad 33, aInt E 588 le1_21)]) rfl rfl rfl ?_
              have hly := hq18_0
              have hpl1 := hq18_1
              have hok := hly.2.2.2.2.1
              have hs2 : 0 ≤ 81 * p + 9 * a + b ∧ 81 * p + 9 * a + b ≤ 3320 := by omega
              refine j_bipush G d10_waits_77 rfl ?_
              refine j_iload_n G 2 rfl d10_waits_79 ?_
              refine j_imul G d10_waits_80 ?_
              refine j_bipush G d10_waits_81 rfl ?_
              refine j_iload_n G 3 rfl d10_waits_83 ?_
              refine j_imul G d10_waits_84 ?_
              refine j_iadd G d10_waits_85 ?_
              refine j_iload G 4 rfl d10_waits_86 ?_
              refine j_iadd G d10_waits_88 ?_
              refine j_istore G d10_waits_89 (by decide) rfl ?_
              refine j_aload_n G 1 rfl d10_waits_91 ?_
              refine j_iload_n G 2 rfl d10_waits_92 ?_
              refine j_iload G 0 rfl d10_waits_93 ?_
              refine j_iconst G d10_waits_95 ?_
              refine j_VM G (rm' := { frames := 2, cells := 0, slots := 0, locals := 47 }) (wc := [(mo, mO ad (upS (upS (upS (upS S 28 tk1_22) 29 se1_23) 30 mx1_24) 31 1)), (ad 22, aInt E 24 co), (ad 32, aInt E 12 sp1_20), (ad 33, aInt E 588 le1_21), (ad 39, aBoo E 43173 mk), (ad 40, aInt E 43173 wo)]) (wr := [(ad 11, aInt E 36 la), (ad 12, aInt E 4 po), (ad 13, aInt E 20 pt), (ad 6, aInt E 4 cl), (ad 7, aInt E 48 wd), (ad 8, aInt E 48 nu), (ad 9, aInt E 48 fo), (ad 10, aInt E 48 to), (ad 14, aInt E 400 sg), (ad 19, aBoo E 100 pl1_19)]) (k10_valueFrom (xl Γ) E mo ad (upS (upS (upS (upS S 28 tk1_22) 29 se1_23) 30 mx1_24) 31 1) co sp1_20 le1_21 (kD (cM la po (S 1)) (pM pt (S 1)) (fun s => smM wd nu cl Fq (S 1) 3 s (S 20)) (fun s => smM wd nu cl Fq (S 1) 7 s (S 20)) co 0 0 0 0 1) mk wo step (((81 * p) + (9 * a)) + b) 0 (by first | assumption | omega | (simp only [upS, reduceIte, Nat.reduceEqDiff, eq_self, List.length_cons, List.length_nil, List.length_append] <;> omega)) (by first | assumption | omega | (simp only [upS, reduceIte, Nat.reduceEqDiff, eq_self, List.length_cons, List.length_nil, List.length_append] <;> omega)) (by first | assumption | omega | (simp only [upS, reduceIte, Nat.reduceEqDiff, eq_self, List.length_cons, List.length_nil, List.length_append] <;> omega)) (by first | assumption | omega | (simp only [upS, reduceIte, Nat.reduceEqDiff, eq_self, List.length_cons, List.length_nil, List.length_append] <;> omega)) (by first | assumption | omega | (simp only [upS, reduceIte, Nat.reduceEqDiff, eq_self, List.length_cons, List.length_nil, List.length_append] <;> omega))) mw10_valueFrom ml10_329 [2, 13, 14, 15, 0, 1] [3, 4, 5, 6, 7, 8, 9, 10, 11, 12] rfl rfl ⟨rfl, rfl⟩ (by decide) 2 10 rfl rfl rfl ⟨Nat.le_of_ble_eq_true rfl, Nat.le_of_ble_eq_true rfl⟩ rfl (rest := []) rfl (Nat.le_of_ble_eq_true rfl) d10_waits_96 ⟨Nat.le_of_ble_eq_true rfl, Nat.le_of_ble_eq_true rfl⟩ (fun r w1 hr => ?_)
              obtain ⟨v26, mk1_27, wo1_28, nw1_29, lo1_30, dn1_31, up1_32, wa1_33, rfl, rfl, ⟨hq25_0, hq25_1, hq25_2, hq25_3⟩⟩ := hr
              refine j_eq (ws' := [(ad 11, aInt E 36 la), (ad 12, aInt E 4 po), (ad 13, aInt E 20 pt), (ad 6, aInt E 4 cl), (ad 7, aInt E 48 wd), (ad 8, aInt E 48 nu), (ad 9, aInt E 48 fo), (ad 10, aInt E 48 to), (ad 14, aInt E 400 sg), (ad 19, aBoo E 100 pl1_19), (mo, mO ad (upS (upS (upS (upS (upS (upS (upS (upS (upS S 28 tk1_22) 29 se1_23) 30 mx1_24) 31 1) 34 nw1_29) 35 lo1_30) 36 dn1_31) 37 up1_32) 38 wa1_33)), (ad 22, aInt E 24 co), (ad 32, aInt E 12 sp1_20), (ad 33, aInt E 588 le1_21), (ad 39, aBoo E 43173 mk1_27), (ad 40, aInt E 43173 wo1_28)]) rfl rfl rfl ?_
              try simp only [upS, reduceIte, Nat.reduceEqDiff, eq_self] at hq25_0 hq25_1 hq25_2 hq25_3
              have hvv := hq25_0
              have hvm := hq25_3
              have hvz := hq25_1
              have hvB := hq25_2
              have hvr := Vn_r (spare := 0) hok (by omega) (s := step) (st := 81 * p + 9 * a + b) (by omega) hs2
              refine j_istore G d10_waits_99 (by decide) rfl ?_
              refine j_iload G 7 rfl d10_waits_101 ?_
              refine j_if_ne (tgt := 110) G d10_waits_103 (by decide) (by omega) (fun h34 => ?_) (fun h34 => ?_)
              ·
                refine j_aload_n G 2 rfl d10_waits_110 ?_
                refine j_iload_n G 3 rfl d10_waits_111 ?_
                refine j_iload G 1 rfl d10_waits_112 ?_
                refine j_VM G (rm' := { frames := 1, cells := 0, slots := 0, locals := 22 }) (wc := [(mo, mO ad (upS (upS (upS (upS (upS (upS (upS (upS (upS S 28 tk1_22) 29 se1_23) 30 mx1_24) 31 1) 34 nw1_29) 35 lo1_30) 36 dn1_31) 37 up1_32) 38 wa1_33)), (ad 22, aInt E 24 co), (ad 32, aInt E 12 sp1_20), (ad 33, aInt E 588 le1_21)]) (wr := [(ad 11, aInt E 36 la), (ad 12, aInt E 4 po), (ad 13, aInt E 20 pt), (ad 6, aInt E 4 cl), (ad 7, aInt E 48 wd), (ad 8, aInt E 48 nu), (ad 9, aInt E 48 fo), (ad 10, aInt E 48 to), (ad 14, aInt E 400 sg), (ad 19, aBoo E 100 pl1_19), (ad 39, aBoo E 43173 mk1_27), (ad 40, aInt E 43173 wo1_28)]) (k10_comesIn (xl Γ) E mo ad (upS (upS (upS (upS (upS (upS (upS (upS (upS S 28 tk1_22) 29 se1_23) 30 mx1_24) 31 1) 34 nw1_29) 35 lo1_30) 36 dn1_31) 37 up1_32) 38 wa1_33) co sp1_20 le1_21 (kD (cM la po (S 1)) (pM pt (S 1)) (fun s => smM wd nu cl Fq (S 1) 3 s (S 20)) (fun s => smM wd nu cl Fq (S 1) 7 s (S 20)) co 0 0 0 0 1) step (((81 * p) + (9 * a)) + b) (by first | assumption | omega | (simp only [upS, reduceIte, Nat.reduceEqDiff, eq_self, List.length_cons, List.length_nil, List.length_append] <;> omega)) (by first | assumption | omega | (simp only [upS, reduceIte, Nat.reduceEqDiff, eq_self, List.length_cons, List.length_nil, List.length_append] <;> omega)) (by first | assumption | omega | (simp only [upS, reduceIte, Nat.reduceEqDiff, eq_self, List.length_cons, List.length_nil, List.length_append] <;> omega))) mw10_comesIn ml10_318 [10, 11, 12, 13] [0, 1, 2, 3, 4, 5, 6, 7, 8, 9, 14, 15] rfl rfl ⟨rfl, rfl⟩ (by decide) 10 10 rfl rfl rfl ⟨Nat.le_of_ble_eq_true rfl, Nat.le_of_ble_eq_true rfl⟩ rfl (rest := []) rfl (Nat.le_of_ble_eq_true rfl) d10_waits_114 ⟨Nat.le_of_ble_eq_true rfl, Nat.le_of_ble_eq_true rfl⟩ (fun r w1 hr => ?_)
                obtain ⟨nw_36, lo_37, dn_38, up_39, wa_40, rfl, rfl, ⟨hq35_0, hq35_1, hq35_2, hq35_3, hq35_4⟩⟩ := hr
                refine j_eq (ws' := [(ad 11, aInt E 36 la), (ad 12, aInt E 4 po), (ad 13, aInt E 20 pt), (ad 6, aInt E 4 cl), (ad 7, aInt E 48 wd), (ad 8, aInt E 48 nu), (ad 9, aInt E 48 fo), (ad 10, aInt E 48 to), (ad 14, aInt E 400 sg), (ad 19, aBoo E 100 pl1_19), (ad 39, aBoo E 43173 mk1_27), (ad 40, aInt E 43173 wo1_28), (mo, mO ad (upS (upS (upS (upS (upS (upS (upS (upS (upS S 28 tk1_22) 29 se1_23) 30 mx1_24) 31 1) 34 nw_36) 35 lo_37) 36 dn_38) 37 up_39) 38 wa_40)), (ad 22, aInt E 24 co), (ad 32, aInt E 12 sp1_20), (ad 33, aInt E 588 le1_21)]) rfl rfl rfl ?_
                try simp only [upS, reduceIte, Nat.reduceEqDiff, eq_self] at hq35_0 hq35_1 hq35_2 hq35_3 hq35_4
                have hnw := hq35_0
                have hdn := hq35_2
                have hup := hq35_3
                have hwa := hq35_4
                have hdr := dR hok (s := step) (st := 81 * p + 9 * a + b) (by omega) hs2
                have hnr := dNow_r hok (s := step) (st := 81 * p + 9 * a + b) (by omega) hs2
                have hge : nw_36 - 81 * wa_40 - 9 * dn_38 - up_39 = dGone (kD (cM la po (S 1)) (pM pt (S 1)) (fun s => smM wd nu cl Fq (S 1) 3 s (S 20)) (fun s => smM wd nu cl Fq (S 1) 7 s (S 20)) co 0 0 0 0 1) step (81 * p + 9 * a + b) := by unfold dGone; omega
                have hcl := hvB.1 step (81 * p + 9 * a + b) (by omega) hs2.1 hs2.2 (by omega) hvz
                refine j_aload_n G 2 rfl d10_waits_117 ?_
                refine j_iconst G d10_waits_118 ?_
                refine j_VP G (k10_can (xl Γ) E mo ad (upS (upS (upS (upS (upS (upS (upS (upS (upS S 28 tk1_22) 29 se1_23) 30 mx1_24) 31 1) 34 nw_36) 35 lo_37) 36 dn_38) 37 up_39) 38 wa_40) 0 (by first | assumption | omega | (simp only [upS, reduceIte, Nat.reduceEqDiff, eq_self, List.length_cons, List.length_nil, List.length_append] <;> omega)) (by first | assumption | omega | (simp only [upS, reduceIte, Nat.reduceEqDiff, eq_self, List.length_cons, List.length_nil, List.length_append] <;> omega)) (by first | assumption | omega | (simp only [upS, reduceIte, Nat.reduceEqDiff, eq_self, List.length_cons, List.length_nil, List.length_append] <;> omega))) mw10_can ml10_322 [12] rfl 12 10 rfl rfl rfl ⟨Nat.le_of_ble_eq_true rfl, Nat.le_of_ble_eq_true rfl⟩ rfl (rest := []) rfl (Nat.le_of_ble_eq_true rfl) d10_waits_119 ⟨Nat.le_of_ble_eq_true rfl, Nat.le_of_ble_eq_true rfl⟩ (fun r hr => ?_)
                obtain ⟨v42, rfl, hq41⟩ := hr
                try simp only [upS, reduceIte, Nat.reduceEqDiff, eq_self] at hq41
                rcases hq41 with ⟨hq41, rfl⟩ | ⟨hq41, rfl⟩
                ·
                  refine j_if_ne (tgt := 129) G d10_waits_122 (by decide) (by decide) (fun h43 => ?_) (fun h43 => absurd h43 (by decide))
                  have hcc : dCan (kD (cM la po (S 1)) (pM pt (S 1)) (fun s => smM wd nu cl Fq (S 1) 3 s (S 20)) (fun s => smM wd nu cl Fq (S 1) 7 s (S 20)) co 0 0 0 0 1) step (81 * p + 9 * a + b) 0 := ⟨by omega, by omega⟩
                  have hg3 := dGone_r hok (by omega) hs2 (Int.le_refl 0) hcc
                  have hg4 := hvB.2 (step + 1) _ (by omega) (by omega) hg3.1 hg3.2 (by omega) (Or.inr (hcl.2 hcc))
                  have hg5 := hvB.2 (step + 1) _ (by omega) (by omega) hnr.1 hnr.2 (by omega) (Or.inr hcl.1)
                  have hr4 := Vn_r (spare := 0) hok (by omega) (s := step + 1) (by omega) hg3
                  have hr5 := Vn_r (spare := 0) hok (by omega) (s := step + 1) (by omega) hnr
                  rw [← hge] at hg4 hr4
                  rw [← hnw] at hg5 hr5
                  refine j_ldc2 G 100 ct10_347 (by decide) d10_waits_129 ?_
                  refine j_aload_n G 2 rfl d10_waits_132 ?_
                  refine j_get G 12 10 37 in10 fl10_124 d10_waits_133 rfl rfl (by decide) (v := .int (iZ up_39)) rfl rfl ?_
                  refine j_i2l G d10_waits_136 (by omega) ?_
                  refine j_lmul G d10_waits_137 ?_
                  refine j_aload_n G 2 rfl d10_waits_138 ?_
                  refine j_get G 12 10 40 in10 fl10_134 d10_waits_139 rfl rfl (by decide) (v := .ref (ad 40)) rfl rfl ?_
                  refine j_sipush G d10_waits_142 rfl ?_
                  refine j_iload_n G 3 rfl d10_waits_145 ?_
                  refine j_iconst G d10_waits_146 ?_
                  refine j_iadd G d10_waits_147 ?_
                  refine j_imul G d10_waits_148 ?_
                  refine j_aload_n G 2 rfl d10_waits_149 ?_
                  refine j_VP G (k10_gone (xl Γ) E mo ad (upS (upS (upS (upS (upS (upS (upS (upS (upS S 28 tk1_22) 29 se1_23) 30 mx1_24) 31 1) 34 nw_36) 35 lo_37) 36 dn_38) 37 up_39) 38 wa_40) ) mw10_gone ml10_325 [12] rfl 12 10 rfl rfl rfl ⟨Nat.le_of_ble_eq_true rfl, Nat.le_of_ble_eq_true rfl⟩ rfl (rest := [.int (iZ (3321 * (step + 1))), .ref (ad 40), .long (lZ (100 * up_39))]) rfl (Nat.le_of_ble_eq_true rfl) d10_waits_150 ⟨Nat.le_of_ble_eq_true rfl, Nat.le_of_ble_eq_true rfl⟩ (fun r hr => ?_)
                  obtain ⟨_, rfl, rfl⟩ := hr
                  refine j_eq (st' := [.int (iZ (nw_36 - 81 * wa_40 - 9 * dn_38 - up_39)), .int (iZ (3321 * (step + 1))), .ref (ad 40), .long (lZ (100 * up_39))]) rfl rfl rfl ?_
                  refine j_iadd G d10_waits_153 ?_
                  refine j_iald G 11 rfl (by omega) d10_waits_154 ?_
                  refine j_i2l G d10_waits_155 (by omega) ?_
                  refine j_ladd G d10_waits_156 ?_
                  refine j_aload_n G 2 rfl d10_waits_157 ?_
                  refine j_get G 12 10 40 in10 fl10_134 d10_waits_158 rfl rfl (by decide) (v := .ref (ad 40)) rfl rfl ?_
                  refine j_sipush G d10_waits_161 rfl ?_
                  refine j_iload_n G 3 rfl d10_waits_164 ?_
                  refine j_iconst G d10_waits_165 ?_
                  refine j_iadd G d10_waits_166 ?_
                  refine j_imul G d10_waits_167 ?_
                  refine j_aload_n G 2 rfl d10_waits_168 ?_
                  refine j_get G 12 10 34 in10 fl10_115 d10_waits_169 rfl rfl (by decide) (v := .int (iZ nw_36)) rfl rfl ?_
                  refine j_iadd G d10_waits_172 ?_
                  refine j_iald G 11 rfl (by omega) d10_waits_173 ?_
                  refine j_i2l G d10_waits_174 (by omega) ?_
                  refine j_lsub G d10_waits_175 ?_
                  refine j_perm (ws' := [(mo, mO ad (upS (upS (upS (upS (upS (upS (upS (upS (upS S 28 tk1_22) 29 se1_23) 30 mx1_24) 31 1) 34 nw_36) 35 lo_37) 36 dn_38) 37 up_39) 38 wa_40)), (ad 11, aInt E 36 la), (ad 12, aInt E 4 po), (ad 13, aInt E 20 pt), (ad 6, aInt E 4 cl), (ad 7, aInt E 48 wd), (ad 8, aInt E 48 nu), (ad 9, aInt E 48 fo), (ad 10, aInt E 48 to), (ad 14, aInt E 400 sg), (ad 19, aBoo E 100 pl1_19), (ad 22, aInt E 24 co), (ad 32, aInt E 12 sp1_20), (ad 33, aInt E 588 le1_21), (ad 39, aBoo E 43173 mk1_27), (ad 40, aInt E 43173 wo1_28)]) [12, 0, 1, 2, 3, 4, 5, 6, 7, 8, 9, 13, 14, 15, 10, 11] rfl rfl rfl ?_
                  exact j_lret G F d10_waits_176 ⟨((100 * up_39) + (wo1_28 ((3321 * (step + 1)) + (nw_36 - 81 * wa_40 - 9 * dn_38 - up_39)))) - (wo1_28 ((3321 * (step + 1)) + nw_36)), pl1_19, sp1_20, le1_21, mk1_27, wo1_28, tk1_22, se1_23, mx1_24, 1, nw_36, lo_37, dn_38, up_39, wa_40, rfl, rfl, (by first | exact ⟨(if_neg (by omega)).symm, hpl, hmk⟩ | exact ⟨by rw [if_pos (by omega)]; unfold waN; rw [if_pos (by omega)]; exact hvv, hpl1, hvm⟩ | exact ⟨by rw [if_pos (by omega)]; unfold waN; rw [if_neg (by omega), if_neg (fun q => by obtain ⟨q1, q2⟩ := q; omega)], hpl1, hvm⟩ | exact ⟨by rw [if_pos (by omega)]; unfold waN; rw [if_neg (by omega), if_pos hcc, ← hnw, ← hup, ← hge]; omega, hpl1, hvm⟩)⟩
                ·
                  refine j_if_ne (tgt := 129) G d10_waits_122 (by decide) (by decide) (fun h45 => absurd h45 (by decide)) (fun h45 => ?_)
                  refine j_ldc2 G (-99999) ct10_345 (by decide) d10_waits_125 ?_
                  refine j_perm (ws' := [(mo, mO ad (upS (upS (upS (upS (upS (upS (upS (upS (upS S 28 tk1_22) 29 se1_23) 30 mx1_24) 31 1) 34 nw_36) 35 lo_37) 36 dn_38) 37 up_39) 38 wa_40)), (ad 11, aInt E 36 la), (ad 12, aInt E 4 po), (ad 13, aInt E 20 pt), (ad 6, aInt E 4 cl), (ad 7, aInt E 48 wd), (ad 8, aInt E 48 nu), (ad 9, aInt E 48 fo), (ad 10, aInt E 48 to), (ad 14, aInt E 400 sg), (ad 19, aBoo E 100 pl1_19), (ad 22, aInt E 24 co), (ad 32, aInt E 12 sp1_20), (ad 33, aInt E 588 le1_21), (ad 39, aBoo E 43173 mk1_27), (ad 40, aInt E 43173 wo1_28)]) [12, 0, 1, 2, 3, 4, 5, 6, 7, 8, 9, 13, 14, 15, 10, 11] rfl rfl rfl ?_
                  exact j_lret G F d10_waits_128 ⟨(-99999), pl1_19, sp1_20, le1_21, mk1_27, wo1_28, tk1_22, se1_23, mx1_24, 1, nw_36, lo_37, dn_38, up_39, wa_40, rfl, rfl, (by first | exact ⟨(if_neg (by omega)).symm, hpl, hmk⟩ | exact ⟨by rw [if_pos (by omega)]; unfold waN; rw [if_pos (by omega)]; exact hvv, hpl1, hvm⟩ | exact ⟨by rw [if_pos (by omega)]; unfold waN; rw [if_neg (by omega), if_neg (fun q => by obtain ⟨q1, q2⟩ := q; omega)], hpl1, hvm⟩ | exact ⟨by rw [if_pos (by omega)]; unfold waN; rw [if_neg (by omega), if_pos hcc, ← hnw, ← hup, ← hge]; omega, hpl1, hvm⟩)⟩
              ·
                refine j_iload G 0 rfl d10_waits_106 ?_
                refine j_i2l G d10_waits_108 (by omega) ?_
                refine j_perm (ws' := [(mo, mO ad (upS (upS (upS (upS (upS (upS (upS (upS (upS S 28 tk1_22) 29 se1_23) 30 mx1_24) 31 1) 34 nw1_29) 35 lo1_30) 36 dn1_31) 37 up1_32) 38 wa1_33)), (ad 11, aInt E 36 la), (ad 12, aInt E 4 po), (ad 13, aInt E 20 pt), (ad 6, aInt E 4 cl), (ad 7, aInt E 48 wd), (ad 8, aInt E 48 nu), (ad 9, aInt E 48 fo), (ad 10, aInt E 48 to), (ad 14, aInt E 400 sg), (ad 19, aBoo E 100 pl1_19), (ad 22, aInt E 24 co), (ad 32, aInt E 12 sp1_20), (ad 33, aInt E 588 le1_21), (ad 39, aBoo E 43173 mk1_27), (ad 40, aInt E 43173 wo1_28)]) [10, 0, 1, 2, 3, 4, 5, 6, 7, 8, 9, 11, 12, 13, 14, 15] rfl rfl rfl ?_
                exact j_lret G F d10_waits_109 ⟨v26, pl1_19, sp1_20, le1_21, mk1_27, wo1_28, tk1_22, se1_23, mx1_24, 1, nw1_29, lo1_30, dn1_31, up1_32, wa1_33, rfl, rfl, (by first | exact ⟨(if_neg (by omega)).symm, hpl, hmk⟩ | exact ⟨by rw [if_pos (by omega)]; unfold waN; rw [if_pos (by omega)]; exact hvv, hpl1, hvm⟩ | exact ⟨by rw [if_pos (by omega)]; unfold waN; rw [if_neg (by omega), if_neg (fun q => by obtain ⟨q1, q2⟩ := q; omega)], hpl1, hvm⟩ | exact ⟨by rw [if_pos (by omega)]; unfold waN; rw [if_neg (by omega), if_pos hcc, ← hnw, ← hup, ← hge]; omega, hpl1, hvm⟩)⟩
            ·
              refine j_if_ne (tgt := 68) G d10_waits_61 (by decide) (by decide) (fun h46 => absurd h46 (by decide)) (fun h46 => ?_)
              refine j_ldc2 G (-9223372036854775808) ct10_310 (by decide) d10_waits_64 ?_
              exact j_lret G F d10_waits_67 ⟨(-9223372036854775808), pl, spr, le, mk, wo, (S 28), (S 29), (S 30), (S 31), (S 34), (S 35), (S 36), (S 37), (S 38), rfl, rfl, (by first | exact ⟨(if_neg (by omega)).symm, hpl, hmk⟩ | exact ⟨by rw [if_pos (by omega)]; unfold waN; rw [if_pos (by omega)]; exact hvv, hpl1, hvm⟩ | exact ⟨by rw [if_pos (by omega)]; unfold waN; rw [if_neg (by omega), if_neg (fun q => by obtain ⟨q1, q2⟩ := q; omega)], hpl1, hvm⟩ | exact ⟨by rw [if_pos (by omega)]; unfold waN; rw [if_neg (by omega), if_pos hcc, ← hnw, ← hup, ← hge]; omega, hpl1, hvm⟩)⟩
          ·
            refine j_if_eq (tgt := 64) G d10_waits_50 (by decide) (by decide) (fun h47 => ?_) (fun h47 => absurd h47 (by decide))
            refine j_ldc2 G (-9223372036854775808) ct10_310 (by decide) d10_waits_64 ?_
            exact j_lret G F d10_waits_67 ⟨(-9223372036854775808), pl, spr, le, mk, wo, (S 28), (S 29), (S 30), (S 31), (S 34), (S 35), (S 36), (S 37), (S 38), rfl, rfl, (by first | exact ⟨(if_neg (by omega)).symm, hpl, hmk⟩ | exact ⟨by rw [if_pos (by omega)]; unfold waN; rw [if_pos (by omega)]; exact hvv, hpl1, hvm⟩ | exact ⟨by rw [if_pos (by omega)]; unfold waN; rw [if_neg (by omega), if_neg (fun q => by obtain ⟨q1, q2⟩ := q; omega)], hpl1, hvm⟩ | exact ⟨by rw [if_pos (by omega)]; unfold waN; rw [if_neg (by omega), if_pos hcc, ← hnw, ← hup, ← hge]; omega, hpl1, hvm⟩)⟩
        ·
          refine j_if_eq (tgt := 64) G d10_waits_38 (by decide) (by decide) (fun h48 => ?_) (fun h48 => absurd h48 (by decide))
          refine j_ldc2 G (-9223372036854775808) ct10_310 (by decide) d10_waits_64 ?_
          exact j_lret G F d10_waits_67 ⟨(-9223372036854775808), pl, spr, le, mk, wo, (S 28), (S 29), (S 30), (S 31), (S 34), (S 35), (S 36), (S 37), (S 38), rfl, rfl, (by first | exact ⟨(if_neg (by omega)).symm, hpl, hmk⟩ | exact ⟨by rw [if_pos (by omega)]; unfold waN; rw [if_pos (by omega)]; exact hvv, hpl1, hvm⟩ | exact ⟨by rw [if_pos (by omega)]; unfold waN; rw [if_neg (by omega), if_neg (fun q => by obtain ⟨q1, q2⟩ := q; omega)], hpl1, hvm⟩ | exact ⟨by rw [if_pos (by omega)]; unfold waN; rw [if_neg (by omega), if_pos hcc, ← hnw, ← hup, ← hge]; omega, hpl1, hvm⟩)⟩
      ·
        refine j_if_eq (tgt := 64) G d10_waits_27 (by decide) (by decide) (fun h49 => ?_) (fun h49 => absurd h49 (by decide))
        refine j_ldc2 G (-9223372036854775808) ct10_310 (by decide) d10_waits_64 ?_
        exact j_lret G F d10_waits_67 ⟨(-9223372036854775808), pl, spr, le, mk, wo, (S 28), (S 29), (S 30), (S 31), (S 34), (S 35), (S 36), (S 37), (S 38), rfl, rfl, (by first | exact ⟨(if_neg (by omega)).symm, hpl, hmk⟩ | exact ⟨by rw [if_pos (by omega)]; unfold waN; rw [if_pos (by omega)]; exact hvv, hpl1, hvm⟩ | exact ⟨by rw [if_pos (by omega)]; unfold waN; rw [if_neg (by omega), if_neg (fun q => by obtain ⟨q1, q2⟩ := q; omega)], hpl1, hvm⟩ | exact ⟨by rw [if_pos (by omega)]; unfold waN; rw [if_neg (by omega), if_pos hcc, ← hnw, ← hup, ← hge]; omega, hpl1, hvm⟩)⟩
    ·
      refine j_if_eq (tgt := 64) G d10_waits_12 (by decide) (by decide) (fun h50 => ?_) (fun h50 => absurd h50 (by decide))
      refine j_ldc2 G (-9223372036854775808) ct10_310 (by decide) d10_waits_64 ?_
      exact j_lret G F d10_waits_67 ⟨(-9223372036854775808), pl, spr, le, mk, wo, (S 28), (S 29), (S 30), (S 31), (S 34), (S 35), (S 36), (S 37), (S 38), rfl, rfl, (by first | exact ⟨(if_neg (by omega)).symm, hpl, hmk⟩ | exact ⟨by rw [if_pos (by omega)]; unfold waN; rw [if_pos (by omega)]; exact hvv, hpl1, hvm⟩ | exact ⟨by rw [if_pos (by omega)]; unfold waN; rw [if_neg (by omega), if_neg (fun q => by obtain ⟨q1, q2⟩ := q; omega)], hpl1, hvm⟩ | exact ⟨by rw [if_pos (by omega)]; unfold waN; rw [if_neg (by omega), if_pos hcc, ← hnw, ← hup, ← hge]; omega, hpl1, hvm⟩)⟩
