theorem stopM_q {C : Nat → Int} {P : Int → Int} {load drag v : Int} (hw : wfC C P) (hv : v = stopM C P load drag) : v = -5 ∨ (0 ≤ v ∧ v ≤ 104) := by
  have h5 : C 1 ≤ 5 := hw.1.2
  have h := stopF_r (C := C) (P := P) (load := load) (drag := drag) (C 1).toNat 0 (Int.le_refl 0) (by omega)
  rw [hv]; exact h
/-- the first step at which a told row fails; i: the row's place -/
noncomputable def juF (C : Nat → Int) (P : Int → Int) (D : Int → Int) (K : Dy) (so ln b i : Int) (it : Int → Int) : Nat → Int → Int → Int
  | 0, _, _ => -5
  | m + 1, s, st => if so < 0 ∨ i < 0 ∨ ln - s - 1 < i then 100 + s else if it (b + i + s) = -1 then juF C P D K so ln b i it m (s + 1) (dNow K s st) else if dDn K s st + dUp K s st = 0 ∨ it (b + i + s) < 0 ∨ K.tk < it (b + i + s) ∨ dNow K s st / 81 < it (b + i + s) ∨ stopM C P (C 3 * (dDn K s st - dUp K s st) + it (b + i + s)) (D s) ≠ -5 then s else juF C P D K so ln b i it m (s + 1) (dNow K s st - 81 * it (b + i + s) - 9 * dDn K s st - dUp K s st)
theorem juF_s (C : Nat → Int) (P : Int → Int) (D : Int → Int) (K : Dy) (so ln b i : Int) (it : Int → Int) (m : Nat) (s st : Int) : juF C P D K so ln b i it (m + 1) s st = if so < 0 ∨ i < 0 ∨ ln - s - 1 < i then 100 + s else if it (b + i + s) = -1 then juF C P D K so ln b i it m (s + 1) (dNow K s st) else if dDn K s st + dUp K s st = 0 ∨ it (b + i + s) < 0 ∨ K.tk < it (b + i + s) ∨ dNow K s st / 81 < it (b + i + s) ∨ stopM C P (C 3 * (dDn K s st - dUp K s st) + it (b + i + s)) (D s) ≠ -5 then s else juF C P D K so ln b i it m (s + 1) (dNow K s st - 81 * it (b + i + s) - 9 * dDn K s st - dUp K s st) := rfl
theorem d10_judge_0 : decode c10_judge 0 = .ok (.aload_n 0, 1) := by decide +kernel
theorem d10_judge_1 : decode c10_judge 1 = .ok (.iload_n 1, 1) := by decide +kernel
theorem d10_judge_2 : decode c10_judge 2 = .ok (.invokevirtual 349, 3) := by decide +kernel
theorem d10_judge_5 : decode c10_judge 5 = .ok (.ifCond .eq 10, 3) := by decide +kernel
theorem d10_judge_8 : decode c10_judge 8 = .ok (.aload_n 0, 1) := by decide +kernel
theorem d10_judge_9 : decode c10_judge 9 = .ok (.getfield 13, 3) := by decide +kernel
theorem d10_judge_12 : decode c10_judge 12 = .ok (.ifCond .ge 5, 3) := by decide +kernel
theorem d10_judge_15 : decode c10_judge 15 = .ok (.iconst (-1), 1) := by decide +kernel
theorem d10_judge_16 : decode c10_judge 16 = .ok (.ireturn, 1) := by decide +kernel
theorem d10_judge_17 : decode c10_judge 17 = .ok (.aload_n 0, 1) := by decide +kernel
theorem d10_judge_18 : decode c10_judge 18 = .ok (.getfield 206, 3) := by decide +kernel
theorem d10_judge_21 : decode c10_judge 21 = .ok (.iload_n 1, 1) := by decide +kernel
theorem d10_judge_22 : decode c10_judge 22 = .ok (.iaload, 1) := by decide +kernel
theorem d10_judge_23 : decode c10_judge 23 = .ok (.ifCond .lt 16, 3) := by decide +kernel
theorem d10_judge_26 : decode c10_judge 26 = .ok (.aload_n 0, 1) := by decide +kernel
theorem d10_judge_27 : decode c10_judge 27 = .ok (.getfield 206, 3) := by decide +kernel
theorem d10_judge_30 : decode c10_judge 30 = .ok (.iload_n 1, 1) := by decide +kernel
theorem d10_judge_31 : decode c10_judge 31 = .ok (.iaload, 1) := by decide +kernel
theorem d10_judge_32 : decode c10_judge 32 = .ok (.iconst 2, 1) := by decide +kernel
theorem d10_judge_33 : decode c10_judge 33 = .ok (.if_icmp .eq 6, 3) := by decide +kernel
theorem d10_judge_36 : decode c10_judge 36 = .ok (.bipush (-12), 2) := by decide +kernel
theorem d10_judge_38 : decode c10_judge 38 = .ok (.ireturn, 1) := by decide +kernel
theorem d10_judge_39 : decode c10_judge 39 = .ok (.aload_n 0, 1) := by decide +kernel
theorem d10_judge_40 : decode c10_judge 40 = .ok (.iconst 0, 1) := by decide +kernel
theorem d10_judge_41 : decode c10_judge 41 = .ok (.iconst 0, 1) := by decide +kernel
theorem d10_judge_42 : decode c10_judge 42 = .ok (.iconst 0, 1) := by decide +kernel
theorem d10_judge_43 : decode c10_judge 43 = .ok (.iconst 0, 1) := by decide +kernel
theorem d10_judge_44 : decode c10_judge 44 = .ok (.iconst 1, 1) := by decide +kernel
theorem d10_judge_45 : decode c10_judge 45 = .ok (.invokevirtual 337, 3) := by decide +kernel
theorem d10_judge_48 : decode c10_judge 48 = .ok (.bipush 81, 2) := by decide +kernel
theorem d10_judge_50 : decode c10_judge 50 = .ok (.aload_n 0, 1) := by decide +kernel
theorem d10_judge_51 : decode c10_judge 51 = .ok (.getfield 76, 3) := by decide +kernel
theorem d10_judge_54 : decode c10_judge 54 = .ok (.imul, 1) := by decide +kernel
theorem d10_judge_55 : decode c10_judge 55 = .ok (.istore_n 3, 1) := by decide +kernel
theorem d10_judge_56 : decode c10_judge 56 = .ok (.iconst 0, 1) := by decide +kernel
theorem d10_judge_57 : decode c10_judge 57 = .ok (.istore 4, 2) := by decide +kernel
theorem d10_judge_59 : decode c10_judge 59 = .ok (.iload 4, 2) := by decide +kernel
theorem d10_judge_61 : decode c10_judge 61 = .ok (.bipush 12, 2) := by decide +kernel
theorem d10_judge_63 : decode c10_judge 63 = .ok (.if_icmp .ge 182, 3) := by decide +kernel
theorem d10_judge_66 : decode c10_judge 66 = .ok (.aload_n 0, 1) := by decide +kernel
theorem d10_judge_67 : decode c10_judge 67 = .ok (.getfield 206, 3) := by decide +kernel
theorem d10_judge_70 : decode c10_judge 70 = .ok (.iload_n 1, 1) := by decide +kernel
theorem d10_judge_71 : decode c10_judge 71 = .ok (.iaload, 1) := by decide +kernel
theorem d10_judge_72 : decode c10_judge 72 = .ok (.ifCond .lt 22, 3) := by decide +kernel
theorem d10_judge_75 : decode c10_judge 75 = .ok (.iload_n 2, 1) := by decide +kernel
theorem d10_judge_76 : decode c10_judge 76 = .ok (.ifCond .lt 18, 3) := by decide +kernel
theorem d10_judge_79 : decode c10_judge 79 = .ok (.iload_n 2, 1) := by decide +kernel
theorem d10_judge_80 : decode c10_judge 80 = .ok (.aload_n 0, 1) := by decide +kernel
theorem d10_judge_81 : decode c10_judge 81 = .ok (.getfield 209, 3) := by decide +kernel
theorem d10_judge_84 : decode c10_judge 84 = .ok (.iload_n 1, 1) := by decide +kernel
theorem d10_judge_85 : decode c10_judge 85 = .ok (.iaload, 1) := by decide +kernel
theorem d10_judge_86 : decode c10_judge 86 = .ok (.iload 4, 2) := by decide +kernel
theorem d10_judge_88 : decode c10_judge 88 = .ok (.isub, 1) := by decide +kernel
theorem d10_judge_89 : decode c10_judge 89 = .ok (.iconst 1, 1) := by decide +kernel
theorem d10_judge_90 : decode c10_judge 90 = .ok (.isub, 1) := by decide +kernel
theorem d10_judge_91 : decode c10_judge 91 = .ok (.if_icmp .le 9, 3) := by decide +kernel
theorem d10_judge_94 : decode c10_judge 94 = .ok (.bipush 100, 2) := by decide +kernel
theorem d10_judge_96 : decode c10_judge 96 = .ok (.iload 4, 2) := by decide +kernel
theorem d10_judge_98 : decode c10_judge 98 = .ok (.iadd, 1) := by decide +kernel
theorem d10_judge_99 : decode c10_judge 99 = .ok (.ireturn, 1) := by decide +kernel
theorem d10_judge_100 : decode c10_judge 100 = .ok (.aload_n 0, 1) := by decide +kernel
theorem d10_judge_101 : decode c10_judge 101 = .ok (.iload 4, 2) := by decide +kernel
theorem d10_judge_103 : decode c10_judge 103 = .ok (.iload_n 3, 1) := by decide +kernel
theorem d10_judge_104 : decode c10_judge 104 = .ok (.invokevirtual 318, 3) := by decide +kernel
theorem d10_judge_107 : decode c10_judge 107 = .ok (.aload_n 0, 1) := by decide +kernel
theorem d10_judge_108 : decode c10_judge 108 = .ok (.getfield 115, 3) := by decide +kernel
theorem d10_judge_111 : decode c10_judge 111 = .ok (.istore_n 3, 1) := by decide +kernel
theorem d10_judge_112 : decode c10_judge 112 = .ok (.aload_n 0, 1) := by decide +kernel
theorem d10_judge_113 : decode c10_judge 113 = .ok (.getfield 212, 3) := by decide +kernel
theorem d10_judge_116 : decode c10_judge 116 = .ok (.bipush 60, 2) := by decide +kernel
theorem d10_judge_118 : decode c10_judge 118 = .ok (.iload_n 1, 1) := by decide +kernel
theorem d10_judge_119 : decode c10_judge 119 = .ok (.imul, 1) := by decide +kernel
theorem d10_judge_120 : decode c10_judge 120 = .ok (.iload_n 2, 1) := by decide +kernel
theorem d10_judge_121 : decode c10_judge 121 = .ok (.iadd, 1) := by decide +kernel
theorem d10_judge_122 : decode c10_judge 122 = .ok (.iload 4, 2) := by decide +kernel
theorem d10_judge_124 : decode c10_judge 124 = .ok (.iadd, 1) := by decide +kernel
theorem d10_judge_125 : decode c10_judge 125 = .ok (.laload, 1) := by decide +kernel
theorem d10_judge_126 : decode c10_judge 126 = .ok (.lstore 5, 2) := by decide +kernel
theorem d10_judge_128 : decode c10_judge 128 = .ok (.lload 5, 2) := by decide +kernel
theorem d10_judge_130 : decode c10_judge 130 = .ok (.ldc2_w 352, 3) := by decide +kernel
theorem d10_judge_133 : decode c10_judge 133 = .ok (.lcmp, 1) := by decide +kernel
theorem d10_judge_134 : decode c10_judge 134 = .ok (.ifCond .ne 6, 3) := by decide +kernel
theorem d10_judge_137 : decode c10_judge 137 = .ok (.goto 102, 3) := by decide +kernel
theorem d10_judge_140 : decode c10_judge 140 = .ok (.aload_n 0, 1) := by decide +kernel
theorem d10_judge_141 : decode c10_judge 141 = .ok (.getfield 121, 3) := by decide +kernel
theorem d10_judge_144 : decode c10_judge 144 = .ok (.aload_n 0, 1) := by decide +kernel
theorem d10_judge_145 : decode c10_judge 145 = .ok (.getfield 124, 3) := by decide +kernel
theorem d10_judge_148 : decode c10_judge 148 = .ok (.iadd, 1) := by decide +kernel
theorem d10_judge_149 : decode c10_judge 149 = .ok (.ifCond .eq 62, 3) := by decide +kernel
theorem d10_judge_152 : decode c10_judge 152 = .ok (.lload 5, 2) := by decide +kernel
theorem d10_judge_154 : decode c10_judge 154 = .ok (.lconst 0, 1) := by decide +kernel
theorem d10_judge_155 : decode c10_judge 155 = .ok (.lcmp, 1) := by decide +kernel
theorem d10_judge_156 : decode c10_judge 156 = .ok (.ifCond .lt 55, 3) := by decide +kernel
theorem d10_judge_159 : decode c10_judge 159 = .ok (.lload 5, 2) := by decide +kernel
theorem d10_judge_161 : decode c10_judge 161 = .ok (.aload_n 0, 1) := by decide +kernel
theorem d10_judge_162 : decode c10_judge 162 = .ok (.getfield 97, 3) := by decide +kernel
theorem d10_judge_165 : decode c10_judge 165 = .ok (.i2l, 1) := by decide +kernel
theorem d10_judge_166 : decode c10_judge 166 = .ok (.lcmp, 1) := by decide +kernel
theorem d10_judge_167 : decode c10_judge 167 = .ok (.ifCond .gt 44, 3) := by decide +kernel
theorem d10_judge_170 : decode c10_judge 170 = .ok (.lload 5, 2) := by decide +kernel
theorem d10_judge_172 : decode c10_judge 172 = .ok (.aload_n 0, 1) := by decide +kernel
theorem d10_judge_173 : decode c10_judge 173 = .ok (.getfield 115, 3) := by decide +kernel
theorem d10_judge_176 : decode c10_judge 176 = .ok (.bipush 81, 2) := by decide +kernel
theorem d10_judge_178 : decode c10_judge 178 = .ok (.idiv, 1) := by decide +kernel
theorem d10_judge_179 : decode c10_judge 179 = .ok (.i2l, 1) := by decide +kernel
theorem d10_judge_180 : decode c10_judge 180 = .ok (.lcmp, 1) := by decide +kernel
theorem d10_judge_181 : decode c10_judge 181 = .ok (.ifCond .gt 30, 3) := by decide +kernel
theorem d10_judge_184 : decode c10_judge 184 = .ok (.aload_n 0, 1) := by decide +kernel
theorem d10_judge_185 : decode c10_judge 185 = .ok (.aload_n 0, 1) := by decide +kernel
theorem d10_judge_186 : decode c10_judge 186 = .ok (.iconst 3, 1) := by decide +kernel
theorem d10_judge_187 : decode c10_judge 187 = .ok (.iload 4, 2) := by decide +kernel
theorem d10_judge_189 : decode c10_judge 189 = .ok (.invokevirtual 296, 3) := by decide +kernel
theorem d10_judge_192 : decode c10_judge 192 = .ok (.aload_n 0, 1) := by decide +kernel
theorem d10_judge_193 : decode c10_judge 193 = .ok (.getfield 121, 3) := by decide +kernel
theorem d10_judge_196 : decode c10_judge 196 = .ok (.aload_n 0, 1) := by decide +kernel
theorem d10_judge_197 : decode c10_judge 197 = .ok (.getfield 124, 3) := by decide +kernel
theorem d10_judge_200 : decode c10_judge 200 = .ok (.lload 5, 2) := by decide +kernel
theorem d10_judge_202 : decode c10_judge 202 = .ok (.l2i, 1) := by decide +kernel
theorem d10_judge_203 : decode c10_judge 203 = .ok (.invokevirtual 303, 3) := by decide +kernel
theorem d10_judge_206 : decode c10_judge 206 = .ok (.bipush (-5), 2) := by decide +kernel
theorem d10_judge_208 : decode c10_judge 208 = .ok (.if_icmp .eq 6, 3) := by decide +kernel
theorem d10_judge_211 : decode c10_judge 211 = .ok (.iload 4, 2) := by decide +kernel
theorem d10_judge_213 : decode c10_judge 213 = .ok (.ireturn, 1) := by decide +kernel
theorem d10_judge_214 : decode c10_judge 214 = .ok (.aload_n 0, 1) := by decide +kernel
theorem d10_judge_215 : decode c10_judge 215 = .ok (.getfield 115, 3) := by decide +kernel
theorem d10_judge_218 : decode c10_judge 218 = .ok (.bipush 81, 2) := by decide +kernel
theorem d10_judge_220 : decode c10_judge 220 = .ok (.lload 5, 2) := by decide +kernel
theorem d10_judge_222 : decode c10_judge 222 = .ok (.l2i, 1) := by decide +kernel
theorem d10_judge_223 : decode c10_judge 223 = .ok (.imul, 1) := by decide +kernel
theorem d10_judge_224 : decode c10_judge 224 = .ok (.isub, 1) := by decide +kernel
theorem d10_judge_225 : decode c10_judge 225 = .ok (.bipush 9, 2) := by decide +kernel
theorem d10_judge_227 : decode c10_judge 227 = .ok (.aload_n 0, 1) := by decide +kernel
theorem d10_judge_228 : decode c10_judge 228 = .ok (.getfield 121, 3) := by decide +kernel
theorem d10_judge_231 : decode c10_judge 231 = .ok (.imul, 1) := by decide +kernel
theorem d10_judge_232 : decode c10_judge 232 = .ok (.isub, 1) := by decide +kernel
theorem d10_judge_233 : decode c10_judge 233 = .ok (.aload_n 0, 1) := by decide +kernel
theorem d10_judge_234 : decode c10_judge 234 = .ok (.getfield 124, 3) := by decide +kernel
theorem d10_judge_237 : decode c10_judge 237 = .ok (.isub, 1) := by decide +kernel
theorem d10_judge_238 : decode c10_judge 238 = .ok (.istore_n 3, 1) := by decide +kernel
theorem d10_judge_239 : decode c10_judge 239 = .ok (.iinc 4 1, 3) := by decide +kernel
theorem d10_judge_242 : decode c10_judge 242 = .ok (.goto (-183), 3) := by decide +kernel
theorem d10_judge_245 : decode c10_judge 245 = .ok (.bipush (-5), 2) := by decide +kernel
theorem d10_judge_247 : decode c10_judge 247 = .ok (.ireturn, 1) := by decide +kernel
theorem mw10_judge : MV y10_judge c10_judge 7 (some .int) 2 := ⟨cd10_judge, ini10, na10_judge, im10_judge, se10_judge⟩
set_option maxHeartbeats 4000000 in
set_option maxRecDepth 100000 in
theorem k10_judge (l : Launch) (E : En) (mo : Nat) (ad : Nat → Nat) (S : Nat → Int) (la : Int → Int) (po : Int → Int) (pt : Int → Int) (cl : Int → Int) (wd : Int → Int) (nu : Int → Int) (fo : Int → Int) (to : Int → Int) (sg : Int → Int) (pl : Int → Int) (Fq : Int → Int → Int → Int) (co : Int → Int) (spr : Int → Int) (le : Int → Int) (so : Int → Int) (ln : Int → Int) (it : Int → Int) (t : Int) (i : Int) (r_t : R32 t) (r_i : R32 i) (hth : -1 ≤ S 1 ∧ S 1 ≤ 3) (hms : 0 ≤ S 1 → MSum wd nu fo to sg cl Fq (S 1)) (hwm : 0 ≤ S 1 → wfC (cM la po (S 1)) (pM pt (S 1))) (hco : ∀ j, 0 ≤ j → j < 24 → 0 ≤ co j ∧ co j ≤ 6) (hsg : ∀ j, 0 ≤ j → j < 400 → -200 ≤ sg j ∧ sg j ≤ 20000) (hpl : ∀ j, 0 ≤ j → j < 100 → 0 ≤ pl j ∧ pl j ≤ 1) (hw : S 20 = 0 ∨ S 20 = 1) (hfi : 0 ≤ S 21 ∧ S 21 ≤ 40) (hso : ∀ j, 0 ≤ j → j < 6 → -1 ≤ so j ∧ so j ≤ 4) (hln : ∀ j, 0 ≤ j → j < 6 → 0 ≤ ln j ∧ ln j ≤ 60) (hit : ∀ j, 0 ≤ j → j < 360 → R64 (it j)) : Cm l E y10_judge c10_judge 7 (some .int) { frames := 5, cells := 0, slots := 0, locals := 126 } [.ref mo, .int (iZ t), .int (iZ i)] [(mo, mO ad S), (ad 11, aInt E 36 la), (ad 12, aInt E 4 po), (ad 13, aInt E 20 pt), (ad 6, aInt E 4 cl), (ad 7, aInt E 48 wd), (ad 8, aInt E 48 nu), (ad 9, aInt E 48 fo), (ad 10, aInt E 48 to), (ad 14, aInt E 400 sg), (ad 19, aBoo E 100 pl), (ad 22, aInt E 24 co), (ad 32, aInt E 12 spr), (ad 33, aInt E 588 le), (ad 64, aInt E 6 so), (ad 65, aInt E 6 ln), (ad 66, aLng E 360 it)] (fun r ws => ∃ (v : Int), ∃ (pl1 : Int → Int), ∃ (sp1 : Int → Int), ∃ (le1 : Int → Int), ∃ (tk1 : Int), ∃ (se1 : Int), ∃ (mx1 : Int), ∃ (ti1 : Int), ∃ (nw : Int), ∃ (lo : Int), ∃ (dn : Int), ∃ (up : Int), ∃ (wa : Int), r = some (.int (iZ v)) ∧ ws = [(mo, mO ad (upS (upS (upS (upS (upS (upS (upS (upS (upS S 28 tk1) 29 se1) 30 mx1) 31 ti1) 34 nw) 35 lo) 36 dn) 37 up) 38 wa)), (ad 11, aInt E 36 la), (ad 12, aInt E 4 po), (ad 13, aInt E 20 pt), (ad 6, aInt E 4 cl), (ad 7, aInt E 48 wd), (ad 8, aInt E 48 nu), (ad 9, aInt E 48 fo), (ad 10, aInt E 48 to), (ad 14, aInt E 400 sg), (ad 19, aBoo E 100 pl1), (ad 22, aInt E 24 co), (ad 32, aInt E 12 sp1), (ad 33, aInt E 588 le1), (ad 64, aInt E 6 so), (ad 65, aInt E 6 ln), (ad 66, aLng E 360 it)] ∧ (v = (if (0 ≤ t ∧ t ≤ 5) ∧ ¬ S 1 < 0 then (if 0 ≤ so t ∧ so t ≠ 2 then -12 else juF (cM la po (S 1)) (pM pt (S 1)) (fun s => smM wd nu cl Fq (S 1) 3 s (S 20)) (kD (cM la po (S 1)) (pM pt (S 1)) (fun s => smM wd nu cl Fq (S 1) 3 s (S 20)) (fun s => smM wd nu cl Fq (S 1) 7 s (S 20)) co 0 0 0 0 1) (so t) (ln t) (60 * t) i it 12 0 (81 * S 21)) else -1) ∧ ∀ j, 0 ≤ j → j < 100 → 0 ≤ pl1 j ∧ pl1 j ≤ 1)) := by
  refine Cm.of (by decide +kernel) (Nat.le_of_ble_eq_true rfl) (fun Γ A hl hargs hin G F => ?_)
  subst hl
  refine j_aload_n G 0 rfl d10_judge_0 ?_
  refine j_iload_n G 1 rfl d10_judge_1 ?_
  refine j_VP G (k10_isTape (xl Γ) E mo ad S t (by first | assumption | omega | (simp only [upS, reduceIte, Nat.reduceEqDiff, eq_self, List.length_cons, List.length_nil, List.length_append] <;> omega))) mw10_isTape ml10_349 [0] rfl 0 10 rfl rfl rfl ⟨Nat.le_of_ble_eq_true rfl, Nat.le_of_ble_eq_true rfl⟩ rfl (rest := []) rfl (Nat.le_of_ble_eq_true rfl) d10_judge_2 ⟨Nat.le_of_ble_eq_true rfl, Nat.le_of_ble_eq_true rfl⟩ (fun r hr => ?_)
  obtain ⟨v2, rfl, hq1⟩ := hr
  rcases hq1 with ⟨hq1, rfl⟩ | ⟨hq1, rfl⟩
  ·
    refine j_if_eq (tgt := 15) G d10_judge_5 (by decide) (by decide) (fun h3 => absurd h3 (by decide)) (fun h3 => ?_)
    refine j_aload_n G 0 rfl d10_judge_8 ?_
    refine j_get G 0 10 1 in10 fl10_13 d10_judge_9 rfl rfl (by decide) (v := .int (iZ (S 1))) rfl rfl ?_
    refine j_if_ge (tgt := 17) G d10_judge_12 (by decide) (by omega) (fun h4 => ?_) (fun h4 => ?_)
    ·
      have hms1 := hms (by omega)
      have hwm1 := hwm (by omega)
      have hpd : 0 ≤ la (9 * S 1 + 8) ∧ la (9 * S 1 + 8) ≤ 40 := hwm1.2.2.2.2.2.2.2
      have hs1 := hso t (by omega) (by omega)
      have hl1 := hln t (by omega) (by omega)
      refine j_aload_n G 0 rfl d10_judge_17 ?_
      refine j_get G 0 10 64 in10 fl10_206 d10_judge_18 rfl rfl (by decide) (v := .ref (ad 64)) rfl rfl ?_
      refine j_iload_n G 1 rfl d10_judge_21 ?_
      refine j_iald G 14 rfl (by omega) d10_judge_22 ?_
      refine j_if_lt (tgt := 39) G d10_judge_23 (by decide) (by omega) (fun h5 => ?_) (fun h5 => ?_)
      ·
        refine j_aload_n G 0 rfl d10_judge_39 ?_
        refine j_iconst G d10_judge_40 ?_
        refine j_iconst G d10_judge_41 ?_
        refine j_iconst G d10_judge_42 ?_
        refine j_iconst G d10_judge_43 ?_
        refine j_iconst G d10_judge_44 ?_
        refine j_VM G (rm' := { frames := 4, cells := 0, slots := 0, locals := 98 }) (wc := [(mo, mO ad S), (ad 11, aInt E 36 la), (ad 12, aInt E 4 po), (ad 13, aInt E 20 pt), (ad 6, aInt E 4 cl), (ad 7, aInt E 48 wd), (ad 8, aInt E 48 nu), (ad 9, aInt E 48 fo), (ad 10, aInt E 48 to), (ad 14, aInt E 400 sg), (ad 19, aBoo E 100 pl), (ad 22, aInt E 24 co), (ad 32, aInt E 12 spr), (ad 33, aInt E 588 le)]) (wr := [(ad 64, aInt E 6 so), (ad 65, aInt E 6 ln), (ad 66, aLng E 360 it)]) (k10_layDay (xl Γ) E mo ad S la po pt cl wd nu fo to sg pl Fq co spr le 0 0 0 0 1 (by first | assumption | omega | (simp only [upS, reduceIte, Nat.reduceEqDiff, eq_self, List.length_cons, List.length_nil, List.length_append] <;> omega)) (by first | assumption | omega | (simp only [upS, reduceIte, Nat.reduceEqDiff, eq_self, List.length_cons, List.length_nil, List.length_append] <;> omega)) (by first | assumption | omega | (simp only [upS, reduceIte, Nat.reduceEqDiff, eq_self, List.length_cons, List.length_nil, List.length_append] <;> omega)) (by first | assumption | omega | (simp only [upS, reduceIte, Nat.reduceEqDiff, eq_self, List.length_cons, List.length_nil, List.length_append] <;> omega)) (by first | assumption | omega | (simp only [upS, reduceIte, Nat.reduceEqDiff, eq_self, List.length_cons, List.length_nil, List.length_append] <;> omega)) (by first | assumption | omega | (simp only [upS, reduceIte, Nat.reduceEqDiff, eq_self, List.length_cons, List.length_nil, List.length_append] <;> omega)) (by first | assumption | omega | (simp only [upS, reduceIte, Nat.reduceEqDiff, eq_self, List.length_cons, List.length_nil, List.length_append] <;> omega)) (by first | assumption | omega | (simp only [upS, reduceIte, Nat.reduceEqDiff, eq_self, List.length_cons, List.length_nil, List.length_append] <;> omega)) (by first | assumption | omega | (simp only [upS, reduceIte, Nat.reduceEqDiff, eq_self, List.length_cons, List.length_nil, List.length_append] <;> omega)) (by first | assumption | omega | (simp only [upS, reduceIte, Nat.reduceEqDiff, eq_self, List.length_cons, List.length_nil, List.length_append] <;> omega)) (by first | assumption | omega | (simp only [upS, reduceIte, Nat.reduceEqDiff, eq_self, List.length_cons, List.length_nil, List.length_append] <;> omega)) (by first | assumption | omega | (simp only [upS, reduceIte, Nat.reduceEqDiff, eq_self, List.length_cons, List.length_nil, List.length_append] <;> omega)) (by first | assumption | omega | (simp only [upS, reduceIte, Nat.reduceEqDiff, eq_self, List.length_cons, List.length_nil, List.length_append] <;> omega))) mw10_layDay ml10_337 [0, 1, 2, 3, 4, 5, 6, 7, 8, 9, 10, 11, 12, 13] [14, 15, 16] rfl rfl ⟨rfl, rfl⟩ (by decide) 0 10 rfl rfl rfl ⟨Nat.le_of_ble_eq_true rfl, Nat.le_of_ble_eq_true rfl⟩ rfl (rest := []) rfl (Nat.le_of_ble_eq_true rfl) d10_judge_45 ⟨Nat.le_of_ble_eq_true rfl, Nat.le_of_ble_eq_true rfl⟩ (fun r w1 hr => ?_)
        obtain ⟨pl1_7, sp1_8, le1_9, tk1_10, se1_11, mx1_12, rfl, rfl, ⟨hq6_0, hq6_1⟩⟩ := hr
        refine j_eq (ws' := [(ad 64, aInt E 6 so), (ad 65, aInt E 6 ln), (ad 66, aLng E 360 it), (mo, mO ad (upS (upS (upS (upS S 28 tk1_10) 29 se1_11) 30 mx1_12) 31 1)), (ad 11, aInt E 36 la), (ad 12, aInt E 4 po), (ad 13, aInt E 20 pt), (ad 6, aInt E 4 cl), (ad 7, aInt E 48 wd), (ad 8, aInt E 48 nu), (ad 9, aInt E 48 fo), (ad 10, aInt E 48 to), (ad 14, aInt E 400 sg), (ad 19, aBoo E 100 pl1_7), (ad 22, aInt E 24 co), (ad 32, aInt E 12 sp1_8), (ad 33, aInt E 588 le1_9)]) rfl rfl rfl ?_
        have hly := hq6_0
        have hpl1 := hq6_1
        have hok := hly.2.2.2.2.1
        have htk : tk1_10 = Dy.tk (kD (cM la po (S 1)) (pM pt (S 1)) (fun s => smM wd nu cl Fq (S 1) 3 s (S 20)) (fun s => smM wd nu cl Fq (S 1) 7 s (S 20)) co 0 0 0 0 1) := hly.1
        have htr := hok.1
        refine j_bipush G d10_judge_48 rfl ?_
        refine j_aload_n G 0 rfl d10_judge_50 ?_
        refine j_get G 3 10 21 in10 fl10_76 d10_judge_51 rfl rfl (by decide) (v := .int (iZ (S 21))) rfl rfl ?_
        refine j_imul G d10_judge_54 ?_
        refine j_istore_n G d10_judge_55 (by decide) rfl ?_
        refine j_iconst G d10_judge_56 ?_
        refine j_istore G d10_judge_57 (by decide) rfl ?_
        refine j_eq (ws' := [(ad 64, aInt E 6 so), (ad 65, aInt E 6 ln), (ad 66, aLng E 360 it), (mo, mO ad (upS (upS (upS (upS (upS (upS (upS (upS (upS S 28 tk1_10) 29 se1_11) 30 mx1_12) 31 1) 34 (S 34)) 35 (S 35)) 36 (S 36)) 37 (S 37)) 38 (S 38))), (ad 11, aInt E 36 la), (ad 12, aInt E 4 po), (ad 13, aInt E 20 pt), (ad 6, aInt E 4 cl), (ad 7, aInt E 48 wd), (ad 8, aInt E 48 nu), (ad 9, aInt E 48 fo), (ad 10, aInt E 48 to), (ad 14, aInt E 400 sg), (ad 19, aBoo E 100 pl1_7), (ad 22, aInt E 24 co), (ad 32, aInt E 12 sp1_8), (ad 33, aInt E 588 le1_9)]) rfl rfl rfl ?_
        have lp59 : ∀ (fu : Nat) (s : Int) (st : Int) (pl2 : Int → Int) (nw2 : Int) (lo2 : Int) (dn2 : Int) (up2 : Int) (wa2 : Int), (12 - s).toNat < fu → (0 ≤ s ∧ s ≤ 12) → (0 ≤ st ∧ st ≤ 3320) → (∀ j, 0 ≤ j → j < 100 → 0 ≤ pl2 j ∧ pl2 j ≤ 1) → (juF (cM la po (S 1)) (pM pt (S 1)) (fun s => smM wd nu cl Fq (S 1) 3 s (S 20)) (kD (cM la po (S 1)) (pM pt (S 1)) (fun s => smM wd nu cl Fq (S 1) 3 s (S 20)) (fun s => smM wd nu cl Fq (S 1) 7 s (S 20)) co 0 0 0 0 1) (so t) (ln t) (60 * t) i it 12 0 (81 * S 21) = juF (cM la po (S 1)) (pM pt (S 1)) (fun s => smM wd nu cl Fq (S 1) 3 s (S 20)) (kD (cM la po (S 1)) (pM pt (S 1)) (fun s => smM wd nu cl Fq (S 1) 3 s (S 20)) (fun s => smM wd nu cl Fq (S 1) 7 s (S 20)) co 0 0 0 0 1) (so t) (ln t) (60 * t) i it (12 - s).toNat s st) →  J E 7 Γ (some A) 0 0 [(ad 64, aInt E 6 so), (ad 65, aInt E 6 ln), (ad 66, aLng E 360 it), (mo, mO ad (upS (upS (upS (upS (upS (upS (upS (upS (upS S 28 tk1_10) 29 se1_11) 30 mx1_12) 31 1) 34 nw2) 35 lo2) 36 dn2) 37 up2) 38 wa2)), (ad 11, aInt E 36 la), (ad 12, aInt E 4 po), (ad 13, aInt E 20 pt), (ad 6, aInt E 4 cl), (ad 7, aInt E 48 wd), (ad 8, aInt E 48 nu), (ad 9, aInt E 48 fo), (ad 10, aInt E 48 to), (ad 14, aInt E 400 sg), (ad 19, aBoo E 100 pl2), (ad 22, aInt E 24 co), (ad 32, aInt E 12 sp1_8), (ad 33, aInt E 588 le1_9)] 59 [(4, .int (iZ s)), (3, .int (iZ st)), (0, .ref mo), (1, .int (iZ t)), (2, .int (iZ i))] [] := by
          intro fu
          induction fu with
          | zero =>
            intro s st pl2 nw2 lo2 dn2 up2 wa2 hm
            exact absurd hm (Nat.not_lt_zero _)
          | succ fu ih59 =>
            intro s st pl2 nw2 lo2 dn2 up2 wa2 hm hs hst hpl2 hw
            refine j_iload G 0 rfl d10_judge_59 ?_
            refine j_bipush G d10_judge_61 rfl ?_
            refine j_icmp_ge (tgt := 245) G d10_judge_63 (by decide) (by omega) (by decide) (fun h13 => ?_) (fun h13 => ?_)
            ·
              refine j_bipush G d10_judge_245 rfl ?_
              refine j_perm (ws' := [(mo, mO ad (upS (upS (upS (upS (upS (upS (upS (upS (upS S 28 tk1_10) 29 se1_11) 30 mx1_12) 31 1) 34 nw2) 35 lo2) 36 dn2) 37 up2) 38 wa2)), (ad 11, aInt E 36 la), (ad 12, aInt E 4 po), (ad 13, aInt E 20 pt), (ad 6, aInt E 4 cl), (ad 7, aInt E 48 wd), (ad 8, aInt E 48 nu), (ad 9, aInt E 48 fo), (ad 10, aInt E 48 to), (ad 14, aInt E 400 sg), (ad 19, aBoo E 100 pl2), (ad 22, aInt E 24 co), (ad 32, aInt E 12 sp1_8), (ad 33, aInt E 588 le1_9), (ad 64, aInt E 6 so), (ad 65, aInt E 6 ln), (ad 66, aLng E 360 it)]) [3, 4, 5, 6, 7, 8, 9, 10, 11, 12, 13, 14, 15, 16, 0, 1, 2] rfl rfl rfl ?_
              exact j_iret G F d10_judge_247 ⟨(-5), pl2, sp1_8, le1_9, tk1_10, se1_11, mx1_12, 1, nw2, lo2, dn2, up2, wa2, rfl, rfl, (by first | exact ⟨(if_neg (by omega)).symm, hpl⟩ | (refine ⟨?_, hpl⟩; rw [if_pos (by omega), if_pos (by omega)]; done) | (refine ⟨?_, hpl2⟩; rw [if_pos (by omega), if_neg (by omega), hw, show (12 - s).toNat = 0 by omega]; rfl) | (refine ⟨?_, hpl2⟩; rw [if_pos (by omega), if_neg (by omega), hw, show (12 - s).toNat = (12 - (s + 1)).toNat + 1 by omega, juF_s, if_pos (by omega)]; done) | (refine ⟨?_, by first | exact hpl3 | exact hpl2⟩; rw [if_pos (by omega), if_neg (by omega), hw, show (12 - s).toNat = (12 - (s + 1)).toNat + 1 by omega, juF_s, if_neg (by omega), if_neg hi1, if_pos (by omega)]; done) | (exfalso; omega))⟩
            ·
              refine j_aload_n G 2 rfl d10_judge_66 ?_
              refine j_get G 3 10 64 in10 fl10_206 d10_judge_67 rfl rfl (by decide) (v := .ref (ad 64)) rfl rfl ?_
              refine j_iload_n G 3 rfl d10_judge_70 ?_
              refine j_iald G 0 rfl (by omega) d10_judge_71 ?_
              refine j_if_lt (tgt := 94) G d10_judge_72 (by decide) (by omega) (fun h14 => ?_) (fun h14 => ?_)
              ·
                refine j_bipush G d10_judge_94 rfl ?_
                refine j_iload G 0 rfl d10_judge_96 ?_
                refine j_iadd G d10_judge_98 ?_
                refine j_perm (ws' := [(mo, mO ad (upS (upS (upS (upS (upS (upS (upS (upS (upS S 28 tk1_10) 29 se1_11) 30 mx1_12) 31 1) 34 nw2) 35 lo2) 36 dn2) 37 up2) 38 wa2)), (ad 11, aInt E 36 la), (ad 12, aInt E 4 po), (ad 13, aInt E 20 pt), (ad 6, aInt E 4 cl), (ad 7, aInt E 48 wd), (ad 8, aInt E 48 nu), (ad 9, aInt E 48 fo), (ad 10, aInt E 48 to), (ad 14, aInt E 400 sg), (ad 19, aBoo E 100 pl2), (ad 22, aInt E 24 co), (ad 32, aInt E 12 sp1_8), (ad 33, aInt E 588 le1_9), (ad 64, aInt E 6 so), (ad 65, aInt E 6 ln), (ad 66, aLng E 360 it)]) [3, 4, 5, 6, 7, 8, 9, 10, 11, 12, 13, 14, 15, 16, 0, 1, 2] rfl rfl rfl ?_
                exact j_iret G F d10_judge_99 ⟨100 + s, pl2, sp1_8, le1_9, tk1_10, se1_11, mx1_12, 1, nw2, lo2, dn2, up2, wa2, rfl, rfl, (by first | exact ⟨(if_neg (by omega)).symm, hpl⟩ | (refine ⟨?_, hpl⟩; rw [if_pos (by omega), if_pos (by omega)]; done) | (refine ⟨?_, hpl2⟩; rw [if_pos (by omega), if_neg (by omega), hw, show (12 - s).toNat = 0 by omega]; rfl) | (refine ⟨?_, hpl2⟩; rw [if_pos (by omega), if_neg (by omega), hw, show (12 - s).toNat = (12 - (s + 1)).toNat + 1 by omega, juF_s, if_pos (by omega)]; done) | (refine ⟨?_, by first | exact hpl3 | exact hpl2⟩; rw [if_pos (by omega), if_neg (by omega), hw, show (12 - s).toNat = (12 - (s + 1)).toNat + 1 by omega, juF_s, if_neg (by omega), if_neg hi1, if_pos (by omega)]; done) | (exfalso; omega))⟩
              ·
                refine j_iload_n G 4 rfl d10_judge_75 ?_
                refine j_if_lt (tgt := 94) G d10_judge_76 (by decide) (by omega) (fun h15 => ?_) (fun h15 => ?_)
                ·
                  refine j_bipush G d10_judge_94 rfl ?_
                  refine j_iload G 0 rfl d10_judge_96 ?_
                  refine j_iadd G d10_judge_98 ?_
                  refine j_perm (ws' := [(mo, mO ad (upS (upS (upS (upS (upS (upS (upS (upS (upS S 28 tk1_10) 29 se1_11) 30 mx1_12) 31 1) 34 nw2) 35 lo2) 36 dn2) 37 up2) 38 wa2)), (ad 11, aInt E 36 la), (ad 12, aInt E 4 po), (ad 13, aInt E 20 pt), (ad 6, aInt E 4 cl), (ad 7, aInt E 48 wd), (ad 8, aInt E 48 nu), (ad 9, aInt E 48 fo), (ad 10, aInt E 48 to), (ad 14, aInt E 400 sg), (ad 19, aBoo E 100 pl2), (ad 22, aInt E 24 co), (ad 32, aInt E 12 sp1_8), (ad 33, aInt E 588 le1_9), (ad 64, aInt E 6 so), (ad 65, aInt E 6 ln), (ad 66, aLng E 360 it)]) [3, 4, 5, 6, 7, 8, 9, 10, 11, 12, 13, 14, 15, 16, 0, 1, 2] rfl rfl rfl ?_
                  exact j_iret G F d10_judge_99 ⟨100 + s, pl2, sp1_8, le1_9, tk1_10, se1_11, mx1_12, 1, nw2, lo2, dn2, up2, wa2, rfl, rfl, (by first | exact ⟨(if_neg (by omega)).symm, hpl⟩ | (refine ⟨?_, hpl⟩; rw [if_pos (by omega), if_pos (by omega)]; done) | (refine ⟨?_, hpl2⟩; rw [if_pos (by omega), if_neg (by omega), hw, show (12 - s).toNat = 0 by omega]; rfl) | (refine ⟨?_, hpl2⟩; rw [if_pos (by omega), if_neg (by omega), hw, show (12 - s).toNat = (12 - (s + 1)).toNat + 1 by omega, juF_s, if_pos (by omega)]; done) | (refine ⟨?_, by first | exact hpl3 | exact hpl2⟩; rw [if_pos (by omega), if_neg (by omega), hw, show (12 - s).toNat = (12 - (s + 1)).toNat + 1 by omega, juF_s, if_neg (by omega), if_neg hi1, if_pos (by omega)]; done) | (exfalso; omega))⟩
                ·
                  refine j_iload_n G 4 rfl d10_judge_79 ?_
                  refine j_aload_n G 2 rfl d10_judge_80 ?_
                  refine j_get G 3 10 65 in10 fl10_209 d10_judge_81 rfl rfl (by decide) (v := .ref (ad 65)) rfl rfl ?_
                  refine j_iload_n G 3 rfl d10_judge_84 ?_
                  refine j_iald G 1 rfl (by omega) d10_judge_85 ?_
                  refine j_iload G 0 rfl d10_judge_86 ?_
                  refine j_isub G d10_judge_88 ?_
                  refine j_iconst G d10_judge_89 ?_
                  refine j_isub G d10_judge_90 ?_
                  refine j_icmp_le (tgt := 100) G d10_judge_91 (by decide) (by omega) (by omega) (fun h16 => ?_) (fun h16 => ?_)
                  ·
                    refine j_aload_n G 2 rfl d10_judge_100 ?_
                    refine j_iload G 0 rfl d10_judge_101 ?_
                    refine j_iload_n G 1 rfl d10_judge_103 ?_
                    refine j_VM G (rm' := { frames := 1, cells := 0, slots := 0, locals := 22 }) (wc := [(mo, mO ad (upS (upS (upS (upS (upS (upS (upS (upS (upS S 28 tk1_10) 29 se1_11) 30 mx1_12) 31 1) 34 nw2) 35 lo2) 36 dn2) 37 up2) 38 wa2)), (ad 22, aInt E 24 co), (ad 32, aInt E 12 sp1_8), (ad 33, aInt E 588 le1_9)]) (wr := [(ad 64, aInt E 6 so), (ad 65, aInt E 6 ln), (ad 66, aLng E 360 it), (ad 11, aInt E 36 la), (ad 12, aInt E 4 po), (ad 13, aInt E 20 pt), (ad 6, aInt E 4 cl), (ad 7, aInt E 48 wd), (ad 8, aInt E 48 nu), (ad 9, aInt E 48 fo), (ad 10, aInt E 48 to), (ad 14, aInt E 400 sg), (ad 19, aBoo E 100 pl2)]) (k10_comesIn (xl Γ) E mo ad (upS (upS (upS (upS (upS (upS (upS (upS (upS S 28 tk1_10) 29 se1_11) 30 mx1_12) 31 1) 34 nw2) 35 lo2) 36 dn2) 37 up2) 38 wa2) co sp1_8 le1_9 (kD (cM la po (S 1)) (pM pt (S 1)) (fun s => smM wd nu cl Fq (S 1) 3 s (S 20)) (fun s => smM wd nu cl Fq (S 1) 7 s (S 20)) co 0 0 0 0 1) s st (by first | assumption | omega | (simp only [upS, reduceIte, Nat.reduceEqDiff, eq_self, List.length_cons, List.length_nil, List.length_append] <;> omega)) (by first | assumption | omega | (simp only [upS, reduceIte, Nat.reduceEqDiff, eq_self, List.length_cons, List.length_nil, List.length_append] <;> omega)) (by first | assumption | omega | (simp only [upS, reduceIte, Nat.reduceEqDiff, eq_self, List.length_cons, List.length_nil, List.length_append] <;> omega))) mw10_comesIn ml10_318 [3, 14, 15, 16] [0, 1, 2, 4, 5, 6, 7, 8, 9, 10, 11, 12, 13] rfl rfl ⟨rfl, rfl⟩ (by decide) 3 10 rfl rfl rfl ⟨Nat.le_of_ble_eq_true rfl, Nat.le_of_ble_eq_true rfl⟩ rfl (rest := []) rfl (Nat.le_of_ble_eq_true rfl) d10_judge_104 ⟨Nat.le_of_ble_eq_true rfl, Nat.le_of_ble_eq_true rfl⟩ (fun r w1 hr => ?_)
                    obtain ⟨nw_18, lo_19, dn_20, up_21, wa_22, rfl, rfl, ⟨hq17_0, hq17_1, hq17_2, hq17_3, hq17_4⟩⟩ := hr
                    refine j_eq (ws' := [(ad 64, aInt E 6 so), (ad 65, aInt E 6 ln), (ad 66, aLng E 360 it), (ad 11, aInt E 36 la), (ad 12, aInt E 4 po), (ad 13, aInt E 20 pt), (ad 6, aInt E 4 cl), (ad 7, aInt E 48 wd), (ad 8, aInt E 48 nu), (ad 9, aInt E 48 fo), (ad 10, aInt E 48 to), (ad 14, aInt E 400 sg), (ad 19, aBoo E 100 pl2), (mo, mO ad (upS (upS (upS (upS (upS (upS (upS (upS (upS S 28 tk1_10) 29 se1_11) 30 mx1_12) 31 1) 34 nw_18) 35 lo_19) 36 dn_20) 37 up_21) 38 wa_22)), (ad 22, aInt E 24 co), (ad 32, aInt E 12 sp1_8), (ad 33, aInt E 588 le1_9)]) rfl rfl rfl ?_
                    try simp only [upS, reduceIte, Nat.reduceEqDiff, eq_self] at hq17_0 hq17_1 hq17_2 hq17_3 hq17_4
                    have hnw := hq17_0
                    have hdn := hq17_2
                    have hup := hq17_3
                    have hdr := dR hok (s := s) (st := st) (by omega) hst
                    have hnr := dNow_r hok (s := s) (st := st) (by omega) hst
                    refine j_aload_n G 2 rfl d10_judge_107 ?_
                    refine j_get G 13 10 34 in10 fl10_115 d10_judge_108 rfl rfl (by decide) (v := .int (iZ nw_18)) rfl rfl ?_
                    refine j_istore_n G d10_judge_111 (by decide) rfl ?_
                    have hir := hit (60 * t + i + s) (by omega) (by omega)
                    refine j_aload_n G 2 rfl d10_judge_112 ?_
                    refine j_get G 13 10 66 in10 fl10_212 d10_judge_113 rfl rfl (by decide) (v := .ref (ad 66)) rfl rfl ?_
                    refine j_bipush G d10_judge_116 rfl ?_
                    refine j_iload_n G 3 rfl d10_judge_118 ?_
                    refine j_imul G d10_judge_119 ?_
                    refine j_iload_n G 4 rfl d10_judge_120 ?_
                    refine j_iadd G d10_judge_121 ?_
                    refine j_iload G 1 rfl d10_judge_122 ?_
                    refine j_iadd G d10_judge_124 ?_
                    refine j_lald G 2 rfl (by omega) d10_judge_125 ?_
                    refine j_lstore G d10_judge_126 (by decide) rfl ?_
                    refine j_lload G 0 rfl d10_judge_128 ?_
                    refine j_ldc2 G (-1) ct10_352 (by decide) d10_judge_130 ?_
                    refine j_lcmp G d10_judge_133 (by omega) (by omega) ?_
                    refine j_if_ne (tgt := 140) G d10_judge_134 (by decide) (by split <;> first | decide | (split <;> decide)) (fun h23 => ?_) (fun h23 => ?_)
                    ·
                      have h23 : (it (((60 * t) + i) + s)) ≠ (-1) := by
                        revert h23; split <;> (try split) <;> intro h23 <;> omega
                      have hi1 : ¬ it (60 * t + i + s) = -1 := by omega
                      refine j_aload_n G 3 rfl d10_judge_140 ?_
                      refine j_get G 13 10 36 in10 fl10_121 d10_judge_141 rfl rfl (by decide) (v := .int (iZ dn_20)) rfl rfl ?_
                      refine j_aload_n G 3 rfl d10_judge_144 ?_
                      refine j_get G 13 10 37 in10 fl10_124 d10_judge_145 rfl rfl (by decide) (v := .int (iZ up_21)) rfl rfl ?_
                      refine j_iadd G d10_judge_148 ?_
                      refine j_if_eq (tgt := 211) G d10_judge_149 (by decide) (by omega) (fun h24 => ?_) (fun h24 => ?_)
                      ·
                        refine j_iload G 2 rfl d10_judge_211 ?_
                        refine j_perm (ws' := [(mo, mO ad (upS (upS (upS (upS (upS (upS (upS (upS (upS S 28 tk1_10) 29 se1_11) 30 mx1_12) 31 1) 34 nw_18) 35 lo_19) 36 dn_20) 37 up_21) 38 wa_22)), (ad 11, aInt E 36 la), (ad 12, aInt E 4 po), (ad 13, aInt E 20 pt), (ad 6, aInt E 4 cl), (ad 7, aInt E 48 wd), (ad 8, aInt E 48 nu), (ad 9, aInt E 48 fo), (ad 10, aInt E 48 to), (ad 14, aInt E 400 sg), (ad 19, aBoo E 100 pl2), (ad 22, aInt E 24 co), (ad 32, aInt E 12 sp1_8), (ad 33, aInt E 588 le1_9), (ad 64, aInt E 6 so), (ad 65, aInt E 6 ln), (ad 66, aLng E 360 it)]) [13, 3, 4, 5, 6, 7, 8, 9, 10, 11, 12, 14, 15, 16, 0, 1, 2] rfl rfl rfl ?_
                        exact j_iret G F d10_judge_213 ⟨s, pl2, sp1_8, le1_9, tk1_10, se1_11, mx1_12, 1, nw_18, lo_19, dn_20, up_21, wa_22, rfl, rfl, (by first | exact ⟨(if_neg (by omega)).symm, hpl⟩ | (refine ⟨?_, hpl⟩; rw [if_pos (by omega), if_pos (by omega)]; done) | (refine ⟨?_, hpl2⟩; rw [if_pos (by omega), if_neg (by omega), hw, show (12 - s).toNat = 0 by omega]; rfl) | (refine ⟨?_, hpl2⟩; rw [if_pos (by omega), if_neg (by omega), hw, show (12 - s).toNat = (12 - (s + 1)).toNat + 1 by omega, juF_s, if_pos (by omega)]; done) | (refine ⟨?_, by first | exact hpl3 | exact hpl2⟩; rw [if_pos (by omega), if_neg (by omega), hw, show (12 - s).toNat = (12 - (s + 1)).toNat + 1 by omega, juF_s, if_neg (by omega), if_neg hi1, if_pos (by omega)]; done) | (exfalso; omega))⟩
                      ·
                        refine j_lload G 0 rfl d10_judge_152 ?_
                        refine j_lconst G 0 d10_judge_154 rfl ?_
                        refine j_lcmp G d10_judge_155 (by omega) (by omega) ?_
                        refine j_if_lt (tgt := 211) G d10_judge_156 (by decide) (by split <;> first | decide | (split <;> decide)) (fun h25 => ?_) (fun h25 => ?_)
                        ·
                          have h25 : (it (((60 * t) + i) + s)) < 0 := by
                            revert h25; split <;> (try split) <;> intro h25 <;> omega
                          refine j_iload G 2 rfl d10_judge_211 ?_
                          refine j_perm (ws' := [(mo, mO ad (upS (upS (upS (upS (upS (upS (upS (upS (upS S 28 tk1_10) 29 se1_11) 30 mx1_12) 31 1) 34 nw_18) 35 lo_19) 36 dn_20) 37 up_21) 38 wa_22)), (ad 11, aInt E 36 la), (ad 12, aInt E 4 po), (ad 13, aInt E 20 pt), (ad 6, aInt E 4 cl), (ad 7, aInt E 48 wd), (ad 8, aInt E 48 nu), (ad 9, aInt E 48 fo), (ad 10, aInt E 48 to), (ad 14, aInt E 400 sg), (ad 19, aBoo E 100 pl2), (ad 22, aInt E 24 co), (ad 32, aInt E 12 sp1_8), (ad 33, aInt E 588 le1_9), (ad 64, aInt E 6 so), (ad 65, aInt E 6 ln), (ad 66, aLng E 360 it)]) [13, 3, 4, 5, 6, 7, 8, 9, 10, 11, 12, 14, 15, 16, 0, 1, 2] rfl rfl rfl ?_
                          exact j_iret G F d10_judge_213 ⟨s, pl2, sp1_8, le1_9, tk1_10, se1_11, mx1_12, 1, nw_18, lo_19, dn_20, up_21, wa_22, rfl, rfl, (by first | exact ⟨(if_neg (by omega)).symm, hpl⟩ | (refine ⟨?_, hpl⟩; rw [if_pos (by omega), if_pos (by omega)]; done) | (refine ⟨?_, hpl2⟩; rw [if_pos (by omega), if_neg (by omega), hw, show (12 - s).toNat = 0 by omega]; rfl) | (refine ⟨?_, hpl2⟩; rw [if_pos (by omega), if_neg (by omega), hw, show (12 - s).toNat = (12 - (s + 1)).toNat + 1 by omega, juF_s, if_pos (by omega)]; done) | (refine ⟨?_, by first | exact hpl3 | exact hpl2⟩; rw [if_pos (by omega), if_neg (by omega), hw, show (12 - s).toNat = (12 - (s + 1)).toNat + 1 by omega, juF_s, if_neg (by omega), if_neg hi1, if_pos (by omega)]; done) | (exfalso; omega))⟩
                        ·
                          have h25 : ¬ ((it (((60 * t) + i) + s)) < 0) := by
                            revert h25; split <;> (try split) <;> intro h25 <;> omega
                          refine j_lload G 0 rfl d10_judge_159 ?_
                          refine j_aload_n G 3 rfl d10_judge_161 ?_
                          refine j_get G 13 10 28 in10 fl10_97 d10_judge_162 rfl rfl (by decide) (v := .int (iZ tk1_10)) rfl rfl ?_
                          refine j_i2l G d10_judge_165 (by omega) ?_
                          refine j_lcmp G d10_judge_166 (by omega) (by omega) ?_
                          refine j_if_gt (tgt := 211) G d10_judge_167 (by decide) (by split <;> first | decide | (split <;> decide)) (fun h26 => ?_) (fun h26 => ?_)
                          ·
                            have h26 : tk1_10 < (it (((60 * t) + i) + s)) := by
                              revert h26; split <;> (try split) <;> intro h26 <;> omega
                            refine j_iload G 2 rfl d10_judge_211 ?_
                            refine j_perm (ws' := [(mo, mO ad (upS (upS (upS (upS (upS (upS (upS (upS (upS S 28 tk1_10) 29 se1_11) 30 mx1_12) 31 1) 34 nw_18) 35 lo_19) 36 dn_20) 37 up_21) 38 wa_22)), (ad 11, aInt E 36 la), (ad 12, aInt E 4 po), (ad 13, aInt E 20 pt), (ad 6, aInt E 4 cl), (ad 7, aInt E 48 wd), (ad 8, aInt E 48 nu), (ad 9, aInt E 48 fo), (ad 10, aInt E 48 to), (ad 14, aInt E 400 sg), (ad 19, aBoo E 100 pl2), (ad 22, aInt E 24 co), (ad 32, aInt E 12 sp1_8), (ad 33, aInt E 588 le1_9), (ad 64, aInt E 6 so), (ad 65, aInt E 6 ln), (ad 66, aLng E 360 it)]) [13, 3, 4, 5, 6, 7, 8, 9, 10, 11, 12, 14, 15, 16, 0, 1, 2] rfl rfl rfl ?_
                            exact j_iret G F d10_judge_213 ⟨s, pl2, sp1_8, le1_9, tk1_10, se1_11, mx1_12, 1, nw_18, lo_19, dn_20, up_21, wa_22, rfl, rfl, (by first | exact ⟨(if_neg (by omega)).symm, hpl⟩ | (refine ⟨?_, hpl⟩; rw [if_pos (by omega), if_pos (by omega)]; done) | (refine ⟨?_, hpl2⟩; rw [if_pos (by omega), if_neg (by omega), hw, show (12 - s).toNat = 0 by omega]; rfl) | (refine ⟨?_, hpl2⟩; rw [if_pos (by omega), if_neg (by omega), hw, show (12 - s).toNat = (12 - (s + 1)).toNat + 1 by omega, juF_s, if_pos (by omega)]; done) | (refine ⟨?_, by first | exact hpl3 | exact hpl2⟩; rw [if_pos (by omega), if_neg (by omega), hw, show (12 - s).toNat = (12 - (s + 1)).toNat + 1 by omega, juF_s, if_neg (by omega), if_neg hi1, if_pos (by omega)]; done) | (exfalso; omega))⟩
                          ·
                            have h26 : ¬ (tk1_10 < (it (((60 * t) + i) + s))) := by
                              revert h26; split <;> (try split) <;> intro h26 <;> omega
                            refine j_lload G 0 rfl d10_judge_170 ?_
                            refine j_aload_n G 3 rfl d10_judge_172 ?_
                            refine j_get G 13 10 34 in10 fl10_115 d10_judge_173 rfl rfl (by decide) (v := .int (iZ nw_18)) rfl rfl ?_
                            refine j_bipush G d10_judge_176 rfl ?_
                            refine j_idiv G d10_judge_178 (by omega) ?_
                            refine j_i2l G d10_judge_179 (by omega) ?_
                            refine j_lcmp G d10_judge_180 (by omega) (by omega) ?_
                            refine j_if_gt (tgt := 211) G d10_judge_181 (by decide) (by split <;> first | decide | (split <;> decide)) (fun h27 => ?_) (fun h27 => ?_)
                            ·
                              have h27 : (nw_18 / 81) < (it (((60 * t) + i) + s)) := by
                                revert h27; split <;> (try split) <;> intro h27 <;> omega
                              refine j_iload G 2 rfl d10_judge_211 ?_
                              refine j_perm (ws' := [(mo, mO ad (upS (upS (upS (upS (upS (upS (upS (upS (upS S 28 tk1_10) 29 se1_11) 30 mx1_12) 31 1) 34 nw_18) 35 lo_19) 36 dn_20) 37 up_21) 38 wa_22)), (ad 11, aInt E 36 la), (ad 12, aInt E 4 po), (ad 13, aInt E 20 pt), (ad 6, aInt E 4 cl), (ad 7, aInt E 48 wd), (ad 8, aInt E 48 nu), (ad 9, aInt E 48 fo), (ad 10, aInt E 48 to), (ad 14, aInt E 400 sg), (ad 19, aBoo E 100 pl2), (ad 22, aInt E 24 co), (ad 32, aInt E 12 sp1_8), (ad 33, aInt E 588 le1_9), (ad 64, aInt E 6 so), (ad 65, aInt E 6 ln), (ad 66, aLng E 360 it)]) [13, 3, 4, 5, 6, 7, 8, 9, 10, 11, 12, 14, 15, 16, 0, 1, 2] rfl rfl rfl ?_
                              exact j_iret G F d10_judge_213 ⟨s, pl2, sp1_8, le1_9, tk1_10, se1_11, mx1_12, 1, nw_18, lo_19, dn_20, up_21, wa_22, rfl, rfl, (by first | exact ⟨(if_neg (by omega)).symm, hpl⟩ | (refine ⟨?_, hpl⟩; rw [if_pos (by omega), if_pos (by omega)]; done) | (refine ⟨?_, hpl2⟩; rw [if_pos (by omega), if_neg (by omega), hw, show (12 - s).toNat = 0 by omega]; rfl) | (refine ⟨?_, hpl2⟩; rw [if_pos (by omega), if_neg (by omega), hw, show (12 - s).toNat = (12 - (s + 1)).toNat + 1 by omega, juF_s, if_pos (by omega)]; done) | (refine ⟨?_, by first | exact hpl3 | exact hpl2⟩; rw [if_pos (by omega), if_neg (by omega), hw, show (12 - s).toNat = (12 - (s + 1)).toNat + 1 by omega, juF_s, if_neg (by omega), if_neg hi1, if_pos (by omega)]; done) | (exfalso; omega))⟩
                            ·
                              have h27 : ¬ ((nw_18 / 81) < (it (((60 * t) + i) + s))) := by
                                revert h27; split <;> (try split) <;> intro h27 <;> omega
                              refine j_aload_n G 3 rfl d10_judge_184 ?_
                              refine j_aload_n G 3 rfl d10_judge_185 ?_
                              refine j_iconst G d10_judge_186 ?_
                              refine j_iload G 2 rfl d10_judge_187 ?_
                              refine j_VM G (rm' := { frames := 1, cells := 0, slots := 0, locals := 27 }) (wc := [(mo, mO ad (upS (upS (upS (upS (upS (upS (upS (upS (upS S 28 tk1_10) 29 se1_11) 30 mx1_12) 31 1) 34 nw_18) 35 lo_19) 36 dn_20) 37 up_21) 38 wa_22)), (ad 6, aInt E 4 cl), (ad 7, aInt E 48 wd), (ad 8, aInt E 48 nu), (ad 9, aInt E 48 fo), (ad 10, aInt E 48 to), (ad 14, aInt E 400 sg), (ad 19, aBoo E 100 pl2)]) (wr := [(ad 64, aInt E 6 so), (ad 65, aInt E 6 ln), (ad 66, aLng E 360 it), (ad 11, aInt E 36 la), (ad 12, aInt E 4 po), (ad 13, aInt E 20 pt), (ad 22, aInt E 24 co), (ad 32, aInt E 12 sp1_8), (ad 33, aInt E 588 le1_9)]) (k10_sum (xl Γ) E mo ad (upS (upS (upS (upS (upS (upS (upS (upS (upS S 28 tk1_10) 29 se1_11) 30 mx1_12) 31 1) 34 nw_18) 35 lo_19) 36 dn_20) 37 up_21) 38 wa_22) cl wd nu fo to sg pl2 Fq 3 s (by first | assumption | omega | (simp only [upS, reduceIte, Nat.reduceEqDiff, eq_self, List.length_cons, List.length_nil, List.length_append] <;> omega)) (by first | assumption | omega | (simp only [upS, reduceIte, Nat.reduceEqDiff, eq_self, List.length_cons, List.length_nil, List.length_append] <;> omega)) (by first | assumption | omega | (simp only [upS, reduceIte, Nat.reduceEqDiff, eq_self, List.length_cons, List.length_nil, List.length_append] <;> omega)) (by first | assumption | omega | (simp only [upS, reduceIte, Nat.reduceEqDiff, eq_self, List.length_cons, List.length_nil, List.length_append] <;> omega)) (by first | assumption | omega | (simp only [upS, reduceIte, Nat.reduceEqDiff, eq_self, List.length_cons, List.length_nil, List.length_append] <;> omega)) (by first | assumption | omega | (simp only [upS, reduceIte, Nat.reduceEqDiff, eq_self, List.length_cons, List.length_nil, List.length_append] <;> omega)) (by first | assumption | omega | (simp only [upS, reduceIte, Nat.reduceEqDiff, eq_self, List.length_cons, List.length_nil, List.length_append] <;> omega))) mw10_sum ml10_296 [13, 6, 7, 8, 9, 10, 11, 12] [0, 1, 2, 3, 4, 5, 14, 15, 16] rfl rfl ⟨rfl, rfl⟩ (by decide) 13 10 rfl rfl rfl ⟨Nat.le_of_ble_eq_true rfl, Nat.le_of_ble_eq_true rfl⟩ rfl (rest := [.ref mo]) rfl (Nat.le_of_ble_eq_true rfl) d10_judge_189 ⟨Nat.le_of_ble_eq_true rfl, Nat.le_of_ble_eq_true rfl⟩ (fun r w1 hr => ?_)
                              obtain ⟨v29, pl1_30, rfl, rfl, ⟨hq28_0, hq28_1, hq28_2⟩⟩ := hr
                              refine j_eq (ws' := [(ad 64, aInt E 6 so), (ad 65, aInt E 6 ln), (ad 66, aLng E 360 it), (ad 11, aInt E 36 la), (ad 12, aInt E 4 po), (ad 13, aInt E 20 pt), (ad 22, aInt E 24 co), (ad 32, aInt E 12 sp1_8), (ad 33, aInt E 588 le1_9), (mo, mO ad (upS (upS (upS (upS (upS (upS (upS (upS (upS S 28 tk1_10) 29 se1_11) 30 mx1_12) 31 1) 34 nw_18) 35 lo_19) 36 dn_20) 37 up_21) 38 wa_22)), (ad 6, aInt E 4 cl), (ad 7, aInt E 48 wd), (ad 8, aInt E 48 nu), (ad 9, aInt E 48 fo), (ad 10, aInt E 48 to), (ad 14, aInt E 400 sg), (ad 19, aBoo E 100 pl1_30)]) rfl rfl rfl ?_
                              try simp only [upS, reduceIte, Nat.reduceEqDiff, eq_self] at hq28_0 hq28_1 hq28_2
                              have hsm := hq28_0
                              have hsr := hq28_1
                              have hpl3 := hq28_2
                              refine j_aload_n G 3 rfl d10_judge_192 ?_
                              refine j_get G 9 10 36 in10 fl10_121 d10_judge_193 rfl rfl (by decide) (v := .int (iZ dn_20)) rfl rfl ?_
                              refine j_aload_n G 3 rfl d10_judge_196 ?_
                              refine j_get G 9 10 37 in10 fl10_124 d10_judge_197 rfl rfl (by decide) (v := .int (iZ up_21)) rfl rfl ?_
                              refine j_lload G 0 rfl d10_judge_200 ?_
                              refine j_l2i G d10_judge_202 ?_
                              refine j_VP G (k10_stopsBy (xl Γ) E mo ad (upS (upS (upS (upS (upS (upS (upS (upS (upS S 28 tk1_10) 29 se1_11) 30 mx1_12) 31 1) 34 nw_18) 35 lo_19) 36 dn_20) 37 up_21) 38 wa_22) la po pt v29 dn_20 up_21 (it (((60 * t) + i) + s)) (by first | assumption | omega | (simp only [upS, reduceIte, Nat.reduceEqDiff, eq_self, List.length_cons, List.length_nil, List.length_append] <;> omega)) (by first | assumption | omega | (simp only [upS, reduceIte, Nat.reduceEqDiff, eq_self, List.length_cons, List.length_nil, List.length_append] <;> omega)) (by first | assumption | omega | (simp only [upS, reduceIte, Nat.reduceEqDiff, eq_self, List.length_cons, List.length_nil, List.length_append] <;> omega)) (by first | assumption | omega | (simp only [upS, reduceIte, Nat.reduceEqDiff, eq_self, List.length_cons, List.length_nil, List.length_append] <;> omega)) (by first | assumption | omega | (simp only [upS, reduceIte, Nat.reduceEqDiff, eq_self, List.length_cons, List.length_nil, List.length_append] <;> omega)) (by first | assumption | omega | (simp only [upS, reduceIte, Nat.reduceEqDiff, eq_self, List.length_cons, List.length_nil, List.length_append] <;> omega))) mw10_stopsBy ml10_303 [9, 3, 4, 5] rfl 9 10 rfl rfl rfl ⟨Nat.le_of_ble_eq_true rfl, Nat.le_of_ble_eq_true rfl⟩ rfl (rest := []) rfl (Nat.le_of_ble_eq_true rfl) d10_judge_203 ⟨Nat.le_of_ble_eq_true rfl, Nat.le_of_ble_eq_true rfl⟩ (fun r hr => ?_)
                              obtain ⟨v32, rfl, hq31⟩ := hr
                              try simp only [upS, reduceIte, Nat.reduceEqDiff, eq_self] at hq31
                              have hsv : v32 = stopM (cM la po (S 1)) (pM pt (S 1)) (cM la po (S 1) 3 * (dDn (kD (cM la po (S 1)) (pM pt (S 1)) (fun s => smM wd nu cl Fq (S 1) 3 s (S 20)) (fun s => smM wd nu cl Fq (S 1) 7 s (S 20)) co 0 0 0 0 1) s st - dUp (kD (cM la po (S 1)) (pM pt (S 1)) (fun s => smM wd nu cl Fq (S 1) 3 s (S 20)) (fun s => smM wd nu cl Fq (S 1) 7 s (S 20)) co 0 0 0 0 1) s st) + it (60 * t + i + s)) (smM wd nu cl Fq (S 1) 3 s (S 20)) := by have q := hq31; rw [hsm, hdn, hup] at q; exact q
                              have hsr2 := stopM_q hwm1 hsv
                              refine j_bipush G d10_judge_206 rfl ?_
                              refine j_icmp_eq (tgt := 214) G d10_judge_208 (by decide) (by omega) (by decide) (fun h33 => ?_) (fun h33 => ?_)
                              ·
                                refine j_aload_n G 3 rfl d10_judge_214 ?_
                                refine j_get G 9 10 34 in10 fl10_115 d10_judge_215 rfl rfl (by decide) (v := .int (iZ nw_18)) rfl rfl ?_
                                refine j_bipush G d10_judge_218 rfl ?_
                                refine j_lload G 0 rfl d10_judge_220 ?_
                                refine j_l2i G d10_judge_222 ?_
                                refine j_imul G d10_judge_223 ?_
                                refine j_isub G d10_judge_224 ?_
                                refine j_bipush G d10_judge_225 rfl ?_
                                refine j_aload_n G 3 rfl d10_judge_227 ?_
                                refine j_get G 9 10 36 in10 fl10_121 d10_judge_228 rfl rfl (by decide) (v := .int (iZ dn_20)) rfl rfl ?_
                                refine j_imul G d10_judge_231 ?_
                                refine j_isub G d10_judge_232 ?_
                                refine j_aload_n G 3 rfl d10_judge_233 ?_
                                refine j_get G 9 10 37 in10 fl10_124 d10_judge_234 rfl rfl (by decide) (v := .int (iZ up_21)) rfl rfl ?_
                                refine j_isub G d10_judge_237 ?_
                                refine j_nm (fun x34 ex34 => ?_)
                                refine j_istore_n G d10_judge_238 (by decide) rfl ?_
                                refine j_iinc G d10_judge_239 2 rfl (by decide) rfl ?_
                                refine j_goto (tgt := 59) G d10_judge_242 (by decide) ?_
                                refine j_locs (ls' := [(4, .int (iZ (s + 1))), (3, .int (iZ x34)), (0, .ref mo), (1, .int (iZ t)), (2, .int (iZ i))]) [0, 1, 3, 4, 5] rfl ?_
                                refine j_perm (ws' := [(ad 64, aInt E 6 so), (ad 65, aInt E 6 ln), (ad 66, aLng E 360 it), (mo, mO ad (upS (upS (upS (upS (upS (upS (upS (upS (upS S 28 tk1_10) 29 se1_11) 30 mx1_12) 31 1) 34 nw_18) 35 lo_19) 36 dn_20) 37 up_21) 38 wa_22)), (ad 11, aInt E 36 la), (ad 12, aInt E 4 po), (ad 13, aInt E 20 pt), (ad 6, aInt E 4 cl), (ad 7, aInt E 48 wd), (ad 8, aInt E 48 nu), (ad 9, aInt E 48 fo), (ad 10, aInt E 48 to), (ad 14, aInt E 400 sg), (ad 19, aBoo E 100 pl1_30), (ad 22, aInt E 24 co), (ad 32, aInt E 12 sp1_8), (ad 33, aInt E 588 le1_9)]) [0, 1, 2, 9, 3, 4, 5, 10, 11, 12, 13, 14, 15, 16, 6, 7, 8] rfl rfl rfl ?_
                                exact ih59 (s + 1) x34 pl1_30 nw_18 lo_19 dn_20 up_21 wa_22 (by omega) (by first | assumption | omega) (by first | assumption | omega) (by first | exact hpl3 | exact hpl2) (by rw [hw, show (12 - s).toNat = (12 - (s + 1)).toNat + 1 by omega, juF_s, if_neg (by omega)]; first | (rw [if_pos hi1, ← hnw]; done) | (rw [if_neg hi1, if_neg (by omega), ← hnw, ← hdn, ← hup]; subst_vars; rfl))
                              ·
                                refine j_iload G 2 rfl d10_judge_211 ?_
                                refine j_perm (ws' := [(mo, mO ad (upS (upS (upS (upS (upS (upS (upS (upS (upS S 28 tk1_10) 29 se1_11) 30 mx1_12) 31 1) 34 nw_18) 35 lo_19) 36 dn_20) 37 up_21) 38 wa_22)), (ad 11, aInt E 36 la), (ad 12, aInt E 4 po), (ad 13, aInt E 20 pt), (ad 6, aInt E 4 cl), (ad 7, aInt E 48 wd), (ad 8, aInt E 48 nu), (ad 9, aInt E 48 fo), (ad 10, aInt E 48 to), (ad 14, aInt E 400 sg), (ad 19, aBoo E 100 pl1_30), (ad 22, aInt E 24 co), (ad 32, aInt E 12 sp1_8), (ad 33, aInt E 588 le1_9), (ad 64, aInt E 6 so), (ad 65, aInt E 6 ln), (ad 66, aLng E 360 it)]) [9, 3, 4, 5, 10, 11, 12, 13, 14, 15, 16, 6, 7, 8, 0, 1, 2] rfl rfl rfl ?_
                                exact j_iret G F d10_judge_213 ⟨s, pl1_30, sp1_8, le1_9, tk1_10, se1_11, mx1_12, 1, nw_18, lo_19, dn_20, up_21, wa_22, rfl, rfl, (by first | exact ⟨(if_neg (by omega)).symm, hpl⟩ | (refine ⟨?_, hpl⟩; rw [if_pos (by omega), if_pos (by omega)]; done) | (refine ⟨?_, hpl2⟩; rw [if_pos (by omega), if_neg (by omega), hw, show (12 - s).toNat = 0 by omega]; rfl) | (refine ⟨?_, hpl2⟩; rw [if_pos (by omega), if_neg (by omega), hw, show (12 - s).toNat = (12 - (s + 1)).toNat + 1 by omega, juF_s, if_pos (by omega)]; done) | (refine ⟨?_, by first | exact hpl3 | exact hpl2⟩; rw [if_pos (by omega), if_neg (by omega), hw, show (12 - s).toNat = (12 - (s + 1)).toNat + 1 by omega, juF_s, if_neg (by omega), if_neg hi1, if_pos (by omega)]; done) | (exfalso; omega))⟩
                    ·
                      have h23 : ¬ ((it (((60 * t) + i) + s)) ≠ (-1)) := by
                        revert h23; split <;> (try split) <;> intro h23 <;> omega
                      have hi1 : it (60 * t + i + s) = -1 := by omega
                      refine j_goto (tgt := 239) G d10_judge_137 (by decide) ?_
                      refine j_iinc G d10_judge_239 2 rfl (by decide) rfl ?_
                      refine j_goto (tgt := 59) G d10_judge_242 (by decide) ?_
                      refine j_locs (ls' := [(4, .int (iZ (s + 1))), (3, .int (iZ nw_18)), (0, .ref mo), (1, .int (iZ t)), (2, .int (iZ i))]) [0, 2, 3, 4, 5] rfl ?_
                      refine j_perm (ws' := [(ad 64, aInt E 6 so), (ad 65, aInt E 6 ln), (ad 66, aLng E 360 it), (mo, mO ad (upS (upS (upS (upS (upS (upS (upS (upS (upS S 28 tk1_10) 29 se1_11) 30 mx1_12) 31 1) 34 nw_18) 35 lo_19) 36 dn_20) 37 up_21) 38 wa_22)), (ad 11, aInt E 36 la), (ad 12, aInt E 4 po), (ad 13, aInt E 20 pt), (ad 6, aInt E 4 cl), (ad 7, aInt E 48 wd), (ad 8, aInt E 48 nu), (ad 9, aInt E 48 fo), (ad 10, aInt E 48 to), (ad 14, aInt E 400 sg), (ad 19, aBoo E 100 pl2), (ad 22, aInt E 24 co), (ad 32, aInt E 12 sp1_8), (ad 33, aInt E 588 le1_9)]) [0, 1, 2, 13, 3, 4, 5, 6, 7, 8, 9, 10, 11, 12, 14, 15, 16] rfl rfl rfl ?_
                      exact ih59 (s + 1) nw_18 pl2 nw_18 lo_19 dn_20 up_21 wa_22 (by omega) (by first | assumption | omega) (by first | assumption | omega) (by first | exact hpl3 | exact hpl2) (by rw [hw, show (12 - s).toNat = (12 - (s + 1)).toNat + 1 by omega, juF_s, if_neg (by omega)]; first | (rw [if_pos hi1, ← hnw]; done) | (rw [if_neg hi1, if_neg (by omega), ← hnw, ← hdn, ← hup]; subst_vars; rfl))
                  ·
                    refine j_bipush G d10_judge_94 rfl ?_
                    refine j_iload G 0 rfl d10_judge_96 ?_
                    refine j_iadd G d10_judge_98 ?_
                    refine j_perm (ws' := [(mo, mO ad (upS (upS (upS (upS (upS (upS (upS (upS (upS S 28 tk1_10) 29 se1_11) 30 mx1_12) 31 1) 34 nw2) 35 lo2) 36 dn2) 37 up2) 38 wa2)), (ad 11, aInt E 36 la), (ad 12, aInt E 4 po), (ad 13, aInt E 20 pt), (ad 6, aInt E 4 cl), (ad 7, aInt E 48 wd), (ad 8, aInt E 48 nu), (ad 9, aInt E 48 fo), (ad 10, aInt E 48 to), (ad 14, aInt E 400 sg), (ad 19, aBoo E 100 pl2), (ad 22, aInt E 24 co), (ad 32, aInt E 12 sp1_8), (ad 33, aInt E 588 le1_9), (ad 64, aInt E 6 so), (ad 65, aInt E 6 ln), (ad 66, aLng E 360 it)]) [3, 4, 5, 6, 7, 8, 9, 10, 11, 12, 13, 14, 15, 16, 0, 1, 2] rfl rfl rfl ?_
                    exact j_iret G F d10_judge_99 ⟨100 + s, pl2, sp1_8, le1_9, tk1_10, se1_11, mx1_12, 1, nw2, lo2, dn2, up2, wa2, rfl, rfl, (by first | exact ⟨(if_neg (by omega)).symm, hpl⟩ | (refine ⟨?_, hpl⟩; rw [if_pos (by omega), if_pos (by omega)]; done) | (refine ⟨?_, hpl2⟩; rw [if_pos (by omega), if_neg (by omega), hw, show (12 - s).toNat = 0 by omega]; rfl) | (refine ⟨?_, hpl2⟩; rw [if_pos (by omega), if_neg (by omega), hw, show (12 - s).toNat = (12 - (s + 1)).toNat + 1 by omega, juF_s, if_pos (by omega)]; done) | (refine ⟨?_, by first | exact hpl3 | exact hpl2⟩; rw [if_pos (by omega), if_neg (by omega), hw, show (12 - s).toNat = (12 - (s + 1)).toNat + 1 by omega, juF_s, if_neg (by omega), if_neg hi1, if_pos (by omega)]; done) | (exfalso; omega))⟩
        exact lp59 _ 0 (81 * (S 21)) pl1_7 (S 34) (S 35) (S 36) (S 37) (S 38) (Nat.lt_succ_self _) (by first | assumption | omega) (by first | assumption | omega) hpl1 rfl
      ·
        refine j_aload_n G 0 rfl d10_judge_26 ?_
        refine j_get G 0 10 64 in10 fl10_206 d10_judge_27 rfl rfl (by decide) (v := .ref (ad 64)) rfl rfl ?_
        refine j_iload_n G 1 rfl d10_judge_30 ?_
        refine j_iald G 14 rfl (by omega) d10_judge_31 ?_
        refine j_iconst G d10_judge_32 ?_
        refine j_icmp_eq (tgt := 39) G d10_judge_33 (by decide) (by omega) (by decide) (fun h35 => ?_) (fun h35 => ?_)
        ·
          refine j_aload_n G 0 rfl d10_judge_39 ?_
          refine j_iconst G d10_judge_40 ?_
          refine j_iconst G d10_judge_41 ?_
          refine j_iconst G d10_judge_42 ?_
          refine j_iconst G d10_judge_43 ?_
          refine j_iconst G d10_judge_44 ?_
          refine j_VM G (rm' := { frames := 4, cells := 0, slots := 0, locals := 98 }) (wc := [(mo, mO ad S), (ad 11, aInt E 36 la), (ad 12, aInt E 4 po), (ad 13, aInt E 20 pt), (ad 6, aInt E 4 cl), (ad 7, aInt E 48 wd), (ad 8, aInt E 48 nu), (ad 9, aInt E 48 fo), (ad 10, aInt E 48 to), (ad 14, aInt E 400 sg), (ad 19, aBoo E 100 pl), (ad 22, aInt E 24 co), (ad 32, aInt E 12 spr), (ad 33, aInt E 588 le)]) (wr := [(ad 64, aInt E 6 so), (ad 65, aInt E 6 ln), (ad 66, aLng E 360 it)]) (k10_layDay (xl Γ) E mo ad S la po pt cl wd nu fo to sg pl Fq co spr le 0 0 0 0 1 (by first | assumption | omega | (simp only [upS, reduceIte, Nat.reduceEqDiff, eq_self, List.length_cons, List.length_nil, List.length_append] <;> omega)) (by first | assumption | omega | (simp only [upS, reduceIte, Nat.reduceEqDiff, eq_self, List.length_cons, List.length_nil, List.length_append] <;> omega)) (by first | assumption | omega | (simp only [upS, reduceIte, Nat.reduceEqDiff, eq_self, List.length_cons, List.length_nil, List.length_append] <;> omega)) (by first | assumption | omega | (simp only [upS, reduceIte, Nat.reduceEqDiff, eq_self, List.length_cons, List.length_nil, List.length_append] <;> omega)) (by first | assumption | omega | (simp only [upS, reduceIte, Nat.reduceEqDiff, eq_self, List.length_cons, List.length_nil, List.length_append] <;> omega)) (by first | assumption | omega | (simp only [upS, reduceIte, Nat.reduceEqDiff, eq_self, List.length_cons, List.length_nil, List.length_append] <;> omega)) (by first | assumption | omega | (simp only [upS, reduceIte, Nat.reduceEqDiff, eq_self, List.length_cons, List.length_nil, List.length_append] <;> omega)) (by first | assumption | omega | (simp only [upS, reduceIte, Nat.reduceEqDiff, eq_self, List.length_cons, List.length_nil, List.length_append] <;> omega)) (by first | assumption | omega | (simp only [upS, reduceIte, Nat.reduceEqDiff, eq_self, List.length_cons, List.length_nil, List.length_append] <;> omega)) (by first | assumption | omega | (simp only [upS, reduceIte, Nat.reduceEqDiff, eq_self, List.length_cons, List.length_nil, List.length_append] <;> omega)) (by first | assumption | omega | (simp only [upS, reduceIte, Nat.reduceEqDiff, eq_self, List.length_cons, List.length_nil, List.length_append] <;> omega)) (by first | assumption | omega | (simp only [upS, reduceIte, Nat.reduceEqDiff, eq_self, List.length_cons, List.length_nil, List.length_append] <;> omega)) (by first | assumption | omega | (simp only [upS, reduceIte, Nat.reduceEqDiff, eq_self, List.length_cons, List.length_nil, List.length_append] <;> omega))) mw10_layDay ml10_337 [0, 1, 2, 3, 4, 5, 6, 7, 8, 9, 10, 11, 12, 13] [14, 15, 16] rfl rfl ⟨rfl, rfl⟩ (by decide) 0 10 rfl rfl rfl ⟨Nat.le_of_ble_eq_true rfl, Nat.le_of_ble_eq_true rfl⟩ rfl (rest := []) rfl (Nat.le_of_ble_eq_true rfl) d10_judge_45 ⟨Nat.le_of_ble_eq_true rfl, Nat.le_of_ble_eq_true rfl⟩ (fun r w1 hr => ?_)
          obtain ⟨pl1_37, sp1_38, le1_39, tk1_40, se1_41, mx1_42, rfl, rfl, ⟨hq36_0, hq36_1⟩⟩ := hr
          refine j_eq (ws' := [(ad 64, aInt E 6 so), (ad 65, aInt E 6 ln), (ad 66, aLng E 360 it), (mo, mO ad (upS (upS (upS (upS S 28 tk1_40) 29 se1_41) 30 mx1_42) 31 1)), (ad 11, aInt E 36 la), (ad 12, aInt E 4 po), (ad 13, aInt E 20 pt), (ad 6, aInt E 4 cl), (ad 7, aInt E 48 wd), (ad 8, aInt E 48 nu), (ad 9, aInt E 48 fo), (ad 10, aInt E 48 to), (ad 14, aInt E 400 sg), (ad 19, aBoo E 100 pl1_37), (ad 22, aInt E 24 co), (ad 32, aInt E 12 sp1_38), (ad 33, aInt E 588 le1_39)]) rfl rfl rfl ?_
          have hly := hq36_0
          have hpl1 := hq36_1
          have hok := hly.2.2.2.2.1
          have htk : tk1_40 = Dy.tk (kD (cM la po (S 1)) (pM pt (S 1)) (fun s => smM wd nu cl Fq (S 1) 3 s (S 20)) (fun s => smM wd nu cl Fq (S 1) 7 s (S 20)) co 0 0 0 0 1) := hly.1
          have htr := hok.1
          refine j_bipush G d10_judge_48 rfl ?_
          refine j_aload_n G 0 rfl d10_judge_50 ?_
          refine j_get G 3 10 21 in10 fl10_76 d10_judge_51 rfl rfl (by decide) (v := .int (iZ (S 21))) rfl rfl ?_
          refine j_imul G d10_judge_54 ?_
          refine j_istore_n G d10_judge_55 (by decide) rfl ?_
          refine j_iconst G d10_judge_56 ?_
          refine j_istore G d10_judge_57 (by decide) rfl ?_
          refine j_eq (ws' := [(ad 64, aInt E 6 so), (ad 65, aInt E 6 ln), (ad 66, aLng E 360 it), (mo, mO ad (upS (upS (upS (upS (upS (upS (upS (upS (upS S 28 tk1_40) 29 se1_41) 30 mx1_42) 31 1) 34 (S 34)) 35 (S 35)) 36 (S 36)) 37 (S 37)) 38 (S 38))), (ad 11, aInt E 36 la), (ad 12, aInt E 4 po), (ad 13, aInt E 20 pt), (ad 6, aInt E 4 cl), (ad 7, aInt E 48 wd), (ad 8, aInt E 48 nu), (ad 9, aInt E 48 fo), (ad 10, aInt E 48 to), (ad 14, aInt E 400 sg), (ad 19, aBoo E 100 pl1_37), (ad 22, aInt E 24 co), (ad 32, aInt E 12 sp1_38), (ad 33, aInt E 588 le1_39)]) rfl rfl rfl ?_
          have lp59 : ∀ (fu : Nat) (s : Int) (st : Int) (pl2 : Int → Int) (nw2 : Int) (lo2 : Int) (dn2 : Int) (up2 : Int) (wa2 : Int), (12 - s).toNat < fu → (0 ≤ s ∧ s ≤ 12) → (0 ≤ st ∧ st ≤ 3320) → (∀ j, 0 ≤ j → j < 100 → 0 ≤ pl2 j ∧ pl2 j ≤ 1) → (juF (cM la po (S 1)) (pM pt (S 1)) (fun s => smM wd nu cl Fq (S 1) 3 s (S 20)) (kD (cM la po (S 1)) (pM pt (S 1)) (fun s => smM wd nu cl Fq (S 1) 3 s (S 20)) (fun s => smM wd nu cl Fq (S 1) 7 s (S 20)) co 0 0 0 0 1) (so t) (ln t) (60 * t) i it 12 0 (81 * S 21) = juF (cM la po (S 1)) (pM pt (S 1)) (fun s => smM wd nu cl Fq (S 1) 3 s (S 20)) (kD (cM la po (S 1)) (pM pt (S 1)) (fun s => smM wd nu cl Fq (S 1) 3 s (S 20)) (fun s => smM wd nu cl Fq (S 1) 7 s (S 20)) co 0 0 0 0 1) (so t) (ln t) (60 * t) i it (12 - s).toNat s st) →  J E 7 Γ (some A) 0 0 [(ad 64, aInt E 6 so), (ad 65, aInt E 6 ln), (ad 66, aLng E 360 it), (mo, mO ad (upS (upS (upS (upS (upS (upS (upS (upS (upS S 28 tk1_40) 29 se1_41) 30 mx1_42) 31 1) 34 nw2) 35 lo2) 36 dn2) 37 up2) 38 wa2)), (ad 11, aInt E 36 la), (ad 12, aInt E 4 po), (ad 13, aInt E 20 pt), (ad 6, aInt E 4 cl), (ad 7, aInt E 48 wd), (ad 8, aInt E 48 nu), (ad 9, aInt E 48 fo), (ad 10, aInt E 48 to), (ad 14, aInt E 400 sg), (ad 19, aBoo E 100 pl2), (ad 22, aInt E 24 co), (ad 32, aInt E 12 sp1_38), (ad 33, aInt E 588 le1_39)] 59 [(4, .int (iZ s)), (3, .int (iZ st)), (0, .ref mo), (1, .int (iZ t)), (2, .int (iZ i))] [] := by
            intro fu
            induction fu with
            | zero =>
              intro s st pl2 nw2 lo2 dn2 up2 wa2 hm
              exact absurd hm (Nat.not_lt_zero _)
            | succ fu ih59 =>
              intro s st pl2 nw2 lo2 dn2 up2 wa2 hm hs hst hpl2 hw
              refine j_iload G 0 rfl d10_judge_59 ?_
              refine j_bipush G d10_judge_61 rfl ?_
              refine j_icmp_ge (tgt := 245) G d10_judge_63 (by decide) (by omega) (by decide) (fun h43 => ?_) (fun h43 => ?_)
              ·
                refine j_bipush G d10_judge_245 rfl ?_
                refine j_perm (ws' := [(mo, mO ad (upS (upS (upS (upS (upS (upS (upS (upS (upS S 28 tk1_40) 29 se1_41) 30 mx1_42) 31 1) 34 nw2) 35 lo2) 36 dn2) 37 up2) 38 wa2)), (ad 11, aInt E 36 la), (ad 12, aInt E 4 po), (ad 13, aInt E 20 pt), (ad 6, aInt E 4 cl), (ad 7, aInt E 48 wd), (ad 8, aInt E 48 nu), (ad 9, aInt E 48 fo), (ad 10, aInt E 48 to), (ad 14, aInt E 400 sg), (ad 19, aBoo E 100 pl2), (ad 22, aInt E 24 co), (ad 32, aInt E 12 sp1_38), (ad 33, aInt E 588 le1_39), (ad 64, aInt E 6 so), (ad 65, aInt E 6 ln), (ad 66, aLng E 360 it)]) [3, 4, 5, 6, 7, 8, 9, 10, 11, 12, 13, 14, 15, 16, 0, 1, 2] rfl rfl rfl ?_
                exact j_iret G F d10_judge_247 ⟨(-5), pl2, sp1_38, le1_39, tk1_40, se1_41, mx1_42, 1, nw2, lo2, dn2, up2, wa2, rfl, rfl, (by first | exact ⟨(if_neg (by omega)).symm, hpl⟩ | (refine ⟨?_, hpl⟩; rw [if_pos (by omega), if_pos (by omega)]; done) | (refine ⟨?_, hpl2⟩; rw [if_pos (by omega), if_neg (by omega), hw, show (12 - s).toNat = 0 by omega]; rfl) | (refine ⟨?_, hpl2⟩; rw [if_pos (by omega), if_neg (by omega), hw, show (12 - s).toNat = (12 - (s + 1)).toNat + 1 by omega, juF_s, if_pos (by omega)]; done) | (refine ⟨?_, by first | exact hpl3 | exact hpl2⟩; rw [if_pos (by omega), if_neg (by omega), hw, show (12 - s).toNat = (12 - (s + 1)).toNat + 1 by omega, juF_s, if_neg (by omega), if_neg hi1, if_pos (by omega)]; done) | (exfalso; omega))⟩
              ·
                refine j_aload_n G 2 rfl d10_judge_66 ?_
                refine j_get G 3 10 64 in10 fl10_206 d10_judge_67 rfl rfl (by decide) (v := .ref (ad 64)) rfl rfl ?_
                refine j_iload_n G 3 rfl d10_judge_70 ?_
                refine j_iald G 0 rfl (by omega) d10_judge_71 ?_
                refine j_if_lt (tgt := 94) G d10_judge_72 (by decide) (by omega) (fun h44 => ?_) (fun h44 => ?_)
                ·
                  refine j_bipush G d10_judge_94 rfl ?_
                  refine j_iload G 0 rfl d10_judge_96 ?_
                  refine j_iadd G d10_judge_98 ?_
                  refine j_perm (ws' := [(mo, mO ad (upS (upS (upS (upS (upS (upS (upS (upS (upS S 28 tk1_40) 29 se1_41) 30 mx1_42) 31 1) 34 nw2) 35 lo2) 36 dn2) 37 up2) 38 wa2)), (ad 11, aInt E 36 la), (ad 12, aInt E 4 po), (ad 13, aInt E 20 pt), (ad 6, aInt E 4 cl), (ad 7, aInt E 48 wd), (ad 8, aInt E 48 nu), (ad 9, aInt E 48 fo), (ad 10, aInt E 48 to), (ad 14, aInt E 400 sg), (ad 19, aBoo E 100 pl2), (ad 22, aInt E 24 co), (ad 32, aInt E 12 sp1_38), (ad 33, aInt E 588 le1_39), (ad 64, aInt E 6 so), (ad 65, aInt E 6 ln), (ad 66, aLng E 360 it)]) [3, 4, 5, 6, 7, 8, 9, 10, 11, 12, 13, 14, 15, 16, 0, 1, 2] rfl rfl rfl ?_
                  exact j_iret G F d10_judge_99 ⟨100 + s, pl2, sp1_38, le1_39, tk1_40, se1_41, mx1_42, 1, nw2, lo2, dn2, up2, wa2, rfl, rfl, (by first | exact ⟨(if_neg (by omega)).symm, hpl⟩ | (refine ⟨?_, hpl⟩; rw [if_pos (by omega), if_pos (by omega)]; done) | (refine ⟨?_, hpl2⟩; rw [if_pos (by omega), if_neg (by omega), hw, show (12 - s).toNat = 0 by omega]; rfl) | (refine ⟨?_, hpl2⟩; rw [if_pos (by omega), if_neg (by omega), hw, show (12 - s).toNat = (12 - (s + 1)).toNat + 1 by omega, juF_s, if_pos (by omega)]; done) | (refine ⟨?_, by first | exact hpl3 | exact hpl2⟩; rw [if_pos (by omega), if_neg (by omega), hw, show (12 - s).toNat = (12 - (s + 1)).toNat + 1 by omega, juF_s, if_neg (by omega), if_neg hi1, if_pos (by omega)]; done) | (exfalso; omega))⟩
                ·
                  refine j_iload_n G 4 rfl d10_judge_75 ?_
                  refine j_if_lt (tgt := 94) G d10_judge_76 (by decide) (by omega) (fun h45 => ?_) (fun h45 => ?_)
                  ·
                    refine j_bipush G d10_judge_94 rfl ?_
                    refine j_iload G 0 rfl d10_judge_96 ?_
                    refine j_iadd G d10_judge_98 ?_
                    refine j_perm (ws' := [(mo, mO ad (upS (upS (upS (upS (upS (upS (upS (upS (upS S 28 tk1_40) 29 se1_41) 30 mx1_42) 31 1) 34 nw2) 35 lo2) 36 dn2) 37 up2) 38 wa2)), (ad 11, aInt E 36 la), (ad 12, aInt E 4 po), (ad 13, aInt E 20 pt), (ad 6, aInt E 4 cl), (ad 7, aInt E 48 wd), (ad 8, aInt E 48 nu), (ad 9, aInt E 48 fo), (ad 10, aInt E 48 to), (ad 14, aInt E 400 sg), (ad 19, aBoo E 100 pl2), (ad 22, aInt E 24 co), (ad 32, aInt E 12 sp1_38), (ad 33, aInt E 588 le1_39), (ad 64, aInt E 6 so), (ad 65, aInt E 6 ln), (ad 66, aLng E 360 it)]) [3, 4, 5, 6, 7, 8, 9, 10, 11, 12, 13, 14, 15, 16, 0, 1, 2] rfl rfl rfl ?_
                    exact j_iret G F d10_judge_99 ⟨100 + s, pl2, sp1_38, le1_39, tk1_40, se1_41, mx1_42, 1, nw2, lo2, dn2, up2, wa2, rfl, rfl, (by first | exact ⟨(if_neg (by omega)).symm, hpl⟩ | (refine ⟨?_, hpl⟩; rw [if_pos (by omega), if_pos (by omega)]; done) | (refine ⟨?_, hpl2⟩; rw [if_pos (by omega), if_neg (by omega), hw, show (12 - s).toNat = 0 by omega]; rfl) | (refine ⟨?_, hpl2⟩; rw [if_pos (by omega), if_neg (by omega), hw, show (12 - s).toNat = (12 - (s + 1)).toNat + 1 by omega, juF_s, if_pos (by omega)]; done) | (refine ⟨?_, by first | exact hpl3 | exact hpl2⟩; rw [if_pos (by omega), if_neg (by omega), hw, show (12 - s).toNat = (12 - (s + 1)).toNat + 1 by omega, juF_s, if_neg (by omega), if_neg hi1, if_pos (by omega)]; done) | (exfalso; omega))⟩
                  ·
                    refine j_iload_n G 4 rfl d10_judge_79 ?_
                    refine j_aload_n G 2 rfl d10_judge_80 ?_
                    refine j_get G 3 10 65 in10 fl10_209 d10_judge_81 rfl rfl (by decide) (v := .ref (ad 65)) rfl rfl ?_
                    refine j_iload_n G 3 rfl d10_judge_84 ?_
                    refine j_iald G 1 rfl (by omega) d10_judge_85 ?_
                    refine j_iload G 0 rfl d10_judge_86 ?_
                    refine j_isub G d10_judge_88 ?_
                    refine j_iconst G d10_judge_89 ?_
                    refine j_isub G d10_judge_90 ?_
                    refine j_icmp_le (tgt := 100) G d10_judge_91 (by decide) (by omega) (by omega) (fun h46 => ?_) (fun h46 => ?_)
                    ·
                      refine j_aload_n G 2 rfl d10_judge_100 ?_
                      refine j_iload G 0 rfl d10_judge_101 ?_
                      refine j_iload_n G 1 rfl d10_judge_103 ?_
                      refine j_VM G (rm' := { frames := 1, cells := 0, slots := 0, locals := 22 }) (wc := [(mo, mO ad (upS (upS (upS (upS (upS (upS (upS (upS (upS S 28 tk1_40) 29 se1_41) 30 mx1_42) 31 1) 34 nw2) 35 lo2) 36 dn2) 37 up2) 38 wa2)), (ad 22, aInt E 24 co), (ad 32, aInt E 12 sp1_38), (ad 33, aInt E 588 le1_39)]) (wr := [(ad 64, aInt E 6 so), (ad 65, aInt E 6 ln), (ad 66, aLng E 360 it), (ad 11, aInt E 36 la), (ad 12, aInt E 4 po), (ad 13, aInt E 20 pt), (ad 6, aInt E 4 cl), (ad 7, aInt E 48 wd), (ad 8, aInt E 48 nu), (ad 9, aInt E 48 fo), (ad 10, aInt E 48 to), (ad 14, aInt E 400 sg), (ad 19, aBoo E 100 pl2)]) (k10_comesIn (xl Γ) E mo ad (upS (upS (upS (upS (upS (upS (upS (upS (upS S 28 tk1_40) 29 se1_41) 30 mx1_42) 31 1) 34 nw2) 35 lo2) 36 dn2) 37 up2) 38 wa2) co sp1_38 le1_39 (kD (cM la po (S 1)) (pM pt (S 1)) (fun s => smM wd nu cl Fq (S 1) 3 s (S 20)) (fun s => smM wd nu cl Fq (S 1) 7 s (S 20)) co 0 0 0 0 1) s st (by first | assumption | omega | (simp only [upS, reduceIte, Nat.reduceEqDiff, eq_self, List.length_cons, List.length_nil, List.length_append] <;> omega)) (by first | assumption | omega | (simp only [upS, reduceIte, Nat.reduceEqDiff, eq_self, List.length_cons, List.length_nil, List.length_append] <;> omega)) (by first | assumption | omega | (simp only [upS, reduceIte, Nat.reduceEqDiff, eq_self, List.length_cons, List.length_nil, List.length_append] <;> omega))) mw10_comesIn ml10_318 [3, 14, 15, 16] [0, 1, 2, 4, 5, 6, 7, 8, 9, 10, 11, 12, 13] rfl rfl ⟨rfl, rfl⟩ (by decide) 3 10 rfl rfl rfl ⟨Nat.le_of_ble_eq_true rfl, Nat.le_of_ble_eq_true rfl⟩ rfl (rest := []) rfl (Nat.le_of_ble_eq_true rfl) d10_judge_104 ⟨Nat.le_of_ble_eq_true rfl, Nat.le_of_ble_eq_true rfl⟩ (fun r w1 hr => ?_)
                      obtain ⟨nw_48, lo_49, dn_50, up_51, wa_52, rfl, rfl, ⟨hq47_0, hq47_1, hq47_2, hq47_3, hq47_4⟩⟩ := hr
                      refine j_eq (ws' := [(ad 64, aInt E 6 so), (ad 65, aInt E 6 ln), (ad 66, aLng E 360 it), (ad 11, aInt E 36 la), (ad 12, aInt E 4 po), (ad 13, aInt E 20 pt), (ad 6, aInt E 4 cl), (ad 7, aInt E 48 wd), (ad 8, aInt E 48 nu), (ad 9, aInt E 48 fo), (ad 10, aInt E 48 to), (ad 14, aInt E 400 sg), (ad 19, aBoo E 100 pl2), (mo, mO ad (upS (upS (upS (upS (upS (upS (upS (upS (upS S 28 tk1_40) 29 se1_41) 30 mx1_42) 31 1) 34 nw_48) 35 lo_49) 36 dn_50) 37 up_51) 38 wa_52)), (ad 22, aInt E 24 co), (ad 32, aInt E 12 sp1_38), (ad 33, aInt E 588 le1_39)]) rfl rfl rfl ?_
                      try simp only [upS, reduceIte, Nat.reduceEqDiff, eq_self] at hq47_0 hq47_1 hq47_2 hq47_3 hq47_4
                      have hnw := hq47_0
                      have hdn := hq47_2
                      have hup := hq47_3
                      have hdr := dR hok (s := s) (st := st) (by omega) hst
                      have hnr := dNow_r hok (s := s) (st := st) (by omega) hst
                      refine j_aload_n G 2 rfl d10_judge_107 ?_
                      refine j_get G 13 10 34 in10 fl10_115 d10_judge_108 rfl rfl (by decide) (v := .int (iZ nw_48)) rfl rfl ?_
                      refine j_istore_n G d10_judge_111 (by decide) rfl ?_
                      have hir := hit (60 * t + i + s) (by omega) (by omega)
                      refine j_aload_n G 2 rfl d10_judge_112 ?_
                      refine j_get G 13 10 66 in10 fl10_212 d10_judge_113 rfl rfl (by decide) (v := .ref (ad 66)) rfl rfl ?_
                      refine j_bipush G d10_judge_116 rfl ?_
                      refine j_iload_n G 3 rfl d10_judge_118 ?_
                      refine j_imul G d10_judge_119 ?_
                      refine j_iload_n G 4 rfl d10_judge_120 ?_
                      refine j_iadd G d10_judge_121 ?_
                      refine j_iload G 1 rfl d10_judge_122 ?_
                      refine j_iadd G d10_judge_124 ?_
                      refine j_lald G 2 rfl (by omega) d10_judge_125 ?_
                      refine j_lstore G d10_judge_126 (by decide) rfl ?_
                      refine j_lload G 0 rfl d10_judge_128 ?_
                      refine j_ldc2 G (-1) ct10_352 (by decide) d10_judge_130 ?_
                      refine j_lcmp G d10_judge_133 (by omega) (by omega) ?_
                      refine j_if_ne (tgt := 140) G d10_judge_134 (by decide) (by split <;> first | decide | (split <;> decide)) (fun h53 => ?_) (fun h53 => ?_)
                      ·
                        have h53 : (it (((60 * t) + i) + s)) ≠ (-1) := by
                          revert h53; split <;> (try split) <;> intro h53 <;> omega
                        have hi1 : ¬ it (60 * t + i + s) = -1 := by omega
                        refine j_aload_n G 3 rfl d10_judge_140 ?_
                        refine j_get G 13 10 36 in10 fl10_121 d10_judge_141 rfl rfl (by decide) (v := .int (iZ dn_50)) rfl rfl ?_
                        refine j_aload_n G 3 rfl d10_judge_144 ?_
                        refine j_get G 13 10 37 in10 fl10_124 d10_judge_145 rfl rfl (by decide) (v := .int (iZ up_51)) rfl rfl ?_
                        refine j_iadd G d10_judge_148 ?_
                        refine j_if_eq (tgt := 211) G d10_judge_149 (by decide) (by omega) (fun h54 => ?_) (fun h54 => ?_)
                        ·
                          refine j_iload G 2 rfl d10_judge_211 ?_
                          refine j_perm (ws' := [(mo, mO ad (upS (upS (upS (upS (upS (upS (upS (upS (upS S 28 tk1_40) 29 se1_41) 30 mx1_42) 31 1) 34 nw_48) 35 lo_49) 36 dn_50) 37 up_51) 38 wa_52)), (ad 11, aInt E 36 la), (ad 12, aInt E 4 po), (ad 13, aInt E 20 pt), (ad 6, aInt E 4 cl), (ad 7, aInt E 48 wd), (ad 8, aInt E 48 nu), (ad 9, aInt E 48 fo), (ad 10, aInt E 48 to), (ad 14, aInt E 400 sg), (ad 19, aBoo E 100 pl2), (ad 22, aInt E 24 co), (ad 32, aInt E 12 sp1_38), (ad 33, aInt E 588 le1_39), (ad 64, aInt E 6 so), (ad 65, aInt E 6 ln), (ad 66, aLng E 360 it)]) [13, 3, 4, 5, 6, 7, 8, 9, 10, 11, 12, 14, 15, 16, 0, 1, 2] rfl rfl rfl ?_
                          exact j_iret G F d10_judge_213 ⟨s, pl2, sp1_38, le1_39, tk1_40, se1_41, mx1_42, 1, nw_48, lo_49, dn_50, up_51, wa_52, rfl, rfl, (by first | exact ⟨(if_neg (by omega)).symm, hpl⟩ | (refine ⟨?_, hpl⟩; rw [if_pos (by omega), if_pos (by omega)]; done) | (refine ⟨?_, hpl2⟩; rw [if_pos (by omega), if_neg (by omega), hw, show (12 - s).toNat = 0 by omega]; rfl) | (refine ⟨?_, hpl2⟩; rw [if_pos (by omega), if_neg (by omega), hw, show (12 - s).toNat = (12 - (s + 1)).toNat + 1 by omega, juF_s, if_pos (by omega)]; done) | (refine ⟨?_, by first | exact hpl3 | exact hpl2⟩; rw [if_pos (by omega), if_neg (by omega), hw, show (12 - s).toNat = (12 - (s + 1)).toNat + 1 by omega, juF_s, if_neg (by omega), if_neg hi1, if_pos (by omega)]; done) | (exfalso; omega))⟩
                        ·
                          refine j_lload G 0 rfl d10_judge_152 ?_
                          refine j_lconst G 0 d10_judge_154 rfl ?_
                          refine j_lcmp G d10_judge_155 (by omega) (by omega) ?_
                          refine j_if_lt (tgt := 211) G d10_judge_156 (by decide) (by split <;> first | decide | (split <;> decide)) (fun h55 => ?_) (fun h55 => ?_)
                          ·
                            have h55 : (it (((60 * t) + i) + s)) < 0 := by
                              revert h55; split <;> (try split) <;> intro h55 <;> omega
                            refine j_iload G 2 rfl d10_judge_211 ?_
                            refine j_perm (ws' := [(mo, mO ad (upS (upS (upS (upS (upS (upS (upS (upS (upS S 28 tk1_40) 29 se1_41) 30 mx1_42) 31 1) 34 nw_48) 35 lo_49) 36 dn_50) 37 up_51) 38 wa_52)), (ad 11, aInt E 36 la), (ad 12, aInt E 4 po), (ad 13, aInt E 20 pt), (ad 6, aInt E 4 cl), (ad 7, aInt E 48 wd), (ad 8, aInt E 48 nu), (ad 9, aInt E 48 fo), (ad 10, aInt E 48 to), (ad 14, aInt E 400 sg), (ad 19, aBoo E 100 pl2), (ad 22, aInt E 24 co), (ad 32, aInt E 12 sp1_38), (ad 33, aInt E 588 le1_39), (ad 64, aInt E 6 so), (ad 65, aInt E 6 ln), (ad 66, aLng E 360 it)]) [13, 3, 4, 5, 6, 7, 8, 9, 10, 11, 12, 14, 15, 16, 0, 1, 2] rfl rfl rfl ?_
                            exact j_iret G F d10_judge_213 ⟨s, pl2, sp1_38, le1_39, tk1_40, se1_41, mx1_42, 1, nw_48, lo_49, dn_50, up_51, wa_52, rfl, rfl, (by first | exact ⟨(if_neg (by omega)).symm, hpl⟩ | (refine ⟨?_, hpl⟩; rw [if_pos (by omega), if_pos (by omega)]; done) | (refine ⟨?_, hpl2⟩; rw [if_pos (by omega), if_neg (by omega), hw, show (12 - s).toNat = 0 by omega]; rfl) | (refine ⟨?_, hpl2⟩; rw [if_pos (by omega), if_neg (by omega), hw, show (12 - s).toNat = (12 - (s + 1)).toNat + 1 by omega, juF_s, if_pos (by omega)]; done) | (refine ⟨?_, by first | exact hpl3 | exact hpl2⟩; rw [if_pos (by omega), if_neg (by omega), hw, show (12 - s).toNat = (12 - (s + 1)).toNat + 1 by omega, juF_s, if_neg (by omega), if_neg hi1, if_pos (by omega)]; done) | (exfalso; omega))⟩
                          ·
                            have h55 : ¬ ((it (((60 * t) + i) + s)) < 0) := by
                              revert h55; split <;> (try split) <;> intro h55 <;> omega
                            refine j_lload G 0 rfl d10_judge_159 ?_
                            refine j_aload_n G 3 rfl d10_judge_161 ?_
                            refine j_get G 13 10 28 in10 fl10_97 d10_judge_162 rfl rfl (by decide) (v := .int (iZ tk1_40)) rfl rfl ?_
                            refine j_i2l G d10_judge_165 (by omega) ?_
                            refine j_lcmp G d10_judge_166 (by omega) (by omega) ?_
                            refine j_if_gt (tgt := 211) G d10_judge_167 (by decide) (by split <;> first | decide | (split <;> decide)) (fun h56 => ?_) (fun h56 => ?_)
                            ·
                              have h56 : tk1_40 < (it (((60 * t) + i) + s)) := by
                                revert h56; split <;> (try split) <;> intro h56 <;> omega
                              refine j_iload G 2 rfl d10_judge_211 ?_
                              refine j_perm (ws' := [(mo, mO ad (upS (upS (upS (upS (upS (upS (upS (upS (upS S 28 tk1_40) 29 se1_41) 30 mx1_42) 31 1) 34 nw_48) 35 lo_49) 36 dn_50) 37 up_51) 38 wa_52)), (ad 11, aInt E 36 la), (ad 12, aInt E 4 po), (ad 13, aInt E 20 pt), (ad 6, aInt E 4 cl), (ad 7, aInt E 48 wd), (ad 8, aInt E 48 nu), (ad 9, aInt E 48 fo), (ad 10, aInt E 48 to), (ad 14, aInt E 400 sg), (ad 19, aBoo E 100 pl2), (ad 22, aInt E 24 co), (ad 32, aInt E 12 sp1_38), (ad 33, aInt E 588 le1_39), (ad 64, aInt E 6 so), (ad 65, aInt E 6 ln), (ad 66, aLng E 360 it)]) [13, 3, 4, 5, 6, 7, 8, 9, 10, 11, 12, 14, 15, 16, 0, 1, 2] rfl rfl rfl ?_
                              exact j_iret G F d10_judge_213 ⟨s, pl2, sp1_38, le1_39, tk1_40, se1_41, mx1_42, 1, nw_48, lo_49, dn_50, up_51, wa_52, rfl, rfl, (by first | exact ⟨(if_neg (by omega)).symm, hpl⟩ | (refine ⟨?_, hpl⟩; rw [if_pos (by omega), if_pos (by omega)]; done) | (refine ⟨?_, hpl2⟩; rw [if_pos (by omega), if_neg (by omega), hw, show (12 - s).toNat = 0 by omega]; rfl) | (refine ⟨?_, hpl2⟩; rw [if_pos (by omega), if_neg (by omega), hw, show (12 - s).toNat = (12 - (s + 1)).toNat + 1 by omega, juF_s, if_pos (by omega)]; done) | (refine ⟨?_, by first | exact hpl3 | exact hpl2⟩; rw [if_pos (by omega), if_neg (by omega), hw, show (12 - s).toNat = (12 - (s + 1)).toNat + 1 by omega, juF_s, if_neg (by omega), if_neg hi1, if_pos (by omega)]; done) | (exfalso; omega))⟩
                            ·
                              have h56 : ¬ (tk1_40 < (it (((60 * t) + i) + s))) := by
                                revert h56; split <;> (try split) <;> intro h56 <;> omega
                              refine j_lload G 0 rfl d10_judge_170 ?_
                              refine j_aload_n G 3 rfl d10_judge_172 ?_
                              refine j_get G 13 10 34 in10 fl10_115 d10_judge_173 rfl rfl (by decide) (v := .int (iZ nw_48)) rfl rfl ?_
                              refine j_bipush G d10_judge_176 rfl ?_
                              refine j_idiv G d10_judge_178 (by omega) ?_
                              refine j_i2l G d10_judge_179 (by omega) ?_
                              refine j_lcmp G d10_judge_180 (by omega) (by omega) ?_
                              refine j_if_gt (tgt := 211) G d10_judge_181 (by decide) (by split <;> first | decide | (split <;> decide)) (fun h57 => ?_) (fun h57 => ?_)
                              ·
                                have h57 : (nw_48 / 81) < (it (((60 * t) + i) + s)) := by
                                  revert h57; split <;> (try split) <;> intro h57 <;> omega
                                refine j_iload G 2 rfl d10_judge_211 ?_
                                refine j_perm (ws' := [(mo, mO ad (upS (upS (upS (upS (upS (upS (upS (upS (upS S 28 tk1_40) 29 se1_41) 30 mx1_42) 31 1) 34 nw_48) 35 lo_49) 36 dn_50) 37 up_51) 38 wa_52)), (ad 11, aInt E 36 la), (ad 12, aInt E 4 po), (ad 13, aInt E 20 pt), (ad 6, aInt E 4 cl), (ad 7, aInt E 48 wd), (ad 8, aInt E 48 nu), (ad 9, aInt E 48 fo), (ad 10, aInt E 48 to), (ad 14, aInt E 400 sg), (ad 19, aBoo E 100 pl2), (ad 22, aInt E 24 co), (ad 32, aInt E 12 sp1_38), (ad 33, aInt E 588 le1_39), (ad 64, aInt E 6 so), (ad 65, aInt E 6 ln), (ad 66, aLng E 360 it)]) [13, 3, 4, 5, 6, 7, 8, 9, 10, 11, 12, 14, 15, 16, 0, 1, 2] rfl rfl rfl ?_
                                exact j_iret G F d10_judge_213 ⟨s, pl2, sp1_38, le1_39, tk1_40, se1_41, mx1_42, 1, nw_48, lo_49, dn_50, up_51, wa_52, rfl, rfl, (by first | exact ⟨(if_neg (by omega)).symm, hpl⟩ | (refine ⟨?_, hpl⟩; rw [if_pos (by omega), if_pos (by omega)]; done) | (refine ⟨?_, hpl2⟩; rw [if_pos (by omega), if_neg (by omega), hw, show (12 - s).toNat = 0 by omega]; rfl) | (refine ⟨?_, hpl2⟩; rw [if_pos (by omega), if_neg (by omega), hw, show (12 - s).toNat = (12 - (s + 1)).toNat + 1 by omega, juF_s, if_pos (by omega)]; done) | (refine ⟨?_, by first | exact hpl3 | exact hpl2⟩; rw [if_pos (by omega), if_neg (by omega), hw, show (12 - s).toNat = (12 - (s + 1)).toNat + 1 by omega, juF_s, if_neg (by omega), if_neg hi1, if_pos (by omega)]; done) | (exfalso; omega))⟩
                              ·
                                have h57 : ¬ ((nw_48 / 81) < (it (((60 * t) + i) + s))) := by
                                  revert h57; split <;> (try split) <;> intro h57 <;> omega
                                refine j_aload_n G 3 rfl d10_judge_184 ?_
                                refine j_aload_n G 3 rfl d10_judge_185 ?_
                                refine j_iconst G d10_judge_186 ?_
                                refine j_iload G 2 rfl d10_judge_187 ?_
                                refine j_VM G (rm' := { frames := 1, cells := 0, slots := 0, locals := 27 }) (wc := [(mo, mO ad (upS (upS (upS (upS (upS (upS (upS (upS (upS S 28 tk1_40) 29 se1_41) 30 mx1_42) 31 1) 34 nw_48) 35 lo_49) 36 dn_50) 37 up_51) 38 wa_52)), (ad 6, aInt E 4 cl), (ad 7, aInt E 48 wd), (ad 8, aInt E 48 nu), (ad 9, aInt E 48 fo), (ad 10, aInt E 48 to), (ad 14, aInt E 400 sg), (ad 19, aBoo E 100 pl2)]) (wr := [(ad 64, aInt E 6 so), (ad 65, aInt E 6 ln), (ad 66, aLng E 360 it), (ad 11, aInt E 36 la), (ad 12, aInt E 4 po), (ad 13, aInt E 20 pt), (ad 22, aInt E 24 co), (ad 32, aInt E 12 sp1_38), (ad 33, aInt E 588 le1_39)]) (k10_sum (xl Γ) E mo ad (upS (upS (upS (upS (upS (upS (upS (upS (upS S 28 tk1_40) 29 se1_41) 30 mx1_42) 31 1) 34 nw_48) 35 lo_49) 36 dn_50) 37 up_51) 38 wa_52) cl wd nu fo to sg pl2 Fq 3 s (by first | assumption | omega | (simp only [upS, reduceIte, Nat.reduceEqDiff, eq_self, List.length_cons, List.length_nil, List.length_append] <;> omega)) (by first | assumption | omega | (simp only [upS, reduceIte, Nat.reduceEqDiff, eq_self, List.length_cons, List.length_nil, List.length_append] <;> omega)) (by first | assumption | omega | (simp only [upS, reduceIte, Nat.reduceEqDiff, eq_self, List.length_cons, List.length_nil, List.length_append] <;> omega)) (by first | assumption | omega | (simp only [upS, reduceIte, Nat.reduceEqDiff, eq_self, List.length_cons, List.length_nil, List.length_append] <;> omega)) (by first | assumption | omega | (simp only [upS, reduceIte, Nat.reduceEqDiff, eq_self, List.length_cons, List.length_nil, List.length_append] <;> omega)) (by first | assumption | omega | (simp only [upS, reduceIte, Nat.reduceEqDiff, eq_self, List.length_cons, List.length_nil, List.length_append] <;> omega)) (by first | assumption | omega | (simp only [upS, reduceIte, Nat.reduceEqDiff, eq_self, List.length_cons, List.length_nil, List.length_append] <;> omega))) mw10_sum ml10_296 [13, 6, 7, 8, 9, 10, 11, 12] [0, 1, 2, 3, 4, 5, 14, 15, 16] rfl rfl ⟨rfl, rfl⟩ (by decide) 13 10 rfl rfl rfl ⟨Nat.le_of_ble_eq_true rfl, Nat.le_of_ble_eq_true rfl⟩ rfl (rest := [.ref mo]) rfl (Nat.le_of_ble_eq_true rfl) d10_judge_189 ⟨Nat.le_of_ble_eq_true rfl, Nat.le_of_ble_eq_true rfl⟩ (fun r w1 hr => ?_)
                                obtain ⟨v59, pl1_60, rfl, rfl, ⟨hq58_0, hq58_1, hq58_2⟩⟩ := hr
                                refine j_eq (ws' := [(ad 64, aInt E 6 so), (ad 65, aInt E 6 ln), (ad 66, aLng E 360 it), (ad 11, aInt E 36 la), (ad 12, aInt E 4 po), (ad 13, aInt E 20 pt), (ad 22, aInt E 24 co), (ad 32, aInt E 12 sp1_38), (ad 33, aInt E 588 le1_39), (mo, mO ad (upS (upS (upS (upS (upS (upS (upS (upS (upS S 28 tk1_40) 29 se1_41) 30 mx1_42) 31 1) 34 nw_48) 35 lo_49) 36 dn_50) 37 up_51) 38 wa_52)), (ad 6, aInt E 4 cl), (ad 7, aInt E 48 wd), (ad 8, aInt E 48 nu), (ad 9, aInt E 48 fo), (ad 10, aInt E 48 to), (ad 14, aInt E 400 sg), (ad 19, aBoo E 100 pl1_60)]) rfl rfl rfl ?_
                                try simp only [upS, reduceIte, Nat.reduceEqDiff, eq_self] at hq58_0 hq58_1 hq58_2
                                have hsm := hq58_0
                                have hsr := hq58_1
                                have hpl3 := hq58_2
                                refine j_aload_n G 3 rfl d10_judge_192 ?_
                                refine j_get G 9 10 36 in10 fl10_121 d10_judge_193 rfl rfl (by decide) (v := .int (iZ dn_50)) rfl rfl ?_
                                refine j_aload_n G 3 rfl d10_judge_196 ?_
                                refine j_get G 9 10 37 in10 fl10_124 d10_judge_197 rfl rfl (by decide) (v := .int (iZ up_51)) rfl rfl ?_
                                refine j_lload G 0 rfl d10_judge_200 ?_
                                refine j_l2i G d10_judge_202 ?_
                                refine j_VP G (k10_stopsBy (xl Γ) E mo ad (upS (upS (upS (upS (upS (upS (upS (upS (upS S 28 tk1_40) 29 se1_41) 30 mx1_42) 31 1) 34 nw_48) 35 lo_49) 36 dn_50) 37 up_51) 38 wa_52) la po pt v59 dn_50 up_51 (it (((60 * t) + i) + s)) (by first | assumption | omega | (simp only [upS, reduceIte, Nat.reduceEqDiff, eq_self, List.length_cons, List.length_nil, List.length_append] <;> omega)) (by first | assumption | omega | (simp only [upS, reduceIte, Nat.reduceEqDiff, eq_self, List.length_cons, List.length_nil, List.length_append] <;> omega)) (by first | assumption | omega | (simp only [upS, reduceIte, Nat.reduceEqDiff, eq_self, List.length_cons, List.length_nil, List.length_append] <;> omega)) (by first | assumption | omega | (simp only [upS, reduceIte, Nat.reduceEqDiff, eq_self, List.length_cons, List.length_nil, List.length_append] <;> omega)) (by first | assumption | omega | (simp only [upS, reduceIte, Nat.reduceEqDiff, eq_self, List.length_cons, List.length_nil, List.length_append] <;> omega)) (by first | assumption | omega | (simp only [upS, reduceIte, Nat.reduceEqDiff, eq_self, List.length_cons, List.length_nil, List.length_append] <;> omega))) mw10_stopsBy ml10_303 [9, 3, 4, 5] rfl 9 10 rfl rfl rfl ⟨Nat.le_of_ble_eq_true rfl, Nat.le_of_ble_eq_true rfl⟩ rfl (rest := []) rfl (Nat.le_of_ble_eq_true rfl) d10_judge_203 ⟨Nat.le_of_ble_eq_true rfl, Nat.le_of_ble_eq_true rfl⟩ (fun r hr => ?_)
                                obtain ⟨v62, rfl, hq61⟩ := hr
                                try simp only [upS, reduceIte, Nat.reduceEqDiff, eq_self] at hq61
                                have hsv : v62 = stopM (cM la po (S 1)) (pM pt (S 1)) (cM la po (S 1) 3 * (dDn (kD (cM la po (S 1)) (pM pt (S 1)) (fun s => smM wd nu cl Fq (S 1) 3 s (S 20)) (fun s => smM wd nu cl Fq (S 1) 7 s (S 20)) co 0 0 0 0 1) s st - dUp (kD (cM la po (S 1)) (pM pt (S 1)) (fun s => smM wd nu cl Fq (S 1) 3 s (S 20)) (fun s => smM wd nu cl Fq (S 1) 7 s (S 20)) co 0 0 0 0 1) s st) + it (60 * t + i + s)) (smM wd nu cl Fq (S 1) 3 s (S 20)) := by have q := hq61; rw [hsm, hdn, hup] at q; exact q
                                have hsr2 := stopM_q hwm1 hsv
                                refine j_bipush G d10_judge_206 rfl ?_
                                refine j_icmp_eq (tgt := 214) G d10_judge_208 (by decide) (by omega) (by decide) (fun h63 => ?_) (fun h63 => ?_)
                                ·
                                  refine j_aload_n G 3 rfl d10_judge_214 ?_
                                  refine j_get G 9 10 34 in10 fl10_115 d10_judge_215 rfl rfl (by decide) (v := .int (iZ nw_48)) rfl rfl ?_
                                  refine j_bipush G d10_judge_218 rfl ?_
                                  refine j_lload G 0 rfl d10_judge_220 ?_
                                  refine j_l2i G d10_judge_222 ?_
                                  refine j_imul G d10_judge_223 ?_
                                  refine j_isub G d10_judge_224 ?_
                                  refine j_bipush G d10_judge_225 rfl ?_
                                  refine j_aload_n G 3 rfl d10_judge_227 ?_
                                  refine j_get G 9 10 36 in10 fl10_121 d10_judge_228 rfl rfl (by decide) (v := .int (iZ dn_50)) rfl rfl ?_
                                  refine j_imul G d10_judge_231 ?_
                                  refine j_isub G d10_judge_232 ?_
                                  refine j_aload_n G 3 rfl d10_judge_233 ?_
                                  refine j_get G 9 10 37 in10 fl10_124 d10_judge_234 rfl rfl (by decide) (v := .int (iZ up_51)) rfl rfl ?_
                                  refine j_isub G d10_judge_237 ?_
                                  refine j_nm (fun x64 ex64 => ?_)
                                  refine j_istore_n G d10_judge_238 (by decide) rfl ?_
                                  refine j_iinc G d10_judge_239 2 rfl (by decide) rfl ?_
                                  refine j_goto (tgt := 59) G d10_judge_242 (by decide) ?_
                                  refine j_locs (ls' := [(4, .int (iZ (s + 1))), (3, .int (iZ x64)), (0, .ref mo), (1, .int (iZ t)), (2, .int (iZ i))]) [0, 1, 3, 4, 5] rfl ?_
                                  refine j_perm (ws' := [(ad 64, aInt E 6 so), (ad 65, aInt E 6 ln), (ad 66, aLng E 360 it), (mo, mO ad (upS (upS (upS (upS (upS (upS (upS (upS (upS S 28 tk1_40) 29 se1_41) 30 mx1_42) 31 1) 34 nw_48) 35 lo_49) 36 dn_50) 37 up_51) 38 wa_52)), (ad 11, aInt E 36 la), (ad 12, aInt E 4 po), (ad 13, aInt E 20 pt), (ad 6, aInt E 4 cl), (ad 7, aInt E 48 wd), (ad 8, aInt E 48 nu), (ad 9, aInt E 48 fo), (ad 10, aInt E 48 to), (ad 14, aInt E 400 sg), (ad 19, aBoo E 100 pl1_60), (ad 22, aInt E 24 co), (ad 32, aInt E 12 sp1_38), (ad 33, aInt E 588 le1_39)]) [0, 1, 2, 9, 3, 4, 5, 10, 11, 12, 13, 14, 15, 16, 6, 7, 8] rfl rfl rfl ?_
                                  exact ih59 (s + 1) x64 pl1_60 nw_48 lo_49 dn_50 up_51 wa_52 (by omega) (by first | assumption | omega) (by first | assumption | omega) (by first | exact hpl3 | exact hpl2) (by rw [hw, show (12 - s).toNat = (12 - (s + 1)).toNat + 1 by omega, juF_s, if_neg (by omega)]; first | (rw [if_pos hi1, ← hnw]; done) | (rw [if_neg hi1, if_neg (by omega), ← hnw, ← hdn, ← hup]; subst_vars; rfl))
                                ·
                                  refine j_iload G 2 rfl d10_judge_211 ?_
                                  refine j_perm (ws' := [(mo, mO ad (upS (upS (upS (upS (upS (upS (upS (upS (upS S 28 tk1_40) 29 se1_41) 30 mx1_42) 31 1) 34 nw_48) 35 lo_49) 36 dn_50) 37 up_51) 38 wa_52)), (ad 11, aInt E 36 la), (ad 12, aInt E 4 po), (ad 13, aInt E 20 pt), (ad 6, aInt E 4 cl), (ad 7, aInt E 48 wd), (ad 8, aInt E 48 nu), (ad 9, aInt E 48 fo), (ad 10, aInt E 48 to), (ad 14, aInt E 400 sg), (ad 19, aBoo E 100 pl1_60), (ad 22, aInt E 24 co), (ad 32, aInt E 12 sp1_38), (ad 33, aInt E 588 le1_39), (ad 64, aInt E 6 so), (ad 65, aInt E 6 ln), (ad 66, aLng E 360 it)]) [9, 3, 4, 5, 10, 11, 12, 13, 14, 15, 16, 6, 7, 8, 0, 1, 2] rfl rfl rfl ?_
                                  exact j_iret G F d10_judge_213 ⟨s, pl1_60, sp1_38, le1_39, tk1_40, se1_41, mx1_42, 1, nw_48, lo_49, dn_50, up_51, wa_52, rfl, rfl, (by first | exact ⟨(if_neg (by omega)).symm, hpl⟩ | (refine ⟨?_, hpl⟩; rw [if_pos (by omega), if_pos (by omega)]; done) | (refine ⟨?_, hpl2⟩; rw [if_pos (by omega), if_neg (by omega), hw, show (12 - s).toNat = 0 by omega]; rfl) | (refine ⟨?_, hpl2⟩; rw [if_pos (by omega), if_neg (by omega), hw, show (12 - s).toNat = (12 - (s + 1)).toNat + 1 by omega, juF_s, if_pos (by omega)]; done) | (refine ⟨?_, by first | exact hpl3 | exact hpl2⟩; rw [if_pos (by omega), if_neg (by omega), hw, show (12 - s).toNat = (12 - (s + 1)).toNat + 1 by omega, juF_s, if_neg (by omega), if_neg hi1, if_pos (by omega)]; done) | (exfalso; omega))⟩
                      ·
                        have h53 : ¬ ((it (((60 * t) + i) + s)) ≠ (-1)) := by
                          revert h53; split <;> (try split) <;> intro h53 <;> omega
                        have hi1 : it (60 * t + i + s) = -1 := by omega
                        refine j_goto (tgt := 239) G d10_judge_137 (by decide) ?_
                        refine j_iinc G d10_judge_239 2 rfl (by decide) rfl ?_
                        refine j_goto (tgt := 59) G d10_judge_242 (by decide) ?_
                        refine j_locs (ls' := [(4, .int (iZ (s + 1))), (3, .int (iZ nw_48)), (0, .ref mo), (1, .int (iZ t)), (2, .int (iZ i))]) [0, 2, 3, 4, 5] rfl ?_
                        refine j_perm (ws' := [(ad 64, aInt E 6 so), (ad 65, aInt E 6 ln), (ad 66, aLng E 360 it), (mo, mO ad (upS (upS (upS (upS (upS (upS (upS (upS (upS S 28 tk1_40) 29 se1_41) 30 mx1_42) 31 1) 34 nw_48) 35 lo_49) 36 dn_50) 37 up_51) 38 wa_52)), (ad 11, aInt E 36 la), (ad 12, aInt E 4 po), (ad 13, aInt E 20 pt), (ad 6, aInt E 4 cl), (ad 7, aInt E 48 wd), (ad 8, aInt E 48 nu), (ad 9, aInt E 48 fo), (ad 10, aInt E 48 to), (ad 14, aInt E 400 sg), (ad 19, aBoo E 100 pl2), (ad 22, aInt E 24 co), (ad 32, aInt E 12 sp1_38), (ad 33, aInt E 588 le1_39)]) [0, 1, 2, 13, 3, 4, 5, 6, 7, 8, 9, 10, 11, 12, 14, 15, 16] rfl rfl rfl ?_
                        exact ih59 (s + 1) nw_48 pl2 nw_48 lo_49 dn_50 up_51 wa_52 (by omega) (by first | assumption | omega) (by first | assumption | omega) (by first | exact hpl3 | exact hpl2) (by rw [hw, show (12 - s).toNat = (12 - (s + 1)).toNat + 1 by omega, juF_s, if_neg (by omega)]; first | (rw [if_pos hi1, ← hnw]; done) | (rw [if_neg hi1, if_neg (by omega), ← hnw, ← hdn, ← hup]; subst_vars; rfl))
                    ·
                      refine j_bipush G d10_judge_94 rfl ?_
                      refine j_iload G 0 rfl d10_judge_96 ?_
                      refine j_iadd G d10_judge_98 ?_
                      refine j_perm (ws' := [(mo, mO ad (upS (upS (upS (upS (upS (upS (upS (upS (upS S 28 tk1_40) 29 se1_41) 30 mx1_42) 31 1) 34 nw2) 35 lo2) 36 dn2) 37 up2) 38 wa2)), (ad 11, aInt E 36 la), (ad 12, aInt E 4 po), (ad 13, aInt E 20 pt), (ad 6, aInt E 4 cl), (ad 7, aInt E 48 wd), (ad 8, aInt E 48 nu), (ad 9, aInt E 48 fo), (ad 10, aInt E 48 to), (ad 14, aInt E 400 sg), (ad 19, aBoo E 100 pl2), (ad 22, aInt E 24 co), (ad 32, aInt E 12 sp1_38), (ad 33, aInt E 588 le1_39), (ad 64, aInt E 6 so), (ad 65, aInt E 6 ln), (ad 66, aLng E 360 it)]) [3, 4, 5, 6, 7, 8, 9, 10, 11, 12, 13, 14, 15, 16, 0, 1, 2] rfl rfl rfl ?_
                      exact j_iret G F d10_judge_99 ⟨100 + s, pl2, sp1_38, le1_39, tk1_40, se1_41, mx1_42, 1, nw2, lo2, dn2, up2, wa2, rfl, rfl, (by first | exact ⟨(if_neg (by omega)).symm, hpl⟩ | (refine ⟨?_, hpl⟩; rw [if_pos (by omega), if_pos (by omega)]; done) | (refine ⟨?_, hpl2⟩; rw [if_pos (by omega), if_neg (by omega), hw, show (12 - s).toNat = 0 by omega]; rfl) | (refine ⟨?_, hpl2⟩; rw [if_pos (by omega), if_neg (by omega), hw, show (12 - s).toNat = (12 - (s + 1)).toNat + 1 by omega, juF_s, if_pos (by omega)]; done) | (refine ⟨?_, by first | exact hpl3 | exact hpl2⟩; rw [if_pos (by omega), if_neg (by omega), hw, show (12 - s).toNat = (12 - (s + 1)).toNat + 1 by omega, juF_s, if_neg (by omega), if_neg hi1, if_pos (by omega)]; done) | (exfalso; omega))⟩
          exact lp59 _ 0 (81 * (S 21)) pl1_37 (S 34) (S 35) (S 36) (S 37) (S 38) (Nat.lt_succ_self _) (by first | assumption | omega) (by first | assumption | omega) hpl1 rfl
        ·
          refine j_bipush G d10_judge_36 rfl ?_
          exact j_iret G F d10_judge_38 ⟨(-12), pl, spr, le, (S 28), (S 29), (S 30), (S 31), (S 34), (S 35), (S 36), (S 37), (S 38), rfl, rfl, (by first | exact ⟨(if_neg (by omega)).symm, hpl⟩ | (refine ⟨?_, hpl⟩; rw [if_pos (by omega), if_pos (by omega)]; done) | (refine ⟨?_, hpl2⟩; rw [if_pos (by omega), if_neg (by omega), hw, show (12 - s).toNat = 0 by omega]; rfl) | (refine ⟨?_, hpl2⟩; rw [if_pos (by omega), if_neg (by omega), hw, show (12 - s).toNat = (12 - (s + 1)).toNat + 1 by omega, juF_s, if_pos (by omega)]; done) | (refine ⟨?_, by first | exact hpl3 | exact hpl2⟩; rw [if_pos (by omega), if_neg (by omega), hw, show (12 - s).toNat = (12 - (s + 1)).toNat + 1 by omega, juF_s, if_neg (by omega), if_neg hi1, if_pos (by omega)]; done) | (exfalso; omega))⟩
    ·
      refine j_iconst G d10_judge_15 ?_
      exact j_iret G F d10_judge_16 ⟨(-1), pl, spr, le, (S 28), (S 29), (S 30), (S 31), (S 34), (S 35), (S 36), (S 37), (S 38), rfl, rfl, (by first | exact ⟨(if_neg (by omega)).symm, hpl⟩ | (refine ⟨?_, hpl⟩; rw [if_pos (by omega), if_pos (by omega)]; done) | (refine ⟨?_, hpl2⟩; rw [if_pos (by omega), if_neg (by omega), hw, show (12 - s).toNat = 0 by omega]; rfl) | (refine ⟨?_, hpl2⟩; rw [if_pos (by omega), if_neg (by omega), hw, show (12 - s).toNat = (12 - (s + 1)).toNat + 1 by omega, juF_s, if_pos (by omega)]; done) | (refine ⟨?_, by first | exact hpl3 | exact hpl2⟩; rw [if_pos (by omega), if_neg (by omega), hw, show (12 - s).toNat = (12 - (s + 1)).toNat + 1 by omega, juF_s, if_neg (by omega), if_neg hi1, if_pos (by omega)]; done) | (exfalso; omega))⟩
  ·
    refine j_if_eq (tgt := 15) G d10_judge_5 (by decide) (by decide) (fun h65 => ?_) (fun h65 => absurd h65 (by decide))
    refine j_iconst G d10_judge_15 ?_
    exact j_iret G F d10_judge_16 ⟨(-1), pl, spr, le, (S 28), (S 29), (S 30), (S 31), (S 34), (S 35), (S 36), (S 37), (S 38), rfl, rfl, (by first | exact ⟨(if_neg (by omega)).symm, hpl⟩ | (refine ⟨?_, hpl⟩; rw [if_pos (by omega), if_pos (by omega)]; done) | (refine ⟨?_, hpl2⟩; rw [if_pos (by omega), if_neg (by omega), hw, show (12 - s).toNat = 0 by omega]; rfl) | (refine ⟨?_, hpl2⟩; rw [if_pos (by omega), if_neg (by omega), hw, show (12 - s).toNat = (12 - (s + 1)).toNat + 1 by omega, juF_s, if_pos (by omega)]; done) | (refine ⟨?_, by first | exact hpl3 | exact hpl2⟩; rw [if_pos (by omega), if_neg (by omega), hw, show (12 - s).toNat = (12 - (s + 1)).toNat + 1 by omega, juF_s, if_neg (by omega), if_neg hi1, if_pos (by omega)]; done) | (exfalso; omega))⟩
