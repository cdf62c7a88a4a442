theorem d10_goDay_0 : decode c10_goDay 0 = .ok (.iload_n 1, 1) := by decide +kernel
theorem d10_goDay_1 : decode c10_goDay 1 = .ok (.iconst 4, 1) := by decide +kernel
theorem d10_goDay_2 : decode c10_goDay 2 = .ok (.if_icmp .eq 8, 3) := by decide +kernel
theorem d10_goDay_5 : decode c10_goDay 5 = .ok (.iload_n 1, 1) := by decide +kernel
theorem d10_goDay_6 : decode c10_goDay 6 = .ok (.iconst 5, 1) := by decide +kernel
theorem d10_goDay_7 : decode c10_goDay 7 = .ok (.if_icmp .ne 26, 3) := by decide +kernel
theorem d10_goDay_10 : decode c10_goDay 10 = .ok (.aload_n 0, 1) := by decide +kernel
theorem d10_goDay_11 : decode c10_goDay 11 = .ok (.iconst 0, 1) := by decide +kernel
theorem d10_goDay_12 : decode c10_goDay 12 = .ok (.bipush 81, 2) := by decide +kernel
theorem d10_goDay_14 : decode c10_goDay 14 = .ok (.aload_n 0, 1) := by decide +kernel
theorem d10_goDay_15 : decode c10_goDay 15 = .ok (.getfield 76, 3) := by decide +kernel
theorem d10_goDay_18 : decode c10_goDay 18 = .ok (.imul, 1) := by decide +kernel
theorem d10_goDay_19 : decode c10_goDay 19 = .ok (.iload_n 1, 1) := by decide +kernel
theorem d10_goDay_20 : decode c10_goDay 20 = .ok (.iconst 5, 1) := by decide +kernel
theorem d10_goDay_21 : decode c10_goDay 21 = .ok (.if_icmp .ne 7, 3) := by decide +kernel
theorem d10_goDay_24 : decode c10_goDay 24 = .ok (.iload_n 2, 1) := by decide +kernel
theorem d10_goDay_25 : decode c10_goDay 25 = .ok (.goto 4, 3) := by decide +kernel
theorem d10_goDay_28 : decode c10_goDay 28 = .ok (.iconst 0, 1) := by decide +kernel
theorem d10_goDay_29 : decode c10_goDay 29 = .ok (.invokevirtual 329, 3) := by decide +kernel
theorem d10_goDay_32 : decode c10_goDay 32 = .ok (.pop, 1) := by decide +kernel
theorem d10_goDay_33 : decode c10_goDay 33 = .ok (.bipush 81, 2) := by decide +kernel
theorem d10_goDay_35 : decode c10_goDay 35 = .ok (.aload_n 0, 1) := by decide +kernel
theorem d10_goDay_36 : decode c10_goDay 36 = .ok (.getfield 76, 3) := by decide +kernel
theorem d10_goDay_39 : decode c10_goDay 39 = .ok (.imul, 1) := by decide +kernel
theorem d10_goDay_40 : decode c10_goDay 40 = .ok (.istore 4, 2) := by decide +kernel
theorem d10_goDay_42 : decode c10_goDay 42 = .ok (.aload_n 0, 1) := by decide +kernel
theorem d10_goDay_43 : decode c10_goDay 43 = .ok (.iconst 0, 1) := by decide +kernel
theorem d10_goDay_44 : decode c10_goDay 44 = .ok (.putfield 137, 3) := by decide +kernel
theorem d10_goDay_47 : decode c10_goDay 47 = .ok (.aload_n 0, 1) := by decide +kernel
theorem d10_goDay_48 : decode c10_goDay 48 = .ok (.iconst 0, 1) := by decide +kernel
theorem d10_goDay_49 : decode c10_goDay 49 = .ok (.putfield 140, 3) := by decide +kernel
theorem d10_goDay_52 : decode c10_goDay 52 = .ok (.aload_n 0, 1) := by decide +kernel
theorem d10_goDay_53 : decode c10_goDay 53 = .ok (.iconst 0, 1) := by decide +kernel
theorem d10_goDay_54 : decode c10_goDay 54 = .ok (.putfield 143, 3) := by decide +kernel
theorem d10_goDay_57 : decode c10_goDay 57 = .ok (.aload_n 0, 1) := by decide +kernel
theorem d10_goDay_58 : decode c10_goDay 58 = .ok (.iconst 0, 1) := by decide +kernel
theorem d10_goDay_59 : decode c10_goDay 59 = .ok (.putfield 146, 3) := by decide +kernel
theorem d10_goDay_62 : decode c10_goDay 62 = .ok (.aload_n 0, 1) := by decide +kernel
theorem d10_goDay_63 : decode c10_goDay 63 = .ok (.iconst 0, 1) := by decide +kernel
theorem d10_goDay_64 : decode c10_goDay 64 = .ok (.putfield 152, 3) := by decide +kernel
theorem d10_goDay_67 : decode c10_goDay 67 = .ok (.iconst 0, 1) := by decide +kernel
theorem d10_goDay_68 : decode c10_goDay 68 = .ok (.istore 5, 2) := by decide +kernel
theorem d10_goDay_70 : decode c10_goDay 70 = .ok (.iload 5, 2) := by decide +kernel
theorem d10_goDay_72 : decode c10_goDay 72 = .ok (.bipush 12, 2) := by decide +kernel
theorem d10_goDay_74 : decode c10_goDay 74 = .ok (.if_icmp .ge 182, 3) := by decide +kernel
theorem d10_goDay_77 : decode c10_goDay 77 = .ok (.aload_n 0, 1) := by decide +kernel
theorem d10_goDay_78 : decode c10_goDay 78 = .ok (.iload 5, 2) := by decide +kernel
theorem d10_goDay_80 : decode c10_goDay 80 = .ok (.iload 4, 2) := by decide +kernel
theorem d10_goDay_82 : decode c10_goDay 82 = .ok (.invokevirtual 318, 3) := by decide +kernel
theorem d10_goDay_85 : decode c10_goDay 85 = .ok (.aload_n 0, 1) := by decide +kernel
theorem d10_goDay_86 : decode c10_goDay 86 = .ok (.dup, 1) := by decide +kernel
theorem d10_goDay_87 : decode c10_goDay 87 = .ok (.getfield 146, 3) := by decide +kernel
theorem d10_goDay_90 : decode c10_goDay 90 = .ok (.aload_n 0, 1) := by decide +kernel
theorem d10_goDay_91 : decode c10_goDay 91 = .ok (.getfield 118, 3) := by decide +kernel
theorem d10_goDay_94 : decode c10_goDay 94 = .ok (.iadd, 1) := by decide +kernel
theorem d10_goDay_95 : decode c10_goDay 95 = .ok (.putfield 146, 3) := by decide +kernel
theorem d10_goDay_98 : decode c10_goDay 98 = .ok (.aload_n 0, 1) := by decide +kernel
theorem d10_goDay_99 : decode c10_goDay 99 = .ok (.iconst 0, 1) := by decide +kernel
theorem d10_goDay_100 : decode c10_goDay 100 = .ok (.invokevirtual 322, 3) := by decide +kernel
theorem d10_goDay_103 : decode c10_goDay 103 = .ok (.ifCond .eq 19, 3) := by decide +kernel
theorem d10_goDay_106 : decode c10_goDay 106 = .ok (.aload_n 0, 1) := by decide +kernel
theorem d10_goDay_107 : decode c10_goDay 107 = .ok (.iload_n 1, 1) := by decide +kernel
theorem d10_goDay_108 : decode c10_goDay 108 = .ok (.iload_n 2, 1) := by decide +kernel
theorem d10_goDay_109 : decode c10_goDay 109 = .ok (.iload_n 3, 1) := by decide +kernel
theorem d10_goDay_110 : decode c10_goDay 110 = .ok (.iload 5, 2) := by decide +kernel
theorem d10_goDay_112 : decode c10_goDay 112 = .ok (.invokevirtual 333, 3) := by decide +kernel
theorem d10_goDay_115 : decode c10_goDay 115 = .ok (.ifCond .eq 7, 3) := by decide +kernel
theorem d10_goDay_118 : decode c10_goDay 118 = .ok (.iconst 1, 1) := by decide +kernel
theorem d10_goDay_119 : decode c10_goDay 119 = .ok (.goto 4, 3) := by decide +kernel
theorem d10_goDay_122 : decode c10_goDay 122 = .ok (.iconst 0, 1) := by decide +kernel
theorem d10_goDay_123 : decode c10_goDay 123 = .ok (.istore 6, 2) := by decide +kernel
theorem d10_goDay_125 : decode c10_goDay 125 = .ok (.aload_n 0, 1) := by decide +kernel
theorem d10_goDay_126 : decode c10_goDay 126 = .ok (.getfield 155, 3) := by decide +kernel
theorem d10_goDay_129 : decode c10_goDay 129 = .ok (.iload 5, 2) := by decide +kernel
theorem d10_goDay_131 : decode c10_goDay 131 = .ok (.iload 6, 2) := by decide +kernel
theorem d10_goDay_133 : decode c10_goDay 133 = .ok (.ifCond .eq 10, 3) := by decide +kernel
theorem d10_goDay_136 : decode c10_goDay 136 = .ok (.aload_n 0, 1) := by decide +kernel
theorem d10_goDay_137 : decode c10_goDay 137 = .ok (.getfield 127, 3) := by decide +kernel
theorem d10_goDay_140 : decode c10_goDay 140 = .ok (.goto 5, 3) := by decide +kernel
theorem d10_goDay_143 : decode c10_goDay 143 = .ok (.bipush (-5), 2) := by decide +kernel
theorem d10_goDay_145 : decode c10_goDay 145 = .ok (.iastore, 1) := by decide +kernel
theorem d10_goDay_146 : decode c10_goDay 146 = .ok (.aload_n 0, 1) := by decide +kernel
theorem d10_goDay_147 : decode c10_goDay 147 = .ok (.dup, 1) := by decide +kernel
theorem d10_goDay_148 : decode c10_goDay 148 = .ok (.getfield 137, 3) := by decide +kernel
theorem d10_goDay_151 : decode c10_goDay 151 = .ok (.iload 6, 2) := by decide +kernel
theorem d10_goDay_153 : decode c10_goDay 153 = .ok (.ifCond .eq 10, 3) := by decide +kernel
theorem d10_goDay_156 : decode c10_goDay 156 = .ok (.aload_n 0, 1) := by decide +kernel
theorem d10_goDay_157 : decode c10_goDay 157 = .ok (.getfield 124, 3) := by decide +kernel
theorem d10_goDay_160 : decode c10_goDay 160 = .ok (.goto 4, 3) := by decide +kernel
theorem d10_goDay_163 : decode c10_goDay 163 = .ok (.iconst 0, 1) := by decide +kernel
theorem d10_goDay_164 : decode c10_goDay 164 = .ok (.iadd, 1) := by decide +kernel
theorem d10_goDay_165 : decode c10_goDay 165 = .ok (.putfield 137, 3) := by decide +kernel
theorem d10_goDay_168 : decode c10_goDay 168 = .ok (.aload_n 0, 1) := by decide +kernel
theorem d10_goDay_169 : decode c10_goDay 169 = .ok (.dup, 1) := by decide +kernel
theorem d10_goDay_170 : decode c10_goDay 170 = .ok (.getfield 140, 3) := by decide +kernel
theorem d10_goDay_173 : decode c10_goDay 173 = .ok (.iload 6, 2) := by decide +kernel
theorem d10_goDay_175 : decode c10_goDay 175 = .ok (.ifCond .eq 10, 3) := by decide +kernel
theorem d10_goDay_178 : decode c10_goDay 178 = .ok (.aload_n 0, 1) := by decide +kernel
theorem d10_goDay_179 : decode c10_goDay 179 = .ok (.getfield 121, 3) := by decide +kernel
theorem d10_goDay_182 : decode c10_goDay 182 = .ok (.goto 4, 3) := by decide +kernel
theorem d10_goDay_185 : decode c10_goDay 185 = .ok (.iconst 0, 1) := by decide +kernel
theorem d10_goDay_186 : decode c10_goDay 186 = .ok (.iadd, 1) := by decide +kernel
theorem d10_goDay_187 : decode c10_goDay 187 = .ok (.putfield 140, 3) := by decide +kernel
theorem d10_goDay_190 : decode c10_goDay 190 = .ok (.aload_n 0, 1) := by decide +kernel
theorem d10_goDay_191 : decode c10_goDay 191 = .ok (.dup, 1) := by decide +kernel
theorem d10_goDay_192 : decode c10_goDay 192 = .ok (.getfield 152, 3) := by decide +kernel
theorem d10_goDay_195 : decode c10_goDay 195 = .ok (.iload 6, 2) := by decide +kernel
theorem d10_goDay_197 : decode c10_goDay 197 = .ok (.ifCond .eq 7, 3) := by decide +kernel
theorem d10_goDay_200 : decode c10_goDay 200 = .ok (.iconst 1, 1) := by decide +kernel
theorem d10_goDay_201 : decode c10_goDay 201 = .ok (.goto 4, 3) := by decide +kernel
theorem d10_goDay_204 : decode c10_goDay 204 = .ok (.iconst 0, 1) := by decide +kernel
theorem d10_goDay_205 : decode c10_goDay 205 = .ok (.iadd, 1) := by decide +kernel
theorem d10_goDay_206 : decode c10_goDay 206 = .ok (.putfield 152, 3) := by decide +kernel
theorem d10_goDay_209 : decode c10_goDay 209 = .ok (.iload 6, 2) := by decide +kernel
theorem d10_goDay_211 : decode c10_goDay 211 = .ok (.ifCond .eq 10, 3) := by decide +kernel
theorem d10_goDay_214 : decode c10_goDay 214 = .ok (.aload_n 0, 1) := by decide +kernel
theorem d10_goDay_215 : decode c10_goDay 215 = .ok (.invokevirtual 325, 3) := by decide +kernel
theorem d10_goDay_218 : decode c10_goDay 218 = .ok (.goto 7, 3) := by decide +kernel
theorem d10_goDay_221 : decode c10_goDay 221 = .ok (.aload_n 0, 1) := by decide +kernel
theorem d10_goDay_222 : decode c10_goDay 222 = .ok (.getfield 115, 3) := by decide +kernel
theorem d10_goDay_225 : decode c10_goDay 225 = .ok (.istore 4, 2) := by decide +kernel
theorem d10_goDay_227 : decode c10_goDay 227 = .ok (.aload_n 0, 1) := by decide +kernel
theorem d10_goDay_228 : decode c10_goDay 228 = .ok (.dup, 1) := by decide +kernel
theorem d10_goDay_229 : decode c10_goDay 229 = .ok (.getfield 143, 3) := by decide +kernel
theorem d10_goDay_232 : decode c10_goDay 232 = .ok (.iload 4, 2) := by decide +kernel
theorem d10_goDay_234 : decode c10_goDay 234 = .ok (.bipush 9, 2) := by decide +kernel
theorem d10_goDay_236 : decode c10_goDay 236 = .ok (.idiv, 1) := by decide +kernel
theorem d10_goDay_237 : decode c10_goDay 237 = .ok (.bipush 9, 2) := by decide +kernel
theorem d10_goDay_239 : decode c10_goDay 239 = .ok (.irem, 1) := by decide +kernel
theorem d10_goDay_240 : decode c10_goDay 240 = .ok (.iload 4, 2) := by decide +kernel
theorem d10_goDay_242 : decode c10_goDay 242 = .ok (.bipush 9, 2) := by decide +kernel
theorem d10_goDay_244 : decode c10_goDay 244 = .ok (.irem, 1) := by decide +kernel
theorem d10_goDay_245 : decode c10_goDay 245 = .ok (.iadd, 1) := by decide +kernel
theorem d10_goDay_246 : decode c10_goDay 246 = .ok (.iadd, 1) := by decide +kernel
theorem d10_goDay_247 : decode c10_goDay 247 = .ok (.putfield 143, 3) := by decide +kernel
theorem d10_goDay_250 : decode c10_goDay 250 = .ok (.iinc 5 1, 3) := by decide +kernel
theorem d10_goDay_253 : decode c10_goDay 253 = .ok (.goto (-183), 3) := by decide +kernel
theorem d10_goDay_256 : decode c10_goDay 256 = .ok (.aload_n 0, 1) := by decide +kernel
theorem d10_goDay_257 : decode c10_goDay 257 = .ok (.iload 4, 2) := by decide +kernel
theorem d10_goDay_259 : decode c10_goDay 259 = .ok (.putfield 149, 3) := by decide +kernel
theorem d10_goDay_262 : decode c10_goDay 262 = .ok (.return_, 1) := by decide +kernel
theorem mw10_goDay : MV y10_goDay c10_goDay 7 none 3 := ⟨cd10_goDay, ini10, na10_goDay, im10_goDay, se10_goDay⟩
set_option maxHeartbeats 4000000 in
set_option maxRecDepth 100000 in
theorem k10_goDay (l : Launch) (E : En) (mo : Nat) (ad : Nat → Nat) (S : Nat → Int) (co : Int → Int) (spr : Int → Int) (le : Int → Int) (mk : Int → Int) (wo : Int → Int) (hd : Int → Int) (rw : Int → Int) (pn : Int → Int) (K : Dy) (gg : Int → Int → Int) (kind : Int) (n : Int) (ru : Int) (hly : Lay K (S 28) (S 29) (S 30) (S 31) spr le co) (hfi : 0 ≤ S 21 ∧ S 21 ≤ 40) (hkd : 0 ≤ kind ∧ kind ≤ 6) (hn : 0 ≤ n ∧ n ≤ 20) (hr6 : kind = 6 → (0 ≤ ru ∧ ru ≤ 11) ∧ (0 ≤ hd ru ∧ hd ru ≤ 12) ∧ ∀ j, 0 ≤ j → j < 144 → 0 ≤ rw j ∧ rw j ≤ 1) (hmk : ∀ j, 0 ≤ j → j < 43173 → 0 ≤ mk j ∧ mk j ≤ 1) (hgg : ∀ s st, gg s st = ldI K kind n s st (hd ru) (fun j => rw (12 * ru + j))) (r_ru : R32 ru) : Cm l E y10_goDay c10_goDay 7 none { frames := 3, cells := 0, slots := 0, locals := 74 } [.ref mo, .int (iZ kind), .int (iZ n), .int (iZ ru)] [(mo, mO ad S), (ad 22, aInt E 24 co), (ad 32, aInt E 12 spr), (ad 33, aInt E 588 le), (ad 39, aBoo E 43173 mk), (ad 40, aInt E 43173 wo), (ad 26, aInt E 12 hd), (ad 27, aInt E 144 rw), (ad 47, aInt E 12 pn)] (fun r ws => ∃ (mk1 : Int → Int), ∃ (wo1 : Int → Int), ∃ (pn1 : Int → Int), ∃ (nw : Int), ∃ (lo : Int), ∃ (dn : Int), ∃ (up : Int), ∃ (wa : Int), ∃ (su : Int), ∃ (sd : Int), ∃ (wt : Int), ∃ (sl : Int), ∃ (es : Int), ∃ (tr : Int), r = none ∧ ws = [(mo, mO ad (upS (upS (upS (upS (upS (upS (upS (upS (upS (upS (upS S 34 nw) 35 lo) 36 dn) 37 up) 38 wa) 41 su) 42 sd) 43 wt) 44 sl) 45 es) 46 tr)), (ad 22, aInt E 24 co), (ad 32, aInt E 12 spr), (ad 33, aInt E 588 le), (ad 39, aBoo E 43173 mk1), (ad 40, aInt E 43173 wo1), (ad 26, aInt E 12 hd), (ad 27, aInt E 144 rw), (ad 47, aInt E 12 pn1)] ∧ ((su = dyA K gg (81 * S 21) (dUp K) 12) ∧ (sd = dyA K gg (81 * S 21) (dDn K) 12) ∧ (wt = dyQ K gg (81 * S 21) 12) ∧ (sl = dyL K gg (81 * S 21) 12) ∧ (tr = dyA K gg (81 * S 21) (fun _ _ => 1) 12) ∧ es = dyT K gg (81 * S 21) 12 ∧ (∀ j, 0 ≤ j → j < 12 → pn1 j = dyP K gg (81 * S 21) j) ∧ (∀ j, 0 ≤ j → j < 43173 → 0 ≤ mk1 j ∧ mk1 j ≤ 1))) := by
  refine Cm.of (by decide +kernel) (Nat.le_of_ble_eq_true rfl) (fun Γ A hl hargs hin G F => ?_)
  subst hl
  have hok : okD K := hly.2.2.2.2.1
  have h29 : S 29 = K.se := hly.2.1
  have jn33 : ∀ (m1 : Int → Int) (w1 : Int → Int) (nw0 : Int) (lo0 : Int) (dn0 : Int) (up0 : Int) (wa0 : Int), (∀ j, 0 ≤ j → j < 43173 → 0 ≤ m1 j ∧ m1 j ≤ 1) → (kind = 4 ∨ kind = 5 → m1 (3321 * 0 + 81 * S 21) ≠ 0 ∧ Best K (spF kind n) 0 m1 w1) →  J E 7 Γ (some A) 0 0 [(mo, mO ad (upS (upS (upS (upS (upS S 34 nw0) 35 lo0) 36 dn0) 37 up0) 38 wa0)), (ad 22, aInt E 24 co), (ad 32, aInt E 12 spr), (ad 33, aInt E 588 le), (ad 39, aBoo E 43173 m1), (ad 40, aInt E 43173 w1), (ad 26, aInt E 12 hd), (ad 27, aInt E 144 rw), (ad 47, aInt E 12 pn)] 33 [(0, .ref mo), (1, .int (iZ kind)), (2, .int (iZ n)), (3, .int (iZ ru))] [] := by
    intro m1 w1 nw0 lo0 dn0 up0 wa0 hm1 hbz
    refine j_bipush G d10_goDay_33 rfl ?_
    refine j_aload_n G 0 rfl d10_goDay_35 ?_
    refine j_get G 0 10 21 in10 fl10_76 d10_goDay_36 rfl rfl (by decide) (v := .int (iZ (S 21))) rfl rfl ?_
    refine j_imul G d10_goDay_39 ?_
    refine j_istore G d10_goDay_40 (by decide) rfl ?_
    refine j_aload_n G 1 rfl d10_goDay_42 ?_
    refine j_iconst G d10_goDay_43 ?_
    refine j_put G 0 10 41 in10 tyok10 nm10 fl10_137 d10_goDay_44 rfl rfl (by decide) ⟨rfl, rfl⟩ rfl rfl (Nat.le_of_ble_eq_true rfl) (e := mO ad (upS (upS (upS (upS (upS (upS S 34 nw0) 35 lo0) 36 dn0) 37 up0) 38 wa0) 41 0)) rfl ?_
    refine j_aload_n G 1 rfl d10_goDay_47 ?_
    refine j_iconst G d10_goDay_48 ?_
    refine j_put G 0 10 42 in10 tyok10 nm10 fl10_140 d10_goDay_49 rfl rfl (by decide) ⟨rfl, rfl⟩ rfl rfl (Nat.le_of_ble_eq_true rfl) (e := mO ad (upS (upS (upS (upS (upS (upS (upS S 34 nw0) 35 lo0) 36 dn0) 37 up0) 38 wa0) 41 0) 42 0)) rfl ?_
    refine j_aload_n G 1 rfl d10_goDay_52 ?_
    refine j_iconst G d10_goDay_53 ?_
    refine j_put G 0 10 43 in10 tyok10 nm10 fl10_143 d10_goDay_54 rfl rfl (by decide) ⟨rfl, rfl⟩ rfl rfl (Nat.le_of_ble_eq_true rfl) (e := mO ad (upS (upS (upS (upS (upS (upS (upS (upS S 34 nw0) 35 lo0) 36 dn0) 37 up0) 38 wa0) 41 0) 42 0) 43 0)) rfl ?_
    refine j_aload_n G 1 rfl d10_goDay_57 ?_
    refine j_iconst G d10_goDay_58 ?_
    refine j_put G 0 10 44 in10 tyok10 nm10 fl10_146 d10_goDay_59 rfl rfl (by decide) ⟨rfl, rfl⟩ rfl rfl (Nat.le_of_ble_eq_true rfl) (e := mO ad (upS (upS (upS (upS (upS (upS (upS (upS (upS S 34 nw0) 35 lo0) 36 dn0) 37 up0) 38 wa0) 41 0) 42 0) 43 0) 44 0)) rfl ?_
    refine j_aload_n G 1 rfl d10_goDay_62 ?_
    refine j_iconst G d10_goDay_63 ?_
    refine j_put G 0 10 46 in10 tyok10 nm10 fl10_152 d10_goDay_64 rfl rfl (by decide) ⟨rfl, rfl⟩ rfl rfl (Nat.le_of_ble_eq_true rfl) (e := mO ad (upS (upS (upS (upS (upS (upS (upS (upS (upS (upS S 34 nw0) 35 lo0) 36 dn0) 37 up0) 38 wa0) 41 0) 42 0) 43 0) 44 0) 46 0)) rfl ?_
    have hmz : kind = 4 ∨ kind = 5 → m1 (3321 * 0 + 81 * S 21) ≠ 0 := fun q => (hbz q).1
    refine j_iconst G d10_goDay_67 ?_
    refine j_istore G d10_goDay_68 (by decide) rfl ?_
    have lp70 : ∀ (fu : Nat) (s : Int) (st : Int) (nw : Int) (lo : Int) (dn : Int) (up : Int) (wa : Int) (su : Int) (sd : Int) (wt : Int) (sl : Int) (tr : Int) (pq : Int → Int), (12 - s).toNat < fu → (0 ≤ s ∧ s ≤ 12) → (st = dyT K gg (81 * S 21) s.toNat) → (su = dyA K gg (81 * S 21) (dUp K) s.toNat) → (sd = dyA K gg (81 * S 21) (dDn K) s.toNat) → (wt = dyQ K gg (81 * S 21) s.toNat) → (sl = dyL K gg (81 * S 21) s.toNat) → (tr = dyA K gg (81 * S 21) (fun _ _ => 1) s.toNat) → (∀ j, 0 ≤ j → j < s → pq j = dyP K gg (81 * S 21) j) → (kind = 4 ∨ kind = 5 → m1 (3321 * s + st) ≠ 0) →  J E 7 Γ (some A) 0 0 [(mo, mO ad (upS (upS (upS (upS (upS (upS (upS (upS (upS (upS S 34 nw) 35 lo) 36 dn) 37 up) 38 wa) 41 su) 42 sd) 43 wt) 44 sl) 46 tr)), (ad 22, aInt E 24 co), (ad 32, aInt E 12 spr), (ad 33, aInt E 588 le), (ad 39, aBoo E 43173 m1), (ad 40, aInt E 43173 w1), (ad 26, aInt E 12 hd), (ad 27, aInt E 144 rw), (ad 47, aInt E 12 pq)] 70 [(5, .int (iZ s)), (4, .int (iZ st)), (0, .ref mo), (1, .int (iZ kind)), (2, .int (iZ n)), (3, .int (iZ ru))] [] := by
      intro fu
      induction fu with
      | zero =>
        intro s st nw lo dn up wa su sd wt sl tr pq hm
        exact absurd hm (Nat.not_lt_zero _)
      | succ fu ih70 =>
        intro s st nw lo dn up wa su sd wt sl tr pq hm hs hst hsu hsd hwt hsl htr hpn hmq
        refine j_iload G 0 rfl d10_goDay_70 ?_
        refine j_bipush G d10_goDay_72 rfl ?_
        refine j_icmp_ge (tgt := 256) G d10_goDay_74 (by decide) (by omega) (by decide) (fun h1 => ?_) (fun h1 => ?_)
        ·
          have e12 : s = 12 := by omega
          subst e12
          refine j_aload_n G 2 rfl d10_goDay_256 ?_
          refine j_iload G 1 rfl d10_goDay_257 ?_
          refine j_put G 0 10 45 in10 tyok10 nm10 fl10_149 d10_goDay_259 rfl rfl (by decide) ⟨rfl, rfl⟩ rfl rfl (Nat.le_of_ble_eq_true rfl) (e := mO ad (upS (upS (upS (upS (upS (upS (upS (upS (upS (upS (upS S 34 nw) 35 lo) 36 dn) 37 up) 38 wa) 41 su) 42 sd) 43 wt) 44 sl) 46 tr) 45 st)) rfl ?_
          exact j_vret G F d10_goDay_262 ⟨m1, w1, pq, nw, lo, dn, up, wa, su, sd, wt, sl, st, tr, rfl, rfl, (by exact ⟨hsu, hsd, hwt, hsl, htr, hst, fun j h1 h2 => hpn j h1 h2, hm1⟩)⟩
        ·
          have hsr : 0 ≤ s ∧ s ≤ 11 := by omega
          have htr2 : 0 ≤ st ∧ st ≤ 3320 := by rw [hst]; exact dyT_r hok (by omega) _ (by omega)
          refine j_aload_n G 2 rfl d10_goDay_77 ?_
          refine j_iload G 0 rfl d10_goDay_78 ?_
          refine j_iload G 1 rfl d10_goDay_80 ?_
          refine j_VM G (rm' := { frames := 1, cells := 0, slots := 0, locals := 22 }) (wc := [(mo, mO ad (upS (upS (upS (upS (upS (upS (upS (upS (upS (upS S 34 nw) 35 lo) 36 dn) 37 up) 38 wa) 41 su) 42 sd) 43 wt) 44 sl) 46 tr)), (ad 22, aInt E 24 co), (ad 32, aInt E 12 spr), (ad 33, aInt E 588 le)]) (wr := [(ad 39, aBoo E 43173 m1), (ad 40, aInt E 43173 w1), (ad 26, aInt E 12 hd), (ad 27, aInt E 144 rw), (ad 47, aInt E 12 pq)]) (k10_comesIn (xl Γ) E mo ad (upS (upS (upS (upS (upS (upS (upS (upS (upS (upS S 34 nw) 35 lo) 36 dn) 37 up) 38 wa) 41 su) 42 sd) 43 wt) 44 sl) 46 tr) co spr le K s st (by first | assumption | omega | (simp only [upS, reduceIte, Nat.reduceEqDiff, eq_self, List.length_cons, List.length_nil, List.length_append] <;> omega)) (by first | assumption | omega | (simp only [upS, reduceIte, Nat.reduceEqDiff, eq_self, List.length_cons, List.length_nil, List.length_append] <;> omega)) (by first | assumption | omega | (simp only [upS, reduceIte, Nat.reduceEqDiff, eq_self, List.length_cons, List.length_nil, List.length_append] <;> omega))) mw10_comesIn ml10_318 [0, 1, 2, 3] [4, 5, 6, 7, 8] rfl rfl ⟨rfl, rfl⟩ (by decide) 0 10 rfl rfl rfl ⟨Nat.le_of_ble_eq_true rfl, Nat.le_of_ble_eq_true rfl⟩ rfl (rest := []) rfl (Nat.le_of_ble_eq_true rfl) d10_goDay_82 ⟨Nat.le_of_ble_eq_true rfl, Nat.le_of_ble_eq_true rfl⟩ (fun r w1 hr => ?_)
          obtain ⟨nw_3, lo_4, dn_5, up_6, wa_7, rfl, rfl, ⟨hq2_0, hq2_1, hq2_2, hq2_3, hq2_4⟩⟩ := hr
          refine j_eq (ws' := [(ad 39, aBoo E 43173 m1), (ad 40, aInt E 43173 w1), (ad 26, aInt E 12 hd), (ad 27, aInt E 144 rw), (ad 47, aInt E 12 pq), (mo, mO ad (upS (upS (upS (upS (upS (upS (upS (upS (upS (upS S 41 su) 42 sd) 43 wt) 44 sl) 46 tr) 34 nw_3) 35 lo_4) 36 dn_5) 37 up_6) 38 wa_7)), (ad 22, aInt E 24 co), (ad 32, aInt E 12 spr), (ad 33, aInt E 588 le)]) rfl rfl rfl ?_
          try simp only [upS, reduceIte, Nat.reduceEqDiff, eq_self] at hq2_0 hq2_1 hq2_2 hq2_3 hq2_4
          have hnw := hq2_0
          have hlo := hq2_1
          have hdn := hq2_2
          have hup := hq2_3
          have hwa := hq2_4
          have hdr := dR hok hsr htr2
          have hnr := dNow_r hok hsr htr2
          have hge : nw_3 - 81 * wa_7 - 9 * dn_5 - up_6 = dGone K s st := by unfold dGone; omega
          have hcm : kind = 4 ∨ kind = 5 → m1 (3321 * (s + 1) + dNow K s st) ≠ 0 ∧ (dCan K s st (spF kind n) → m1 (3321 * (s + 1) + dGone K s st) ≠ 0) := fun q => (hbz q).2.1 s st (by omega) (by omega) (by omega) (by omega) (hmq q)
          have hwo : kind = 4 ∨ kind = 5 → w1 (3321 * (s + 1) + dNow K s st) = Vn K (spF kind n) (s + 1) (dNow K s st) ∧ (dCan K s st (spF kind n) → w1 (3321 * (s + 1) + dGone K s st) = Vn K (spF kind n) (s + 1) (dGone K s st)) := fun q => ⟨(hbz q).2.2 (s + 1) _ (by omega) (by omega) hnr.1 hnr.2 (by omega) (Or.inr (hcm q).1), fun c => (hbz q).2.2 (s + 1) _ (by omega) (by omega) (dGone_r hok hsr htr2 (by unfold spF; split <;> omega) c).1 (dGone_r hok hsr htr2 (by unfold spF; split <;> omega) c).2 (by omega) (Or.inr ((hcm q).2 c))⟩
          refine j_aload_n G 2 rfl d10_goDay_85 ?_
          refine j_dup G d10_goDay_86 rfl ?_
          refine j_get G 5 10 44 in10 fl10_146 d10_goDay_87 rfl rfl (by decide) (v := .int (iZ sl)) rfl rfl ?_
          refine j_aload_n G 2 rfl d10_goDay_90 ?_
          refine j_get G 5 10 35 in10 fl10_118 d10_goDay_91 rfl rfl (by decide) (v := .int (iZ lo_4)) rfl rfl ?_
          refine j_iadd G d10_goDay_94 ?_
          refine j_put G 5 10 44 in10 tyok10 nm10 fl10_146 d10_goDay_95 rfl rfl (by decide) ⟨rfl, rfl⟩ rfl rfl (Nat.le_of_ble_eq_true rfl) (e := mO ad (upS (upS (upS (upS (upS (upS (upS (upS (upS (upS S 41 su) 42 sd) 43 wt) 46 tr) 34 nw_3) 35 lo_4) 36 dn_5) 37 up_6) 38 wa_7) 44 (sl + lo_4))) rfl ?_
          refine j_aload_n G 2 rfl d10_goDay_98 ?_
          refine j_iconst G d10_goDay_99 ?_
          refine j_VP G (k10_can (xl Γ) E mo ad (upS (upS (upS (upS (upS (upS (upS (upS (upS (upS S 41 su) 42 sd) 43 wt) 46 tr) 34 nw_3) 35 lo_4) 36 dn_5) 37 up_6) 38 wa_7) 44 (sl + lo_4)) 0 (by first | assumption | omega | (simp only [upS, reduceIte, Nat.reduceEqDiff, eq_self, List.length_cons, List.length_nil, List.length_append] <;> omega)) (by first | assumption | omega | (simp only [upS, reduceIte, Nat.reduceEqDiff, eq_self, List.length_cons, List.length_nil, List.length_append] <;> omega)) (by first | assumption | omega | (simp only [upS, reduceIte, Nat.reduceEqDiff, eq_self, List.length_cons, List.length_nil, List.length_append] <;> omega))) mw10_can ml10_322 [5] rfl 5 10 rfl rfl rfl ⟨Nat.le_of_ble_eq_true rfl, Nat.le_of_ble_eq_true rfl⟩ rfl (rest := []) rfl (Nat.le_of_ble_eq_true rfl) d10_goDay_100 ⟨Nat.le_of_ble_eq_true rfl, Nat.le_of_ble_eq_true rfl⟩ (fun r hr => ?_)
          obtain ⟨v9, rfl, hq8⟩ := hr
          try simp only [upS, reduceIte, Nat.reduceEqDiff, eq_self] at hq8
          rcases hq8 with ⟨hq8, rfl⟩ | ⟨hq8, rfl⟩
          ·
            refine j_if_eq (tgt := 122) G d10_goDay_103 (by decide) (by decide) (fun h10 => absurd h10 (by decide)) (fun h10 => ?_)
            refine j_aload_n G 2 rfl d10_goDay_106 ?_
            refine j_iload_n G 3 rfl d10_goDay_107 ?_
            refine j_iload_n G 4 rfl d10_goDay_108 ?_
            refine j_iload_n G 5 rfl d10_goDay_109 ?_
            refine j_iload G 0 rfl d10_goDay_110 ?_
            refine j_VP G (k10_leads (xl Γ) E mo ad (upS (upS (upS (upS (upS (upS (upS (upS (upS (upS S 41 su) 42 sd) 43 wt) 46 tr) 34 nw_3) 35 lo_4) 36 dn_5) 37 up_6) 38 wa_7) 44 (sl + lo_4)) K hd rw w1 kind n ru s st (by first | assumption | omega | (simp only [upS, reduceIte, Nat.reduceEqDiff, eq_self, List.length_cons, List.length_nil, List.length_append] <;> omega)) (by first | assumption | omega | (simp only [upS, reduceIte, Nat.reduceEqDiff, eq_self, List.length_cons, List.length_nil, List.length_append] <;> omega)) (by first | assumption | omega | (simp only [upS, reduceIte, Nat.reduceEqDiff, eq_self, List.length_cons, List.length_nil, List.length_append] <;> omega)) (by first | assumption | omega | (simp only [upS, reduceIte, Nat.reduceEqDiff, eq_self, List.length_cons, List.length_nil, List.length_append] <;> omega)) (by first | assumption | omega | (simp only [upS, reduceIte, Nat.reduceEqDiff, eq_self, List.length_cons, List.length_nil, List.length_append] <;> omega)) (by first | assumption | omega | (simp only [upS, reduceIte, Nat.reduceEqDiff, eq_self, List.length_cons, List.length_nil, List.length_append] <;> omega)) (by first | assumption | omega | (simp only [upS, reduceIte, Nat.reduceEqDiff, eq_self, List.length_cons, List.length_nil, List.length_append] <;> omega)) (by first | assumption | omega | (simp only [upS, reduceIte, Nat.reduceEqDiff, eq_self, List.length_cons, List.length_nil, List.length_append] <;> omega)) (by first | assumption | omega | (simp only [upS, reduceIte, Nat.reduceEqDiff, eq_self, List.length_cons, List.length_nil, List.length_append] <;> omega)) (by first | assumption | omega | (simp only [upS, reduceIte, Nat.reduceEqDiff, eq_self, List.length_cons, List.length_nil, List.length_append] <;> omega)) (by first | assumption | omega | (simp only [upS, reduceIte, Nat.reduceEqDiff, eq_self, List.length_cons, List.length_nil, List.length_append] <;> omega)) (by first | assumption | omega | (simp only [upS, reduceIte, Nat.reduceEqDiff, eq_self, List.length_cons, List.length_nil, List.length_append] <;> omega)) (by first | assumption | omega | (simp only [upS, reduceIte, Nat.reduceEqDiff, eq_self, List.length_cons, List.length_nil, List.length_append] <;> omega)) (by first | assumption | omega | (simp only [upS, reduceIte, Nat.reduceEqDiff, eq_self, List.length_cons, List.length_nil, List.length_append] <;> omega))) mw10_leads ml10_333 [5, 2, 3, 1] rfl 5 10 rfl rfl rfl ⟨Nat.le_of_ble_eq_true rfl, Nat.le_of_ble_eq_true rfl⟩ rfl (rest := []) rfl (Nat.le_of_ble_eq_true rfl) d10_goDay_112 ⟨Nat.le_of_ble_eq_true rfl, Nat.le_of_ble_eq_true rfl⟩ (fun r hr => ?_)
            obtain ⟨v12, rfl, hq11⟩ := hr
            try simp only [upS, reduceIte, Nat.reduceEqDiff, eq_self] at hq11
            rcases hq11 with ⟨hq11, rfl⟩ | ⟨hq11, rfl⟩
            ·
              refine j_if_eq (tgt := 122) G d10_goDay_115 (by decide) (by decide) (fun h13 => absurd h13 (by decide)) (fun h13 => ?_)
              have hld : gg s st = 1 := by rw [hgg]; assumption
              have hgo : gO K gg s st := ⟨⟨by omega, by omega⟩, hld⟩
              have hcs : kind = 4 ∨ kind = 5 → dCan K s st (spF kind n) := fun q => by rw [hgg, ld_4 q] at hld; exact hld.1
              have hsn := (dyT_g hs.1 hst hgo).symm
              have hgn := hge
              rw [← hge] at hsn
              refine j_iconst G d10_goDay_118 ?_
              refine j_goto (tgt := 123) G d10_goDay_119 (by decide) ?_
              refine j_istore G d10_goDay_123 (by decide) rfl ?_
              refine j_aload_n G 3 rfl d10_goDay_125 ?_
              refine j_get G 5 10 47 in10 fl10_155 d10_goDay_126 rfl rfl (by decide) (v := .ref (ad 47)) rfl rfl ?_
              refine j_iload G 1 rfl d10_goDay_129 ?_
              refine j_iload G 0 rfl d10_goDay_131 ?_
              refine j_if_eq (tgt := 143) G d10_goDay_133 (by decide) (by decide) (fun h14 => absurd h14 (by decide)) (fun h14 => ?_)
              refine j_aload_n G 3 rfl d10_goDay_136 ?_
              refine j_get G 5 10 38 in10 fl10_127 d10_goDay_137 rfl rfl (by decide) (v := .int (iZ wa_7)) rfl rfl ?_
              refine j_goto (tgt := 145) G d10_goDay_140 (by decide) ?_
              refine j_iast G 4 rfl (by omega) d10_goDay_145 ?_
              refine j_aload_n G 3 rfl d10_goDay_146 ?_
              refine j_dup G d10_goDay_147 rfl ?_
              refine j_get G 5 10 41 in10 fl10_137 d10_goDay_148 rfl rfl (by decide) (v := .int (iZ su)) rfl rfl ?_
              refine j_iload G 0 rfl d10_goDay_151 ?_
              refine j_if_eq (tgt := 163) G d10_goDay_153 (by decide) (by decide) (fun h15 => absurd h15 (by decide)) (fun h15 => ?_)
              refine j_aload_n G 3 rfl d10_goDay_156 ?_
              refine j_get G 5 10 37 in10 fl10_124 d10_goDay_157 rfl rfl (by decide) (v := .int (iZ up_6)) rfl rfl ?_
              refine j_goto (tgt := 164) G d10_goDay_160 (by decide) ?_
              refine j_iadd G d10_goDay_164 ?_
              refine j_put G 5 10 41 in10 tyok10 nm10 fl10_137 d10_goDay_165 rfl rfl (by decide) ⟨rfl, rfl⟩ rfl rfl (Nat.le_of_ble_eq_true rfl) (e := mO ad (upS (upS (upS (upS (upS (upS (upS (upS (upS (upS S 42 sd) 43 wt) 46 tr) 34 nw_3) 35 lo_4) 36 dn_5) 37 up_6) 38 wa_7) 44 (sl + lo_4)) 41 (su + up_6))) rfl ?_
              refine j_aload_n G 3 rfl d10_goDay_168 ?_
              refine j_dup G d10_goDay_169 rfl ?_
              refine j_get G 5 10 42 in10 fl10_140 d10_goDay_170 rfl rfl (by decide) (v := .int (iZ sd)) rfl rfl ?_
              refine j_iload G 0 rfl d10_goDay_173 ?_
              refine j_if_eq (tgt := 185) G d10_goDay_175 (by decide) (by decide) (fun h16 => absurd h16 (by decide)) (fun h16 => ?_)
              refine j_aload_n G 3 rfl d10_goDay_178 ?_
              refine j_get G 5 10 36 in10 fl10_121 d10_goDay_179 rfl rfl (by decide) (v := .int (iZ dn_5)) rfl rfl ?_
              refine j_goto (tgt := 186) G d10_goDay_182 (by decide) ?_
              refine j_iadd G d10_goDay_186 ?_
              refine j_put G 5 10 42 in10 tyok10 nm10 fl10_140 d10_goDay_187 rfl rfl (by decide) ⟨rfl, rfl⟩ rfl rfl (Nat.le_of_ble_eq_true rfl) (e := mO ad (upS (upS (upS (upS (upS (upS (upS (upS (upS (upS S 43 wt) 46 tr) 34 nw_3) 35 lo_4) 36 dn_5) 37 up_6) 38 wa_7) 44 (sl + lo_4)) 41 (su + up_6)) 42 (sd + dn_5))) rfl ?_
              refine j_aload_n G 3 rfl d10_goDay_190 ?_
              refine j_dup G d10_goDay_191 rfl ?_
              refine j_get G 5 10 46 in10 fl10_152 d10_goDay_192 rfl rfl (by decide) (v := .int (iZ tr)) rfl rfl ?_
              refine j_iload G 0 rfl d10_goDay_195 ?_
              refine j_if_eq (tgt := 204) G d10_goDay_197 (by decide) (by decide) (fun h17 => absurd h17 (by decide)) (fun h17 => ?_)
              refine j_iconst G d10_goDay_200 ?_
              refine j_goto (tgt := 205) G d10_goDay_201 (by decide) ?_
              refine j_iadd G d10_goDay_205 ?_
              refine j_put G 5 10 46 in10 tyok10 nm10 fl10_152 d10_goDay_206 rfl rfl (by decide) ⟨rfl, rfl⟩ rfl rfl (Nat.le_of_ble_eq_true rfl) (e := mO ad (upS (upS (upS (upS (upS (upS (upS (upS (upS (upS S 43 wt) 34 nw_3) 35 lo_4) 36 dn_5) 37 up_6) 38 wa_7) 44 (sl + lo_4)) 41 (su + up_6)) 42 (sd + dn_5)) 46 (tr + 1))) rfl ?_
              refine j_iload G 0 rfl d10_goDay_209 ?_
              refine j_if_eq (tgt := 221) G d10_goDay_211 (by decide) (by decide) (fun h18 => absurd h18 (by decide)) (fun h18 => ?_)
              refine j_aload_n G 3 rfl d10_goDay_214 ?_
              refine j_VP G (k10_gone (xl Γ) E mo ad (upS (upS (upS (upS (upS (upS (upS (upS (upS (upS S 43 wt) 34 nw_3) 35 lo_4) 36 dn_5) 37 up_6) 38 wa_7) 44 (sl + lo_4)) 41 (su + up_6)) 42 (sd + dn_5)) 46 (tr + 1)) ) mw10_gone ml10_325 [5] rfl 5 10 rfl rfl rfl ⟨Nat.le_of_ble_eq_true rfl, Nat.le_of_ble_eq_true rfl⟩ rfl (rest := []) rfl (Nat.le_of_ble_eq_true rfl) d10_goDay_215 ⟨Nat.le_of_ble_eq_true rfl, Nat.le_of_ble_eq_true rfl⟩ (fun r hr => ?_)
              obtain ⟨_, rfl, rfl⟩ := hr
              refine j_eq (st' := [.int (iZ (nw_3 - 81 * wa_7 - 9 * dn_5 - up_6))]) rfl rfl rfl ?_
              refine j_goto (tgt := 225) G d10_goDay_218 (by decide) ?_
              refine j_istore G d10_goDay_225 (by decide) rfl ?_
              refine j_aload_n G 3 rfl d10_goDay_227 ?_
              refine j_dup G d10_goDay_228 rfl ?_
              refine j_get G 5 10 43 in10 fl10_143 d10_goDay_229 rfl rfl (by decide) (v := .int (iZ wt)) rfl rfl ?_
              refine j_iload G 0 rfl d10_goDay_232 ?_
              refine j_bipush G d10_goDay_234 rfl ?_
              refine j_idiv G d10_goDay_236 (by omega) ?_
              refine j_bipush G d10_goDay_237 rfl ?_
              refine j_irem G d10_goDay_239 (by omega) ?_
              refine j_iload G 0 rfl d10_goDay_240 ?_
              refine j_bipush G d10_goDay_242 rfl ?_
              refine j_irem G d10_goDay_244 (by omega) ?_
              refine j_iadd G d10_goDay_245 ?_
              refine j_iadd G d10_goDay_246 ?_
              refine j_nm (fun x20 ex20 => ?_)
              refine j_put G 5 10 43 in10 tyok10 nm10 fl10_143 d10_goDay_247 rfl rfl (by decide) ⟨rfl, rfl⟩ rfl rfl (Nat.le_of_ble_eq_true rfl) (e := mO ad (upS (upS (upS (upS (upS (upS (upS (upS (upS (upS S 34 nw_3) 35 lo_4) 36 dn_5) 37 up_6) 38 wa_7) 44 (sl + lo_4)) 41 (su + up_6)) 42 (sd + dn_5)) 46 (tr + 1)) 43 x20)) rfl ?_
              refine j_iinc G d10_goDay_250 2 rfl (by decide) rfl ?_
              refine j_goto (tgt := 70) G d10_goDay_253 (by decide) ?_
              refine j_locs (ls' := [(5, .int (iZ (s + 1))), (4, .int (iZ (nw_3 - 81 * wa_7 - 9 * dn_5 - up_6))), (0, .ref mo), (1, .int (iZ kind)), (2, .int (iZ n)), (3, .int (iZ ru))]) [0, 1, 3, 4, 5, 6] rfl ?_
              refine j_perm (ws' := [(mo, mO ad (upS (upS (upS (upS (upS (upS (upS (upS (upS (upS S 34 nw_3) 35 lo_4) 36 dn_5) 37 up_6) 38 wa_7) 44 (sl + lo_4)) 41 (su + up_6)) 42 (sd + dn_5)) 46 (tr + 1)) 43 x20)), (ad 22, aInt E 24 co), (ad 32, aInt E 12 spr), (ad 33, aInt E 588 le), (ad 39, aBoo E 43173 m1), (ad 40, aInt E 43173 w1), (ad 26, aInt E 12 hd), (ad 27, aInt E 144 rw), (ad 47, aInt E 12 (upI pq s wa_7))]) [5, 6, 7, 8, 0, 1, 2, 3, 4] rfl rfl rfl ?_
              refine j_eq (ws' := [(mo, mO ad (upS (upS (upS (upS (upS (upS (upS (upS (upS (upS S 34 nw_3) 35 lo_4) 36 dn_5) 37 up_6) 38 wa_7) 41 (su + up_6)) 42 (sd + dn_5)) 43 x20) 44 (sl + lo_4)) 46 (tr + 1))), (ad 22, aInt E 24 co), (ad 32, aInt E 12 spr), (ad 33, aInt E 588 le), (ad 39, aBoo E 43173 m1), (ad 40, aInt E 43173 w1), (ad 26, aInt E 12 hd), (ad 27, aInt E 144 rw), (ad 47, aInt E 12 (upI pq s wa_7))]) rfl rfl rfl ?_
              exact ih70 (s + 1) (nw_3 - 81 * wa_7 - 9 * dn_5 - up_6) nw_3 lo_4 dn_5 up_6 wa_7 (su + up_6) (sd + dn_5) x20 (sl + lo_4) (tr + 1) (upI pq s wa_7) (by omega) (by first | assumption | omega) hsn (by first | (rw [dyA_g hs.1 hst hgo, ← hsu, ← hup]; done) | (rw [dyA_n hs.1 hst hgo, ← hsu]; omega)) (by first | (rw [dyA_g hs.1 hst hgo, ← hsd, ← hdn]; done) | (rw [dyA_n hs.1 hst hgo, ← hsd]; omega)) (by have hq := dyQ_s hs.1 hsn; omega) (by rw [dyL_s hs.1 hst, ← hsl, ← hlo]) (by first | (rw [dyA_g hs.1 hst hgo, ← htr]; done) | (rw [dyA_n hs.1 hst hgo, ← htr]; omega)) (fun j h1 h2 => if hj : j = s then (by subst hj; unfold upI; rw [if_pos rfl]; first | (rw [dyP_g hst hgo]; exact hwa) | (rw [dyP_n hst hgo]; done)) else (by unfold upI; rw [if_neg hj]; exact hpn j h1 (by omega))) (fun q => by first | (rw [hnw]; exact (hcm q).1) | (rw [hgn]; exact (hcm q).2 (hcs q)))
            ·
              refine j_if_eq (tgt := 122) G d10_goDay_115 (by decide) (by decide) (fun h21 => ?_) (fun h21 => absurd h21 (by decide))
              have hgo : ¬ gO K gg s st := fun q => by obtain ⟨⟨q1, q2⟩, q3⟩ := q; rw [hgg] at q3; first | omega | contradiction
              have hsn := (dyT_n hs.1 hst hgo).symm
              rw [← hnw] at hsn
              refine j_iconst G d10_goDay_122 ?_
              refine j_istore G d10_goDay_123 (by decide) rfl ?_
              refine j_aload_n G 3 rfl d10_goDay_125 ?_
              refine j_get G 5 10 47 in10 fl10_155 d10_goDay_126 rfl rfl (by decide) (v := .ref (ad 47)) rfl rfl ?_
              refine j_iload G 1 rfl d10_goDay_129 ?_
              refine j_iload G 0 rfl d10_goDay_131 ?_
              refine j_if_eq (tgt := 143) G d10_goDay_133 (by decide) (by decide) (fun h22 => ?_) (fun h22 => absurd h22 (by decide))
              refine j_bipush G d10_goDay_143 rfl ?_
              refine j_iast G 4 rfl (by omega) d10_goDay_145 ?_
              refine j_aload_n G 3 rfl d10_goDay_146 ?_
              refine j_dup G d10_goDay_147 rfl ?_
              refine j_get G 5 10 41 in10 fl10_137 d10_goDay_148 rfl rfl (by decide) (v := .int (iZ su)) rfl rfl ?_
              refine j_iload G 0 rfl d10_goDay_151 ?_
              refine j_if_eq (tgt := 163) G d10_goDay_153 (by decide) (by decide) (fun h23 => ?_) (fun h23 => absurd h23 (by decide))
              refine j_iconst G d10_goDay_163 ?_
              refine j_iadd G d10_goDay_164 ?_
              refine j_put G 5 10 41 in10 tyok10 nm10 fl10_137 d10_goDay_165 rfl rfl (by decide) ⟨rfl, rfl⟩ rfl rfl (Nat.le_of_ble_eq_true rfl) (e := mO ad (upS (upS (upS (upS (upS (upS (upS (upS (upS (upS S 42 sd) 43 wt) 46 tr) 34 nw_3) 35 lo_4) 36 dn_5) 37 up_6) 38 wa_7) 44 (sl + lo_4)) 41 (su + 0))) rfl ?_
              refine j_aload_n G 3 rfl d10_goDay_168 ?_
              refine j_dup G d10_goDay_169 rfl ?_
              refine j_get G 5 10 42 in10 fl10_140 d10_goDay_170 rfl rfl (by decide) (v := .int (iZ sd)) rfl rfl ?_
              refine j_iload G 0 rfl d10_goDay_173 ?_
              refine j_if_eq (tgt := 185) G d10_goDay_175 (by decide) (by decide) (fun h24 => ?_) (fun h24 => absurd h24 (by decide))
              refine j_iconst G d10_goDay_185 ?_
              refine j_iadd G d10_goDay_186 ?_
              refine j_put G 5 10 42 in10 tyok10 nm10 fl10_140 d10_goDay_187 rfl rfl (by decide) ⟨rfl, rfl⟩ rfl rfl (Nat.le_of_ble_eq_true rfl) (e := mO ad (upS (upS (upS (upS (upS (upS (upS (upS (upS (upS S 43 wt) 46 tr) 34 nw_3) 35 lo_4) 36 dn_5) 37 up_6) 38 wa_7) 44 (sl + lo_4)) 41 (su + 0)) 42 (sd + 0))) rfl ?_
              refine j_aload_n G 3 rfl d10_goDay_190 ?_
              refine j_dup G d10_goDay_191 rfl ?_
              refine j_get G 5 10 46 in10 fl10_152 d10_goDay_192 rfl rfl (by decide) (v := .int (iZ tr)) rfl rfl ?_
              refine j_iload G 0 rfl d10_goDay_195 ?_
              refine j_if_eq (tgt := 204) G d10_goDay_197 (by decide) (by decide) (fun h25 => ?_) (fun h25 => absurd h25 (by decide))
              refine j_iconst G d10_goDay_204 ?_
              refine j_iadd G d10_goDay_205 ?_
              refine j_put G 5 10 46 in10 tyok10 nm10 fl10_152 d10_goDay_206 rfl rfl (by decide) ⟨rfl, rfl⟩ rfl rfl (Nat.le_of_ble_eq_true rfl) (e := mO ad (upS (upS (upS (upS (upS (upS (upS (upS (upS (upS S 43 wt) 34 nw_3) 35 lo_4) 36 dn_5) 37 up_6) 38 wa_7) 44 (sl + lo_4)) 41 (su + 0)) 42 (sd + 0)) 46 (tr + 0))) rfl ?_
              refine j_iload G 0 rfl d10_goDay_209 ?_
              refine j_if_eq (tgt := 221) G d10_goDay_211 (by decide) (by decide) (fun h26 => ?_) (fun h26 => absurd h26 (by decide))
              refine j_aload_n G 3 rfl d10_goDay_221 ?_
              refine j_get G 5 10 34 in10 fl10_115 d10_goDay_222 rfl rfl (by decide) (v := .int (iZ nw_3)) rfl rfl ?_
              refine j_istore G d10_goDay_225 (by decide) rfl ?_
              refine j_aload_n G 3 rfl d10_goDay_227 ?_
              refine j_dup G d10_goDay_228 rfl ?_
              refine j_get G 5 10 43 in10 fl10_143 d10_goDay_229 rfl rfl (by decide) (v := .int (iZ wt)) rfl rfl ?_
              refine j_iload G 0 rfl d10_goDay_232 ?_
              refine j_bipush G d10_goDay_234 rfl ?_
              refine j_idiv G d10_goDay_236 (by omega) ?_
              refine j_bipush G d10_goDay_237 rfl ?_
              refine j_irem G d10_goDay_239 (by omega) ?_
              refine j_iload G 0 rfl d10_goDay_240 ?_
              refine j_bipush G d10_goDay_242 rfl ?_
              refine j_irem G d10_goDay_244 (by omega) ?_
              refine j_iadd G d10_goDay_245 ?_
              refine j_iadd G d10_goDay_246 ?_
              refine j_nm (fun x27 ex27 => ?_)
              refine j_put G 5 10 43 in10 tyok10 nm10 fl10_143 d10_goDay_247 rfl rfl (by decide) ⟨rfl, rfl⟩ rfl rfl (Nat.le_of_ble_eq_true rfl) (e := mO ad (upS (upS (upS (upS (upS (upS (upS (upS (upS (upS S 34 nw_3) 35 lo_4) 36 dn_5) 37 up_6) 38 wa_7) 44 (sl + lo_4)) 41 (su + 0)) 42 (sd + 0)) 46 (tr + 0)) 43 x27)) rfl ?_
              refine j_iinc G d10_goDay_250 2 rfl (by decide) rfl ?_
              refine j_goto (tgt := 70) G d10_goDay_253 (by decide) ?_
              refine j_locs (ls' := [(5, .int (iZ (s + 1))), (4, .int (iZ nw_3)), (0, .ref mo), (1, .int (iZ kind)), (2, .int (iZ n)), (3, .int (iZ ru))]) [0, 1, 3, 4, 5, 6] rfl ?_
              refine j_perm (ws' := [(mo, mO ad (upS (upS (upS (upS (upS (upS (upS (upS (upS (upS S 34 nw_3) 35 lo_4) 36 dn_5) 37 up_6) 38 wa_7) 44 (sl + lo_4)) 41 (su + 0)) 42 (sd + 0)) 46 (tr + 0)) 43 x27)), (ad 22, aInt E 24 co), (ad 32, aInt E 12 spr), (ad 33, aInt E 588 le), (ad 39, aBoo E 43173 m1), (ad 40, aInt E 43173 w1), (ad 26, aInt E 12 hd), (ad 27, aInt E 144 rw), (ad 47, aInt E 12 (upI pq s (-5)))]) [5, 6, 7, 8, 0, 1, 2, 3, 4] rfl rfl rfl ?_
              refine j_eq (ws' := [(mo, mO ad (upS (upS (upS (upS (upS (upS (upS (upS (upS (upS S 34 nw_3) 35 lo_4) 36 dn_5) 37 up_6) 38 wa_7) 41 (su + 0)) 42 (sd + 0)) 43 x27) 44 (sl + lo_4)) 46 (tr + 0))), (ad 22, aInt E 24 co), (ad 32, aInt E 12 spr), (ad 33, aInt E 588 le), (ad 39, aBoo E 43173 m1), (ad 40, aInt E 43173 w1), (ad 26, aInt E 12 hd), (ad 27, aInt E 144 rw), (ad 47, aInt E 12 (upI pq s (-5)))]) rfl rfl rfl ?_
              exact ih70 (s + 1) nw_3 nw_3 lo_4 dn_5 up_6 wa_7 (su + 0) (sd + 0) x27 (sl + lo_4) (tr + 0) (upI pq s (-5)) (by omega) (by first | assumption | omega) hsn (by first | (rw [dyA_g hs.1 hst hgo, ← hsu, ← hup]; done) | (rw [dyA_n hs.1 hst hgo, ← hsu]; omega)) (by first | (rw [dyA_g hs.1 hst hgo, ← hsd, ← hdn]; done) | (rw [dyA_n hs.1 hst hgo, ← hsd]; omega)) (by have hq := dyQ_s hs.1 hsn; omega) (by rw [dyL_s hs.1 hst, ← hsl, ← hlo]) (by first | (rw [dyA_g hs.1 hst hgo, ← htr]; done) | (rw [dyA_n hs.1 hst hgo, ← htr]; omega)) (fun j h1 h2 => if hj : j = s then (by subst hj; unfold upI; rw [if_pos rfl]; first | (rw [dyP_g hst hgo]; exact hwa) | (rw [dyP_n hst hgo]; done)) else (by unfold upI; rw [if_neg hj]; exact hpn j h1 (by omega))) (fun q => by first | (rw [hnw]; exact (hcm q).1) | (rw [hgn]; exact (hcm q).2 (hcs q)))
          ·
            refine j_if_eq (tgt := 122) G d10_goDay_103 (by decide) (by decide) (fun h28 => ?_) (fun h28 => absurd h28 (by decide))
            have hgo : ¬ gO K gg s st := fun q => by obtain ⟨⟨q1, q2⟩, q3⟩ := q; rw [hgg] at q3; first | omega | contradiction
            have hsn := (dyT_n hs.1 hst hgo).symm
            rw [← hnw] at hsn
            refine j_iconst G d10_goDay_122 ?_
            refine j_istore G d10_goDay_123 (by decide) rfl ?_
            refine j_aload_n G 3 rfl d10_goDay_125 ?_
            refine j_get G 5 10 47 in10 fl10_155 d10_goDay_126 rfl rfl (by decide) (v := .ref (ad 47)) rfl rfl ?_
            refine j_iload G 1 rfl d10_goDay_129 ?_
            refine j_iload G 0 rfl d10_goDay_131 ?_
            refine j_if_eq (tgt := 143) G d10_goDay_133 (by decide) (by decide) (fun h29 => ?_) (fun h29 => absurd h29 (by decide))
            refine j_bipush G d10_goDay_143 rfl ?_
            refine j_iast G 4 rfl (by omega) d10_goDay_145 ?_
            refine j_aload_n G 3 rfl d10_goDay_146 ?_
            refine j_dup G d10_goDay_147 rfl ?_
            refine j_get G 5 10 41 in10 fl10_137 d10_goDay_148 rfl rfl (by decide) (v := .int (iZ su)) rfl rfl ?_
            refine j_iload G 0 rfl d10_goDay_151 ?_
            refine j_if_eq (tgt := 163) G d10_goDay_153 (by decide) (by decide) (fun h30 => ?_) (fun h30 => absurd h30 (by decide))
            refine j_iconst G d10_goDay_163 ?_
            refine j_iadd G d10_goDay_164 ?_
            refine j_put G 5 10 41 in10 tyok10 nm10 fl10_137 d10_goDay_165 rfl rfl (by decide) ⟨rfl, rfl⟩ rfl rfl (Nat.le_of_ble_eq_true rfl) (e := mO ad (upS (upS (upS (upS (upS (upS (upS (upS (upS (upS S 42 sd) 43 wt) 46 tr) 34 nw_3) 35 lo_4) 36 dn_5) 37 up_6) 38 wa_7) 44 (sl + lo_4)) 41 (su + 0))) rfl ?_
            refine j_aload_n G 3 rfl d10_goDay_168 ?_
            refine j_dup G d10_goDay_169 rfl ?_
            refine j_get G 5 10 42 in10 fl10_140 d10_goDay_170 rfl rfl (by decide) (v := .int (iZ sd)) rfl rfl ?_
            refine j_iload G 0 rfl d10_goDay_173 ?_
            refine j_if_eq (tgt := 185) G d10_goDay_175 (by decide) (by decide) (fun h31 => ?_) (fun h31 => absurd h31 (by decide))
            refine j_iconst G d10_goDay_185 ?_
            refine j_iadd G d10_goDay_186 ?_
            refine j_put G 5 10 42 in10 tyok10 nm10 fl10_140 d10_goDay_187 rfl rfl (by decide) ⟨rfl, rfl⟩ rfl rfl (Nat.le_of_ble_eq_true rfl) (e := mO ad (upS (upS (upS (upS (upS (upS (upS (upS (upS (upS S 43 wt) 46 tr) 34 nw_3) 35 lo_4) 36 dn_5) 37 up_6) 38 wa_7) 44 (sl + lo_4)) 41 (su + 0)) 42 (sd + 0))) rfl ?_
            refine j_aload_n G 3 rfl d10_goDay_190 ?_
            refine j_dup G d10_goDay_191 rfl ?_
            refine j_get G 5 10 46 in10 fl10_152 d10_goDay_192 rfl rfl (by decide) (v := .int (iZ tr)) rfl rfl ?_
            refine j_iload G 0 rfl d10_goDay_195 ?_
            refine j_if_eq (tgt := 204) G d10_goDay_197 (by decide) (by decide) (fun h32 => ?_) (fun h32 => absurd h32 (by decide))
            refine j_iconst G d10_goDay_204 ?_
            refine j_iadd G d10_goDay_205 ?_
            refine j_put G 5 10 46 in10 tyok10 nm10 fl10_152 d10_goDay_206 rfl rfl (by decide) ⟨rfl, rfl⟩ rfl rfl (Nat.le_of_ble_eq_true rfl) (e := mO ad (upS (upS (upS (upS (upS (upS (upS (upS (upS (upS S 43 wt) 34 nw_3) 35 lo_4) 36 dn_5) 37 up_6) 38 wa_7) 44 (sl + lo_4)) 41 (su + 0)) 42 (sd + 0)) 46 (tr + 0))) rfl ?_
            refine j_iload G 0 rfl d10_goDay_209 ?_
            refine j_if_eq (tgt := 221) G d10_goDay_211 (by decide) (by decide) (fun h33 => ?_) (fun h33 => absurd h33 (by decide))
            refine j_aload_n G 3 rfl d10_goDay_221 ?_
            refine j_get G 5 10 34 in10 fl10_115 d10_goDay_222 rfl rfl (by decide) (v := .int (iZ nw_3)) rfl rfl ?_
            refine j_istore G d10_goDay_225 (by decide) rfl ?_
            refine j_aload_n G 3 rfl d10_goDay_227 ?_
            refine j_dup G d10_goDay_228 rfl ?_
            refine j_get G 5 10 43 in10 fl10_143 d10_goDay_229 rfl rfl (by decide) (v := .int (iZ wt)) rfl rfl ?_
            refine j_iload G 0 rfl d10_goDay_232 ?_
            refine j_bipush G d10_goDay_234 rfl ?_
            refine j_idiv G d10_goDay_236 (by omega) ?_
            refine j_bipush G d10_goDay_237 rfl ?_
            refine j_irem G d10_goDay_239 (by omega) ?_
            refine j_iload G 0 rfl d10_goDay_240 ?_
            refine j_bipush G d10_goDay_242 rfl ?_
            refine j_irem G d10_goDay_244 (by omega) ?_
            refine j_iadd G d10_goDay_245 ?_
            refine j_iadd G d10_goDay_246 ?_
            refine j_nm (fun x34 ex34 => ?_)
            refine j_put G 5 10 43 in10 tyok10 nm10 fl10_143 d10_goDay_247 rfl rfl (by decide) ⟨rfl, rfl⟩ rfl rfl (Nat.le_of_ble_eq_true rfl) (e := mO ad (upS (upS (upS (upS (upS (upS (upS (upS (upS (upS S 34 nw_3) 35 lo_4) 36 dn_5) 37 up_6) 38 wa_7) 44 (sl + lo_4)) 41 (su + 0)) 42 (sd + 0)) 46 (tr + 0)) 43 x34)) rfl ?_
            refine j_iinc G d10_goDay_250 2 rfl (by decide) rfl ?_
            refine j_goto (tgt := 70) G d10_goDay_253 (by decide) ?_
            refine j_locs (ls' := [(5, .int (iZ (s + 1))), (4, .int (iZ nw_3)), (0, .ref mo), (1, .int (iZ kind)), (2, .int (iZ n)), (3, .int (iZ ru))]) [0, 1, 3, 4, 5, 6] rfl ?_
            refine j_perm (ws' := [(mo, mO ad (upS (upS (upS (upS (upS (upS (upS (upS (upS (upS S 34 nw_3) 35 lo_4) 36 dn_5) 37 up_6) 38 wa_7) 44 (sl + lo_4)) 41 (su + 0)) 42 (sd + 0)) 46 (tr + 0)) 43 x34)), (ad 22, aInt E 24 co), (ad 32, aInt E 12 spr), (ad 33, aInt E 588 le), (ad 39, aBoo E 43173 m1), (ad 40, aInt E 43173 w1), (ad 26, aInt E 12 hd), (ad 27, aInt E 144 rw), (ad 47, aInt E 12 (upI pq s (-5)))]) [5, 6, 7, 8, 0, 1, 2, 3, 4] rfl rfl rfl ?_
            refine j_eq (ws' := [(mo, mO ad (upS (upS (upS (upS (upS (upS (upS (upS (upS (upS S 34 nw_3) 35 lo_4) 36 dn_5) 37 up_6) 38 wa_7) 41 (su + 0)) 42 (sd + 0)) 43 x34) 44 (sl + lo_4)) 46 (tr + 0))), (ad 22, aInt E 24 co), (ad 32, aInt E 12 spr), (ad 33, aInt E 588 le), (ad 39, aBoo E 43173 m1), (ad 40, aInt E 43173 w1), (ad 26, aInt E 12 hd), (ad 27, aInt E 144 rw), (ad 47, aInt E 12 (upI pq s (-5)))]) rfl rfl rfl ?_
            exact ih70 (s + 1) nw_3 nw_3 lo_4 dn_5 up_6 wa_7 (su + 0) (sd + 0) x34 (sl + lo_4) (tr + 0) (upI pq s (-5)) (by omega) (by first | assumption | omega) hsn (by first | (rw [dyA_g hs.1 hst hgo, ← hsu, ← hup]; done) | (rw [dyA_n hs.1 hst hgo, ← hsu]; omega)) (by first | (rw [dyA_g hs.1 hst hgo, ← hsd, ← hdn]; done) | (rw [dyA_n hs.1 hst hgo, ← hsd]; omega)) (by have hq := dyQ_s hs.1 hsn; omega) (by rw [dyL_s hs.1 hst, ← hsl, ← hlo]) (by first | (rw [dyA_g hs.1 hst hgo, ← htr]; done) | (rw [dyA_n hs.1 hst hgo, ← htr]; omega)) (fun j h1 h2 => if hj : j = s then (by subst hj; unfold upI; rw [if_pos rfl]; first | (rw [dyP_g hst hgo]; exact hwa) | (rw [dyP_n hst hgo]; done)) else (by unfold upI; rw [if_neg hj]; exact hpn j h1 (by omega))) (fun q => by first | (rw [hnw]; exact (hcm q).1) | (rw [hgn]; exact (hcm q).2 (hcs q)))
    exact lp70 _ 0 (81 * (S 21)) nw0 lo0 dn0 up0 wa0 0 0 0 0 0 pn (Nat.lt_succ_self _) (by first | assumption | omega) rfl rfl rfl rfl rfl rfl (fun j h1 h2 => by omega) hmz
  refine j_iload_n G 1 rfl d10_goDay_0 ?_
  refine j_iconst G d10_goDay_1 ?_
  refine j_icmp_eq (tgt := 10) G d10_goDay_2 (by decide) (by omega) (by decide) (fun h35 => ?_) (fun h35 => ?_)
  ·
    refine j_aload_n G 0 rfl d10_goDay_10 ?_
    refine j_iconst G d10_goDay_11 ?_
    refine j_bipush G d10_goDay_12 rfl ?_
    refine j_aload_n G 0 rfl d10_goDay_14 ?_
    refine j_get G 0 10 21 in10 fl10_76 d10_goDay_15 rfl rfl (by decide) (v := .int (iZ (S 21))) rfl rfl ?_
    refine j_imul G d10_goDay_18 ?_
    refine j_iload_n G 1 rfl d10_goDay_19 ?_
    refine j_iconst G d10_goDay_20 ?_
    have mg21 : ∀ x36 : Int, x36 = (if kind ≠ 5 then 0 else n) → J E 7 Γ (some A) 0 0 [(mo, mO ad S), (ad 22, aInt E 24 co), (ad 32, aInt E 12 spr), (ad 33, aInt E 588 le), (ad 39, aBoo E 43173 mk), (ad 40, aInt E 43173 wo), (ad 26, aInt E 12 hd), (ad 27, aInt E 144 rw), (ad 47, aInt E 12 pn)] 29 [(0, .ref mo), (1, .int (iZ kind)), (2, .int (iZ n)), (3, .int (iZ ru))] ([.int (iZ x36), .int (iZ (81 * (S 21))), .int (iZ 0), .ref mo]) := by
      intro x36 ex36
      have hspx : x36 = spF kind n := by unfold spF; rw [ex36]; (repeat' split) <;> omega
      refine j_VM G (rm' := { frames := 2, cells := 0, slots := 0, locals := 47 }) (wc := [(mo, mO ad S), (ad 22, aInt E 24 co), (ad 32, aInt E 12 spr), (ad 33, aInt E 588 le), (ad 39, aBoo E 43173 mk), (ad 40, aInt E 43173 wo)]) (wr := [(ad 26, aInt E 12 hd), (ad 27, aInt E 144 rw), (ad 47, aInt E 12 pn)]) (k10_valueFrom (xl Γ) E mo ad S co spr le K mk wo 0 (81 * (S 21)) x36 (by first | assumption | omega | (simp only [upS, reduceIte, Nat.reduceEqDiff, eq_self, List.length_cons, List.length_nil, List.length_append] <;> omega)) (by first | assumption | omega | (simp only [upS, reduceIte, Nat.reduceEqDiff, eq_self, List.length_cons, List.length_nil, List.length_append] <;> omega)) (by first | assumption | omega | (simp only [upS, reduceIte, Nat.reduceEqDiff, eq_self, List.length_cons, List.length_nil, List.length_append] <;> omega)) (by first | assumption | omega | (simp only [upS, reduceIte, Nat.reduceEqDiff, eq_self, List.length_cons, List.length_nil, List.length_append] <;> omega)) (by first | assumption | omega | (simp only [upS, reduceIte, Nat.reduceEqDiff, eq_self, List.length_cons, List.length_nil, List.length_append] <;> omega))) mw10_valueFrom ml10_329 [0, 1, 2, 3, 4, 5] [6, 7, 8] rfl rfl ⟨rfl, rfl⟩ (by decide) 0 10 rfl rfl rfl ⟨Nat.le_of_ble_eq_true rfl, Nat.le_of_ble_eq_true rfl⟩ rfl (rest := []) rfl (Nat.le_of_ble_eq_true rfl) d10_goDay_29 ⟨Nat.le_of_ble_eq_true rfl, Nat.le_of_ble_eq_true rfl⟩ (fun r w1 hr => ?_)
      obtain ⟨v38, mk1_39, wo1_40, nw1_41, lo1_42, dn1_43, up1_44, wa1_45, rfl, rfl, ⟨hq37_0, hq37_1, hq37_2, hq37_3⟩⟩ := hr
      refine j_eq (ws' := [(ad 26, aInt E 12 hd), (ad 27, aInt E 144 rw), (ad 47, aInt E 12 pn), (mo, mO ad (upS (upS (upS (upS (upS S 34 nw1_41) 35 lo1_42) 36 dn1_43) 37 up1_44) 38 wa1_45)), (ad 22, aInt E 24 co), (ad 32, aInt E 12 spr), (ad 33, aInt E 588 le), (ad 39, aBoo E 43173 mk1_39), (ad 40, aInt E 43173 wo1_40)]) rfl rfl rfl ?_
      have hvm := hq37_3
      have hvz := hq37_1
      have hvB := hq37_2
      rw [hspx] at hvB
      refine j_pop G d10_goDay_32 rfl ?_
      refine j_perm (ws' := [(mo, mO ad (upS (upS (upS (upS (upS S 34 nw1_41) 35 lo1_42) 36 dn1_43) 37 up1_44) 38 wa1_45)), (ad 22, aInt E 24 co), (ad 32, aInt E 12 spr), (ad 33, aInt E 588 le), (ad 39, aBoo E 43173 mk1_39), (ad 40, aInt E 43173 wo1_40), (ad 26, aInt E 12 hd), (ad 27, aInt E 144 rw), (ad 47, aInt E 12 pn)]) [3, 4, 5, 6, 7, 8, 0, 1, 2] rfl rfl rfl ?_
      exact jn33 mk1_39 wo1_40 nw1_41 lo1_42 dn1_43 up1_44 wa1_45 (by first | exact hmk | exact hvm) (by first | exact (fun q => by omega) | exact (fun q => ⟨hvz, hvB⟩))
    refine j_icmp_ne (tgt := 28) G d10_goDay_21 (by decide) (by omega) (by decide) (fun h46 => ?_) (fun h46 => ?_)
    ·
      refine j_iconst G d10_goDay_28 ?_
      refine j_eq (ws' := [(mo, mO ad S), (ad 22, aInt E 24 co), (ad 32, aInt E 12 spr), (ad 33, aInt E 588 le), (ad 39, aBoo E 43173 mk), (ad 40, aInt E 43173 wo), (ad 26, aInt E 12 hd), (ad 27, aInt E 144 rw), (ad 47, aInt E 12 pn)]) (ls' := [(0, .ref mo), (1, .int (iZ kind)), (2, .int (iZ n)), (3, .int (iZ ru))]) rfl rfl rfl ?_
      exact mg21 _ (by first | rfl | (simp only [*, if_true, if_false, ite_true, ite_false]; done) | (split <;> first | rfl | omega | (split <;> first | rfl | omega | (split <;> first | rfl | omega))))
    ·
      refine j_iload_n G 2 rfl d10_goDay_24 ?_
      refine j_goto (tgt := 29) G d10_goDay_25 (by decide) ?_
      refine j_eq (ws' := [(mo, mO ad S), (ad 22, aInt E 24 co), (ad 32, aInt E 12 spr), (ad 33, aInt E 588 le), (ad 39, aBoo E 43173 mk), (ad 40, aInt E 43173 wo), (ad 26, aInt E 12 hd), (ad 27, aInt E 144 rw), (ad 47, aInt E 12 pn)]) (ls' := [(0, .ref mo), (1, .int (iZ kind)), (2, .int (iZ n)), (3, .int (iZ ru))]) rfl rfl rfl ?_
      exact mg21 _ (by first | rfl | (simp only [*, if_true, if_false, ite_true, ite_false]; done) | (split <;> first | rfl | omega | (split <;> first | rfl | omega | (split <;> first | rfl | omega))))
  ·
    refine j_iload_n G 1 rfl d10_goDay_5 ?_
    refine j_iconst G d10_goDay_6 ?_
    refine j_icmp_ne (tgt := 33) G d10_goDay_7 (by decide) (by omega) (by decide) (fun h47 => ?_) (fun h47 => ?_)
    ·
      refine j_eq (ws' := [(mo, mO ad (upS (upS (upS (upS (upS S 34 (S 34)) 35 (S 35)) 36 (S 36)) 37 (S 37)) 38 (S 38))), (ad 22, aInt E 24 co), (ad 32, aInt E 12 spr), (ad 33, aInt E 588 le), (ad 39, aBoo E 43173 mk), (ad 40, aInt E 43173 wo), (ad 26, aInt E 12 hd), (ad 27, aInt E 144 rw), (ad 47, aInt E 12 pn)]) rfl rfl rfl ?_
      exact jn33 mk wo (S 34) (S 35) (S 36) (S 37) (S 38) (by first | exact hmk | exact hvm) (by first | exact (fun q => by omega) | exact (fun q => ⟨hvz, hvB⟩))
    ·
      refine j_aload_n G 0 rfl d10_goDay_10 ?_
      refine j_iconst G d10_goDay_11 ?_
      refine j_bipush G d10_goDay_12 rfl ?_
      refine j_aload_n G 0 rfl d10_goDay_14 ?_
      refine j_get G 0 10 21 in10 fl10_76 d10_goDay_15 rfl rfl (by decide) (v := .int (iZ (S 21))) rfl rfl ?_
      refine j_imul G d10_goDay_18 ?_
      refine j_iload_n G 1 rfl d10_goDay_19 ?_
      refine j_iconst G d10_goDay_20 ?_
      have mg21 : ∀ x48 : Int, x48 = (if kind ≠ 5 then 0 else n) → J E 7 Γ (some A) 0 0 [(mo, mO ad S), (ad 22, aInt E 24 co), (ad 32, aInt E 12 spr), (ad 33, aInt E 588 le), (ad 39, aBoo E 43173 mk), (ad 40, aInt E 43173 wo), (ad 26, aInt E 12 hd), (ad 27, aInt E 144 rw), (ad 47, aInt E 12 pn)] 29 [(0, .ref mo), (1, .int (iZ kind)), (2, .int (iZ n)), (3, .int (iZ ru))] ([.int (iZ x48), .int (iZ (81 * (S 21))), .int (iZ 0), .ref mo]) := by
        intro x48 ex48
        have hspx : x48 = spF kind n := by unfold spF; rw [ex48]; (repeat' split) <;> omega
        refine j_VM G (rm' := { frames := 2, cells := 0, slots := 0, locals := 47 }) (wc := [(mo, mO ad S), (ad 22, aInt E 24 co), (ad 32, aInt E 12 spr), (ad 33, aInt E 588 le), (ad 39, aBoo E 43173 mk), (ad 40, aInt E 43173 wo)]) (wr := [(ad 26, aInt E 12 hd), (ad 27, aInt E 144 rw), (ad 47, aInt E 12 pn)]) (k10_valueFrom (xl Γ) E mo ad S co spr le K mk wo 0 (81 * (S 21)) x48 (by first | assumption | omega | (simp only [upS, reduceIte, Nat.reduceEqDiff, eq_self, List.length_cons, List.length_nil, List.length_append] <;> omega)) (by first | assumption | omega | (simp only [upS, reduceIte, Nat.reduceEqDiff, eq_self, List.length_cons, List.length_nil, List.length_append] <;> omega)) (by first | assumption | omega | (simp only [upS, reduceIte, Nat.reduceEqDiff, eq_self, List.length_cons, List.length_nil, List.length_append] <;> omega)) (by first | assumption | omega | (simp only [upS, reduceIte, Nat.reduceEqDiff, eq_self, List.length_cons, List.length_nil, List.length_append] <;> omega)) (by first | assumption | omega | (simp only [upS, reduceIte, Nat.reduceEqDiff, eq_self, List.length_cons, List.length_nil, List.length_append] <;> omega))) mw10_valueFrom ml10_329 [0, 1, 2, 3, 4, 5] [6, 7, 8] rfl rfl ⟨rfl, rfl⟩ (by decide) 0 10 rfl rfl rfl ⟨Nat.le_of_ble_eq_true rfl, Nat.le_of_ble_eq_true rfl⟩ rfl (rest := []) rfl (Nat.le_of_ble_eq_true rfl) d10_goDay_29 ⟨Nat.le_of_ble_eq_true rfl, Nat.le_of_ble_eq_true rfl⟩ (fun r w1 hr => ?_)
        obtain ⟨v50, mk1_51, wo1_52, nw1_53, lo1_54, dn1_55, up1_56, wa1_57, rfl, rfl, ⟨hq49_0, hq49_1, hq49_2, hq49_3⟩⟩ := hr
        refine j_eq (ws' := [(ad 26, aInt E 12 hd), (ad 27, aInt E 144 rw), (ad 47, aInt E 12 pn), (mo, mO ad (upS (upS (upS (upS (upS S 34 nw1_53) 35 lo1_54) 36 dn1_55) 37 up1_56) 38 wa1_57)), (ad 22, aInt E 24 co), (ad 32, aInt E 12 spr), (ad 33, aInt E 588 le), (ad 39, aBoo E 43173 mk1_51), (ad 40, aInt E 43173 wo1_52)]) rfl rfl rfl ?_
        have hvm := hq49_3
        have hvz := hq49_1
        have hvB := hq49_2
        rw [hspx] at hvB
        refine j_pop G d10_goDay_32 rfl ?_
        refine j_perm (ws' := [(mo, mO ad (upS (upS (upS (upS (upS S 34 nw1_53) 35 lo1_54) 36 dn1_55) 37 up1_56) 38 wa1_57)), (ad 22, aInt E 24 co), (ad 32, aInt E 12 spr), (ad 33, aInt E 588 le), (ad 39, aBoo E 43173 mk1_51), (ad 40, aInt E 43173 wo1_52), (ad 26, aInt E 12 hd), (ad 27, aInt E 144 rw), (ad 47, aInt E 12 pn)]) [3, 4, 5, 6, 7, 8, 0, 1, 2] rfl rfl rfl ?_
        exact jn33 mk1_51 wo1_52 nw1_53 lo1_54 dn1_55 up1_56 wa1_57 (by first | exact hmk | exact hvm) (by first | exact (fun q => by omega) | exact (fun q => ⟨hvz, hvB⟩))
      refine j_icmp_ne (tgt := 28) G d10_goDay_21 (by decide) (by omega) (by decide) (fun h58 => ?_) (fun h58 => ?_)
      ·
        refine j_iconst G d10_goDay_28 ?_
        refine j_eq (ws' := [(mo, mO ad S), (ad 22, aInt E 24 co), (ad 32, aInt E 12 spr), (ad 33, aInt E 588 le), (ad 39, aBoo E 43173 mk), (ad 40, aInt E 43173 wo), (ad 26, aInt E 12 hd), (ad 27, aInt E 144 rw), (ad 47, aInt E 12 pn)]) (ls' := [(0, .ref mo), (1, .int (iZ kind)), (2, .int (iZ n)), (3, .int (iZ ru))]) rfl rfl rfl ?_
        exact mg21 _ (by first | rfl | (simp only [*, if_true, if_false, ite_true, ite_false]; done) | (split <;> first | rfl | omega | (split <;> first | rfl | omega | (split <;> first | rfl | omega))))
      ·
        refine j_iload_n G 2 rfl d10_goDay_24 ?_
        refine j_goto (tgt := 29) G d10_goDay_25 (by decide) ?_
        refine j_eq (ws' := [(mo, mO ad S), (ad 22, aInt E 24 co), (ad 32, aInt E 12 spr), (ad 33, aInt E 588 le), (ad 39, aBoo E 43173 mk), (ad 40, aInt E 43173 wo), (ad 26, aInt E 12 hd), (ad 27, aInt E 144 rw), (ad 47, aInt E 12 pn)]) (ls' := [(0, .ref mo), (1, .int (iZ kind)), (2, .int (iZ n)), (3, .int (iZ ru))]) rfl rfl rfl ?_
        exact mg21 _ (by first | rfl | (simp only [*, if_true, if_false, ite_true, ite_false]; done) | (split <;> first | rfl | omega | (split <;> first | rfl | omega | (split <;> first | rfl | omega))))
