theorem hd_y {U : Int → Int} {n p k : Int} (hk : hdK U n p = k) (h : mt U n p k = wl k ∧ nx U n (p + wl k) = 32) : hdOk U n p ∧ hdE U n p = p + wl k + 1 := by
  subst hk
  exact ⟨h, by unfold hdE; rw [if_pos h]⟩
theorem hd_n {U : Int → Int} {n p k : Int} (hk : hdK U n p = k) (h : ¬ (mt U n p k = wl k ∧ nx U n (p + wl k) = 32)) : ¬ hdOk U n p ∧ hdE U n p = p + mt U n p k := by
  subst hk
  exact ⟨h, by unfold hdE; rw [if_neg h]⟩
theorem hdE_r {U : Int → Int} {n p : Int} (h0 : p ≤ n) : p ≤ hdE U n p ∧ hdE U n p ≤ n := by
  have h := mt_r U n p (hdK U n p)
  have h2 := mt_in (U := U) (n := n) (p := p) (hdK_r U n p) h0
  have h3 := wl_r (hdK U n p)
  unfold hdE
  by_cases hh : hdOk U n p
  · rw [if_pos hh]
    have := nx_in hh.2 (by decide)
    omega
  · rw [if_neg hh]; omega
theorem d10_takesHead_0 : decode c10_takesHead 0 = .ok (.aload_n 0, 1) := by decide +kernel
theorem d10_takesHead_1 : decode c10_takesHead 1 = .ok (.invokevirtual 251, 3) := by decide +kernel
theorem d10_takesHead_4 : decode c10_takesHead 4 = .ok (.istore_n 2, 1) := by decide +kernel
theorem d10_takesHead_5 : decode c10_takesHead 5 = .ok (.aload_n 0, 1) := by decide +kernel
theorem d10_takesHead_6 : decode c10_takesHead 6 = .ok (.invokevirtual 223, 3) := by decide +kernel
theorem d10_takesHead_9 : decode c10_takesHead 9 = .ok (.tableswitch 240 98 115 #[178, 240, 162, 240, 240, 240, 146, 240, 240, 240, 240, 240, 240, 240, 87, 240, 130, 194], 87) := by decide +kernel
theorem d10_takesHead_96 : decode c10_takesHead 96 = .ok (.aload_n 0, 1) := by decide +kernel
theorem d10_takesHead_97 : decode c10_takesHead 97 = .ok (.getfield 32, 3) := by decide +kernel
theorem d10_takesHead_100 : decode c10_takesHead 100 = .ok (.iload_n 1, 1) := by decide +kernel
theorem d10_takesHead_101 : decode c10_takesHead 101 = .ok (.iload_n 2, 1) := by decide +kernel
theorem d10_takesHead_102 : decode c10_takesHead 102 = .ok (.bipush 111, 2) := by decide +kernel
theorem d10_takesHead_104 : decode c10_takesHead 104 = .ok (.if_icmp .ne 8, 3) := by decide +kernel
theorem d10_takesHead_107 : decode c10_takesHead 107 = .ok (.bipush 8, 2) := by decide +kernel
theorem d10_takesHead_109 : decode c10_takesHead 109 = .ok (.goto 4, 3) := by decide +kernel
theorem d10_takesHead_112 : decode c10_takesHead 112 = .ok (.iconst 0, 1) := by decide +kernel
theorem d10_takesHead_113 : decode c10_takesHead 113 = .ok (.iastore, 1) := by decide +kernel
theorem d10_takesHead_114 : decode c10_takesHead 114 = .ok (.iload_n 2, 1) := by decide +kernel
theorem d10_takesHead_115 : decode c10_takesHead 115 = .ok (.bipush 111, 2) := by decide +kernel
theorem d10_takesHead_117 : decode c10_takesHead 117 = .ok (.if_icmp .ne 13, 3) := by decide +kernel
theorem d10_takesHead_120 : decode c10_takesHead 120 = .ok (.aload_n 0, 1) := by decide +kernel
theorem d10_takesHead_121 : decode c10_takesHead 121 = .ok (.ldc 254, 2) := by decide +kernel
theorem d10_takesHead_123 : decode c10_takesHead 123 = .ok (.iconst 4, 1) := by decide +kernel
theorem d10_takesHead_124 : decode c10_takesHead 124 = .ok (.invokevirtual 255, 3) := by decide +kernel
theorem d10_takesHead_127 : decode c10_takesHead 127 = .ok (.goto 11, 3) := by decide +kernel
theorem d10_takesHead_130 : decode c10_takesHead 130 = .ok (.aload_n 0, 1) := by decide +kernel
theorem d10_takesHead_131 : decode c10_takesHead 131 = .ok (.ldc_w 259, 3) := by decide +kernel
theorem d10_takesHead_134 : decode c10_takesHead 134 = .ok (.iconst 4, 1) := by decide +kernel
theorem d10_takesHead_135 : decode c10_takesHead 135 = .ok (.invokevirtual 255, 3) := by decide +kernel
theorem d10_takesHead_138 : decode c10_takesHead 138 = .ok (.ireturn, 1) := by decide +kernel
theorem d10_takesHead_139 : decode c10_takesHead 139 = .ok (.aload_n 0, 1) := by decide +kernel
theorem d10_takesHead_140 : decode c10_takesHead 140 = .ok (.getfield 32, 3) := by decide +kernel
theorem d10_takesHead_143 : decode c10_takesHead 143 = .ok (.iload_n 1, 1) := by decide +kernel
theorem d10_takesHead_144 : decode c10_takesHead 144 = .ok (.iconst 1, 1) := by decide +kernel
theorem d10_takesHead_145 : decode c10_takesHead 145 = .ok (.iastore, 1) := by decide +kernel
theorem d10_takesHead_146 : decode c10_takesHead 146 = .ok (.aload_n 0, 1) := by decide +kernel
theorem d10_takesHead_147 : decode c10_takesHead 147 = .ok (.ldc_w 260, 3) := by decide +kernel
theorem d10_takesHead_150 : decode c10_takesHead 150 = .ok (.iconst 4, 1) := by decide +kernel
theorem d10_takesHead_151 : decode c10_takesHead 151 = .ok (.invokevirtual 255, 3) := by decide +kernel
theorem d10_takesHead_154 : decode c10_takesHead 154 = .ok (.ireturn, 1) := by decide +kernel
theorem d10_takesHead_155 : decode c10_takesHead 155 = .ok (.aload_n 0, 1) := by decide +kernel
theorem d10_takesHead_156 : decode c10_takesHead 156 = .ok (.getfield 32, 3) := by decide +kernel
theorem d10_takesHead_159 : decode c10_takesHead 159 = .ok (.iload_n 1, 1) := by decide +kernel
theorem d10_takesHead_160 : decode c10_takesHead 160 = .ok (.iconst 2, 1) := by decide +kernel
theorem d10_takesHead_161 : decode c10_takesHead 161 = .ok (.iastore, 1) := by decide +kernel
theorem d10_takesHead_162 : decode c10_takesHead 162 = .ok (.aload_n 0, 1) := by decide +kernel
theorem d10_takesHead_163 : decode c10_takesHead 163 = .ok (.ldc_w 261, 3) := by decide +kernel
theorem d10_takesHead_166 : decode c10_takesHead 166 = .ok (.iconst 4, 1) := by decide +kernel
theorem d10_takesHead_167 : decode c10_takesHead 167 = .ok (.invokevirtual 255, 3) := by decide +kernel
theorem d10_takesHead_170 : decode c10_takesHead 170 = .ok (.ireturn, 1) := by decide +kernel
theorem d10_takesHead_171 : decode c10_takesHead 171 = .ok (.aload_n 0, 1) := by decide +kernel
theorem d10_takesHead_172 : decode c10_takesHead 172 = .ok (.getfield 32, 3) := by decide +kernel
theorem d10_takesHead_175 : decode c10_takesHead 175 = .ok (.iload_n 1, 1) := by decide +kernel
theorem d10_takesHead_176 : decode c10_takesHead 176 = .ok (.iconst 3, 1) := by decide +kernel
theorem d10_takesHead_177 : decode c10_takesHead 177 = .ok (.iastore, 1) := by decide +kernel
theorem d10_takesHead_178 : decode c10_takesHead 178 = .ok (.aload_n 0, 1) := by decide +kernel
theorem d10_takesHead_179 : decode c10_takesHead 179 = .ok (.ldc_w 262, 3) := by decide +kernel
theorem d10_takesHead_182 : decode c10_takesHead 182 = .ok (.iconst 4, 1) := by decide +kernel
theorem d10_takesHead_183 : decode c10_takesHead 183 = .ok (.invokevirtual 255, 3) := by decide +kernel
theorem d10_takesHead_186 : decode c10_takesHead 186 = .ok (.ireturn, 1) := by decide +kernel
theorem d10_takesHead_187 : decode c10_takesHead 187 = .ok (.aload_n 0, 1) := by decide +kernel
theorem d10_takesHead_188 : decode c10_takesHead 188 = .ok (.getfield 32, 3) := by decide +kernel
theorem d10_takesHead_191 : decode c10_takesHead 191 = .ok (.iload_n 1, 1) := by decide +kernel
theorem d10_takesHead_192 : decode c10_takesHead 192 = .ok (.iconst 4, 1) := by decide +kernel
theorem d10_takesHead_193 : decode c10_takesHead 193 = .ok (.iastore, 1) := by decide +kernel
theorem d10_takesHead_194 : decode c10_takesHead 194 = .ok (.aload_n 0, 1) := by decide +kernel
theorem d10_takesHead_195 : decode c10_takesHead 195 = .ok (.ldc_w 263, 3) := by decide +kernel
theorem d10_takesHead_198 : decode c10_takesHead 198 = .ok (.iconst 5, 1) := by decide +kernel
theorem d10_takesHead_199 : decode c10_takesHead 199 = .ok (.invokevirtual 255, 3) := by decide +kernel
theorem d10_takesHead_202 : decode c10_takesHead 202 = .ok (.ireturn, 1) := by decide +kernel
theorem d10_takesHead_203 : decode c10_takesHead 203 = .ok (.aload_n 0, 1) := by decide +kernel
theorem d10_takesHead_204 : decode c10_takesHead 204 = .ok (.getfield 32, 3) := by decide +kernel
theorem d10_takesHead_207 : decode c10_takesHead 207 = .ok (.iload_n 1, 1) := by decide +kernel
theorem d10_takesHead_208 : decode c10_takesHead 208 = .ok (.iload_n 2, 1) := by decide +kernel
theorem d10_takesHead_209 : decode c10_takesHead 209 = .ok (.bipush 112, 2) := by decide +kernel
theorem d10_takesHead_211 : decode c10_takesHead 211 = .ok (.if_icmp .ne 8, 3) := by decide +kernel
theorem d10_takesHead_214 : decode c10_takesHead 214 = .ok (.bipush 7, 2) := by decide +kernel
theorem d10_takesHead_216 : decode c10_takesHead 216 = .ok (.goto 5, 3) := by decide +kernel
theorem d10_takesHead_219 : decode c10_takesHead 219 = .ok (.bipush 6, 2) := by decide +kernel
theorem d10_takesHead_221 : decode c10_takesHead 221 = .ok (.iastore, 1) := by decide +kernel
theorem d10_takesHead_222 : decode c10_takesHead 222 = .ok (.iload_n 2, 1) := by decide +kernel
theorem d10_takesHead_223 : decode c10_takesHead 223 = .ok (.bipush 112, 2) := by decide +kernel
theorem d10_takesHead_225 : decode c10_takesHead 225 = .ok (.if_icmp .ne 15, 3) := by decide +kernel
theorem d10_takesHead_228 : decode c10_takesHead 228 = .ok (.aload_n 0, 1) := by decide +kernel
theorem d10_takesHead_229 : decode c10_takesHead 229 = .ok (.ldc_w 264, 3) := by decide +kernel
theorem d10_takesHead_232 : decode c10_takesHead 232 = .ok (.bipush 6, 2) := by decide +kernel
theorem d10_takesHead_234 : decode c10_takesHead 234 = .ok (.invokevirtual 255, 3) := by decide +kernel
theorem d10_takesHead_237 : decode c10_takesHead 237 = .ok (.goto 11, 3) := by decide +kernel
theorem d10_takesHead_240 : decode c10_takesHead 240 = .ok (.aload_n 0, 1) := by decide +kernel
theorem d10_takesHead_241 : decode c10_takesHead 241 = .ok (.ldc_w 265, 3) := by decide +kernel
theorem d10_takesHead_244 : decode c10_takesHead 244 = .ok (.iconst 5, 1) := by decide +kernel
theorem d10_takesHead_245 : decode c10_takesHead 245 = .ok (.invokevirtual 255, 3) := by decide +kernel
theorem d10_takesHead_248 : decode c10_takesHead 248 = .ok (.ireturn, 1) := by decide +kernel
theorem d10_takesHead_249 : decode c10_takesHead 249 = .ok (.aload_n 0, 1) := by decide +kernel
theorem d10_takesHead_250 : decode c10_takesHead 250 = .ok (.getfield 32, 3) := by decide +kernel
theorem d10_takesHead_253 : decode c10_takesHead 253 = .ok (.iload_n 1, 1) := by decide +kernel
theorem d10_takesHead_254 : decode c10_takesHead 254 = .ok (.iconst 5, 1) := by decide +kernel
theorem d10_takesHead_255 : decode c10_takesHead 255 = .ok (.iastore, 1) := by decide +kernel
theorem d10_takesHead_256 : decode c10_takesHead 256 = .ok (.aload_n 0, 1) := by decide +kernel
theorem d10_takesHead_257 : decode c10_takesHead 257 = .ok (.ldc_w 266, 3) := by decide +kernel
theorem d10_takesHead_260 : decode c10_takesHead 260 = .ok (.iconst 4, 1) := by decide +kernel
theorem d10_takesHead_261 : decode c10_takesHead 261 = .ok (.invokevirtual 255, 3) := by decide +kernel
theorem d10_takesHead_264 : decode c10_takesHead 264 = .ok (.ireturn, 1) := by decide +kernel
theorem mw10_takesHead : MV y10_takesHead c10_takesHead 3 (some .boolean) 1 := ⟨cd10_takesHead, ini10, na10_takesHead, im10_takesHead, se10_takesHead⟩
set_option maxHeartbeats 4000000 in
set_option maxRecDepth 100000 in
theorem k10_takesHead (l : Launch) (E : En) (mo : Nat) (ad : Nat → Nat) (S : Nat → Int) (tx : Int → Int) (wd : Int → Int) (c : Int) (htx : ∀ j, 0 ≤ j → j < 100 → -128 ≤ tx j ∧ tx j ≤ 127) (hfd : 0 ≤ S 2 ∧ S 2 ≤ 100) (hat : 0 ≤ S 3 ∧ S 3 ≤ S 2) (hcc : 0 ≤ c ∧ c ≤ 47) : Cm l E y10_takesHead c10_takesHead 3 (some .boolean) { frames := 3, cells := 0, slots := 0, locals := 64 } [.ref mo, .int (iZ c)] [(mo, mO ad S), (ad 5, aInt E 100 tx), (ad 7, aInt E 48 wd)] (fun r ws => ∃ (v : Int), ∃ (az1 : Int), ∃ (wd1 : Int → Int), r = some (.int (iZ v)) ∧ ws = [(mo, mO ad (upS S 3 az1)), (ad 5, aInt E 100 tx), (ad 7, aInt E 48 wd1)] ∧ wd1 = upI wd c (hdK tx (S 2) (S 3)) ∧ (((hdOk tx (S 2) (S 3) ∧ az1 = hdE tx (S 2) (S 3) ∧ az1 ≤ S 2) ∧ v = 1) ∨ ((¬ hdOk tx (S 2) (S 3) ∧ az1 = hdE tx (S 2) (S 3) ∧ az1 ≤ S 2) ∧ v = 0))) := by
  refine Cm.of (by decide +kernel) (Nat.le_of_ble_eq_true rfl) (fun Γ A hl hargs hin G F => ?_)
  subst hl
  refine j_aload_n G 0 rfl d10_takesHead_0 ?_
  refine j_VP G (k10_second (xl Γ) E mo ad S tx (by first | assumption | omega | (simp only [upS, reduceIte, Nat.reduceEqDiff, eq_self, List.length_cons, List.length_nil, List.length_append] <;> omega)) (by first | assumption | omega | (simp only [upS, reduceIte, Nat.reduceEqDiff, eq_self, List.length_cons, List.length_nil, List.length_append] <;> omega)) (by first | assumption | omega | (simp only [upS, reduceIte, Nat.reduceEqDiff, eq_self, List.length_cons, List.length_nil, List.length_append] <;> omega))) mw10_second ml10_251 [0, 1] rfl 0 10 rfl rfl rfl ⟨Nat.le_of_ble_eq_true rfl, Nat.le_of_ble_eq_true rfl⟩ rfl (rest := []) rfl (Nat.le_of_ble_eq_true rfl) d10_takesHead_1 ⟨Nat.le_of_ble_eq_true rfl, Nat.le_of_ble_eq_true rfl⟩ (fun r hr => ?_)
  obtain ⟨v2, rfl, ⟨hq1_0, hq1_1⟩⟩ := hr
  refine j_istore_n G d10_takesHead_4 (by decide) rfl ?_
  refine j_aload_n G 1 rfl d10_takesHead_5 ?_
  refine j_VP G (k10_next (xl Γ) E mo ad S tx (by first | assumption | omega | (simp only [upS, reduceIte, Nat.reduceEqDiff, eq_self, List.length_cons, List.length_nil, List.length_append] <;> omega)) (by first | assumption | omega | (simp only [upS, reduceIte, Nat.reduceEqDiff, eq_self, List.length_cons, List.length_nil, List.length_append] <;> omega)) (by first | assumption | omega | (simp only [upS, reduceIte, Nat.reduceEqDiff, eq_self, List.length_cons, List.length_nil, List.length_append] <;> omega))) mw10_next ml10_223 [0, 1] rfl 0 10 rfl rfl rfl ⟨Nat.le_of_ble_eq_true rfl, Nat.le_of_ble_eq_true rfl⟩ rfl (rest := []) rfl (Nat.le_of_ble_eq_true rfl) d10_takesHead_6 ⟨Nat.le_of_ble_eq_true rfl, Nat.le_of_ble_eq_true rfl⟩ (fun r hr => ?_)
  obtain ⟨v4, rfl, ⟨hq3_0, hq3_1, hq3_2⟩⟩ := hr
  have hn0 := hq3_0
  have hn1 := hq3_1
  rcases (show v4 = 98 ∨ v4 = 99 ∨ v4 = 100 ∨ v4 = 101 ∨ v4 = 102 ∨ v4 = 103 ∨ v4 = 104 ∨ v4 = 105 ∨ v4 = 106 ∨ v4 = 107 ∨ v4 = 108 ∨ v4 = 109 ∨ v4 = 110 ∨ v4 = 111 ∨ v4 = 112 ∨ v4 = 113 ∨ v4 = 114 ∨ v4 = 115 ∨ (v4 < 98 ∨ 115 < v4) by omega) with h5 | h5 | h5 | h5 | h5 | h5 | h5 | h5 | h5 | h5 | h5 | h5 | h5 | h5 | h5 | h5 | h5 | h5 | h5
  ·
    refine j_tabIn (tgt := 187) G d10_takesHead_9 (by omega) 98 h5 ⟨by decide, by decide⟩ rfl (by decide) ?_
    refine j_aload_n G 1 rfl d10_takesHead_187 ?_
    refine j_get G 0 10 7 in10 fl10_32 d10_takesHead_188 rfl rfl (by decide) (v := .ref (ad 7)) rfl rfl ?_
    refine j_iload_n G 2 rfl d10_takesHead_191 ?_
    refine j_iconst G d10_takesHead_192 ?_
    refine j_iast G 2 rfl (by omega) d10_takesHead_193 ?_
    have hk0 : hdK tx (S 2) (S 3) = 4 := by unfold hdK; (repeat' split) <;> omega
    refine j_aload_n G 1 rfl d10_takesHead_194 ?_
    refine j_ldcw G 2688357 ct10_263 (by decide) d10_takesHead_195 ?_
    refine j_iconst G d10_takesHead_198 ?_
    refine j_VM G (rm' := { frames := 2, cells := 0, slots := 0, locals := 41 }) (wc := [(mo, mO ad S), (ad 5, aInt E 100 tx)]) (wr := [(ad 7, aInt E 48 (upI wd c 4))]) (k10_takesWord (xl Γ) E mo ad S tx 2688357 5 4 (by first | assumption | omega | (simp only [upS, reduceIte, Nat.reduceEqDiff, eq_self, List.length_cons, List.length_nil, List.length_append] <;> omega)) (by first | assumption | omega | (simp only [upS, reduceIte, Nat.reduceEqDiff, eq_self, List.length_cons, List.length_nil, List.length_append] <;> omega)) (by first | assumption | omega | (simp only [upS, reduceIte, Nat.reduceEqDiff, eq_self, List.length_cons, List.length_nil, List.length_append] <;> omega)) (by decide) ⟨by decide, by decide⟩ rfl (by intro i h1 h2; rcases (show i = 0 ∨ i = 1 ∨ i = 2 ∨ i = 3 ∨ i = 4 by omega) with h | h | h | h | h <;> subst h <;> decide +kernel)) mw10_takesWord ml10_255 [0, 1] [2] rfl rfl ⟨rfl, rfl⟩ (by decide) 0 10 rfl rfl rfl ⟨Nat.le_of_ble_eq_true rfl, Nat.le_of_ble_eq_true rfl⟩ rfl (rest := []) rfl (Nat.le_of_ble_eq_true rfl) d10_takesHead_199 ⟨Nat.le_of_ble_eq_true rfl, Nat.le_of_ble_eq_true rfl⟩ (fun r w1 hr => ?_)
    obtain ⟨v7, at1_8, rfl, rfl, hq6⟩ := hr
    refine j_eq (ws' := [(ad 7, aInt E 48 (upI wd c 4)), (mo, mO ad (upS S 3 at1_8)), (ad 5, aInt E 100 tx)]) rfl rfl rfl ?_
    rcases hq6 with ⟨hq6, rfl⟩ | ⟨hq6, rfl⟩
    ·
      refine j_perm (ws' := [(mo, mO ad (upS S 3 at1_8)), (ad 5, aInt E 100 tx), (ad 7, aInt E 48 (upI wd c 4))]) [1, 2, 0] rfl rfl rfl ?_
      exact j_zret G F d10_takesHead_202 (by decide) ⟨1, at1_8, (upI wd c 4), rfl, rfl, (by first | (rw [hk0]; done) | (exfalso; omega)), (by first | (left; exact ⟨⟨(hd_y hk0 (by omega)).1, (by rw [(hd_y hk0 (by omega)).2]; omega), by omega⟩, rfl⟩) | (right; exact ⟨⟨(hd_n hk0 (by omega)).1, (by rw [(hd_n hk0 (by omega)).2]; omega), by omega⟩, rfl⟩) | (exfalso; omega))⟩
    ·
      refine j_perm (ws' := [(mo, mO ad (upS S 3 at1_8)), (ad 5, aInt E 100 tx), (ad 7, aInt E 48 (upI wd c 4))]) [1, 2, 0] rfl rfl rfl ?_
      exact j_zret G F d10_takesHead_202 (by decide) ⟨0, at1_8, (upI wd c 4), rfl, rfl, (by first | (rw [hk0]; done) | (exfalso; omega)), (by first | (left; exact ⟨⟨(hd_y hk0 (by omega)).1, (by rw [(hd_y hk0 (by omega)).2]; omega), by omega⟩, rfl⟩) | (right; exact ⟨⟨(hd_n hk0 (by omega)).1, (by rw [(hd_n hk0 (by omega)).2]; omega), by omega⟩, rfl⟩) | (exfalso; omega))⟩
  ·
    refine j_tabIn (tgt := 249) G d10_takesHead_9 (by omega) 99 h5 ⟨by decide, by decide⟩ rfl (by decide) ?_
    refine j_aload_n G 1 rfl d10_takesHead_249 ?_
    refine j_get G 0 10 7 in10 fl10_32 d10_takesHead_250 rfl rfl (by decide) (v := .ref (ad 7)) rfl rfl ?_
    refine j_iload_n G 2 rfl d10_takesHead_253 ?_
    refine j_iconst G d10_takesHead_254 ?_
    refine j_iast G 2 rfl (by omega) d10_takesHead_255 ?_
    have hk0 : hdK tx (S 2) (S 3) = 5 := by unfold hdK; (repeat' split) <;> omega
    refine j_aload_n G 1 rfl d10_takesHead_256 ?_
    refine j_ldcw G 656843 ct10_266 (by decide) d10_takesHead_257 ?_
    refine j_iconst G d10_takesHead_260 ?_
    refine j_VM G (rm' := { frames := 2, cells := 0, slots := 0, locals := 41 }) (wc := [(mo, mO ad S), (ad 5, aInt E 100 tx)]) (wr := [(ad 7, aInt E 48 (upI wd c 5))]) (k10_takesWord (xl Γ) E mo ad S tx 656843 4 5 (by first | assumption | omega | (simp only [upS, reduceIte, Nat.reduceEqDiff, eq_self, List.length_cons, List.length_nil, List.length_append] <;> omega)) (by first | assumption | omega | (simp only [upS, reduceIte, Nat.reduceEqDiff, eq_self, List.length_cons, List.length_nil, List.length_append] <;> omega)) (by first | assumption | omega | (simp only [upS, reduceIte, Nat.reduceEqDiff, eq_self, List.length_cons, List.length_nil, List.length_append] <;> omega)) (by decide) ⟨by decide, by decide⟩ rfl (by intro i h1 h2; rcases (show i = 0 ∨ i = 1 ∨ i = 2 ∨ i = 3 by omega) with h | h | h | h <;> subst h <;> decide +kernel)) mw10_takesWord ml10_255 [0, 1] [2] rfl rfl ⟨rfl, rfl⟩ (by decide) 0 10 rfl rfl rfl ⟨Nat.le_of_ble_eq_true rfl, Nat.le_of_ble_eq_true rfl⟩ rfl (rest := []) rfl (Nat.le_of_ble_eq_true rfl) d10_takesHead_261 ⟨Nat.le_of_ble_eq_true rfl, Nat.le_of_ble_eq_true rfl⟩ (fun r w1 hr => ?_)
    obtain ⟨v10, at1_11, rfl, rfl, hq9⟩ := hr
    refine j_eq (ws' := [(ad 7, aInt E 48 (upI wd c 5)), (mo, mO ad (upS S 3 at1_11)), (ad 5, aInt E 100 tx)]) rfl rfl rfl ?_
    rcases hq9 with ⟨hq9, rfl⟩ | ⟨hq9, rfl⟩
    ·
      refine j_perm (ws' := [(mo, mO ad (upS S 3 at1_11)), (ad 5, aInt E 100 tx), (ad 7, aInt E 48 (upI wd c 5))]) [1, 2, 0] rfl rfl rfl ?_
      exact j_zret G F d10_takesHead_264 (by decide) ⟨1, at1_11, (upI wd c 5), rfl, rfl, (by first | (rw [hk0]; done) | (exfalso; omega)), (by first | (left; exact ⟨⟨(hd_y hk0 (by omega)).1, (by rw [(hd_y hk0 (by omega)).2]; omega), by omega⟩, rfl⟩) | (right; exact ⟨⟨(hd_n hk0 (by omega)).1, (by rw [(hd_n hk0 (by omega)).2]; omega), by omega⟩, rfl⟩) | (exfalso; omega))⟩
    ·
      refine j_perm (ws' := [(mo, mO ad (upS S 3 at1_11)), (ad 5, aInt E 100 tx), (ad 7, aInt E 48 (upI wd c 5))]) [1, 2, 0] rfl rfl rfl ?_
      exact j_zret G F d10_takesHead_264 (by decide) ⟨0, at1_11, (upI wd c 5), rfl, rfl, (by first | (rw [hk0]; done) | (exfalso; omega)), (by first | (left; exact ⟨⟨(hd_y hk0 (by omega)).1, (by rw [(hd_y hk0 (by omega)).2]; omega), by omega⟩, rfl⟩) | (right; exact ⟨⟨(hd_n hk0 (by omega)).1, (by rw [(hd_n hk0 (by omega)).2]; omega), by omega⟩, rfl⟩) | (exfalso; omega))⟩
  ·
    refine j_tabIn (tgt := 171) G d10_takesHead_9 (by omega) 100 h5 ⟨by decide, by decide⟩ rfl (by decide) ?_
    refine j_aload_n G 1 rfl d10_takesHead_171 ?_
    refine j_get G 0 10 7 in10 fl10_32 d10_takesHead_172 rfl rfl (by decide) (v := .ref (ad 7)) rfl rfl ?_
    refine j_iload_n G 2 rfl d10_takesHead_175 ?_
    refine j_iconst G d10_takesHead_176 ?_
    refine j_iast G 2 rfl (by omega) d10_takesHead_177 ?_
    have hk0 : hdK tx (S 2) (S 3) = 3 := by unfold hdK; (repeat' split) <;> omega
    refine j_aload_n G 1 rfl d10_takesHead_178 ?_
    refine j_ldcw G 149543 ct10_262 (by decide) d10_takesHead_179 ?_
    refine j_iconst G d10_takesHead_182 ?_
    refine j_VM G (rm' := { frames := 2, cells := 0, slots := 0, locals := 41 }) (wc := [(mo, mO ad S), (ad 5, aInt E 100 tx)]) (wr := [(ad 7, aInt E 48 (upI wd c 3))]) (k10_takesWord (xl Γ) E mo ad S tx 149543 4 3 (by first | assumption | omega | (simp only [upS, reduceIte, Nat.reduceEqDiff, eq_self, List.length_cons, List.length_nil, List.length_append] <;> omega)) (by first | assumption | omega | (simp only [upS, reduceIte, Nat.reduceEqDiff, eq_self, List.length_cons, List.length_nil, List.length_append] <;> omega)) (by first | assumption | omega | (simp only [upS, reduceIte, Nat.reduceEqDiff, eq_self, List.length_cons, List.length_nil, List.length_append] <;> omega)) (by decide) ⟨by decide, by decide⟩ rfl (by intro i h1 h2; rcases (show i = 0 ∨ i = 1 ∨ i = 2 ∨ i = 3 by omega) with h | h | h | h <;> subst h <;> decide +kernel)) mw10_takesWord ml10_255 [0, 1] [2] rfl rfl ⟨rfl, rfl⟩ (by decide) 0 10 rfl rfl rfl ⟨Nat.le_of_ble_eq_true rfl, Nat.le_of_ble_eq_true rfl⟩ rfl (rest := []) rfl (Nat.le_of_ble_eq_true rfl) d10_takesHead_183 ⟨Nat.le_of_ble_eq_true rfl, Nat.le_of_ble_eq_true rfl⟩ (fun r w1 hr => ?_)
    obtain ⟨v13, at1_14, rfl, rfl, hq12⟩ := hr
    refine j_eq (ws' := [(ad 7, aInt E 48 (upI wd c 3)), (mo, mO ad (upS S 3 at1_14)), (ad 5, aInt E 100 tx)]) rfl rfl rfl ?_
    rcases hq12 with ⟨hq12, rfl⟩ | ⟨hq12, rfl⟩
    ·
      refine j_perm (ws' := [(mo, mO ad (upS S 3 at1_14)), (ad 5, aInt E 100 tx), (ad 7, aInt E 48 (upI wd c 3))]) [1, 2, 0] rfl rfl rfl ?_
      exact j_zret G F d10_takesHead_186 (by decide) ⟨1, at1_14, (upI wd c 3), rfl, rfl, (by first | (rw [hk0]; done) | (exfalso; omega)), (by first | (left; exact ⟨⟨(hd_y hk0 (by omega)).1, (by rw [(hd_y hk0 (by omega)).2]; omega), by omega⟩, rfl⟩) | (right; exact ⟨⟨(hd_n hk0 (by omega)).1, (by rw [(hd_n hk0 (by omega)).2]; omega), by omega⟩, rfl⟩) | (exfalso; omega))⟩
    ·
      refine j_perm (ws' := [(mo, mO ad (upS S 3 at1_14)), (ad 5, aInt E 100 tx), (ad 7, aInt E 48 (upI wd c 3))]) [1, 2, 0] rfl rfl rfl ?_
      exact j_zret G F d10_takesHead_186 (by decide) ⟨0, at1_14, (upI wd c 3), rfl, rfl, (by first | (rw [hk0]; done) | (exfalso; omega)), (by first | (left; exact ⟨⟨(hd_y hk0 (by omega)).1, (by rw [(hd_y hk0 (by omega)).2]; omega), by omega⟩, rfl⟩) | (right; exact ⟨⟨(hd_n hk0 (by omega)).1, (by rw [(hd_n hk0 (by omega)).2]; omega), by omega⟩, rfl⟩) | (exfalso; omega))⟩
  ·
    refine j_tabIn (tgt := 249) G d10_takesHead_9 (by omega) 101 h5 ⟨by decide, by decide⟩ rfl (by decide) ?_
    refine j_aload_n G 1 rfl d10_takesHead_249 ?_
    refine j_get G 0 10 7 in10 fl10_32 d10_takesHead_250 rfl rfl (by decide) (v := .ref (ad 7)) rfl rfl ?_
    refine j_iload_n G 2 rfl d10_takesHead_253 ?_
    refine j_iconst G d10_takesHead_254 ?_
    refine j_iast G 2 rfl (by omega) d10_takesHead_255 ?_
    have hk0 : hdK tx (S 2) (S 3) = 5 := by unfold hdK; (repeat' split) <;> omega
    refine j_aload_n G 1 rfl d10_takesHead_256 ?_
    refine j_ldcw G 656843 ct10_266 (by decide) d10_takesHead_257 ?_
    refine j_iconst G d10_takesHead_260 ?_
    refine j_VM G (rm' := { frames := 2, cells := 0, slots := 0, locals := 41 }) (wc := [(mo, mO ad S), (ad 5, aInt E 100 tx)]) (wr := [(ad 7, aInt E 48 (upI wd c 5))]) (k10_takesWord (xl Γ) E mo ad S tx 656843 4 5 (by first | assumption | omega | (simp only [upS, reduceIte, Nat.reduceEqDiff, eq_self, List.length_cons, List.length_nil, List.length_append] <;> omega)) (by first | assumption | omega | (simp only [upS, reduceIte, Nat.reduceEqDiff, eq_self, List.length_cons, List.length_nil, List.length_append] <;> omega)) (by first | assumption | omega | (simp only [upS, reduceIte, Nat.reduceEqDiff, eq_self, List.length_cons, List.length_nil, List.length_append] <;> omega)) (by decide) ⟨by decide, by decide⟩ rfl (by intro i h1 h2; rcases (show i = 0 ∨ i = 1 ∨ i = 2 ∨ i = 3 by omega) with h | h | h | h <;> subst h <;> decide +kernel)) mw10_takesWord ml10_255 [0, 1] [2] rfl rfl ⟨rfl, rfl⟩ (by decide) 0 10 rfl rfl rfl ⟨Nat.le_of_ble_eq_true rfl, Nat.le_of_ble_eq_true rfl⟩ rfl (rest := []) rfl (Nat.le_of_ble_eq_true rfl) d10_takesHead_261 ⟨Nat.le_of_ble_eq_true rfl, Nat.le_of_ble_eq_true rfl⟩ (fun r w1 hr => ?_)
    obtain ⟨v16, at1_17, rfl, rfl, hq15⟩ := hr
    refine j_eq (ws' := [(ad 7, aInt E 48 (upI wd c 5)), (mo, mO ad (upS S 3 at1_17)), (ad 5, aInt E 100 tx)]) rfl rfl rfl ?_
    rcases hq15 with ⟨hq15, rfl⟩ | ⟨hq15, rfl⟩
    ·
      refine j_perm (ws' := [(mo, mO ad (upS S 3 at1_17)), (ad 5, aInt E 100 tx), (ad 7, aInt E 48 (upI wd c 5))]) [1, 2, 0] rfl rfl rfl ?_
      exact j_zret G F d10_takesHead_264 (by decide) ⟨1, at1_17, (upI wd c 5), rfl, rfl, (by first | (rw [hk0]; done) | (exfalso; omega)), (by first | (left; exact ⟨⟨(hd_y hk0 (by omega)).1, (by rw [(hd_y hk0 (by omega)).2]; omega), by omega⟩, rfl⟩) | (right; exact ⟨⟨(hd_n hk0 (by omega)).1, (by rw [(hd_n hk0 (by omega)).2]; omega), by omega⟩, rfl⟩) | (exfalso; omega))⟩
    ·
      refine j_perm (ws' := [(mo, mO ad (upS S 3 at1_17)), (ad 5, aInt E 100 tx), (ad 7, aInt E 48 (upI wd c 5))]) [1, 2, 0] rfl rfl rfl ?_
      exact j_zret G F d10_takesHead_264 (by decide) ⟨0, at1_17, (upI wd c 5), rfl, rfl, (by first | (rw [hk0]; done) | (exfalso; omega)), (by first | (left; exact ⟨⟨(hd_y hk0 (by omega)).1, (by rw [(hd_y hk0 (by omega)).2]; omega), by omega⟩, rfl⟩) | (right; exact ⟨⟨(hd_n hk0 (by omega)).1, (by rw [(hd_n hk0 (by omega)).2]; omega), by omega⟩, rfl⟩) | (exfalso; omega))⟩
  ·
    refine j_tabIn (tgt := 249) G d10_takesHead_9 (by omega) 102 h5 ⟨by decide, by decide⟩ rfl (by decide) ?_
    refine j_aload_n G 1 rfl d10_takesHead_249 ?_
    refine j_get G 0 10 7 in10 fl10_32 d10_takesHead_250 rfl rfl (by decide) (v := .ref (ad 7)) rfl rfl ?_
    refine j_iload_n G 2 rfl d10_takesHead_253 ?_
    refine j_iconst G d10_takesHead_254 ?_
    refine j_iast G 2 rfl (by omega) d10_takesHead_255 ?_
    have hk0 : hdK tx (S 2) (S 3) = 5 := by unfold hdK; (repeat' split) <;> omega
    refine j_aload_n G 1 rfl d10_takesHead_256 ?_
    refine j_ldcw G 656843 ct10_266 (by decide) d10_takesHead_257 ?_
    refine j_iconst G d10_takesHead_260 ?_
    refine j_VM G (rm' := { frames := 2, cells := 0, slots := 0, locals := 41 }) (wc := [(mo, mO ad S), (ad 5, aInt E 100 tx)]) (wr := [(ad 7, aInt E 48 (upI wd c 5))]) (k10_takesWord (xl Γ) E mo ad S tx 656843 4 5 (by first | assumption | omega | (simp only [upS, reduceIte, Nat.reduceEqDiff, eq_self, List.length_cons, List.length_nil, List.length_append] <;> omega)) (by first | assumption | omega | (simp only [upS, reduceIte, Nat.reduceEqDiff, eq_self, List.length_cons, List.length_nil, List.length_append] <;> omega)) (by first | assumption | omega | (simp only [upS, reduceIte, Nat.reduceEqDiff, eq_self, List.length_cons, List.length_nil, List.length_append] <;> omega)) (by decide) ⟨by decide, by decide⟩ rfl (by intro i h1 h2; rcases (show i = 0 ∨ i = 1 ∨ i = 2 ∨ i = 3 by omega) with h | h | h | h <;> subst h <;> decide +kernel)) mw10_takesWord ml10_255 [0, 1] [2] rfl rfl ⟨rfl, rfl⟩ (by decide) 0 10 rfl rfl rfl ⟨Nat.le_of_ble_eq_true rfl, Nat.le_of_ble_eq_true rfl⟩ rfl (rest := []) rfl (Nat.le_of_ble_eq_true rfl) d10_takesHead_261 ⟨Nat.le_of_ble_eq_true rfl, Nat.le_of_ble_eq_true rfl⟩ (fun r w1 hr => ?_)
    obtain ⟨v19, at1_20, rfl, rfl, hq18⟩ := hr
    refine j_eq (ws' := [(ad 7, aInt E 48 (upI wd c 5)), (mo, mO ad (upS S 3 at1_20)), (ad 5, aInt E 100 tx)]) rfl rfl rfl ?_
    rcases hq18 with ⟨hq18, rfl⟩ | ⟨hq18, rfl⟩
    ·
      refine j_perm (ws' := [(mo, mO ad (upS S 3 at1_20)), (ad 5, aInt E 100 tx), (ad 7, aInt E 48 (upI wd c 5))]) [1, 2, 0] rfl rfl rfl ?_
      exact j_zret G F d10_takesHead_264 (by decide) ⟨1, at1_20, (upI wd c 5), rfl, rfl, (by first | (rw [hk0]; done) | (exfalso; omega)), (by first | (left; exact ⟨⟨(hd_y hk0 (by omega)).1, (by rw [(hd_y hk0 (by omega)).2]; omega), by omega⟩, rfl⟩) | (right; exact ⟨⟨(hd_n hk0 (by omega)).1, (by rw [(hd_n hk0 (by omega)).2]; omega), by omega⟩, rfl⟩) | (exfalso; omega))⟩
    ·
      refine j_perm (ws' := [(mo, mO ad (upS S 3 at1_20)), (ad 5, aInt E 100 tx), (ad 7, aInt E 48 (upI wd c 5))]) [1, 2, 0] rfl rfl rfl ?_
      exact j_zret G F d10_takesHead_264 (by decide) ⟨0, at1_20, (upI wd c 5), rfl, rfl, (by first | (rw [hk0]; done) | (exfalso; omega)), (by first | (left; exact ⟨⟨(hd_y hk0 (by omega)).1, (by rw [(hd_y hk0 (by omega)).2]; omega), by omega⟩, rfl⟩) | (right; exact ⟨⟨(hd_n hk0 (by omega)).1, (by rw [(hd_n hk0 (by omega)).2]; omega), by omega⟩, rfl⟩) | (exfalso; omega))⟩
  ·
    refine j_tabIn (tgt := 249) G d10_takesHead_9 (by omega) 103 h5 ⟨by decide, by decide⟩ rfl (by decide) ?_
    refine j_aload_n G 1 rfl d10_takesHead_249 ?_
    refine j_get G 0 10 7 in10 fl10_32 d10_takesHead_250 rfl rfl (by decide) (v := .ref (ad 7)) rfl rfl ?_
    refine j_iload_n G 2 rfl d10_takesHead_253 ?_
    refine j_iconst G d10_takesHead_254 ?_
    refine j_iast G 2 rfl (by omega) d10_takesHead_255 ?_
    have hk0 : hdK tx (S 2) (S 3) = 5 := by unfold hdK; (repeat' split) <;> omega
    refine j_aload_n G 1 rfl d10_takesHead_256 ?_
    refine j_ldcw G 656843 ct10_266 (by decide) d10_takesHead_257 ?_
    refine j_iconst G d10_takesHead_260 ?_
    refine j_VM G (rm' := { frames := 2, cells := 0, slots := 0, locals := 41 }) (wc := [(mo, mO ad S), (ad 5, aInt E 100 tx)]) (wr := [(ad 7, aInt E 48 (upI wd c 5))]) (k10_takesWord (xl Γ) E mo ad S tx 656843 4 5 (by first | assumption | omega | (simp only [upS, reduceIte, Nat.reduceEqDiff, eq_self, List.length_cons, List.length_nil, List.length_append] <;> omega)) (by first | assumption | omega | (simp only [upS, reduceIte, Nat.reduceEqDiff, eq_self, List.length_cons, List.length_nil, List.length_append] <;> omega)) (by first | assumption | omega | (simp only [upS, reduceIte, Nat.reduceEqDiff, eq_self, List.length_cons, List.length_nil, List.length_append] <;> omega)) (by decide) ⟨by decide, by decide⟩ rfl (by intro i h1 h2; rcases (show i = 0 ∨ i = 1 ∨ i = 2 ∨ i = 3 by omega) with h | h | h | h <;> subst h <;> decide +kernel)) mw10_takesWord ml10_255 [0, 1] [2] rfl rfl ⟨rfl, rfl⟩ (by decide) 0 10 rfl rfl rfl ⟨Nat.le_of_ble_eq_true rfl, Nat.le_of_ble_eq_true rfl⟩ rfl (rest := []) rfl (Nat.le_of_ble_eq_true rfl) d10_takesHead_261 ⟨Nat.le_of_ble_eq_true rfl, Nat.le_of_ble_eq_true rfl⟩ (fun r w1 hr => ?_)
    obtain ⟨v22, at1_23, rfl, rfl, hq21⟩ := hr
    refine j_eq (ws' := [(ad 7, aInt E 48 (upI wd c 5)), (mo, mO ad (upS S 3 at1_23)), (ad 5, aInt E 100 tx)]) rfl rfl rfl ?_
    rcases hq21 with ⟨hq21, rfl⟩ | ⟨hq21, rfl⟩
    ·
      refine j_perm (ws' := [(mo, mO ad (upS S 3 at1_23)), (ad 5, aInt E 100 tx), (ad 7, aInt E 48 (upI wd c 5))]) [1, 2, 0] rfl rfl rfl ?_
      exact j_zret G F d10_takesHead_264 (by decide) ⟨1, at1_23, (upI wd c 5), rfl, rfl, (by first | (rw [hk0]; done) | (exfalso; omega)), (by first | (left; exact ⟨⟨(hd_y hk0 (by omega)).1, (by rw [(hd_y hk0 (by omega)).2]; omega), by omega⟩, rfl⟩) | (right; exact ⟨⟨(hd_n hk0 (by omega)).1, (by rw [(hd_n hk0 (by omega)).2]; omega), by omega⟩, rfl⟩) | (exfalso; omega))⟩
    ·
      refine j_perm (ws' := [(mo, mO ad (upS S 3 at1_23)), (ad 5, aInt E 100 tx), (ad 7, aInt E 48 (upI wd c 5))]) [1, 2, 0] rfl rfl rfl ?_
      exact j_zret G F d10_takesHead_264 (by decide) ⟨0, at1_23, (upI wd c 5), rfl, rfl, (by first | (rw [hk0]; done) | (exfalso; omega)), (by first | (left; exact ⟨⟨(hd_y hk0 (by omega)).1, (by rw [(hd_y hk0 (by omega)).2]; omega), by omega⟩, rfl⟩) | (right; exact ⟨⟨(hd_n hk0 (by omega)).1, (by rw [(hd_n hk0 (by omega)).2]; omega), by omega⟩, rfl⟩) | (exfalso; omega))⟩
  ·
    refine j_tabIn (tgt := 155) G d10_takesHead_9 (by omega) 104 h5 ⟨by decide, by decide⟩ rfl (by decide) ?_
    refine j_aload_n G 1 rfl d10_takesHead_155 ?_
    refine j_get G 0 10 7 in10 fl10_32 d10_takesHead_156 rfl rfl (by decide) (v := .ref (ad 7)) rfl rfl ?_
    refine j_iload_n G 2 rfl d10_takesHead_159 ?_
    refine j_iconst G d10_takesHead_160 ?_
    refine j_iast G 2 rfl (by omega) d10_takesHead_161 ?_
    have hk0 : hdK tx (S 2) (S 3) = 2 := by unfold hdK; (repeat' split) <;> omega
    refine j_aload_n G 1 rfl d10_takesHead_162 ?_
    refine j_ldcw G 267300 ct10_261 (by decide) d10_takesHead_163 ?_
    refine j_iconst G d10_takesHead_166 ?_
    refine j_VM G (rm' := { frames := 2, cells := 0, slots := 0, locals := 41 }) (wc := [(mo, mO ad S), (ad 5, aInt E 100 tx)]) (wr := [(ad 7, aInt E 48 (upI wd c 2))]) (k10_takesWord (xl Γ) E mo ad S tx 267300 4 2 (by first | assumption | omega | (simp only [upS, reduceIte, Nat.reduceEqDiff, eq_self, List.length_cons, List.length_nil, List.length_append] <;> omega)) (by first | assumption | omega | (simp only [upS, reduceIte, Nat.reduceEqDiff, eq_self, List.length_cons, List.length_nil, List.length_append] <;> omega)) (by first | assumption | omega | (simp only [upS, reduceIte, Nat.reduceEqDiff, eq_self, List.length_cons, List.length_nil, List.length_append] <;> omega)) (by decide) ⟨by decide, by decide⟩ rfl (by intro i h1 h2; rcases (show i = 0 ∨ i = 1 ∨ i = 2 ∨ i = 3 by omega) with h | h | h | h <;> subst h <;> decide +kernel)) mw10_takesWord ml10_255 [0, 1] [2] rfl rfl ⟨rfl, rfl⟩ (by decide) 0 10 rfl rfl rfl ⟨Nat.le_of_ble_eq_true rfl, Nat.le_of_ble_eq_true rfl⟩ rfl (rest := []) rfl (Nat.le_of_ble_eq_true rfl) d10_takesHead_167 ⟨Nat.le_of_ble_eq_true rfl, Nat.le_of_ble_eq_true rfl⟩ (fun r w1 hr => ?_)
    obtain ⟨v25, at1_26, rfl, rfl, hq24⟩ := hr
    refine j_eq (ws' := [(ad 7, aInt E 48 (upI wd c 2)), (mo, mO ad (upS S 3 at1_26)), (ad 5, aInt E 100 tx)]) rfl rfl rfl ?_
    rcases hq24 with ⟨hq24, rfl⟩ | ⟨hq24, rfl⟩
    ·
      refine j_perm (ws' := [(mo, mO ad (upS S 3 at1_26)), (ad 5, aInt E 100 tx), (ad 7, aInt E 48 (upI wd c 2))]) [1, 2, 0] rfl rfl rfl ?_
      exact j_zret G F d10_takesHead_170 (by decide) ⟨1, at1_26, (upI wd c 2), rfl, rfl, (by first | (rw [hk0]; done) | (exfalso; omega)), (by first | (left; exact ⟨⟨(hd_y hk0 (by omega)).1, (by rw [(hd_y hk0 (by omega)).2]; omega), by omega⟩, rfl⟩) | (right; exact ⟨⟨(hd_n hk0 (by omega)).1, (by rw [(hd_n hk0 (by omega)).2]; omega), by omega⟩, rfl⟩) | (exfalso; omega))⟩
    ·
      refine j_perm (ws' := [(mo, mO ad (upS S 3 at1_26)), (ad 5, aInt E 100 tx), (ad 7, aInt E 48 (upI wd c 2))]) [1, 2, 0] rfl rfl rfl ?_
      exact j_zret G F d10_takesHead_170 (by decide) ⟨0, at1_26, (upI wd c 2), rfl, rfl, (by first | (rw [hk0]; done) | (exfalso; omega)), (by first | (left; exact ⟨⟨(hd_y hk0 (by omega)).1, (by rw [(hd_y hk0 (by omega)).2]; omega), by omega⟩, rfl⟩) | (right; exact ⟨⟨(hd_n hk0 (by omega)).1, (by rw [(hd_n hk0 (by omega)).2]; omega), by omega⟩, rfl⟩) | (exfalso; omega))⟩
  ·
    refine j_tabIn (tgt := 249) G d10_takesHead_9 (by omega) 105 h5 ⟨by decide, by decide⟩ rfl (by decide) ?_
    refine j_aload_n G 1 rfl d10_takesHead_249 ?_
    refine j_get G 0 10 7 in10 fl10_32 d10_takesHead_250 rfl rfl (by decide) (v := .ref (ad 7)) rfl rfl ?_
    refine j_iload_n G 2 rfl d10_takesHead_253 ?_
    refine j_iconst G d10_takesHead_254 ?_
    refine j_iast G 2 rfl (by omega) d10_takesHead_255 ?_
    have hk0 : hdK tx (S 2) (S 3) = 5 := by unfold hdK; (repeat' split) <;> omega
    refine j_aload_n G 1 rfl d10_takesHead_256 ?_
    refine j_ldcw G 656843 ct10_266 (by decide) d10_takesHead_257 ?_
    refine j_iconst G d10_takesHead_260 ?_
    refine j_VM G (rm' := { frames := 2, cells := 0, slots := 0, locals := 41 }) (wc := [(mo, mO ad S), (ad 5, aInt E 100 tx)]) (wr := [(ad 7, aInt E 48 (upI wd c 5))]) (k10_takesWord (xl Γ) E mo ad S tx 656843 4 5 (by first | assumption | omega | (simp only [upS, reduceIte, Nat.reduceEqDiff, eq_self, List.length_cons, List.length_nil, List.length_append] <;> omega)) (by first | assumption | omega | (simp only [upS, reduceIte, Nat.reduceEqDiff, eq_self, List.length_cons, List.length_nil, List.length_append] <;> omega)) (by first | assumption | omega | (simp only [upS, reduceIte, Nat.reduceEqDiff, eq_self, List.length_cons, List.length_nil, List.length_append] <;> omega)) (by decide) ⟨by decide, by decide⟩ rfl (by intro i h1 h2; rcases (show i = 0 ∨ i = 1 ∨ i = 2 ∨ i = 3 by omega) with h | h | h | h <;> subst h <;> decide +kernel)) mw10_takesWord ml10_255 [0, 1] [2] rfl rfl ⟨rfl, rfl⟩ (by decide) 0 10 rfl rfl rfl ⟨Nat.le_of_ble_eq_true rfl, Nat.le_of_ble_eq_true rfl⟩ rfl (rest := []) rfl (Nat.le_of_ble_eq_true rfl) d10_takesHead_261 ⟨Nat.le_of_ble_eq_true rfl, Nat.le_of_ble_eq_true rfl⟩ (fun r w1 hr => ?_)
    obtain ⟨v28, at1_29, rfl, rfl, hq27⟩ := hr
    refine j_eq (ws' := [(ad 7, aInt E 48 (upI wd c 5)), (mo, mO ad (upS S 3 at1_29)), (ad 5, aInt E 100 tx)]) rfl rfl rfl ?_
    rcases hq27 with ⟨hq27, rfl⟩ | ⟨hq27, rfl⟩
    ·
      refine j_perm (ws' := [(mo, mO ad (upS S 3 at1_29)), (ad 5, aInt E 100 tx), (ad 7, aInt E 48 (upI wd c 5))]) [1, 2, 0] rfl rfl rfl ?_
      exact j_zret G F d10_takesHead_264 (by decide) ⟨1, at1_29, (upI wd c 5), rfl, rfl, (by first | (rw [hk0]; done) | (exfalso; omega)), (by first | (left; exact ⟨⟨(hd_y hk0 (by omega)).1, (by rw [(hd_y hk0 (by omega)).2]; omega), by omega⟩, rfl⟩) | (right; exact ⟨⟨(hd_n hk0 (by omega)).1, (by rw [(hd_n hk0 (by omega)).2]; omega), by omega⟩, rfl⟩) | (exfalso; omega))⟩
    ·
      refine j_perm (ws' := [(mo, mO ad (upS S 3 at1_29)), (ad 5, aInt E 100 tx), (ad 7, aInt E 48 (upI wd c 5))]) [1, 2, 0] rfl rfl rfl ?_
      exact j_zret G F d10_takesHead_264 (by decide) ⟨0, at1_29, (upI wd c 5), rfl, rfl, (by first | (rw [hk0]; done) | (exfalso; omega)), (by first | (left; exact ⟨⟨(hd_y hk0 (by omega)).1, (by rw [(hd_y hk0 (by omega)).2]; omega), by omega⟩, rfl⟩) | (right; exact ⟨⟨(hd_n hk0 (by omega)).1, (by rw [(hd_n hk0 (by omega)).2]; omega), by omega⟩, rfl⟩) | (exfalso; omega))⟩
  ·
    refine j_tabIn (tgt := 249) G d10_takesHead_9 (by omega) 106 h5 ⟨by decide, by decide⟩ rfl (by decide) ?_
    refine j_aload_n G 1 rfl d10_takesHead_249 ?_
    refine j_get G 0 10 7 in10 fl10_32 d10_takesHead_250 rfl rfl (by decide) (v := .ref (ad 7)) rfl rfl ?_
    refine j_iload_n G 2 rfl d10_takesHead_253 ?_
    refine j_iconst G d10_takesHead_254 ?_
    refine j_iast G 2 rfl (by omega) d10_takesHead_255 ?_
    have hk0 : hdK tx (S 2) (S 3) = 5 := by unfold hdK; (repeat' split) <;> omega
    refine j_aload_n G 1 rfl d10_takesHead_256 ?_
    refine j_ldcw G 656843 ct10_266 (by decide) d10_takesHead_257 ?_
    refine j_iconst G d10_takesHead_260 ?_
    refine j_VM G (rm' := { frames := 2, cells := 0, slots := 0, locals := 41 }) (wc := [(mo, mO ad S), (ad 5, aInt E 100 tx)]) (wr := [(ad 7, aInt E 48 (upI wd c 5))]) (k10_takesWord (xl Γ) E mo ad S tx 656843 4 5 (by first | assumption | omega | (simp only [upS, reduceIte, Nat.reduceEqDiff, eq_self, List.length_cons, List.length_nil, List.length_append] <;> omega)) (by first | assumption | omega | (simp only [upS, reduceIte, Nat.reduceEqDiff, eq_self, List.length_cons, List.length_nil, List.length_append] <;> omega)) (by first | assumption | omega | (simp only [upS, reduceIte, Nat.reduceEqDiff, eq_self, List.length_cons, List.length_nil, List.length_append] <;> omega)) (by decide) ⟨by decide, by decide⟩ rfl (by intro i h1 h2; rcases (show i = 0 ∨ i = 1 ∨ i = 2 ∨ i = 3 by omega) with h | h | h | h <;> subst h <;> decide +kernel)) mw10_takesWord ml10_255 [0, 1] [2] rfl rfl ⟨rfl, rfl⟩ (by decide) 0 10 rfl rfl rfl ⟨Nat.le_of_ble_eq_true rfl, Nat.le_of_ble_eq_true rfl⟩ rfl (rest := []) rfl (Nat.le_of_ble_eq_true rfl) d10_takesHead_261 ⟨Nat.le_of_ble_eq_true rfl, Nat.le_of_ble_eq_true rfl⟩ (fun r w1 hr => ?_)
    obtain ⟨v31, at1_32, rfl, rfl, hq30⟩ := hr
    refine j_eq (ws' := [(ad 7, aInt E 48 (upI wd c 5)), (mo, mO ad (upS S 3 at1_32)), (ad 5, aInt E 100 tx)]) rfl rfl rfl ?_
    rcases hq30 with ⟨hq30, rfl⟩ | ⟨hq30, rfl⟩
    ·
      refine j_perm (ws' := [(mo, mO ad (upS S 3 at1_32)), (ad 5, aInt E 100 tx), (ad 7, aInt E 48 (upI wd c 5))]) [1, 2, 0] rfl rfl rfl ?_
      exact j_zret G F d10_takesHead_264 (by decide) ⟨1, at1_32, (upI wd c 5), rfl, rfl, (by first | (rw [hk0]; done) | (exfalso; omega)), (by first | (left; exact ⟨⟨(hd_y hk0 (by omega)).1, (by rw [(hd_y hk0 (by omega)).2]; omega), by omega⟩, rfl⟩) | (right; exact ⟨⟨(hd_n hk0 (by omega)).1, (by rw [(hd_n hk0 (by omega)).2]; omega), by omega⟩, rfl⟩) | (exfalso; omega))⟩
    ·
      refine j_perm (ws' := [(mo, mO ad (upS S 3 at1_32)), (ad 5, aInt E 100 tx), (ad 7, aInt E 48 (upI wd c 5))]) [1, 2, 0] rfl rfl rfl ?_
      exact j_zret G F d10_takesHead_264 (by decide) ⟨0, at1_32, (upI wd c 5), rfl, rfl, (by first | (rw [hk0]; done) | (exfalso; omega)), (by first | (left; exact ⟨⟨(hd_y hk0 (by omega)).1, (by rw [(hd_y hk0 (by omega)).2]; omega), by omega⟩, rfl⟩) | (right; exact ⟨⟨(hd_n hk0 (by omega)).1, (by rw [(hd_n hk0 (by omega)).2]; omega), by omega⟩, rfl⟩) | (exfalso; omega))⟩
  ·
    refine j_tabIn (tgt := 249) G d10_takesHead_9 (by omega) 107 h5 ⟨by decide, by decide⟩ rfl (by decide) ?_
    refine j_aload_n G 1 rfl d10_takesHead_249 ?_
    refine j_get G 0 10 7 in10 fl10_32 d10_takesHead_250 rfl rfl (by decide) (v := .ref (ad 7)) rfl rfl ?_
    refine j_iload_n G 2 rfl d10_takesHead_253 ?_
    refine j_iconst G d10_takesHead_254 ?_
    refine j_iast G 2 rfl (by omega) d10_takesHead_255 ?_
    have hk0 : hdK tx (S 2) (S 3) = 5 := by unfold hdK; (repeat' split) <;> omega
    refine j_aload_n G 1 rfl d10_takesHead_256 ?_
    refine j_ldcw G 656843 ct10_266 (by decide) d10_takesHead_257 ?_
    refine j_iconst G d10_takesHead_260 ?_
    refine j_VM G (rm' := { frames := 2, cells := 0, slots := 0, locals := 41 }) (wc := [(mo, mO ad S), (ad 5, aInt E 100 tx)]) (wr := [(ad 7, aInt E 48 (upI wd c 5))]) (k10_takesWord (xl Γ) E mo ad S tx 656843 4 5 (by first | assumption | omega | (simp only [upS, reduceIte, Nat.reduceEqDiff, eq_self, List.length_cons, List.length_nil, List.length_append] <;> omega)) (by first | assumption | omega | (simp only [upS, reduceIte, Nat.reduceEqDiff, eq_self, List.length_cons, List.length_nil, List.length_append] <;> omega)) (by first | assumption | omega | (simp only [upS, reduceIte, Nat.reduceEqDiff, eq_self, List.length_cons, List.length_nil, List.length_append] <;> omega)) (by decide) ⟨by decide, by decide⟩ rfl (by intro i h1 h2; rcases (show i = 0 ∨ i = 1 ∨ i = 2 ∨ i = 3 by omega) with h | h | h | h <;> subst h <;> decide +kernel)) mw10_takesWord ml10_255 [0, 1] [2] rfl rfl ⟨rfl, rfl⟩ (by decide) 0 10 rfl rfl rfl ⟨Nat.le_of_ble_eq_true rfl, Nat.le_of_ble_eq_true rfl⟩ rfl (rest := []) rfl (Nat.le_of_ble_eq_true rfl) d10_takesHead_261 ⟨Nat.le_of_ble_eq_true rfl, Nat.le_of_ble_eq_true rfl⟩ (fun r w1 hr => ?_)
    obtain ⟨v34, at1_35, rfl, rfl, hq33⟩ := hr
    refine j_eq (ws' := [(ad 7, aInt E 48 (upI wd c 5)), (mo, mO ad (upS S 3 at1_35)), (ad 5, aInt E 100 tx)]) rfl rfl rfl ?_
    rcases hq33 with ⟨hq33, rfl⟩ | ⟨hq33, rfl⟩
    ·
      refine j_perm (ws' := [(mo, mO ad (upS S 3 at1_35)), (ad 5, aInt E 100 tx), (ad 7, aInt E 48 (upI wd c 5))]) [1, 2, 0] rfl rfl rfl ?_
      exact j_zret G F d10_takesHead_264 (by decide) ⟨1, at1_35, (upI wd c 5), rfl, rfl, (by first | (rw [hk0]; done) | (exfalso; omega)), (by first | (left; exact ⟨⟨(hd_y hk0 (by omega)).1, (by rw [(hd_y hk0 (by omega)).2]; omega), by omega⟩, rfl⟩) | (right; exact ⟨⟨(hd_n hk0 (by omega)).1, (by rw [(hd_n hk0 (by omega)).2]; omega), by omega⟩, rfl⟩) | (exfalso; omega))⟩
    ·
      refine j_perm (ws' := [(mo, mO ad (upS S 3 at1_35)), (ad 5, aInt E 100 tx), (ad 7, aInt E 48 (upI wd c 5))]) [1, 2, 0] rfl rfl rfl ?_
      exact j_zret G F d10_takesHead_264 (by decide) ⟨0, at1_35, (upI wd c 5), rfl, rfl, (by first | (rw [hk0]; done) | (exfalso; omega)), (by first | (left; exact ⟨⟨(hd_y hk0 (by omega)).1, (by rw [(hd_y hk0 (by omega)).2]; omega), by omega⟩, rfl⟩) | (right; exact ⟨⟨(hd_n hk0 (by omega)).1, (by rw [(hd_n hk0 (by omega)).2]; omega), by omega⟩, rfl⟩) | (exfalso; omega))⟩
  ·
    refine j_tabIn (tgt := 249) G d10_takesHead_9 (by omega) 108 h5 ⟨by decide, by decide⟩ rfl (by decide) ?_
    refine j_aload_n G 1 rfl d10_takesHead_249 ?_
    refine j_get G 0 10 7 in10 fl10_32 d10_takesHead_250 rfl rfl (by decide) (v := .ref (ad 7)) rfl rfl ?_
    refine j_iload_n G 2 rfl d10_takesHead_253 ?_
    refine j_iconst G d10_takesHead_254 ?_
    refine j_iast G 2 rfl (by omega) d10_takesHead_255 ?_
    have hk0 : hdK tx (S 2) (S 3) = 5 := by unfold hdK; (repeat' split) <;> omega
    refine j_aload_n G 1 rfl d10_takesHead_256 ?_
    refine j_ldcw G 656843 ct10_266 (by decide) d10_takesHead_257 ?_
    refine j_iconst G d10_takesHead_260 ?_
    refine j_VM G (rm' := { frames := 2, cells := 0, slots := 0, locals := 41 }) (wc := [(mo, mO ad S), (ad 5, aInt E 100 tx)]) (wr := [(ad 7, aInt E 48 (upI wd c 5))]) (k10_takesWord (xl Γ) E mo ad S tx 656843 4 5 (by first | assumption | omega | (simp only [upS, reduceIte, Nat.reduceEqDiff, eq_self, List.length_cons, List.length_nil, List.length_append] <;> omega)) (by first | assumption | omega | (simp only [upS, reduceIte, Nat.reduceEqDiff, eq_self, List.length_cons, List.length_nil, List.length_append] <;> omega)) (by first | assumption | omega | (simp only [upS, reduceIte, Nat.reduceEqDiff, eq_self, List.length_cons, List.length_nil, List.length_append] <;> omega)) (by decide) ⟨by decide, by decide⟩ rfl (by intro i h1 h2; rcases (show i = 0 ∨ i = 1 ∨ i = 2 ∨ i = 3 by omega) with h | h | h | h <;> subst h <;> decide +kernel)) mw10_takesWord ml10_255 [0, 1] [2] rfl rfl ⟨rfl, rfl⟩ (by decide) 0 10 rfl rfl rfl ⟨Nat.le_of_ble_eq_true rfl, Nat.le_of_ble_eq_true rfl⟩ rfl (rest := []) rfl (Nat.le_of_ble_eq_true rfl) d10_takesHead_261 ⟨Nat.le_of_ble_eq_true rfl, Nat.le_of_ble_eq_true rfl⟩ (fun r w1 hr => ?_)
    obtain ⟨v37, at1_38, rfl, rfl, hq36⟩ := hr
    refine j_eq (ws' := [(ad 7, aInt E 48 (upI wd c 5)), (mo, mO ad (upS S 3 at1_38)), (ad 5, aInt E 100 tx)]) rfl rfl rfl ?_
    rcases hq36 with ⟨hq36, rfl⟩ | ⟨hq36, rfl⟩
    ·
      refine j_perm (ws' := [(mo, mO ad (upS S 3 at1_38)), (ad 5, aInt E 100 tx), (ad 7, aInt E 48 (upI wd c 5))]) [1, 2, 0] rfl rfl rfl ?_
      exact j_zret G F d10_takesHead_264 (by decide) ⟨1, at1_38, (upI wd c 5), rfl, rfl, (by first | (rw [hk0]; done) | (exfalso; omega)), (by first | (left; exact ⟨⟨(hd_y hk0 (by omega)).1, (by rw [(hd_y hk0 (by omega)).2]; omega), by omega⟩, rfl⟩) | (right; exact ⟨⟨(hd_n hk0 (by omega)).1, (by rw [(hd_n hk0 (by omega)).2]; omega), by omega⟩, rfl⟩) | (exfalso; omega))⟩
    ·
      refine j_perm (ws' := [(mo, mO ad (upS S 3 at1_38)), (ad 5, aInt E 100 tx), (ad 7, aInt E 48 (upI wd c 5))]) [1, 2, 0] rfl rfl rfl ?_
      exact j_zret G F d10_takesHead_264 (by decide) ⟨0, at1_38, (upI wd c 5), rfl, rfl, (by first | (rw [hk0]; done) | (exfalso; omega)), (by first | (left; exact ⟨⟨(hd_y hk0 (by omega)).1, (by rw [(hd_y hk0 (by omega)).2]; omega), by omega⟩, rfl⟩) | (right; exact ⟨⟨(hd_n hk0 (by omega)).1, (by rw [(hd_n hk0 (by omega)).2]; omega), by omega⟩, rfl⟩) | (exfalso; omega))⟩
  ·
    refine j_tabIn (tgt := 249) G d10_takesHead_9 (by omega) 109 h5 ⟨by decide, by decide⟩ rfl (by decide) ?_
    refine j_aload_n G 1 rfl d10_takesHead_249 ?_
    refine j_get G 0 10 7 in10 fl10_32 d10_takesHead_250 rfl rfl (by decide) (v := .ref (ad 7)) rfl rfl ?_
    refine j_iload_n G 2 rfl d10_takesHead_253 ?_
    refine j_iconst G d10_takesHead_254 ?_
    refine j_iast G 2 rfl (by omega) d10_takesHead_255 ?_
    have hk0 : hdK tx (S 2) (S 3) = 5 := by unfold hdK; (repeat' split) <;> omega
    refine j_aload_n G 1 rfl d10_takesHead_256 ?_
    refine j_ldcw G 656843 ct10_266 (by decide) d10_takesHead_257 ?_
    refine j_iconst G d10_takesHead_260 ?_
    refine j_VM G (rm' := { frames := 2, cells := 0, slots := 0, locals := 41 }) (wc := [(mo, mO ad S), (ad 5, aInt E 100 tx)]) (wr := [(ad 7, aInt E 48 (upI wd c 5))]) (k10_takesWord (xl Γ) E mo ad S tx 656843 4 5 (by first | assumption | omega | (simp only [upS, reduceIte, Nat.reduceEqDiff, eq_self, List.length_cons, List.length_nil, List.length_append] <;> omega)) (by first | assumption | omega | (simp only [upS, reduceIte, Nat.reduceEqDiff, eq_self, List.length_cons, List.length_nil, List.length_append] <;> omega)) (by first | assumption | omega | (simp only [upS, reduceIte, Nat.reduceEqDiff, eq_self, List.length_cons, List.length_nil, List.length_append] <;> omega)) (by decide) ⟨by decide, by decide⟩ rfl (by intro i h1 h2; rcases (show i = 0 ∨ i = 1 ∨ i = 2 ∨ i = 3 by omega) with h | h | h | h <;> subst h <;> decide +kernel)) mw10_takesWord ml10_255 [0, 1] [2] rfl rfl ⟨rfl, rfl⟩ (by decide) 0 10 rfl rfl rfl ⟨Nat.le_of_ble_eq_true rfl, Nat.le_of_ble_eq_true rfl⟩ rfl (rest := []) rfl (Nat.le_of_ble_eq_true rfl) d10_takesHead_261 ⟨Nat.le_of_ble_eq_true rfl, Nat.le_of_ble_eq_true rfl⟩ (fun r w1 hr => ?_)
    obtain ⟨v40, at1_41, rfl, rfl, hq39⟩ := hr
    refine j_eq (ws' := [(ad 7, aInt E 48 (upI wd c 5)), (mo, mO ad (upS S 3 at1_41)), (ad 5, aInt E 100 tx)]) rfl rfl rfl ?_
    rcases hq39 with ⟨hq39, rfl⟩ | ⟨hq39, rfl⟩
    ·
      refine j_perm (ws' := [(mo, mO ad (upS S 3 at1_41)), (ad 5, aInt E 100 tx), (ad 7, aInt E 48 (upI wd c 5))]) [1, 2, 0] rfl rfl rfl ?_
      exact j_zret G F d10_takesHead_264 (by decide) ⟨1, at1_41, (upI wd c 5), rfl, rfl, (by first | (rw [hk0]; done) | (exfalso; omega)), (by first | (left; exact ⟨⟨(hd_y hk0 (by omega)).1, (by rw [(hd_y hk0 (by omega)).2]; omega), by omega⟩, rfl⟩) | (right; exact ⟨⟨(hd_n hk0 (by omega)).1, (by rw [(hd_n hk0 (by omega)).2]; omega), by omega⟩, rfl⟩) | (exfalso; omega))⟩
    ·
      refine j_perm (ws' := [(mo, mO ad (upS S 3 at1_41)), (ad 5, aInt E 100 tx), (ad 7, aInt E 48 (upI wd c 5))]) [1, 2, 0] rfl rfl rfl ?_
      exact j_zret G F d10_takesHead_264 (by decide) ⟨0, at1_41, (upI wd c 5), rfl, rfl, (by first | (rw [hk0]; done) | (exfalso; omega)), (by first | (left; exact ⟨⟨(hd_y hk0 (by omega)).1, (by rw [(hd_y hk0 (by omega)).2]; omega), by omega⟩, rfl⟩) | (right; exact ⟨⟨(hd_n hk0 (by omega)).1, (by rw [(hd_n hk0 (by omega)).2]; omega), by omega⟩, rfl⟩) | (exfalso; omega))⟩
  ·
    refine j_tabIn (tgt := 249) G d10_takesHead_9 (by omega) 110 h5 ⟨by decide, by decide⟩ rfl (by decide) ?_
    refine j_aload_n G 1 rfl d10_takesHead_249 ?_
    refine j_get G 0 10 7 in10 fl10_32 d10_takesHead_250 rfl rfl (by decide) (v := .ref (ad 7)) rfl rfl ?_
    refine j_iload_n G 2 rfl d10_takesHead_253 ?_
    refine j_iconst G d10_takesHead_254 ?_
    refine j_iast G 2 rfl (by omega) d10_takesHead_255 ?_
    have hk0 : hdK tx (S 2) (S 3) = 5 := by unfold hdK; (repeat' split) <;> omega
    refine j_aload_n G 1 rfl d10_takesHead_256 ?_
    refine j_ldcw G 656843 ct10_266 (by decide) d10_takesHead_257 ?_
    refine j_iconst G d10_takesHead_260 ?_
    refine j_VM G (rm' := { frames := 2, cells := 0, slots := 0, locals := 41 }) (wc := [(mo, mO ad S), (ad 5, aInt E 100 tx)]) (wr := [(ad 7, aInt E 48 (upI wd c 5))]) (k10_takesWord (xl Γ) E mo ad S tx 656843 4 5 (by first | assumption | omega | (simp only [upS, reduceIte, Nat.reduceEqDiff, eq_self, List.length_cons, List.length_nil, List.length_append] <;> omega)) (by first | assumption | omega | (simp only [upS, reduceIte, Nat.reduceEqDiff, eq_self, List.length_cons, List.length_nil, List.length_append] <;> omega)) (by first | assumption | omega | (simp only [upS, reduceIte, Nat.reduceEqDiff, eq_self, List.length_cons, List.length_nil, List.length_append] <;> omega)) (by decide) ⟨by decide, by decide⟩ rfl (by intro i h1 h2; rcases (show i = 0 ∨ i = 1 ∨ i = 2 ∨ i = 3 by omega) with h | h | h | h <;> subst h <;> decide +kernel)) mw10_takesWord ml10_255 [0, 1] [2] rfl rfl ⟨rfl, rfl⟩ (by decide) 0 10 rfl rfl rfl ⟨Nat.le_of_ble_eq_true rfl, Nat.le_of_ble_eq_true rfl⟩ rfl (rest := []) rfl (Nat.le_of_ble_eq_true rfl) d10_takesHead_261 ⟨Nat.le_of_ble_eq_true rfl, Nat.le_of_ble_eq_true rfl⟩ (fun r w1 hr => ?_)
    obtain ⟨v43, at1_44, rfl, rfl, hq42⟩ := hr
    refine j_eq (ws' := [(ad 7, aInt E 48 (upI wd c 5)), (mo, mO ad (upS S 3 at1_44)), (ad 5, aInt E 100 tx)]) rfl rfl rfl ?_
    rcases hq42 with ⟨hq42, rfl⟩ | ⟨hq42, rfl⟩
    ·
      refine j_perm (ws' := [(mo, mO ad (upS S 3 at1_44)), (ad 5, aInt E 100 tx), (ad 7, aInt E 48 (upI wd c 5))]) [1, 2, 0] rfl rfl rfl ?_
      exact j_zret G F d10_takesHead_264 (by decide) ⟨1, at1_44, (upI wd c 5), rfl, rfl, (by first | (rw [hk0]; done) | (exfalso; omega)), (by first | (left; exact ⟨⟨(hd_y hk0 (by omega)).1, (by rw [(hd_y hk0 (by omega)).2]; omega), by omega⟩, rfl⟩) | (right; exact ⟨⟨(hd_n hk0 (by omega)).1, (by rw [(hd_n hk0 (by omega)).2]; omega), by omega⟩, rfl⟩) | (exfalso; omega))⟩
    ·
      refine j_perm (ws' := [(mo, mO ad (upS S 3 at1_44)), (ad 5, aInt E 100 tx), (ad 7, aInt E 48 (upI wd c 5))]) [1, 2, 0] rfl rfl rfl ?_
      exact j_zret G F d10_takesHead_264 (by decide) ⟨0, at1_44, (upI wd c 5), rfl, rfl, (by first | (rw [hk0]; done) | (exfalso; omega)), (by first | (left; exact ⟨⟨(hd_y hk0 (by omega)).1, (by rw [(hd_y hk0 (by omega)).2]; omega), by omega⟩, rfl⟩) | (right; exact ⟨⟨(hd_n hk0 (by omega)).1, (by rw [(hd_n hk0 (by omega)).2]; omega), by omega⟩, rfl⟩) | (exfalso; omega))⟩
  ·
    refine j_tabIn (tgt := 249) G d10_takesHead_9 (by omega) 111 h5 ⟨by decide, by decide⟩ rfl (by decide) ?_
    refine j_aload_n G 1 rfl d10_takesHead_249 ?_
    refine j_get G 0 10 7 in10 fl10_32 d10_takesHead_250 rfl rfl (by decide) (v := .ref (ad 7)) rfl rfl ?_
    refine j_iload_n G 2 rfl d10_takesHead_253 ?_
    refine j_iconst G d10_takesHead_254 ?_
    refine j_iast G 2 rfl (by omega) d10_takesHead_255 ?_
    have hk0 : hdK tx (S 2) (S 3) = 5 := by unfold hdK; (repeat' split) <;> omega
    refine j_aload_n G 1 rfl d10_takesHead_256 ?_
    refine j_ldcw G 656843 ct10_266 (by decide) d10_takesHead_257 ?_
    refine j_iconst G d10_takesHead_260 ?_
    refine j_VM G (rm' := { frames := 2, cells := 0, slots := 0, locals := 41 }) (wc := [(mo, mO ad S), (ad 5, aInt E 100 tx)]) (wr := [(ad 7, aInt E 48 (upI wd c 5))]) (k10_takesWord (xl Γ) E mo ad S tx 656843 4 5 (by first | assumption | omega | (simp only [upS, reduceIte, Nat.reduceEqDiff, eq_self, List.length_cons, List.length_nil, List.length_append] <;> omega)) (by first | assumption | omega | (simp only [upS, reduceIte, Nat.reduceEqDiff, eq_self, List.length_cons, List.length_nil, List.length_append] <;> omega)) (by first | assumption | omega | (simp only [upS, reduceIte, Nat.reduceEqDiff, eq_self, List.length_cons, List.length_nil, List.length_append] <;> omega)) (by decide) ⟨by decide, by decide⟩ rfl (by intro i h1 h2; rcases (show i = 0 ∨ i = 1 ∨ i = 2 ∨ i = 3 by omega) with h | h | h | h <;> subst h <;> decide +kernel)) mw10_takesWord ml10_255 [0, 1] [2] rfl rfl ⟨rfl, rfl⟩ (by decide) 0 10 rfl rfl rfl ⟨Nat.le_of_ble_eq_true rfl, Nat.le_of_ble_eq_true rfl⟩ rfl (rest := []) rfl (Nat.le_of_ble_eq_true rfl) d10_takesHead_261 ⟨Nat.le_of_ble_eq_true rfl, Nat.le_of_ble_eq_true rfl⟩ (fun r w1 hr => ?_)
    obtain ⟨v46, at1_47, rfl, rfl, hq45⟩ := hr
    refine j_eq (ws' := [(ad 7, aInt E 48 (upI wd c 5)), (mo, mO ad (upS S 3 at1_47)), (ad 5, aInt E 100 tx)]) rfl rfl rfl ?_
    rcases hq45 with ⟨hq45, rfl⟩ | ⟨hq45, rfl⟩
    ·
      refine j_perm (ws' := [(mo, mO ad (upS S 3 at1_47)), (ad 5, aInt E 100 tx), (ad 7, aInt E 48 (upI wd c 5))]) [1, 2, 0] rfl rfl rfl ?_
      exact j_zret G F d10_takesHead_264 (by decide) ⟨1, at1_47, (upI wd c 5), rfl, rfl, (by first | (rw [hk0]; done) | (exfalso; omega)), (by first | (left; exact ⟨⟨(hd_y hk0 (by omega)).1, (by rw [(hd_y hk0 (by omega)).2]; omega), by omega⟩, rfl⟩) | (right; exact ⟨⟨(hd_n hk0 (by omega)).1, (by rw [(hd_n hk0 (by omega)).2]; omega), by omega⟩, rfl⟩) | (exfalso; omega))⟩
    ·
      refine j_perm (ws' := [(mo, mO ad (upS S 3 at1_47)), (ad 5, aInt E 100 tx), (ad 7, aInt E 48 (upI wd c 5))]) [1, 2, 0] rfl rfl rfl ?_
      exact j_zret G F d10_takesHead_264 (by decide) ⟨0, at1_47, (upI wd c 5), rfl, rfl, (by first | (rw [hk0]; done) | (exfalso; omega)), (by first | (left; exact ⟨⟨(hd_y hk0 (by omega)).1, (by rw [(hd_y hk0 (by omega)).2]; omega), by omega⟩, rfl⟩) | (right; exact ⟨⟨(hd_n hk0 (by omega)).1, (by rw [(hd_n hk0 (by omega)).2]; omega), by omega⟩, rfl⟩) | (exfalso; omega))⟩
  ·
    refine j_tabIn (tgt := 96) G d10_takesHead_9 (by omega) 112 h5 ⟨by decide, by decide⟩ rfl (by decide) ?_
    refine j_aload_n G 1 rfl d10_takesHead_96 ?_
    refine j_get G 0 10 7 in10 fl10_32 d10_takesHead_97 rfl rfl (by decide) (v := .ref (ad 7)) rfl rfl ?_
    refine j_iload_n G 2 rfl d10_takesHead_100 ?_
    refine j_iload_n G 0 rfl d10_takesHead_101 ?_
    refine j_bipush G d10_takesHead_102 rfl ?_
    refine j_icmp_ne (tgt := 112) G d10_takesHead_104 (by decide) (by omega) (by decide) (fun h48 => ?_) (fun h48 => ?_)
    ·
      refine j_iconst G d10_takesHead_112 ?_
      refine j_iast G 2 rfl (by omega) d10_takesHead_113 ?_
      refine j_iload_n G 0 rfl d10_takesHead_114 ?_
      refine j_bipush G d10_takesHead_115 rfl ?_
      refine j_icmp_ne (tgt := 130) G d10_takesHead_117 (by decide) (by omega) (by decide) (fun h49 => ?_) (fun h49 => ?_)
      ·
        have hk0 : hdK tx (S 2) (S 3) = 0 := by unfold hdK; (repeat' split) <;> omega
        refine j_aload_n G 1 rfl d10_takesHead_130 ?_
        refine j_ldcw G 525908 ct10_259 (by decide) d10_takesHead_131 ?_
        refine j_iconst G d10_takesHead_134 ?_
        refine j_VM G (rm' := { frames := 2, cells := 0, slots := 0, locals := 41 }) (wc := [(mo, mO ad S), (ad 5, aInt E 100 tx)]) (wr := [(ad 7, aInt E 48 (upI wd c 0))]) (k10_takesWord (xl Γ) E mo ad S tx 525908 4 0 (by first | assumption | omega | (simp only [upS, reduceIte, Nat.reduceEqDiff, eq_self, List.length_cons, List.length_nil, List.length_append] <;> omega)) (by first | assumption | omega | (simp only [upS, reduceIte, Nat.reduceEqDiff, eq_self, List.length_cons, List.length_nil, List.length_append] <;> omega)) (by first | assumption | omega | (simp only [upS, reduceIte, Nat.reduceEqDiff, eq_self, List.length_cons, List.length_nil, List.length_append] <;> omega)) (by decide) ⟨by decide, by decide⟩ rfl (by intro i h1 h2; rcases (show i = 0 ∨ i = 1 ∨ i = 2 ∨ i = 3 by omega) with h | h | h | h <;> subst h <;> decide +kernel)) mw10_takesWord ml10_255 [0, 1] [2] rfl rfl ⟨rfl, rfl⟩ (by decide) 0 10 rfl rfl rfl ⟨Nat.le_of_ble_eq_true rfl, Nat.le_of_ble_eq_true rfl⟩ rfl (rest := []) rfl (Nat.le_of_ble_eq_true rfl) d10_takesHead_135 ⟨Nat.le_of_ble_eq_true rfl, Nat.le_of_ble_eq_true rfl⟩ (fun r w1 hr => ?_)
        obtain ⟨v51, at1_52, rfl, rfl, hq50⟩ := hr
        refine j_eq (ws' := [(ad 7, aInt E 48 (upI wd c 0)), (mo, mO ad (upS S 3 at1_52)), (ad 5, aInt E 100 tx)]) rfl rfl rfl ?_
        rcases hq50 with ⟨hq50, rfl⟩ | ⟨hq50, rfl⟩
        ·
          refine j_perm (ws' := [(mo, mO ad (upS S 3 at1_52)), (ad 5, aInt E 100 tx), (ad 7, aInt E 48 (upI wd c 0))]) [1, 2, 0] rfl rfl rfl ?_
          exact j_zret G F d10_takesHead_138 (by decide) ⟨1, at1_52, (upI wd c 0), rfl, rfl, (by first | (rw [hk0]; done) | (exfalso; omega)), (by first | (left; exact ⟨⟨(hd_y hk0 (by omega)).1, (by rw [(hd_y hk0 (by omega)).2]; omega), by omega⟩, rfl⟩) | (right; exact ⟨⟨(hd_n hk0 (by omega)).1, (by rw [(hd_n hk0 (by omega)).2]; omega), by omega⟩, rfl⟩) | (exfalso; omega))⟩
        ·
          refine j_perm (ws' := [(mo, mO ad (upS S 3 at1_52)), (ad 5, aInt E 100 tx), (ad 7, aInt E 48 (upI wd c 0))]) [1, 2, 0] rfl rfl rfl ?_
          exact j_zret G F d10_takesHead_138 (by decide) ⟨0, at1_52, (upI wd c 0), rfl, rfl, (by first | (rw [hk0]; done) | (exfalso; omega)), (by first | (left; exact ⟨⟨(hd_y hk0 (by omega)).1, (by rw [(hd_y hk0 (by omega)).2]; omega), by omega⟩, rfl⟩) | (right; exact ⟨⟨(hd_n hk0 (by omega)).1, (by rw [(hd_n hk0 (by omega)).2]; omega), by omega⟩, rfl⟩) | (exfalso; omega))⟩
      ·
        have hk0 : hdK tx (S 2) (S 3) = 8 := by unfold hdK; (repeat' split) <;> omega
        refine j_aload_n G 1 rfl d10_takesHead_120 ?_
        refine j_ldc G 540100 ct10_254 (by decide) d10_takesHead_121 ?_
        refine j_iconst G d10_takesHead_123 ?_
        refine j_VM G (rm' := { frames := 2, cells := 0, slots := 0, locals := 41 }) (wc := [(mo, mO ad S), (ad 5, aInt E 100 tx)]) (wr := [(ad 7, aInt E 48 (upI wd c 0))]) (k10_takesWord (xl Γ) E mo ad S tx 540100 4 8 (by first | assumption | omega | (simp only [upS, reduceIte, Nat.reduceEqDiff, eq_self, List.length_cons, List.length_nil, List.length_append] <;> omega)) (by first | assumption | omega | (simp only [upS, reduceIte, Nat.reduceEqDiff, eq_self, List.length_cons, List.length_nil, List.length_append] <;> omega)) (by first | assumption | omega | (simp only [upS, reduceIte, Nat.reduceEqDiff, eq_self, List.length_cons, List.length_nil, List.length_append] <;> omega)) (by decide) ⟨by decide, by decide⟩ rfl (by intro i h1 h2; rcases (show i = 0 ∨ i = 1 ∨ i = 2 ∨ i = 3 by omega) with h | h | h | h <;> subst h <;> decide +kernel)) mw10_takesWord ml10_255 [0, 1] [2] rfl rfl ⟨rfl, rfl⟩ (by decide) 0 10 rfl rfl rfl ⟨Nat.le_of_ble_eq_true rfl, Nat.le_of_ble_eq_true rfl⟩ rfl (rest := []) rfl (Nat.le_of_ble_eq_true rfl) d10_takesHead_124 ⟨Nat.le_of_ble_eq_true rfl, Nat.le_of_ble_eq_true rfl⟩ (fun r w1 hr => ?_)
        obtain ⟨v54, at1_55, rfl, rfl, hq53⟩ := hr
        refine j_eq (ws' := [(ad 7, aInt E 48 (upI wd c 0)), (mo, mO ad (upS S 3 at1_55)), (ad 5, aInt E 100 tx)]) rfl rfl rfl ?_
        rcases hq53 with ⟨hq53, rfl⟩ | ⟨hq53, rfl⟩
        ·
          refine j_goto (tgt := 138) G d10_takesHead_127 (by decide) ?_
          refine j_perm (ws' := [(mo, mO ad (upS S 3 at1_55)), (ad 5, aInt E 100 tx), (ad 7, aInt E 48 (upI wd c 0))]) [1, 2, 0] rfl rfl rfl ?_
          exact j_zret G F d10_takesHead_138 (by decide) ⟨1, at1_55, (upI wd c 0), rfl, rfl, (by first | (rw [hk0]; done) | (exfalso; omega)), (by first | (left; exact ⟨⟨(hd_y hk0 (by omega)).1, (by rw [(hd_y hk0 (by omega)).2]; omega), by omega⟩, rfl⟩) | (right; exact ⟨⟨(hd_n hk0 (by omega)).1, (by rw [(hd_n hk0 (by omega)).2]; omega), by omega⟩, rfl⟩) | (exfalso; omega))⟩
        ·
          refine j_goto (tgt := 138) G d10_takesHead_127 (by decide) ?_
          refine j_perm (ws' := [(mo, mO ad (upS S 3 at1_55)), (ad 5, aInt E 100 tx), (ad 7, aInt E 48 (upI wd c 0))]) [1, 2, 0] rfl rfl rfl ?_
          exact j_zret G F d10_takesHead_138 (by decide) ⟨0, at1_55, (upI wd c 0), rfl, rfl, (by first | (rw [hk0]; done) | (exfalso; omega)), (by first | (left; exact ⟨⟨(hd_y hk0 (by omega)).1, (by rw [(hd_y hk0 (by omega)).2]; omega), by omega⟩, rfl⟩) | (right; exact ⟨⟨(hd_n hk0 (by omega)).1, (by rw [(hd_n hk0 (by omega)).2]; omega), by omega⟩, rfl⟩) | (exfalso; omega))⟩
    ·
      refine j_bipush G d10_takesHead_107 rfl ?_
      refine j_goto (tgt := 113) G d10_takesHead_109 (by decide) ?_
      refine j_iast G 2 rfl (by omega) d10_takesHead_113 ?_
      refine j_iload_n G 0 rfl d10_takesHead_114 ?_
      refine j_bipush G d10_takesHead_115 rfl ?_
      refine j_icmp_ne (tgt := 130) G d10_takesHead_117 (by decide) (by omega) (by decide) (fun h56 => ?_) (fun h56 => ?_)
      ·
        have hk0 : hdK tx (S 2) (S 3) = 0 := by unfold hdK; (repeat' split) <;> omega
        refine j_aload_n G 1 rfl d10_takesHead_130 ?_
        refine j_ldcw G 525908 ct10_259 (by decide) d10_takesHead_131 ?_
        refine j_iconst G d10_takesHead_134 ?_
        refine j_VM G (rm' := { frames := 2, cells := 0, slots := 0, locals := 41 }) (wc := [(mo, mO ad S), (ad 5, aInt E 100 tx)]) (wr := [(ad 7, aInt E 48 (upI wd c 8))]) (k10_takesWord (xl Γ) E mo ad S tx 525908 4 0 (by first | assumption | omega | (simp only [upS, reduceIte, Nat.reduceEqDiff, eq_self, List.length_cons, List.length_nil, List.length_append] <;> omega)) (by first | assumption | omega | (simp only [upS, reduceIte, Nat.reduceEqDiff, eq_self, List.length_cons, List.length_nil, List.length_append] <;> omega)) (by first | assumption | omega | (simp only [upS, reduceIte, Nat.reduceEqDiff, eq_self, List.length_cons, List.length_nil, List.length_append] <;> omega)) (by decide) ⟨by decide, by decide⟩ rfl (by intro i h1 h2; rcases (show i = 0 ∨ i = 1 ∨ i = 2 ∨ i = 3 by omega) with h | h | h | h <;> subst h <;> decide +kernel)) mw10_takesWord ml10_255 [0, 1] [2] rfl rfl ⟨rfl, rfl⟩ (by decide) 0 10 rfl rfl rfl ⟨Nat.le_of_ble_eq_true rfl, Nat.le_of_ble_eq_true rfl⟩ rfl (rest := []) rfl (Nat.le_of_ble_eq_true rfl) d10_takesHead_135 ⟨Nat.le_of_ble_eq_true rfl, Nat.le_of_ble_eq_true rfl⟩ (fun r w1 hr => ?_)
        obtain ⟨v58, at1_59, rfl, rfl, hq57⟩ := hr
        refine j_eq (ws' := [(ad 7, aInt E 48 (upI wd c 8)), (mo, mO ad (upS S 3 at1_59)), (ad 5, aInt E 100 tx)]) rfl rfl rfl ?_
        rcases hq57 with ⟨hq57, rfl⟩ | ⟨hq57, rfl⟩
        ·
          refine j_perm (ws' := [(mo, mO ad (upS S 3 at1_59)), (ad 5, aInt E 100 tx), (ad 7, aInt E 48 (upI wd c 8))]) [1, 2, 0] rfl rfl rfl ?_
          exact j_zret G F d10_takesHead_138 (by decide) ⟨1, at1_59, (upI wd c 8), rfl, rfl, (by first | (rw [hk0]; done) | (exfalso; omega)), (by first | (left; exact ⟨⟨(hd_y hk0 (by omega)).1, (by rw [(hd_y hk0 (by omega)).2]; omega), by omega⟩, rfl⟩) | (right; exact ⟨⟨(hd_n hk0 (by omega)).1, (by rw [(hd_n hk0 (by omega)).2]; omega), by omega⟩, rfl⟩) | (exfalso; omega))⟩
        ·
          refine j_perm (ws' := [(mo, mO ad (upS S 3 at1_59)), (ad 5, aInt E 100 tx), (ad 7, aInt E 48 (upI wd c 8))]) [1, 2, 0] rfl rfl rfl ?_
          exact j_zret G F d10_takesHead_138 (by decide) ⟨0, at1_59, (upI wd c 8), rfl, rfl, (by first | (rw [hk0]; done) | (exfalso; omega)), (by first | (left; exact ⟨⟨(hd_y hk0 (by omega)).1, (by rw [(hd_y hk0 (by omega)).2]; omega), by omega⟩, rfl⟩) | (right; exact ⟨⟨(hd_n hk0 (by omega)).1, (by rw [(hd_n hk0 (by omega)).2]; omega), by omega⟩, rfl⟩) | (exfalso; omega))⟩
      ·
        have hk0 : hdK tx (S 2) (S 3) = 8 := by unfold hdK; (repeat' split) <;> omega
        refine j_aload_n G 1 rfl d10_takesHead_120 ?_
        refine j_ldc G 540100 ct10_254 (by decide) d10_takesHead_121 ?_
        refine j_iconst G d10_takesHead_123 ?_
        refine j_VM G (rm' := { frames := 2, cells := 0, slots := 0, locals := 41 }) (wc := [(mo, mO ad S), (ad 5, aInt E 100 tx)]) (wr := [(ad 7, aInt E 48 (upI wd c 8))]) (k10_takesWord (xl Γ) E mo ad S tx 540100 4 8 (by first | assumption | omega | (simp only [upS, reduceIte, Nat.reduceEqDiff, eq_self, List.length_cons, List.length_nil, List.length_append] <;> omega)) (by first | assumption | omega | (simp only [upS, reduceIte, Nat.reduceEqDiff, eq_self, List.length_cons, List.length_nil, List.length_append] <;> omega)) (by first | assumption | omega | (simp only [upS, reduceIte, Nat.reduceEqDiff, eq_self, List.length_cons, List.length_nil, List.length_append] <;> omega)) (by decide) ⟨by decide, by decide⟩ rfl (by intro i h1 h2; rcases (show i = 0 ∨ i = 1 ∨ i = 2 ∨ i = 3 by omega) with h | h | h | h <;> subst h <;> decide +kernel)) mw10_takesWord ml10_255 [0, 1] [2] rfl rfl ⟨rfl, rfl⟩ (by decide) 0 10 rfl rfl rfl ⟨Nat.le_of_ble_eq_true rfl, Nat.le_of_ble_eq_true rfl⟩ rfl (rest := []) rfl (Nat.le_of_ble_eq_true rfl) d10_takesHead_124 ⟨Nat.le_of_ble_eq_true rfl, Nat.le_of_ble_eq_true rfl⟩ (fun r w1 hr => ?_)
        obtain ⟨v61, at1_62, rfl, rfl, hq60⟩ := hr
        refine j_eq (ws' := [(ad 7, aInt E 48 (upI wd c 8)), (mo, mO ad (upS S 3 at1_62)), (ad 5, aInt E 100 tx)]) rfl rfl rfl ?_
        rcases hq60 with ⟨hq60, rfl⟩ | ⟨hq60, rfl⟩
        ·
          refine j_goto (tgt := 138) G d10_takesHead_127 (by decide) ?_
          refine j_perm (ws' := [(mo, mO ad (upS S 3 at1_62)), (ad 5, aInt E 100 tx), (ad 7, aInt E 48 (upI wd c 8))]) [1, 2, 0] rfl rfl rfl ?_
          exact j_zret G F d10_takesHead_138 (by decide) ⟨1, at1_62, (upI wd c 8), rfl, rfl, (by first | (rw [hk0]; done) | (exfalso; omega)), (by first | (left; exact ⟨⟨(hd_y hk0 (by omega)).1, (by rw [(hd_y hk0 (by omega)).2]; omega), by omega⟩, rfl⟩) | (right; exact ⟨⟨(hd_n hk0 (by omega)).1, (by rw [(hd_n hk0 (by omega)).2]; omega), by omega⟩, rfl⟩) | (exfalso; omega))⟩
        ·
          refine j_goto (tgt := 138) G d10_takesHead_127 (by decide) ?_
          refine j_perm (ws' := [(mo, mO ad (upS S 3 at1_62)), (ad 5, aInt E 100 tx), (ad 7, aInt E 48 (upI wd c 8))]) [1, 2, 0] rfl rfl rfl ?_
          exact j_zret G F d10_takesHead_138 (by decide) ⟨0, at1_62, (upI wd c 8), rfl, rfl, (by first | (rw [hk0]; done) | (exfalso; omega)), (by first | (left; exact ⟨⟨(hd_y hk0 (by omega)).1, (by rw [(hd_y hk0 (by omega)).2]; omega), by omega⟩, rfl⟩) | (right; exact ⟨⟨(hd_n hk0 (by omega)).1, (by rw [(hd_n hk0 (by omega)).2]; omega), by omega⟩, rfl⟩) | (exfalso; omega))⟩
  ·
    refine j_tabIn (tgt := 249) G d10_takesHead_9 (by omega) 113 h5 ⟨by decide, by decide⟩ rfl (by decide) ?_
    refine j_aload_n G 1 rfl d10_takesHead_249 ?_
    refine j_get G 0 10 7 in10 fl10_32 d10_takesHead_250 rfl rfl (by decide) (v := .ref (ad 7)) rfl rfl ?_
    refine j_iload_n G 2 rfl d10_takesHead_253 ?_
    refine j_iconst G d10_takesHead_254 ?_
    refine j_iast G 2 rfl (by omega) d10_takesHead_255 ?_
    have hk0 : hdK tx (S 2) (S 3) = 5 := by unfold hdK; (repeat' split) <;> omega
    refine j_aload_n G 1 rfl d10_takesHead_256 ?_
    refine j_ldcw G 656843 ct10_266 (by decide) d10_takesHead_257 ?_
    refine j_iconst G d10_takesHead_260 ?_
    refine j_VM G (rm' := { frames := 2, cells := 0, slots := 0, locals := 41 }) (wc := [(mo, mO ad S), (ad 5, aInt E 100 tx)]) (wr := [(ad 7, aInt E 48 (upI wd c 5))]) (k10_takesWord (xl Γ) E mo ad S tx 656843 4 5 (by first | assumption | omega | (simp only [upS, reduceIte, Nat.reduceEqDiff, eq_self, List.length_cons, List.length_nil, List.length_append] <;> omega)) (by first | assumption | omega | (simp only [upS, reduceIte, Nat.reduceEqDiff, eq_self, List.length_cons, List.length_nil, List.length_append] <;> omega)) (by first | assumption | omega | (simp only [upS, reduceIte, Nat.reduceEqDiff, eq_self, List.length_cons, List.length_nil, List.length_append] <;> omega)) (by decide) ⟨by decide, by decide⟩ rfl (by intro i h1 h2; rcases (show i = 0 ∨ i = 1 ∨ i = 2 ∨ i = 3 by omega) with h | h | h | h <;> subst h <;> decide +kernel)) mw10_takesWord ml10_255 [0, 1] [2] rfl rfl ⟨rfl, rfl⟩ (by decide) 0 10 rfl rfl rfl ⟨Nat.le_of_ble_eq_true rfl, Nat.le_of_ble_eq_true rfl⟩ rfl (rest := []) rfl (Nat.le_of_ble_eq_true rfl) d10_takesHead_261 ⟨Nat.le_of_ble_eq_true rfl, Nat.le_of_ble_eq_true rfl⟩ (fun r w1 hr => ?_)
    obtain ⟨v64, at1_65, rfl, rfl, hq63⟩ := hr
    refine j_eq (ws' := [(ad 7, aInt E 48 (upI wd c 5)), (mo, mO ad (upS S 3 at1_65)), (ad 5, aInt E 100 tx)]) rfl rfl rfl ?_
    rcases hq63 with ⟨hq63, rfl⟩ | ⟨hq63, rfl⟩
    ·
      refine j_perm (ws' := [(mo, mO ad (upS S 3 at1_65)), (ad 5, aInt E 100 tx), (ad 7, aInt E 48 (upI wd c 5))]) [1, 2, 0] rfl rfl rfl ?_
      exact j_zret G F d10_takesHead_264 (by decide) ⟨1, at1_65, (upI wd c 5), rfl, rfl, (by first | (rw [hk0]; done) | (exfalso; omega)), (by first | (left; exact ⟨⟨(hd_y hk0 (by omega)).1, (by rw [(hd_y hk0 (by omega)).2]; omega), by omega⟩, rfl⟩) | (right; exact ⟨⟨(hd_n hk0 (by omega)).1, (by rw [(hd_n hk0 (by omega)).2]; omega), by omega⟩, rfl⟩) | (exfalso; omega))⟩
    ·
      refine j_perm (ws' := [(mo, mO ad (upS S 3 at1_65)), (ad 5, aInt E 100 tx), (ad 7, aInt E 48 (upI wd c 5))]) [1, 2, 0] rfl rfl rfl ?_
      exact j_zret G F d10_takesHead_264 (by decide) ⟨0, at1_65, (upI wd c 5), rfl, rfl, (by first | (rw [hk0]; done) | (exfalso; omega)), (by first | (left; exact ⟨⟨(hd_y hk0 (by omega)).1, (by rw [(hd_y hk0 (by omega)).2]; omega), by omega⟩, rfl⟩) | (right; exact ⟨⟨(hd_n hk0 (by omega)).1, (by rw [(hd_n hk0 (by omega)).2]; omega), by omega⟩, rfl⟩) | (exfalso; omega))⟩
  ·
    refine j_tabIn (tgt := 139) G d10_takesHead_9 (by omega) 114 h5 ⟨by decide, by decide⟩ rfl (by decide) ?_
    refine j_aload_n G 1 rfl d10_takesHead_139 ?_
    refine j_get G 0 10 7 in10 fl10_32 d10_takesHead_140 rfl rfl (by decide) (v := .ref (ad 7)) rfl rfl ?_
    refine j_iload_n G 2 rfl d10_takesHead_143 ?_
    refine j_iconst G d10_takesHead_144 ?_
    refine j_iast G 2 rfl (by omega) d10_takesHead_145 ?_
    have hk0 : hdK tx (S 2) (S 3) = 1 := by unfold hdK; (repeat' split) <;> omega
    refine j_aload_n G 1 rfl d10_takesHead_146 ?_
    refine j_ldcw G 605701 ct10_260 (by decide) d10_takesHead_147 ?_
    refine j_iconst G d10_takesHead_150 ?_
    refine j_VM G (rm' := { frames := 2, cells := 0, slots := 0, locals := 41 }) (wc := [(mo, mO ad S), (ad 5, aInt E 100 tx)]) (wr := [(ad 7, aInt E 48 (upI wd c 1))]) (k10_takesWord (xl Γ) E mo ad S tx 605701 4 1 (by first | assumption | omega | (simp only [upS, reduceIte, Nat.reduceEqDiff, eq_self, List.length_cons, List.length_nil, List.length_append] <;> omega)) (by first | assumption | omega | (simp only [upS, reduceIte, Nat.reduceEqDiff, eq_self, List.length_cons, List.length_nil, List.length_append] <;> omega)) (by first | assumption | omega | (simp only [upS, reduceIte, Nat.reduceEqDiff, eq_self, List.length_cons, List.length_nil, List.length_append] <;> omega)) (by decide) ⟨by decide, by decide⟩ rfl (by intro i h1 h2; rcases (show i = 0 ∨ i = 1 ∨ i = 2 ∨ i = 3 by omega) with h | h | h | h <;> subst h <;> decide +kernel)) mw10_takesWord ml10_255 [0, 1] [2] rfl rfl ⟨rfl, rfl⟩ (by decide) 0 10 rfl rfl rfl ⟨Nat.le_of_ble_eq_true rfl, Nat.le_of_ble_eq_true rfl⟩ rfl (rest := []) rfl (Nat.le_of_ble_eq_true rfl) d10_takesHead_151 ⟨Nat.le_of_ble_eq_true rfl, Nat.le_of_ble_eq_true rfl⟩ (fun r w1 hr => ?_)
    obtain ⟨v67, at1_68, rfl, rfl, hq66⟩ := hr
    refine j_eq (ws' := [(ad 7, aInt E 48 (upI wd c 1)), (mo, mO ad (upS S 3 at1_68)), (ad 5, aInt E 100 tx)]) rfl rfl rfl ?_
    rcases hq66 with ⟨hq66, rfl⟩ | ⟨hq66, rfl⟩
    ·
      refine j_perm (ws' := [(mo, mO ad (upS S 3 at1_68)), (ad 5, aInt E 100 tx), (ad 7, aInt E 48 (upI wd c 1))]) [1, 2, 0] rfl rfl rfl ?_
      exact j_zret G F d10_takesHead_154 (by decide) ⟨1, at1_68, (upI wd c 1), rfl, rfl, (by first | (rw [hk0]; done) | (exfalso; omega)), (by first | (left; exact ⟨⟨(hd_y hk0 (by omega)).1, (by rw [(hd_y hk0 (by omega)).2]; omega), by omega⟩, rfl⟩) | (right; exact ⟨⟨(hd_n hk0 (by omega)).1, (by rw [(hd_n hk0 (by omega)).2]; omega), by omega⟩, rfl⟩) | (exfalso; omega))⟩
    ·
      refine j_perm (ws' := [(mo, mO ad (upS S 3 at1_68)), (ad 5, aInt E 100 tx), (ad 7, aInt E 48 (upI wd c 1))]) [1, 2, 0] rfl rfl rfl ?_
      exact j_zret G F d10_takesHead_154 (by decide) ⟨0, at1_68, (upI wd c 1), rfl, rfl, (by first | (rw [hk0]; done) | (exfalso; omega)), (by first | (left; exact ⟨⟨(hd_y hk0 (by omega)).1, (by rw [(hd_y hk0 (by omega)).2]; omega), by omega⟩, rfl⟩) | (right; exact ⟨⟨(hd_n hk0 (by omega)).1, (by rw [(hd_n hk0 (by omega)).2]; omega), by omega⟩, rfl⟩) | (exfalso; omega))⟩
  ·
    refine j_tabIn (tgt := 203) G d10_takesHead_9 (by omega) 115 h5 ⟨by decide, by decide⟩ rfl (by decide) ?_
    refine j_aload_n G 1 rfl d10_takesHead_203 ?_
    refine j_get G 0 10 7 in10 fl10_32 d10_takesHead_204 rfl rfl (by decide) (v := .ref (ad 7)) rfl rfl ?_
    refine j_iload_n G 2 rfl d10_takesHead_207 ?_
    refine j_iload_n G 0 rfl d10_takesHead_208 ?_
    refine j_bipush G d10_takesHead_209 rfl ?_
    refine j_icmp_ne (tgt := 219) G d10_takesHead_211 (by decide) (by omega) (by decide) (fun h69 => ?_) (fun h69 => ?_)
    ·
      refine j_bipush G d10_takesHead_219 rfl ?_
      refine j_iast G 2 rfl (by omega) d10_takesHead_221 ?_
      refine j_iload_n G 0 rfl d10_takesHead_222 ?_
      refine j_bipush G d10_takesHead_223 rfl ?_
      refine j_icmp_ne (tgt := 240) G d10_takesHead_225 (by decide) (by omega) (by decide) (fun h70 => ?_) (fun h70 => ?_)
      ·
        have hk0 : hdK tx (S 2) (S 3) = 6 := by unfold hdK; (repeat' split) <;> omega
        refine j_aload_n G 1 rfl d10_takesHead_240 ?_
        refine j_ldcw G 20088467 ct10_265 (by decide) d10_takesHead_241 ?_
        refine j_iconst G d10_takesHead_244 ?_
        refine j_VM G (rm' := { frames := 2, cells := 0, slots := 0, locals := 41 }) (wc := [(mo, mO ad S), (ad 5, aInt E 100 tx)]) (wr := [(ad 7, aInt E 48 (upI wd c 6))]) (k10_takesWord (xl Γ) E mo ad S tx 20088467 5 6 (by first | assumption | omega | (simp only [upS, reduceIte, Nat.reduceEqDiff, eq_self, List.length_cons, List.length_nil, List.length_append] <;> omega)) (by first | assumption | omega | (simp only [upS, reduceIte, Nat.reduceEqDiff, eq_self, List.length_cons, List.length_nil, List.length_append] <;> omega)) (by first | assumption | omega | (simp only [upS, reduceIte, Nat.reduceEqDiff, eq_self, List.length_cons, List.length_nil, List.length_append] <;> omega)) (by decide) ⟨by decide, by decide⟩ rfl (by intro i h1 h2; rcases (show i = 0 ∨ i = 1 ∨ i = 2 ∨ i = 3 ∨ i = 4 by omega) with h | h | h | h | h <;> subst h <;> decide +kernel)) mw10_takesWord ml10_255 [0, 1] [2] rfl rfl ⟨rfl, rfl⟩ (by decide) 0 10 rfl rfl rfl ⟨Nat.le_of_ble_eq_true rfl, Nat.le_of_ble_eq_true rfl⟩ rfl (rest := []) rfl (Nat.le_of_ble_eq_true rfl) d10_takesHead_245 ⟨Nat.le_of_ble_eq_true rfl, Nat.le_of_ble_eq_true rfl⟩ (fun r w1 hr => ?_)
        obtain ⟨v72, at1_73, rfl, rfl, hq71⟩ := hr
        refine j_eq (ws' := [(ad 7, aInt E 48 (upI wd c 6)), (mo, mO ad (upS S 3 at1_73)), (ad 5, aInt E 100 tx)]) rfl rfl rfl ?_
        rcases hq71 with ⟨hq71, rfl⟩ | ⟨hq71, rfl⟩
        ·
          refine j_perm (ws' := [(mo, mO ad (upS S 3 at1_73)), (ad 5, aInt E 100 tx), (ad 7, aInt E 48 (upI wd c 6))]) [1, 2, 0] rfl rfl rfl ?_
          exact j_zret G F d10_takesHead_248 (by decide) ⟨1, at1_73, (upI wd c 6), rfl, rfl, (by first | (rw [hk0]; done) | (exfalso; omega)), (by first | (left; exact ⟨⟨(hd_y hk0 (by omega)).1, (by rw [(hd_y hk0 (by omega)).2]; omega), by omega⟩, rfl⟩) | (right; exact ⟨⟨(hd_n hk0 (by omega)).1, (by rw [(hd_n hk0 (by omega)).2]; omega), by omega⟩, rfl⟩) | (exfalso; omega))⟩
        ·
          refine j_perm (ws' := [(mo, mO ad (upS S 3 at1_73)), (ad 5, aInt E 100 tx), (ad 7, aInt E 48 (upI wd c 6))]) [1, 2, 0] rfl rfl rfl ?_
          exact j_zret G F d10_takesHead_248 (by decide) ⟨0, at1_73, (upI wd c 6), rfl, rfl, (by first | (rw [hk0]; done) | (exfalso; omega)), (by first | (left; exact ⟨⟨(hd_y hk0 (by omega)).1, (by rw [(hd_y hk0 (by omega)).2]; omega), by omega⟩, rfl⟩) | (right; exact ⟨⟨(hd_n hk0 (by omega)).1, (by rw [(hd_n hk0 (by omega)).2]; omega), by omega⟩, rfl⟩) | (exfalso; omega))⟩
      ·
        have hk0 : hdK tx (S 2) (S 3) = 7 := by unfold hdK; (repeat' split) <;> omega
        refine j_aload_n G 1 rfl d10_takesHead_228 ?_
        refine j_ldcw G 654910919 ct10_264 (by decide) d10_takesHead_229 ?_
        refine j_bipush G d10_takesHead_232 rfl ?_
        refine j_VM G (rm' := { frames := 2, cells := 0, slots := 0, locals := 41 }) (wc := [(mo, mO ad S), (ad 5, aInt E 100 tx)]) (wr := [(ad 7, aInt E 48 (upI wd c 6))]) (k10_takesWord (xl Γ) E mo ad S tx 654910919 6 7 (by first | assumption | omega | (simp only [upS, reduceIte, Nat.reduceEqDiff, eq_self, List.length_cons, List.length_nil, List.length_append] <;> omega)) (by first | assumption | omega | (simp only [upS, reduceIte, Nat.reduceEqDiff, eq_self, List.length_cons, List.length_nil, List.length_append] <;> omega)) (by first | assumption | omega | (simp only [upS, reduceIte, Nat.reduceEqDiff, eq_self, List.length_cons, List.length_nil, List.length_append] <;> omega)) (by decide) ⟨by decide, by decide⟩ rfl (by intro i h1 h2; rcases (show i = 0 ∨ i = 1 ∨ i = 2 ∨ i = 3 ∨ i = 4 ∨ i = 5 by omega) with h | h | h | h | h | h <;> subst h <;> decide +kernel)) mw10_takesWord ml10_255 [0, 1] [2] rfl rfl ⟨rfl, rfl⟩ (by decide) 0 10 rfl rfl rfl ⟨Nat.le_of_ble_eq_true rfl, Nat.le_of_ble_eq_true rfl⟩ rfl (rest := []) rfl (Nat.le_of_ble_eq_true rfl) d10_takesHead_234 ⟨Nat.le_of_ble_eq_true rfl, Nat.le_of_ble_eq_true rfl⟩ (fun r w1 hr => ?_)
        obtain ⟨v75, at1_76, rfl, rfl, hq74⟩ := hr
        refine j_eq (ws' := [(ad 7, aInt E 48 (upI wd c 6)), (mo, mO ad (upS S 3 at1_76)), (ad 5, aInt E 100 tx)]) rfl rfl rfl ?_
        rcases hq74 with ⟨hq74, rfl⟩ | ⟨hq74, rfl⟩
        ·
          refine j_goto (tgt := 248) G d10_takesHead_237 (by decide) ?_
          refine j_perm (ws' := [(mo, mO ad (upS S 3 at1_76)), (ad 5, aInt E 100 tx), (ad 7, aInt E 48 (upI wd c 6))]) [1, 2, 0] rfl rfl rfl ?_
          exact j_zret G F d10_takesHead_248 (by decide) ⟨1, at1_76, (upI wd c 6), rfl, rfl, (by first | (rw [hk0]; done) | (exfalso; omega)), (by first | (left; exact ⟨⟨(hd_y hk0 (by omega)).1, (by rw [(hd_y hk0 (by omega)).2]; omega), by omega⟩, rfl⟩) | (right; exact ⟨⟨(hd_n hk0 (by omega)).1, (by rw [(hd_n hk0 (by omega)).2]; omega), by omega⟩, rfl⟩) | (exfalso; omega))⟩
        ·
          refine j_goto (tgt := 248) G d10_takesHead_237 (by decide) ?_
          refine j_perm (ws' := [(mo, mO ad (upS S 3 at1_76)), (ad 5, aInt E 100 tx), (ad 7, aInt E 48 (upI wd c 6))]) [1, 2, 0] rfl rfl rfl ?_
          exact j_zret G F d10_takesHead_248 (by decide) ⟨0, at1_76, (upI wd c 6), rfl, rfl, (by first | (rw [hk0]; done) | (exfalso; omega)), (by first | (left; exact ⟨⟨(hd_y hk0 (by omega)).1, (by rw [(hd_y hk0 (by omega)).2]; omega), by omega⟩, rfl⟩) | (right; exact ⟨⟨(hd_n hk0 (by omega)).1, (by rw [(hd_n hk0 (by omega)).2]; omega), by omega⟩, rfl⟩) | (exfalso; omega))⟩
    ·
      refine j_bipush G d10_takesHead_214 rfl ?_
      refine j_goto (tgt := 221) G d10_takesHead_216 (by decide) ?_
      refine j_iast G 2 rfl (by omega) d10_takesHead_221 ?_
      refine j_iload_n G 0 rfl d10_takesHead_222 ?_
      refine j_bipush G d10_takesHead_223 rfl ?_
      refine j_icmp_ne (tgt := 240) G d10_takesHead_225 (by decide) (by omega) (by decide) (fun h77 => ?_) (fun h77 => ?_)
      ·
        have hk0 : hdK tx (S 2) (S 3) = 6 := by unfold hdK; (repeat' split) <;> omega
        refine j_aload_n G 1 rfl d10_takesHead_240 ?_
        refine j_ldcw G 20088467 ct10_265 (by decide) d10_takesHead_241 ?_
        refine j_iconst G d10_takesHead_244 ?_
        refine j_VM G (rm' := { frames := 2, cells := 0, slots := 0, locals := 41 }) (wc := [(mo, mO ad S), (ad 5, aInt E 100 tx)]) (wr := [(ad 7, aInt E 48 (upI wd c 7))]) (k10_takesWord (xl Γ) E mo ad S tx 20088467 5 6 (by first | assumption | omega | (simp only [upS, reduceIte, Nat.reduceEqDiff, eq_self, List.length_cons, List.length_nil, List.length_append] <;> omega)) (by first | assumption | omega | (simp only [upS, reduceIte, Nat.reduceEqDiff, eq_self, List.length_cons, List.length_nil, List.length_append] <;> omega)) (by first | assumption | omega | (simp only [upS, reduceIte, Nat.reduceEqDiff, eq_self, List.length_cons, List.length_nil, List.length_append] <;> omega)) (by decide) ⟨by decide, by decide⟩ rfl (by intro i h1 h2; rcases (show i = 0 ∨ i = 1 ∨ i = 2 ∨ i = 3 ∨ i = 4 by omega) with h | h | h | h | h <;> subst h <;> decide +kernel)) mw10_takesWord ml10_255 [0, 1] [2] rfl rfl ⟨rfl, rfl⟩ (by decide) 0 10 rfl rfl rfl ⟨Nat.le_of_ble_eq_true rfl, Nat.le_of_ble_eq_true rfl⟩ rfl (rest := []) rfl (Nat.le_of_ble_eq_true rfl) d10_takesHead_245 ⟨Nat.le_of_ble_eq_true rfl, Nat.le_of_ble_eq_true rfl⟩ (fun r w1 hr => ?_)
        obtain ⟨v79, at1_80, rfl, rfl, hq78⟩ := hr
        refine j_eq (ws' := [(ad 7, aInt E 48 (upI wd c 7)), (mo, mO ad (upS S 3 at1_80)), (ad 5, aInt E 100 tx)]) rfl rfl rfl ?_
        rcases hq78 with ⟨hq78, rfl⟩ | ⟨hq78, rfl⟩
        ·
          refine j_perm (ws' := [(mo, mO ad (upS S 3 at1_80)), (ad 5, aInt E 100 tx), (ad 7, aInt E 48 (upI wd c 7))]) [1, 2, 0] rfl rfl rfl ?_
          exact j_zret G F d10_takesHead_248 (by decide) ⟨1, at1_80, (upI wd c 7), rfl, rfl, (by first | (rw [hk0]; done) | (exfalso; omega)), (by first | (left; exact ⟨⟨(hd_y hk0 (by omega)).1, (by rw [(hd_y hk0 (by omega)).2]; omega), by omega⟩, rfl⟩) | (right; exact ⟨⟨(hd_n hk0 (by omega)).1, (by rw [(hd_n hk0 (by omega)).2]; omega), by omega⟩, rfl⟩) | (exfalso; omega))⟩
        ·
          refine j_perm (ws' := [(mo, mO ad (upS S 3 at1_80)), (ad 5, aInt E 100 tx), (ad 7, aInt E 48 (upI wd c 7))]) [1, 2, 0] rfl rfl rfl ?_
          exact j_zret G F d10_takesHead_248 (by decide) ⟨0, at1_80, (upI wd c 7), rfl, rfl, (by first | (rw [hk0]; done) | (exfalso; omega)), (by first | (left; exact ⟨⟨(hd_y hk0 (by omega)).1, (by rw [(hd_y hk0 (by omega)).2]; omega), by omega⟩, rfl⟩) | (right; exact ⟨⟨(hd_n hk0 (by omega)).1, (by rw [(hd_n hk0 (by omega)).2]; omega), by omega⟩, rfl⟩) | (exfalso; omega))⟩
      ·
        have hk0 : hdK tx (S 2) (S 3) = 7 := by unfold hdK; (repeat' split) <;> omega
        refine j_aload_n G 1 rfl d10_takesHead_228 ?_
        refine j_ldcw G 654910919 ct10_264 (by decide) d10_takesHead_229 ?_
        refine j_bipush G d10_takesHead_232 rfl ?_
        refine j_VM G (rm' := { frames := 2, cells := 0, slots := 0, locals := 41 }) (wc := [(mo, mO ad S), (ad 5, aInt E 100 tx)]) (wr := [(ad 7, aInt E 48 (upI wd c 7))]) (k10_takesWord (xl Γ) E mo ad S tx 654910919 6 7 (by first | assumption | omega | (simp only [upS, reduceIte, Nat.reduceEqDiff, eq_self, List.length_cons, List.length_nil, List.length_append] <;> omega)) (by first | assumption | omega | (simp only [upS, reduceIte, Nat.reduceEqDiff, eq_self, List.length_cons, List.length_nil, List.length_append] <;> omega)) (by first | assumption | omega | (simp only [upS, reduceIte, Nat.reduceEqDiff, eq_self, List.length_cons, List.length_nil, List.length_append] <;> omega)) (by decide) ⟨by decide, by decide⟩ rfl (by intro i h1 h2; rcases (show i = 0 ∨ i = 1 ∨ i = 2 ∨ i = 3 ∨ i = 4 ∨ i = 5 by omega) with h | h | h | h | h | h <;> subst h <;> decide +kernel)) mw10_takesWord ml10_255 [0, 1] [2] rfl rfl ⟨rfl, rfl⟩ (by decide) 0 10 rfl rfl rfl ⟨Nat.le_of_ble_eq_true rfl, Nat.le_of_ble_eq_true rfl⟩ rfl (rest := []) rfl (Nat.le_of_ble_eq_true rfl) d10_takesHead_234 ⟨Nat.le_of_ble_eq_true rfl, Nat.le_of_ble_eq_true rfl⟩ (fun r w1 hr => ?_)
        obtain ⟨v82, at1_83, rfl, rfl, hq81⟩ := hr
        refine j_eq (ws' := [(ad 7, aInt E 48 (upI wd c 7)), (mo, mO ad (upS S 3 at1_83)), (ad 5, aInt E 100 tx)]) rfl rfl rfl ?_
        rcases hq81 with ⟨hq81, rfl⟩ | ⟨hq81, rfl⟩
        ·
          refine j_goto (tgt := 248) G d10_takesHead_237 (by decide) ?_
          refine j_perm (ws' := [(mo, mO ad (upS S 3 at1_83)), (ad 5, aInt E 100 tx), (ad 7, aInt E 48 (upI wd c 7))]) [1, 2, 0] rfl rfl rfl ?_
          exact j_zret G F d10_takesHead_248 (by decide) ⟨1, at1_83, (upI wd c 7), rfl, rfl, (by first | (rw [hk0]; done) | (exfalso; omega)), (by first | (left; exact ⟨⟨(hd_y hk0 (by omega)).1, (by rw [(hd_y hk0 (by omega)).2]; omega), by omega⟩, rfl⟩) | (right; exact ⟨⟨(hd_n hk0 (by omega)).1, (by rw [(hd_n hk0 (by omega)).2]; omega), by omega⟩, rfl⟩) | (exfalso; omega))⟩
        ·
          refine j_goto (tgt := 248) G d10_takesHead_237 (by decide) ?_
          refine j_perm (ws' := [(mo, mO ad (upS S 3 at1_83)), (ad 5, aInt E 100 tx), (ad 7, aInt E 48 (upI wd c 7))]) [1, 2, 0] rfl rfl rfl ?_
          exact j_zret G F d10_takesHead_248 (by decide) ⟨0, at1_83, (upI wd c 7), rfl, rfl, (by first | (rw [hk0]; done) | (exfalso; omega)), (by first | (left; exact ⟨⟨(hd_y hk0 (by omega)).1, (by rw [(hd_y hk0 (by omega)).2]; omega), by omega⟩, rfl⟩) | (right; exact ⟨⟨(hd_n hk0 (by omega)).1, (by rw [(hd_n hk0 (by omega)).2]; omega), by omega⟩, rfl⟩) | (exfalso; omega))⟩
  ·
    refine j_tabOut (tgt := 249) G d10_takesHead_9 (by omega) h5 (by decide) ?_
    refine j_aload_n G 1 rfl d10_takesHead_249 ?_
    refine j_get G 0 10 7 in10 fl10_32 d10_takesHead_250 rfl rfl (by decide) (v := .ref (ad 7)) rfl rfl ?_
    refine j_iload_n G 2 rfl d10_takesHead_253 ?_
    refine j_iconst G d10_takesHead_254 ?_
    refine j_iast G 2 rfl (by omega) d10_takesHead_255 ?_
    have hk0 : hdK tx (S 2) (S 3) = 5 := by unfold hdK; (repeat' split) <;> omega
    refine j_aload_n G 1 rfl d10_takesHead_256 ?_
    refine j_ldcw G 656843 ct10_266 (by decide) d10_takesHead_257 ?_
    refine j_iconst G d10_takesHead_260 ?_
    refine j_VM G (rm' := { frames := 2, cells := 0, slots := 0, locals := 41 }) (wc := [(mo, mO ad S), (ad 5, aInt E 100 tx)]) (wr := [(ad 7, aInt E 48 (upI wd c 5))]) (k10_takesWord (xl Γ) E mo ad S tx 656843 4 5 (by first | assumption | omega | (simp only [upS, reduceIte, Nat.reduceEqDiff, eq_self, List.length_cons, List.length_nil, List.length_append] <;> omega)) (by first | assumption | omega | (simp only [upS, reduceIte, Nat.reduceEqDiff, eq_self, List.length_cons, List.length_nil, List.length_append] <;> omega)) (by first | assumption | omega | (simp only [upS, reduceIte, Nat.reduceEqDiff, eq_self, List.length_cons, List.length_nil, List.length_append] <;> omega)) (by decide) ⟨by decide, by decide⟩ rfl (by intro i h1 h2; rcases (show i = 0 ∨ i = 1 ∨ i = 2 ∨ i = 3 by omega) with h | h | h | h <;> subst h <;> decide +kernel)) mw10_takesWord ml10_255 [0, 1] [2] rfl rfl ⟨rfl, rfl⟩ (by decide) 0 10 rfl rfl rfl ⟨Nat.le_of_ble_eq_true rfl, Nat.le_of_ble_eq_true rfl⟩ rfl (rest := []) rfl (Nat.le_of_ble_eq_true rfl) d10_takesHead_261 ⟨Nat.le_of_ble_eq_true rfl, Nat.le_of_ble_eq_true rfl⟩ (fun r w1 hr => ?_)
    obtain ⟨v85, at1_86, rfl, rfl, hq84⟩ := hr
    refine j_eq (ws' := [(ad 7, aInt E 48 (upI wd c 5)), (mo, mO ad (upS S 3 at1_86)), (ad 5, aInt E 100 tx)]) rfl rfl rfl ?_
    rcases hq84 with ⟨hq84, rfl⟩ | ⟨hq84, rfl⟩
    ·
      refine j_perm (ws' := [(mo, mO ad (upS S 3 at1_86)), (ad 5, aInt E 100 tx), (ad 7, aInt E 48 (upI wd c 5))]) [1, 2, 0] rfl rfl rfl ?_
      exact j_zret G F d10_takesHead_264 (by decide) ⟨1, at1_86, (upI wd c 5), rfl, rfl, (by first | (rw [hk0]; done) | (exfalso; omega)), (by first | (left; exact ⟨⟨(hd_y hk0 (by omega)).1, (by rw [(hd_y hk0 (by omega)).2]; omega), by omega⟩, rfl⟩) | (right; exact ⟨⟨(hd_n hk0 (by omega)).1, (by rw [(hd_n hk0 (by omega)).2]; omega), by omega⟩, rfl⟩) | (exfalso; omega))⟩
    ·
      refine j_perm (ws' := [(mo, mO ad (upS S 3 at1_86)), (ad 5, aInt E 100 tx), (ad 7, aInt E 48 (upI wd c 5))]) [1, 2, 0] rfl rfl rfl ?_
      exact j_zret G F d10_takesHead_264 (by decide) ⟨0, at1_86, (upI wd c 5), rfl, rfl, (by first | (rw [hk0]; done) | (exfalso; omega)), (by first | (left; exact ⟨⟨(hd_y hk0 (by omega)).1, (by rw [(hd_y hk0 (by omega)).2]; omega), by omega⟩, rfl⟩) | (right; exact ⟨⟨(hd_n hk0 (by omega)).1, (by rw [(hd_n hk0 (by omega)).2]; omega), by omega⟩, rfl⟩) | (exfalso; omega))⟩
