/-- the model's loop over an E stands where the machine stands -/
def InvE (U : Int → Int) (n : Int) (sg wt : Int → Int) (a p0 wa w e o az : Int) : Prop := (wa = 1 ∧ ∃ σ, Wnt sg wt a σ w e o ∧ Rc U n (0, [], v0, p0) (0, σ, v0, az)) ∨ (wa = 0 ∧ ∃ σ v, Hav sg wt a σ v w e o ∧ Rc U n (0, [], v0, p0) (1, σ, v, az))
theorem opn_le {wt : Int → Int} : ∀ {σ : List Fr} {w : Int}, Wst wt σ w → opn σ ≤ w
  | [], w, h => by have : w = 0 := h; unfold opn; omega
  | f :: t, w, h => by
    have := opn_le h.2.2
    unfold opn; split <;> omega
theorem upb' {m : Int → Int} {N i v B : Int} (h : ∀ j, 0 ≤ j → j < N → 0 ≤ m j ∧ m j ≤ B) (hv : 0 ≤ v ∧ v ≤ B) : ∀ j, 0 ≤ j → j < N → 0 ≤ upI m i v j ∧ upI m i v j ≤ B := by
  intro j h1 h2
  unfold upI; split
  · exact hv
  · exact h j h1 h2
theorem d10_takesE_0 : decode c10_takesE 0 = .ok (.aload_n 0, 1) := by decide +kernel
theorem d10_takesE_1 : decode c10_takesE 1 = .ok (.iconst 0, 1) := by decide +kernel
theorem d10_takesE_2 : decode c10_takesE 2 = .ok (.putfield 62, 3) := by decide +kernel
theorem d10_takesE_5 : decode c10_takesE 5 = .ok (.aload_n 0, 1) := by decide +kernel
theorem d10_takesE_6 : decode c10_takesE 6 = .ok (.iconst 0, 1) := by decide +kernel
theorem d10_takesE_7 : decode c10_takesE 7 = .ok (.putfield 65, 3) := by decide +kernel
theorem d10_takesE_10 : decode c10_takesE 10 = .ok (.aload_n 0, 1) := by decide +kernel
theorem d10_takesE_11 : decode c10_takesE 11 = .ok (.getfield 38, 3) := by decide +kernel
theorem d10_takesE_14 : decode c10_takesE 14 = .ok (.iload_n 1, 1) := by decide +kernel
theorem d10_takesE_15 : decode c10_takesE 15 = .ok (.aload_n 0, 1) := by decide +kernel
theorem d10_takesE_16 : decode c10_takesE 16 = .ok (.getfield 59, 3) := by decide +kernel
theorem d10_takesE_19 : decode c10_takesE 19 = .ok (.iastore, 1) := by decide +kernel
theorem d10_takesE_20 : decode c10_takesE 20 = .ok (.iconst 1, 1) := by decide +kernel
theorem d10_takesE_21 : decode c10_takesE 21 = .ok (.istore_n 2, 1) := by decide +kernel
theorem d10_takesE_22 : decode c10_takesE 22 = .ok (.aload_n 0, 1) := by decide +kernel
theorem d10_takesE_23 : decode c10_takesE 23 = .ok (.invokevirtual 223, 3) := by decide +kernel
theorem d10_takesE_26 : decode c10_takesE 26 = .ok (.istore_n 3, 1) := by decide +kernel
theorem d10_takesE_27 : decode c10_takesE 27 = .ok (.iload_n 2, 1) := by decide +kernel
theorem d10_takesE_28 : decode c10_takesE 28 = .ok (.ifCond .eq 82, 3) := by decide +kernel
theorem d10_takesE_31 : decode c10_takesE 31 = .ok (.iload_n 3, 1) := by decide +kernel
theorem d10_takesE_32 : decode c10_takesE 32 = .ok (.bipush 33, 2) := by decide +kernel
theorem d10_takesE_34 : decode c10_takesE 34 = .ok (.if_icmp .eq 9, 3) := by decide +kernel
theorem d10_takesE_37 : decode c10_takesE 37 = .ok (.iload_n 3, 1) := by decide +kernel
theorem d10_takesE_38 : decode c10_takesE 38 = .ok (.bipush 40, 2) := by decide +kernel
theorem d10_takesE_40 : decode c10_takesE 40 = .ok (.if_icmp .ne 56, 3) := by decide +kernel
theorem d10_takesE_43 : decode c10_takesE 43 = .ok (.aload_n 0, 1) := by decide +kernel
theorem d10_takesE_44 : decode c10_takesE 44 = .ok (.getfield 65, 3) := by decide +kernel
theorem d10_takesE_47 : decode c10_takesE 47 = .ok (.iconst 4, 1) := by decide +kernel
theorem d10_takesE_48 : decode c10_takesE 48 = .ok (.if_icmp .ne 5, 3) := by decide +kernel
theorem d10_takesE_51 : decode c10_takesE 51 = .ok (.iconst 0, 1) := by decide +kernel
theorem d10_takesE_52 : decode c10_takesE 52 = .ok (.ireturn, 1) := by decide +kernel
theorem d10_takesE_53 : decode c10_takesE 53 = .ok (.aload_n 0, 1) := by decide +kernel
theorem d10_takesE_54 : decode c10_takesE 54 = .ok (.dup, 1) := by decide +kernel
theorem d10_takesE_55 : decode c10_takesE 55 = .ok (.getfield 65, 3) := by decide +kernel
theorem d10_takesE_58 : decode c10_takesE 58 = .ok (.iconst 1, 1) := by decide +kernel
theorem d10_takesE_59 : decode c10_takesE 59 = .ok (.iadd, 1) := by decide +kernel
theorem d10_takesE_60 : decode c10_takesE 60 = .ok (.putfield 65, 3) := by decide +kernel
theorem d10_takesE_63 : decode c10_takesE 63 = .ok (.aload_n 0, 1) := by decide +kernel
theorem d10_takesE_64 : decode c10_takesE 64 = .ok (.getfield 56, 3) := by decide +kernel
theorem d10_takesE_67 : decode c10_takesE 67 = .ok (.aload_n 0, 1) := by decide +kernel
theorem d10_takesE_68 : decode c10_takesE 68 = .ok (.getfield 62, 3) := by decide +kernel
theorem d10_takesE_71 : decode c10_takesE 71 = .ok (.iload_n 3, 1) := by decide +kernel
theorem d10_takesE_72 : decode c10_takesE 72 = .ok (.iastore, 1) := by decide +kernel
theorem d10_takesE_73 : decode c10_takesE 73 = .ok (.aload_n 0, 1) := by decide +kernel
theorem d10_takesE_74 : decode c10_takesE 74 = .ok (.dup, 1) := by decide +kernel
theorem d10_takesE_75 : decode c10_takesE 75 = .ok (.getfield 62, 3) := by decide +kernel
theorem d10_takesE_78 : decode c10_takesE 78 = .ok (.iconst 1, 1) := by decide +kernel
theorem d10_takesE_79 : decode c10_takesE 79 = .ok (.iadd, 1) := by decide +kernel
theorem d10_takesE_80 : decode c10_takesE 80 = .ok (.putfield 62, 3) := by decide +kernel
theorem d10_takesE_83 : decode c10_takesE 83 = .ok (.aload_n 0, 1) := by decide +kernel
theorem d10_takesE_84 : decode c10_takesE 84 = .ok (.dup, 1) := by decide +kernel
theorem d10_takesE_85 : decode c10_takesE 85 = .ok (.getfield 19, 3) := by decide +kernel
theorem d10_takesE_88 : decode c10_takesE 88 = .ok (.iconst 1, 1) := by decide +kernel
theorem d10_takesE_89 : decode c10_takesE 89 = .ok (.iadd, 1) := by decide +kernel
theorem d10_takesE_90 : decode c10_takesE 90 = .ok (.putfield 19, 3) := by decide +kernel
theorem d10_takesE_93 : decode c10_takesE 93 = .ok (.goto (-71), 3) := by decide +kernel
theorem d10_takesE_96 : decode c10_takesE 96 = .ok (.aload_n 0, 1) := by decide +kernel
theorem d10_takesE_97 : decode c10_takesE 97 = .ok (.invokevirtual 245, 3) := by decide +kernel
theorem d10_takesE_100 : decode c10_takesE 100 = .ok (.ifCond .eq 8, 3) := by decide +kernel
theorem d10_takesE_103 : decode c10_takesE 103 = .ok (.iconst 0, 1) := by decide +kernel
theorem d10_takesE_104 : decode c10_takesE 104 = .ok (.istore_n 2, 1) := by decide +kernel
theorem d10_takesE_105 : decode c10_takesE 105 = .ok (.goto (-83), 3) := by decide +kernel
theorem d10_takesE_108 : decode c10_takesE 108 = .ok (.iconst 0, 1) := by decide +kernel
theorem d10_takesE_109 : decode c10_takesE 109 = .ok (.ireturn, 1) := by decide +kernel
theorem d10_takesE_110 : decode c10_takesE 110 = .ok (.iload_n 3, 1) := by decide +kernel
theorem d10_takesE_111 : decode c10_takesE 111 = .ok (.bipush 38, 2) := by decide +kernel
theorem d10_takesE_113 : decode c10_takesE 113 = .ok (.if_icmp .eq 9, 3) := by decide +kernel
theorem d10_takesE_116 : decode c10_takesE 116 = .ok (.iload_n 3, 1) := by decide +kernel
theorem d10_takesE_117 : decode c10_takesE 117 = .ok (.bipush 124, 2) := by decide +kernel
theorem d10_takesE_119 : decode c10_takesE 119 = .ok (.if_icmp .ne 43, 3) := by decide +kernel
theorem d10_takesE_122 : decode c10_takesE 122 = .ok (.aload_n 0, 1) := by decide +kernel
theorem d10_takesE_123 : decode c10_takesE 123 = .ok (.iload_n 3, 1) := by decide +kernel
theorem d10_takesE_124 : decode c10_takesE 124 = .ok (.invokevirtual 248, 3) := by decide +kernel
theorem d10_takesE_127 : decode c10_takesE 127 = .ok (.aload_n 0, 1) := by decide +kernel
theorem d10_takesE_128 : decode c10_takesE 128 = .ok (.getfield 56, 3) := by decide +kernel
theorem d10_takesE_131 : decode c10_takesE 131 = .ok (.aload_n 0, 1) := by decide +kernel
theorem d10_takesE_132 : decode c10_takesE 132 = .ok (.getfield 62, 3) := by decide +kernel
theorem d10_takesE_135 : decode c10_takesE 135 = .ok (.iload_n 3, 1) := by decide +kernel
theorem d10_takesE_136 : decode c10_takesE 136 = .ok (.iastore, 1) := by decide +kernel
theorem d10_takesE_137 : decode c10_takesE 137 = .ok (.aload_n 0, 1) := by decide +kernel
theorem d10_takesE_138 : decode c10_takesE 138 = .ok (.dup, 1) := by decide +kernel
theorem d10_takesE_139 : decode c10_takesE 139 = .ok (.getfield 62, 3) := by decide +kernel
theorem d10_takesE_142 : decode c10_takesE 142 = .ok (.iconst 1, 1) := by decide +kernel
theorem d10_takesE_143 : decode c10_takesE 143 = .ok (.iadd, 1) := by decide +kernel
theorem d10_takesE_144 : decode c10_takesE 144 = .ok (.putfield 62, 3) := by decide +kernel
theorem d10_takesE_147 : decode c10_takesE 147 = .ok (.iconst 1, 1) := by decide +kernel
theorem d10_takesE_148 : decode c10_takesE 148 = .ok (.istore_n 2, 1) := by decide +kernel
theorem d10_takesE_149 : decode c10_takesE 149 = .ok (.aload_n 0, 1) := by decide +kernel
theorem d10_takesE_150 : decode c10_takesE 150 = .ok (.dup, 1) := by decide +kernel
theorem d10_takesE_151 : decode c10_takesE 151 = .ok (.getfield 19, 3) := by decide +kernel
theorem d10_takesE_154 : decode c10_takesE 154 = .ok (.iconst 1, 1) := by decide +kernel
theorem d10_takesE_155 : decode c10_takesE 155 = .ok (.iadd, 1) := by decide +kernel
theorem d10_takesE_156 : decode c10_takesE 156 = .ok (.putfield 19, 3) := by decide +kernel
theorem d10_takesE_159 : decode c10_takesE 159 = .ok (.goto (-137), 3) := by decide +kernel
theorem d10_takesE_162 : decode c10_takesE 162 = .ok (.aload_n 0, 1) := by decide +kernel
theorem d10_takesE_163 : decode c10_takesE 163 = .ok (.bipush 124, 2) := by decide +kernel
theorem d10_takesE_165 : decode c10_takesE 165 = .ok (.invokevirtual 248, 3) := by decide +kernel
theorem d10_takesE_168 : decode c10_takesE 168 = .ok (.aload_n 0, 1) := by decide +kernel
theorem d10_takesE_169 : decode c10_takesE 169 = .ok (.getfield 41, 3) := by decide +kernel
theorem d10_takesE_172 : decode c10_takesE 172 = .ok (.iload_n 1, 1) := by decide +kernel
theorem d10_takesE_173 : decode c10_takesE 173 = .ok (.aload_n 0, 1) := by decide +kernel
theorem d10_takesE_174 : decode c10_takesE 174 = .ok (.getfield 59, 3) := by decide +kernel
theorem d10_takesE_177 : decode c10_takesE 177 = .ok (.iastore, 1) := by decide +kernel
theorem d10_takesE_178 : decode c10_takesE 178 = .ok (.aload_n 0, 1) := by decide +kernel
theorem d10_takesE_179 : decode c10_takesE 179 = .ok (.getfield 62, 3) := by decide +kernel
theorem d10_takesE_182 : decode c10_takesE 182 = .ok (.ifCond .ne 5, 3) := by decide +kernel
theorem d10_takesE_185 : decode c10_takesE 185 = .ok (.iconst 1, 1) := by decide +kernel
theorem d10_takesE_186 : decode c10_takesE 186 = .ok (.ireturn, 1) := by decide +kernel
theorem d10_takesE_187 : decode c10_takesE 187 = .ok (.iload_n 3, 1) := by decide +kernel
theorem d10_takesE_188 : decode c10_takesE 188 = .ok (.bipush 41, 2) := by decide +kernel
theorem d10_takesE_190 : decode c10_takesE 190 = .ok (.if_icmp .eq 5, 3) := by decide +kernel
theorem d10_takesE_193 : decode c10_takesE 193 = .ok (.iconst 0, 1) := by decide +kernel
theorem d10_takesE_194 : decode c10_takesE 194 = .ok (.ireturn, 1) := by decide +kernel
theorem d10_takesE_195 : decode c10_takesE 195 = .ok (.aload_n 0, 1) := by decide +kernel
theorem d10_takesE_196 : decode c10_takesE 196 = .ok (.dup, 1) := by decide +kernel
theorem d10_takesE_197 : decode c10_takesE 197 = .ok (.getfield 62, 3) := by decide +kernel
theorem d10_takesE_200 : decode c10_takesE 200 = .ok (.iconst 1, 1) := by decide +kernel
theorem d10_takesE_201 : decode c10_takesE 201 = .ok (.isub, 1) := by decide +kernel
theorem d10_takesE_202 : decode c10_takesE 202 = .ok (.putfield 62, 3) := by decide +kernel
theorem d10_takesE_205 : decode c10_takesE 205 = .ok (.aload_n 0, 1) := by decide +kernel
theorem d10_takesE_206 : decode c10_takesE 206 = .ok (.dup, 1) := by decide +kernel
theorem d10_takesE_207 : decode c10_takesE 207 = .ok (.getfield 65, 3) := by decide +kernel
theorem d10_takesE_210 : decode c10_takesE 210 = .ok (.iconst 1, 1) := by decide +kernel
theorem d10_takesE_211 : decode c10_takesE 211 = .ok (.isub, 1) := by decide +kernel
theorem d10_takesE_212 : decode c10_takesE 212 = .ok (.putfield 65, 3) := by decide +kernel
theorem d10_takesE_215 : decode c10_takesE 215 = .ok (.aload_n 0, 1) := by decide +kernel
theorem d10_takesE_216 : decode c10_takesE 216 = .ok (.dup, 1) := by decide +kernel
theorem d10_takesE_217 : decode c10_takesE 217 = .ok (.getfield 19, 3) := by decide +kernel
theorem d10_takesE_220 : decode c10_takesE 220 = .ok (.iconst 1, 1) := by decide +kernel
theorem d10_takesE_221 : decode c10_takesE 221 = .ok (.iadd, 1) := by decide +kernel
theorem d10_takesE_222 : decode c10_takesE 222 = .ok (.putfield 19, 3) := by decide +kernel
theorem d10_takesE_225 : decode c10_takesE 225 = .ok (.aload_n 0, 1) := by decide +kernel
theorem d10_takesE_226 : decode c10_takesE 226 = .ok (.invokevirtual 242, 3) := by decide +kernel
theorem d10_takesE_229 : decode c10_takesE 229 = .ok (.goto (-207), 3) := by decide +kernel
theorem mw10_takesE : MV y10_takesE c10_takesE 4 (some .boolean) 1 := ⟨cd10_takesE, ini10, na10_takesE, im10_takesE, se10_takesE⟩
set_option maxHeartbeats 4000000 in
set_option maxRecDepth 100000 in
theorem k10_takesE (l : Launch) (E : En) (mo : Nat) (ad : Nat → Nat) (S : Nat → Int) (tx : Int → Int) (fo : Int → Int) (to : Int → Int) (sg : Int → Int) (wt : Int → Int) (c : Int) (bb : Int) (htx : ∀ j, 0 ≤ j → j < 100 → -128 ≤ tx j ∧ tx j ≤ 127) (hfd : 0 ≤ S 2 ∧ S 2 ≤ 100) (hat : 0 ≤ S 3 ∧ S 3 ≤ S 2) (hcc : 0 ≤ c ∧ c ≤ 47) (hsg : ∀ j, 0 ≤ j → j < 400 → -200 ≤ sg j ∧ sg j ≤ 20000) (hwb : ∀ j, 0 ≤ j → j < 101 → 0 ≤ wt j ∧ wt j ≤ 200) (hB : 0 ≤ bb ∧ bb ≤ 300) (hc : S 16 ≤ bb + S 3 ∧ 0 ≤ S 16) : Cm l E y10_takesE c10_takesE 4 (some .boolean) { frames := 4, cells := 0, slots := 0, locals := 87 } [.ref mo, .int (iZ c)] [(mo, mO ad S), (ad 5, aInt E 100 tx), (ad 9, aInt E 48 fo), (ad 10, aInt E 48 to), (ad 14, aInt E 400 sg), (ad 15, aInt E 101 wt)] (fun r ws => ∃ (v : Int), ∃ (fo1 : Int → Int), ∃ (to1 : Int → Int), ∃ (sg1 : Int → Int), ∃ (wt1 : Int → Int), ∃ (az1 : Int), ∃ (dg1 : Int), ∃ (w1 : Int), ∃ (e1 : Int), ∃ (o1 : Int), r = some (.int (iZ v)) ∧ ws = [(mo, mO ad (upS (upS (upS (upS (upS S 3 az1) 4 dg1) 17 w1) 16 e1) 18 o1)), (ad 5, aInt E 100 tx), (ad 9, aInt E 48 fo1), (ad 10, aInt E 48 to1), (ad 14, aInt E 400 sg1), (ad 15, aInt E 101 wt1)] ∧ (((((exT tx (S 2) (S 3)).1 = 2 ∧ az1 = (exT tx (S 2) (S 3)).2.2.2 ∧ PF sg1 (S 16) e1 (exT tx (S 2) (S 3)).2.2.1 ∧ to1 c = e1 ∧ fo1 = upI fo c (S 16)) ∧ ((S 3 ≤ az1 ∧ az1 ≤ S 2) ∧ (e1 ≤ bb + az1 ∧ S 16 ≤ e1) ∧ (∀ j, 0 ≤ j → j < 400 → -200 ≤ sg1 j ∧ sg1 j ≤ 20000) ∧ (∀ j, j < S 16 → sg1 j = sg j) ∧ (∀ j, ¬ j = c → to1 j = to j) ∧ (∀ j, 0 ≤ j → j < 101 → 0 ≤ wt1 j ∧ wt1 j ≤ 200))) ∧ v = 1) ∨ ((((exT tx (S 2) (S 3)).1 = 3 ∧ az1 = (exT tx (S 2) (S 3)).2.2.2 ∧ fo1 = upI fo c (S 16)) ∧ ((S 3 ≤ az1 ∧ az1 ≤ S 2) ∧ (e1 ≤ bb + az1 ∧ S 16 ≤ e1) ∧ (∀ j, 0 ≤ j → j < 400 → -200 ≤ sg1 j ∧ sg1 j ≤ 20000) ∧ (∀ j, j < S 16 → sg1 j = sg j) ∧ (∀ j, ¬ j = c → to1 j = to j) ∧ (∀ j, 0 ≤ j → j < 101 → 0 ≤ wt1 j ∧ wt1 j ≤ 200))) ∧ v = 0))) := by
  refine Cm.of (by decide +kernel) (Nat.le_of_ble_eq_true rfl) (fun Γ A hl hargs hin G F => ?_)
  subst hl
  refine j_aload_n G 0 rfl d10_takesE_0 ?_
  refine j_iconst G d10_takesE_1 ?_
  refine j_put G 0 10 17 in10 tyok10 nm10 fl10_62 d10_takesE_2 rfl rfl (by decide) ⟨rfl, rfl⟩ rfl rfl (Nat.le_of_ble_eq_true rfl) (e := mO ad (upS S 17 0)) rfl ?_
  refine j_aload_n G 0 rfl d10_takesE_5 ?_
  refine j_iconst G d10_takesE_6 ?_
  refine j_put G 0 10 18 in10 tyok10 nm10 fl10_65 d10_takesE_7 rfl rfl (by decide) ⟨rfl, rfl⟩ rfl rfl (Nat.le_of_ble_eq_true rfl) (e := mO ad (upS (upS S 17 0) 18 0)) rfl ?_
  refine j_aload_n G 0 rfl d10_takesE_10 ?_
  refine j_get G 0 10 9 in10 fl10_38 d10_takesE_11 rfl rfl (by decide) (v := .ref (ad 9)) rfl rfl ?_
  refine j_iload_n G 1 rfl d10_takesE_14 ?_
  refine j_aload_n G 0 rfl d10_takesE_15 ?_
  refine j_get G 0 10 16 in10 fl10_59 d10_takesE_16 rfl rfl (by decide) (v := .int (iZ (S 16))) rfl rfl ?_
  refine j_iast G 2 rfl (by omega) d10_takesE_19 ?_
  refine j_iconst G d10_takesE_20 ?_
  refine j_istore_n G d10_takesE_21 (by decide) rfl ?_
  refine j_eq (ws' := [(mo, mO ad (upS (upS (upS (upS (upS S 3 (S 3)) 4 (S 4)) 16 (S 16)) 17 0) 18 0)), (ad 5, aInt E 100 tx), (ad 9, aInt E 48 (upI fo c (S 16))), (ad 10, aInt E 48 to), (ad 14, aInt E 400 sg), (ad 15, aInt E 101 wt)]) rfl rfl rfl ?_
  have lp22 : ∀ (fu : Nat) (wa : Int) (az : Int) (dg : Int) (e : Int) (w : Int) (o : Int) (sg2 : Int → Int) (wt2 : Int → Int) (to2 : Int → Int), (S 2 - az).toNat < fu → (wa = 0 ∨ wa = 1) → (S 3 ≤ az ∧ az ≤ S 2) → (InvE tx (S 2) sg2 wt2 (S 16) (S 3) wa w e o az) → (e + w ≤ bb + az ∧ S 16 ≤ e ∧ 0 ≤ w ∧ w ≤ az) → (∀ j, 0 ≤ j → j < 400 → -200 ≤ sg2 j ∧ sg2 j ≤ 20000) → (∀ j, 0 ≤ j → j < 101 → 0 ≤ wt2 j ∧ wt2 j ≤ 200) → (∀ j, j < S 16 → sg2 j = sg j) → (∀ j, ¬ j = c → to2 j = to j) →  J E 4 Γ (some A) 0 0 [(mo, mO ad (upS (upS (upS (upS (upS S 3 az) 4 dg) 16 e) 17 w) 18 o)), (ad 5, aInt E 100 tx), (ad 9, aInt E 48 (upI fo c (S 16))), (ad 10, aInt E 48 to2), (ad 14, aInt E 400 sg2), (ad 15, aInt E 101 wt2)] 22 [(2, .int (iZ wa)), (0, .ref mo), (1, .int (iZ c))] [] := by
    intro fu
    induction fu with
    | zero =>
      intro wa az dg e w o sg2 wt2 to2 hm
      exact absurd hm (Nat.not_lt_zero _)
    | succ fu ih22 =>
      intro wa az dg e w o sg2 wt2 to2 hm hwa haz hM hc2 hsg2 hwb2 hkp hto2
      refine j_aload_n G 1 rfl d10_takesE_22 ?_
      refine j_VP G (k10_next (xl Γ) E mo ad (upS (upS (upS (upS (upS S 3 az) 4 dg) 16 e) 17 w) 18 o) tx (by first | assumption | omega | (simp only [upS, reduceIte, Nat.reduceEqDiff, eq_self, List.length_cons, List.length_nil, List.length_append] <;> omega)) (by first | assumption | omega | (simp only [upS, reduceIte, Nat.reduceEqDiff, eq_self, List.length_cons, List.length_nil, List.length_append] <;> omega)) (by first | assumption | omega | (simp only [upS, reduceIte, Nat.reduceEqDiff, eq_self, List.length_cons, List.length_nil, List.length_append] <;> omega))) mw10_next ml10_223 [0, 1] rfl 0 10 rfl rfl rfl ⟨Nat.le_of_ble_eq_true rfl, Nat.le_of_ble_eq_true rfl⟩ rfl (rest := []) rfl (Nat.le_of_ble_eq_true rfl) d10_takesE_23 ⟨Nat.le_of_ble_eq_true rfl, Nat.le_of_ble_eq_true rfl⟩ (fun r hr => ?_)
      obtain ⟨v2, rfl, ⟨hq1_0, hq1_1, hq1_2⟩⟩ := hr
      try simp only [upS, reduceIte, Nat.reduceEqDiff, eq_self] at hq1_0 hq1_1 hq1_2
      have hb0 := hq1_0
      have hb1 := hq1_1
      have hb2 := hq1_2
      refine j_istore_n G d10_takesE_26 (by decide) rfl ?_
      refine j_iload_n G 1 rfl d10_takesE_27 ?_
      refine j_if_eq (tgt := 110) G d10_takesE_28 (by decide) (by omega) (fun h3 => ?_) (fun h3 => ?_)
      ·
        obtain ⟨σ, vv, hH, hR⟩ := (hM.resolve_left (fun q => by have := q.1; omega)).2
        have hoo := hH.o0
        refine j_iload_n G 0 rfl d10_takesE_110 ?_
        refine j_bipush G d10_takesE_111 rfl ?_
        refine j_icmp_eq (tgt := 122) G d10_takesE_113 (by decide) (by omega) (by decide) (fun h4 => ?_) (fun h4 => ?_)
        ·
          refine j_aload_n G 2 rfl d10_takesE_122 ?_
          refine j_iload_n G 0 rfl d10_takesE_123 ?_
          refine j_VM G (rm' := { frames := 1, cells := 0, slots := 0, locals := 21 }) (wc := [(mo, mO ad (upS (upS (upS (upS (upS S 3 az) 4 dg) 16 e) 17 w) 18 o)), (ad 14, aInt E 400 sg2), (ad 15, aInt E 101 wt2)]) (wr := [(ad 5, aInt E 100 tx), (ad 9, aInt E 48 (upI fo c (S 16))), (ad 10, aInt E 48 to2)]) (k10_settle (xl Γ) E mo ad (upS (upS (upS (upS (upS S 3 az) 4 dg) 16 e) 17 w) 18 o) sg2 wt2 σ vv (S 16) v2 (by first | assumption | omega | (simp only [upS, reduceIte, Nat.reduceEqDiff, eq_self, List.length_cons, List.length_nil, List.length_append] <;> omega)) (by first | assumption | omega | (simp only [upS, reduceIte, Nat.reduceEqDiff, eq_self, List.length_cons, List.length_nil, List.length_append] <;> omega)) (by first | assumption | omega | (simp only [upS, reduceIte, Nat.reduceEqDiff, eq_self, List.length_cons, List.length_nil, List.length_append] <;> omega)) (by first | assumption | omega | (simp only [upS, reduceIte, Nat.reduceEqDiff, eq_self, List.length_cons, List.length_nil, List.length_append] <;> omega)) (by first | assumption | omega | (simp only [upS, reduceIte, Nat.reduceEqDiff, eq_self, List.length_cons, List.length_nil, List.length_append] <;> omega))) mw10_settle ml10_248 [0, 4, 5] [1, 2, 3] rfl rfl ⟨rfl, rfl⟩ (by decide) 0 10 rfl rfl rfl ⟨Nat.le_of_ble_eq_true rfl, Nat.le_of_ble_eq_true rfl⟩ rfl (rest := []) rfl (Nat.le_of_ble_eq_true rfl) d10_takesE_124 ⟨Nat.le_of_ble_eq_true rfl, Nat.le_of_ble_eq_true rfl⟩ (fun r w1 hr => ?_)
          obtain ⟨sg1_6, w1_7, e1_8, rfl, rfl, ⟨hq5_0, hq5_1, hq5_2, hq5_3⟩⟩ := hr
          refine j_eq (ws' := [(ad 5, aInt E 100 tx), (ad 9, aInt E 48 (upI fo c (S 16))), (ad 10, aInt E 48 to2), (mo, mO ad (upS (upS (upS (upS (upS S 3 az) 4 dg) 18 o) 17 w1_7) 16 e1_8)), (ad 14, aInt E 400 sg1_6), (ad 15, aInt E 101 wt2)]) rfl rfl rfl ?_
          try simp only [upS, reduceIte, Nat.reduceEqDiff, eq_self] at hq5_0 hq5_1 hq5_2 hq5_3
          have hg0 := hq5_0
          have hg1 := hq5_1
          have hsgN := hq5_2
          have hg3 := hq5_3
          have hkpN := fun j (h : j < S 16) => (hg3 j (by omega)).trans (hkp j h)
          have hWn := wnt_bin hg0.1 (c := nx tx (S 2) az) (by omega)
          have hRn := hR.tr (Rc.st (stp_bin (U := tx) (n := S 2) (p := az) (σ := σ) (v := vv) (by omega)) Rc.rf)
          rw [← hb0] at hWn hRn
          refine j_aload_n G 2 rfl d10_takesE_127 ?_
          refine j_get G 3 10 15 in10 fl10_56 d10_takesE_128 rfl rfl (by decide) (v := .ref (ad 15)) rfl rfl ?_
          refine j_aload_n G 2 rfl d10_takesE_131 ?_
          refine j_get G 3 10 17 in10 fl10_62 d10_takesE_132 rfl rfl (by decide) (v := .int (iZ w1_7)) rfl rfl ?_
          refine j_iload_n G 0 rfl d10_takesE_135 ?_
          refine j_iast G 5 rfl (by omega) d10_takesE_136 ?_
          refine j_aload_n G 2 rfl d10_takesE_137 ?_
          refine j_dup G d10_takesE_138 rfl ?_
          refine j_get G 3 10 17 in10 fl10_62 d10_takesE_139 rfl rfl (by decide) (v := .int (iZ w1_7)) rfl rfl ?_
          refine j_iconst G d10_takesE_142 ?_
          refine j_iadd G d10_takesE_143 ?_
          refine j_put G 3 10 17 in10 tyok10 nm10 fl10_62 d10_takesE_144 rfl rfl (by decide) ⟨rfl, rfl⟩ rfl rfl (Nat.le_of_ble_eq_true rfl) (e := mO ad (upS (upS (upS (upS (upS S 3 az) 4 dg) 18 o) 16 e1_8) 17 (w1_7 + 1))) rfl ?_
          refine j_iconst G d10_takesE_147 ?_
          refine j_istore_n G d10_takesE_148 (by decide) rfl ?_
          refine j_aload_n G 2 rfl d10_takesE_149 ?_
          refine j_dup G d10_takesE_150 rfl ?_
          refine j_get G 3 10 3 in10 fl10_19 d10_takesE_151 rfl rfl (by decide) (v := .int (iZ az)) rfl rfl ?_
          refine j_iconst G d10_takesE_154 ?_
          refine j_iadd G d10_takesE_155 ?_
          refine j_put G 3 10 3 in10 tyok10 nm10 fl10_19 d10_takesE_156 rfl rfl (by decide) ⟨rfl, rfl⟩ rfl rfl (Nat.le_of_ble_eq_true rfl) (e := mO ad (upS (upS (upS (upS (upS S 4 dg) 18 o) 16 e1_8) 17 (w1_7 + 1)) 3 (az + 1))) rfl ?_
          refine j_goto (tgt := 22) G d10_takesE_159 (by decide) ?_
          refine j_locs (ls' := [(2, .int (iZ 1)), (0, .ref mo), (1, .int (iZ c))]) [0, 2, 3] rfl ?_
          refine j_perm (ws' := [(mo, mO ad (upS (upS (upS (upS (upS S 4 dg) 18 o) 16 e1_8) 17 (w1_7 + 1)) 3 (az + 1))), (ad 5, aInt E 100 tx), (ad 9, aInt E 48 (upI fo c (S 16))), (ad 10, aInt E 48 to2), (ad 14, aInt E 400 sg1_6), (ad 15, aInt E 101 (upI wt2 w1_7 v2))]) [3, 0, 1, 2, 4, 5] rfl rfl rfl ?_
          refine j_eq (ws' := [(mo, mO ad (upS (upS (upS (upS (upS S 3 (az + 1)) 4 dg) 16 e1_8) 17 (w1_7 + 1)) 18 o)), (ad 5, aInt E 100 tx), (ad 9, aInt E 48 (upI fo c (S 16))), (ad 10, aInt E 48 to2), (ad 14, aInt E 400 sg1_6), (ad 15, aInt E 101 (upI wt2 w1_7 v2))]) rfl rfl rfl ?_
          exact ih22 1 (az + 1) dg e1_8 (w1_7 + 1) o sg1_6 (upI wt2 w1_7 v2) to2 (by omega) (by first | assumption | omega) (by first | assumption | omega) (by first | exact Or.inl ⟨by omega, _, hWn, hRn⟩ | exact Or.inr ⟨by omega, _, _, hHn, hRn⟩) (by first | assumption | omega) (by first | exact hsgN | exact hsg2) (by first | exact hwb2 | exact upb' hwb2 (by omega)) (by first | exact hkpN | exact hkp) (by first | exact hto2 | exact hto3 _)
        ·
          refine j_iload_n G 0 rfl d10_takesE_116 ?_
          refine j_bipush G d10_takesE_117 rfl ?_
          refine j_icmp_ne (tgt := 162) G d10_takesE_119 (by decide) (by omega) (by decide) (fun h9 => ?_) (fun h9 => ?_)
          ·
            refine j_aload_n G 2 rfl d10_takesE_162 ?_
            refine j_bipush G d10_takesE_163 rfl ?_
            refine j_VM G (rm' := { frames := 1, cells := 0, slots := 0, locals := 21 }) (wc := [(mo, mO ad (upS (upS (upS (upS (upS S 3 az) 4 dg) 16 e) 17 w) 18 o)), (ad 14, aInt E 400 sg2), (ad 15, aInt E 101 wt2)]) (wr := [(ad 5, aInt E 100 tx), (ad 9, aInt E 48 (upI fo c (S 16))), (ad 10, aInt E 48 to2)]) (k10_settle (xl Γ) E mo ad (upS (upS (upS (upS (upS S 3 az) 4 dg) 16 e) 17 w) 18 o) sg2 wt2 σ vv (S 16) 124 (by first | assumption | omega | (simp only [upS, reduceIte, Nat.reduceEqDiff, eq_self, List.length_cons, List.length_nil, List.length_append] <;> omega)) (by first | assumption | omega | (simp only [upS, reduceIte, Nat.reduceEqDiff, eq_self, List.length_cons, List.length_nil, List.length_append] <;> omega)) (by first | assumption | omega | (simp only [upS, reduceIte, Nat.reduceEqDiff, eq_self, List.length_cons, List.length_nil, List.length_append] <;> omega)) (by first | assumption | omega | (simp only [upS, reduceIte, Nat.reduceEqDiff, eq_self, List.length_cons, List.length_nil, List.length_append] <;> omega)) (by first | assumption | omega | (simp only [upS, reduceIte, Nat.reduceEqDiff, eq_self, List.length_cons, List.length_nil, List.length_append] <;> omega))) mw10_settle ml10_248 [0, 4, 5] [1, 2, 3] rfl rfl ⟨rfl, rfl⟩ (by decide) 0 10 rfl rfl rfl ⟨Nat.le_of_ble_eq_true rfl, Nat.le_of_ble_eq_true rfl⟩ rfl (rest := []) rfl (Nat.le_of_ble_eq_true rfl) d10_takesE_165 ⟨Nat.le_of_ble_eq_true rfl, Nat.le_of_ble_eq_true rfl⟩ (fun r w1 hr => ?_)
            obtain ⟨sg1_11, w1_12, e1_13, rfl, rfl, ⟨hq10_0, hq10_1, hq10_2, hq10_3⟩⟩ := hr
            refine j_eq (ws' := [(ad 5, aInt E 100 tx), (ad 9, aInt E 48 (upI fo c (S 16))), (ad 10, aInt E 48 to2), (mo, mO ad (upS (upS (upS (upS (upS S 3 az) 4 dg) 18 o) 17 w1_12) 16 e1_13)), (ad 14, aInt E 400 sg1_11), (ad 15, aInt E 101 wt2)]) rfl rfl rfl ?_
            try simp only [upS, reduceIte, Nat.reduceEqDiff, eq_self] at hq10_0 hq10_1 hq10_2 hq10_3
            have hk0 := hq10_0
            have hk1 := hq10_1
            have hsgN := hq10_2
            have hk3 := hq10_3
            have hkpN := fun j (h : j < S 16) => (hk3 j (by omega)).trans (hkp j h)
            obtain ⟨σ1, u1, hs1⟩ : ∃ σ1 u1, stl 124 σ vv = (σ1, u1) := ⟨_, _, rfl⟩
            rw [hs1] at hk0
            have hH1 := hk0.1
            have hid := hk0.2
            have hcl := stp_cls (U := tx) (n := S 2) (p := az) (σ := σ) (v := vv) (by omega)
            rw [hs1] at hcl
            dsimp only at hH1 hid
            refine j_aload_n G 2 rfl d10_takesE_168 ?_
            refine j_get G 3 10 10 in10 fl10_41 d10_takesE_169 rfl rfl (by decide) (v := .ref (ad 10)) rfl rfl ?_
            refine j_iload_n G 3 rfl d10_takesE_172 ?_
            refine j_aload_n G 2 rfl d10_takesE_173 ?_
            refine j_get G 3 10 16 in10 fl10_59 d10_takesE_174 rfl rfl (by decide) (v := .int (iZ e1_13)) rfl rfl ?_
            refine j_iast G 2 rfl (by omega) d10_takesE_177 ?_
            have hto3 := fun x j (h : ¬ j = c) => (upI_ne (g := to2) (v := x) h).trans (hto2 j h)
            refine j_aload_n G 2 rfl d10_takesE_178 ?_
            refine j_get G 3 10 17 in10 fl10_62 d10_takesE_179 rfl rfl (by decide) (v := .int (iZ w1_12)) rfl rfl ?_
            refine j_if_ne (tgt := 187) G d10_takesE_182 (by decide) (by omega) (fun h14 => ?_) (fun h14 => ?_)
            ·
              obtain ⟨hop, f, hf⟩ := hav_open hH1 (by omega) hid
              generalize σ1.tail = tl at hf hop
              subst hf
              refine j_iload_n G 0 rfl d10_takesE_187 ?_
              refine j_bipush G d10_takesE_188 rfl ?_
              refine j_icmp_eq (tgt := 195) G d10_takesE_190 (by decide) (by omega) (by decide) (fun h15 => ?_) (fun h15 => ?_)
              ·
                have hcm : clsM tx (S 2) az (f :: tl, u1) = (1, (whl tl u1).1, (whl tl u1).2, az + 1) := if_pos (by omega)
                rw [hcm] at hcl
                have hRn := hR.tr (Rc.st hcl Rc.rf)
                refine j_aload_n G 2 rfl d10_takesE_195 ?_
                refine j_dup G d10_takesE_196 rfl ?_
                refine j_get G 3 10 17 in10 fl10_62 d10_takesE_197 rfl rfl (by decide) (v := .int (iZ w1_12)) rfl rfl ?_
                refine j_iconst G d10_takesE_200 ?_
                refine j_isub G d10_takesE_201 ?_
                refine j_put G 3 10 17 in10 tyok10 nm10 fl10_62 d10_takesE_202 rfl rfl (by decide) ⟨rfl, rfl⟩ rfl rfl (Nat.le_of_ble_eq_true rfl) (e := mO ad (upS (upS (upS (upS (upS S 3 az) 4 dg) 18 o) 16 e1_13) 17 (w1_12 - 1))) rfl ?_
                refine j_aload_n G 2 rfl d10_takesE_205 ?_
                refine j_dup G d10_takesE_206 rfl ?_
                refine j_get G 3 10 18 in10 fl10_65 d10_takesE_207 rfl rfl (by decide) (v := .int (iZ o)) rfl rfl ?_
                refine j_iconst G d10_takesE_210 ?_
                refine j_isub G d10_takesE_211 ?_
                refine j_put G 3 10 18 in10 tyok10 nm10 fl10_65 d10_takesE_212 rfl rfl (by decide) ⟨rfl, rfl⟩ rfl rfl (Nat.le_of_ble_eq_true rfl) (e := mO ad (upS (upS (upS (upS (upS S 3 az) 4 dg) 16 e1_13) 17 (w1_12 - 1)) 18 (o - 1))) rfl ?_
                refine j_aload_n G 2 rfl d10_takesE_215 ?_
                refine j_dup G d10_takesE_216 rfl ?_
                refine j_get G 3 10 3 in10 fl10_19 d10_takesE_217 rfl rfl (by decide) (v := .int (iZ az)) rfl rfl ?_
                refine j_iconst G d10_takesE_220 ?_
                refine j_iadd G d10_takesE_221 ?_
                refine j_put G 3 10 3 in10 tyok10 nm10 fl10_19 d10_takesE_222 rfl rfl (by decide) ⟨rfl, rfl⟩ rfl rfl (Nat.le_of_ble_eq_true rfl) (e := mO ad (upS (upS (upS (upS (upS S 4 dg) 16 e1_13) 17 (w1_12 - 1)) 18 (o - 1)) 3 (az + 1))) rfl ?_
                refine j_aload_n G 2 rfl d10_takesE_225 ?_
                refine j_VM G (rm' := { frames := 1, cells := 0, slots := 0, locals := 21 }) (wc := [(mo, mO ad (upS (upS (upS (upS (upS S 4 dg) 16 e1_13) 17 (w1_12 - 1)) 18 (o - 1)) 3 (az + 1))), (ad 14, aInt E 400 sg1_11), (ad 15, aInt E 101 wt2)]) (wr := [(ad 5, aInt E 100 tx), (ad 9, aInt E 48 (upI fo c (S 16))), (ad 10, aInt E 48 (upI to2 c e1_13))]) (k10_whole (xl Γ) E mo ad (upS (upS (upS (upS (upS S 4 dg) 16 e1_13) 17 (w1_12 - 1)) 18 (o - 1)) 3 (az + 1)) sg1_11 wt2 tl u1 (S 16) (by first | assumption | omega | (simp only [upS, reduceIte, Nat.reduceEqDiff, eq_self, List.length_cons, List.length_nil, List.length_append] <;> omega)) (by first | assumption | omega | (simp only [upS, reduceIte, Nat.reduceEqDiff, eq_self, List.length_cons, List.length_nil, List.length_append] <;> omega)) (by first | assumption | omega | (simp only [upS, reduceIte, Nat.reduceEqDiff, eq_self, List.length_cons, List.length_nil, List.length_append] <;> omega)) (by first | assumption | omega | (simp only [upS, reduceIte, Nat.reduceEqDiff, eq_self, List.length_cons, List.length_nil, List.length_append] <;> omega))) mw10_whole ml10_242 [3, 4, 5] [0, 1, 2] rfl rfl ⟨rfl, rfl⟩ (by decide) 3 10 rfl rfl rfl ⟨Nat.le_of_ble_eq_true rfl, Nat.le_of_ble_eq_true rfl⟩ rfl (rest := []) rfl (Nat.le_of_ble_eq_true rfl) d10_takesE_226 ⟨Nat.le_of_ble_eq_true rfl, Nat.le_of_ble_eq_true rfl⟩ (fun r w1 hr => ?_)
                obtain ⟨sg1_17, w1_18, e1_19, o1_20, rfl, rfl, ⟨hq16_0, hq16_1, hq16_2, hq16_3⟩⟩ := hr
                refine j_eq (ws' := [(ad 5, aInt E 100 tx), (ad 9, aInt E 48 (upI fo c (S 16))), (ad 10, aInt E 48 (upI to2 c e1_13)), (mo, mO ad (upS (upS (upS (upS (upS S 4 dg) 3 (az + 1)) 17 w1_18) 16 e1_19) 18 o1_20)), (ad 14, aInt E 400 sg1_17), (ad 15, aInt E 101 wt2)]) rfl rfl rfl ?_
                try simp only [upS, reduceIte, Nat.reduceEqDiff, eq_self] at hq16_0 hq16_1 hq16_2 hq16_3
                have hHn := hq16_0
                have hw1 := hq16_1
                have hsgM := hq16_2
                have hw3 := hq16_3
                have hkpM := fun j (h : j < S 16) => (hw3 j (by omega)).trans (hkpN j h)
                clear hsgN hkpN
                have hsgN := hsgM
                have hkpN := hkpM
                refine j_goto (tgt := 22) G d10_takesE_229 (by decide) ?_
                refine j_locs (ls' := [(2, .int (iZ wa)), (0, .ref mo), (1, .int (iZ c))]) [1, 2, 3] rfl ?_
                refine j_perm (ws' := [(mo, mO ad (upS (upS (upS (upS (upS S 4 dg) 3 (az + 1)) 17 w1_18) 16 e1_19) 18 o1_20)), (ad 5, aInt E 100 tx), (ad 9, aInt E 48 (upI fo c (S 16))), (ad 10, aInt E 48 (upI to2 c e1_13)), (ad 14, aInt E 400 sg1_17), (ad 15, aInt E 101 wt2)]) [3, 0, 1, 2, 4, 5] rfl rfl rfl ?_
                refine j_eq (ws' := [(mo, mO ad (upS (upS (upS (upS (upS S 3 (az + 1)) 4 dg) 16 e1_19) 17 w1_18) 18 o1_20)), (ad 5, aInt E 100 tx), (ad 9, aInt E 48 (upI fo c (S 16))), (ad 10, aInt E 48 (upI to2 c e1_13)), (ad 14, aInt E 400 sg1_17), (ad 15, aInt E 101 wt2)]) rfl rfl rfl ?_
                exact ih22 wa (az + 1) dg e1_19 w1_18 o1_20 sg1_17 wt2 (upI to2 c e1_13) (by omega) (by first | assumption | omega) (by first | assumption | omega) (by first | exact Or.inl ⟨by omega, _, hWn, hRn⟩ | exact Or.inr ⟨by omega, _, _, hHn, hRn⟩) (by first | assumption | omega) (by first | exact hsgN | exact hsg2) (by first | exact hwb2 | exact upb' hwb2 (by omega)) (by first | exact hkpN | exact hkp) (by first | exact hto2 | exact hto3 _)
              ·
                have hcm : clsM tx (S 2) az (f :: tl, u1) = (3, [], v0, az) := if_neg (by omega)
                rw [hcm] at hcl
                have hE := exT_e (hR.tr (Rc.st hcl Rc.rf)) (Or.inr rfl)
                refine j_iconst G d10_takesE_193 ?_
                refine j_perm (ws' := [(mo, mO ad (upS (upS (upS (upS (upS S 3 az) 4 dg) 18 o) 17 w1_12) 16 e1_13)), (ad 5, aInt E 100 tx), (ad 9, aInt E 48 (upI fo c (S 16))), (ad 10, aInt E 48 (upI to2 c e1_13)), (ad 14, aInt E 400 sg1_11), (ad 15, aInt E 101 wt2)]) [3, 0, 1, 2, 4, 5] rfl rfl rfl ?_
                exact j_zret G F d10_takesE_194 (by decide) ⟨0, (upI fo c (S 16)), (upI to2 c e1_13), sg1_11, wt2, az, dg, w1_12, e1_13, o, rfl, rfl, (by first | (right; refine ⟨⟨⟨congrArg Prod.fst hE, (by first | exact ht2.trans (congrArg (fun m => m.2.2.2) hE).symm | exact (congrArg (fun m => m.2.2.2) hE).symm), rfl⟩, ⟨by omega, by omega⟩, ⟨by omega, by omega⟩, (by first | exact hsgN | exact hsg2), (by first | exact hkpN | exact hkp), (by first | exact hto3 _ | exact hto2), hwb2⟩, rfl⟩; done) | (left; exact ⟨⟨⟨congrArg Prod.fst hE, (congrArg (fun m => m.2.2.2) hE).symm, (by rw [hE]; exact hd2), upI_eq, rfl⟩, ⟨by omega, by omega⟩, ⟨by omega, by omega⟩, hsgN, hkpN, hto3 _, hwb2⟩, rfl⟩))⟩
            ·
              obtain ⟨hd1, hd2⟩ := hav_done hH1 (by omega)
              subst hd1
              have hE := exT_e (hR.tr (Rc.st hcl Rc.rf)) (Or.inl rfl)
              refine j_iconst G d10_takesE_185 ?_
              refine j_perm (ws' := [(mo, mO ad (upS (upS (upS (upS (upS S 3 az) 4 dg) 18 o) 17 w1_12) 16 e1_13)), (ad 5, aInt E 100 tx), (ad 9, aInt E 48 (upI fo c (S 16))), (ad 10, aInt E 48 (upI to2 c e1_13)), (ad 14, aInt E 400 sg1_11), (ad 15, aInt E 101 wt2)]) [3, 0, 1, 2, 4, 5] rfl rfl rfl ?_
              exact j_zret G F d10_takesE_186 (by decide) ⟨1, (upI fo c (S 16)), (upI to2 c e1_13), sg1_11, wt2, az, dg, w1_12, e1_13, o, rfl, rfl, (by first | (right; refine ⟨⟨⟨congrArg Prod.fst hE, (by first | exact ht2.trans (congrArg (fun m => m.2.2.2) hE).symm | exact (congrArg (fun m => m.2.2.2) hE).symm), rfl⟩, ⟨by omega, by omega⟩, ⟨by omega, by omega⟩, (by first | exact hsgN | exact hsg2), (by first | exact hkpN | exact hkp), (by first | exact hto3 _ | exact hto2), hwb2⟩, rfl⟩; done) | (left; exact ⟨⟨⟨congrArg Prod.fst hE, (congrArg (fun m => m.2.2.2) hE).symm, (by rw [hE]; exact hd2), upI_eq, rfl⟩, ⟨by omega, by omega⟩, ⟨by omega, by omega⟩, hsgN, hkpN, hto3 _, hwb2⟩, rfl⟩))⟩
          ·
            refine j_aload_n G 2 rfl d10_takesE_122 ?_
            refine j_iload_n G 0 rfl d10_takesE_123 ?_
            refine j_VM G (rm' := { frames := 1, cells := 0, slots := 0, locals := 21 }) (wc := [(mo, mO ad (upS (upS (upS (upS (upS S 3 az) 4 dg) 16 e) 17 w) 18 o)), (ad 14, aInt E 400 sg2), (ad 15, aInt E 101 wt2)]) (wr := [(ad 5, aInt E 100 tx), (ad 9, aInt E 48 (upI fo c (S 16))), (ad 10, aInt E 48 to2)]) (k10_settle (xl Γ) E mo ad (upS (upS (upS (upS (upS S 3 az) 4 dg) 16 e) 17 w) 18 o) sg2 wt2 σ vv (S 16) v2 (by first | assumption | omega | (simp only [upS, reduceIte, Nat.reduceEqDiff, eq_self, List.length_cons, List.length_nil, List.length_append] <;> omega)) (by first | assumption | omega | (simp only [upS, reduceIte, Nat.reduceEqDiff, eq_self, List.length_cons, List.length_nil, List.length_append] <;> omega)) (by first | assumption | omega | (simp only [upS, reduceIte, Nat.reduceEqDiff, eq_self, List.length_cons, List.length_nil, List.length_append] <;> omega)) (by first | assumption | omega | (simp only [upS, reduceIte, Nat.reduceEqDiff, eq_self, List.length_cons, List.length_nil, List.length_append] <;> omega)) (by first | assumption | omega | (simp only [upS, reduceIte, Nat.reduceEqDiff, eq_self, List.length_cons, List.length_nil, List.length_append] <;> omega))) mw10_settle ml10_248 [0, 4, 5] [1, 2, 3] rfl rfl ⟨rfl, rfl⟩ (by decide) 0 10 rfl rfl rfl ⟨Nat.le_of_ble_eq_true rfl, Nat.le_of_ble_eq_true rfl⟩ rfl (rest := []) rfl (Nat.le_of_ble_eq_true rfl) d10_takesE_124 ⟨Nat.le_of_ble_eq_true rfl, Nat.le_of_ble_eq_true rfl⟩ (fun r w1 hr => ?_)
            obtain ⟨sg1_22, w1_23, e1_24, rfl, rfl, ⟨hq21_0, hq21_1, hq21_2, hq21_3⟩⟩ := hr
            refine j_eq (ws' := [(ad 5, aInt E 100 tx), (ad 9, aInt E 48 (upI fo c (S 16))), (ad 10, aInt E 48 to2), (mo, mO ad (upS (upS (upS (upS (upS S 3 az) 4 dg) 18 o) 17 w1_23) 16 e1_24)), (ad 14, aInt E 400 sg1_22), (ad 15, aInt E 101 wt2)]) rfl rfl rfl ?_
            try simp only [upS, reduceIte, Nat.reduceEqDiff, eq_self] at hq21_0 hq21_1 hq21_2 hq21_3
            have hg0 := hq21_0
            have hg1 := hq21_1
            have hsgN := hq21_2
            have hg3 := hq21_3
            have hkpN := fun j (h : j < S 16) => (hg3 j (by omega)).trans (hkp j h)
            have hWn := wnt_bin hg0.1 (c := nx tx (S 2) az) (by omega)
            have hRn := hR.tr (Rc.st (stp_bin (U := tx) (n := S 2) (p := az) (σ := σ) (v := vv) (by omega)) Rc.rf)
            rw [← hb0] at hWn hRn
            refine j_aload_n G 2 rfl d10_takesE_127 ?_
            refine j_get G 3 10 15 in10 fl10_56 d10_takesE_128 rfl rfl (by decide) (v := .ref (ad 15)) rfl rfl ?_
            refine j_aload_n G 2 rfl d10_takesE_131 ?_
            refine j_get G 3 10 17 in10 fl10_62 d10_takesE_132 rfl rfl (by decide) (v := .int (iZ w1_23)) rfl rfl ?_
            refine j_iload_n G 0 rfl d10_takesE_135 ?_
            refine j_iast G 5 rfl (by omega) d10_takesE_136 ?_
            refine j_aload_n G 2 rfl d10_takesE_137 ?_
            refine j_dup G d10_takesE_138 rfl ?_
            refine j_get G 3 10 17 in10 fl10_62 d10_takesE_139 rfl rfl (by decide) (v := .int (iZ w1_23)) rfl rfl ?_
            refine j_iconst G d10_takesE_142 ?_
            refine j_iadd G d10_takesE_143 ?_
            refine j_put G 3 10 17 in10 tyok10 nm10 fl10_62 d10_takesE_144 rfl rfl (by decide) ⟨rfl, rfl⟩ rfl rfl (Nat.le_of_ble_eq_true rfl) (e := mO ad (upS (upS (upS (upS (upS S 3 az) 4 dg) 18 o) 16 e1_24) 17 (w1_23 + 1))) rfl ?_
            refine j_iconst G d10_takesE_147 ?_
            refine j_istore_n G d10_takesE_148 (by decide) rfl ?_
            refine j_aload_n G 2 rfl d10_takesE_149 ?_
            refine j_dup G d10_takesE_150 rfl ?_
            refine j_get G 3 10 3 in10 fl10_19 d10_takesE_151 rfl rfl (by decide) (v := .int (iZ az)) rfl rfl ?_
            refine j_iconst G d10_takesE_154 ?_
            refine j_iadd G d10_takesE_155 ?_
            refine j_put G 3 10 3 in10 tyok10 nm10 fl10_19 d10_takesE_156 rfl rfl (by decide) ⟨rfl, rfl⟩ rfl rfl (Nat.le_of_ble_eq_true rfl) (e := mO ad (upS (upS (upS (upS (upS S 4 dg) 18 o) 16 e1_24) 17 (w1_23 + 1)) 3 (az + 1))) rfl ?_
            refine j_goto (tgt := 22) G d10_takesE_159 (by decide) ?_
            refine j_locs (ls' := [(2, .int (iZ 1)), (0, .ref mo), (1, .int (iZ c))]) [0, 2, 3] rfl ?_
            refine j_perm (ws' := [(mo, mO ad (upS (upS (upS (upS (upS S 4 dg) 18 o) 16 e1_24) 17 (w1_23 + 1)) 3 (az + 1))), (ad 5, aInt E 100 tx), (ad 9, aInt E 48 (upI fo c (S 16))), (ad 10, aInt E 48 to2), (ad 14, aInt E 400 sg1_22), (ad 15, aInt E 101 (upI wt2 w1_23 v2))]) [3, 0, 1, 2, 4, 5] rfl rfl rfl ?_
            refine j_eq (ws' := [(mo, mO ad (upS (upS (upS (upS (upS S 3 (az + 1)) 4 dg) 16 e1_24) 17 (w1_23 + 1)) 18 o)), (ad 5, aInt E 100 tx), (ad 9, aInt E 48 (upI fo c (S 16))), (ad 10, aInt E 48 to2), (ad 14, aInt E 400 sg1_22), (ad 15, aInt E 101 (upI wt2 w1_23 v2))]) rfl rfl rfl ?_
            exact ih22 1 (az + 1) dg e1_24 (w1_23 + 1) o sg1_22 (upI wt2 w1_23 v2) to2 (by omega) (by first | assumption | omega) (by first | assumption | omega) (by first | exact Or.inl ⟨by omega, _, hWn, hRn⟩ | exact Or.inr ⟨by omega, _, _, hHn, hRn⟩) (by first | assumption | omega) (by first | exact hsgN | exact hsg2) (by first | exact hwb2 | exact upb' hwb2 (by omega)) (by first | exact hkpN | exact hkp) (by first | exact hto2 | exact hto3 _)
      ·
        obtain ⟨σ, hW, hR⟩ := (hM.resolve_right (fun q => by have := q.1; omega)).2
        have hoo := hW.o0
        have hop := hW.2.1
        have hol := opn_le hW.1
        refine j_iload_n G 0 rfl d10_takesE_31 ?_
        refine j_bipush G d10_takesE_32 rfl ?_
        refine j_icmp_eq (tgt := 43) G d10_takesE_34 (by decide) (by omega) (by decide) (fun h25 => ?_) (fun h25 => ?_)
        ·
          refine j_aload_n G 2 rfl d10_takesE_43 ?_
          refine j_get G 0 10 18 in10 fl10_65 d10_takesE_44 rfl rfl (by decide) (v := .int (iZ o)) rfl rfl ?_
          refine j_iconst G d10_takesE_47 ?_
          refine j_icmp_ne (tgt := 53) G d10_takesE_48 (by decide) (by omega) (by decide) (fun h26 => ?_) (fun h26 => ?_)
          ·
            have hWn := wnt_push hW (c := nx tx (S 2) az) (by omega)
            have hsp := stp_push (U := tx) (n := S 2) (p := az) (σ := σ) (by omega) (by omega)
            have hRn := hR.tr (Rc.st hsp Rc.rf)
            rw [← hb0] at hWn hRn
            refine j_aload_n G 2 rfl d10_takesE_53 ?_
            refine j_dup G d10_takesE_54 rfl ?_
            refine j_get G 0 10 18 in10 fl10_65 d10_takesE_55 rfl rfl (by decide) (v := .int (iZ o)) rfl rfl ?_
            refine j_iconst G d10_takesE_58 ?_
            refine j_iadd G d10_takesE_59 ?_
            refine j_put G 0 10 18 in10 tyok10 nm10 fl10_65 d10_takesE_60 rfl rfl (by decide) ⟨rfl, rfl⟩ rfl rfl (Nat.le_of_ble_eq_true rfl) (e := mO ad (upS (upS (upS (upS (upS S 3 az) 4 dg) 16 e) 17 w) 18 (o + 1))) rfl ?_
            refine j_aload_n G 2 rfl d10_takesE_63 ?_
            refine j_get G 0 10 15 in10 fl10_56 d10_takesE_64 rfl rfl (by decide) (v := .ref (ad 15)) rfl rfl ?_
            refine j_aload_n G 2 rfl d10_takesE_67 ?_
            refine j_get G 0 10 17 in10 fl10_62 d10_takesE_68 rfl rfl (by decide) (v := .int (iZ w)) rfl rfl ?_
            refine j_iload_n G 0 rfl d10_takesE_71 ?_
            refine j_iast G 5 rfl (by omega) d10_takesE_72 ?_
            refine j_aload_n G 2 rfl d10_takesE_73 ?_
            refine j_dup G d10_takesE_74 rfl ?_
            refine j_get G 0 10 17 in10 fl10_62 d10_takesE_75 rfl rfl (by decide) (v := .int (iZ w)) rfl rfl ?_
            refine j_iconst G d10_takesE_78 ?_
            refine j_iadd G d10_takesE_79 ?_
            refine j_put G 0 10 17 in10 tyok10 nm10 fl10_62 d10_takesE_80 rfl rfl (by decide) ⟨rfl, rfl⟩ rfl rfl (Nat.le_of_ble_eq_true rfl) (e := mO ad (upS (upS (upS (upS (upS S 3 az) 4 dg) 16 e) 18 (o + 1)) 17 (w + 1))) rfl ?_
            refine j_aload_n G 2 rfl d10_takesE_83 ?_
            refine j_dup G d10_takesE_84 rfl ?_
            refine j_get G 0 10 3 in10 fl10_19 d10_takesE_85 rfl rfl (by decide) (v := .int (iZ az)) rfl rfl ?_
            refine j_iconst G d10_takesE_88 ?_
            refine j_iadd G d10_takesE_89 ?_
            refine j_put G 0 10 3 in10 tyok10 nm10 fl10_19 d10_takesE_90 rfl rfl (by decide) ⟨rfl, rfl⟩ rfl rfl (Nat.le_of_ble_eq_true rfl) (e := mO ad (upS (upS (upS (upS (upS S 4 dg) 16 e) 18 (o + 1)) 17 (w + 1)) 3 (az + 1))) rfl ?_
            refine j_goto (tgt := 22) G d10_takesE_93 (by decide) ?_
            refine j_locs (ls' := [(2, .int (iZ wa)), (0, .ref mo), (1, .int (iZ c))]) [1, 2, 3] rfl ?_
            refine j_eq (ws' := [(mo, mO ad (upS (upS (upS (upS (upS S 3 (az + 1)) 4 dg) 16 e) 17 (w + 1)) 18 (o + 1))), (ad 5, aInt E 100 tx), (ad 9, aInt E 48 (upI fo c (S 16))), (ad 10, aInt E 48 to2), (ad 14, aInt E 400 sg2), (ad 15, aInt E 101 (upI wt2 w v2))]) rfl rfl rfl ?_
            exact ih22 wa (az + 1) dg e (w + 1) (o + 1) sg2 (upI wt2 w v2) to2 (by omega) (by first | assumption | omega) (by first | assumption | omega) (by first | exact Or.inl ⟨by omega, _, hWn, hRn⟩ | exact Or.inr ⟨by omega, _, _, hHn, hRn⟩) (by first | assumption | omega) (by first | exact hsgN | exact hsg2) (by first | exact hwb2 | exact upb' hwb2 (by omega)) (by first | exact hkpN | exact hkp) (by first | exact hto2 | exact hto3 _)
          ·
            have hE := exT_e (hR.tr (Rc.st (stp_full (by omega) (by omega)) Rc.rf)) (Or.inr rfl)
            refine j_iconst G d10_takesE_51 ?_
            exact j_zret G F d10_takesE_52 (by decide) ⟨0, (upI fo c (S 16)), to2, sg2, wt2, az, dg, w, e, o, rfl, rfl, (by first | (right; refine ⟨⟨⟨congrArg Prod.fst hE, (by first | exact ht2.trans (congrArg (fun m => m.2.2.2) hE).symm | exact (congrArg (fun m => m.2.2.2) hE).symm), rfl⟩, ⟨by omega, by omega⟩, ⟨by omega, by omega⟩, (by first | exact hsgN | exact hsg2), (by first | exact hkpN | exact hkp), (by first | exact hto3 _ | exact hto2), hwb2⟩, rfl⟩; done) | (left; exact ⟨⟨⟨congrArg Prod.fst hE, (congrArg (fun m => m.2.2.2) hE).symm, (by rw [hE]; exact hd2), upI_eq, rfl⟩, ⟨by omega, by omega⟩, ⟨by omega, by omega⟩, hsgN, hkpN, hto3 _, hwb2⟩, rfl⟩))⟩
        ·
          refine j_iload_n G 0 rfl d10_takesE_37 ?_
          refine j_bipush G d10_takesE_38 rfl ?_
          refine j_icmp_ne (tgt := 96) G d10_takesE_40 (by decide) (by omega) (by decide) (fun h27 => ?_) (fun h27 => ?_)
          ·
            refine j_aload_n G 2 rfl d10_takesE_96 ?_
            refine j_VM G (rm' := { frames := 3, cells := 0, slots := 0, locals := 65 }) (wc := [(mo, mO ad (upS (upS (upS (upS (upS S 3 az) 4 dg) 16 e) 17 w) 18 o)), (ad 5, aInt E 100 tx), (ad 14, aInt E 400 sg2), (ad 15, aInt E 101 wt2)]) (wr := [(ad 9, aInt E 48 (upI fo c (S 16))), (ad 10, aInt E 48 to2)]) (k10_takesTest (xl Γ) E mo ad (upS (upS (upS (upS (upS S 3 az) 4 dg) 16 e) 17 w) 18 o) tx sg2 wt2 σ (S 16) bb (by first | assumption | omega | (simp only [upS, reduceIte, Nat.reduceEqDiff, eq_self, List.length_cons, List.length_nil, List.length_append] <;> omega)) (by first | assumption | omega | (simp only [upS, reduceIte, Nat.reduceEqDiff, eq_self, List.length_cons, List.length_nil, List.length_append] <;> omega)) (by first | assumption | omega | (simp only [upS, reduceIte, Nat.reduceEqDiff, eq_self, List.length_cons, List.length_nil, List.length_append] <;> omega)) (by first | assumption | omega | (simp only [upS, reduceIte, Nat.reduceEqDiff, eq_self, List.length_cons, List.length_nil, List.length_append] <;> omega)) (by first | assumption | omega | (simp only [upS, reduceIte, Nat.reduceEqDiff, eq_self, List.length_cons, List.length_nil, List.length_append] <;> omega)) (by first | assumption | omega | (simp only [upS, reduceIte, Nat.reduceEqDiff, eq_self, List.length_cons, List.length_nil, List.length_append] <;> omega)) (by first | assumption | omega | (simp only [upS, reduceIte, Nat.reduceEqDiff, eq_self, List.length_cons, List.length_nil, List.length_append] <;> omega)) (by first | assumption | omega | (simp only [upS, reduceIte, Nat.reduceEqDiff, eq_self, List.length_cons, List.length_nil, List.length_append] <;> omega))) mw10_takesTest ml10_245 [0, 1, 4, 5] [2, 3] rfl rfl ⟨rfl, rfl⟩ (by decide) 0 10 rfl rfl rfl ⟨Nat.le_of_ble_eq_true rfl, Nat.le_of_ble_eq_true rfl⟩ rfl (rest := []) rfl (Nat.le_of_ble_eq_true rfl) d10_takesE_97 ⟨Nat.le_of_ble_eq_true rfl, Nat.le_of_ble_eq_true rfl⟩ (fun r w1 hr => ?_)
            obtain ⟨v29, sg1_30, at1_31, dg1_32, w1_33, e1_34, o1_35, rfl, rfl, hq28⟩ := hr
            refine j_eq (ws' := [(ad 9, aInt E 48 (upI fo c (S 16))), (ad 10, aInt E 48 to2), (mo, mO ad (upS (upS (upS (upS (upS S 3 at1_31) 4 dg1_32) 17 w1_33) 16 e1_34) 18 o1_35)), (ad 5, aInt E 100 tx), (ad 14, aInt E 400 sg1_30), (ad 15, aInt E 101 wt2)]) rfl rfl rfl ?_
            try simp only [upS, reduceIte, Nat.reduceEqDiff, eq_self] at hq28
            rcases hq28 with ⟨hq28, rfl⟩ | ⟨hq28, rfl⟩
            ·
              have hs97 := hq28
              refine j_if_eq (tgt := 108) G d10_takesE_100 (by decide) (by decide) (fun h36 => absurd h36 (by decide)) (fun h36 => ?_)
              obtain ⟨ht1, ht2, ht3, hHn, ht4, hsgN, ht6⟩ := hs97
              have hRn := hR.tr (Rc.st (stp_test ht1) Rc.rf)
              rw [← ht2] at hRn
              have hkpN := fun j (h : j < S 16) => (ht6 j (by omega)).trans (hkp j h)
              refine j_iconst G d10_takesE_103 ?_
              refine j_istore_n G d10_takesE_104 (by decide) rfl ?_
              refine j_goto (tgt := 22) G d10_takesE_105 (by decide) ?_
              refine j_locs (ls' := [(2, .int (iZ 0)), (0, .ref mo), (1, .int (iZ c))]) [0, 2, 3] rfl ?_
              refine j_perm (ws' := [(mo, mO ad (upS (upS (upS (upS (upS S 3 at1_31) 4 dg1_32) 17 w1_33) 16 e1_34) 18 o1_35)), (ad 5, aInt E 100 tx), (ad 9, aInt E 48 (upI fo c (S 16))), (ad 10, aInt E 48 to2), (ad 14, aInt E 400 sg1_30), (ad 15, aInt E 101 wt2)]) [2, 3, 0, 1, 4, 5] rfl rfl rfl ?_
              refine j_eq (ws' := [(mo, mO ad (upS (upS (upS (upS (upS S 3 at1_31) 4 dg1_32) 16 e1_34) 17 w1_33) 18 o1_35)), (ad 5, aInt E 100 tx), (ad 9, aInt E 48 (upI fo c (S 16))), (ad 10, aInt E 48 to2), (ad 14, aInt E 400 sg1_30), (ad 15, aInt E 101 wt2)]) rfl rfl rfl ?_
              exact ih22 0 at1_31 dg1_32 e1_34 w1_33 o1_35 sg1_30 wt2 to2 (by omega) (by first | assumption | omega) (by first | assumption | omega) (by first | exact Or.inl ⟨by omega, _, hWn, hRn⟩ | exact Or.inr ⟨by omega, _, _, hHn, hRn⟩) (by first | assumption | omega) (by first | exact hsgN | exact hsg2) (by first | exact hwb2 | exact upb' hwb2 (by omega)) (by first | exact hkpN | exact hkp) (by first | exact hto2 | exact hto3 _)
            ·
              have hs97 := hq28
              refine j_if_eq (tgt := 108) G d10_takesE_100 (by decide) (by decide) (fun h37 => ?_) (fun h37 => absurd h37 (by decide))
              obtain ⟨ht1, ht2, ht3, ht4, hsgN, ht6⟩ := hs97
              have hE := exT_e (hR.tr (Rc.st (stp_bad (by omega) ht1) Rc.rf)) (Or.inr rfl)
              have hkpN := fun j (h : j < S 16) => (ht6 j (by omega)).trans (hkp j h)
              refine j_iconst G d10_takesE_108 ?_
              refine j_perm (ws' := [(mo, mO ad (upS (upS (upS (upS (upS S 3 at1_31) 4 dg1_32) 17 w1_33) 16 e1_34) 18 o1_35)), (ad 5, aInt E 100 tx), (ad 9, aInt E 48 (upI fo c (S 16))), (ad 10, aInt E 48 to2), (ad 14, aInt E 400 sg1_30), (ad 15, aInt E 101 wt2)]) [2, 3, 0, 1, 4, 5] rfl rfl rfl ?_
              exact j_zret G F d10_takesE_109 (by decide) ⟨0, (upI fo c (S 16)), to2, sg1_30, wt2, at1_31, dg1_32, w1_33, e1_34, o1_35, rfl, rfl, (by first | (right; refine ⟨⟨⟨congrArg Prod.fst hE, (by first | exact ht2.trans (congrArg (fun m => m.2.2.2) hE).symm | exact (congrArg (fun m => m.2.2.2) hE).symm), rfl⟩, ⟨by omega, by omega⟩, ⟨by omega, by omega⟩, (by first | exact hsgN | exact hsg2), (by first | exact hkpN | exact hkp), (by first | exact hto3 _ | exact hto2), hwb2⟩, rfl⟩; done) | (left; exact ⟨⟨⟨congrArg Prod.fst hE, (congrArg (fun m => m.2.2.2) hE).symm, (by rw [hE]; exact hd2), upI_eq, rfl⟩, ⟨by omega, by omega⟩, ⟨by omega, by omega⟩, hsgN, hkpN, hto3 _, hwb2⟩, rfl⟩))⟩
          ·
            refine j_aload_n G 2 rfl d10_takesE_43 ?_
            refine j_get G 0 10 18 in10 fl10_65 d10_takesE_44 rfl rfl (by decide) (v := .int (iZ o)) rfl rfl ?_
            refine j_iconst G d10_takesE_47 ?_
            refine j_icmp_ne (tgt := 53) G d10_takesE_48 (by decide) (by omega) (by decide) (fun h38 => ?_) (fun h38 => ?_)
            ·
              have hWn := wnt_push hW (c := nx tx (S 2) az) (by omega)
              have hsp := stp_push (U := tx) (n := S 2) (p := az) (σ := σ) (by omega) (by omega)
              have hRn := hR.tr (Rc.st hsp Rc.rf)
              rw [← hb0] at hWn hRn
              refine j_aload_n G 2 rfl d10_takesE_53 ?_
              refine j_dup G d10_takesE_54 rfl ?_
              refine j_get G 0 10 18 in10 fl10_65 d10_takesE_55 rfl rfl (by decide) (v := .int (iZ o)) rfl rfl ?_
              refine j_iconst G d10_takesE_58 ?_
              refine j_iadd G d10_takesE_59 ?_
              refine j_put G 0 10 18 in10 tyok10 nm10 fl10_65 d10_takesE_60 rfl rfl (by decide) ⟨rfl, rfl⟩ rfl rfl (Nat.le_of_ble_eq_true rfl) (e := mO ad (upS (upS (upS (upS (upS S 3 az) 4 dg) 16 e) 17 w) 18 (o + 1))) rfl ?_
              refine j_aload_n G 2 rfl d10_takesE_63 ?_
              refine j_get G 0 10 15 in10 fl10_56 d10_takesE_64 rfl rfl (by decide) (v := .ref (ad 15)) rfl rfl ?_
              refine j_aload_n G 2 rfl d10_takesE_67 ?_
              refine j_get G 0 10 17 in10 fl10_62 d10_takesE_68 rfl rfl (by decide) (v := .int (iZ w)) rfl rfl ?_
              refine j_iload_n G 0 rfl d10_takesE_71 ?_
              refine j_iast G 5 rfl (by omega) d10_takesE_72 ?_
              refine j_aload_n G 2 rfl d10_takesE_73 ?_
              refine j_dup G d10_takesE_74 rfl ?_
              refine j_get G 0 10 17 in10 fl10_62 d10_takesE_75 rfl rfl (by decide) (v := .int (iZ w)) rfl rfl ?_
              refine j_iconst G d10_takesE_78 ?_
              refine j_iadd G d10_takesE_79 ?_
              refine j_put G 0 10 17 in10 tyok10 nm10 fl10_62 d10_takesE_80 rfl rfl (by decide) ⟨rfl, rfl⟩ rfl rfl (Nat.le_of_ble_eq_true rfl) (e := mO ad (upS (upS (upS (upS (upS S 3 az) 4 dg) 16 e) 18 (o + 1)) 17 (w + 1))) rfl ?_
              refine j_aload_n G 2 rfl d10_takesE_83 ?_
              refine j_dup G d10_takesE_84 rfl ?_
              refine j_get G 0 10 3 in10 fl10_19 d10_takesE_85 rfl rfl (by decide) (v := .int (iZ az)) rfl rfl ?_
              refine j_iconst G d10_takesE_88 ?_
              refine j_iadd G d10_takesE_89 ?_
              refine j_put G 0 10 3 in10 tyok10 nm10 fl10_19 d10_takesE_90 rfl rfl (by decide) ⟨rfl, rfl⟩ rfl rfl (Nat.le_of_ble_eq_true rfl) (e := mO ad (upS (upS (upS (upS (upS S 4 dg) 16 e) 18 (o + 1)) 17 (w + 1)) 3 (az + 1))) rfl ?_
              refine j_goto (tgt := 22) G d10_takesE_93 (by decide) ?_
              refine j_locs (ls' := [(2, .int (iZ wa)), (0, .ref mo), (1, .int (iZ c))]) [1, 2, 3] rfl ?_
              refine j_eq (ws' := [(mo, mO ad (upS (upS (upS (upS (upS S 3 (az + 1)) 4 dg) 16 e) 17 (w + 1)) 18 (o + 1))), (ad 5, aInt E 100 tx), (ad 9, aInt E 48 (upI fo c (S 16))), (ad 10, aInt E 48 to2), (ad 14, aInt E 400 sg2), (ad 15, aInt E 101 (upI wt2 w v2))]) rfl rfl rfl ?_
              exact ih22 wa (az + 1) dg e (w + 1) (o + 1) sg2 (upI wt2 w v2) to2 (by omega) (by first | assumption | omega) (by first | assumption | omega) (by first | exact Or.inl ⟨by omega, _, hWn, hRn⟩ | exact Or.inr ⟨by omega, _, _, hHn, hRn⟩) (by first | assumption | omega) (by first | exact hsgN | exact hsg2) (by first | exact hwb2 | exact upb' hwb2 (by omega)) (by first | exact hkpN | exact hkp) (by first | exact hto2 | exact hto3 _)
            ·
              have hE := exT_e (hR.tr (Rc.st (stp_full (by omega) (by omega)) Rc.rf)) (Or.inr rfl)
              refine j_iconst G d10_takesE_51 ?_
              exact j_zret G F d10_takesE_52 (by decide) ⟨0, (upI fo c (S 16)), to2, sg2, wt2, az, dg, w, e, o, rfl, rfl, (by first | (right; refine ⟨⟨⟨congrArg Prod.fst hE, (by first | exact ht2.trans (congrArg (fun m => m.2.2.2) hE).symm | exact (congrArg (fun m => m.2.2.2) hE).symm), rfl⟩, ⟨by omega, by omega⟩, ⟨by omega, by omega⟩, (by first | exact hsgN | exact hsg2), (by first | exact hkpN | exact hkp), (by first | exact hto3 _ | exact hto2), hwb2⟩, rfl⟩; done) | (left; exact ⟨⟨⟨congrArg Prod.fst hE, (congrArg (fun m => m.2.2.2) hE).symm, (by rw [hE]; exact hd2), upI_eq, rfl⟩, ⟨by omega, by omega⟩, ⟨by omega, by omega⟩, hsgN, hkpN, hto3 _, hwb2⟩, rfl⟩))⟩
  exact lp22 _ 1 (S 3) (S 4) (S 16) 0 0 sg wt to (Nat.lt_succ_self _) (by first | assumption | omega) (by first | assumption | omega) (Or.inl ⟨rfl, [], ⟨rfl, rfl, hc.2, rfl⟩, Rc.rf⟩) (by first | assumption | omega) hsg hwb (fun _ _ => rfl) (fun _ _ => rfl)
