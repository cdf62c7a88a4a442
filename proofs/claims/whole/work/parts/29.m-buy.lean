/-! what to buy: a set's price, what it brings of a sort -/
def prF (pr : Int → Int) (s : Int) : Nat → Int
  | 0 => 0
  | m + 1 => prF pr s m + bz s m * pr m
def moF (so si : Int → Int) (s t : Int) : Nat → Int
  | 0 => 0
  | m + 1 => moF so si s t m + (if bz s m = 0 then 0 else if so m = t then si m else 0)
theorem prF_s {pr : Int → Int} {s k : Int} (h : 0 ≤ k) : prF pr s (k + 1).toNat = prF pr s k.toNat + bz s k * pr k := by
  rw [tn1 h]
  show prF pr s k.toNat + bz s (k.toNat : Int) * pr (k.toNat : Int) = _
  rw [tn2 h]
theorem moF_s {so si : Int → Int} {s t k : Int} (h : 0 ≤ k) : moF so si s t (k + 1).toNat = moF so si s t k.toNat + (if bz s k = 0 then 0 else if so k = t then si k else 0) := by
  rw [tn1 h]
  show moF so si s t k.toNat + (if bz s (k.toNat : Int) = 0 then 0 else if so (k.toNat : Int) = t then si (k.toNat : Int) else 0) = _
  rw [tn2 h]
theorem prF_r {pr : Int → Int} {s : Int} : ∀ m : Nat, m ≤ 4 → (∀ j : Int, 0 ≤ j → j < m → 0 ≤ pr j ∧ pr j ≤ 99) → 0 ≤ prF pr s m ∧ prF pr s m ≤ 99 * m
  | 0, _, _ => by unfold prF; omega
  | m + 1, h, hp => by
    have e := prF_r (s := s) m (by omega) (fun j h1 h2 => hp j h1 (by omega))
    have e2 := hp m (by omega) (by omega)
    unfold prF
    rcases bz_01 (s := s) (k := (m : Int)) (by omega) (by omega) with hb | hb <;> rw [hb] <;> omega
theorem moF_r {so si : Int → Int} {s t : Int} : ∀ m : Nat, (∀ j : Int, 0 ≤ j → j < m → 0 ≤ si j ∧ si j ≤ 20) → 0 ≤ moF so si s t m ∧ moF so si s t m ≤ 20 * m
  | 0, _ => by unfold moF; omega
  | m + 1, hp => by
    have e := moF_r (so := so) (s := s) (t := t) m (fun j h1 h2 => hp j h1 (by omega))
    have e2 := hp m (by omega) (by omega)
    unfold moF
    split
    · omega
    · split <;> omega
def byF (W Q : Int → Int) (purse : Int) : Nat → Int → Int → Int → Int → Int
  | 0, _, b, _, _ => b
  | m + 1, s, b, w0, c0 => if purse < Q s then byF W Q purse m (s + 1) b w0 c0 else if W s < w0 ∨ (W s = w0 ∧ c0 ≤ Q s) then byF W Q purse m (s + 1) b w0 c0 else byF W Q purse m (s + 1) s (W s) (Q s)
theorem byF_s (W Q : Int → Int) (purse : Int) (m : Nat) (s b w0 c0 : Int) : byF W Q purse (m + 1) s b w0 c0 = if purse < Q s then byF W Q purse m (s + 1) b w0 c0 else if W s < w0 ∨ (W s = w0 ∧ c0 ≤ Q s) then byF W Q purse m (s + 1) b w0 c0 else byF W Q purse m (s + 1) s (W s) (Q s) := rfl
noncomputable def byK (C : Nat → Int) (P : Int → Int) (D W co so si : Int → Int) (n s : Int) : Dy := kD C P D W co (moF so si s 0 n.toNat) (moF so si s 1 n.toNat) (moF so si s 2 n.toNat) (moF so si s 3 n.toNat) 1
noncomputable def byW (C : Nat → Int) (P : Int → Int) (D W co so si : Int → Int) (n st0 s : Int) : Int := Vn (byK C P D W co so si n s) 0 0 st0
theorem up_more {so si m : Int → Int} {s k : Int} (hk : 0 ≤ k) (hb : ¬ bz s k = 0) (h : ∀ j, 0 ≤ j → j < 4 → m j = moF so si s j k.toNat) (x : Int) (hx : x = m (so k) + si k) : ∀ j, 0 ≤ j → j < 4 → upI m (so k) x j = moF so si s j (k + 1).toNat := by
  intro j h1 h2
  rw [moF_s hk, if_neg hb, ← h j h1 h2]
  unfold upI
  by_cases hj : j = so k
  · rw [if_pos hj, if_pos hj.symm, hx, hj]
  · rw [if_neg hj, if_neg (fun q => hj q.symm)]; omega
theorem no_more {so si m : Int → Int} {s k : Int} (hk : 0 ≤ k) (hb : bz s k = 0) (h : ∀ j, 0 ≤ j → j < 4 → m j = moF so si s j k.toNat) : ∀ j, 0 ≤ j → j < 4 → m j = moF so si s j (k + 1).toNat := by
  intro j h1 h2
  rw [moF_s hk, if_pos hb, h j h1 h2]; omega
theorem d10_buy_0 : decode c10_buy 0 = .ok (.aload_n 0, 1) := by decide +kernel
theorem d10_buy_1 : decode c10_buy 1 = .ok (.getfield 13, 3) := by decide +kernel
theorem d10_buy_4 : decode c10_buy 4 = .ok (.ifCond .ge 5, 3) := by decide +kernel
theorem d10_buy_7 : decode c10_buy 7 = .ok (.iconst (-1), 1) := by decide +kernel
theorem d10_buy_8 : decode c10_buy 8 = .ok (.ireturn, 1) := by decide +kernel
theorem d10_buy_9 : decode c10_buy 9 = .ok (.aload_n 0, 1) := by decide +kernel
theorem d10_buy_10 : decode c10_buy 10 = .ok (.iload_n 1, 1) := by decide +kernel
theorem d10_buy_11 : decode c10_buy 11 = .ok (.iconst 0, 1) := by decide +kernel
theorem d10_buy_12 : decode c10_buy 12 = .ok (.sipush 999, 3) := by decide +kernel
theorem d10_buy_15 : decode c10_buy 15 = .ok (.invokevirtual 219, 3) := by decide +kernel
theorem d10_buy_18 : decode c10_buy 18 = .ok (.ifCond .ne 6, 3) := by decide +kernel
theorem d10_buy_21 : decode c10_buy 21 = .ok (.bipush (-2), 2) := by decide +kernel
theorem d10_buy_23 : decode c10_buy 23 = .ok (.ireturn, 1) := by decide +kernel
theorem d10_buy_24 : decode c10_buy 24 = .ok (.iconst 0, 1) := by decide +kernel
theorem d10_buy_25 : decode c10_buy 25 = .ok (.istore_n 2, 1) := by decide +kernel
theorem d10_buy_26 : decode c10_buy 26 = .ok (.iconst (-1), 1) := by decide +kernel
theorem d10_buy_27 : decode c10_buy 27 = .ok (.istore_n 3, 1) := by decide +kernel
theorem d10_buy_28 : decode c10_buy 28 = .ok (.iconst 0, 1) := by decide +kernel
theorem d10_buy_29 : decode c10_buy 29 = .ok (.istore 4, 2) := by decide +kernel
theorem d10_buy_31 : decode c10_buy 31 = .ok (.iconst 0, 1) := by decide +kernel
theorem d10_buy_32 : decode c10_buy 32 = .ok (.istore 5, 2) := by decide +kernel
theorem d10_buy_34 : decode c10_buy 34 = .ok (.iload 5, 2) := by decide +kernel
theorem d10_buy_36 : decode c10_buy 36 = .ok (.iconst 1, 1) := by decide +kernel
theorem d10_buy_37 : decode c10_buy 37 = .ok (.aload_n 0, 1) := by decide +kernel
theorem d10_buy_38 : decode c10_buy 38 = .ok (.getfield 158, 3) := by decide +kernel
theorem d10_buy_41 : decode c10_buy 41 = .ok (.ishl, 1) := by decide +kernel
theorem d10_buy_42 : decode c10_buy 42 = .ok (.if_icmp .ge 185, 3) := by decide +kernel
theorem d10_buy_45 : decode c10_buy 45 = .ok (.iconst 0, 1) := by decide +kernel
theorem d10_buy_46 : decode c10_buy 46 = .ok (.istore 6, 2) := by decide +kernel
theorem d10_buy_48 : decode c10_buy 48 = .ok (.iconst 0, 1) := by decide +kernel
theorem d10_buy_49 : decode c10_buy 49 = .ok (.istore 7, 2) := by decide +kernel
theorem d10_buy_51 : decode c10_buy 51 = .ok (.iload 7, 2) := by decide +kernel
theorem d10_buy_53 : decode c10_buy 53 = .ok (.iconst 4, 1) := by decide +kernel
theorem d10_buy_54 : decode c10_buy 54 = .ok (.if_icmp .ge 17, 3) := by decide +kernel
theorem d10_buy_57 : decode c10_buy 57 = .ok (.aload_n 0, 1) := by decide +kernel
theorem d10_buy_58 : decode c10_buy 58 = .ok (.getfield 170, 3) := by decide +kernel
theorem d10_buy_61 : decode c10_buy 61 = .ok (.iload 7, 2) := by decide +kernel
theorem d10_buy_63 : decode c10_buy 63 = .ok (.iconst 0, 1) := by decide +kernel
theorem d10_buy_64 : decode c10_buy 64 = .ok (.iastore, 1) := by decide +kernel
theorem d10_buy_65 : decode c10_buy 65 = .ok (.iinc 7 1, 3) := by decide +kernel
theorem d10_buy_68 : decode c10_buy 68 = .ok (.goto (-17), 3) := by decide +kernel
theorem d10_buy_71 : decode c10_buy 71 = .ok (.iconst 0, 1) := by decide +kernel
theorem d10_buy_72 : decode c10_buy 72 = .ok (.istore 7, 2) := by decide +kernel
theorem d10_buy_74 : decode c10_buy 74 = .ok (.iload 7, 2) := by decide +kernel
theorem d10_buy_76 : decode c10_buy 76 = .ok (.aload_n 0, 1) := by decide +kernel
theorem d10_buy_77 : decode c10_buy 77 = .ok (.getfield 158, 3) := by decide +kernel
theorem d10_buy_80 : decode c10_buy 80 = .ok (.if_icmp .ge 56, 3) := by decide +kernel
theorem d10_buy_83 : decode c10_buy 83 = .ok (.iload 5, 2) := by decide +kernel
theorem d10_buy_85 : decode c10_buy 85 = .ok (.iload 7, 2) := by decide +kernel
theorem d10_buy_87 : decode c10_buy 87 = .ok (.ishr, 1) := by decide +kernel
theorem d10_buy_88 : decode c10_buy 88 = .ok (.iconst 1, 1) := by decide +kernel
theorem d10_buy_89 : decode c10_buy 89 = .ok (.iand, 1) := by decide +kernel
theorem d10_buy_90 : decode c10_buy 90 = .ok (.ifCond .ne 6, 3) := by decide +kernel
theorem d10_buy_93 : decode c10_buy 93 = .ok (.goto 37, 3) := by decide +kernel
theorem d10_buy_96 : decode c10_buy 96 = .ok (.iload 6, 2) := by decide +kernel
theorem d10_buy_98 : decode c10_buy 98 = .ok (.aload_n 0, 1) := by decide +kernel
theorem d10_buy_99 : decode c10_buy 99 = .ok (.getfield 167, 3) := by decide +kernel
theorem d10_buy_102 : decode c10_buy 102 = .ok (.iload 7, 2) := by decide +kernel
theorem d10_buy_104 : decode c10_buy 104 = .ok (.iaload, 1) := by decide +kernel
theorem d10_buy_105 : decode c10_buy 105 = .ok (.iadd, 1) := by decide +kernel
theorem d10_buy_106 : decode c10_buy 106 = .ok (.istore 6, 2) := by decide +kernel
theorem d10_buy_108 : decode c10_buy 108 = .ok (.aload_n 0, 1) := by decide +kernel
theorem d10_buy_109 : decode c10_buy 109 = .ok (.getfield 170, 3) := by decide +kernel
theorem d10_buy_112 : decode c10_buy 112 = .ok (.aload_n 0, 1) := by decide +kernel
theorem d10_buy_113 : decode c10_buy 113 = .ok (.getfield 161, 3) := by decide +kernel
theorem d10_buy_116 : decode c10_buy 116 = .ok (.iload 7, 2) := by decide +kernel
theorem d10_buy_118 : decode c10_buy 118 = .ok (.iaload, 1) := by decide +kernel
theorem d10_buy_119 : decode c10_buy 119 = .ok (.dup2, 1) := by decide +kernel
theorem d10_buy_120 : decode c10_buy 120 = .ok (.iaload, 1) := by decide +kernel
theorem d10_buy_121 : decode c10_buy 121 = .ok (.aload_n 0, 1) := by decide +kernel
theorem d10_buy_122 : decode c10_buy 122 = .ok (.getfield 164, 3) := by decide +kernel
theorem d10_buy_125 : decode c10_buy 125 = .ok (.iload 7, 2) := by decide +kernel
theorem d10_buy_127 : decode c10_buy 127 = .ok (.iaload, 1) := by decide +kernel
theorem d10_buy_128 : decode c10_buy 128 = .ok (.iadd, 1) := by decide +kernel
theorem d10_buy_129 : decode c10_buy 129 = .ok (.iastore, 1) := by decide +kernel
theorem d10_buy_130 : decode c10_buy 130 = .ok (.iinc 7 1, 3) := by decide +kernel
theorem d10_buy_133 : decode c10_buy 133 = .ok (.goto (-59), 3) := by decide +kernel
theorem d10_buy_136 : decode c10_buy 136 = .ok (.iload 6, 2) := by decide +kernel
theorem d10_buy_138 : decode c10_buy 138 = .ok (.iload_n 1, 1) := by decide +kernel
theorem d10_buy_139 : decode c10_buy 139 = .ok (.if_icmp .le 6, 3) := by decide +kernel
theorem d10_buy_142 : decode c10_buy 142 = .ok (.goto 79, 3) := by decide +kernel
theorem d10_buy_145 : decode c10_buy 145 = .ok (.aload_n 0, 1) := by decide +kernel
theorem d10_buy_146 : decode c10_buy 146 = .ok (.aload_n 0, 1) := by decide +kernel
theorem d10_buy_147 : decode c10_buy 147 = .ok (.getfield 170, 3) := by decide +kernel
theorem d10_buy_150 : decode c10_buy 150 = .ok (.iconst 0, 1) := by decide +kernel
theorem d10_buy_151 : decode c10_buy 151 = .ok (.iaload, 1) := by decide +kernel
theorem d10_buy_152 : decode c10_buy 152 = .ok (.aload_n 0, 1) := by decide +kernel
theorem d10_buy_153 : decode c10_buy 153 = .ok (.getfield 170, 3) := by decide +kernel
theorem d10_buy_156 : decode c10_buy 156 = .ok (.iconst 1, 1) := by decide +kernel
theorem d10_buy_157 : decode c10_buy 157 = .ok (.iaload, 1) := by decide +kernel
theorem d10_buy_158 : decode c10_buy 158 = .ok (.aload_n 0, 1) := by decide +kernel
theorem d10_buy_159 : decode c10_buy 159 = .ok (.getfield 170, 3) := by decide +kernel
theorem d10_buy_162 : decode c10_buy 162 = .ok (.iconst 2, 1) := by decide +kernel
theorem d10_buy_163 : decode c10_buy 163 = .ok (.iaload, 1) := by decide +kernel
theorem d10_buy_164 : decode c10_buy 164 = .ok (.aload_n 0, 1) := by decide +kernel
theorem d10_buy_165 : decode c10_buy 165 = .ok (.getfield 170, 3) := by decide +kernel
theorem d10_buy_168 : decode c10_buy 168 = .ok (.iconst 3, 1) := by decide +kernel
theorem d10_buy_169 : decode c10_buy 169 = .ok (.iaload, 1) := by decide +kernel
theorem d10_buy_170 : decode c10_buy 170 = .ok (.iconst 1, 1) := by decide +kernel
theorem d10_buy_171 : decode c10_buy 171 = .ok (.invokevirtual 337, 3) := by decide +kernel
theorem d10_buy_174 : decode c10_buy 174 = .ok (.aload_n 0, 1) := by decide +kernel
theorem d10_buy_175 : decode c10_buy 175 = .ok (.iconst 0, 1) := by decide +kernel
theorem d10_buy_176 : decode c10_buy 176 = .ok (.bipush 81, 2) := by decide +kernel
theorem d10_buy_178 : decode c10_buy 178 = .ok (.aload_n 0, 1) := by decide +kernel
theorem d10_buy_179 : decode c10_buy 179 = .ok (.getfield 76, 3) := by decide +kernel
theorem d10_buy_182 : decode c10_buy 182 = .ok (.imul, 1) := by decide +kernel
theorem d10_buy_183 : decode c10_buy 183 = .ok (.iconst 0, 1) := by decide +kernel
theorem d10_buy_184 : decode c10_buy 184 = .ok (.invokevirtual 329, 3) := by decide +kernel
theorem d10_buy_187 : decode c10_buy 187 = .ok (.istore 7, 2) := by decide +kernel
theorem d10_buy_189 : decode c10_buy 189 = .ok (.iload 7, 2) := by decide +kernel
theorem d10_buy_191 : decode c10_buy 191 = .ok (.iload_n 3, 1) := by decide +kernel
theorem d10_buy_192 : decode c10_buy 192 = .ok (.if_icmp .lt 29, 3) := by decide +kernel
theorem d10_buy_195 : decode c10_buy 195 = .ok (.iload 7, 2) := by decide +kernel
theorem d10_buy_197 : decode c10_buy 197 = .ok (.iload_n 3, 1) := by decide +kernel
theorem d10_buy_198 : decode c10_buy 198 = .ok (.if_icmp .ne 13, 3) := by decide +kernel
theorem d10_buy_201 : decode c10_buy 201 = .ok (.iload 6, 2) := by decide +kernel
theorem d10_buy_203 : decode c10_buy 203 = .ok (.iload 4, 2) := by decide +kernel
theorem d10_buy_205 : decode c10_buy 205 = .ok (.if_icmp .lt 6, 3) := by decide +kernel
theorem d10_buy_208 : decode c10_buy 208 = .ok (.goto 13, 3) := by decide +kernel
theorem d10_buy_211 : decode c10_buy 211 = .ok (.iload 5, 2) := by decide +kernel
theorem d10_buy_213 : decode c10_buy 213 = .ok (.istore_n 2, 1) := by decide +kernel
theorem d10_buy_214 : decode c10_buy 214 = .ok (.iload 7, 2) := by decide +kernel
theorem d10_buy_216 : decode c10_buy 216 = .ok (.istore_n 3, 1) := by decide +kernel
theorem d10_buy_217 : decode c10_buy 217 = .ok (.iload 6, 2) := by decide +kernel
theorem d10_buy_219 : decode c10_buy 219 = .ok (.istore 4, 2) := by decide +kernel
theorem d10_buy_221 : decode c10_buy 221 = .ok (.iinc 5 1, 3) := by decide +kernel
theorem d10_buy_224 : decode c10_buy 224 = .ok (.goto (-190), 3) := by decide +kernel
theorem d10_buy_227 : decode c10_buy 227 = .ok (.iload_n 2, 1) := by decide +kernel
theorem d10_buy_228 : decode c10_buy 228 = .ok (.ireturn, 1) := by decide +kernel
theorem mw10_buy : MV y10_buy c10_buy 8 (some .int) 1 := ⟨cd10_buy, ini10, na10_buy, im10_buy, se10_buy⟩
set_option maxHeartbeats 4000000 in
set_option maxRecDepth 100000 in
theorem k10_buy (l : Launch) (E : En) (mo : Nat) (ad : Nat → Nat) (S : Nat → Int) (la : Int → Int) (po : Int → Int) (pt : Int → Int) (cl : Int → Int) (wd : Int → Int) (nu : Int → Int) (fo : Int → Int) (to : Int → Int) (sg : Int → Int) (pl : Int → Int) (Fq : Int → Int → Int → Int) (co : Int → Int) (spr : Int → Int) (le : Int → Int) (mk : Int → Int) (wo : Int → Int) (so : Int → Int) (si : Int → Int) (pr : Int → Int) (mr : Int → Int) (purse : Int) (r_purse : R32 purse) (hth : -1 ≤ S 1 ∧ S 1 ≤ 3) (hms : 0 ≤ S 1 → MSum wd nu fo to sg cl Fq (S 1)) (hwm : 0 ≤ S 1 → wfC (cM la po (S 1)) (pM pt (S 1))) (hco : ∀ j, 0 ≤ j → j < 24 → 0 ≤ co j ∧ co j ≤ 6) (hsg : ∀ j, 0 ≤ j → j < 400 → -200 ≤ sg j ∧ sg j ≤ 20000) (hpl : ∀ j, 0 ≤ j → j < 100 → 0 ≤ pl j ∧ pl j ≤ 1) (hw : S 20 = 0 ∨ S 20 = 1) (hmk : ∀ j, 0 ≤ j → j < 43173 → 0 ≤ mk j ∧ mk j ≤ 1) (hfi : 0 ≤ S 21 ∧ S 21 ≤ 40) (hof : 0 ≤ S 48 ∧ S 48 ≤ 4) (hoo : ∀ j, 0 ≤ j → j < S 48 → (0 ≤ so j ∧ so j ≤ 3) ∧ (1 ≤ si j ∧ si j ≤ 20) ∧ (0 ≤ pr j ∧ pr j ≤ 99)) : Cm l E y10_buy c10_buy 8 (some .int) { frames := 5, cells := 0, slots := 0, locals := 126 } [.ref mo, .int (iZ purse)] [(mo, mO ad S), (ad 11, aInt E 36 la), (ad 12, aInt E 4 po), (ad 13, aInt E 20 pt), (ad 6, aInt E 4 cl), (ad 7, aInt E 48 wd), (ad 8, aInt E 48 nu), (ad 9, aInt E 48 fo), (ad 10, aInt E 48 to), (ad 14, aInt E 400 sg), (ad 19, aBoo E 100 pl), (ad 22, aInt E 24 co), (ad 32, aInt E 12 spr), (ad 33, aInt E 588 le), (ad 39, aBoo E 43173 mk), (ad 40, aInt E 43173 wo), (ad 49, aInt E 4 so), (ad 50, aInt E 4 si), (ad 51, aInt E 4 pr), (ad 52, aInt E 4 mr)] (fun r ws => ∃ (v : Int), ∃ (pl1 : Int → Int), ∃ (sp1 : Int → Int), ∃ (le1 : Int → Int), ∃ (mk1 : Int → Int), ∃ (wo1 : Int → Int), ∃ (mr1 : Int → Int), ∃ (tk1 : Int), ∃ (se1 : Int), ∃ (mx1 : Int), ∃ (ti1 : Int), ∃ (nw : Int), ∃ (lo : Int), ∃ (dn : Int), ∃ (up : Int), ∃ (wa : Int), r = some (.int (iZ v)) ∧ ws = [(mo, mO ad (upS (upS (upS (upS (upS (upS (upS (upS (upS S 28 tk1) 29 se1) 30 mx1) 31 ti1) 34 nw) 35 lo) 36 dn) 37 up) 38 wa)), (ad 11, aInt E 36 la), (ad 12, aInt E 4 po), (ad 13, aInt E 20 pt), (ad 6, aInt E 4 cl), (ad 7, aInt E 48 wd), (ad 8, aInt E 48 nu), (ad 9, aInt E 48 fo), (ad 10, aInt E 48 to), (ad 14, aInt E 400 sg), (ad 19, aBoo E 100 pl1), (ad 22, aInt E 24 co), (ad 32, aInt E 12 sp1), (ad 33, aInt E 588 le1), (ad 39, aBoo E 43173 mk1), (ad 40, aInt E 43173 wo1), (ad 49, aInt E 4 so), (ad 50, aInt E 4 si), (ad 51, aInt E 4 pr), (ad 52, aInt E 4 mr1)] ∧ (v = (if ¬ S 1 < 0 then (if 0 ≤ purse ∧ purse ≤ 999 then byF (byW (cM la po (S 1)) (pM pt (S 1)) (fun s => smM wd nu cl Fq (S 1) 3 s (S 20)) (fun s => smM wd nu cl Fq (S 1) 7 s (S 20)) co so si (S 48) (81 * S 21)) (fun s => prF pr s (S 48).toNat) purse (pw (S 48) - 0).toNat 0 0 (-1) 0 else -2) else -1) ∧ (∀ j, 0 ≤ j → j < 100 → 0 ≤ pl1 j ∧ pl1 j ≤ 1) ∧ (∀ j, 0 ≤ j → j < 43173 → 0 ≤ mk1 j ∧ mk1 j ≤ 1))) := by
  refine Cm.of (by decide +kernel) (Nat.le_of_ble_eq_true rfl) (fun Γ A hl hargs hin G F => ?_)
  subst hl
  refine j_aload_n G 0 rfl d10_buy_0 ?_
  refine j_get G 0 10 1 in10 fl10_13 d10_buy_1 rfl rfl (by decide) (v := .int (iZ (S 1))) rfl rfl ?_
  refine j_if_ge (tgt := 9) G d10_buy_4 (by decide) (by omega) (fun h1 => ?_) (fun h1 => ?_)
  ·
    refine j_aload_n G 0 rfl d10_buy_9 ?_
    refine j_iload_n G 1 rfl d10_buy_10 ?_
    refine j_iconst G d10_buy_11 ?_
    refine j_sipush G d10_buy_12 rfl ?_
    refine j_VP G (k10_in (xl Γ) E mo purse 0 999 (by first | assumption | omega | (simp only [upS, reduceIte, Nat.reduceEqDiff, eq_self, List.length_cons, List.length_nil, List.length_append] <;> omega)) (by first | assumption | omega | (simp only [upS, reduceIte, Nat.reduceEqDiff, eq_self, List.length_cons, List.length_nil, List.length_append] <;> omega)) (by first | assumption | omega | (simp only [upS, reduceIte, Nat.reduceEqDiff, eq_self, List.length_cons, List.length_nil, List.length_append] <;> omega))) mw10_in ml10_219 [] rfl 0 10 rfl rfl rfl ⟨Nat.le_of_ble_eq_true rfl, Nat.le_of_ble_eq_true rfl⟩ rfl (rest := []) rfl (Nat.le_of_ble_eq_true rfl) d10_buy_15 ⟨Nat.le_of_ble_eq_true rfl, Nat.le_of_ble_eq_true rfl⟩ (fun r hr => ?_)
    obtain ⟨v3, rfl, hq2⟩ := hr
    rcases hq2 with ⟨hq2, rfl⟩ | ⟨hq2, rfl⟩
    ·
      refine j_if_ne (tgt := 24) G d10_buy_18 (by decide) (by decide) (fun h4 => ?_) (fun h4 => absurd h4 (by decide))
      have hms1 := hms (by omega)
      have hwm1 := hwm (by omega)
      have hpd : 0 ≤ la (9 * S 1 + 8) ∧ la (9 * S 1 + 8) ≤ 40 := hwm1.2.2.2.2.2.2.2
      have hpw := pw_r hof.1 hof.2
      refine j_iconst G d10_buy_24 ?_
      refine j_istore_n G d10_buy_25 (by decide) rfl ?_
      refine j_iconst G d10_buy_26 ?_
      refine j_istore_n G d10_buy_27 (by decide) rfl ?_
      refine j_iconst G d10_buy_28 ?_
      refine j_istore G d10_buy_29 (by decide) rfl ?_
      refine j_iconst G d10_buy_31 ?_
      refine j_istore G d10_buy_32 (by decide) rfl ?_
      refine j_eq (ws' := [(mo, mO ad (upS (upS (upS (upS (upS (upS (upS (upS (upS S 28 (S 28)) 29 (S 29)) 30 (S 30)) 31 (S 31)) 34 (S 34)) 35 (S 35)) 36 (S 36)) 37 (S 37)) 38 (S 38))), (ad 11, aInt E 36 la), (ad 12, aInt E 4 po), (ad 13, aInt E 20 pt), (ad 6, aInt E 4 cl), (ad 7, aInt E 48 wd), (ad 8, aInt E 48 nu), (ad 9, aInt E 48 fo), (ad 10, aInt E 48 to), (ad 14, aInt E 400 sg), (ad 19, aBoo E 100 pl), (ad 22, aInt E 24 co), (ad 32, aInt E 12 spr), (ad 33, aInt E 588 le), (ad 39, aBoo E 43173 mk), (ad 40, aInt E 43173 wo), (ad 49, aInt E 4 so), (ad 50, aInt E 4 si), (ad 51, aInt E 4 pr), (ad 52, aInt E 4 mr)]) rfl rfl rfl ?_
      have lp34 : ∀ (fu : Nat) (bst : Int) (w0 : Int) (c0 : Int) (t : Int) (pl2 : Int → Int) (sp2 : Int → Int) (le2 : Int → Int) (mk2 : Int → Int) (wo2 : Int → Int) (mr2 : Int → Int) (tk12 : Int) (se12 : Int) (mx12 : Int) (ti12 : Int) (nw2 : Int) (lo2 : Int) (dn2 : Int) (up2 : Int) (wa2 : Int), (pw (S 48) - t).toNat < fu → (0 ≤ t ∧ t ≤ pw (S 48)) → (-1 ≤ w0 ∧ w0 ≤ 8000) → (0 ≤ c0 ∧ c0 ≤ 1000) → (∀ j, 0 ≤ j → j < 100 → 0 ≤ pl2 j ∧ pl2 j ≤ 1) → (∀ j, 0 ≤ j → j < 43173 → 0 ≤ mk2 j ∧ mk2 j ≤ 1) → (byF (byW (cM la po (S 1)) (pM pt (S 1)) (fun s => smM wd nu cl Fq (S 1) 3 s (S 20)) (fun s => smM wd nu cl Fq (S 1) 7 s (S 20)) co so si (S 48) (81 * S 21)) (fun s => prF pr s (S 48).toNat) purse (pw (S 48) - 0).toNat 0 0 (-1) 0 = byF (byW (cM la po (S 1)) (pM pt (S 1)) (fun s => smM wd nu cl Fq (S 1) 3 s (S 20)) (fun s => smM wd nu cl Fq (S 1) 7 s (S 20)) co so si (S 48) (81 * S 21)) (fun s => prF pr s (S 48).toNat) purse (pw (S 48) - t).toNat t bst w0 c0) →  J E 8 Γ (some A) 0 0 [(mo, mO ad (upS (upS (upS (upS (upS (upS (upS (upS (upS S 28 tk12) 29 se12) 30 mx12) 31 ti12) 34 nw2) 35 lo2) 36 dn2) 37 up2) 38 wa2)), (ad 11, aInt E 36 la), (ad 12, aInt E 4 po), (ad 13, aInt E 20 pt), (ad 6, aInt E 4 cl), (ad 7, aInt E 48 wd), (ad 8, aInt E 48 nu), (ad 9, aInt E 48 fo), (ad 10, aInt E 48 to), (ad 14, aInt E 400 sg), (ad 19, aBoo E 100 pl2), (ad 22, aInt E 24 co), (ad 32, aInt E 12 sp2), (ad 33, aInt E 588 le2), (ad 39, aBoo E 43173 mk2), (ad 40, aInt E 43173 wo2), (ad 49, aInt E 4 so), (ad 50, aInt E 4 si), (ad 51, aInt E 4 pr), (ad 52, aInt E 4 mr2)] 34 [(5, .int (iZ t)), (4, .int (iZ c0)), (3, .int (iZ w0)), (2, .int (iZ bst)), (0, .ref mo), (1, .int (iZ purse))] [] := by
        intro fu
        induction fu with
        | zero =>
          intro bst w0 c0 t pl2 sp2 le2 mk2 wo2 mr2 tk12 se12 mx12 ti12 nw2 lo2 dn2 up2 wa2 hm
          exact absurd hm (Nat.not_lt_zero _)
        | succ fu ih34 =>
          intro bst w0 c0 t pl2 sp2 le2 mk2 wo2 mr2 tk12 se12 mx12 ti12 nw2 lo2 dn2 up2 wa2 hm ht hw0 hc0 hpl2 hmk2 hw
          refine j_iload G 0 rfl d10_buy_34 ?_
          refine j_iconst G d10_buy_36 ?_
          refine j_aload_n G 4 rfl d10_buy_37 ?_
          refine j_get G 0 10 48 in10 fl10_158 d10_buy_38 rfl rfl (by decide) (v := .int (iZ (S 48))) rfl rfl ?_
          refine r_ishl G d10_buy_41 ?_
          refine j_top (y := (iZ (pw (S 48)))) (pw_top) ?_
          refine j_icmp_ge (tgt := 227) G d10_buy_42 (by decide) (by omega) (by omega) (fun h5 => ?_) (fun h5 => ?_)
          ·
            refine j_iload_n G 3 rfl d10_buy_227 ?_
            exact j_iret G F d10_buy_228 ⟨bst, pl2, sp2, le2, mk2, wo2, mr2, tk12, se12, mx12, ti12, nw2, lo2, dn2, up2, wa2, rfl, rfl, (by first | exact ⟨(if_neg (by omega)).symm, hpl, hmk⟩ | (refine ⟨?_, hpl, hmk⟩; rw [if_pos (by omega), if_neg (by omega)]; done) | (refine ⟨?_, hpl2, hmk2⟩; rw [if_pos (by omega), if_pos (by omega), hw, show (pw (S 48) - t).toNat = 0 by omega]; rfl) | (exfalso; omega))⟩
          ·
            refine j_iconst G d10_buy_45 ?_
            refine j_istore G d10_buy_46 (by decide) rfl ?_
            refine j_iconst G d10_buy_48 ?_
            refine j_istore G d10_buy_49 (by decide) rfl ?_
            have lp51 : ∀ (fu : Nat) (kz : Int) (m0 : Int → Int), (4 - kz).toNat < fu → (0 ≤ kz ∧ kz ≤ 4) → (∀ j, 0 ≤ j → j < kz → m0 j = 0) →  J E 8 Γ (some A) 0 0 [(mo, mO ad (upS (upS (upS (upS (upS (upS (upS (upS (upS S 28 tk12) 29 se12) 30 mx12) 31 ti12) 34 nw2) 35 lo2) 36 dn2) 37 up2) 38 wa2)), (ad 11, aInt E 36 la), (ad 12, aInt E 4 po), (ad 13, aInt E 20 pt), (ad 6, aInt E 4 cl), (ad 7, aInt E 48 wd), (ad 8, aInt E 48 nu), (ad 9, aInt E 48 fo), (ad 10, aInt E 48 to), (ad 14, aInt E 400 sg), (ad 19, aBoo E 100 pl2), (ad 22, aInt E 24 co), (ad 32, aInt E 12 sp2), (ad 33, aInt E 588 le2), (ad 39, aBoo E 43173 mk2), (ad 40, aInt E 43173 wo2), (ad 49, aInt E 4 so), (ad 50, aInt E 4 si), (ad 51, aInt E 4 pr), (ad 52, aInt E 4 m0)] 51 [(7, .int (iZ kz)), (6, .int (iZ 0)), (5, .int (iZ t)), (4, .int (iZ c0)), (3, .int (iZ w0)), (2, .int (iZ bst)), (0, .ref mo), (1, .int (iZ purse))] [] := by
              intro fu
              induction fu with
              | zero =>
                intro kz m0 hm
                exact absurd hm (Nat.not_lt_zero _)
              | succ fu ih51 =>
                intro kz m0 hm hkz hm0
                refine j_iload G 0 rfl d10_buy_51 ?_
                refine j_iconst G d10_buy_53 ?_
                refine j_icmp_ge (tgt := 71) G d10_buy_54 (by decide) (by omega) (by decide) (fun h6 => ?_) (fun h6 => ?_)
                ·
                  refine j_iconst G d10_buy_71 ?_
                  refine j_istore G d10_buy_72 (by decide) rfl ?_
                  have lp74 : ∀ (fu : Nat) (pc : Int) (kk : Int) (m1 : Int → Int), (S 48 - kk).toNat < fu → (0 ≤ kk ∧ kk ≤ S 48) → (pc = prF pr t kk.toNat) → (∀ j, 0 ≤ j → j < 4 → m1 j = moF so si t j kk.toNat) →  J E 8 Γ (some A) 0 0 [(mo, mO ad (upS (upS (upS (upS (upS (upS (upS (upS (upS S 28 tk12) 29 se12) 30 mx12) 31 ti12) 34 nw2) 35 lo2) 36 dn2) 37 up2) 38 wa2)), (ad 11, aInt E 36 la), (ad 12, aInt E 4 po), (ad 13, aInt E 20 pt), (ad 6, aInt E 4 cl), (ad 7, aInt E 48 wd), (ad 8, aInt E 48 nu), (ad 9, aInt E 48 fo), (ad 10, aInt E 48 to), (ad 14, aInt E 400 sg), (ad 19, aBoo E 100 pl2), (ad 22, aInt E 24 co), (ad 32, aInt E 12 sp2), (ad 33, aInt E 588 le2), (ad 39, aBoo E 43173 mk2), (ad 40, aInt E 43173 wo2), (ad 49, aInt E 4 so), (ad 50, aInt E 4 si), (ad 51, aInt E 4 pr), (ad 52, aInt E 4 m1)] 74 [(7, .int (iZ kk)), (6, .int (iZ pc)), (5, .int (iZ t)), (4, .int (iZ c0)), (3, .int (iZ w0)), (2, .int (iZ bst)), (0, .ref mo), (1, .int (iZ purse))] [] := by
                    intro fu
                    induction fu with
                    | zero =>
                      intro pc kk m1 hm
                      exact absurd hm (Nat.not_lt_zero _)
                    | succ fu ih74 =>
                      intro pc kk m1 hm hk hp hm1
                      refine j_iload G 0 rfl d10_buy_74 ?_
                      refine j_aload_n G 6 rfl d10_buy_76 ?_
                      refine j_get G 0 10 48 in10 fl10_158 d10_buy_77 rfl rfl (by decide) (v := .int (iZ (S 48))) rfl rfl ?_
                      refine j_icmp_ge (tgt := 136) G d10_buy_80 (by decide) (by omega) (by omega) (fun h7 => ?_) (fun h7 => ?_)
                      ·
                        have hke : kk = S 48 := by omega
                        have hpe : pc = prF pr t (S 48).toNat := by rw [hp, hke]
                        have hpe2 : prF pr t (S 48).toNat = pc := hpe.symm
                        have hpr1 := prF_r (pr := pr) (s := t) (S 48).toNat (by omega) (fun j h1 h2 => (hoo j h1 (by omega)).2.2)
                        have hmr1 := fun u => moF_r (so := so) (si := si) (s := t) (t := u) (S 48).toNat (fun j h1 h2 => ⟨by have := (hoo j h1 (by omega)).2.1; omega, ((hoo j h1 (by omega)).2.1).2⟩)
                        have q0 : m1 0 = moF so si t 0 (S 48).toNat := by rw [hm1 0 (by omega) (by omega), hke]
                        have q1 : m1 1 = moF so si t 1 (S 48).toNat := by rw [hm1 1 (by omega) (by omega), hke]
                        have q2 : m1 2 = moF so si t 2 (S 48).toNat := by rw [hm1 2 (by omega) (by omega), hke]
                        have q3 : m1 3 = moF so si t 3 (S 48).toNat := by rw [hm1 3 (by omega) (by omega), hke]
                        have g0 := hmr1 0
                        have g1 := hmr1 1
                        have g2 := hmr1 2
                        have g3 := hmr1 3
                        refine j_iload G 1 rfl d10_buy_136 ?_
                        refine j_iload_n G 7 rfl d10_buy_138 ?_
                        refine j_icmp_le (tgt := 145) G d10_buy_139 (by decide) (by omega) (by omega) (fun h8 => ?_) (fun h8 => ?_)
                        ·
                          refine j_aload_n G 6 rfl d10_buy_145 ?_
                          refine j_aload_n G 6 rfl d10_buy_146 ?_
                          refine j_get G 0 10 52 in10 fl10_170 d10_buy_147 rfl rfl (by decide) (v := .ref (ad 52)) rfl rfl ?_
                          refine j_iconst G d10_buy_150 ?_
                          refine j_iald G 19 rfl (by omega) d10_buy_151 ?_
                          refine j_aload_n G 6 rfl d10_buy_152 ?_
                          refine j_get G 0 10 52 in10 fl10_170 d10_buy_153 rfl rfl (by decide) (v := .ref (ad 52)) rfl rfl ?_
                          refine j_iconst G d10_buy_156 ?_
                          refine j_iald G 19 rfl (by omega) d10_buy_157 ?_
                          refine j_aload_n G 6 rfl d10_buy_158 ?_
                          refine j_get G 0 10 52 in10 fl10_170 d10_buy_159 rfl rfl (by decide) (v := .ref (ad 52)) rfl rfl ?_
                          refine j_iconst G d10_buy_162 ?_
                          refine j_iald G 19 rfl (by omega) d10_buy_163 ?_
                          refine j_aload_n G 6 rfl d10_buy_164 ?_
                          refine j_get G 0 10 52 in10 fl10_170 d10_buy_165 rfl rfl (by decide) (v := .ref (ad 52)) rfl rfl ?_
                          refine j_iconst G d10_buy_168 ?_
                          refine j_iald G 19 rfl (by omega) d10_buy_169 ?_
                          refine j_iconst G d10_buy_170 ?_
                          refine j_VM G (rm' := { frames := 4, cells := 0, slots := 0, locals := 98 }) (wc := [(mo, mO ad (upS (upS (upS (upS (upS (upS (upS (upS (upS S 28 tk12) 29 se12) 30 mx12) 31 ti12) 34 nw2) 35 lo2) 36 dn2) 37 up2) 38 wa2)), (ad 11, aInt E 36 la), (ad 12, aInt E 4 po), (ad 13, aInt E 20 pt), (ad 6, aInt E 4 cl), (ad 7, aInt E 48 wd), (ad 8, aInt E 48 nu), (ad 9, aInt E 48 fo), (ad 10, aInt E 48 to), (ad 14, aInt E 400 sg), (ad 19, aBoo E 100 pl2), (ad 22, aInt E 24 co), (ad 32, aInt E 12 sp2), (ad 33, aInt E 588 le2)]) (wr := [(ad 39, aBoo E 43173 mk2), (ad 40, aInt E 43173 wo2), (ad 49, aInt E 4 so), (ad 50, aInt E 4 si), (ad 51, aInt E 4 pr), (ad 52, aInt E 4 m1)]) (k10_layDay (xl Γ) E mo ad (upS (upS (upS (upS (upS (upS (upS (upS (upS S 28 tk12) 29 se12) 30 mx12) 31 ti12) 34 nw2) 35 lo2) 36 dn2) 37 up2) 38 wa2) la po pt cl wd nu fo to sg pl2 Fq co sp2 le2 (m1 0) (m1 1) (m1 2) (m1 3) 1 (by first | assumption | omega | (simp only [upS, reduceIte, Nat.reduceEqDiff, eq_self, List.length_cons, List.length_nil, List.length_append] <;> omega)) (by first | assumption | omega | (simp only [upS, reduceIte, Nat.reduceEqDiff, eq_self, List.length_cons, List.length_nil, List.length_append] <;> omega)) (by first | assumption | omega | (simp only [upS, reduceIte, Nat.reduceEqDiff, eq_self, List.length_cons, List.length_nil, List.length_append] <;> omega)) (by first | assumption | omega | (simp only [upS, reduceIte, Nat.reduceEqDiff, eq_self, List.length_cons, List.length_nil, List.length_append] <;> omega)) (by first | assumption | omega | (simp only [upS, reduceIte, Nat.reduceEqDiff, eq_self, List.length_cons, List.length_nil, List.length_append] <;> omega)) (by first | assumption | omega | (simp only [upS, reduceIte, Nat.reduceEqDiff, eq_self, List.length_cons, List.length_nil, List.length_append] <;> omega)) (by first | assumption | omega | (simp only [upS, reduceIte, Nat.reduceEqDiff, eq_self, List.length_cons, List.length_nil, List.length_append] <;> omega)) (by first | assumption | omega | (simp only [upS, reduceIte, Nat.reduceEqDiff, eq_self, List.length_cons, List.length_nil, List.length_append] <;> omega)) (by first | assumption | omega | (simp only [upS, reduceIte, Nat.reduceEqDiff, eq_self, List.length_cons, List.length_nil, List.length_append] <;> omega)) (by first | assumption | omega | (simp only [upS, reduceIte, Nat.reduceEqDiff, eq_self, List.length_cons, List.length_nil, List.length_append] <;> omega)) (by first | assumption | omega | (simp only [upS, reduceIte, Nat.reduceEqDiff, eq_self, List.length_cons, List.length_nil, List.length_append] <;> omega)) (by first | assumption | omega | (simp only [upS, reduceIte, Nat.reduceEqDiff, eq_self, List.length_cons, List.length_nil, List.length_append] <;> omega)) (by first | assumption | omega | (simp only [upS, reduceIte, Nat.reduceEqDiff, eq_self, List.length_cons, List.length_nil, List.length_append] <;> omega))) mw10_layDay ml10_337 [0, 1, 2, 3, 4, 5, 6, 7, 8, 9, 10, 11, 12, 13] [14, 15, 16, 17, 18, 19] rfl rfl ⟨rfl, rfl⟩ (by decide) 0 10 rfl rfl rfl ⟨Nat.le_of_ble_eq_true rfl, Nat.le_of_ble_eq_true rfl⟩ rfl (rest := []) rfl (Nat.le_of_ble_eq_true rfl) d10_buy_171 ⟨Nat.le_of_ble_eq_true rfl, Nat.le_of_ble_eq_true rfl⟩ (fun r w1 hr => ?_)
                          obtain ⟨pl1_10, sp1_11, le1_12, tk1_13, se1_14, mx1_15, rfl, rfl, ⟨hq9_0, hq9_1⟩⟩ := hr
                          refine j_eq (ws' := [(ad 39, aBoo E 43173 mk2), (ad 40, aInt E 43173 wo2), (ad 49, aInt E 4 so), (ad 50, aInt E 4 si), (ad 51, aInt E 4 pr), (ad 52, aInt E 4 m1), (mo, mO ad (upS (upS (upS (upS (upS (upS (upS (upS (upS S 34 nw2) 35 lo2) 36 dn2) 37 up2) 38 wa2) 28 tk1_13) 29 se1_14) 30 mx1_15) 31 1)), (ad 11, aInt E 36 la), (ad 12, aInt E 4 po), (ad 13, aInt E 20 pt), (ad 6, aInt E 4 cl), (ad 7, aInt E 48 wd), (ad 8, aInt E 48 nu), (ad 9, aInt E 48 fo), (ad 10, aInt E 48 to), (ad 14, aInt E 400 sg), (ad 19, aBoo E 100 pl1_10), (ad 22, aInt E 24 co), (ad 32, aInt E 12 sp1_11), (ad 33, aInt E 588 le1_12)]) rfl rfl rfl ?_
                          try simp only [upS, reduceIte, Nat.reduceEqDiff, eq_self] at hq9_0 hq9_1
                          have hly := hq9_0
                          have hpl1 := hq9_1
                          rw [q0, q1, q2, q3] at hly
                          refine j_aload_n G 6 rfl d10_buy_174 ?_
                          refine j_iconst G d10_buy_175 ?_
                          refine j_bipush G d10_buy_176 rfl ?_
                          refine j_aload_n G 6 rfl d10_buy_178 ?_
                          refine j_get G 6 10 21 in10 fl10_76 d10_buy_179 rfl rfl (by decide) (v := .int (iZ (S 21))) rfl rfl ?_
                          refine j_imul G d10_buy_182 ?_
                          refine j_iconst G d10_buy_183 ?_
                          refine j_VM G (rm' := { frames := 2, cells := 0, slots := 0, locals := 47 }) (wc := [(mo, mO ad (upS (upS (upS (upS (upS (upS (upS (upS (upS S 34 nw2) 35 lo2) 36 dn2) 37 up2) 38 wa2) 28 tk1_13) 29 se1_14) 30 mx1_15) 31 1)), (ad 22, aInt E 24 co), (ad 32, aInt E 12 sp1_11), (ad 33, aInt E 588 le1_12), (ad 39, aBoo E 43173 mk2), (ad 40, aInt E 43173 wo2)]) (wr := [(ad 49, aInt E 4 so), (ad 50, aInt E 4 si), (ad 51, aInt E 4 pr), (ad 52, aInt E 4 m1), (ad 11, aInt E 36 la), (ad 12, aInt E 4 po), (ad 13, aInt E 20 pt), (ad 6, aInt E 4 cl), (ad 7, aInt E 48 wd), (ad 8, aInt E 48 nu), (ad 9, aInt E 48 fo), (ad 10, aInt E 48 to), (ad 14, aInt E 400 sg), (ad 19, aBoo E 100 pl1_10)]) (k10_valueFrom (xl Γ) E mo ad (upS (upS (upS (upS (upS (upS (upS (upS (upS S 34 nw2) 35 lo2) 36 dn2) 37 up2) 38 wa2) 28 tk1_13) 29 se1_14) 30 mx1_15) 31 1) co sp1_11 le1_12 (byK (cM la po (S 1)) (pM pt (S 1)) (fun s => smM wd nu cl Fq (S 1) 3 s (S 20)) (fun s => smM wd nu cl Fq (S 1) 7 s (S 20)) co so si (S 48) t) mk2 wo2 0 (81 * (S 21)) 0 (by first | assumption | omega | (simp only [upS, reduceIte, Nat.reduceEqDiff, eq_self, List.length_cons, List.length_nil, List.length_append] <;> omega)) (by first | assumption | omega | (simp only [upS, reduceIte, Nat.reduceEqDiff, eq_self, List.length_cons, List.length_nil, List.length_append] <;> omega)) (by first | assumption | omega | (simp only [upS, reduceIte, Nat.reduceEqDiff, eq_self, List.length_cons, List.length_nil, List.length_append] <;> omega)) (by first | assumption | omega | (simp only [upS, reduceIte, Nat.reduceEqDiff, eq_self, List.length_cons, List.length_nil, List.length_append] <;> omega)) (by first | assumption | omega | (simp only [upS, reduceIte, Nat.reduceEqDiff, eq_self, List.length_cons, List.length_nil, List.length_append] <;> omega))) mw10_valueFrom ml10_329 [6, 17, 18, 19, 0, 1] [2, 3, 4, 5, 7, 8, 9, 10, 11, 12, 13, 14, 15, 16] rfl rfl ⟨rfl, rfl⟩ (by decide) 6 10 rfl rfl rfl ⟨Nat.le_of_ble_eq_true rfl, Nat.le_of_ble_eq_true rfl⟩ rfl (rest := []) rfl (Nat.le_of_ble_eq_true rfl) d10_buy_184 ⟨Nat.le_of_ble_eq_true rfl, Nat.le_of_ble_eq_true rfl⟩ (fun r w1 hr => ?_)
                          obtain ⟨v17, mk1_18, wo1_19, nw1_20, lo1_21, dn1_22, up1_23, wa1_24, rfl, rfl, ⟨hq16_0, hq16_1, hq16_2, hq16_3⟩⟩ := hr
                          refine j_eq (ws' := [(ad 49, aInt E 4 so), (ad 50, aInt E 4 si), (ad 51, aInt E 4 pr), (ad 52, aInt E 4 m1), (ad 11, aInt E 36 la), (ad 12, aInt E 4 po), (ad 13, aInt E 20 pt), (ad 6, aInt E 4 cl), (ad 7, aInt E 48 wd), (ad 8, aInt E 48 nu), (ad 9, aInt E 48 fo), (ad 10, aInt E 48 to), (ad 14, aInt E 400 sg), (ad 19, aBoo E 100 pl1_10), (mo, mO ad (upS (upS (upS (upS (upS (upS (upS (upS (upS S 28 tk1_13) 29 se1_14) 30 mx1_15) 31 1) 34 nw1_20) 35 lo1_21) 36 dn1_22) 37 up1_23) 38 wa1_24)), (ad 22, aInt E 24 co), (ad 32, aInt E 12 sp1_11), (ad 33, aInt E 588 le1_12), (ad 39, aBoo E 43173 mk1_18), (ad 40, aInt E 43173 wo1_19)]) rfl rfl rfl ?_
                          try simp only [upS, reduceIte, Nat.reduceEqDiff, eq_self] at hq16_0 hq16_1 hq16_2 hq16_3
                          have hvv := hq16_0
                          have hvm := hq16_3
                          have hWt : byW (cM la po (S 1)) (pM pt (S 1)) (fun s => smM wd nu cl Fq (S 1) 3 s (S 20)) (fun s => smM wd nu cl Fq (S 1) 7 s (S 20)) co so si (S 48) (81 * S 21) t = v17 := by rw [hvv]; rfl
                          have hvr := Vn_r (K := (byK (cM la po (S 1)) (pM pt (S 1)) (fun s => smM wd nu cl Fq (S 1) 3 s (S 20)) (fun s => smM wd nu cl Fq (S 1) 7 s (S 20)) co so si (S 48) t)) (spare := 0) hly.2.2.2.2.1 (by omega) (s := 0) (st := 81 * S 21) (by omega) (by omega)
                          rw [← hvv] at hvr
                          refine j_istore G d10_buy_187 (by decide) rfl ?_
                          refine j_iload G 0 rfl d10_buy_189 ?_
                          refine j_iload_n G 4 rfl d10_buy_191 ?_
                          refine j_icmp_lt (tgt := 221) G d10_buy_192 (by decide) (by omega) (by omega) (fun h25 => ?_) (fun h25 => ?_)
                          ·
                            refine j_iinc G d10_buy_221 2 rfl (by decide) rfl ?_
                            refine j_goto (tgt := 34) G d10_buy_224 (by decide) ?_
                            refine j_locs (ls' := [(5, .int (iZ (t + 1))), (4, .int (iZ c0)), (3, .int (iZ w0)), (2, .int (iZ bst)), (0, .ref mo), (1, .int (iZ purse))]) [0, 3, 4, 5, 6, 7] rfl ?_
                            refine j_perm (ws' := [(mo, mO ad (upS (upS (upS (upS (upS (upS (upS (upS (upS S 28 tk1_13) 29 se1_14) 30 mx1_15) 31 1) 34 nw1_20) 35 lo1_21) 36 dn1_22) 37 up1_23) 38 wa1_24)), (ad 11, aInt E 36 la), (ad 12, aInt E 4 po), (ad 13, aInt E 20 pt), (ad 6, aInt E 4 cl), (ad 7, aInt E 48 wd), (ad 8, aInt E 48 nu), (ad 9, aInt E 48 fo), (ad 10, aInt E 48 to), (ad 14, aInt E 400 sg), (ad 19, aBoo E 100 pl1_10), (ad 22, aInt E 24 co), (ad 32, aInt E 12 sp1_11), (ad 33, aInt E 588 le1_12), (ad 39, aBoo E 43173 mk1_18), (ad 40, aInt E 43173 wo1_19), (ad 49, aInt E 4 so), (ad 50, aInt E 4 si), (ad 51, aInt E 4 pr), (ad 52, aInt E 4 m1)]) [14, 4, 5, 6, 7, 8, 9, 10, 11, 12, 13, 15, 16, 17, 18, 19, 0, 1, 2, 3] rfl rfl rfl ?_
                            exact ih34 bst w0 c0 (t + 1) pl1_10 sp1_11 le1_12 mk1_18 wo1_19 m1 tk1_13 se1_14 mx1_15 1 nw1_20 lo1_21 dn1_22 up1_23 wa1_24 (by omega) (by first | assumption | omega) (by first | assumption | omega) (by first | assumption | omega) (by first | exact hpl1 | exact hpl2) (by first | exact hvm | exact hmk2) (by rw [hw, show (pw (S 48) - t).toNat = (pw (S 48) - (t + 1)).toNat + 1 by omega, byF_s]; first | (rw [if_pos (by show purse < prF pr t (S 48).toNat; omega)]; done) | (rw [if_neg (by show ¬ purse < prF pr t (S 48).toNat; omega), if_pos (by show byW (cM la po (S 1)) (pM pt (S 1)) (fun s => smM wd nu cl Fq (S 1) 3 s (S 20)) (fun s => smM wd nu cl Fq (S 1) 7 s (S 20)) co so si (S 48) (81 * S 21) t < w0 ∨ (byW (cM la po (S 1)) (pM pt (S 1)) (fun s => smM wd nu cl Fq (S 1) 3 s (S 20)) (fun s => smM wd nu cl Fq (S 1) 7 s (S 20)) co so si (S 48) (81 * S 21) t = w0 ∧ c0 ≤ prF pr t (S 48).toNat); omega)]; done) | (rw [if_neg (by show ¬ purse < prF pr t (S 48).toNat; omega), if_neg (by show ¬ (byW (cM la po (S 1)) (pM pt (S 1)) (fun s => smM wd nu cl Fq (S 1) 3 s (S 20)) (fun s => smM wd nu cl Fq (S 1) 7 s (S 20)) co so si (S 48) (81 * S 21) t < w0 ∨ (byW (cM la po (S 1)) (pM pt (S 1)) (fun s => smM wd nu cl Fq (S 1) 3 s (S 20)) (fun s => smM wd nu cl Fq (S 1) 7 s (S 20)) co so si (S 48) (81 * S 21) t = w0 ∧ c0 ≤ prF pr t (S 48).toNat)); omega), hWt, hpe2]; done))
                          ·
                            refine j_iload G 0 rfl d10_buy_195 ?_
                            refine j_iload_n G 4 rfl d10_buy_197 ?_
                            refine j_icmp_ne (tgt := 211) G d10_buy_198 (by decide) (by omega) (by omega) (fun h26 => ?_) (fun h26 => ?_)
                            ·
                              refine j_iload G 2 rfl d10_buy_211 ?_
                              refine j_istore_n G d10_buy_213 (by decide) rfl ?_
                              refine j_iload G 1 rfl d10_buy_214 ?_
                              refine j_istore_n G d10_buy_216 (by decide) rfl ?_
                              refine j_iload G 3 rfl d10_buy_217 ?_
                              refine j_istore G d10_buy_219 (by decide) rfl ?_
                              refine j_iinc G d10_buy_221 5 rfl (by decide) rfl ?_
                              refine j_goto (tgt := 34) G d10_buy_224 (by decide) ?_
                              refine j_locs (ls' := [(5, .int (iZ (t + 1))), (4, .int (iZ pc)), (3, .int (iZ v17)), (2, .int (iZ t)), (0, .ref mo), (1, .int (iZ purse))]) [0, 1, 2, 3, 6, 7] rfl ?_
                              refine j_perm (ws' := [(mo, mO ad (upS (upS (upS (upS (upS (upS (upS (upS (upS S 28 tk1_13) 29 se1_14) 30 mx1_15) 31 1) 34 nw1_20) 35 lo1_21) 36 dn1_22) 37 up1_23) 38 wa1_24)), (ad 11, aInt E 36 la), (ad 12, aInt E 4 po), (ad 13, aInt E 20 pt), (ad 6, aInt E 4 cl), (ad 7, aInt E 48 wd), (ad 8, aInt E 48 nu), (ad 9, aInt E 48 fo), (ad 10, aInt E 48 to), (ad 14, aInt E 400 sg), (ad 19, aBoo E 100 pl1_10), (ad 22, aInt E 24 co), (ad 32, aInt E 12 sp1_11), (ad 33, aInt E 588 le1_12), (ad 39, aBoo E 43173 mk1_18), (ad 40, aInt E 43173 wo1_19), (ad 49, aInt E 4 so), (ad 50, aInt E 4 si), (ad 51, aInt E 4 pr), (ad 52, aInt E 4 m1)]) [14, 4, 5, 6, 7, 8, 9, 10, 11, 12, 13, 15, 16, 17, 18, 19, 0, 1, 2, 3] rfl rfl rfl ?_
                              exact ih34 t v17 pc (t + 1) pl1_10 sp1_11 le1_12 mk1_18 wo1_19 m1 tk1_13 se1_14 mx1_15 1 nw1_20 lo1_21 dn1_22 up1_23 wa1_24 (by omega) (by first | assumption | omega) (by first | assumption | omega) (by first | assumption | omega) (by first | exact hpl1 | exact hpl2) (by first | exact hvm | exact hmk2) (by rw [hw, show (pw (S 48) - t).toNat = (pw (S 48) - (t + 1)).toNat + 1 by omega, byF_s]; first | (rw [if_pos (by show purse < prF pr t (S 48).toNat; omega)]; done) | (rw [if_neg (by show ¬ purse < prF pr t (S 48).toNat; omega), if_pos (by show byW (cM la po (S 1)) (pM pt (S 1)) (fun s => smM wd nu cl Fq (S 1) 3 s (S 20)) (fun s => smM wd nu cl Fq (S 1) 7 s (S 20)) co so si (S 48) (81 * S 21) t < w0 ∨ (byW (cM la po (S 1)) (pM pt (S 1)) (fun s => smM wd nu cl Fq (S 1) 3 s (S 20)) (fun s => smM wd nu cl Fq (S 1) 7 s (S 20)) co so si (S 48) (81 * S 21) t = w0 ∧ c0 ≤ prF pr t (S 48).toNat); omega)]; done) | (rw [if_neg (by show ¬ purse < prF pr t (S 48).toNat; omega), if_neg (by show ¬ (byW (cM la po (S 1)) (pM pt (S 1)) (fun s => smM wd nu cl Fq (S 1) 3 s (S 20)) (fun s => smM wd nu cl Fq (S 1) 7 s (S 20)) co so si (S 48) (81 * S 21) t < w0 ∨ (byW (cM la po (S 1)) (pM pt (S 1)) (fun s => smM wd nu cl Fq (S 1) 3 s (S 20)) (fun s => smM wd nu cl Fq (S 1) 7 s (S 20)) co so si (S 48) (81 * S 21) t = w0 ∧ c0 ≤ prF pr t (S 48).toNat)); omega), hWt, hpe2]; done))
                            ·
                              refine j_iload G 1 rfl d10_buy_201 ?_
                              refine j_iload G 3 rfl d10_buy_203 ?_
                              refine j_icmp_lt (tgt := 211) G d10_buy_205 (by decide) (by omega) (by omega) (fun h27 => ?_) (fun h27 => ?_)
                              ·
                                refine j_iload G 2 rfl d10_buy_211 ?_
                                refine j_istore_n G d10_buy_213 (by decide) rfl ?_
                                refine j_iload G 1 rfl d10_buy_214 ?_
                                refine j_istore_n G d10_buy_216 (by decide) rfl ?_
                                refine j_iload G 3 rfl d10_buy_217 ?_
                                refine j_istore G d10_buy_219 (by decide) rfl ?_
                                refine j_iinc G d10_buy_221 5 rfl (by decide) rfl ?_
                                refine j_goto (tgt := 34) G d10_buy_224 (by decide) ?_
                                refine j_locs (ls' := [(5, .int (iZ (t + 1))), (4, .int (iZ pc)), (3, .int (iZ v17)), (2, .int (iZ t)), (0, .ref mo), (1, .int (iZ purse))]) [0, 1, 2, 3, 6, 7] rfl ?_
                                refine j_perm (ws' := [(mo, mO ad (upS (upS (upS (upS (upS (upS (upS (upS (upS S 28 tk1_13) 29 se1_14) 30 mx1_15) 31 1) 34 nw1_20) 35 lo1_21) 36 dn1_22) 37 up1_23) 38 wa1_24)), (ad 11, aInt E 36 la), (ad 12, aInt E 4 po), (ad 13, aInt E 20 pt), (ad 6, aInt E 4 cl), (ad 7, aInt E 48 wd), (ad 8, aInt E 48 nu), (ad 9, aInt E 48 fo), (ad 10, aInt E 48 to), (ad 14, aInt E 400 sg), (ad 19, aBoo E 100 pl1_10), (ad 22, aInt E 24 co), (ad 32, aInt E 12 sp1_11), (ad 33, aInt E 588 le1_12), (ad 39, aBoo E 43173 mk1_18), (ad 40, aInt E 43173 wo1_19), (ad 49, aInt E 4 so), (ad 50, aInt E 4 si), (ad 51, aInt E 4 pr), (ad 52, aInt E 4 m1)]) [14, 4, 5, 6, 7, 8, 9, 10, 11, 12, 13, 15, 16, 17, 18, 19, 0, 1, 2, 3] rfl rfl rfl ?_
                                exact ih34 t v17 pc (t + 1) pl1_10 sp1_11 le1_12 mk1_18 wo1_19 m1 tk1_13 se1_14 mx1_15 1 nw1_20 lo1_21 dn1_22 up1_23 wa1_24 (by omega) (by first | assumption | omega) (by first | assumption | omega) (by first | assumption | omega) (by first | exact hpl1 | exact hpl2) (by first | exact hvm | exact hmk2) (by rw [hw, show (pw (S 48) - t).toNat = (pw (S 48) - (t + 1)).toNat + 1 by omega, byF_s]; first | (rw [if_pos (by show purse < prF pr t (S 48).toNat; omega)]; done) | (rw [if_neg (by show ¬ purse < prF pr t (S 48).toNat; omega), if_pos (by show byW (cM la po (S 1)) (pM pt (S 1)) (fun s => smM wd nu cl Fq (S 1) 3 s (S 20)) (fun s => smM wd nu cl Fq (S 1) 7 s (S 20)) co so si (S 48) (81 * S 21) t < w0 ∨ (byW (cM la po (S 1)) (pM pt (S 1)) (fun s => smM wd nu cl Fq (S 1) 3 s (S 20)) (fun s => smM wd nu cl Fq (S 1) 7 s (S 20)) co so si (S 48) (81 * S 21) t = w0 ∧ c0 ≤ prF pr t (S 48).toNat); omega)]; done) | (rw [if_neg (by show ¬ purse < prF pr t (S 48).toNat; omega), if_neg (by show ¬ (byW (cM la po (S 1)) (pM pt (S 1)) (fun s => smM wd nu cl Fq (S 1) 3 s (S 20)) (fun s => smM wd nu cl Fq (S 1) 7 s (S 20)) co so si (S 48) (81 * S 21) t < w0 ∨ (byW (cM la po (S 1)) (pM pt (S 1)) (fun s => smM wd nu cl Fq (S 1) 3 s (S 20)) (fun s => smM wd nu cl Fq (S 1) 7 s (S 20)) co so si (S 48) (81 * S 21) t = w0 ∧ c0 ≤ prF pr t (S 48).toNat)); omega), hWt, hpe2]; done))
                              ·
                                refine j_goto (tgt := 221) G d10_buy_208 (by decide) ?_
                                refine j_iinc G d10_buy_221 2 rfl (by decide) rfl ?_
                                refine j_goto (tgt := 34) G d10_buy_224 (by decide) ?_
                                refine j_locs (ls' := [(5, .int (iZ (t + 1))), (4, .int (iZ c0)), (3, .int (iZ w0)), (2, .int (iZ bst)), (0, .ref mo), (1, .int (iZ purse))]) [0, 3, 4, 5, 6, 7] rfl ?_
                                refine j_perm (ws' := [(mo, mO ad (upS (upS (upS (upS (upS (upS (upS (upS (upS S 28 tk1_13) 29 se1_14) 30 mx1_15) 31 1) 34 nw1_20) 35 lo1_21) 36 dn1_22) 37 up1_23) 38 wa1_24)), (ad 11, aInt E 36 la), (ad 12, aInt E 4 po), (ad 13, aInt E 20 pt), (ad 6, aInt E 4 cl), (ad 7, aInt E 48 wd), (ad 8, aInt E 48 nu), (ad 9, aInt E 48 fo), (ad 10, aInt E 48 to), (ad 14, aInt E 400 sg), (ad 19, aBoo E 100 pl1_10), (ad 22, aInt E 24 co), (ad 32, aInt E 12 sp1_11), (ad 33, aInt E 588 le1_12), (ad 39, aBoo E 43173 mk1_18), (ad 40, aInt E 43173 wo1_19), (ad 49, aInt E 4 so), (ad 50, aInt E 4 si), (ad 51, aInt E 4 pr), (ad 52, aInt E 4 m1)]) [14, 4, 5, 6, 7, 8, 9, 10, 11, 12, 13, 15, 16, 17, 18, 19, 0, 1, 2, 3] rfl rfl rfl ?_
                                exact ih34 bst w0 c0 (t + 1) pl1_10 sp1_11 le1_12 mk1_18 wo1_19 m1 tk1_13 se1_14 mx1_15 1 nw1_20 lo1_21 dn1_22 up1_23 wa1_24 (by omega) (by first | assumption | omega) (by first | assumption | omega) (by first | assumption | omega) (by first | exact hpl1 | exact hpl2) (by first | exact hvm | exact hmk2) (by rw [hw, show (pw (S 48) - t).toNat = (pw (S 48) - (t + 1)).toNat + 1 by omega, byF_s]; first | (rw [if_pos (by show purse < prF pr t (S 48).toNat; omega)]; done) | (rw [if_neg (by show ¬ purse < prF pr t (S 48).toNat; omega), if_pos (by show byW (cM la po (S 1)) (pM pt (S 1)) (fun s => smM wd nu cl Fq (S 1) 3 s (S 20)) (fun s => smM wd nu cl Fq (S 1) 7 s (S 20)) co so si (S 48) (81 * S 21) t < w0 ∨ (byW (cM la po (S 1)) (pM pt (S 1)) (fun s => smM wd nu cl Fq (S 1) 3 s (S 20)) (fun s => smM wd nu cl Fq (S 1) 7 s (S 20)) co so si (S 48) (81 * S 21) t = w0 ∧ c0 ≤ prF pr t (S 48).toNat); omega)]; done) | (rw [if_neg (by show ¬ purse < prF pr t (S 48).toNat; omega), if_neg (by show ¬ (byW (cM la po (S 1)) (pM pt (S 1)) (fun s => smM wd nu cl Fq (S 1) 3 s (S 20)) (fun s => smM wd nu cl Fq (S 1) 7 s (S 20)) co so si (S 48) (81 * S 21) t < w0 ∨ (byW (cM la po (S 1)) (pM pt (S 1)) (fun s => smM wd nu cl Fq (S 1) 3 s (S 20)) (fun s => smM wd nu cl Fq (S 1) 7 s (S 20)) co so si (S 48) (81 * S 21) t = w0 ∧ c0 ≤ prF pr t (S 48).toNat)); omega), hWt, hpe2]; done))
                        ·
                          refine j_goto (tgt := 221) G d10_buy_142 (by decide) ?_
                          refine j_iinc G d10_buy_221 2 rfl (by decide) rfl ?_
                          refine j_goto (tgt := 34) G d10_buy_224 (by decide) ?_
                          refine j_locs (ls' := [(5, .int (iZ (t + 1))), (4, .int (iZ c0)), (3, .int (iZ w0)), (2, .int (iZ bst)), (0, .ref mo), (1, .int (iZ purse))]) [0, 3, 4, 5, 6, 7] rfl ?_
                          exact ih34 bst w0 c0 (t + 1) pl2 sp2 le2 mk2 wo2 m1 tk12 se12 mx12 ti12 nw2 lo2 dn2 up2 wa2 (by omega) (by first | assumption | omega) (by first | assumption | omega) (by first | assumption | omega) (by first | exact hpl1 | exact hpl2) (by first | exact hvm | exact hmk2) (by rw [hw, show (pw (S 48) - t).toNat = (pw (S 48) - (t + 1)).toNat + 1 by omega, byF_s]; first | (rw [if_pos (by show purse < prF pr t (S 48).toNat; omega)]; done) | (rw [if_neg (by show ¬ purse < prF pr t (S 48).toNat; omega), if_pos (by show byW (cM la po (S 1)) (pM pt (S 1)) (fun s => smM wd nu cl Fq (S 1) 3 s (S 20)) (fun s => smM wd nu cl Fq (S 1) 7 s (S 20)) co so si (S 48) (81 * S 21) t < w0 ∨ (byW (cM la po (S 1)) (pM pt (S 1)) (fun s => smM wd nu cl Fq (S 1) 3 s (S 20)) (fun s => smM wd nu cl Fq (S 1) 7 s (S 20)) co so si (S 48) (81 * S 21) t = w0 ∧ c0 ≤ prF pr t (S 48).toNat); omega)]; done) | (rw [if_neg (by show ¬ purse < prF pr t (S 48).toNat; omega), if_neg (by show ¬ (byW (cM la po (S 1)) (pM pt (S 1)) (fun s => smM wd nu cl Fq (S 1) 3 s (S 20)) (fun s => smM wd nu cl Fq (S 1) 7 s (S 20)) co so si (S 48) (81 * S 21) t < w0 ∨ (byW (cM la po (S 1)) (pM pt (S 1)) (fun s => smM wd nu cl Fq (S 1) 3 s (S 20)) (fun s => smM wd nu cl Fq (S 1) 7 s (S 20)) co so si (S 48) (81 * S 21) t = w0 ∧ c0 ≤ prF pr t (S 48).toNat)); omega), hWt, hpe2]; done))
                      ·
                        have hok2 := hoo kk (by omega) (by omega)
                        have hb01 := bz_01 (s := t) (k := kk) (by omega) (by omega)
                        have hpr0 := prF_r (pr := pr) (s := t) kk.toNat (by omega) (fun j h1 h2 => (hoo j h1 (by omega)).2.2)
                        have hmr0 := fun u => moF_r (so := so) (si := si) (s := t) (t := u) kk.toNat (fun j h1 h2 => ⟨by have := (hoo j h1 (by omega)).2.1; omega, ((hoo j h1 (by omega)).2.1).2⟩)
                        refine j_iload G 2 rfl d10_buy_83 ?_
                        refine j_iload G 0 rfl d10_buy_85 ?_
                        refine r_ishr G d10_buy_87 ?_
                        refine j_top (y := iZ (((iZ t) >>> ((iZ kk) &&& 31)).toInt)) (iZ_of _).symm ?_
                        refine j_iconst G d10_buy_88 ?_
                        refine r_iand G d10_buy_89 ?_
                        refine j_top (y := (iZ (bz t kk))) (bz_top) ?_
                        refine j_if_ne (tgt := 96) G d10_buy_90 (by decide) (by omega) (fun h28 => ?_) (fun h28 => ?_)
                        ·
                          have hbb : bz t kk = 1 := by omega
                          have hms2 := hm1 (so kk) (by omega) (by omega)
                          have hms3 := hmr0 (so kk)
                          refine j_iload G 1 rfl d10_buy_96 ?_
                          refine j_aload_n G 6 rfl d10_buy_98 ?_
                          refine j_get G 0 10 51 in10 fl10_167 d10_buy_99 rfl rfl (by decide) (v := .ref (ad 51)) rfl rfl ?_
                          refine j_iload G 0 rfl d10_buy_102 ?_
                          refine j_iald G 18 rfl (by omega) d10_buy_104 ?_
                          refine j_iadd G d10_buy_105 ?_
                          refine j_istore G d10_buy_106 (by decide) rfl ?_
                          refine j_aload_n G 6 rfl d10_buy_108 ?_
                          refine j_get G 0 10 52 in10 fl10_170 d10_buy_109 rfl rfl (by decide) (v := .ref (ad 52)) rfl rfl ?_
                          refine j_aload_n G 6 rfl d10_buy_112 ?_
                          refine j_get G 0 10 49 in10 fl10_161 d10_buy_113 rfl rfl (by decide) (v := .ref (ad 49)) rfl rfl ?_
                          refine j_iload G 1 rfl d10_buy_116 ?_
                          refine j_iald G 16 rfl (by omega) d10_buy_118 ?_
                          refine j_dup2 G d10_buy_119 rfl rfl ?_
                          refine j_iald G 19 rfl (by omega) d10_buy_120 ?_
                          refine j_aload_n G 6 rfl d10_buy_121 ?_
                          refine j_get G 0 10 50 in10 fl10_164 d10_buy_122 rfl rfl (by decide) (v := .ref (ad 50)) rfl rfl ?_
                          refine j_iload G 1 rfl d10_buy_125 ?_
                          refine j_iald G 17 rfl (by omega) d10_buy_127 ?_
                          refine j_iadd G d10_buy_128 ?_
                          refine j_iast G 19 rfl (by omega) d10_buy_129 ?_
                          refine j_iinc G d10_buy_130 1 rfl (by decide) rfl ?_
                          refine j_goto (tgt := 74) G d10_buy_133 (by decide) ?_
                          exact ih74 (pc + (pr kk)) (kk + 1) (upI m1 (so kk) ((m1 (so kk)) + (si kk))) (by omega) (by first | assumption | omega) (by rw [prF_s hk.1, ← hp]; first | (rw [hbb, Int.zero_mul] <;> omega) | (rw [hbb, Int.one_mul] <;> omega)) (by first | exact no_more hk.1 hbb hm1 | exact up_more hk.1 (by omega) hm1 _ (by omega))
                        ·
                          have hbb : bz t kk = 0 := by omega
                          refine j_goto (tgt := 130) G d10_buy_93 (by decide) ?_
                          refine j_iinc G d10_buy_130 0 rfl (by decide) rfl ?_
                          refine j_goto (tgt := 74) G d10_buy_133 (by decide) ?_
                          exact ih74 pc (kk + 1) m1 (by omega) (by first | assumption | omega) (by rw [prF_s hk.1, ← hp]; first | (rw [hbb, Int.zero_mul] <;> omega) | (rw [hbb, Int.one_mul] <;> omega)) (by first | exact no_more hk.1 hbb hm1 | exact up_more hk.1 (by omega) hm1 _ (by omega))
                  exact lp74 _ 0 0 m0 (Nat.lt_succ_self _) (by first | assumption | omega) rfl (fun j h1 h2 => hm0 j h1 (by omega))
                ·
                  refine j_aload_n G 6 rfl d10_buy_57 ?_
                  refine j_get G 0 10 52 in10 fl10_170 d10_buy_58 rfl rfl (by decide) (v := .ref (ad 52)) rfl rfl ?_
                  refine j_iload G 0 rfl d10_buy_61 ?_
                  refine j_iconst G d10_buy_63 ?_
                  refine j_iast G 19 rfl (by omega) d10_buy_64 ?_
                  refine j_iinc G d10_buy_65 0 rfl (by decide) rfl ?_
                  refine j_goto (tgt := 51) G d10_buy_68 (by decide) ?_
                  exact ih51 (kz + 1) (upI m0 kz 0) (by omega) (by first | assumption | omega) (fun j h1 h2 => if hj : j = kz then (by unfold upI; rw [if_pos hj]) else (by unfold upI; rw [if_neg hj]; exact hm0 j h1 (by omega)))
            exact lp51 _ 0 mr2 (Nat.lt_succ_self _) (by first | assumption | omega) (fun j h1 h2 => by omega)
      exact lp34 _ 0 (-1) 0 0 pl spr le mk wo mr (S 28) (S 29) (S 30) (S 31) (S 34) (S 35) (S 36) (S 37) (S 38) (Nat.lt_succ_self _) (by first | assumption | omega) (by first | assumption | omega) (by first | assumption | omega) hpl hmk rfl
    ·
      refine j_if_ne (tgt := 24) G d10_buy_18 (by decide) (by decide) (fun h29 => absurd h29 (by decide)) (fun h29 => ?_)
      refine j_bipush G d10_buy_21 rfl ?_
      exact j_iret G F d10_buy_23 ⟨(-2), pl, spr, le, mk, wo, mr, (S 28), (S 29), (S 30), (S 31), (S 34), (S 35), (S 36), (S 37), (S 38), rfl, rfl, (by first | exact ⟨(if_neg (by omega)).symm, hpl, hmk⟩ | (refine ⟨?_, hpl, hmk⟩; rw [if_pos (by omega), if_neg (by omega)]; done) | (refine ⟨?_, hpl2, hmk2⟩; rw [if_pos (by omega), if_pos (by omega), hw, show (pw (S 48) - t).toNat = 0 by omega]; rfl) | (exfalso; omega))⟩
  ·
    refine j_iconst G d10_buy_7 ?_
    exact j_iret G F d10_buy_8 ⟨(-1), pl, spr, le, mk, wo, mr, (S 28), (S 29), (S 30), (S 31), (S 34), (S 35), (S 36), (S 37), (S 38), rfl, rfl, (by first | exact ⟨(if_neg (by omega)).symm, hpl, hmk⟩ | (refine ⟨?_, hpl, hmk⟩; rw [if_pos (by omega), if_neg (by omega)]; done) | (refine ⟨?_, hpl2, hmk2⟩; rw [if_pos (by omega), if_pos (by omega), hw, show (pw (S 48) - t).toNat = 0 by omega]; rfl) | (exfalso; omega))⟩
