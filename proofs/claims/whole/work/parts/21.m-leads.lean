/-! a day by a rule -/
def spF (kind n : Int) : Int := if kind = 5 then n else 0
/-- whether a rule leads the trip that can be -/
def ldI (K : Dy) (kind n step st hd : Int) (rw : Int → Int) : Int :=
  if kind = 0 then 1 else if kind = 1 then (if K.se ≤ dNow K step st % 9 ∨ step = 11 then 1 else 0) else if kind = 2 then (if step % (n + 1) = 0 then 1 else 0) else if kind = 3 then (if dW K step st ≤ n * dUp K step st ∨ step = 11 then 1 else 0) else if kind = 6 then (if step < hd ∧ rw step = 1 then 1 else 0) else if dCan K step st (spF kind n) ∧ Vn K (spF kind n) (step + 1) (dNow K step st) < 100 * dUp K step st + Vn K (spF kind n) (step + 1) (dGone K step st) then 1 else 0
theorem one_if {c : Prop} [Decidable c] : (if c then (1 : Int) else 0) = 1 ↔ c := by
  by_cases h : c
  · rw [if_pos h]; exact ⟨fun _ => h, fun _ => rfl⟩
  · rw [if_neg h]; exact ⟨fun q => absurd q (by decide), fun q => absurd q h⟩
theorem ld_0 {K : Dy} {kind n step st hd : Int} {rw : Int → Int} (h : kind = 0) : ldI K kind n step st hd rw = 1 := by unfold ldI; rw [if_pos h]
theorem ld_1 {K : Dy} {kind n step st hd : Int} {rw : Int → Int} (h : kind = 1) : ldI K kind n step st hd rw = 1 ↔ (K.se ≤ dNow K step st % 9 ∨ step = 11) := by unfold ldI; rw [if_neg (by omega), if_pos h]; exact one_if
theorem ld_2 {K : Dy} {kind n step st hd : Int} {rw : Int → Int} (h : kind = 2) : ldI K kind n step st hd rw = 1 ↔ step % (n + 1) = 0 := by unfold ldI; rw [if_neg (by omega), if_neg (by omega), if_pos h]; exact one_if
theorem ld_3 {K : Dy} {kind n step st hd : Int} {rw : Int → Int} (h : kind = 3) : ldI K kind n step st hd rw = 1 ↔ (dW K step st ≤ n * dUp K step st ∨ step = 11) := by unfold ldI; rw [if_neg (by omega), if_neg (by omega), if_neg (by omega), if_pos h]; exact one_if
theorem ld_6 {K : Dy} {kind n step st hd : Int} {rw : Int → Int} (h : kind = 6) : ldI K kind n step st hd rw = 1 ↔ (step < hd ∧ rw step = 1) := by unfold ldI; rw [if_neg (by omega), if_neg (by omega), if_neg (by omega), if_neg (by omega), if_pos h]; exact one_if
theorem ld_4 {K : Dy} {kind n step st hd : Int} {rw : Int → Int} (h : kind = 4 ∨ kind = 5) : ldI K kind n step st hd rw = 1 ↔ ((0 ≤ dW K step st ∧ spF kind n ≤ dNow K step st / 81 - dW K step st) ∧ Vn K (spF kind n) (step + 1) (dNow K step st) < 100 * dUp K step st + Vn K (spF kind n) (step + 1) (dGone K step st)) := by unfold ldI; rw [if_neg (by omega), if_neg (by omega), if_neg (by omega), if_neg (by omega), if_neg (by omega)]; exact one_if
abbrev gO (K : Dy) (g : Int → Int → Int) (s st : Int) : Prop := dCan K s st 0 ∧ g s st = 1
def dyT (K : Dy) (g : Int → Int → Int) (st0 : Int) : Nat → Int
  | 0 => st0
  | m + 1 => if gO K g m (dyT K g st0 m) then dGone K m (dyT K g st0 m) else dNow K m (dyT K g st0 m)
def dyA (K : Dy) (g : Int → Int → Int) (st0 : Int) (f : Int → Int → Int) : Nat → Int
  | 0 => 0
  | m + 1 => dyA K g st0 f m + (if gO K g m (dyT K g st0 m) then f m (dyT K g st0 m) else 0)
def dyL (K : Dy) (g : Int → Int → Int) (st0 : Int) : Nat → Int
  | 0 => 0
  | m + 1 => dyL K g st0 m + dLost K m (dyT K g st0 m)
def dyQ (K : Dy) (g : Int → Int → Int) (st0 : Int) : Nat → Int
  | 0 => 0
  | m + 1 => dyQ K g st0 m + (dyT K g st0 (m + 1) / 9 % 9 + dyT K g st0 (m + 1) % 9)
def dyP (K : Dy) (g : Int → Int → Int) (st0 s : Int) : Int := if gO K g s (dyT K g st0 s.toNat) then dW K s (dyT K g st0 s.toNat) else -5
section
variable {K : Dy} {g : Int → Int → Int} {st0 s st : Int} {f : Int → Int → Int}
theorem tn1 (h : 0 ≤ s) : (s + 1).toNat = s.toNat + 1 := by omega
theorem tn2 (h : 0 ≤ s) : ((s.toNat : Nat) : Int) = s := by omega
theorem dyT_g (h : 0 ≤ s) (e : st = dyT K g st0 s.toNat) (hg : gO K g s st) : dyT K g st0 (s + 1).toNat = dGone K s st := by
  rw [tn1 h]
  show (if gO K g (s.toNat : Int) (dyT K g st0 s.toNat) then dGone K (s.toNat : Int) (dyT K g st0 s.toNat) else dNow K (s.toNat : Int) (dyT K g st0 s.toNat)) = _
  rw [tn2 h, ← e, if_pos hg]
theorem dyT_n (h : 0 ≤ s) (e : st = dyT K g st0 s.toNat) (hg : ¬ gO K g s st) : dyT K g st0 (s + 1).toNat = dNow K s st := by
  rw [tn1 h]
  show (if gO K g (s.toNat : Int) (dyT K g st0 s.toNat) then dGone K (s.toNat : Int) (dyT K g st0 s.toNat) else dNow K (s.toNat : Int) (dyT K g st0 s.toNat)) = _
  rw [tn2 h, ← e, if_neg hg]
theorem dyA_g (h : 0 ≤ s) (e : st = dyT K g st0 s.toNat) (hg : gO K g s st) : dyA K g st0 f (s + 1).toNat = dyA K g st0 f s.toNat + f s st := by
  rw [tn1 h]
  show _ + (if gO K g (s.toNat : Int) (dyT K g st0 s.toNat) then f (s.toNat : Int) (dyT K g st0 s.toNat) else 0) = _
  rw [tn2 h, ← e, if_pos hg]
theorem dyA_n (h : 0 ≤ s) (e : st = dyT K g st0 s.toNat) (hg : ¬ gO K g s st) : dyA K g st0 f (s + 1).toNat = dyA K g st0 f s.toNat := by
  rw [tn1 h]
  show _ + (if gO K g (s.toNat : Int) (dyT K g st0 s.toNat) then f (s.toNat : Int) (dyT K g st0 s.toNat) else 0) = _
  rw [tn2 h, ← e, if_neg hg]; omega
theorem dyL_s (h : 0 ≤ s) (e : st = dyT K g st0 s.toNat) : dyL K g st0 (s + 1).toNat = dyL K g st0 s.toNat + dLost K s st := by
  rw [tn1 h]
  show _ + dLost K (s.toNat : Int) (dyT K g st0 s.toNat) = _
  rw [tn2 h, ← e]
theorem dyQ_s (h : 0 ≤ s) {x : Int} (e : x = dyT K g st0 (s + 1).toNat) : dyQ K g st0 (s + 1).toNat = dyQ K g st0 s.toNat + (x / 9 % 9 + x % 9) := by
  rw [e, tn1 h]; rfl
theorem dyP_g (e : st = dyT K g st0 s.toNat) (hg : gO K g s st) : dyP K g st0 s = dW K s st := by unfold dyP; rw [← e, if_pos hg]
theorem dyP_n (e : st = dyT K g st0 s.toNat) (hg : ¬ gO K g s st) : dyP K g st0 s = -5 := by unfold dyP; rw [← e, if_neg hg]
theorem dyT_r (hok : okD K) (h0 : 0 ≤ st0 ∧ st0 ≤ 3320) : ∀ m : Nat, m ≤ 12 → 0 ≤ dyT K g st0 m ∧ dyT K g st0 m ≤ 3320
  | 0, _ => h0
  | m + 1, h => by
    have e := dyT_r hok h0 m (by omega)
    unfold dyT
    by_cases hg : gO K g m (dyT K g st0 m)
    · rw [if_pos hg]; exact dGone_r hok (by omega) e (Int.le_refl 0) hg.1
    · rw [if_neg hg]; exact dNow_r hok (by omega) e
theorem dyA_r (hok : okD K) (h0 : 0 ≤ st0 ∧ st0 ≤ 3320) (hf : ∀ s st, (0 ≤ s ∧ s ≤ 11) → (0 ≤ st ∧ st ≤ 3320) → 0 ≤ f s st ∧ f s st ≤ 6) : ∀ m : Nat, m ≤ 12 → 0 ≤ dyA K g st0 f m ∧ dyA K g st0 f m ≤ 6 * m
  | 0, _ => by unfold dyA; omega
  | m + 1, h => by
    have e := dyA_r hok h0 hf m (by omega)
    have e2 := hf m (dyT K g st0 m) (by omega) (dyT_r hok h0 m (by omega))
    unfold dyA
    split <;> omega
end
theorem d10_leads_0 : decode c10_leads 0 = .ok (.iload_n 1, 1) := by decide +kernel
theorem d10_leads_1 : decode c10_leads 1 = .ok (.tableswitch 146 0 6 #[43, 45, 72, 87, 146, 146, 113], 43) := by decide +kernel
theorem d10_leads_44 : decode c10_leads 44 = .ok (.iconst 1, 1) := by decide +kernel
theorem d10_leads_45 : decode c10_leads 45 = .ok (.ireturn, 1) := by decide +kernel
theorem d10_leads_46 : decode c10_leads 46 = .ok (.aload_n 0, 1) := by decide +kernel
theorem d10_leads_47 : decode c10_leads 47 = .ok (.getfield 115, 3) := by decide +kernel
theorem d10_leads_50 : decode c10_leads 50 = .ok (.bipush 9, 2) := by decide +kernel
theorem d10_leads_52 : decode c10_leads 52 = .ok (.irem, 1) := by decide +kernel
theorem d10_leads_53 : decode c10_leads 53 = .ok (.aload_n 0, 1) := by decide +kernel
theorem d10_leads_54 : decode c10_leads 54 = .ok (.getfield 100, 3) := by decide +kernel
theorem d10_leads_57 : decode c10_leads 57 = .ok (.if_icmp .ge 10, 3) := by decide +kernel
theorem d10_leads_60 : decode c10_leads 60 = .ok (.iload 4, 2) := by decide +kernel
theorem d10_leads_62 : decode c10_leads 62 = .ok (.bipush 11, 2) := by decide +kernel
theorem d10_leads_64 : decode c10_leads 64 = .ok (.if_icmp .ne 7, 3) := by decide +kernel
theorem d10_leads_67 : decode c10_leads 67 = .ok (.iconst 1, 1) := by decide +kernel
theorem d10_leads_68 : decode c10_leads 68 = .ok (.goto 4, 3) := by decide +kernel
theorem d10_leads_71 : decode c10_leads 71 = .ok (.iconst 0, 1) := by decide +kernel
theorem d10_leads_72 : decode c10_leads 72 = .ok (.ireturn, 1) := by decide +kernel
theorem d10_leads_73 : decode c10_leads 73 = .ok (.iload 4, 2) := by decide +kernel
theorem d10_leads_75 : decode c10_leads 75 = .ok (.iload_n 2, 1) := by decide +kernel
theorem d10_leads_76 : decode c10_leads 76 = .ok (.iconst 1, 1) := by decide +kernel
theorem d10_leads_77 : decode c10_leads 77 = .ok (.iadd, 1) := by decide +kernel
theorem d10_leads_78 : decode c10_leads 78 = .ok (.irem, 1) := by decide +kernel
theorem d10_leads_79 : decode c10_leads 79 = .ok (.ifCond .ne 7, 3) := by decide +kernel
theorem d10_leads_82 : decode c10_leads 82 = .ok (.iconst 1, 1) := by decide +kernel
theorem d10_leads_83 : decode c10_leads 83 = .ok (.goto 4, 3) := by decide +kernel
theorem d10_leads_86 : decode c10_leads 86 = .ok (.iconst 0, 1) := by decide +kernel
theorem d10_leads_87 : decode c10_leads 87 = .ok (.ireturn, 1) := by decide +kernel
theorem d10_leads_88 : decode c10_leads 88 = .ok (.aload_n 0, 1) := by decide +kernel
theorem d10_leads_89 : decode c10_leads 89 = .ok (.getfield 127, 3) := by decide +kernel
theorem d10_leads_92 : decode c10_leads 92 = .ok (.iload_n 2, 1) := by decide +kernel
theorem d10_leads_93 : decode c10_leads 93 = .ok (.aload_n 0, 1) := by decide +kernel
theorem d10_leads_94 : decode c10_leads 94 = .ok (.getfield 124, 3) := by decide +kernel
theorem d10_leads_97 : decode c10_leads 97 = .ok (.imul, 1) := by decide +kernel
theorem d10_leads_98 : decode c10_leads 98 = .ok (.if_icmp .le 10, 3) := by decide +kernel
theorem d10_leads_101 : decode c10_leads 101 = .ok (.iload 4, 2) := by decide +kernel
theorem d10_leads_103 : decode c10_leads 103 = .ok (.bipush 11, 2) := by decide +kernel
theorem d10_leads_105 : decode c10_leads 105 = .ok (.if_icmp .ne 7, 3) := by decide +kernel
theorem d10_leads_108 : decode c10_leads 108 = .ok (.iconst 1, 1) := by decide +kernel
theorem d10_leads_109 : decode c10_leads 109 = .ok (.goto 4, 3) := by decide +kernel
theorem d10_leads_112 : decode c10_leads 112 = .ok (.iconst 0, 1) := by decide +kernel
theorem d10_leads_113 : decode c10_leads 113 = .ok (.ireturn, 1) := by decide +kernel
theorem d10_leads_114 : decode c10_leads 114 = .ok (.iload 4, 2) := by decide +kernel
theorem d10_leads_116 : decode c10_leads 116 = .ok (.aload_n 0, 1) := by decide +kernel
theorem d10_leads_117 : decode c10_leads 117 = .ok (.getfield 91, 3) := by decide +kernel
theorem d10_leads_120 : decode c10_leads 120 = .ok (.iload_n 3, 1) := by decide +kernel
theorem d10_leads_121 : decode c10_leads 121 = .ok (.iaload, 1) := by decide +kernel
theorem d10_leads_122 : decode c10_leads 122 = .ok (.if_icmp .ge 23, 3) := by decide +kernel
theorem d10_leads_125 : decode c10_leads 125 = .ok (.aload_n 0, 1) := by decide +kernel
theorem d10_leads_126 : decode c10_leads 126 = .ok (.getfield 94, 3) := by decide +kernel
theorem d10_leads_129 : decode c10_leads 129 = .ok (.bipush 12, 2) := by decide +kernel
theorem d10_leads_131 : decode c10_leads 131 = .ok (.iload_n 3, 1) := by decide +kernel
theorem d10_leads_132 : decode c10_leads 132 = .ok (.imul, 1) := by decide +kernel
theorem d10_leads_133 : decode c10_leads 133 = .ok (.iload 4, 2) := by decide +kernel
theorem d10_leads_135 : decode c10_leads 135 = .ok (.iadd, 1) := by decide +kernel
theorem d10_leads_136 : decode c10_leads 136 = .ok (.iaload, 1) := by decide +kernel
theorem d10_leads_137 : decode c10_leads 137 = .ok (.iconst 1, 1) := by decide +kernel
theorem d10_leads_138 : decode c10_leads 138 = .ok (.if_icmp .ne 7, 3) := by decide +kernel
theorem d10_leads_141 : decode c10_leads 141 = .ok (.iconst 1, 1) := by decide +kernel
theorem d10_leads_142 : decode c10_leads 142 = .ok (.goto 4, 3) := by decide +kernel
theorem d10_leads_145 : decode c10_leads 145 = .ok (.iconst 0, 1) := by decide +kernel
theorem d10_leads_146 : decode c10_leads 146 = .ok (.ireturn, 1) := by decide +kernel
theorem d10_leads_147 : decode c10_leads 147 = .ok (.iload_n 1, 1) := by decide +kernel
theorem d10_leads_148 : decode c10_leads 148 = .ok (.iconst 5, 1) := by decide +kernel
theorem d10_leads_149 : decode c10_leads 149 = .ok (.if_icmp .ne 7, 3) := by decide +kernel
theorem d10_leads_152 : decode c10_leads 152 = .ok (.iload_n 2, 1) := by decide +kernel
theorem d10_leads_153 : decode c10_leads 153 = .ok (.goto 4, 3) := by decide +kernel
theorem d10_leads_156 : decode c10_leads 156 = .ok (.iconst 0, 1) := by decide +kernel
theorem d10_leads_157 : decode c10_leads 157 = .ok (.istore 5, 2) := by decide +kernel
theorem d10_leads_159 : decode c10_leads 159 = .ok (.aload_n 0, 1) := by decide +kernel
theorem d10_leads_160 : decode c10_leads 160 = .ok (.iload 5, 2) := by decide +kernel
theorem d10_leads_162 : decode c10_leads 162 = .ok (.invokevirtual 322, 3) := by decide +kernel
theorem d10_leads_165 : decode c10_leads 165 = .ok (.ifCond .eq 54, 3) := by decide +kernel
theorem d10_leads_168 : decode c10_leads 168 = .ok (.bipush 100, 2) := by decide +kernel
theorem d10_leads_170 : decode c10_leads 170 = .ok (.aload_n 0, 1) := by decide +kernel
theorem d10_leads_171 : decode c10_leads 171 = .ok (.getfield 124, 3) := by decide +kernel
theorem d10_leads_174 : decode c10_leads 174 = .ok (.imul, 1) := by decide +kernel
theorem d10_leads_175 : decode c10_leads 175 = .ok (.aload_n 0, 1) := by decide +kernel
theorem d10_leads_176 : decode c10_leads 176 = .ok (.getfield 134, 3) := by decide +kernel
theorem d10_leads_179 : decode c10_leads 179 = .ok (.sipush 3321, 3) := by decide +kernel
theorem d10_leads_182 : decode c10_leads 182 = .ok (.iload 4, 2) := by decide +kernel
theorem d10_leads_184 : decode c10_leads 184 = .ok (.iconst 1, 1) := by decide +kernel
theorem d10_leads_185 : decode c10_leads 185 = .ok (.iadd, 1) := by decide +kernel
theorem d10_leads_186 : decode c10_leads 186 = .ok (.imul, 1) := by decide +kernel
theorem d10_leads_187 : decode c10_leads 187 = .ok (.aload_n 0, 1) := by decide +kernel
theorem d10_leads_188 : decode c10_leads 188 = .ok (.invokevirtual 325, 3) := by decide +kernel
theorem d10_leads_191 : decode c10_leads 191 = .ok (.iadd, 1) := by decide +kernel
theorem d10_leads_192 : decode c10_leads 192 = .ok (.iaload, 1) := by decide +kernel
theorem d10_leads_193 : decode c10_leads 193 = .ok (.iadd, 1) := by decide +kernel
theorem d10_leads_194 : decode c10_leads 194 = .ok (.aload_n 0, 1) := by decide +kernel
theorem d10_leads_195 : decode c10_leads 195 = .ok (.getfield 134, 3) := by decide +kernel
theorem d10_leads_198 : decode c10_leads 198 = .ok (.sipush 3321, 3) := by decide +kernel
theorem d10_leads_201 : decode c10_leads 201 = .ok (.iload 4, 2) := by decide +kernel
theorem d10_leads_203 : decode c10_leads 203 = .ok (.iconst 1, 1) := by decide +kernel
theorem d10_leads_204 : decode c10_leads 204 = .ok (.iadd, 1) := by decide +kernel
theorem d10_leads_205 : decode c10_leads 205 = .ok (.imul, 1) := by decide +kernel
theorem d10_leads_206 : decode c10_leads 206 = .ok (.aload_n 0, 1) := by decide +kernel
theorem d10_leads_207 : decode c10_leads 207 = .ok (.getfield 115, 3) := by decide +kernel
theorem d10_leads_210 : decode c10_leads 210 = .ok (.iadd, 1) := by decide +kernel
theorem d10_leads_211 : decode c10_leads 211 = .ok (.iaload, 1) := by decide +kernel
theorem d10_leads_212 : decode c10_leads 212 = .ok (.if_icmp .le 7, 3) := by decide +kernel
theorem d10_leads_215 : decode c10_leads 215 = .ok (.iconst 1, 1) := by decide +kernel
theorem d10_leads_216 : decode c10_leads 216 = .ok (.goto 4, 3) := by decide +kernel
theorem d10_leads_219 : decode c10_leads 219 = .ok (.iconst 0, 1) := by decide +kernel
theorem d10_leads_220 : decode c10_leads 220 = .ok (.ireturn, 1) := by decide +kernel
theorem mw10_leads : MV y10_leads c10_leads 6 (some .boolean) 4 := ⟨cd10_leads, ini10, na10_leads, im10_leads, se10_leads⟩
set_option maxHeartbeats 4000000 in
set_option maxRecDepth 100000 in
theorem k10_leads (l : Launch) (E : En) (mo : Nat) (ad : Nat → Nat) (S : Nat → Int) (K : Dy) (hd : Int → Int) (rw : Int → Int) (wo : Int → Int) (kind : Int) (n : Int) (ru : Int) (step : Int) (st : Int) (hok : okD K) (hst : 0 ≤ step ∧ step ≤ 11) (hs2 : 0 ≤ st ∧ st ≤ 3320) (h29 : S 29 = K.se) (h34 : S 34 = dNow K step st) (h36 : S 36 = dDn K step st) (h37 : S 37 = dUp K step st) (h38 : S 38 = dW K step st) (hkd : 0 ≤ kind ∧ kind ≤ 6) (hn : 0 ≤ n ∧ n ≤ 20) (hr6 : kind = 6 → (0 ≤ ru ∧ ru ≤ 11) ∧ (0 ≤ hd ru ∧ hd ru ≤ 12) ∧ ∀ j, 0 ≤ j → j < 144 → 0 ≤ rw j ∧ rw j ≤ 1) (hwo : kind = 4 ∨ kind = 5 → wo (3321 * (step + 1) + dNow K step st) = Vn K (spF kind n) (step + 1) (dNow K step st) ∧ (dCan K step st (spF kind n) → wo (3321 * (step + 1) + dGone K step st) = Vn K (spF kind n) (step + 1) (dGone K step st))) (hl0 : 0 ≤ dW K step st) (r_ru : R32 ru) : Cp l E y10_leads c10_leads 6 (some .boolean) 1 21 [.ref mo, .int (iZ kind), .int (iZ n), .int (iZ ru), .int (iZ step)] [(mo, mO ad S), (ad 26, aInt E 12 hd), (ad 27, aInt E 144 rw), (ad 40, aInt E 43173 wo)] (fun r => ∃ (v : Int), r = some (.int (iZ v)) ∧ ((ldI K kind n step st (hd ru) (fun j => rw (12 * ru + j)) = 1 ∧ v = 1) ∨ (¬ ldI K kind n step st (hd ru) (fun j => rw (12 * ru + j)) = 1 ∧ v = 0))) := by
  refine Cp.of (by decide +kernel) (Nat.le_of_ble_eq_true rfl) (fun Γ hl hargs G F => ?_)
  subst hl
  have hdr := dR hok hst hs2
  have hnr := dNow_r hok hst hs2
  have hse := hok.2.1
  refine j_iload_n G 1 rfl d10_leads_0 ?_
  rcases (show kind = 0 ∨ kind = 1 ∨ kind = 2 ∨ kind = 3 ∨ kind = 4 ∨ kind = 5 ∨ kind = 6 ∨ (kind < 0 ∨ 6 < kind) by omega) with h1 | h1 | h1 | h1 | h1 | h1 | h1 | h1
  ·
    refine j_tabIn (tgt := 44) G d10_leads_1 (by omega) 0 h1 ⟨by decide, by decide⟩ rfl (by decide) ?_
    refine j_iconst G d10_leads_44 ?_
    exact j_zret G F d10_leads_45 (by decide) ⟨1, rfl, (by first | (left; exact ⟨ld_0 (by omega), rfl⟩) | (rw [ld_1 (kind := kind) (by omega)]; first | (left; exact ⟨by omega, rfl⟩) | (right; exact ⟨by omega, rfl⟩)) | (rw [ld_2 (kind := kind) (by omega)]; first | (left; exact ⟨by omega, rfl⟩) | (right; exact ⟨by omega, rfl⟩)) | (rw [ld_3 (kind := kind) (by omega), ← h37, ← h38]; first | (left; exact ⟨by omega, rfl⟩) | (right; exact ⟨by omega, rfl⟩)) | (rw [ld_6 (kind := kind) (by omega)]; first | (left; exact ⟨by omega, rfl⟩) | (right; exact ⟨by omega, rfl⟩)) | (rw [ld_4 (kind := kind) (by omega)]; first | (left; exact ⟨by omega, rfl⟩) | (right; exact ⟨by omega, rfl⟩)) | (rw [ld_4 (kind := kind) (by omega)]; right; exact ⟨by omega, rfl⟩))⟩
  ·
    refine j_tabIn (tgt := 46) G d10_leads_1 (by omega) 1 h1 ⟨by decide, by decide⟩ rfl (by decide) ?_
    refine j_aload_n G 0 rfl d10_leads_46 ?_
    refine j_get G 0 10 34 in10 fl10_115 d10_leads_47 rfl rfl (by decide) (v := .int (iZ (S 34))) rfl rfl ?_
    refine j_bipush G d10_leads_50 rfl ?_
    refine j_irem G d10_leads_52 (by omega) ?_
    refine j_aload_n G 0 rfl d10_leads_53 ?_
    refine j_get G 0 10 29 in10 fl10_100 d10_leads_54 rfl rfl (by decide) (v := .int (iZ (S 29))) rfl rfl ?_
    refine j_icmp_ge (tgt := 67) G d10_leads_57 (by decide) (by omega) (by omega) (fun h2 => ?_) (fun h2 => ?_)
    ·
      refine j_iconst G d10_leads_67 ?_
      refine j_goto (tgt := 72) G d10_leads_68 (by decide) ?_
      exact j_zret G F d10_leads_72 (by decide) ⟨1, rfl, (by first | (left; exact ⟨ld_0 (by omega), rfl⟩) | (rw [ld_1 (kind := kind) (by omega)]; first | (left; exact ⟨by omega, rfl⟩) | (right; exact ⟨by omega, rfl⟩)) | (rw [ld_2 (kind := kind) (by omega)]; first | (left; exact ⟨by omega, rfl⟩) | (right; exact ⟨by omega, rfl⟩)) | (rw [ld_3 (kind := kind) (by omega), ← h37, ← h38]; first | (left; exact ⟨by omega, rfl⟩) | (right; exact ⟨by omega, rfl⟩)) | (rw [ld_6 (kind := kind) (by omega)]; first | (left; exact ⟨by omega, rfl⟩) | (right; exact ⟨by omega, rfl⟩)) | (rw [ld_4 (kind := kind) (by omega)]; first | (left; exact ⟨by omega, rfl⟩) | (right; exact ⟨by omega, rfl⟩)) | (rw [ld_4 (kind := kind) (by omega)]; right; exact ⟨by omega, rfl⟩))⟩
    ·
      refine j_iload G 4 rfl d10_leads_60 ?_
      refine j_bipush G d10_leads_62 rfl ?_
      refine j_icmp_ne (tgt := 71) G d10_leads_64 (by decide) (by omega) (by decide) (fun h3 => ?_) (fun h3 => ?_)
      ·
        refine j_iconst G d10_leads_71 ?_
        exact j_zret G F d10_leads_72 (by decide) ⟨0, rfl, (by first | (left; exact ⟨ld_0 (by omega), rfl⟩) | (rw [ld_1 (kind := kind) (by omega)]; first | (left; exact ⟨by omega, rfl⟩) | (right; exact ⟨by omega, rfl⟩)) | (rw [ld_2 (kind := kind) (by omega)]; first | (left; exact ⟨by omega, rfl⟩) | (right; exact ⟨by omega, rfl⟩)) | (rw [ld_3 (kind := kind) (by omega), ← h37, ← h38]; first | (left; exact ⟨by omega, rfl⟩) | (right; exact ⟨by omega, rfl⟩)) | (rw [ld_6 (kind := kind) (by omega)]; first | (left; exact ⟨by omega, rfl⟩) | (right; exact ⟨by omega, rfl⟩)) | (rw [ld_4 (kind := kind) (by omega)]; first | (left; exact ⟨by omega, rfl⟩) | (right; exact ⟨by omega, rfl⟩)) | (rw [ld_4 (kind := kind) (by omega)]; right; exact ⟨by omega, rfl⟩))⟩
      ·
        refine j_iconst G d10_leads_67 ?_
        refine j_goto (tgt := 72) G d10_leads_68 (by decide) ?_
        exact j_zret G F d10_leads_72 (by decide) ⟨1, rfl, (by first | (left; exact ⟨ld_0 (by omega), rfl⟩) | (rw [ld_1 (kind := kind) (by omega)]; first | (left; exact ⟨by omega, rfl⟩) | (right; exact ⟨by omega, rfl⟩)) | (rw [ld_2 (kind := kind) (by omega)]; first | (left; exact ⟨by omega, rfl⟩) | (right; exact ⟨by omega, rfl⟩)) | (rw [ld_3 (kind := kind) (by omega), ← h37, ← h38]; first | (left; exact ⟨by omega, rfl⟩) | (right; exact ⟨by omega, rfl⟩)) | (rw [ld_6 (kind := kind) (by omega)]; first | (left; exact ⟨by omega, rfl⟩) | (right; exact ⟨by omega, rfl⟩)) | (rw [ld_4 (kind := kind) (by omega)]; first | (left; exact ⟨by omega, rfl⟩) | (right; exact ⟨by omega, rfl⟩)) | (rw [ld_4 (kind := kind) (by omega)]; right; exact ⟨by omega, rfl⟩))⟩
  ·
    refine j_tabIn (tgt := 73) G d10_leads_1 (by omega) 2 h1 ⟨by decide, by decide⟩ rfl (by decide) ?_
    have hem : 0 ≤ step % (n + 1) := Int.emod_nonneg _ (by omega)
    have hel : step % (n + 1) < n + 1 := Int.emod_lt_of_pos _ (by omega)
    refine j_iload G 4 rfl d10_leads_73 ?_
    refine j_iload_n G 2 rfl d10_leads_75 ?_
    refine j_iconst G d10_leads_76 ?_
    refine j_iadd G d10_leads_77 ?_
    refine j_irem G d10_leads_78 (by omega) ?_
    refine j_if_ne (tgt := 86) G d10_leads_79 (by decide) (by omega) (fun h4 => ?_) (fun h4 => ?_)
    ·
      refine j_iconst G d10_leads_86 ?_
      exact j_zret G F d10_leads_87 (by decide) ⟨0, rfl, (by first | (left; exact ⟨ld_0 (by omega), rfl⟩) | (rw [ld_1 (kind := kind) (by omega)]; first | (left; exact ⟨by omega, rfl⟩) | (right; exact ⟨by omega, rfl⟩)) | (rw [ld_2 (kind := kind) (by omega)]; first | (left; exact ⟨by omega, rfl⟩) | (right; exact ⟨by omega, rfl⟩)) | (rw [ld_3 (kind := kind) (by omega), ← h37, ← h38]; first | (left; exact ⟨by omega, rfl⟩) | (right; exact ⟨by omega, rfl⟩)) | (rw [ld_6 (kind := kind) (by omega)]; first | (left; exact ⟨by omega, rfl⟩) | (right; exact ⟨by omega, rfl⟩)) | (rw [ld_4 (kind := kind) (by omega)]; first | (left; exact ⟨by omega, rfl⟩) | (right; exact ⟨by omega, rfl⟩)) | (rw [ld_4 (kind := kind) (by omega)]; right; exact ⟨by omega, rfl⟩))⟩
    ·
      refine j_iconst G d10_leads_82 ?_
      refine j_goto (tgt := 87) G d10_leads_83 (by decide) ?_
      exact j_zret G F d10_leads_87 (by decide) ⟨1, rfl, (by first | (left; exact ⟨ld_0 (by omega), rfl⟩) | (rw [ld_1 (kind := kind) (by omega)]; first | (left; exact ⟨by omega, rfl⟩) | (right; exact ⟨by omega, rfl⟩)) | (rw [ld_2 (kind := kind) (by omega)]; first | (left; exact ⟨by omega, rfl⟩) | (right; exact ⟨by omega, rfl⟩)) | (rw [ld_3 (kind := kind) (by omega), ← h37, ← h38]; first | (left; exact ⟨by omega, rfl⟩) | (right; exact ⟨by omega, rfl⟩)) | (rw [ld_6 (kind := kind) (by omega)]; first | (left; exact ⟨by omega, rfl⟩) | (right; exact ⟨by omega, rfl⟩)) | (rw [ld_4 (kind := kind) (by omega)]; first | (left; exact ⟨by omega, rfl⟩) | (right; exact ⟨by omega, rfl⟩)) | (rw [ld_4 (kind := kind) (by omega)]; right; exact ⟨by omega, rfl⟩))⟩
  ·
    refine j_tabIn (tgt := 88) G d10_leads_1 (by omega) 3 h1 ⟨by decide, by decide⟩ rfl (by decide) ?_
    have hmu : 0 ≤ n * S 37 := Int.mul_nonneg hn.1 (by omega)
    have hmv := mulb (a := n) (b := S 37) (A := 20) (B := 6) (by omega) (by omega) (by omega) (by omega)
    refine j_aload_n G 0 rfl d10_leads_88 ?_
    refine j_get G 0 10 38 in10 fl10_127 d10_leads_89 rfl rfl (by decide) (v := .int (iZ (S 38))) rfl rfl ?_
    refine j_iload_n G 2 rfl d10_leads_92 ?_
    refine j_aload_n G 0 rfl d10_leads_93 ?_
    refine j_get G 0 10 37 in10 fl10_124 d10_leads_94 rfl rfl (by decide) (v := .int (iZ (S 37))) rfl rfl ?_
    refine j_imul G d10_leads_97 ?_
    refine j_icmp_le (tgt := 108) G d10_leads_98 (by decide) (by omega) (by omega) (fun h5 => ?_) (fun h5 => ?_)
    ·
      refine j_iconst G d10_leads_108 ?_
      refine j_goto (tgt := 113) G d10_leads_109 (by decide) ?_
      exact j_zret G F d10_leads_113 (by decide) ⟨1, rfl, (by first | (left; exact ⟨ld_0 (by omega), rfl⟩) | (rw [ld_1 (kind := kind) (by omega)]; first | (left; exact ⟨by omega, rfl⟩) | (right; exact ⟨by omega, rfl⟩)) | (rw [ld_2 (kind := kind) (by omega)]; first | (left; exact ⟨by omega, rfl⟩) | (right; exact ⟨by omega, rfl⟩)) | (rw [ld_3 (kind := kind) (by omega), ← h37, ← h38]; first | (left; exact ⟨by omega, rfl⟩) | (right; exact ⟨by omega, rfl⟩)) | (rw [ld_6 (kind := kind) (by omega)]; first | (left; exact ⟨by omega, rfl⟩) | (right; exact ⟨by omega, rfl⟩)) | (rw [ld_4 (kind := kind) (by omega)]; first | (left; exact ⟨by omega, rfl⟩) | (right; exact ⟨by omega, rfl⟩)) | (rw [ld_4 (kind := kind) (by omega)]; right; exact ⟨by omega, rfl⟩))⟩
    ·
      refine j_iload G 4 rfl d10_leads_101 ?_
      refine j_bipush G d10_leads_103 rfl ?_
      refine j_icmp_ne (tgt := 112) G d10_leads_105 (by decide) (by omega) (by decide) (fun h6 => ?_) (fun h6 => ?_)
      ·
        refine j_iconst G d10_leads_112 ?_
        exact j_zret G F d10_leads_113 (by decide) ⟨0, rfl, (by first | (left; exact ⟨ld_0 (by omega), rfl⟩) | (rw [ld_1 (kind := kind) (by omega)]; first | (left; exact ⟨by omega, rfl⟩) | (right; exact ⟨by omega, rfl⟩)) | (rw [ld_2 (kind := kind) (by omega)]; first | (left; exact ⟨by omega, rfl⟩) | (right; exact ⟨by omega, rfl⟩)) | (rw [ld_3 (kind := kind) (by omega), ← h37, ← h38]; first | (left; exact ⟨by omega, rfl⟩) | (right; exact ⟨by omega, rfl⟩)) | (rw [ld_6 (kind := kind) (by omega)]; first | (left; exact ⟨by omega, rfl⟩) | (right; exact ⟨by omega, rfl⟩)) | (rw [ld_4 (kind := kind) (by omega)]; first | (left; exact ⟨by omega, rfl⟩) | (right; exact ⟨by omega, rfl⟩)) | (rw [ld_4 (kind := kind) (by omega)]; right; exact ⟨by omega, rfl⟩))⟩
      ·
        refine j_iconst G d10_leads_108 ?_
        refine j_goto (tgt := 113) G d10_leads_109 (by decide) ?_
        exact j_zret G F d10_leads_113 (by decide) ⟨1, rfl, (by first | (left; exact ⟨ld_0 (by omega), rfl⟩) | (rw [ld_1 (kind := kind) (by omega)]; first | (left; exact ⟨by omega, rfl⟩) | (right; exact ⟨by omega, rfl⟩)) | (rw [ld_2 (kind := kind) (by omega)]; first | (left; exact ⟨by omega, rfl⟩) | (right; exact ⟨by omega, rfl⟩)) | (rw [ld_3 (kind := kind) (by omega), ← h37, ← h38]; first | (left; exact ⟨by omega, rfl⟩) | (right; exact ⟨by omega, rfl⟩)) | (rw [ld_6 (kind := kind) (by omega)]; first | (left; exact ⟨by omega, rfl⟩) | (right; exact ⟨by omega, rfl⟩)) | (rw [ld_4 (kind := kind) (by omega)]; first | (left; exact ⟨by omega, rfl⟩) | (right; exact ⟨by omega, rfl⟩)) | (rw [ld_4 (kind := kind) (by omega)]; right; exact ⟨by omega, rfl⟩))⟩
  ·
    refine j_tabIn (tgt := 147) G d10_leads_1 (by omega) 4 h1 ⟨by decide, by decide⟩ rfl (by decide) ?_
    refine j_iload_n G 1 rfl d10_leads_147 ?_
    refine j_iconst G d10_leads_148 ?_
    have mg149 : ∀ x7 : Int, x7 = (if kind ≠ 5 then 0 else n) → J E 6 Γ none 0 0 [(mo, mO ad S), (ad 26, aInt E 12 hd), (ad 27, aInt E 144 rw), (ad 40, aInt E 43173 wo)] 157 [(0, .ref mo), (1, .int (iZ kind)), (2, .int (iZ n)), (3, .int (iZ ru)), (4, .int (iZ step))] ([.int (iZ x7)]) := by
      intro x7 ex7
      have hsp : x7 = spF kind n := by unfold spF; rw [ex7]; (repeat' split) <;> omega
      have hw4 := hwo (by omega)
      have hv1 := Vn_r (spare := spF kind n) hok (by unfold spF; split <;> omega) (s := step + 1) (st := dNow K step st) (by omega) hnr
      have hge : S 34 - 81 * S 38 - 9 * S 36 - S 37 = dGone K step st := by unfold dGone; omega
      have hw4a : wo (3321 * (step + 1) + S 34) = Vn K (spF kind n) (step + 1) (dNow K step st) := by rw [h34]; exact hw4.1
      refine j_istore G d10_leads_157 (by decide) rfl ?_
      refine j_aload_n G 1 rfl d10_leads_159 ?_
      refine j_iload G 0 rfl d10_leads_160 ?_
      refine j_VP G (k10_can (xl Γ) E mo ad S x7 (by first | assumption | omega | (simp only [upS, reduceIte, Nat.reduceEqDiff, eq_self, List.length_cons, List.length_nil, List.length_append] <;> omega)) (by first | assumption | omega | (simp only [upS, reduceIte, Nat.reduceEqDiff, eq_self, List.length_cons, List.length_nil, List.length_append] <;> omega)) (by first | assumption | omega | (simp only [upS, reduceIte, Nat.reduceEqDiff, eq_self, List.length_cons, List.length_nil, List.length_append] <;> omega))) mw10_can ml10_322 [0] rfl 0 10 rfl rfl rfl ⟨Nat.le_of_ble_eq_true rfl, Nat.le_of_ble_eq_true rfl⟩ rfl (rest := []) rfl (Nat.le_of_ble_eq_true rfl) d10_leads_162 ⟨Nat.le_of_ble_eq_true rfl, Nat.le_of_ble_eq_true rfl⟩ (fun r hr => ?_)
      obtain ⟨v9, rfl, hq8⟩ := hr
      rcases hq8 with ⟨hq8, rfl⟩ | ⟨hq8, rfl⟩
      ·
        refine j_if_eq (tgt := 219) G d10_leads_165 (by decide) (by decide) (fun h10 => absurd h10 (by decide)) (fun h10 => ?_)
        have hcc : dCan K step st (spF kind n) := ⟨by omega, by omega⟩
        have hw5 : wo (3321 * (step + 1) + (S 34 - 81 * S 38 - 9 * S 36 - S 37)) = Vn K (spF kind n) (step + 1) (dGone K step st) := by rw [hge]; exact hw4.2 hcc
        have hw6 := dGone_r hok hst hs2 (by unfold spF; split <;> omega) hcc
        have hv2 := Vn_r (spare := spF kind n) hok (by unfold spF; split <;> omega) (s := step + 1) (st := dGone K step st) (by omega) hw6
        refine j_bipush G d10_leads_168 rfl ?_
        refine j_aload_n G 1 rfl d10_leads_170 ?_
        refine j_get G 0 10 37 in10 fl10_124 d10_leads_171 rfl rfl (by decide) (v := .int (iZ (S 37))) rfl rfl ?_
        refine j_imul G d10_leads_174 ?_
        refine j_aload_n G 1 rfl d10_leads_175 ?_
        refine j_get G 0 10 40 in10 fl10_134 d10_leads_176 rfl rfl (by decide) (v := .ref (ad 40)) rfl rfl ?_
        refine j_sipush G d10_leads_179 rfl ?_
        refine j_iload G 5 rfl d10_leads_182 ?_
        refine j_iconst G d10_leads_184 ?_
        refine j_iadd G d10_leads_185 ?_
        refine j_imul G d10_leads_186 ?_
        refine j_aload_n G 1 rfl d10_leads_187 ?_
        refine j_VP G (k10_gone (xl Γ) E mo ad S ) mw10_gone ml10_325 [0] rfl 0 10 rfl rfl rfl ⟨Nat.le_of_ble_eq_true rfl, Nat.le_of_ble_eq_true rfl⟩ rfl (rest := [.int (iZ (3321 * (step + 1))), .ref (ad 40), .int (iZ (100 * (S 37)))]) rfl (Nat.le_of_ble_eq_true rfl) d10_leads_188 ⟨Nat.le_of_ble_eq_true rfl, Nat.le_of_ble_eq_true rfl⟩ (fun r hr => ?_)
        obtain ⟨_, rfl, rfl⟩ := hr
        refine j_iadd G d10_leads_191 ?_
        refine j_iald G 3 rfl (by omega) d10_leads_192 ?_
        refine j_iadd G d10_leads_193 ?_
        refine j_aload_n G 1 rfl d10_leads_194 ?_
        refine j_get G 0 10 40 in10 fl10_134 d10_leads_195 rfl rfl (by decide) (v := .ref (ad 40)) rfl rfl ?_
        refine j_sipush G d10_leads_198 rfl ?_
        refine j_iload G 5 rfl d10_leads_201 ?_
        refine j_iconst G d10_leads_203 ?_
        refine j_iadd G d10_leads_204 ?_
        refine j_imul G d10_leads_205 ?_
        refine j_aload_n G 1 rfl d10_leads_206 ?_
        refine j_get G 0 10 34 in10 fl10_115 d10_leads_207 rfl rfl (by decide) (v := .int (iZ (S 34))) rfl rfl ?_
        refine j_iadd G d10_leads_210 ?_
        refine j_iald G 3 rfl (by omega) d10_leads_211 ?_
        refine j_icmp_le (tgt := 219) G d10_leads_212 (by decide) (by omega) (by omega) (fun h12 => ?_) (fun h12 => ?_)
        ·
          refine j_iconst G d10_leads_219 ?_
          exact j_zret G F d10_leads_220 (by decide) ⟨0, rfl, (by first | (left; exact ⟨ld_0 (by omega), rfl⟩) | (rw [ld_1 (kind := kind) (by omega)]; first | (left; exact ⟨by omega, rfl⟩) | (right; exact ⟨by omega, rfl⟩)) | (rw [ld_2 (kind := kind) (by omega)]; first | (left; exact ⟨by omega, rfl⟩) | (right; exact ⟨by omega, rfl⟩)) | (rw [ld_3 (kind := kind) (by omega), ← h37, ← h38]; first | (left; exact ⟨by omega, rfl⟩) | (right; exact ⟨by omega, rfl⟩)) | (rw [ld_6 (kind := kind) (by omega)]; first | (left; exact ⟨by omega, rfl⟩) | (right; exact ⟨by omega, rfl⟩)) | (rw [ld_4 (kind := kind) (by omega)]; first | (left; exact ⟨by omega, rfl⟩) | (right; exact ⟨by omega, rfl⟩)) | (rw [ld_4 (kind := kind) (by omega)]; right; exact ⟨by omega, rfl⟩))⟩
        ·
          refine j_iconst G d10_leads_215 ?_
          refine j_goto (tgt := 220) G d10_leads_216 (by decide) ?_
          exact j_zret G F d10_leads_220 (by decide) ⟨1, rfl, (by first | (left; exact ⟨ld_0 (by omega), rfl⟩) | (rw [ld_1 (kind := kind) (by omega)]; first | (left; exact ⟨by omega, rfl⟩) | (right; exact ⟨by omega, rfl⟩)) | (rw [ld_2 (kind := kind) (by omega)]; first | (left; exact ⟨by omega, rfl⟩) | (right; exact ⟨by omega, rfl⟩)) | (rw [ld_3 (kind := kind) (by omega), ← h37, ← h38]; first | (left; exact ⟨by omega, rfl⟩) | (right; exact ⟨by omega, rfl⟩)) | (rw [ld_6 (kind := kind) (by omega)]; first | (left; exact ⟨by omega, rfl⟩) | (right; exact ⟨by omega, rfl⟩)) | (rw [ld_4 (kind := kind) (by omega)]; first | (left; exact ⟨by omega, rfl⟩) | (right; exact ⟨by omega, rfl⟩)) | (rw [ld_4 (kind := kind) (by omega)]; right; exact ⟨by omega, rfl⟩))⟩
      ·
        refine j_if_eq (tgt := 219) G d10_leads_165 (by decide) (by decide) (fun h13 => ?_) (fun h13 => absurd h13 (by decide))
        refine j_iconst G d10_leads_219 ?_
        exact j_zret G F d10_leads_220 (by decide) ⟨0, rfl, (by first | (left; exact ⟨ld_0 (by omega), rfl⟩) | (rw [ld_1 (kind := kind) (by omega)]; first | (left; exact ⟨by omega, rfl⟩) | (right; exact ⟨by omega, rfl⟩)) | (rw [ld_2 (kind := kind) (by omega)]; first | (left; exact ⟨by omega, rfl⟩) | (right; exact ⟨by omega, rfl⟩)) | (rw [ld_3 (kind := kind) (by omega), ← h37, ← h38]; first | (left; exact ⟨by omega, rfl⟩) | (right; exact ⟨by omega, rfl⟩)) | (rw [ld_6 (kind := kind) (by omega)]; first | (left; exact ⟨by omega, rfl⟩) | (right; exact ⟨by omega, rfl⟩)) | (rw [ld_4 (kind := kind) (by omega)]; first | (left; exact ⟨by omega, rfl⟩) | (right; exact ⟨by omega, rfl⟩)) | (rw [ld_4 (kind := kind) (by omega)]; right; exact ⟨by omega, rfl⟩))⟩
    refine j_icmp_ne (tgt := 156) G d10_leads_149 (by decide) (by omega) (by decide) (fun h14 => ?_) (fun h14 => ?_)
    ·
      refine j_iconst G d10_leads_156 ?_
      refine j_eq (ws' := [(mo, mO ad S), (ad 26, aInt E 12 hd), (ad 27, aInt E 144 rw), (ad 40, aInt E 43173 wo)]) (ls' := [(0, .ref mo), (1, .int (iZ kind)), (2, .int (iZ n)), (3, .int (iZ ru)), (4, .int (iZ step))]) rfl rfl rfl ?_
      exact mg149 _ (by first | rfl | (simp only [*, if_true, if_false, ite_true, ite_false]; done) | (split <;> first | rfl | omega | (split <;> first | rfl | omega | (split <;> first | rfl | omega))))
    ·
      refine j_iload_n G 2 rfl d10_leads_152 ?_
      refine j_goto (tgt := 157) G d10_leads_153 (by decide) ?_
      refine j_eq (ws' := [(mo, mO ad S), (ad 26, aInt E 12 hd), (ad 27, aInt E 144 rw), (ad 40, aInt E 43173 wo)]) (ls' := [(0, .ref mo), (1, .int (iZ kind)), (2, .int (iZ n)), (3, .int (iZ ru)), (4, .int (iZ step))]) rfl rfl rfl ?_
      exact mg149 _ (by first | rfl | (simp only [*, if_true, if_false, ite_true, ite_false]; done) | (split <;> first | rfl | omega | (split <;> first | rfl | omega | (split <;> first | rfl | omega))))
  ·
    refine j_tabIn (tgt := 147) G d10_leads_1 (by omega) 5 h1 ⟨by decide, by decide⟩ rfl (by decide) ?_
    refine j_iload_n G 1 rfl d10_leads_147 ?_
    refine j_iconst G d10_leads_148 ?_
    have mg149 : ∀ x15 : Int, x15 = (if kind ≠ 5 then 0 else n) → J E 6 Γ none 0 0 [(mo, mO ad S), (ad 26, aInt E 12 hd), (ad 27, aInt E 144 rw), (ad 40, aInt E 43173 wo)] 157 [(0, .ref mo), (1, .int (iZ kind)), (2, .int (iZ n)), (3, .int (iZ ru)), (4, .int (iZ step))] ([.int (iZ x15)]) := by
      intro x15 ex15
      have hsp : x15 = spF kind n := by unfold spF; rw [ex15]; (repeat' split) <;> omega
      have hw4 := hwo (by omega)
      have hv1 := Vn_r (spare := spF kind n) hok (by unfold spF; split <;> omega) (s := step + 1) (st := dNow K step st) (by omega) hnr
      have hge : S 34 - 81 * S 38 - 9 * S 36 - S 37 = dGone K step st := by unfold dGone; omega
      have hw4a : wo (3321 * (step + 1) + S 34) = Vn K (spF kind n) (step + 1) (dNow K step st) := by rw [h34]; exact hw4.1
      refine j_istore G d10_leads_157 (by decide) rfl ?_
      refine j_aload_n G 1 rfl d10_leads_159 ?_
      refine j_iload G 0 rfl d10_leads_160 ?_
      refine j_VP G (k10_can (xl Γ) E mo ad S x15 (by first | assumption | omega | (simp only [upS, reduceIte, Nat.reduceEqDiff, eq_self, List.length_cons, List.length_nil, List.length_append] <;> omega)) (by first | assumption | omega | (simp only [upS, reduceIte, Nat.reduceEqDiff, eq_self, List.length_cons, List.length_nil, List.length_append] <;> omega)) (by first | assumption | omega | (simp only [upS, reduceIte, Nat.reduceEqDiff, eq_self, List.length_cons, List.length_nil, List.length_append] <;> omega))) mw10_can ml10_322 [0] rfl 0 10 rfl rfl rfl ⟨Nat.le_of_ble_eq_true rfl, Nat.le_of_ble_eq_true rfl⟩ rfl (rest := []) rfl (Nat.le_of_ble_eq_true rfl) d10_leads_162 ⟨Nat.le_of_ble_eq_true rfl, Nat.le_of_ble_eq_true rfl⟩ (fun r hr => ?_)
      obtain ⟨v17, rfl, hq16⟩ := hr
      rcases hq16 with ⟨hq16, rfl⟩ | ⟨hq16, rfl⟩
      ·
        refine j_if_eq (tgt := 219) G d10_leads_165 (by decide) (by decide) (fun h18 => absurd h18 (by decide)) (fun h18 => ?_)
        have hcc : dCan K step st (spF kind n) := ⟨by omega, by omega⟩
        have hw5 : wo (3321 * (step + 1) + (S 34 - 81 * S 38 - 9 * S 36 - S 37)) = Vn K (spF kind n) (step + 1) (dGone K step st) := by rw [hge]; exact hw4.2 hcc
        have hw6 := dGone_r hok hst hs2 (by unfold spF; split <;> omega) hcc
        have hv2 := Vn_r (spare := spF kind n) hok (by unfold spF; split <;> omega) (s := step + 1) (st := dGone K step st) (by omega) hw6
        refine j_bipush G d10_leads_168 rfl ?_
        refine j_aload_n G 1 rfl d10_leads_170 ?_
        refine j_get G 0 10 37 in10 fl10_124 d10_leads_171 rfl rfl (by decide) (v := .int (iZ (S 37))) rfl rfl ?_
        refine j_imul G d10_leads_174 ?_
        refine j_aload_n G 1 rfl d10_leads_175 ?_
        refine j_get G 0 10 40 in10 fl10_134 d10_leads_176 rfl rfl (by decide) (v := .ref (ad 40)) rfl rfl ?_
        refine j_sipush G d10_leads_179 rfl ?_
        refine j_iload G 5 rfl d10_leads_182 ?_
        refine j_iconst G d10_leads_184 ?_
        refine j_iadd G d10_leads_185 ?_
        refine j_imul G d10_leads_186 ?_
        refine j_aload_n G 1 rfl d10_leads_187 ?_
        refine j_VP G (k10_gone (xl Γ) E mo ad S ) mw10_gone ml10_325 [0] rfl 0 10 rfl rfl rfl ⟨Nat.le_of_ble_eq_true rfl, Nat.le_of_ble_eq_true rfl⟩ rfl (rest := [.int (iZ (3321 * (step + 1))), .ref (ad 40), .int (iZ (100 * (S 37)))]) rfl (Nat.le_of_ble_eq_true rfl) d10_leads_188 ⟨Nat.le_of_ble_eq_true rfl, Nat.le_of_ble_eq_true rfl⟩ (fun r hr => ?_)
        obtain ⟨_, rfl, rfl⟩ := hr
        refine j_iadd G d10_leads_191 ?_
        refine j_iald G 3 rfl (by omega) d10_leads_192 ?_
        refine j_iadd G d10_leads_193 ?_
        refine j_aload_n G 1 rfl d10_leads_194 ?_
        refine j_get G 0 10 40 in10 fl10_134 d10_leads_195 rfl rfl (by decide) (v := .ref (ad 40)) rfl rfl ?_
        refine j_sipush G d10_leads_198 rfl ?_
        refine j_iload G 5 rfl d10_leads_201 ?_
        refine j_iconst G d10_leads_203 ?_
        refine j_iadd G d10_leads_204 ?_
        refine j_imul G d10_leads_205 ?_
        refine j_aload_n G 1 rfl d10_leads_206 ?_
        refine j_get G 0 10 34 in10 fl10_115 d10_leads_207 rfl rfl (by decide) (v := .int (iZ (S 34))) rfl rfl ?_
        refine j_iadd G d10_leads_210 ?_
        refine j_iald G 3 rfl (by omega) d10_leads_211 ?_
        refine j_icmp_le (tgt := 219) G d10_leads_212 (by decide) (by omega) (by omega) (fun h20 => ?_) (fun h20 => ?_)
        ·
          refine j_iconst G d10_leads_219 ?_
          exact j_zret G F d10_leads_220 (by decide) ⟨0, rfl, (by first | (left; exact ⟨ld_0 (by omega), rfl⟩) | (rw [ld_1 (kind := kind) (by omega)]; first | (left; exact ⟨by omega, rfl⟩) | (right; exact ⟨by omega, rfl⟩)) | (rw [ld_2 (kind := kind) (by omega)]; first | (left; exact ⟨by omega, rfl⟩) | (right; exact ⟨by omega, rfl⟩)) | (rw [ld_3 (kind := kind) (by omega), ← h37, ← h38]; first | (left; exact ⟨by omega, rfl⟩) | (right; exact ⟨by omega, rfl⟩)) | (rw [ld_6 (kind := kind) (by omega)]; first | (left; exact ⟨by omega, rfl⟩) | (right; exact ⟨by omega, rfl⟩)) | (rw [ld_4 (kind := kind) (by omega)]; first | (left; exact ⟨by omega, rfl⟩) | (right; exact ⟨by omega, rfl⟩)) | (rw [ld_4 (kind := kind) (by omega)]; right; exact ⟨by omega, rfl⟩))⟩
        ·
          refine j_iconst G d10_leads_215 ?_
          refine j_goto (tgt := 220) G d10_leads_216 (by decide) ?_
          exact j_zret G F d10_leads_220 (by decide) ⟨1, rfl, (by first | (left; exact ⟨ld_0 (by omega), rfl⟩) | (rw [ld_1 (kind := kind) (by omega)]; first | (left; exact ⟨by omega, rfl⟩) | (right; exact ⟨by omega, rfl⟩)) | (rw [ld_2 (kind := kind) (by omega)]; first | (left; exact ⟨by omega, rfl⟩) | (right; exact ⟨by omega, rfl⟩)) | (rw [ld_3 (kind := kind) (by omega), ← h37, ← h38]; first | (left; exact ⟨by omega, rfl⟩) | (right; exact ⟨by omega, rfl⟩)) | (rw [ld_6 (kind := kind) (by omega)]; first | (left; exact ⟨by omega, rfl⟩) | (right; exact ⟨by omega, rfl⟩)) | (rw [ld_4 (kind := kind) (by omega)]; first | (left; exact ⟨by omega, rfl⟩) | (right; exact ⟨by omega, rfl⟩)) | (rw [ld_4 (kind := kind) (by omega)]; right; exact ⟨by omega, rfl⟩))⟩
      ·
        refine j_if_eq (tgt := 219) G d10_leads_165 (by decide) (by decide) (fun h21 => ?_) (fun h21 => absurd h21 (by decide))
        refine j_iconst G d10_leads_219 ?_
        exact j_zret G F d10_leads_220 (by decide) ⟨0, rfl, (by first | (left; exact ⟨ld_0 (by omega), rfl⟩) | (rw [ld_1 (kind := kind) (by omega)]; first | (left; exact ⟨by omega, rfl⟩) | (right; exact ⟨by omega, rfl⟩)) | (rw [ld_2 (kind := kind) (by omega)]; first | (left; exact ⟨by omega, rfl⟩) | (right; exact ⟨by omega, rfl⟩)) | (rw [ld_3 (kind := kind) (by omega), ← h37, ← h38]; first | (left; exact ⟨by omega, rfl⟩) | (right; exact ⟨by omega, rfl⟩)) | (rw [ld_6 (kind := kind) (by omega)]; first | (left; exact ⟨by omega, rfl⟩) | (right; exact ⟨by omega, rfl⟩)) | (rw [ld_4 (kind := kind) (by omega)]; first | (left; exact ⟨by omega, rfl⟩) | (right; exact ⟨by omega, rfl⟩)) | (rw [ld_4 (kind := kind) (by omega)]; right; exact ⟨by omega, rfl⟩))⟩
    refine j_icmp_ne (tgt := 156) G d10_leads_149 (by decide) (by omega) (by decide) (fun h22 => ?_) (fun h22 => ?_)
    ·
      refine j_iconst G d10_leads_156 ?_
      refine j_eq (ws' := [(mo, mO ad S), (ad 26, aInt E 12 hd), (ad 27, aInt E 144 rw), (ad 40, aInt E 43173 wo)]) (ls' := [(0, .ref mo), (1, .int (iZ kind)), (2, .int (iZ n)), (3, .int (iZ ru)), (4, .int (iZ step))]) rfl rfl rfl ?_
      exact mg149 _ (by first | rfl | (simp only [*, if_true, if_false, ite_true, ite_false]; done) | (split <;> first | rfl | omega | (split <;> first | rfl | omega | (split <;> first | rfl | omega))))
    ·
      refine j_iload_n G 2 rfl d10_leads_152 ?_
      refine j_goto (tgt := 157) G d10_leads_153 (by decide) ?_
      refine j_eq (ws' := [(mo, mO ad S), (ad 26, aInt E 12 hd), (ad 27, aInt E 144 rw), (ad 40, aInt E 43173 wo)]) (ls' := [(0, .ref mo), (1, .int (iZ kind)), (2, .int (iZ n)), (3, .int (iZ ru)), (4, .int (iZ step))]) rfl rfl rfl ?_
      exact mg149 _ (by first | rfl | (simp only [*, if_true, if_false, ite_true, ite_false]; done) | (split <;> first | rfl | omega | (split <;> first | rfl | omega | (split <;> first | rfl | omega))))
  ·
    refine j_tabIn (tgt := 114) G d10_leads_1 (by omega) 6 h1 ⟨by decide, by decide⟩ rfl (by decide) ?_
    have h6 := hr6 (by omega)
    refine j_iload G 4 rfl d10_leads_114 ?_
    refine j_aload_n G 0 rfl d10_leads_116 ?_
    refine j_get G 0 10 26 in10 fl10_91 d10_leads_117 rfl rfl (by decide) (v := .ref (ad 26)) rfl rfl ?_
    refine j_iload_n G 3 rfl d10_leads_120 ?_
    refine j_iald G 1 rfl (by omega) d10_leads_121 ?_
    refine j_icmp_ge (tgt := 145) G d10_leads_122 (by decide) (by omega) (by omega) (fun h23 => ?_) (fun h23 => ?_)
    ·
      refine j_iconst G d10_leads_145 ?_
      exact j_zret G F d10_leads_146 (by decide) ⟨0, rfl, (by first | (left; exact ⟨ld_0 (by omega), rfl⟩) | (rw [ld_1 (kind := kind) (by omega)]; first | (left; exact ⟨by omega, rfl⟩) | (right; exact ⟨by omega, rfl⟩)) | (rw [ld_2 (kind := kind) (by omega)]; first | (left; exact ⟨by omega, rfl⟩) | (right; exact ⟨by omega, rfl⟩)) | (rw [ld_3 (kind := kind) (by omega), ← h37, ← h38]; first | (left; exact ⟨by omega, rfl⟩) | (right; exact ⟨by omega, rfl⟩)) | (rw [ld_6 (kind := kind) (by omega)]; first | (left; exact ⟨by omega, rfl⟩) | (right; exact ⟨by omega, rfl⟩)) | (rw [ld_4 (kind := kind) (by omega)]; first | (left; exact ⟨by omega, rfl⟩) | (right; exact ⟨by omega, rfl⟩)) | (rw [ld_4 (kind := kind) (by omega)]; right; exact ⟨by omega, rfl⟩))⟩
    ·
      have h7 := h6.2.2 (12 * ru + step) (by omega) (by omega)
      refine j_aload_n G 0 rfl d10_leads_125 ?_
      refine j_get G 0 10 27 in10 fl10_94 d10_leads_126 rfl rfl (by decide) (v := .ref (ad 27)) rfl rfl ?_
      refine j_bipush G d10_leads_129 rfl ?_
      refine j_iload_n G 3 rfl d10_leads_131 ?_
      refine j_imul G d10_leads_132 ?_
      refine j_iload G 4 rfl d10_leads_133 ?_
      refine j_iadd G d10_leads_135 ?_
      refine j_iald G 2 rfl (by omega) d10_leads_136 ?_
      refine j_iconst G d10_leads_137 ?_
      refine j_icmp_ne (tgt := 145) G d10_leads_138 (by decide) (by omega) (by decide) (fun h24 => ?_) (fun h24 => ?_)
      ·
        refine j_iconst G d10_leads_145 ?_
        exact j_zret G F d10_leads_146 (by decide) ⟨0, rfl, (by first | (left; exact ⟨ld_0 (by omega), rfl⟩) | (rw [ld_1 (kind := kind) (by omega)]; first | (left; exact ⟨by omega, rfl⟩) | (right; exact ⟨by omega, rfl⟩)) | (rw [ld_2 (kind := kind) (by omega)]; first | (left; exact ⟨by omega, rfl⟩) | (right; exact ⟨by omega, rfl⟩)) | (rw [ld_3 (kind := kind) (by omega), ← h37, ← h38]; first | (left; exact ⟨by omega, rfl⟩) | (right; exact ⟨by omega, rfl⟩)) | (rw [ld_6 (kind := kind) (by omega)]; first | (left; exact ⟨by omega, rfl⟩) | (right; exact ⟨by omega, rfl⟩)) | (rw [ld_4 (kind := kind) (by omega)]; first | (left; exact ⟨by omega, rfl⟩) | (right; exact ⟨by omega, rfl⟩)) | (rw [ld_4 (kind := kind) (by omega)]; right; exact ⟨by omega, rfl⟩))⟩
      ·
        refine j_iconst G d10_leads_141 ?_
        refine j_goto (tgt := 146) G d10_leads_142 (by decide) ?_
        exact j_zret G F d10_leads_146 (by decide) ⟨1, rfl, (by first | (left; exact ⟨ld_0 (by omega), rfl⟩) | (rw [ld_1 (kind := kind) (by omega)]; first | (left; exact ⟨by omega, rfl⟩) | (right; exact ⟨by omega, rfl⟩)) | (rw [ld_2 (kind := kind) (by omega)]; first | (left; exact ⟨by omega, rfl⟩) | (right; exact ⟨by omega, rfl⟩)) | (rw [ld_3 (kind := kind) (by omega), ← h37, ← h38]; first | (left; exact ⟨by omega, rfl⟩) | (right; exact ⟨by omega, rfl⟩)) | (rw [ld_6 (kind := kind) (by omega)]; first | (left; exact ⟨by omega, rfl⟩) | (right; exact ⟨by omega, rfl⟩)) | (rw [ld_4 (kind := kind) (by omega)]; first | (left; exact ⟨by omega, rfl⟩) | (right; exact ⟨by omega, rfl⟩)) | (rw [ld_4 (kind := kind) (by omega)]; right; exact ⟨by omega, rfl⟩))⟩
  ·
    exact absurd h1 (by omega)
