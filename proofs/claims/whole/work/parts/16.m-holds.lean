/-! what a row of signs says of a step: a machine with a pile -/
def tstV (t step wet : Int) : Int := if t / 100 % 100 = 0 then (if (if t < 10000 then step else wet) < t % 100 then 1 else 0) else if t / 100 % 100 = 1 then (if (if t < 10000 then step else wet) = t % 100 then 1 else 0) else if t % 100 < (if t < 10000 then step else wet) then 1 else 0
def stN (t n : Int) : Int := if t = -33 then n else if t < 0 then n + (-1) else n + 1
def andV (a b : Int) : Int := if a = 0 then 0 else if b = 0 then 0 else 1
def orV (a b : Int) : Int := if a = 0 then (if b = 0 then 0 else 1) else 1
def notV (a : Int) : Int := if a = 0 then 1 else 0
def stP (t step wet n : Int) (p : Int → Int) : Int → Int := if t = -33 then upI p (n - 1) (notV (p (n - 1))) else if t < 0 then upI p (n + (-1) - 1) (if t = -38 then andV (p (n + (-1) - 1)) (p (n + (-1))) else orV (p (n + (-1) - 1)) (p (n + (-1)))) else upI p n (tstV t step wet)
def rN (sg : Int → Int) (a n : Int) : Nat → Int
  | 0 => n
  | m + 1 => stN (sg (a + m)) (rN sg a n m)
def rP (sg : Int → Int) (step wet a n : Int) (p : Int → Int) : Nat → (Int → Int)
  | 0 => p
  | m + 1 => stP (sg (a + m)) step wet (rN sg a n m) (rP sg step wet a n p m)
def safe (t n m : Int) : Prop := (t = -33 → n + 1 ≤ m ∧ m ≤ 100) ∧ (t < 0 → ¬ t = -33 → n + 2 ≤ m ∧ m ≤ 100) ∧ (0 ≤ t → n ≤ m ∧ m < 100)
/-- the signs from a on, before b, say f -/
def PF (sg : Int → Int) (a b : Int) (f : Int → Int → Int) : Prop := (0 ≤ a ∧ a ≤ b) ∧ ∀ (n : Int), 0 ≤ n → n + (b - a) ≤ 100 → (∀ m : Nat, (m : Int) < b - a → safe (sg (a + m)) n (rN sg a n m)) ∧ rN sg a n (b - a).toNat = n + 1 ∧ ∀ (step wet : Int) (p : Int → Int), rP sg step wet a n p (b - a).toNat n = f step wet ∧ ∀ j, 0 ≤ j → j < n → rP sg step wet a n p (b - a).toNat j = p j
theorem rN_s {sg : Int → Int} {a n k : Int} (h : a ≤ k) : rN sg a n (k + 1 - a).toNat = stN (sg k) (rN sg a n (k - a).toNat) := by
  have e : (k + 1 - a).toNat = (k - a).toNat + 1 := by omega
  have e2 : a + ((k - a).toNat : Int) = k := by omega
  rw [e]
  show stN (sg (a + ((k - a).toNat : Int))) _ = _
  rw [e2]
theorem rP_s {sg : Int → Int} {step wet a n k : Int} {p : Int → Int} (h : a ≤ k) : rP sg step wet a n p (k + 1 - a).toNat = stP (sg k) step wet (rN sg a n (k - a).toNat) (rP sg step wet a n p (k - a).toNat) := by
  have e : (k + 1 - a).toNat = (k - a).toNat + 1 := by omega
  have e2 : a + ((k - a).toNat : Int) = k := by omega
  rw [e]
  show stP (sg (a + ((k - a).toNat : Int))) _ _ _ _ = _
  rw [e2]
theorem safe_at {sg : Int → Int} {a b k : Int} {f : Int → Int → Int} (h : PF sg a b f) (hb : b - a ≤ 100) (h1 : a ≤ k) (h2 : k < b) : safe (sg k) 0 (rN sg a 0 (k - a).toNat) := by
  have h3 := (h.2 0 (Int.le_refl 0) (by omega)).1 (k - a).toNat (by omega)
  rw [show a + ((k - a).toNat : Int) = k by omega] at h3
  exact h3
theorem d10_holds_0 : decode c10_holds 0 = .ok (.iconst 0, 1) := by decide +kernel
theorem d10_holds_1 : decode c10_holds 1 = .ok (.istore_n 3, 1) := by decide +kernel
theorem d10_holds_2 : decode c10_holds 2 = .ok (.aload_n 0, 1) := by decide +kernel
theorem d10_holds_3 : decode c10_holds 3 = .ok (.getfield 38, 3) := by decide +kernel
theorem d10_holds_6 : decode c10_holds 6 = .ok (.iload_n 1, 1) := by decide +kernel
theorem d10_holds_7 : decode c10_holds 7 = .ok (.iaload, 1) := by decide +kernel
theorem d10_holds_8 : decode c10_holds 8 = .ok (.istore 4, 2) := by decide +kernel
theorem d10_holds_10 : decode c10_holds 10 = .ok (.iload 4, 2) := by decide +kernel
theorem d10_holds_12 : decode c10_holds 12 = .ok (.aload_n 0, 1) := by decide +kernel
theorem d10_holds_13 : decode c10_holds 13 = .ok (.getfield 41, 3) := by decide +kernel
theorem d10_holds_16 : decode c10_holds 16 = .ok (.iload_n 1, 1) := by decide +kernel
theorem d10_holds_17 : decode c10_holds 17 = .ok (.iaload, 1) := by decide +kernel
theorem d10_holds_18 : decode c10_holds 18 = .ok (.if_icmp .ge 238, 3) := by decide +kernel
theorem d10_holds_21 : decode c10_holds 21 = .ok (.aload_n 0, 1) := by decide +kernel
theorem d10_holds_22 : decode c10_holds 22 = .ok (.getfield 53, 3) := by decide +kernel
theorem d10_holds_25 : decode c10_holds 25 = .ok (.iload 4, 2) := by decide +kernel
theorem d10_holds_27 : decode c10_holds 27 = .ok (.iaload, 1) := by decide +kernel
theorem d10_holds_28 : decode c10_holds 28 = .ok (.istore 5, 2) := by decide +kernel
theorem d10_holds_30 : decode c10_holds 30 = .ok (.iload 5, 2) := by decide +kernel
theorem d10_holds_32 : decode c10_holds 32 = .ok (.bipush (-33), 2) := by decide +kernel
theorem d10_holds_34 : decode c10_holds 34 = .ok (.if_icmp .ne 30, 3) := by decide +kernel
theorem d10_holds_37 : decode c10_holds 37 = .ok (.aload_n 0, 1) := by decide +kernel
theorem d10_holds_38 : decode c10_holds 38 = .ok (.getfield 68, 3) := by decide +kernel
theorem d10_holds_41 : decode c10_holds 41 = .ok (.iload_n 3, 1) := by decide +kernel
theorem d10_holds_42 : decode c10_holds 42 = .ok (.iconst 1, 1) := by decide +kernel
theorem d10_holds_43 : decode c10_holds 43 = .ok (.isub, 1) := by decide +kernel
theorem d10_holds_44 : decode c10_holds 44 = .ok (.aload_n 0, 1) := by decide +kernel
theorem d10_holds_45 : decode c10_holds 45 = .ok (.getfield 68, 3) := by decide +kernel
theorem d10_holds_48 : decode c10_holds 48 = .ok (.iload_n 3, 1) := by decide +kernel
theorem d10_holds_49 : decode c10_holds 49 = .ok (.iconst 1, 1) := by decide +kernel
theorem d10_holds_50 : decode c10_holds 50 = .ok (.isub, 1) := by decide +kernel
theorem d10_holds_51 : decode c10_holds 51 = .ok (.baload, 1) := by decide +kernel
theorem d10_holds_52 : decode c10_holds 52 = .ok (.ifCond .ne 7, 3) := by decide +kernel
theorem d10_holds_55 : decode c10_holds 55 = .ok (.iconst 1, 1) := by decide +kernel
theorem d10_holds_56 : decode c10_holds 56 = .ok (.goto 4, 3) := by decide +kernel
theorem d10_holds_59 : decode c10_holds 59 = .ok (.iconst 0, 1) := by decide +kernel
theorem d10_holds_60 : decode c10_holds 60 = .ok (.bastore, 1) := by decide +kernel
theorem d10_holds_61 : decode c10_holds 61 = .ok (.goto 189, 3) := by decide +kernel
theorem d10_holds_64 : decode c10_holds 64 = .ok (.iload 5, 2) := by decide +kernel
theorem d10_holds_66 : decode c10_holds 66 = .ok (.ifCond .ge 77, 3) := by decide +kernel
theorem d10_holds_69 : decode c10_holds 69 = .ok (.iinc 3 (-1), 3) := by decide +kernel
theorem d10_holds_72 : decode c10_holds 72 = .ok (.aload_n 0, 1) := by decide +kernel
theorem d10_holds_73 : decode c10_holds 73 = .ok (.getfield 68, 3) := by decide +kernel
theorem d10_holds_76 : decode c10_holds 76 = .ok (.iload_n 3, 1) := by decide +kernel
theorem d10_holds_77 : decode c10_holds 77 = .ok (.iconst 1, 1) := by decide +kernel
theorem d10_holds_78 : decode c10_holds 78 = .ok (.isub, 1) := by decide +kernel
theorem d10_holds_79 : decode c10_holds 79 = .ok (.iload 5, 2) := by decide +kernel
theorem d10_holds_81 : decode c10_holds 81 = .ok (.bipush (-38), 2) := by decide +kernel
theorem d10_holds_83 : decode c10_holds 83 = .ok (.if_icmp .ne 31, 3) := by decide +kernel
theorem d10_holds_86 : decode c10_holds 86 = .ok (.aload_n 0, 1) := by decide +kernel
theorem d10_holds_87 : decode c10_holds 87 = .ok (.getfield 68, 3) := by decide +kernel
theorem d10_holds_90 : decode c10_holds 90 = .ok (.iload_n 3, 1) := by decide +kernel
theorem d10_holds_91 : decode c10_holds 91 = .ok (.iconst 1, 1) := by decide +kernel
theorem d10_holds_92 : decode c10_holds 92 = .ok (.isub, 1) := by decide +kernel
theorem d10_holds_93 : decode c10_holds 93 = .ok (.baload, 1) := by decide +kernel
theorem d10_holds_94 : decode c10_holds 94 = .ok (.ifCond .eq 16, 3) := by decide +kernel
theorem d10_holds_97 : decode c10_holds 97 = .ok (.aload_n 0, 1) := by decide +kernel
theorem d10_holds_98 : decode c10_holds 98 = .ok (.getfield 68, 3) := by decide +kernel
theorem d10_holds_101 : decode c10_holds 101 = .ok (.iload_n 3, 1) := by decide +kernel
theorem d10_holds_102 : decode c10_holds 102 = .ok (.baload, 1) := by decide +kernel
theorem d10_holds_103 : decode c10_holds 103 = .ok (.ifCond .eq 7, 3) := by decide +kernel
theorem d10_holds_106 : decode c10_holds 106 = .ok (.iconst 1, 1) := by decide +kernel
theorem d10_holds_107 : decode c10_holds 107 = .ok (.goto 32, 3) := by decide +kernel
theorem d10_holds_110 : decode c10_holds 110 = .ok (.iconst 0, 1) := by decide +kernel
theorem d10_holds_111 : decode c10_holds 111 = .ok (.goto 28, 3) := by decide +kernel
theorem d10_holds_114 : decode c10_holds 114 = .ok (.aload_n 0, 1) := by decide +kernel
theorem d10_holds_115 : decode c10_holds 115 = .ok (.getfield 68, 3) := by decide +kernel
theorem d10_holds_118 : decode c10_holds 118 = .ok (.iload_n 3, 1) := by decide +kernel
theorem d10_holds_119 : decode c10_holds 119 = .ok (.iconst 1, 1) := by decide +kernel
theorem d10_holds_120 : decode c10_holds 120 = .ok (.isub, 1) := by decide +kernel
theorem d10_holds_121 : decode c10_holds 121 = .ok (.baload, 1) := by decide +kernel
theorem d10_holds_122 : decode c10_holds 122 = .ok (.ifCond .ne 12, 3) := by decide +kernel
theorem d10_holds_125 : decode c10_holds 125 = .ok (.aload_n 0, 1) := by decide +kernel
theorem d10_holds_126 : decode c10_holds 126 = .ok (.getfield 68, 3) := by decide +kernel
theorem d10_holds_129 : decode c10_holds 129 = .ok (.iload_n 3, 1) := by decide +kernel
theorem d10_holds_130 : decode c10_holds 130 = .ok (.baload, 1) := by decide +kernel
theorem d10_holds_131 : decode c10_holds 131 = .ok (.ifCond .eq 7, 3) := by decide +kernel
theorem d10_holds_134 : decode c10_holds 134 = .ok (.iconst 1, 1) := by decide +kernel
theorem d10_holds_135 : decode c10_holds 135 = .ok (.goto 4, 3) := by decide +kernel
theorem d10_holds_138 : decode c10_holds 138 = .ok (.iconst 0, 1) := by decide +kernel
theorem d10_holds_139 : decode c10_holds 139 = .ok (.bastore, 1) := by decide +kernel
theorem d10_holds_140 : decode c10_holds 140 = .ok (.goto 110, 3) := by decide +kernel
theorem d10_holds_143 : decode c10_holds 143 = .ok (.iload 5, 2) := by decide +kernel
theorem d10_holds_145 : decode c10_holds 145 = .ok (.sipush 10000, 3) := by decide +kernel
theorem d10_holds_148 : decode c10_holds 148 = .ok (.if_icmp .ge 7, 3) := by decide +kernel
theorem d10_holds_151 : decode c10_holds 151 = .ok (.iload_n 2, 1) := by decide +kernel
theorem d10_holds_152 : decode c10_holds 152 = .ok (.goto 15, 3) := by decide +kernel
theorem d10_holds_155 : decode c10_holds 155 = .ok (.aload_n 0, 1) := by decide +kernel
theorem d10_holds_156 : decode c10_holds 156 = .ok (.getfield 72, 3) := by decide +kernel
theorem d10_holds_159 : decode c10_holds 159 = .ok (.ifCond .eq 7, 3) := by decide +kernel
theorem d10_holds_162 : decode c10_holds 162 = .ok (.iconst 1, 1) := by decide +kernel
theorem d10_holds_163 : decode c10_holds 163 = .ok (.goto 4, 3) := by decide +kernel
theorem d10_holds_166 : decode c10_holds 166 = .ok (.iconst 0, 1) := by decide +kernel
theorem d10_holds_167 : decode c10_holds 167 = .ok (.istore 6, 2) := by decide +kernel
theorem d10_holds_169 : decode c10_holds 169 = .ok (.iload 5, 2) := by decide +kernel
theorem d10_holds_171 : decode c10_holds 171 = .ok (.bipush 100, 2) := by decide +kernel
theorem d10_holds_173 : decode c10_holds 173 = .ok (.idiv, 1) := by decide +kernel
theorem d10_holds_174 : decode c10_holds 174 = .ok (.bipush 100, 2) := by decide +kernel
theorem d10_holds_176 : decode c10_holds 176 = .ok (.irem, 1) := by decide +kernel
theorem d10_holds_177 : decode c10_holds 177 = .ok (.istore 7, 2) := by decide +kernel
theorem d10_holds_179 : decode c10_holds 179 = .ok (.aload_n 0, 1) := by decide +kernel
theorem d10_holds_180 : decode c10_holds 180 = .ok (.getfield 68, 3) := by decide +kernel
theorem d10_holds_183 : decode c10_holds 183 = .ok (.iload_n 3, 1) := by decide +kernel
theorem d10_holds_184 : decode c10_holds 184 = .ok (.iload 7, 2) := by decide +kernel
theorem d10_holds_186 : decode c10_holds 186 = .ok (.ifCond .ne 21, 3) := by decide +kernel
theorem d10_holds_189 : decode c10_holds 189 = .ok (.iload 6, 2) := by decide +kernel
theorem d10_holds_191 : decode c10_holds 191 = .ok (.iload 5, 2) := by decide +kernel
theorem d10_holds_193 : decode c10_holds 193 = .ok (.bipush 100, 2) := by decide +kernel
theorem d10_holds_195 : decode c10_holds 195 = .ok (.irem, 1) := by decide +kernel
theorem d10_holds_196 : decode c10_holds 196 = .ok (.if_icmp .ge 7, 3) := by decide +kernel
theorem d10_holds_199 : decode c10_holds 199 = .ok (.iconst 1, 1) := by decide +kernel
theorem d10_holds_200 : decode c10_holds 200 = .ok (.goto 46, 3) := by decide +kernel
theorem d10_holds_203 : decode c10_holds 203 = .ok (.iconst 0, 1) := by decide +kernel
theorem d10_holds_204 : decode c10_holds 204 = .ok (.goto 42, 3) := by decide +kernel
theorem d10_holds_207 : decode c10_holds 207 = .ok (.iload 7, 2) := by decide +kernel
theorem d10_holds_209 : decode c10_holds 209 = .ok (.iconst 1, 1) := by decide +kernel
theorem d10_holds_210 : decode c10_holds 210 = .ok (.if_icmp .ne 21, 3) := by decide +kernel
theorem d10_holds_213 : decode c10_holds 213 = .ok (.iload 6, 2) := by decide +kernel
theorem d10_holds_215 : decode c10_holds 215 = .ok (.iload 5, 2) := by decide +kernel
theorem d10_holds_217 : decode c10_holds 217 = .ok (.bipush 100, 2) := by decide +kernel
theorem d10_holds_219 : decode c10_holds 219 = .ok (.irem, 1) := by decide +kernel
theorem d10_holds_220 : decode c10_holds 220 = .ok (.if_icmp .ne 7, 3) := by decide +kernel
theorem d10_holds_223 : decode c10_holds 223 = .ok (.iconst 1, 1) := by decide +kernel
theorem d10_holds_224 : decode c10_holds 224 = .ok (.goto 22, 3) := by decide +kernel
theorem d10_holds_227 : decode c10_holds 227 = .ok (.iconst 0, 1) := by decide +kernel
theorem d10_holds_228 : decode c10_holds 228 = .ok (.goto 18, 3) := by decide +kernel
theorem d10_holds_231 : decode c10_holds 231 = .ok (.iload 6, 2) := by decide +kernel
theorem d10_holds_233 : decode c10_holds 233 = .ok (.iload 5, 2) := by decide +kernel
theorem d10_holds_235 : decode c10_holds 235 = .ok (.bipush 100, 2) := by decide +kernel
theorem d10_holds_237 : decode c10_holds 237 = .ok (.irem, 1) := by decide +kernel
theorem d10_holds_238 : decode c10_holds 238 = .ok (.if_icmp .le 7, 3) := by decide +kernel
theorem d10_holds_241 : decode c10_holds 241 = .ok (.iconst 1, 1) := by decide +kernel
theorem d10_holds_242 : decode c10_holds 242 = .ok (.goto 4, 3) := by decide +kernel
theorem d10_holds_245 : decode c10_holds 245 = .ok (.iconst 0, 1) := by decide +kernel
theorem d10_holds_246 : decode c10_holds 246 = .ok (.bastore, 1) := by decide +kernel
theorem d10_holds_247 : decode c10_holds 247 = .ok (.iinc 3 1, 3) := by decide +kernel
theorem d10_holds_250 : decode c10_holds 250 = .ok (.iinc 4 1, 3) := by decide +kernel
theorem d10_holds_253 : decode c10_holds 253 = .ok (.goto (-243), 3) := by decide +kernel
theorem d10_holds_256 : decode c10_holds 256 = .ok (.aload_n 0, 1) := by decide +kernel
theorem d10_holds_257 : decode c10_holds 257 = .ok (.getfield 68, 3) := by decide +kernel
theorem d10_holds_260 : decode c10_holds 260 = .ok (.iconst 0, 1) := by decide +kernel
theorem d10_holds_261 : decode c10_holds 261 = .ok (.baload, 1) := by decide +kernel
theorem d10_holds_262 : decode c10_holds 262 = .ok (.ireturn, 1) := by decide +kernel
theorem mw10_holds : MV y10_holds c10_holds 8 (some .boolean) 2 := ⟨cd10_holds, ini10, na10_holds, im10_holds, se10_holds⟩
set_option maxHeartbeats 4000000 in
set_option maxRecDepth 100000 in
theorem k10_holds (l : Launch) (E : En) (mo : Nat) (ad : Nat → Nat) (S : Nat → Int) (fo : Int → Int) (to : Int → Int) (sg : Int → Int) (pl : Int → Int) (f : Int → Int → Int) (c : Int) (step : Int) (hsg : ∀ j, 0 ≤ j → j < 400 → -200 ≤ sg j ∧ sg j ≤ 20000) (hpl : ∀ j, 0 ≤ j → j < 100 → 0 ≤ pl j ∧ pl j ≤ 1) (hw : S 20 = 0 ∨ S 20 = 1) (hc : 0 ≤ c ∧ c ≤ 47) (hst : 0 ≤ step ∧ step ≤ 11) (hpf : PF sg (fo c) (to c) f) (hto : to c ≤ 400 ∧ to c - fo c ≤ 100) (hf1 : f step (S 20) = 0 ∨ f step (S 20) = 1) : Cm l E y10_holds c10_holds 8 (some .boolean) { frames := 0, cells := 0, slots := 0, locals := 0 } [.ref mo, .int (iZ c), .int (iZ step)] [(mo, mO ad S), (ad 9, aInt E 48 fo), (ad 10, aInt E 48 to), (ad 14, aInt E 400 sg), (ad 19, aBoo E 100 pl)] (fun r ws => ∃ (v : Int), ∃ (pl1 : Int → Int), r = some (.int (iZ v)) ∧ ws = [(mo, mO ad S), (ad 9, aInt E 48 fo), (ad 10, aInt E 48 to), (ad 14, aInt E 400 sg), (ad 19, aBoo E 100 pl1)] ∧ (v = f step (S 20) ∧ ∀ j, 0 ≤ j → j < 100 → 0 ≤ pl1 j ∧ pl1 j ≤ 1)) := by
  refine Cm.of (by decide +kernel) (Nat.le_of_ble_eq_true rfl) (fun Γ A hl hargs hin G F => ?_)
  subst hl
  have hfo := hpf.1
  refine j_iconst G d10_holds_0 ?_
  refine j_istore_n G d10_holds_1 (by decide) rfl ?_
  refine j_aload_n G 1 rfl d10_holds_2 ?_
  refine j_get G 0 10 9 in10 fl10_38 d10_holds_3 rfl rfl (by decide) (v := .ref (ad 9)) rfl rfl ?_
  refine j_iload_n G 2 rfl d10_holds_6 ?_
  refine j_iald G 1 rfl (by omega) d10_holds_7 ?_
  refine j_istore G d10_holds_8 (by decide) rfl ?_
  have lp10 : ∀ (fu : Nat) (nn : Int) (kk : Int) (p : Int → Int), (to c - kk).toNat < fu → (fo c ≤ kk ∧ kk ≤ to c) → (nn = rN sg (fo c) 0 (kk - fo c).toNat) → (p = rP sg step (S 20) (fo c) 0 pl (kk - fo c).toNat) → (∀ j, 0 ≤ j → j < 100 → 0 ≤ p j ∧ p j ≤ 1) →  J E 8 Γ (some A) 0 0 [(mo, mO ad S), (ad 9, aInt E 48 fo), (ad 10, aInt E 48 to), (ad 14, aInt E 400 sg), (ad 19, aBoo E 100 p)] 10 [(4, .int (iZ kk)), (3, .int (iZ nn)), (0, .ref mo), (1, .int (iZ c)), (2, .int (iZ step))] [] := by
    intro fu
    induction fu with
    | zero =>
      intro nn kk p hm
      exact absurd hm (Nat.not_lt_zero _)
    | succ fu ih10 =>
      intro nn kk p hm hk hn hp hpb
      refine j_iload G 0 rfl d10_holds_10 ?_
      refine j_aload_n G 2 rfl d10_holds_12 ?_
      refine j_get G 0 10 10 in10 fl10_41 d10_holds_13 rfl rfl (by decide) (v := .ref (ad 10)) rfl rfl ?_
      refine j_iload_n G 3 rfl d10_holds_16 ?_
      refine j_iald G 2 rfl (by omega) d10_holds_17 ?_
      refine j_icmp_ge (tgt := 256) G d10_holds_18 (by decide) (by omega) (by omega) (fun h1 => ?_) (fun h1 => ?_)
      ·
        have hend : kk = to c := by omega
        have hfin := hpf.2 0 (Int.le_refl 0) (by omega)
        have hv : p 0 = f step (S 20) := by rw [hp, hend]; exact (hfin.2.2 step (S 20) pl).1
        refine j_aload_n G 2 rfl d10_holds_256 ?_
        refine j_get G 0 10 19 in10 fl10_68 d10_holds_257 rfl rfl (by decide) (v := .ref (ad 19)) rfl rfl ?_
        refine j_iconst G d10_holds_260 ?_
        refine j_zald G 4 rfl (by omega) d10_holds_261 ?_
        have hb2 := hpb 0 (by omega) (by omega)
        exact j_zret G F d10_holds_262 (by rw [hv]; exact hf1) ⟨p 0, p, rfl, rfl, (by exact ⟨hv, hpb⟩)⟩
      ·
        have hsf := safe_at hpf hto.2 hk.1 (by omega)
        rw [← hn] at hsf
        unfold safe at hsf
        refine j_aload_n G 2 rfl d10_holds_21 ?_
        refine j_get G 0 10 14 in10 fl10_53 d10_holds_22 rfl rfl (by decide) (v := .ref (ad 14)) rfl rfl ?_
        refine j_iload G 0 rfl d10_holds_25 ?_
        refine j_iald G 3 rfl (by omega) d10_holds_27 ?_
        have hb3 := hsg kk (by omega) (by omega)
        refine j_istore G d10_holds_28 (by decide) rfl ?_
        refine j_iload G 0 rfl d10_holds_30 ?_
        refine j_bipush G d10_holds_32 rfl ?_
        refine j_icmp_ne (tgt := 64) G d10_holds_34 (by decide) (by omega) (by decide) (fun h4 => ?_) (fun h4 => ?_)
        ·
          refine j_iload G 0 rfl d10_holds_64 ?_
          refine j_if_ge (tgt := 143) G d10_holds_66 (by decide) (by omega) (fun h5 => ?_) (fun h5 => ?_)
          ·
            refine j_iload G 0 rfl d10_holds_143 ?_
            refine j_sipush G d10_holds_145 rfl ?_
            have mg148 : ∀ x6 : Int, x6 = (if 10000 ≤ sg kk then (if S 20 = 0 then 0 else 1) else step) → J E 8 Γ (some A) 0 0 [(mo, mO ad S), (ad 9, aInt E 48 fo), (ad 10, aInt E 48 to), (ad 14, aInt E 400 sg), (ad 19, aBoo E 100 p)] 167 [(5, .int (iZ (sg kk))), (4, .int (iZ kk)), (3, .int (iZ nn)), (0, .ref mo), (1, .int (iZ c)), (2, .int (iZ step))] ([.int (iZ x6)]) := by
              intro x6 ex6
              refine j_istore G d10_holds_167 (by decide) rfl ?_
              refine j_iload G 1 rfl d10_holds_169 ?_
              refine j_bipush G d10_holds_171 rfl ?_
              refine j_idiv G d10_holds_173 (by omega) ?_
              refine j_bipush G d10_holds_174 rfl ?_
              refine j_irem G d10_holds_176 (by omega) ?_
              refine j_istore G d10_holds_177 (by decide) rfl ?_
              refine j_aload_n G 5 rfl d10_holds_179 ?_
              refine j_get G 0 10 19 in10 fl10_68 d10_holds_180 rfl rfl (by decide) (v := .ref (ad 19)) rfl rfl ?_
              refine j_iload_n G 4 rfl d10_holds_183 ?_
              refine j_iload G 0 rfl d10_holds_184 ?_
              refine j_if_ne (tgt := 207) G d10_holds_186 (by decide) (by omega) (fun h7 => ?_) (fun h7 => ?_)
              ·
                refine j_iload G 0 rfl d10_holds_207 ?_
                refine j_iconst G d10_holds_209 ?_
                have mg210 : ∀ x8 : Int, x8 = (if ((sg kk) / 100) % 100 ≠ 1 then (if x6 ≤ (sg kk) % 100 then 0 else 1) else (if x6 ≠ (sg kk) % 100 then 0 else 1)) → J E 8 Γ (some A) 0 0 [(mo, mO ad S), (ad 9, aInt E 48 fo), (ad 10, aInt E 48 to), (ad 14, aInt E 400 sg), (ad 19, aBoo E 100 p)] 246 [(7, .int (iZ (((sg kk) / 100) % 100))), (6, .int (iZ x6)), (5, .int (iZ (sg kk))), (4, .int (iZ kk)), (3, .int (iZ nn)), (0, .ref mo), (1, .int (iZ c)), (2, .int (iZ step))] ([.int (iZ x8), .int (iZ nn), .ref (ad 19)]) := by
                  intro x8 ex8
                  refine j_zast G 4 rfl (by omega) (by subst_vars; (repeat' split) <;> omega) d10_holds_246 ?_
                  refine j_iinc G d10_holds_247 4 rfl (by decide) rfl ?_
                  refine j_iinc G d10_holds_250 4 rfl (by decide) rfl ?_
                  refine j_goto (tgt := 10) G d10_holds_253 (by decide) ?_
                  refine j_locs (ls' := [(4, .int (iZ (kk + 1))), (3, .int (iZ (nn + 1))), (0, .ref mo), (1, .int (iZ c)), (2, .int (iZ step))]) [0, 1, 5, 6, 7] rfl ?_
                  exact ih10 (nn + 1) (kk + 1) (upI p nn x8) (by omega) (by first | assumption | omega) (by rw [rN_s hk.1, ← hn]; unfold stN; (repeat' split) <;> omega) (by rw [rP_s hk.1, ← hn, ← hp]; unfold stP; (repeat' split) <;> first | (exfalso; omega) | (subst_vars; congr 1 <;> (simp only [notV, andV, orV, tstV]) <;> (repeat' split) <;> first | rfl | omega)) (fun j h1 h2 => by unfold upI; subst_vars; (repeat' split) <;> first | omega | exact hpb j h1 h2)
                refine j_icmp_ne (tgt := 231) G d10_holds_210 (by decide) (by omega) (by decide) (fun h9 => ?_) (fun h9 => ?_)
                ·
                  refine j_iload G 1 rfl d10_holds_231 ?_
                  refine j_iload G 2 rfl d10_holds_233 ?_
                  refine j_bipush G d10_holds_235 rfl ?_
                  refine j_irem G d10_holds_237 (by omega) ?_
                  have mg238 : ∀ x10 : Int, x10 = (if x6 ≤ (sg kk) % 100 then 0 else 1) → J E 8 Γ (some A) 0 0 [(mo, mO ad S), (ad 9, aInt E 48 fo), (ad 10, aInt E 48 to), (ad 14, aInt E 400 sg), (ad 19, aBoo E 100 p)] 246 [(7, .int (iZ (((sg kk) / 100) % 100))), (6, .int (iZ x6)), (5, .int (iZ (sg kk))), (4, .int (iZ kk)), (3, .int (iZ nn)), (0, .ref mo), (1, .int (iZ c)), (2, .int (iZ step))] ([.int (iZ x10), .int (iZ nn), .ref (ad 19)]) := by
                    intro x10 ex10
                    refine j_eq (ws' := [(mo, mO ad S), (ad 9, aInt E 48 fo), (ad 10, aInt E 48 to), (ad 14, aInt E 400 sg), (ad 19, aBoo E 100 p)]) (ls' := [(7, .int (iZ (((sg kk) / 100) % 100))), (6, .int (iZ x6)), (5, .int (iZ (sg kk))), (4, .int (iZ kk)), (3, .int (iZ nn)), (0, .ref mo), (1, .int (iZ c)), (2, .int (iZ step))]) rfl rfl rfl ?_
                    exact mg210 _ (by first | rfl | (simp only [*, if_true, if_false, ite_true, ite_false]; done) | (split <;> first | rfl | omega | (split <;> first | rfl | omega | (split <;> first | rfl | omega))))
                  refine j_icmp_le (tgt := 245) G d10_holds_238 (by decide) (by omega) (by omega) (fun h11 => ?_) (fun h11 => ?_)
                  ·
                    refine j_iconst G d10_holds_245 ?_
                    refine j_eq (ws' := [(mo, mO ad S), (ad 9, aInt E 48 fo), (ad 10, aInt E 48 to), (ad 14, aInt E 400 sg), (ad 19, aBoo E 100 p)]) (ls' := [(7, .int (iZ (((sg kk) / 100) % 100))), (6, .int (iZ x6)), (5, .int (iZ (sg kk))), (4, .int (iZ kk)), (3, .int (iZ nn)), (0, .ref mo), (1, .int (iZ c)), (2, .int (iZ step))]) rfl rfl rfl ?_
                    exact mg238 _ (by first | rfl | (simp only [*, if_true, if_false, ite_true, ite_false]; done) | (split <;> first | rfl | omega | (split <;> first | rfl | omega | (split <;> first | rfl | omega))))
                  ·
                    refine j_iconst G d10_holds_241 ?_
                    refine j_goto (tgt := 246) G d10_holds_242 (by decide) ?_
                    refine j_eq (ws' := [(mo, mO ad S), (ad 9, aInt E 48 fo), (ad 10, aInt E 48 to), (ad 14, aInt E 400 sg), (ad 19, aBoo E 100 p)]) (ls' := [(7, .int (iZ (((sg kk) / 100) % 100))), (6, .int (iZ x6)), (5, .int (iZ (sg kk))), (4, .int (iZ kk)), (3, .int (iZ nn)), (0, .ref mo), (1, .int (iZ c)), (2, .int (iZ step))]) rfl rfl rfl ?_
                    exact mg238 _ (by first | rfl | (simp only [*, if_true, if_false, ite_true, ite_false]; done) | (split <;> first | rfl | omega | (split <;> first | rfl | omega | (split <;> first | rfl | omega))))
                ·
                  refine j_iload G 1 rfl d10_holds_213 ?_
                  refine j_iload G 2 rfl d10_holds_215 ?_
                  refine j_bipush G d10_holds_217 rfl ?_
                  refine j_irem G d10_holds_219 (by omega) ?_
                  have mg220 : ∀ x12 : Int, x12 = (if x6 ≠ (sg kk) % 100 then 0 else 1) → J E 8 Γ (some A) 0 0 [(mo, mO ad S), (ad 9, aInt E 48 fo), (ad 10, aInt E 48 to), (ad 14, aInt E 400 sg), (ad 19, aBoo E 100 p)] 246 [(7, .int (iZ (((sg kk) / 100) % 100))), (6, .int (iZ x6)), (5, .int (iZ (sg kk))), (4, .int (iZ kk)), (3, .int (iZ nn)), (0, .ref mo), (1, .int (iZ c)), (2, .int (iZ step))] ([.int (iZ x12), .int (iZ nn), .ref (ad 19)]) := by
                    intro x12 ex12
                    refine j_eq (ws' := [(mo, mO ad S), (ad 9, aInt E 48 fo), (ad 10, aInt E 48 to), (ad 14, aInt E 400 sg), (ad 19, aBoo E 100 p)]) (ls' := [(7, .int (iZ (((sg kk) / 100) % 100))), (6, .int (iZ x6)), (5, .int (iZ (sg kk))), (4, .int (iZ kk)), (3, .int (iZ nn)), (0, .ref mo), (1, .int (iZ c)), (2, .int (iZ step))]) rfl rfl rfl ?_
                    exact mg210 _ (by first | rfl | (simp only [*, if_true, if_false, ite_true, ite_false]; done) | (split <;> first | rfl | omega | (split <;> first | rfl | omega | (split <;> first | rfl | omega))))
                  refine j_icmp_ne (tgt := 227) G d10_holds_220 (by decide) (by omega) (by omega) (fun h13 => ?_) (fun h13 => ?_)
                  ·
                    refine j_iconst G d10_holds_227 ?_
                    refine j_goto (tgt := 246) G d10_holds_228 (by decide) ?_
                    refine j_eq (ws' := [(mo, mO ad S), (ad 9, aInt E 48 fo), (ad 10, aInt E 48 to), (ad 14, aInt E 400 sg), (ad 19, aBoo E 100 p)]) (ls' := [(7, .int (iZ (((sg kk) / 100) % 100))), (6, .int (iZ x6)), (5, .int (iZ (sg kk))), (4, .int (iZ kk)), (3, .int (iZ nn)), (0, .ref mo), (1, .int (iZ c)), (2, .int (iZ step))]) rfl rfl rfl ?_
                    exact mg220 _ (by first | rfl | (simp only [*, if_true, if_false, ite_true, ite_false]; done) | (split <;> first | rfl | omega | (split <;> first | rfl | omega | (split <;> first | rfl | omega))))
                  ·
                    refine j_iconst G d10_holds_223 ?_
                    refine j_goto (tgt := 246) G d10_holds_224 (by decide) ?_
                    refine j_eq (ws' := [(mo, mO ad S), (ad 9, aInt E 48 fo), (ad 10, aInt E 48 to), (ad 14, aInt E 400 sg), (ad 19, aBoo E 100 p)]) (ls' := [(7, .int (iZ (((sg kk) / 100) % 100))), (6, .int (iZ x6)), (5, .int (iZ (sg kk))), (4, .int (iZ kk)), (3, .int (iZ nn)), (0, .ref mo), (1, .int (iZ c)), (2, .int (iZ step))]) rfl rfl rfl ?_
                    exact mg220 _ (by first | rfl | (simp only [*, if_true, if_false, ite_true, ite_false]; done) | (split <;> first | rfl | omega | (split <;> first | rfl | omega | (split <;> first | rfl | omega))))
              ·
                refine j_iload G 1 rfl d10_holds_189 ?_
                refine j_iload G 2 rfl d10_holds_191 ?_
                refine j_bipush G d10_holds_193 rfl ?_
                refine j_irem G d10_holds_195 (by omega) ?_
                have mg196 : ∀ x14 : Int, x14 = (if (sg kk) % 100 ≤ x6 then 0 else 1) → J E 8 Γ (some A) 0 0 [(mo, mO ad S), (ad 9, aInt E 48 fo), (ad 10, aInt E 48 to), (ad 14, aInt E 400 sg), (ad 19, aBoo E 100 p)] 246 [(7, .int (iZ (((sg kk) / 100) % 100))), (6, .int (iZ x6)), (5, .int (iZ (sg kk))), (4, .int (iZ kk)), (3, .int (iZ nn)), (0, .ref mo), (1, .int (iZ c)), (2, .int (iZ step))] ([.int (iZ x14), .int (iZ nn), .ref (ad 19)]) := by
                  intro x14 ex14
                  refine j_zast G 4 rfl (by omega) (by subst_vars; (repeat' split) <;> omega) d10_holds_246 ?_
                  refine j_iinc G d10_holds_247 4 rfl (by decide) rfl ?_
                  refine j_iinc G d10_holds_250 4 rfl (by decide) rfl ?_
                  refine j_goto (tgt := 10) G d10_holds_253 (by decide) ?_
                  refine j_locs (ls' := [(4, .int (iZ (kk + 1))), (3, .int (iZ (nn + 1))), (0, .ref mo), (1, .int (iZ c)), (2, .int (iZ step))]) [0, 1, 5, 6, 7] rfl ?_
                  exact ih10 (nn + 1) (kk + 1) (upI p nn x14) (by omega) (by first | assumption | omega) (by rw [rN_s hk.1, ← hn]; unfold stN; (repeat' split) <;> omega) (by rw [rP_s hk.1, ← hn, ← hp]; unfold stP; (repeat' split) <;> first | (exfalso; omega) | (subst_vars; congr 1 <;> (simp only [notV, andV, orV, tstV]) <;> (repeat' split) <;> first | rfl | omega)) (fun j h1 h2 => by unfold upI; subst_vars; (repeat' split) <;> first | omega | exact hpb j h1 h2)
                refine j_icmp_ge (tgt := 203) G d10_holds_196 (by decide) (by omega) (by omega) (fun h15 => ?_) (fun h15 => ?_)
                ·
                  refine j_iconst G d10_holds_203 ?_
                  refine j_goto (tgt := 246) G d10_holds_204 (by decide) ?_
                  refine j_eq (ws' := [(mo, mO ad S), (ad 9, aInt E 48 fo), (ad 10, aInt E 48 to), (ad 14, aInt E 400 sg), (ad 19, aBoo E 100 p)]) (ls' := [(7, .int (iZ (((sg kk) / 100) % 100))), (6, .int (iZ x6)), (5, .int (iZ (sg kk))), (4, .int (iZ kk)), (3, .int (iZ nn)), (0, .ref mo), (1, .int (iZ c)), (2, .int (iZ step))]) rfl rfl rfl ?_
                  exact mg196 _ (by first | rfl | (simp only [*, if_true, if_false, ite_true, ite_false]; done) | (split <;> first | rfl | omega | (split <;> first | rfl | omega | (split <;> first | rfl | omega))))
                ·
                  refine j_iconst G d10_holds_199 ?_
                  refine j_goto (tgt := 246) G d10_holds_200 (by decide) ?_
                  refine j_eq (ws' := [(mo, mO ad S), (ad 9, aInt E 48 fo), (ad 10, aInt E 48 to), (ad 14, aInt E 400 sg), (ad 19, aBoo E 100 p)]) (ls' := [(7, .int (iZ (((sg kk) / 100) % 100))), (6, .int (iZ x6)), (5, .int (iZ (sg kk))), (4, .int (iZ kk)), (3, .int (iZ nn)), (0, .ref mo), (1, .int (iZ c)), (2, .int (iZ step))]) rfl rfl rfl ?_
                  exact mg196 _ (by first | rfl | (simp only [*, if_true, if_false, ite_true, ite_false]; done) | (split <;> first | rfl | omega | (split <;> first | rfl | omega | (split <;> first | rfl | omega))))
            refine j_icmp_ge (tgt := 155) G d10_holds_148 (by decide) (by omega) (by decide) (fun h16 => ?_) (fun h16 => ?_)
            ·
              refine j_aload_n G 3 rfl d10_holds_155 ?_
              refine j_get G 0 10 20 in10 fl10_72 d10_holds_156 rfl rfl (by decide) (v := .int (iZ (S 20))) rfl rfl ?_
              have mg159 : ∀ x17 : Int, x17 = (if S 20 = 0 then 0 else 1) → J E 8 Γ (some A) 0 0 [(mo, mO ad S), (ad 9, aInt E 48 fo), (ad 10, aInt E 48 to), (ad 14, aInt E 400 sg), (ad 19, aBoo E 100 p)] 167 [(5, .int (iZ (sg kk))), (4, .int (iZ kk)), (3, .int (iZ nn)), (0, .ref mo), (1, .int (iZ c)), (2, .int (iZ step))] ([.int (iZ x17)]) := by
                intro x17 ex17
                refine j_eq (ws' := [(mo, mO ad S), (ad 9, aInt E 48 fo), (ad 10, aInt E 48 to), (ad 14, aInt E 400 sg), (ad 19, aBoo E 100 p)]) (ls' := [(5, .int (iZ (sg kk))), (4, .int (iZ kk)), (3, .int (iZ nn)), (0, .ref mo), (1, .int (iZ c)), (2, .int (iZ step))]) rfl rfl rfl ?_
                exact mg148 _ (by first | rfl | (simp only [*, if_true, if_false, ite_true, ite_false]; done) | (split <;> first | rfl | omega | (split <;> first | rfl | omega | (split <;> first | rfl | omega))))
              refine j_if_eq (tgt := 166) G d10_holds_159 (by decide) (by omega) (fun h18 => ?_) (fun h18 => ?_)
              ·
                refine j_iconst G d10_holds_166 ?_
                refine j_eq (ws' := [(mo, mO ad S), (ad 9, aInt E 48 fo), (ad 10, aInt E 48 to), (ad 14, aInt E 400 sg), (ad 19, aBoo E 100 p)]) (ls' := [(5, .int (iZ (sg kk))), (4, .int (iZ kk)), (3, .int (iZ nn)), (0, .ref mo), (1, .int (iZ c)), (2, .int (iZ step))]) rfl rfl rfl ?_
                exact mg159 _ (by first | rfl | (simp only [*, if_true, if_false, ite_true, ite_false]; done) | (split <;> first | rfl | omega | (split <;> first | rfl | omega | (split <;> first | rfl | omega))))
              ·
                refine j_iconst G d10_holds_162 ?_
                refine j_goto (tgt := 167) G d10_holds_163 (by decide) ?_
                refine j_eq (ws' := [(mo, mO ad S), (ad 9, aInt E 48 fo), (ad 10, aInt E 48 to), (ad 14, aInt E 400 sg), (ad 19, aBoo E 100 p)]) (ls' := [(5, .int (iZ (sg kk))), (4, .int (iZ kk)), (3, .int (iZ nn)), (0, .ref mo), (1, .int (iZ c)), (2, .int (iZ step))]) rfl rfl rfl ?_
                exact mg159 _ (by first | rfl | (simp only [*, if_true, if_false, ite_true, ite_false]; done) | (split <;> first | rfl | omega | (split <;> first | rfl | omega | (split <;> first | rfl | omega))))
            ·
              refine j_iload_n G 5 rfl d10_holds_151 ?_
              refine j_goto (tgt := 167) G d10_holds_152 (by decide) ?_
              refine j_eq (ws' := [(mo, mO ad S), (ad 9, aInt E 48 fo), (ad 10, aInt E 48 to), (ad 14, aInt E 400 sg), (ad 19, aBoo E 100 p)]) (ls' := [(5, .int (iZ (sg kk))), (4, .int (iZ kk)), (3, .int (iZ nn)), (0, .ref mo), (1, .int (iZ c)), (2, .int (iZ step))]) rfl rfl rfl ?_
              exact mg148 _ (by first | rfl | (simp only [*, if_true, if_false, ite_true, ite_false]; done) | (split <;> first | rfl | omega | (split <;> first | rfl | omega | (split <;> first | rfl | omega))))
          ·
            refine j_iinc G d10_holds_69 2 rfl (by decide) rfl ?_
            refine j_aload_n G 3 rfl d10_holds_72 ?_
            refine j_get G 0 10 19 in10 fl10_68 d10_holds_73 rfl rfl (by decide) (v := .ref (ad 19)) rfl rfl ?_
            refine j_iload_n G 0 rfl d10_holds_76 ?_
            refine j_iconst G d10_holds_77 ?_
            refine j_isub G d10_holds_78 ?_
            refine j_iload G 1 rfl d10_holds_79 ?_
            refine j_bipush G d10_holds_81 rfl ?_
            refine j_icmp_ne (tgt := 114) G d10_holds_83 (by decide) (by omega) (by decide) (fun h19 => ?_) (fun h19 => ?_)
            ·
              refine j_aload_n G 3 rfl d10_holds_114 ?_
              refine j_get G 0 10 19 in10 fl10_68 d10_holds_115 rfl rfl (by decide) (v := .ref (ad 19)) rfl rfl ?_
              refine j_iload_n G 0 rfl d10_holds_118 ?_
              refine j_iconst G d10_holds_119 ?_
              refine j_isub G d10_holds_120 ?_
              refine j_zald G 4 rfl (by omega) d10_holds_121 ?_
              have hb20 := hpb ((nn + (-1)) - 1) (by omega) (by omega)
              have mg122 : ∀ x21 : Int, x21 = (if p ((nn + (-1)) - 1) ≠ 0 then 1 else (if p (nn + (-1)) = 0 then 0 else 1)) → J E 8 Γ (some A) 0 0 [(mo, mO ad S), (ad 9, aInt E 48 fo), (ad 10, aInt E 48 to), (ad 14, aInt E 400 sg), (ad 19, aBoo E 100 p)] 139 [(3, .int (iZ (nn + (-1)))), (5, .int (iZ (sg kk))), (4, .int (iZ kk)), (0, .ref mo), (1, .int (iZ c)), (2, .int (iZ step))] ([.int (iZ x21), .int (iZ ((nn + (-1)) - 1)), .ref (ad 19)]) := by
                intro x21 ex21
                refine j_zast G 4 rfl (by omega) (by subst_vars; (repeat' split) <;> omega) d10_holds_139 ?_
                refine j_goto (tgt := 250) G d10_holds_140 (by decide) ?_
                refine j_iinc G d10_holds_250 2 rfl (by decide) rfl ?_
                refine j_goto (tgt := 10) G d10_holds_253 (by decide) ?_
                refine j_locs (ls' := [(4, .int (iZ (kk + 1))), (3, .int (iZ (nn + (-1)))), (0, .ref mo), (1, .int (iZ c)), (2, .int (iZ step))]) [0, 1, 3, 4, 5] rfl ?_
                exact ih10 (nn + (-1)) (kk + 1) (upI p ((nn + (-1)) - 1) x21) (by omega) (by first | assumption | omega) (by rw [rN_s hk.1, ← hn]; unfold stN; (repeat' split) <;> omega) (by rw [rP_s hk.1, ← hn, ← hp]; unfold stP; (repeat' split) <;> first | (exfalso; omega) | (subst_vars; congr 1 <;> (simp only [notV, andV, orV, tstV]) <;> (repeat' split) <;> first | rfl | omega)) (fun j h1 h2 => by unfold upI; subst_vars; (repeat' split) <;> first | omega | exact hpb j h1 h2)
              refine j_if_ne (tgt := 134) G d10_holds_122 (by decide) (by omega) (fun h22 => ?_) (fun h22 => ?_)
              ·
                refine j_iconst G d10_holds_134 ?_
                refine j_goto (tgt := 139) G d10_holds_135 (by decide) ?_
                refine j_eq (ws' := [(mo, mO ad S), (ad 9, aInt E 48 fo), (ad 10, aInt E 48 to), (ad 14, aInt E 400 sg), (ad 19, aBoo E 100 p)]) (ls' := [(3, .int (iZ (nn + (-1)))), (5, .int (iZ (sg kk))), (4, .int (iZ kk)), (0, .ref mo), (1, .int (iZ c)), (2, .int (iZ step))]) rfl rfl rfl ?_
                exact mg122 _ (by first | rfl | (simp only [*, if_true, if_false, ite_true, ite_false]; done) | (split <;> first | rfl | omega | (split <;> first | rfl | omega | (split <;> first | rfl | omega))))
              ·
                refine j_aload_n G 3 rfl d10_holds_125 ?_
                refine j_get G 0 10 19 in10 fl10_68 d10_holds_126 rfl rfl (by decide) (v := .ref (ad 19)) rfl rfl ?_
                refine j_iload_n G 0 rfl d10_holds_129 ?_
                refine j_zald G 4 rfl (by omega) d10_holds_130 ?_
                have hb23 := hpb (nn + (-1)) (by omega) (by omega)
                have mg131 : ∀ x24 : Int, x24 = (if p (nn + (-1)) = 0 then 0 else 1) → J E 8 Γ (some A) 0 0 [(mo, mO ad S), (ad 9, aInt E 48 fo), (ad 10, aInt E 48 to), (ad 14, aInt E 400 sg), (ad 19, aBoo E 100 p)] 139 [(3, .int (iZ (nn + (-1)))), (5, .int (iZ (sg kk))), (4, .int (iZ kk)), (0, .ref mo), (1, .int (iZ c)), (2, .int (iZ step))] ([.int (iZ x24), .int (iZ ((nn + (-1)) - 1)), .ref (ad 19)]) := by
                  intro x24 ex24
                  refine j_eq (ws' := [(mo, mO ad S), (ad 9, aInt E 48 fo), (ad 10, aInt E 48 to), (ad 14, aInt E 400 sg), (ad 19, aBoo E 100 p)]) (ls' := [(3, .int (iZ (nn + (-1)))), (5, .int (iZ (sg kk))), (4, .int (iZ kk)), (0, .ref mo), (1, .int (iZ c)), (2, .int (iZ step))]) rfl rfl rfl ?_
                  exact mg122 _ (by first | rfl | (simp only [*, if_true, if_false, ite_true, ite_false]; done) | (split <;> first | rfl | omega | (split <;> first | rfl | omega | (split <;> first | rfl | omega))))
                refine j_if_eq (tgt := 138) G d10_holds_131 (by decide) (by omega) (fun h25 => ?_) (fun h25 => ?_)
                ·
                  refine j_iconst G d10_holds_138 ?_
                  refine j_eq (ws' := [(mo, mO ad S), (ad 9, aInt E 48 fo), (ad 10, aInt E 48 to), (ad 14, aInt E 400 sg), (ad 19, aBoo E 100 p)]) (ls' := [(3, .int (iZ (nn + (-1)))), (5, .int (iZ (sg kk))), (4, .int (iZ kk)), (0, .ref mo), (1, .int (iZ c)), (2, .int (iZ step))]) rfl rfl rfl ?_
                  exact mg131 _ (by first | rfl | (simp only [*, if_true, if_false, ite_true, ite_false]; done) | (split <;> first | rfl | omega | (split <;> first | rfl | omega | (split <;> first | rfl | omega))))
                ·
                  refine j_iconst G d10_holds_134 ?_
                  refine j_goto (tgt := 139) G d10_holds_135 (by decide) ?_
                  refine j_eq (ws' := [(mo, mO ad S), (ad 9, aInt E 48 fo), (ad 10, aInt E 48 to), (ad 14, aInt E 400 sg), (ad 19, aBoo E 100 p)]) (ls' := [(3, .int (iZ (nn + (-1)))), (5, .int (iZ (sg kk))), (4, .int (iZ kk)), (0, .ref mo), (1, .int (iZ c)), (2, .int (iZ step))]) rfl rfl rfl ?_
                  exact mg131 _ (by first | rfl | (simp only [*, if_true, if_false, ite_true, ite_false]; done) | (split <;> first | rfl | omega | (split <;> first | rfl | omega | (split <;> first | rfl | omega))))
            ·
              refine j_aload_n G 3 rfl d10_holds_86 ?_
              refine j_get G 0 10 19 in10 fl10_68 d10_holds_87 rfl rfl (by decide) (v := .ref (ad 19)) rfl rfl ?_
              refine j_iload_n G 0 rfl d10_holds_90 ?_
              refine j_iconst G d10_holds_91 ?_
              refine j_isub G d10_holds_92 ?_
              refine j_zald G 4 rfl (by omega) d10_holds_93 ?_
              have hb26 := hpb ((nn + (-1)) - 1) (by omega) (by omega)
              have mg94 : ∀ x27 : Int, x27 = (if p ((nn + (-1)) - 1) = 0 then 0 else (if p (nn + (-1)) = 0 then 0 else 1)) → J E 8 Γ (some A) 0 0 [(mo, mO ad S), (ad 9, aInt E 48 fo), (ad 10, aInt E 48 to), (ad 14, aInt E 400 sg), (ad 19, aBoo E 100 p)] 139 [(3, .int (iZ (nn + (-1)))), (5, .int (iZ (sg kk))), (4, .int (iZ kk)), (0, .ref mo), (1, .int (iZ c)), (2, .int (iZ step))] ([.int (iZ x27), .int (iZ ((nn + (-1)) - 1)), .ref (ad 19)]) := by
                intro x27 ex27
                refine j_zast G 4 rfl (by omega) (by subst_vars; (repeat' split) <;> omega) d10_holds_139 ?_
                refine j_goto (tgt := 250) G d10_holds_140 (by decide) ?_
                refine j_iinc G d10_holds_250 2 rfl (by decide) rfl ?_
                refine j_goto (tgt := 10) G d10_holds_253 (by decide) ?_
                refine j_locs (ls' := [(4, .int (iZ (kk + 1))), (3, .int (iZ (nn + (-1)))), (0, .ref mo), (1, .int (iZ c)), (2, .int (iZ step))]) [0, 1, 3, 4, 5] rfl ?_
                exact ih10 (nn + (-1)) (kk + 1) (upI p ((nn + (-1)) - 1) x27) (by omega) (by first | assumption | omega) (by rw [rN_s hk.1, ← hn]; unfold stN; (repeat' split) <;> omega) (by rw [rP_s hk.1, ← hn, ← hp]; unfold stP; (repeat' split) <;> first | (exfalso; omega) | (subst_vars; congr 1 <;> (simp only [notV, andV, orV, tstV]) <;> (repeat' split) <;> first | rfl | omega)) (fun j h1 h2 => by unfold upI; subst_vars; (repeat' split) <;> first | omega | exact hpb j h1 h2)
              refine j_if_eq (tgt := 110) G d10_holds_94 (by decide) (by omega) (fun h28 => ?_) (fun h28 => ?_)
              ·
                refine j_iconst G d10_holds_110 ?_
                refine j_goto (tgt := 139) G d10_holds_111 (by decide) ?_
                refine j_eq (ws' := [(mo, mO ad S), (ad 9, aInt E 48 fo), (ad 10, aInt E 48 to), (ad 14, aInt E 400 sg), (ad 19, aBoo E 100 p)]) (ls' := [(3, .int (iZ (nn + (-1)))), (5, .int (iZ (sg kk))), (4, .int (iZ kk)), (0, .ref mo), (1, .int (iZ c)), (2, .int (iZ step))]) rfl rfl rfl ?_
                exact mg94 _ (by first | rfl | (simp only [*, if_true, if_false, ite_true, ite_false]; done) | (split <;> first | rfl | omega | (split <;> first | rfl | omega | (split <;> first | rfl | omega))))
              ·
                refine j_aload_n G 3 rfl d10_holds_97 ?_
                refine j_get G 0 10 19 in10 fl10_68 d10_holds_98 rfl rfl (by decide) (v := .ref (ad 19)) rfl rfl ?_
                refine j_iload_n G 0 rfl d10_holds_101 ?_
                refine j_zald G 4 rfl (by omega) d10_holds_102 ?_
                have hb29 := hpb (nn + (-1)) (by omega) (by omega)
                have mg103 : ∀ x30 : Int, x30 = (if p (nn + (-1)) = 0 then 0 else 1) → J E 8 Γ (some A) 0 0 [(mo, mO ad S), (ad 9, aInt E 48 fo), (ad 10, aInt E 48 to), (ad 14, aInt E 400 sg), (ad 19, aBoo E 100 p)] 139 [(3, .int (iZ (nn + (-1)))), (5, .int (iZ (sg kk))), (4, .int (iZ kk)), (0, .ref mo), (1, .int (iZ c)), (2, .int (iZ step))] ([.int (iZ x30), .int (iZ ((nn + (-1)) - 1)), .ref (ad 19)]) := by
                  intro x30 ex30
                  refine j_eq (ws' := [(mo, mO ad S), (ad 9, aInt E 48 fo), (ad 10, aInt E 48 to), (ad 14, aInt E 400 sg), (ad 19, aBoo E 100 p)]) (ls' := [(3, .int (iZ (nn + (-1)))), (5, .int (iZ (sg kk))), (4, .int (iZ kk)), (0, .ref mo), (1, .int (iZ c)), (2, .int (iZ step))]) rfl rfl rfl ?_
                  exact mg94 _ (by first | rfl | (simp only [*, if_true, if_false, ite_true, ite_false]; done) | (split <;> first | rfl | omega | (split <;> first | rfl | omega | (split <;> first | rfl | omega))))
                refine j_if_eq (tgt := 110) G d10_holds_103 (by decide) (by omega) (fun h31 => ?_) (fun h31 => ?_)
                ·
                  refine j_iconst G d10_holds_110 ?_
                  refine j_goto (tgt := 139) G d10_holds_111 (by decide) ?_
                  refine j_eq (ws' := [(mo, mO ad S), (ad 9, aInt E 48 fo), (ad 10, aInt E 48 to), (ad 14, aInt E 400 sg), (ad 19, aBoo E 100 p)]) (ls' := [(3, .int (iZ (nn + (-1)))), (5, .int (iZ (sg kk))), (4, .int (iZ kk)), (0, .ref mo), (1, .int (iZ c)), (2, .int (iZ step))]) rfl rfl rfl ?_
                  exact mg103 _ (by first | rfl | (simp only [*, if_true, if_false, ite_true, ite_false]; done) | (split <;> first | rfl | omega | (split <;> first | rfl | omega | (split <;> first | rfl | omega))))
                ·
                  refine j_iconst G d10_holds_106 ?_
                  refine j_goto (tgt := 139) G d10_holds_107 (by decide) ?_
                  refine j_eq (ws' := [(mo, mO ad S), (ad 9, aInt E 48 fo), (ad 10, aInt E 48 to), (ad 14, aInt E 400 sg), (ad 19, aBoo E 100 p)]) (ls' := [(3, .int (iZ (nn + (-1)))), (5, .int (iZ (sg kk))), (4, .int (iZ kk)), (0, .ref mo), (1, .int (iZ c)), (2, .int (iZ step))]) rfl rfl rfl ?_
                  exact mg103 _ (by first | rfl | (simp only [*, if_true, if_false, ite_true, ite_false]; done) | (split <;> first | rfl | omega | (split <;> first | rfl | omega | (split <;> first | rfl | omega))))
        ·
          refine j_aload_n G 3 rfl d10_holds_37 ?_
          refine j_get G 0 10 19 in10 fl10_68 d10_holds_38 rfl rfl (by decide) (v := .ref (ad 19)) rfl rfl ?_
          refine j_iload_n G 2 rfl d10_holds_41 ?_
          refine j_iconst G d10_holds_42 ?_
          refine j_isub G d10_holds_43 ?_
          refine j_aload_n G 3 rfl d10_holds_44 ?_
          refine j_get G 0 10 19 in10 fl10_68 d10_holds_45 rfl rfl (by decide) (v := .ref (ad 19)) rfl rfl ?_
          refine j_iload_n G 2 rfl d10_holds_48 ?_
          refine j_iconst G d10_holds_49 ?_
          refine j_isub G d10_holds_50 ?_
          refine j_zald G 4 rfl (by omega) d10_holds_51 ?_
          have hb32 := hpb (nn - 1) (by omega) (by omega)
          have mg52 : ∀ x33 : Int, x33 = (if p (nn - 1) ≠ 0 then 0 else 1) → J E 8 Γ (some A) 0 0 [(mo, mO ad S), (ad 9, aInt E 48 fo), (ad 10, aInt E 48 to), (ad 14, aInt E 400 sg), (ad 19, aBoo E 100 p)] 60 [(5, .int (iZ (sg kk))), (4, .int (iZ kk)), (3, .int (iZ nn)), (0, .ref mo), (1, .int (iZ c)), (2, .int (iZ step))] ([.int (iZ x33), .int (iZ (nn - 1)), .ref (ad 19)]) := by
            intro x33 ex33
            refine j_zast G 4 rfl (by omega) (by subst_vars; (repeat' split) <;> omega) d10_holds_60 ?_
            refine j_goto (tgt := 250) G d10_holds_61 (by decide) ?_
            refine j_iinc G d10_holds_250 1 rfl (by decide) rfl ?_
            refine j_goto (tgt := 10) G d10_holds_253 (by decide) ?_
            refine j_locs (ls' := [(4, .int (iZ (kk + 1))), (3, .int (iZ nn)), (0, .ref mo), (1, .int (iZ c)), (2, .int (iZ step))]) [0, 2, 3, 4, 5] rfl ?_
            exact ih10 nn (kk + 1) (upI p (nn - 1) x33) (by omega) (by first | assumption | omega) (by rw [rN_s hk.1, ← hn]; unfold stN; (repeat' split) <;> omega) (by rw [rP_s hk.1, ← hn, ← hp]; unfold stP; (repeat' split) <;> first | (exfalso; omega) | (subst_vars; congr 1 <;> (simp only [notV, andV, orV, tstV]) <;> (repeat' split) <;> first | rfl | omega)) (fun j h1 h2 => by unfold upI; subst_vars; (repeat' split) <;> first | omega | exact hpb j h1 h2)
          refine j_if_ne (tgt := 59) G d10_holds_52 (by decide) (by omega) (fun h34 => ?_) (fun h34 => ?_)
          ·
            refine j_iconst G d10_holds_59 ?_
            refine j_eq (ws' := [(mo, mO ad S), (ad 9, aInt E 48 fo), (ad 10, aInt E 48 to), (ad 14, aInt E 400 sg), (ad 19, aBoo E 100 p)]) (ls' := [(5, .int (iZ (sg kk))), (4, .int (iZ kk)), (3, .int (iZ nn)), (0, .ref mo), (1, .int (iZ c)), (2, .int (iZ step))]) rfl rfl rfl ?_
            exact mg52 _ (by first | rfl | (simp only [*, if_true, if_false, ite_true, ite_false]; done) | (split <;> first | rfl | omega | (split <;> first | rfl | omega | (split <;> first | rfl | omega))))
          ·
            refine j_iconst G d10_holds_55 ?_
            refine j_goto (tgt := 60) G d10_holds_56 (by decide) ?_
            refine j_eq (ws' := [(mo, mO ad S), (ad 9, aInt E 48 fo), (ad 10, aInt E 48 to), (ad 14, aInt E 400 sg), (ad 19, aBoo E 100 p)]) (ls' := [(5, .int (iZ (sg kk))), (4, .int (iZ kk)), (3, .int (iZ nn)), (0, .ref mo), (1, .int (iZ c)), (2, .int (iZ step))]) rfl rfl rfl ?_
            exact mg52 _ (by first | rfl | (simp only [*, if_true, if_false, ite_true, ite_false]; done) | (split <;> first | rfl | omega | (split <;> first | rfl | omega | (split <;> first | rfl | omega))))
  exact lp10 _ 0 (fo c) pl (Nat.lt_succ_self _) (by first | assumption | omega) (by rw [Int.sub_self]; rfl) (by rw [Int.sub_self]; rfl) hpl
