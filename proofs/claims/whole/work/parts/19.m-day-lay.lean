/-! a day: its numbers, a step's state 81 p + 9 a + b -/
def Dy : Type := (Int × Int × Int) × (Int → Int) × (Int → Int) × (Int → Int) × (Int → Int → Int → Int)
def Dy.tk (K : Dy) : Int := K.1.1
def Dy.se (K : Dy) : Int := K.1.2.1
def Dy.mx (K : Dy) : Int := K.1.2.2
def Dy.sp (K : Dy) : Int → Int := K.2.1
def Dy.ca (K : Dy) : Int → Int := K.2.2.1
def Dy.cb (K : Dy) : Int → Int := K.2.2.2.1
def Dy.lw (K : Dy) : Int → Int → Int → Int := K.2.2.2.2
def okD (K : Dy) : Prop := (0 ≤ K.tk ∧ K.tk ≤ 60) ∧ (0 ≤ K.se ∧ K.se ≤ 6) ∧ (0 ≤ K.mx ∧ K.mx ≤ 40) ∧ ∀ s, 0 ≤ s → s ≤ 11 → (0 ≤ K.sp s ∧ K.sp s ≤ 20000) ∧ (0 ≤ K.ca s ∧ K.ca s ≤ 6) ∧ (0 ≤ K.cb s ∧ K.cb s ≤ 6) ∧ ∀ d u, 0 ≤ d → d ≤ K.se → 0 ≤ u → u ≤ K.se → K.lw s d u = -5 ∨ (0 ≤ K.lw s d u ∧ K.lw s d u ≤ K.tk)
/-- the model's scratch fields hold the day K -/
def Lay (K : Dy) (tank seats most times : Int) (sp le co : Int → Int) : Prop := tank = K.tk ∧ seats = K.se ∧ most = K.mx ∧ (1 ≤ times ∧ times ≤ 6) ∧ okD K ∧ ∀ s, 0 ≤ s → s ≤ 11 → sp s = K.sp s ∧ co s = K.ca s ∧ (0 ≤ co (12 + s) ∧ co (12 + s) ≤ 6) ∧ min 6 (times * co (12 + s)) = K.cb s ∧ ∀ d u, 0 ≤ d → d ≤ K.se → 0 ≤ u → u ≤ K.se → le (49 * s + 7 * d + u) = K.lw s d u
noncomputable def kD (C : Nat → Int) (P : Int → Int) (D W co : Int → Int) (mt ms msp mp n : Int) : Dy := ((min 60 (C 5 + mt), min 6 (C 6 + ms), min 40 (C 7 + mp)), fun s => W s + msp, co, fun s => min 6 (n * co (12 + s)), fun s d u => lF C P (D s) (d - u) (min 60 (C 5 + mt)))
def dF (K : Dy) (s st : Int) : Int := min K.mx (st / 81 + K.sp s)
def dA (K : Dy) (s st : Int) : Int := min 8 (st / 9 % 9 + K.ca s)
def dB (K : Dy) (s st : Int) : Int := min 8 (st % 9 + K.cb s)
def dNow (K : Dy) (s st : Int) : Int := 81 * dF K s st + 9 * dA K s st + dB K s st
def dDn (K : Dy) (s st : Int) : Int := min (dA K s st) K.se
def dUp (K : Dy) (s st : Int) : Int := min (dB K s st) K.se
def dW (K : Dy) (s st : Int) : Int := if dDn K s st + dUp K s st = 0 then -5 else K.lw s (dDn K s st) (dUp K s st)
def dLost (K : Dy) (s st : Int) : Int := (if 8 < st / 9 % 9 + K.ca s then st / 9 % 9 + K.ca s - 8 else 0) + (if 8 < st % 9 + K.cb s then st % 9 + K.cb s - 8 else 0)
def dGone (K : Dy) (s st : Int) : Int := dNow K s st - 81 * dW K s st - 9 * dDn K s st - dUp K s st
abbrev dCan (K : Dy) (s st spare : Int) : Prop := 0 ≤ dW K s st ∧ spare ≤ dNow K s st / 81 - dW K s st
/-- what a step's numbers are -/
theorem dR {K : Dy} {s st : Int} (h : okD K) (hs : 0 ≤ s ∧ s ≤ 11) (ht : 0 ≤ st ∧ st ≤ 3320) : (0 ≤ dF K s st ∧ dF K s st ≤ 40) ∧ (0 ≤ dA K s st ∧ dA K s st ≤ 8) ∧ (0 ≤ dB K s st ∧ dB K s st ≤ 8) ∧ (0 ≤ dDn K s st ∧ dDn K s st ≤ dA K s st ∧ dDn K s st ≤ 6) ∧ (0 ≤ dUp K s st ∧ dUp K s st ≤ dB K s st ∧ dUp K s st ≤ 6) ∧ (dW K s st = -5 ∨ (0 ≤ dW K s st ∧ dW K s st ≤ 60)) ∧ dNow K s st = 81 * dF K s st + 9 * dA K s st + dB K s st ∧ (0 ≤ dLost K s st ∧ dLost K s st ≤ 12) := by
  obtain ⟨h1, h2, h3, h4⟩ := h
  obtain ⟨h5, h6, h7, h8⟩ := h4 s hs.1 hs.2
  have e1 : 0 ≤ dF K s st ∧ dF K s st ≤ 40 := by unfold dF; omega
  have e2 : 0 ≤ dA K s st ∧ dA K s st ≤ 8 := by unfold dA; omega
  have e3 : 0 ≤ dB K s st ∧ dB K s st ≤ 8 := by unfold dB; omega
  have e4 : 0 ≤ dDn K s st ∧ dDn K s st ≤ dA K s st ∧ dDn K s st ≤ K.se := by unfold dDn; omega
  have e5 : 0 ≤ dUp K s st ∧ dUp K s st ≤ dB K s st ∧ dUp K s st ≤ K.se := by unfold dUp; omega
  have e6 : dW K s st = -5 ∨ (0 ≤ dW K s st ∧ dW K s st ≤ 60) := by
    unfold dW
    by_cases hz : dDn K s st + dUp K s st = 0
    · rw [if_pos hz]; exact Or.inl rfl
    · rw [if_neg hz]
      have := h8 (dDn K s st) (dUp K s st) e4.1 e4.2.2 e5.1 e5.2.2
      omega
  refine ⟨e1, e2, e3, by omega, by omega, e6, rfl, ?_⟩
  unfold dLost; omega
theorem dGone_r {K : Dy} {s st spare : Int} (h : okD K) (hs : 0 ≤ s ∧ s ≤ 11) (ht : 0 ≤ st ∧ st ≤ 3320) (h0 : 0 ≤ spare) (hc : dCan K s st spare) : 0 ≤ dGone K s st ∧ dGone K s st ≤ 3320 := by
  have e := dR h hs ht
  have hc1 := hc.1
  have hc2 := hc.2
  unfold dGone
  omega
theorem dNow_r {K : Dy} {s st : Int} (h : okD K) (hs : 0 ≤ s ∧ s ≤ 11) (ht : 0 ≤ st ∧ st ≤ 3320) : 0 ≤ dNow K s st ∧ dNow K s st ≤ 3320 := by
  have e := dR h hs ht
  omega
theorem smC_r {wd nu : Int → Int} {F : Int → Int → Int → Int} {w step wet c0 : Int} : ∀ m : Nat, (∀ c, c0 ≤ c → c < c0 + m → 0 ≤ nu c ∧ nu c ≤ 999) → 0 ≤ smC wd nu F w step wet c0 m ∧ smC wd nu F w step wet c0 m ≤ 999 * m
  | 0, _ => by unfold smC; omega
  | m + 1, h => by
    have e := smC_r (wd := wd) (F := F) (w := w) (step := step) (wet := wet) m (fun c h1 h2 => h c h1 (by omega))
    have e2 := h (c0 + m) (by omega) (by omega)
    unfold smC
    split
    · split <;> omega
    · omega
theorem smM_r {wd nu fo to sg cl : Int → Int} {F : Int → Int → Int → Int} {t : Int} (h : MSum wd nu fo to sg cl F t) (w step wet : Int) : 0 ≤ smM wd nu cl F t w step wet ∧ smM wd nu cl F t w step wet ≤ 11988 := by
  have h1 := h.1
  have e := smC_r (wd := wd) (nu := nu) (F := F) (w := w) (step := step) (wet := wet) (c0 := 12 * t) (cl t).toNat (fun c h2 h3 => (h.2 c h2 (by omega)).2.1)
  unfold smM
  omega
theorem isL_ex (C : Nat → Int) (P : Int → Int) (drag dd tank : Int) : ∃ v, isL C P drag dd tank v := by
  have key : ∀ n : Nat, (∀ q : Int, 0 ≤ q → q < n → ¬ goesM C P (C 3 * dd + q) drag) ∨ (∃ v : Int, 0 ≤ v ∧ v < n ∧ goesM C P (C 3 * dd + v) drag ∧ ∀ q : Int, 0 ≤ q → q < v → ¬ goesM C P (C 3 * dd + q) drag) := by
    intro n
    induction n with
    | zero => exact Or.inl (fun q h1 h2 => by omega)
    | succ n ih =>
      rcases ih with ih | ⟨v, h1, h2, h3⟩
      · by_cases hg : goesM C P (C 3 * dd + (n : Int)) drag
        · exact Or.inr ⟨n, by omega, by omega, hg, ih⟩
        · exact Or.inl (fun q h1 h2 => if hq : q = n then hq ▸ hg else ih q h1 (by omega))
      · exact Or.inr ⟨v, h1, by omega, h3⟩
  rcases key (tank + 1).toNat with h | ⟨v, h1, h2, h3, h4⟩
  · exact ⟨-5, Or.inl ⟨rfl, fun q h1 h2 => h q h1 (by omega)⟩⟩
  · exact ⟨v, Or.inr ⟨⟨h1, by omega⟩, h3, h4⟩⟩
theorem lF_is (C : Nat → Int) (P : Int → Int) (drag dd tank : Int) : isL C P drag dd tank (lF C P drag dd tank) := Classical.epsilon_spec (isL_ex C P drag dd tank)
theorem lF_r (C : Nat → Int) (P : Int → Int) (drag dd tank : Int) : lF C P drag dd tank = -5 ∨ (0 ≤ lF C P drag dd tank ∧ lF C P drag dd tank ≤ tank) := isL_r (lF_is C P drag dd tank)
theorem okD_k {C : Nat → Int} {P : Int → Int} {D W co : Int → Int} {mt ms msp mp n : Int} (hw : wfC C P) (h1 : 0 ≤ mt) (h2 : 0 ≤ ms) (h3 : 0 ≤ msp ∧ msp ≤ 80) (h4 : 0 ≤ mp) (hn : 0 ≤ n) (hW : ∀ s, 0 ≤ s → s ≤ 11 → 0 ≤ W s ∧ W s ≤ 11988) (hco : ∀ j, 0 ≤ j → j < 24 → 0 ≤ co j ∧ co j ≤ 6) : okD (kD C P D W co mt ms msp mp n) := by
  have w5 := hw.2.2.2.2.2.1
  have w6 := hw.2.2.2.2.2.2.1
  have w7 := hw.2.2.2.2.2.2.2
  refine ⟨?_, ?_, ?_, fun s hs hs2 => ⟨?_, ?_, ?_, fun d u _ _ _ _ => lF_r _ _ _ _ _⟩⟩
  · show 0 ≤ min 60 (C 5 + mt) ∧ min 60 (C 5 + mt) ≤ 60; omega
  · show 0 ≤ min 6 (C 6 + ms) ∧ min 6 (C 6 + ms) ≤ 6; omega
  · show 0 ≤ min 40 (C 7 + mp) ∧ min 40 (C 7 + mp) ≤ 40; omega
  · have := hW s hs hs2
    show 0 ≤ W s + msp ∧ W s + msp ≤ 20000; omega
  · exact hco s hs (by omega)
  · have := hco (12 + s) (by omega) (by omega)
    have h5 : 0 ≤ n * co (12 + s) := Int.mul_nonneg hn this.1
    show 0 ≤ min 6 (n * co (12 + s)) ∧ min 6 (n * co (12 + s)) ≤ 6; omega
theorem lay_fin {la po pt cl wd nu fo to sg co f g : Int → Int} {Fq : Int → Int → Int → Int} {t wet mt ms msp mp n kk : Int} (hwm : wfC (cM la po t) (pM pt t)) (hms : MSum wd nu fo to sg cl Fq t) (hco : ∀ j, 0 ≤ j → j < 24 → 0 ≤ co j ∧ co j ≤ 6) (hmm : (0 ≤ mt ∧ mt ≤ 80) ∧ (0 ≤ ms ∧ ms ≤ 80) ∧ (0 ≤ msp ∧ msp ≤ 80) ∧ (0 ≤ mp ∧ mp ≤ 80) ∧ (1 ≤ n ∧ n ≤ 6)) (hf : ∀ s, 0 ≤ s → s < kk → f s = smM wd nu cl Fq t 7 s wet + msp) (hg : ∀ s j, 0 ≤ s → s ≤ 11 → 0 ≤ j → j < 49 → j / 7 ≤ min 6 (la (9 * t + 6) + ms) → j % 7 ≤ min 6 (la (9 * t + 6) + ms) → g (49 * s + j) = lF (cM la po t) (pM pt t) (smM wd nu cl Fq t 3 s wet) (j / 7 - j % 7) (min 60 (la (9 * t + 5) + mt))) (hk : 12 ≤ kk) : Lay (kD (cM la po t) (pM pt t) (fun s => smM wd nu cl Fq t 3 s wet) (fun s => smM wd nu cl Fq t 7 s wet) co mt ms msp mp n) (min 60 (la (9 * t + 5) + mt)) (min 6 (la (9 * t + 6) + ms)) (min 40 (la (9 * t + 8) + mp)) n f g co := by
  refine ⟨rfl, rfl, rfl, by omega, okD_k hwm (by omega) (by omega) (by omega) (by omega) (by omega) (fun s _ _ => smM_r hms _ _ _) hco, fun s h1 h2 => ⟨hf s h1 (by omega), rfl, hco (12 + s) (by omega) (by omega), rfl, fun d u h3 h4 h5 h6 => ?_⟩⟩
  have h4' : d ≤ min 6 (la (9 * t + 6) + ms) := h4
  have h6' : u ≤ min 6 (la (9 * t + 6) + ms) := h6
  have hh := hg s (7 * d + u) h1 (by omega) (by omega) (by omega) (by omega) (by omega)
  rw [show (7 * d + u) / 7 = d by omega, show (7 * d + u) % 7 = u by omega] at hh
  rw [show 49 * s + 7 * d + u = 49 * s + (7 * d + u) by omega, hh]
  rfl
theorem d10_layDay_0 : decode c10_layDay 0 = .ok (.aload_n 0, 1) := by decide +kernel
theorem d10_layDay_1 : decode c10_layDay 1 = .ok (.aload_n 0, 1) := by decide +kernel
theorem d10_layDay_2 : decode c10_layDay 2 = .ok (.bipush 60, 2) := by decide +kernel
theorem d10_layDay_4 : decode c10_layDay 4 = .ok (.aload_n 0, 1) := by decide +kernel
theorem d10_layDay_5 : decode c10_layDay 5 = .ok (.iconst 5, 1) := by decide +kernel
theorem d10_layDay_6 : decode c10_layDay 6 = .ok (.invokevirtual 286, 3) := by decide +kernel
theorem d10_layDay_9 : decode c10_layDay 9 = .ok (.iload_n 1, 1) := by decide +kernel
theorem d10_layDay_10 : decode c10_layDay 10 = .ok (.iadd, 1) := by decide +kernel
theorem d10_layDay_11 : decode c10_layDay 11 = .ok (.invokevirtual 276, 3) := by decide +kernel
theorem d10_layDay_14 : decode c10_layDay 14 = .ok (.putfield 97, 3) := by decide +kernel
theorem d10_layDay_17 : decode c10_layDay 17 = .ok (.aload_n 0, 1) := by decide +kernel
theorem d10_layDay_18 : decode c10_layDay 18 = .ok (.aload_n 0, 1) := by decide +kernel
theorem d10_layDay_19 : decode c10_layDay 19 = .ok (.bipush 6, 2) := by decide +kernel
theorem d10_layDay_21 : decode c10_layDay 21 = .ok (.aload_n 0, 1) := by decide +kernel
theorem d10_layDay_22 : decode c10_layDay 22 = .ok (.bipush 6, 2) := by decide +kernel
theorem d10_layDay_24 : decode c10_layDay 24 = .ok (.invokevirtual 286, 3) := by decide +kernel
theorem d10_layDay_27 : decode c10_layDay 27 = .ok (.iload_n 2, 1) := by decide +kernel
theorem d10_layDay_28 : decode c10_layDay 28 = .ok (.iadd, 1) := by decide +kernel
theorem d10_layDay_29 : decode c10_layDay 29 = .ok (.invokevirtual 276, 3) := by decide +kernel
theorem d10_layDay_32 : decode c10_layDay 32 = .ok (.putfield 100, 3) := by decide +kernel
theorem d10_layDay_35 : decode c10_layDay 35 = .ok (.aload_n 0, 1) := by decide +kernel
theorem d10_layDay_36 : decode c10_layDay 36 = .ok (.aload_n 0, 1) := by decide +kernel
theorem d10_layDay_37 : decode c10_layDay 37 = .ok (.bipush 40, 2) := by decide +kernel
theorem d10_layDay_39 : decode c10_layDay 39 = .ok (.aload_n 0, 1) := by decide +kernel
theorem d10_layDay_40 : decode c10_layDay 40 = .ok (.bipush 8, 2) := by decide +kernel
theorem d10_layDay_42 : decode c10_layDay 42 = .ok (.invokevirtual 286, 3) := by decide +kernel
theorem d10_layDay_45 : decode c10_layDay 45 = .ok (.iload 4, 2) := by decide +kernel
theorem d10_layDay_47 : decode c10_layDay 47 = .ok (.iadd, 1) := by decide +kernel
theorem d10_layDay_48 : decode c10_layDay 48 = .ok (.invokevirtual 276, 3) := by decide +kernel
theorem d10_layDay_51 : decode c10_layDay 51 = .ok (.putfield 103, 3) := by decide +kernel
theorem d10_layDay_54 : decode c10_layDay 54 = .ok (.aload_n 0, 1) := by decide +kernel
theorem d10_layDay_55 : decode c10_layDay 55 = .ok (.iload 5, 2) := by decide +kernel
theorem d10_layDay_57 : decode c10_layDay 57 = .ok (.putfield 106, 3) := by decide +kernel
theorem d10_layDay_60 : decode c10_layDay 60 = .ok (.iconst 0, 1) := by decide +kernel
theorem d10_layDay_61 : decode c10_layDay 61 = .ok (.istore 6, 2) := by decide +kernel
theorem d10_layDay_63 : decode c10_layDay 63 = .ok (.iload 6, 2) := by decide +kernel
theorem d10_layDay_65 : decode c10_layDay 65 = .ok (.bipush 12, 2) := by decide +kernel
theorem d10_layDay_67 : decode c10_layDay 67 = .ok (.if_icmp .ge 113, 3) := by decide +kernel
theorem d10_layDay_70 : decode c10_layDay 70 = .ok (.aload_n 0, 1) := by decide +kernel
theorem d10_layDay_71 : decode c10_layDay 71 = .ok (.getfield 109, 3) := by decide +kernel
theorem d10_layDay_74 : decode c10_layDay 74 = .ok (.iload 6, 2) := by decide +kernel
theorem d10_layDay_76 : decode c10_layDay 76 = .ok (.aload_n 0, 1) := by decide +kernel
theorem d10_layDay_77 : decode c10_layDay 77 = .ok (.bipush 7, 2) := by decide +kernel
theorem d10_layDay_79 : decode c10_layDay 79 = .ok (.iload 6, 2) := by decide +kernel
theorem d10_layDay_81 : decode c10_layDay 81 = .ok (.invokevirtual 296, 3) := by decide +kernel
theorem d10_layDay_84 : decode c10_layDay 84 = .ok (.iload_n 3, 1) := by decide +kernel
theorem d10_layDay_85 : decode c10_layDay 85 = .ok (.iadd, 1) := by decide +kernel
theorem d10_layDay_86 : decode c10_layDay 86 = .ok (.iastore, 1) := by decide +kernel
theorem d10_layDay_87 : decode c10_layDay 87 = .ok (.aload_n 0, 1) := by decide +kernel
theorem d10_layDay_88 : decode c10_layDay 88 = .ok (.iconst 3, 1) := by decide +kernel
theorem d10_layDay_89 : decode c10_layDay 89 = .ok (.iload 6, 2) := by decide +kernel
theorem d10_layDay_91 : decode c10_layDay 91 = .ok (.invokevirtual 296, 3) := by decide +kernel
theorem d10_layDay_94 : decode c10_layDay 94 = .ok (.istore 7, 2) := by decide +kernel
theorem d10_layDay_96 : decode c10_layDay 96 = .ok (.iconst 0, 1) := by decide +kernel
theorem d10_layDay_97 : decode c10_layDay 97 = .ok (.istore 8, 2) := by decide +kernel
theorem d10_layDay_99 : decode c10_layDay 99 = .ok (.iload 8, 2) := by decide +kernel
theorem d10_layDay_101 : decode c10_layDay 101 = .ok (.bipush 49, 2) := by decide +kernel
theorem d10_layDay_103 : decode c10_layDay 103 = .ok (.if_icmp .ge 71, 3) := by decide +kernel
theorem d10_layDay_106 : decode c10_layDay 106 = .ok (.aload_n 0, 1) := by decide +kernel
theorem d10_layDay_107 : decode c10_layDay 107 = .ok (.getfield 112, 3) := by decide +kernel
theorem d10_layDay_110 : decode c10_layDay 110 = .ok (.bipush 49, 2) := by decide +kernel
theorem d10_layDay_112 : decode c10_layDay 112 = .ok (.iload 6, 2) := by decide +kernel
theorem d10_layDay_114 : decode c10_layDay 114 = .ok (.imul, 1) := by decide +kernel
theorem d10_layDay_115 : decode c10_layDay 115 = .ok (.iload 8, 2) := by decide +kernel
theorem d10_layDay_117 : decode c10_layDay 117 = .ok (.iadd, 1) := by decide +kernel
theorem d10_layDay_118 : decode c10_layDay 118 = .ok (.iload 8, 2) := by decide +kernel
theorem d10_layDay_120 : decode c10_layDay 120 = .ok (.bipush 7, 2) := by decide +kernel
theorem d10_layDay_122 : decode c10_layDay 122 = .ok (.idiv, 1) := by decide +kernel
theorem d10_layDay_123 : decode c10_layDay 123 = .ok (.aload_n 0, 1) := by decide +kernel
theorem d10_layDay_124 : decode c10_layDay 124 = .ok (.getfield 100, 3) := by decide +kernel
theorem d10_layDay_127 : decode c10_layDay 127 = .ok (.if_icmp .gt 15, 3) := by decide +kernel
theorem d10_layDay_130 : decode c10_layDay 130 = .ok (.iload 8, 2) := by decide +kernel
theorem d10_layDay_132 : decode c10_layDay 132 = .ok (.bipush 7, 2) := by decide +kernel
theorem d10_layDay_134 : decode c10_layDay 134 = .ok (.irem, 1) := by decide +kernel
theorem d10_layDay_135 : decode c10_layDay 135 = .ok (.aload_n 0, 1) := by decide +kernel
theorem d10_layDay_136 : decode c10_layDay 136 = .ok (.getfield 100, 3) := by decide +kernel
theorem d10_layDay_139 : decode c10_layDay 139 = .ok (.if_icmp .le 8, 3) := by decide +kernel
theorem d10_layDay_142 : decode c10_layDay 142 = .ok (.bipush (-5), 2) := by decide +kernel
theorem d10_layDay_144 : decode c10_layDay 144 = .ok (.goto 23, 3) := by decide +kernel
theorem d10_layDay_147 : decode c10_layDay 147 = .ok (.aload_n 0, 1) := by decide +kernel
theorem d10_layDay_148 : decode c10_layDay 148 = .ok (.iload 7, 2) := by decide +kernel
theorem d10_layDay_150 : decode c10_layDay 150 = .ok (.iload 8, 2) := by decide +kernel
theorem d10_layDay_152 : decode c10_layDay 152 = .ok (.bipush 7, 2) := by decide +kernel
theorem d10_layDay_154 : decode c10_layDay 154 = .ok (.idiv, 1) := by decide +kernel
theorem d10_layDay_155 : decode c10_layDay 155 = .ok (.iload 8, 2) := by decide +kernel
theorem d10_layDay_157 : decode c10_layDay 157 = .ok (.bipush 7, 2) := by decide +kernel
theorem d10_layDay_159 : decode c10_layDay 159 = .ok (.irem, 1) := by decide +kernel
theorem d10_layDay_160 : decode c10_layDay 160 = .ok (.aload_n 0, 1) := by decide +kernel
theorem d10_layDay_161 : decode c10_layDay 161 = .ok (.getfield 97, 3) := by decide +kernel
theorem d10_layDay_164 : decode c10_layDay 164 = .ok (.invokevirtual 312, 3) := by decide +kernel
theorem d10_layDay_167 : decode c10_layDay 167 = .ok (.iastore, 1) := by decide +kernel
theorem d10_layDay_168 : decode c10_layDay 168 = .ok (.iinc 8 1, 3) := by decide +kernel
theorem d10_layDay_171 : decode c10_layDay 171 = .ok (.goto (-72), 3) := by decide +kernel
theorem d10_layDay_174 : decode c10_layDay 174 = .ok (.iinc 6 1, 3) := by decide +kernel
theorem d10_layDay_177 : decode c10_layDay 177 = .ok (.goto (-114), 3) := by decide +kernel
theorem d10_layDay_180 : decode c10_layDay 180 = .ok (.return_, 1) := by decide +kernel
theorem mw10_layDay : MV y10_layDay c10_layDay 9 none 5 := ⟨cd10_layDay, ini10, na10_layDay, im10_layDay, se10_layDay⟩
set_option maxHeartbeats 4000000 in
set_option maxRecDepth 100000 in
theorem k10_layDay (l : Launch) (E : En) (mo : Nat) (ad : Nat → Nat) (S : Nat → Int) (la : Int → Int) (po : Int → Int) (pt : Int → Int) (cl : Int → Int) (wd : Int → Int) (nu : Int → Int) (fo : Int → Int) (to : Int → Int) (sg : Int → Int) (pl : Int → Int) (Fq : Int → Int → Int → Int) (co : Int → Int) (spr : Int → Int) (le : Int → Int) (mt : Int) (ms : Int) (msp : Int) (mp : Int) (n : Int) (r_mt : R32 mt) (r_ms : R32 ms) (r_msp : R32 msp) (r_mp : R32 mp) (r_n : R32 n) (hth : 0 ≤ S 1 ∧ S 1 ≤ 3) (hms : MSum wd nu fo to sg cl Fq (S 1)) (hwm : wfC (cM la po (S 1)) (pM pt (S 1))) (hco : ∀ j, 0 ≤ j → j < 24 → 0 ≤ co j ∧ co j ≤ 6) (hsg : ∀ j, 0 ≤ j → j < 400 → -200 ≤ sg j ∧ sg j ≤ 20000) (hpl : ∀ j, 0 ≤ j → j < 100 → 0 ≤ pl j ∧ pl j ≤ 1) (hw : S 20 = 0 ∨ S 20 = 1) (hmm : (0 ≤ mt ∧ mt ≤ 80) ∧ (0 ≤ ms ∧ ms ≤ 80) ∧ (0 ≤ msp ∧ msp ≤ 80) ∧ (0 ≤ mp ∧ mp ≤ 80) ∧ (1 ≤ n ∧ n ≤ 6)) : Cm l E y10_layDay c10_layDay 9 none { frames := 4, cells := 0, slots := 0, locals := 98 } [.ref mo, .int (iZ mt), .int (iZ ms), .int (iZ msp), .int (iZ mp), .int (iZ n)] [(mo, mO ad S), (ad 11, aInt E 36 la), (ad 12, aInt E 4 po), (ad 13, aInt E 20 pt), (ad 6, aInt E 4 cl), (ad 7, aInt E 48 wd), (ad 8, aInt E 48 nu), (ad 9, aInt E 48 fo), (ad 10, aInt E 48 to), (ad 14, aInt E 400 sg), (ad 19, aBoo E 100 pl), (ad 22, aInt E 24 co), (ad 32, aInt E 12 spr), (ad 33, aInt E 588 le)] (fun r ws => ∃ (pl1 : Int → Int), ∃ (sp1 : Int → Int), ∃ (le1 : Int → Int), ∃ (tk1 : Int), ∃ (se1 : Int), ∃ (mx1 : Int), r = none ∧ ws = [(mo, mO ad (upS (upS (upS (upS S 28 tk1) 29 se1) 30 mx1) 31 n)), (ad 11, aInt E 36 la), (ad 12, aInt E 4 po), (ad 13, aInt E 20 pt), (ad 6, aInt E 4 cl), (ad 7, aInt E 48 wd), (ad 8, aInt E 48 nu), (ad 9, aInt E 48 fo), (ad 10, aInt E 48 to), (ad 14, aInt E 400 sg), (ad 19, aBoo E 100 pl1), (ad 22, aInt E 24 co), (ad 32, aInt E 12 sp1), (ad 33, aInt E 588 le1)] ∧ (Lay (kD (cM la po (S 1)) (pM pt (S 1)) (fun s => smM wd nu cl Fq (S 1) 3 s (S 20)) (fun s => smM wd nu cl Fq (S 1) 7 s (S 20)) co mt ms msp mp n) tk1 se1 mx1 n sp1 le1 co ∧ ∀ j, 0 ≤ j → j < 100 → 0 ≤ pl1 j ∧ pl1 j ≤ 1)) := by
  refine Cm.of (by decide +kernel) (Nat.le_of_ble_eq_true rfl) (fun Γ A hl hargs hin G F => ?_)
  subst hl
  have htk : 0 ≤ la (9 * S 1 + 5) ∧ la (9 * S 1 + 5) ≤ 60 := hwm.2.2.2.2.2.1
  have hse : 0 ≤ la (9 * S 1 + 6) ∧ la (9 * S 1 + 6) ≤ 6 := hwm.2.2.2.2.2.2.1
  have hmx : 0 ≤ la (9 * S 1 + 8) ∧ la (9 * S 1 + 8) ≤ 40 := hwm.2.2.2.2.2.2.2
  refine j_aload_n G 0 rfl d10_layDay_0 ?_
  refine j_aload_n G 0 rfl d10_layDay_1 ?_
  refine j_bipush G d10_layDay_2 rfl ?_
  refine j_aload_n G 0 rfl d10_layDay_4 ?_
  refine j_iconst G d10_layDay_5 ?_
  refine j_VP G (k10_lastOf (xl Γ) E mo ad S la 5 (by first | assumption | omega | (simp only [upS, reduceIte, Nat.reduceEqDiff, eq_self, List.length_cons, List.length_nil, List.length_append] <;> omega)) (by first | assumption | omega | (simp only [upS, reduceIte, Nat.reduceEqDiff, eq_self, List.length_cons, List.length_nil, List.length_append] <;> omega))) mw10_lastOf ml10_286 [0, 1] rfl 0 10 rfl rfl rfl ⟨Nat.le_of_ble_eq_true rfl, Nat.le_of_ble_eq_true rfl⟩ rfl (rest := [.int (iZ 60), .ref mo, .ref mo]) rfl (Nat.le_of_ble_eq_true rfl) d10_layDay_6 ⟨Nat.le_of_ble_eq_true rfl, Nat.le_of_ble_eq_true rfl⟩ (fun r hr => ?_)
  obtain ⟨_, rfl, rfl⟩ := hr
  refine j_iload_n G 1 rfl d10_layDay_9 ?_
  refine j_iadd G d10_layDay_10 ?_
  refine j_VP G (k10_min (xl Γ) E mo 60 ((la (9 * (S 1) + 5)) + mt) (by first | assumption | omega | (simp only [upS, reduceIte, Nat.reduceEqDiff, eq_self, List.length_cons, List.length_nil, List.length_append] <;> omega)) (by first | assumption | omega | (simp only [upS, reduceIte, Nat.reduceEqDiff, eq_self, List.length_cons, List.length_nil, List.length_append] <;> omega))) mw10_min ml10_276 [] rfl 0 10 rfl rfl rfl ⟨Nat.le_of_ble_eq_true rfl, Nat.le_of_ble_eq_true rfl⟩ rfl (rest := [.ref mo]) rfl (Nat.le_of_ble_eq_true rfl) d10_layDay_11 ⟨Nat.le_of_ble_eq_true rfl, Nat.le_of_ble_eq_true rfl⟩ (fun r hr => ?_)
  obtain ⟨_, rfl, rfl⟩ := hr
  refine j_put G 0 10 28 in10 tyok10 nm10 fl10_97 d10_layDay_14 rfl rfl (by decide) ⟨rfl, rfl⟩ rfl rfl (Nat.le_of_ble_eq_true rfl) (e := mO ad (upS S 28 (min 60 ((la (9 * (S 1) + 5)) + mt)))) rfl ?_
  refine j_aload_n G 0 rfl d10_layDay_17 ?_
  refine j_aload_n G 0 rfl d10_layDay_18 ?_
  refine j_bipush G d10_layDay_19 rfl ?_
  refine j_aload_n G 0 rfl d10_layDay_21 ?_
  refine j_bipush G d10_layDay_22 rfl ?_
  refine j_VP G (k10_lastOf (xl Γ) E mo ad (upS S 28 (min 60 ((la (9 * (S 1) + 5)) + mt))) la 6 (by first | assumption | omega | (simp only [upS, reduceIte, Nat.reduceEqDiff, eq_self, List.length_cons, List.length_nil, List.length_append] <;> omega)) (by first | assumption | omega | (simp only [upS, reduceIte, Nat.reduceEqDiff, eq_self, List.length_cons, List.length_nil, List.length_append] <;> omega))) mw10_lastOf ml10_286 [0, 1] rfl 0 10 rfl rfl rfl ⟨Nat.le_of_ble_eq_true rfl, Nat.le_of_ble_eq_true rfl⟩ rfl (rest := [.int (iZ 6), .ref mo, .ref mo]) rfl (Nat.le_of_ble_eq_true rfl) d10_layDay_24 ⟨Nat.le_of_ble_eq_true rfl, Nat.le_of_ble_eq_true rfl⟩ (fun r hr => ?_)
  obtain ⟨_, rfl, rfl⟩ := hr
  refine j_eq (st' := [.int (iZ (la (9 * (S 1) + 6))), .int (iZ 6), .ref mo, .ref mo]) rfl rfl rfl ?_
  refine j_iload_n G 2 rfl d10_layDay_27 ?_
  refine j_iadd G d10_layDay_28 ?_
  refine j_VP G (k10_min (xl Γ) E mo 6 ((la (9 * (S 1) + 6)) + ms) (by first | assumption | omega | (simp only [upS, reduceIte, Nat.reduceEqDiff, eq_self, List.length_cons, List.length_nil, List.length_append] <;> omega)) (by first | assumption | omega | (simp only [upS, reduceIte, Nat.reduceEqDiff, eq_self, List.length_cons, List.length_nil, List.length_append] <;> omega))) mw10_min ml10_276 [] rfl 0 10 rfl rfl rfl ⟨Nat.le_of_ble_eq_true rfl, Nat.le_of_ble_eq_true rfl⟩ rfl (rest := [.ref mo]) rfl (Nat.le_of_ble_eq_true rfl) d10_layDay_29 ⟨Nat.le_of_ble_eq_true rfl, Nat.le_of_ble_eq_true rfl⟩ (fun r hr => ?_)
  obtain ⟨_, rfl, rfl⟩ := hr
  refine j_put G 0 10 29 in10 tyok10 nm10 fl10_100 d10_layDay_32 rfl rfl (by decide) ⟨rfl, rfl⟩ rfl rfl (Nat.le_of_ble_eq_true rfl) (e := mO ad (upS (upS S 28 (min 60 ((la (9 * (S 1) + 5)) + mt))) 29 (min 6 ((la (9 * (S 1) + 6)) + ms)))) rfl ?_
  refine j_aload_n G 0 rfl d10_layDay_35 ?_
  refine j_aload_n G 0 rfl d10_layDay_36 ?_
  refine j_bipush G d10_layDay_37 rfl ?_
  refine j_aload_n G 0 rfl d10_layDay_39 ?_
  refine j_bipush G d10_layDay_40 rfl ?_
  refine j_VP G (k10_lastOf (xl Γ) E mo ad (upS (upS S 28 (min 60 ((la (9 * (S 1) + 5)) + mt))) 29 (min 6 ((la (9 * (S 1) + 6)) + ms))) la 8 (by first | assumption | omega | (simp only [upS, reduceIte, Nat.reduceEqDiff, eq_self, List.length_cons, List.length_nil, List.length_append] <;> omega)) (by first | assumption | omega | (simp only [upS, reduceIte, Nat.reduceEqDiff, eq_self, List.length_cons, List.length_nil, List.length_append] <;> omega))) mw10_lastOf ml10_286 [0, 1] rfl 0 10 rfl rfl rfl ⟨Nat.le_of_ble_eq_true rfl, Nat.le_of_ble_eq_true rfl⟩ rfl (rest := [.int (iZ 40), .ref mo, .ref mo]) rfl (Nat.le_of_ble_eq_true rfl) d10_layDay_42 ⟨Nat.le_of_ble_eq_true rfl, Nat.le_of_ble_eq_true rfl⟩ (fun r hr => ?_)
  obtain ⟨_, rfl, rfl⟩ := hr
  refine j_eq (st' := [.int (iZ (la (9 * (S 1) + 8))), .int (iZ 40), .ref mo, .ref mo]) rfl rfl rfl ?_
  refine j_iload G 4 rfl d10_layDay_45 ?_
  refine j_iadd G d10_layDay_47 ?_
  refine j_VP G (k10_min (xl Γ) E mo 40 ((la (9 * (S 1) + 8)) + mp) (by first | assumption | omega | (simp only [upS, reduceIte, Nat.reduceEqDiff, eq_self, List.length_cons, List.length_nil, List.length_append] <;> omega)) (by first | assumption | omega | (simp only [upS, reduceIte, Nat.reduceEqDiff, eq_self, List.length_cons, List.length_nil, List.length_append] <;> omega))) mw10_min ml10_276 [] rfl 0 10 rfl rfl rfl ⟨Nat.le_of_ble_eq_true rfl, Nat.le_of_ble_eq_true rfl⟩ rfl (rest := [.ref mo]) rfl (Nat.le_of_ble_eq_true rfl) d10_layDay_48 ⟨Nat.le_of_ble_eq_true rfl, Nat.le_of_ble_eq_true rfl⟩ (fun r hr => ?_)
  obtain ⟨_, rfl, rfl⟩ := hr
  refine j_put G 0 10 30 in10 tyok10 nm10 fl10_103 d10_layDay_51 rfl rfl (by decide) ⟨rfl, rfl⟩ rfl rfl (Nat.le_of_ble_eq_true rfl) (e := mO ad (upS (upS (upS S 28 (min 60 ((la (9 * (S 1) + 5)) + mt))) 29 (min 6 ((la (9 * (S 1) + 6)) + ms))) 30 (min 40 ((la (9 * (S 1) + 8)) + mp)))) rfl ?_
  refine j_aload_n G 0 rfl d10_layDay_54 ?_
  refine j_iload G 5 rfl d10_layDay_55 ?_
  refine j_put G 0 10 31 in10 tyok10 nm10 fl10_106 d10_layDay_57 rfl rfl (by decide) ⟨rfl, rfl⟩ rfl rfl (Nat.le_of_ble_eq_true rfl) (e := mO ad (upS (upS (upS (upS S 28 (min 60 ((la (9 * (S 1) + 5)) + mt))) 29 (min 6 ((la (9 * (S 1) + 6)) + ms))) 30 (min 40 ((la (9 * (S 1) + 8)) + mp))) 31 n)) rfl ?_
  refine j_iconst G d10_layDay_60 ?_
  refine j_istore G d10_layDay_61 (by decide) rfl ?_
  have lp63 : ∀ (fu : Nat) (kk : Int) (p : Int → Int) (f : Int → Int) (g : Int → Int), (12 - kk).toNat < fu → (0 ≤ kk ∧ kk ≤ 12) → (∀ j, 0 ≤ j → j < 100 → 0 ≤ p j ∧ p j ≤ 1) → (∀ s, 0 ≤ s → s < kk → f s = smM wd nu cl Fq (S 1) 7 s (S 20) + msp) → (∀ s j, 0 ≤ s → s < kk → 0 ≤ j → j < 49 → j / 7 ≤ min 6 (la (9 * S 1 + 6) + ms) → j % 7 ≤ min 6 (la (9 * S 1 + 6) + ms) → g (49 * s + j) = lF (cM la po (S 1)) (pM pt (S 1)) (smM wd nu cl Fq (S 1) 3 s (S 20)) ((j / 7) - (j % 7)) (min 60 (la (9 * S 1 + 5) + mt))) →  J E 9 Γ (some A) 0 0 [(mo, mO ad (upS (upS (upS (upS S 28 (min 60 ((la (9 * (S 1) + 5)) + mt))) 29 (min 6 ((la (9 * (S 1) + 6)) + ms))) 30 (min 40 ((la (9 * (S 1) + 8)) + mp))) 31 n)), (ad 11, aInt E 36 la), (ad 12, aInt E 4 po), (ad 13, aInt E 20 pt), (ad 6, aInt E 4 cl), (ad 7, aInt E 48 wd), (ad 8, aInt E 48 nu), (ad 9, aInt E 48 fo), (ad 10, aInt E 48 to), (ad 14, aInt E 400 sg), (ad 19, aBoo E 100 p), (ad 22, aInt E 24 co), (ad 32, aInt E 12 f), (ad 33, aInt E 588 g)] 63 [(6, .int (iZ kk)), (0, .ref mo), (1, .int (iZ mt)), (2, .int (iZ ms)), (3, .int (iZ msp)), (4, .int (iZ mp)), (5, .int (iZ n))] [] := by
    intro fu
    induction fu with
    | zero =>
      intro kk p f g hm
      exact absurd hm (Nat.not_lt_zero _)
    | succ fu ih63 =>
      intro kk p f g hm hk hp1 hf hg
      refine j_iload G 0 rfl d10_layDay_63 ?_
      refine j_bipush G d10_layDay_65 rfl ?_
      refine j_icmp_ge (tgt := 180) G d10_layDay_67 (by decide) (by omega) (by decide) (fun h7 => ?_) (fun h7 => ?_)
      ·
        exact j_vret G F d10_layDay_180 ⟨p, f, g, (min 60 ((la (9 * (S 1) + 5)) + mt)), (min 6 ((la (9 * (S 1) + 6)) + ms)), (min 40 ((la (9 * (S 1) + 8)) + mp)), rfl, rfl, (by exact ⟨lay_fin hwm hms hco hmm hf (fun s j h1 h2 h3 h4 h5 h6 => hg s j h1 (by omega) h3 h4 h5 h6) (by omega), hp1⟩)⟩
      ·
        refine j_aload_n G 1 rfl d10_layDay_70 ?_
        refine j_get G 0 10 32 in10 fl10_109 d10_layDay_71 rfl rfl (by decide) (v := .ref (ad 32)) rfl rfl ?_
        refine j_iload G 0 rfl d10_layDay_74 ?_
        refine j_aload_n G 1 rfl d10_layDay_76 ?_
        refine j_bipush G d10_layDay_77 rfl ?_
        refine j_iload G 0 rfl d10_layDay_79 ?_
        refine j_VM G (rm' := { frames := 1, cells := 0, slots := 0, locals := 27 }) (wc := [(mo, mO ad (upS (upS (upS (upS S 28 (min 60 ((la (9 * (S 1) + 5)) + mt))) 29 (min 6 ((la (9 * (S 1) + 6)) + ms))) 30 (min 40 ((la (9 * (S 1) + 8)) + mp))) 31 n)), (ad 6, aInt E 4 cl), (ad 7, aInt E 48 wd), (ad 8, aInt E 48 nu), (ad 9, aInt E 48 fo), (ad 10, aInt E 48 to), (ad 14, aInt E 400 sg), (ad 19, aBoo E 100 p)]) (wr := [(ad 11, aInt E 36 la), (ad 12, aInt E 4 po), (ad 13, aInt E 20 pt), (ad 22, aInt E 24 co), (ad 32, aInt E 12 f), (ad 33, aInt E 588 g)]) (k10_sum (xl Γ) E mo ad (upS (upS (upS (upS S 28 (min 60 ((la (9 * (S 1) + 5)) + mt))) 29 (min 6 ((la (9 * (S 1) + 6)) + ms))) 30 (min 40 ((la (9 * (S 1) + 8)) + mp))) 31 n) cl wd nu fo to sg p Fq 7 kk (by first | assumption | omega | (simp only [upS, reduceIte, Nat.reduceEqDiff, eq_self, List.length_cons, List.length_nil, List.length_append] <;> omega)) (by first | assumption | omega | (simp only [upS, reduceIte, Nat.reduceEqDiff, eq_self, List.length_cons, List.length_nil, List.length_append] <;> omega)) (by first | assumption | omega | (simp only [upS, reduceIte, Nat.reduceEqDiff, eq_self, List.length_cons, List.length_nil, List.length_append] <;> omega)) (by first | assumption | omega | (simp only [upS, reduceIte, Nat.reduceEqDiff, eq_self, List.length_cons, List.length_nil, List.length_append] <;> omega)) (by first | assumption | omega | (simp only [upS, reduceIte, Nat.reduceEqDiff, eq_self, List.length_cons, List.length_nil, List.length_append] <;> omega)) (by first | assumption | omega | (simp only [upS, reduceIte, Nat.reduceEqDiff, eq_self, List.length_cons, List.length_nil, List.length_append] <;> omega)) (by first | assumption | omega | (simp only [upS, reduceIte, Nat.reduceEqDiff, eq_self, List.length_cons, List.length_nil, List.length_append] <;> omega))) mw10_sum ml10_296 [0, 4, 5, 6, 7, 8, 9, 10] [1, 2, 3, 11, 12, 13] rfl rfl ⟨rfl, rfl⟩ (by decide) 0 10 rfl rfl rfl ⟨Nat.le_of_ble_eq_true rfl, Nat.le_of_ble_eq_true rfl⟩ rfl (rest := [.int (iZ kk), .ref (ad 32)]) rfl (Nat.le_of_ble_eq_true rfl) d10_layDay_81 ⟨Nat.le_of_ble_eq_true rfl, Nat.le_of_ble_eq_true rfl⟩ (fun r w1 hr => ?_)
        obtain ⟨v9, pl1_10, rfl, rfl, ⟨hq8_0, hq8_1, hq8_2⟩⟩ := hr
        refine j_eq (ws' := [(ad 11, aInt E 36 la), (ad 12, aInt E 4 po), (ad 13, aInt E 20 pt), (ad 22, aInt E 24 co), (ad 32, aInt E 12 f), (ad 33, aInt E 588 g), (mo, mO ad (upS (upS (upS (upS S 28 (min 60 ((la (9 * (S 1) + 5)) + mt))) 29 (min 6 ((la (9 * (S 1) + 6)) + ms))) 30 (min 40 ((la (9 * (S 1) + 8)) + mp))) 31 n)), (ad 6, aInt E 4 cl), (ad 7, aInt E 48 wd), (ad 8, aInt E 48 nu), (ad 9, aInt E 48 fo), (ad 10, aInt E 48 to), (ad 14, aInt E 400 sg), (ad 19, aBoo E 100 pl1_10)]) rfl rfl rfl ?_
        try simp only [upS, reduceIte, Nat.reduceEqDiff, eq_self] at hq8_0 hq8_1 hq8_2
        have hsw := hq8_0
        have hsr := hq8_1
        have hsp := hq8_2
        refine j_iload_n G 4 rfl d10_layDay_84 ?_
        refine j_iadd G d10_layDay_85 ?_
        refine j_iast G 4 rfl (by omega) d10_layDay_86 ?_
        have hfn : ∀ s, 0 ≤ s → s < kk + 1 → upI f kk (smM wd nu cl Fq (S 1) 7 kk (S 20) + msp) s = smM wd nu cl Fq (S 1) 7 s (S 20) + msp := fun s h1 h2 => if hs : s = kk then (by subst hs; unfold upI; rw [if_pos rfl]) else (by unfold upI; rw [if_neg hs]; exact hf s h1 (by omega))
        rw [← hsw] at hfn
        refine j_aload_n G 1 rfl d10_layDay_87 ?_
        refine j_iconst G d10_layDay_88 ?_
        refine j_iload G 0 rfl d10_layDay_89 ?_
        refine j_VM G (rm' := { frames := 1, cells := 0, slots := 0, locals := 27 }) (wc := [(mo, mO ad (upS (upS (upS (upS S 28 (min 60 ((la (9 * (S 1) + 5)) + mt))) 29 (min 6 ((la (9 * (S 1) + 6)) + ms))) 30 (min 40 ((la (9 * (S 1) + 8)) + mp))) 31 n)), (ad 6, aInt E 4 cl), (ad 7, aInt E 48 wd), (ad 8, aInt E 48 nu), (ad 9, aInt E 48 fo), (ad 10, aInt E 48 to), (ad 14, aInt E 400 sg), (ad 19, aBoo E 100 pl1_10)]) (wr := [(ad 11, aInt E 36 la), (ad 12, aInt E 4 po), (ad 13, aInt E 20 pt), (ad 22, aInt E 24 co), (ad 32, aInt E 12 (upI f kk (v9 + msp))), (ad 33, aInt E 588 g)]) (k10_sum (xl Γ) E mo ad (upS (upS (upS (upS S 28 (min 60 ((la (9 * (S 1) + 5)) + mt))) 29 (min 6 ((la (9 * (S 1) + 6)) + ms))) 30 (min 40 ((la (9 * (S 1) + 8)) + mp))) 31 n) cl wd nu fo to sg pl1_10 Fq 3 kk (by first | assumption | omega | (simp only [upS, reduceIte, Nat.reduceEqDiff, eq_self, List.length_cons, List.length_nil, List.length_append] <;> omega)) (by first | assumption | omega | (simp only [upS, reduceIte, Nat.reduceEqDiff, eq_self, List.length_cons, List.length_nil, List.length_append] <;> omega)) (by first | assumption | omega | (simp only [upS, reduceIte, Nat.reduceEqDiff, eq_self, List.length_cons, List.length_nil, List.length_append] <;> omega)) (by first | assumption | omega | (simp only [upS, reduceIte, Nat.reduceEqDiff, eq_self, List.length_cons, List.length_nil, List.length_append] <;> omega)) (by first | assumption | omega | (simp only [upS, reduceIte, Nat.reduceEqDiff, eq_self, List.length_cons, List.length_nil, List.length_append] <;> omega)) (by first | assumption | omega | (simp only [upS, reduceIte, Nat.reduceEqDiff, eq_self, List.length_cons, List.length_nil, List.length_append] <;> omega)) (by first | assumption | omega | (simp only [upS, reduceIte, Nat.reduceEqDiff, eq_self, List.length_cons, List.length_nil, List.length_append] <;> omega))) mw10_sum ml10_296 [6, 7, 8, 9, 10, 11, 12, 13] [0, 1, 2, 3, 4, 5] rfl rfl ⟨rfl, rfl⟩ (by decide) 6 10 rfl rfl rfl ⟨Nat.le_of_ble_eq_true rfl, Nat.le_of_ble_eq_true rfl⟩ rfl (rest := []) rfl (Nat.le_of_ble_eq_true rfl) d10_layDay_91 ⟨Nat.le_of_ble_eq_true rfl, Nat.le_of_ble_eq_true rfl⟩ (fun r w1 hr => ?_)
        obtain ⟨v12, pl1_13, rfl, rfl, ⟨hq11_0, hq11_1, hq11_2⟩⟩ := hr
        refine j_eq (ws' := [(ad 11, aInt E 36 la), (ad 12, aInt E 4 po), (ad 13, aInt E 20 pt), (ad 22, aInt E 24 co), (ad 32, aInt E 12 (upI f kk (v9 + msp))), (ad 33, aInt E 588 g), (mo, mO ad (upS (upS (upS (upS S 28 (min 60 ((la (9 * (S 1) + 5)) + mt))) 29 (min 6 ((la (9 * (S 1) + 6)) + ms))) 30 (min 40 ((la (9 * (S 1) + 8)) + mp))) 31 n)), (ad 6, aInt E 4 cl), (ad 7, aInt E 48 wd), (ad 8, aInt E 48 nu), (ad 9, aInt E 48 fo), (ad 10, aInt E 48 to), (ad 14, aInt E 400 sg), (ad 19, aBoo E 100 pl1_13)]) rfl rfl rfl ?_
        try simp only [upS, reduceIte, Nat.reduceEqDiff, eq_self] at hq11_0 hq11_1 hq11_2
        have hdg := hq11_0
        have hdr := hq11_1
        have hdp := hq11_2
        refine j_istore G d10_layDay_94 (by decide) rfl ?_
        refine j_iconst G d10_layDay_96 ?_
        refine j_istore G d10_layDay_97 (by decide) rfl ?_
        have lp99 : ∀ (fu : Nat) (jj : Int) (g2 : Int → Int), (49 - jj).toNat < fu → (0 ≤ jj ∧ jj ≤ 49) → (∀ s j, 0 ≤ s → s < kk → 0 ≤ j → j < 49 → j / 7 ≤ min 6 (la (9 * S 1 + 6) + ms) → j % 7 ≤ min 6 (la (9 * S 1 + 6) + ms) → g2 (49 * s + j) = lF (cM la po (S 1)) (pM pt (S 1)) (smM wd nu cl Fq (S 1) 3 s (S 20)) ((j / 7) - (j % 7)) (min 60 (la (9 * S 1 + 5) + mt))) → (∀ j, 0 ≤ j → j < jj → j / 7 ≤ min 6 (la (9 * S 1 + 6) + ms) → j % 7 ≤ min 6 (la (9 * S 1 + 6) + ms) → g2 (49 * kk + j) = lF (cM la po (S 1)) (pM pt (S 1)) (smM wd nu cl Fq (S 1) 3 kk (S 20)) ((j / 7) - (j % 7)) (min 60 (la (9 * S 1 + 5) + mt))) →  J E 9 Γ (some A) 0 0 [(ad 11, aInt E 36 la), (ad 12, aInt E 4 po), (ad 13, aInt E 20 pt), (ad 22, aInt E 24 co), (ad 32, aInt E 12 (upI f kk (v9 + msp))), (ad 33, aInt E 588 g2), (mo, mO ad (upS (upS (upS (upS S 28 (min 60 ((la (9 * (S 1) + 5)) + mt))) 29 (min 6 ((la (9 * (S 1) + 6)) + ms))) 30 (min 40 ((la (9 * (S 1) + 8)) + mp))) 31 n)), (ad 6, aInt E 4 cl), (ad 7, aInt E 48 wd), (ad 8, aInt E 48 nu), (ad 9, aInt E 48 fo), (ad 10, aInt E 48 to), (ad 14, aInt E 400 sg), (ad 19, aBoo E 100 pl1_13)] 99 [(8, .int (iZ jj)), (7, .int (iZ v12)), (6, .int (iZ kk)), (0, .ref mo), (1, .int (iZ mt)), (2, .int (iZ ms)), (3, .int (iZ msp)), (4, .int (iZ mp)), (5, .int (iZ n))] [] := by
          intro fu
          induction fu with
          | zero =>
            intro jj g2 hm
            exact absurd hm (Nat.not_lt_zero _)
          | succ fu ih99 =>
            intro jj g2 hm hj hgo hgi
            refine j_iload G 0 rfl d10_layDay_99 ?_
            refine j_bipush G d10_layDay_101 rfl ?_
            refine j_icmp_ge (tgt := 174) G d10_layDay_103 (by decide) (by omega) (by decide) (fun h14 => ?_) (fun h14 => ?_)
            ·
              refine j_iinc G d10_layDay_174 2 rfl (by decide) rfl ?_
              refine j_goto (tgt := 63) G d10_layDay_177 (by decide) ?_
              refine j_locs (ls' := [(6, .int (iZ (kk + 1))), (0, .ref mo), (1, .int (iZ mt)), (2, .int (iZ ms)), (3, .int (iZ msp)), (4, .int (iZ mp)), (5, .int (iZ n))]) [0, 3, 4, 5, 6, 7, 8] rfl ?_
              refine j_perm (ws' := [(mo, mO ad (upS (upS (upS (upS S 28 (min 60 ((la (9 * (S 1) + 5)) + mt))) 29 (min 6 ((la (9 * (S 1) + 6)) + ms))) 30 (min 40 ((la (9 * (S 1) + 8)) + mp))) 31 n)), (ad 11, aInt E 36 la), (ad 12, aInt E 4 po), (ad 13, aInt E 20 pt), (ad 6, aInt E 4 cl), (ad 7, aInt E 48 wd), (ad 8, aInt E 48 nu), (ad 9, aInt E 48 fo), (ad 10, aInt E 48 to), (ad 14, aInt E 400 sg), (ad 19, aBoo E 100 pl1_13), (ad 22, aInt E 24 co), (ad 32, aInt E 12 (upI f kk (v9 + msp))), (ad 33, aInt E 588 g2)]) [6, 0, 1, 2, 7, 8, 9, 10, 11, 12, 13, 3, 4, 5] rfl rfl rfl ?_
              exact ih63 (kk + 1) pl1_13 (upI f kk (v9 + msp)) g2 (by omega) (by first | assumption | omega) (by first | assumption | omega) hfn (fun s j h1 h2 h3 h4 h5 h6 => if hs : s = kk then (by subst hs; exact hgi j h3 (by omega) h5 h6) else hgo s j h1 (by omega) h3 h4 h5 h6)
            ·
              refine j_aload_n G 3 rfl d10_layDay_106 ?_
              refine j_get G 6 10 33 in10 fl10_112 d10_layDay_107 rfl rfl (by decide) (v := .ref (ad 33)) rfl rfl ?_
              refine j_bipush G d10_layDay_110 rfl ?_
              refine j_iload G 2 rfl d10_layDay_112 ?_
              refine j_imul G d10_layDay_114 ?_
              refine j_iload G 0 rfl d10_layDay_115 ?_
              refine j_iadd G d10_layDay_117 ?_
              refine j_iload G 0 rfl d10_layDay_118 ?_
              refine j_bipush G d10_layDay_120 rfl ?_
              refine j_idiv G d10_layDay_122 (by omega) ?_
              refine j_aload_n G 3 rfl d10_layDay_123 ?_
              refine j_get G 6 10 29 in10 fl10_100 d10_layDay_124 rfl rfl (by decide) (v := .int (iZ (min 6 ((la (9 * (S 1) + 6)) + ms)))) rfl rfl ?_
              refine j_icmp_gt (tgt := 142) G d10_layDay_127 (by decide) (by omega) (by omega) (fun h15 => ?_) (fun h15 => ?_)
              ·
                refine j_bipush G d10_layDay_142 rfl ?_
                refine j_goto (tgt := 167) G d10_layDay_144 (by decide) ?_
                refine j_iast G 5 rfl (by omega) d10_layDay_167 ?_
                refine j_iinc G d10_layDay_168 0 rfl (by decide) rfl ?_
                refine j_goto (tgt := 99) G d10_layDay_171 (by decide) ?_
                exact ih99 (jj + 1) (upI g2 ((49 * kk) + jj) (-5)) (by omega) (by first | assumption | omega) (fun s j h1 h2 h3 h4 h5 h6 => by unfold upI; rw [if_neg (by omega)]; exact hgo s j h1 h2 h3 h4 h5 h6) (fun j h1 h2 h3 h4 => if hj : j = jj then (by subst hj; unfold upI; rw [if_pos rfl]; first | (exfalso; omega) | (rw [hdg] at hlw; exact isL_lF hlw)) else (by unfold upI; rw [if_neg (by omega)]; exact hgi j h1 (by omega) h3 h4))
              ·
                refine j_iload G 0 rfl d10_layDay_130 ?_
                refine j_bipush G d10_layDay_132 rfl ?_
                refine j_irem G d10_layDay_134 (by omega) ?_
                refine j_aload_n G 3 rfl d10_layDay_135 ?_
                refine j_get G 6 10 29 in10 fl10_100 d10_layDay_136 rfl rfl (by decide) (v := .int (iZ (min 6 ((la (9 * (S 1) + 6)) + ms)))) rfl rfl ?_
                refine j_icmp_le (tgt := 147) G d10_layDay_139 (by decide) (by omega) (by omega) (fun h16 => ?_) (fun h16 => ?_)
                ·
                  refine j_aload_n G 3 rfl d10_layDay_147 ?_
                  refine j_iload G 1 rfl d10_layDay_148 ?_
                  refine j_iload G 0 rfl d10_layDay_150 ?_
                  refine j_bipush G d10_layDay_152 rfl ?_
                  refine j_idiv G d10_layDay_154 (by omega) ?_
                  refine j_iload G 0 rfl d10_layDay_155 ?_
                  refine j_bipush G d10_layDay_157 rfl ?_
                  refine j_irem G d10_layDay_159 (by omega) ?_
                  refine j_aload_n G 3 rfl d10_layDay_160 ?_
                  refine j_get G 6 10 28 in10 fl10_97 d10_layDay_161 rfl rfl (by decide) (v := .int (iZ (min 60 ((la (9 * (S 1) + 5)) + mt)))) rfl rfl ?_
                  refine j_VP G (k10_leastBy (xl Γ) E mo ad (upS (upS (upS (upS S 28 (min 60 ((la (9 * (S 1) + 5)) + mt))) 29 (min 6 ((la (9 * (S 1) + 6)) + ms))) 30 (min 40 ((la (9 * (S 1) + 8)) + mp))) 31 n) la po pt v12 (jj / 7) (jj % 7) (min 60 ((la (9 * (S 1) + 5)) + mt)) (by first | assumption | omega | (simp only [upS, reduceIte, Nat.reduceEqDiff, eq_self, List.length_cons, List.length_nil, List.length_append] <;> omega)) (by first | assumption | omega | (simp only [upS, reduceIte, Nat.reduceEqDiff, eq_self, List.length_cons, List.length_nil, List.length_append] <;> omega)) (by first | assumption | omega | (simp only [upS, reduceIte, Nat.reduceEqDiff, eq_self, List.length_cons, List.length_nil, List.length_append] <;> omega)) (by first | assumption | omega | (simp only [upS, reduceIte, Nat.reduceEqDiff, eq_self, List.length_cons, List.length_nil, List.length_append] <;> omega)) (by first | assumption | omega | (simp only [upS, reduceIte, Nat.reduceEqDiff, eq_self, List.length_cons, List.length_nil, List.length_append] <;> omega)) (by first | assumption | omega | (simp only [upS, reduceIte, Nat.reduceEqDiff, eq_self, List.length_cons, List.length_nil, List.length_append] <;> omega))) mw10_leastBy ml10_312 [6, 0, 1, 2] rfl 6 10 rfl rfl rfl ⟨Nat.le_of_ble_eq_true rfl, Nat.le_of_ble_eq_true rfl⟩ rfl (rest := [.int (iZ ((49 * kk) + jj)), .ref (ad 33)]) rfl (Nat.le_of_ble_eq_true rfl) d10_layDay_164 ⟨Nat.le_of_ble_eq_true rfl, Nat.le_of_ble_eq_true rfl⟩ (fun r hr => ?_)
                  obtain ⟨v18, rfl, hq17⟩ := hr
                  try simp only [upS, reduceIte, Nat.reduceEqDiff, eq_self] at hq17
                  have hlw := hq17
                  refine j_iast G 5 rfl (by omega) d10_layDay_167 ?_
                  refine j_iinc G d10_layDay_168 0 rfl (by decide) rfl ?_
                  refine j_goto (tgt := 99) G d10_layDay_171 (by decide) ?_
                  exact ih99 (jj + 1) (upI g2 ((49 * kk) + jj) v18) (by omega) (by first | assumption | omega) (fun s j h1 h2 h3 h4 h5 h6 => by unfold upI; rw [if_neg (by omega)]; exact hgo s j h1 h2 h3 h4 h5 h6) (fun j h1 h2 h3 h4 => if hj : j = jj then (by subst hj; unfold upI; rw [if_pos rfl]; first | (exfalso; omega) | (rw [hdg] at hlw; exact isL_lF hlw)) else (by unfold upI; rw [if_neg (by omega)]; exact hgi j h1 (by omega) h3 h4))
                ·
                  refine j_bipush G d10_layDay_142 rfl ?_
                  refine j_goto (tgt := 167) G d10_layDay_144 (by decide) ?_
                  refine j_iast G 5 rfl (by omega) d10_layDay_167 ?_
                  refine j_iinc G d10_layDay_168 0 rfl (by decide) rfl ?_
                  refine j_goto (tgt := 99) G d10_layDay_171 (by decide) ?_
                  exact ih99 (jj + 1) (upI g2 ((49 * kk) + jj) (-5)) (by omega) (by first | assumption | omega) (fun s j h1 h2 h3 h4 h5 h6 => by unfold upI; rw [if_neg (by omega)]; exact hgo s j h1 h2 h3 h4 h5 h6) (fun j h1 h2 h3 h4 => if hj : j = jj then (by subst hj; unfold upI; rw [if_pos rfl]; first | (exfalso; omega) | (rw [hdg] at hlw; exact isL_lF hlw)) else (by unfold upI; rw [if_neg (by omega)]; exact hgi j h1 (by omega) h3 h4))
        exact lp99 _ 0 g (Nat.lt_succ_self _) (by first | assumption | omega) hg (fun j h1 h2 => by omega)
  exact lp63 _ 0 pl spr le (Nat.lt_succ_self _) (by first | assumption | omega) hpl (fun s h1 h2 => by omega) (fun s j h1 h2 => by omega)
theorem if_lt' {x : Int} : (if 8 < x then x - 8 else 0) = (if x ≤ 8 then 0 else x - 8) := by split <;> split <;> omega
theorem comes_w {K : Dy} {step st d u x : Int} {le : Int → Int} (hst : 0 ≤ step ∧ step ≤ 11) (h : ∀ d u, 0 ≤ d → d ≤ K.se → 0 ≤ u → u ≤ K.se → le (49 * step + 7 * d + u) = K.lw step d u) (h0 : 0 ≤ d ∧ d ≤ K.se) (h1 : 0 ≤ u ∧ u ≤ K.se) (hd : d = dDn K step st) (hu : u = dUp K step st) (hx : x = if d + u ≠ 0 then le (49 * step + 7 * d + u) else -5) : x = dW K step st := by
  unfold dW
  rw [← hd, ← hu, hx, h d u h0.1 h0.2 h1.1 h1.2]
  by_cases hz : d + u = 0
  · rw [if_neg (by omega), if_pos hz]
  · rw [if_pos hz, if_neg hz]
theorem d10_comesIn_0 : decode c10_comesIn 0 = .ok (.aload_n 0, 1) := by decide +kernel
theorem d10_comesIn_1 : decode c10_comesIn 1 = .ok (.aload_n 0, 1) := by decide +kernel
theorem d10_comesIn_2 : decode c10_comesIn 2 = .ok (.getfield 103, 3) := by decide +kernel
theorem d10_comesIn_5 : decode c10_comesIn 5 = .ok (.iload_n 2, 1) := by decide +kernel
theorem d10_comesIn_6 : decode c10_comesIn 6 = .ok (.bipush 81, 2) := by decide +kernel
theorem d10_comesIn_8 : decode c10_comesIn 8 = .ok (.idiv, 1) := by decide +kernel
theorem d10_comesIn_9 : decode c10_comesIn 9 = .ok (.aload_n 0, 1) := by decide +kernel
theorem d10_comesIn_10 : decode c10_comesIn 10 = .ok (.getfield 109, 3) := by decide +kernel
theorem d10_comesIn_13 : decode c10_comesIn 13 = .ok (.iload_n 1, 1) := by decide +kernel
theorem d10_comesIn_14 : decode c10_comesIn 14 = .ok (.iaload, 1) := by decide +kernel
theorem d10_comesIn_15 : decode c10_comesIn 15 = .ok (.iadd, 1) := by decide +kernel
theorem d10_comesIn_16 : decode c10_comesIn 16 = .ok (.invokevirtual 276, 3) := by decide +kernel
theorem d10_comesIn_19 : decode c10_comesIn 19 = .ok (.istore_n 3, 1) := by decide +kernel
theorem d10_comesIn_20 : decode c10_comesIn 20 = .ok (.iload_n 2, 1) := by decide +kernel
theorem d10_comesIn_21 : decode c10_comesIn 21 = .ok (.bipush 9, 2) := by decide +kernel
theorem d10_comesIn_23 : decode c10_comesIn 23 = .ok (.idiv, 1) := by decide +kernel
theorem d10_comesIn_24 : decode c10_comesIn 24 = .ok (.bipush 9, 2) := by decide +kernel
theorem d10_comesIn_26 : decode c10_comesIn 26 = .ok (.irem, 1) := by decide +kernel
theorem d10_comesIn_27 : decode c10_comesIn 27 = .ok (.aload_n 0, 1) := by decide +kernel
theorem d10_comesIn_28 : decode c10_comesIn 28 = .ok (.getfield 79, 3) := by decide +kernel
theorem d10_comesIn_31 : decode c10_comesIn 31 = .ok (.iload_n 1, 1) := by decide +kernel
theorem d10_comesIn_32 : decode c10_comesIn 32 = .ok (.iaload, 1) := by decide +kernel
theorem d10_comesIn_33 : decode c10_comesIn 33 = .ok (.iadd, 1) := by decide +kernel
theorem d10_comesIn_34 : decode c10_comesIn 34 = .ok (.istore 4, 2) := by decide +kernel
theorem d10_comesIn_36 : decode c10_comesIn 36 = .ok (.iload_n 2, 1) := by decide +kernel
theorem d10_comesIn_37 : decode c10_comesIn 37 = .ok (.bipush 9, 2) := by decide +kernel
theorem d10_comesIn_39 : decode c10_comesIn 39 = .ok (.irem, 1) := by decide +kernel
theorem d10_comesIn_40 : decode c10_comesIn 40 = .ok (.aload_n 0, 1) := by decide +kernel
theorem d10_comesIn_41 : decode c10_comesIn 41 = .ok (.bipush 6, 2) := by decide +kernel
theorem d10_comesIn_43 : decode c10_comesIn 43 = .ok (.aload_n 0, 1) := by decide +kernel
theorem d10_comesIn_44 : decode c10_comesIn 44 = .ok (.getfield 106, 3) := by decide +kernel
theorem d10_comesIn_47 : decode c10_comesIn 47 = .ok (.aload_n 0, 1) := by decide +kernel
theorem d10_comesIn_48 : decode c10_comesIn 48 = .ok (.getfield 79, 3) := by decide +kernel
theorem d10_comesIn_51 : decode c10_comesIn 51 = .ok (.bipush 12, 2) := by decide +kernel
theorem d10_comesIn_53 : decode c10_comesIn 53 = .ok (.iload_n 1, 1) := by decide +kernel
theorem d10_comesIn_54 : decode c10_comesIn 54 = .ok (.iadd, 1) := by decide +kernel
theorem d10_comesIn_55 : decode c10_comesIn 55 = .ok (.iaload, 1) := by decide +kernel
theorem d10_comesIn_56 : decode c10_comesIn 56 = .ok (.imul, 1) := by decide +kernel
theorem d10_comesIn_57 : decode c10_comesIn 57 = .ok (.invokevirtual 276, 3) := by decide +kernel
theorem d10_comesIn_60 : decode c10_comesIn 60 = .ok (.iadd, 1) := by decide +kernel
theorem d10_comesIn_61 : decode c10_comesIn 61 = .ok (.istore 5, 2) := by decide +kernel
theorem d10_comesIn_63 : decode c10_comesIn 63 = .ok (.aload_n 0, 1) := by decide +kernel
theorem d10_comesIn_64 : decode c10_comesIn 64 = .ok (.iload 4, 2) := by decide +kernel
theorem d10_comesIn_66 : decode c10_comesIn 66 = .ok (.bipush 8, 2) := by decide +kernel
theorem d10_comesIn_68 : decode c10_comesIn 68 = .ok (.if_icmp .le 11, 3) := by decide +kernel
theorem d10_comesIn_71 : decode c10_comesIn 71 = .ok (.iload 4, 2) := by decide +kernel
theorem d10_comesIn_73 : decode c10_comesIn 73 = .ok (.bipush 8, 2) := by decide +kernel
theorem d10_comesIn_75 : decode c10_comesIn 75 = .ok (.isub, 1) := by decide +kernel
theorem d10_comesIn_76 : decode c10_comesIn 76 = .ok (.goto 4, 3) := by decide +kernel
theorem d10_comesIn_79 : decode c10_comesIn 79 = .ok (.iconst 0, 1) := by decide +kernel
theorem d10_comesIn_80 : decode c10_comesIn 80 = .ok (.iload 5, 2) := by decide +kernel
theorem d10_comesIn_82 : decode c10_comesIn 82 = .ok (.bipush 8, 2) := by decide +kernel
theorem d10_comesIn_84 : decode c10_comesIn 84 = .ok (.if_icmp .le 11, 3) := by decide +kernel
theorem d10_comesIn_87 : decode c10_comesIn 87 = .ok (.iload 5, 2) := by decide +kernel
theorem d10_comesIn_89 : decode c10_comesIn 89 = .ok (.bipush 8, 2) := by decide +kernel
theorem d10_comesIn_91 : decode c10_comesIn 91 = .ok (.isub, 1) := by decide +kernel
theorem d10_comesIn_92 : decode c10_comesIn 92 = .ok (.goto 4, 3) := by decide +kernel
theorem d10_comesIn_95 : decode c10_comesIn 95 = .ok (.iconst 0, 1) := by decide +kernel
theorem d10_comesIn_96 : decode c10_comesIn 96 = .ok (.iadd, 1) := by decide +kernel
theorem d10_comesIn_97 : decode c10_comesIn 97 = .ok (.putfield 118, 3) := by decide +kernel
theorem d10_comesIn_100 : decode c10_comesIn 100 = .ok (.aload_n 0, 1) := by decide +kernel
theorem d10_comesIn_101 : decode c10_comesIn 101 = .ok (.bipush 8, 2) := by decide +kernel
theorem d10_comesIn_103 : decode c10_comesIn 103 = .ok (.iload 4, 2) := by decide +kernel
theorem d10_comesIn_105 : decode c10_comesIn 105 = .ok (.invokevirtual 276, 3) := by decide +kernel
theorem d10_comesIn_108 : decode c10_comesIn 108 = .ok (.istore 4, 2) := by decide +kernel
theorem d10_comesIn_110 : decode c10_comesIn 110 = .ok (.aload_n 0, 1) := by decide +kernel
theorem d10_comesIn_111 : decode c10_comesIn 111 = .ok (.bipush 8, 2) := by decide +kernel
theorem d10_comesIn_113 : decode c10_comesIn 113 = .ok (.iload 5, 2) := by decide +kernel
theorem d10_comesIn_115 : decode c10_comesIn 115 = .ok (.invokevirtual 276, 3) := by decide +kernel
theorem d10_comesIn_118 : decode c10_comesIn 118 = .ok (.istore 5, 2) := by decide +kernel
theorem d10_comesIn_120 : decode c10_comesIn 120 = .ok (.aload_n 0, 1) := by decide +kernel
theorem d10_comesIn_121 : decode c10_comesIn 121 = .ok (.bipush 81, 2) := by decide +kernel
theorem d10_comesIn_123 : decode c10_comesIn 123 = .ok (.iload_n 3, 1) := by decide +kernel
theorem d10_comesIn_124 : decode c10_comesIn 124 = .ok (.imul, 1) := by decide +kernel
theorem d10_comesIn_125 : decode c10_comesIn 125 = .ok (.bipush 9, 2) := by decide +kernel
theorem d10_comesIn_127 : decode c10_comesIn 127 = .ok (.iload 4, 2) := by decide +kernel
theorem d10_comesIn_129 : decode c10_comesIn 129 = .ok (.imul, 1) := by decide +kernel
theorem d10_comesIn_130 : decode c10_comesIn 130 = .ok (.iadd, 1) := by decide +kernel
theorem d10_comesIn_131 : decode c10_comesIn 131 = .ok (.iload 5, 2) := by decide +kernel
theorem d10_comesIn_133 : decode c10_comesIn 133 = .ok (.iadd, 1) := by decide +kernel
theorem d10_comesIn_134 : decode c10_comesIn 134 = .ok (.putfield 115, 3) := by decide +kernel
theorem d10_comesIn_137 : decode c10_comesIn 137 = .ok (.aload_n 0, 1) := by decide +kernel
theorem d10_comesIn_138 : decode c10_comesIn 138 = .ok (.aload_n 0, 1) := by decide +kernel
theorem d10_comesIn_139 : decode c10_comesIn 139 = .ok (.iload 4, 2) := by decide +kernel
theorem d10_comesIn_141 : decode c10_comesIn 141 = .ok (.aload_n 0, 1) := by decide +kernel
theorem d10_comesIn_142 : decode c10_comesIn 142 = .ok (.getfield 100, 3) := by decide +kernel
theorem d10_comesIn_145 : decode c10_comesIn 145 = .ok (.invokevirtual 276, 3) := by decide +kernel
theorem d10_comesIn_148 : decode c10_comesIn 148 = .ok (.putfield 121, 3) := by decide +kernel
theorem d10_comesIn_151 : decode c10_comesIn 151 = .ok (.aload_n 0, 1) := by decide +kernel
theorem d10_comesIn_152 : decode c10_comesIn 152 = .ok (.aload_n 0, 1) := by decide +kernel
theorem d10_comesIn_153 : decode c10_comesIn 153 = .ok (.iload 5, 2) := by decide +kernel
theorem d10_comesIn_155 : decode c10_comesIn 155 = .ok (.aload_n 0, 1) := by decide +kernel
theorem d10_comesIn_156 : decode c10_comesIn 156 = .ok (.getfield 100, 3) := by decide +kernel
theorem d10_comesIn_159 : decode c10_comesIn 159 = .ok (.invokevirtual 276, 3) := by decide +kernel
theorem d10_comesIn_162 : decode c10_comesIn 162 = .ok (.putfield 124, 3) := by decide +kernel
theorem d10_comesIn_165 : decode c10_comesIn 165 = .ok (.aload_n 0, 1) := by decide +kernel
theorem d10_comesIn_166 : decode c10_comesIn 166 = .ok (.aload_n 0, 1) := by decide +kernel
theorem d10_comesIn_167 : decode c10_comesIn 167 = .ok (.getfield 121, 3) := by decide +kernel
theorem d10_comesIn_170 : decode c10_comesIn 170 = .ok (.aload_n 0, 1) := by decide +kernel
theorem d10_comesIn_171 : decode c10_comesIn 171 = .ok (.getfield 124, 3) := by decide +kernel
theorem d10_comesIn_174 : decode c10_comesIn 174 = .ok (.iadd, 1) := by decide +kernel
theorem d10_comesIn_175 : decode c10_comesIn 175 = .ok (.ifCond .ne 8, 3) := by decide +kernel
theorem d10_comesIn_178 : decode c10_comesIn 178 = .ok (.bipush (-5), 2) := by decide +kernel
theorem d10_comesIn_180 : decode c10_comesIn 180 = .ok (.goto 25, 3) := by decide +kernel
theorem d10_comesIn_183 : decode c10_comesIn 183 = .ok (.aload_n 0, 1) := by decide +kernel
theorem d10_comesIn_184 : decode c10_comesIn 184 = .ok (.getfield 112, 3) := by decide +kernel
theorem d10_comesIn_187 : decode c10_comesIn 187 = .ok (.bipush 49, 2) := by decide +kernel
theorem d10_comesIn_189 : decode c10_comesIn 189 = .ok (.iload_n 1, 1) := by decide +kernel
theorem d10_comesIn_190 : decode c10_comesIn 190 = .ok (.imul, 1) := by decide +kernel
theorem d10_comesIn_191 : decode c10_comesIn 191 = .ok (.bipush 7, 2) := by decide +kernel
theorem d10_comesIn_193 : decode c10_comesIn 193 = .ok (.aload_n 0, 1) := by decide +kernel
theorem d10_comesIn_194 : decode c10_comesIn 194 = .ok (.getfield 121, 3) := by decide +kernel
theorem d10_comesIn_197 : decode c10_comesIn 197 = .ok (.imul, 1) := by decide +kernel
theorem d10_comesIn_198 : decode c10_comesIn 198 = .ok (.iadd, 1) := by decide +kernel
theorem d10_comesIn_199 : decode c10_comesIn 199 = .ok (.aload_n 0, 1) := by decide +kernel
theorem d10_comesIn_200 : decode c10_comesIn 200 = .ok (.getfield 124, 3) := by decide +kernel
theorem d10_comesIn_203 : decode c10_comesIn 203 = .ok (.iadd, 1) := by decide +kernel
theorem d10_comesIn_204 : decode c10_comesIn 204 = .ok (.iaload, 1) := by decide +kernel
theorem d10_comesIn_205 : decode c10_comesIn 205 = .ok (.putfield 127, 3) := by decide +kernel
theorem d10_comesIn_208 : decode c10_comesIn 208 = .ok (.return_, 1) := by decide +kernel
theorem mw10_comesIn : MV y10_comesIn c10_comesIn 6 none 2 := ⟨cd10_comesIn, ini10, na10_comesIn, im10_comesIn, se10_comesIn⟩
set_option maxHeartbeats 4000000 in
set_option maxRecDepth 100000 in
theorem k10_comesIn (l : Launch) (E : En) (mo : Nat) (ad : Nat → Nat) (S : Nat → Int) (co : Int → Int) (spr : Int → Int) (le : Int → Int) (K : Dy) (step : Int) (st : Int) (hly : Lay K (S 28) (S 29) (S 30) (S 31) spr le co) (hst : 0 ≤ step ∧ step ≤ 11) (hs2 : 0 ≤ st ∧ st ≤ 3320) : Cm l E y10_comesIn c10_comesIn 6 none { frames := 1, cells := 0, slots := 0, locals := 22 } [.ref mo, .int (iZ step), .int (iZ st)] [(mo, mO ad S), (ad 22, aInt E 24 co), (ad 32, aInt E 12 spr), (ad 33, aInt E 588 le)] (fun r ws => ∃ (nw : Int), ∃ (lo : Int), ∃ (dn : Int), ∃ (up : Int), ∃ (wa : Int), r = none ∧ ws = [(mo, mO ad (upS (upS (upS (upS (upS S 34 nw) 35 lo) 36 dn) 37 up) 38 wa)), (ad 22, aInt E 24 co), (ad 32, aInt E 12 spr), (ad 33, aInt E 588 le)] ∧ (nw = dNow K step st ∧ lo = dLost K step st ∧ dn = dDn K step st ∧ up = dUp K step st ∧ wa = dW K step st)) := by
  refine Cm.of (by decide +kernel) (Nat.le_of_ble_eq_true rfl) (fun Γ A hl hargs hin G F => ?_)
  subst hl
  obtain ⟨hy1, hy2, hy3, hy4, hok, hy5⟩ := hly
  obtain ⟨hz1, hz2, hz3, hz4, hz5⟩ := hy5 step hst.1 hst.2
  have hdR := dR hok hst hs2
  obtain ⟨ho1, ho2, ho3, ho4⟩ := hok
  obtain ⟨hq1, hq2, hq3, hq4⟩ := ho4 step hst.1 hst.2
  have hml := mulb (a := S 31) (b := co (12 + step)) (A := 6) (B := 6) (by omega) (by omega) (by omega) (by omega)
  have hmn : 0 ≤ S 31 * co (12 + step) := Int.mul_nonneg (by omega) hz3.1
  refine j_aload_n G 0 rfl d10_comesIn_0 ?_
  refine j_aload_n G 0 rfl d10_comesIn_1 ?_
  refine j_get G 0 10 30 in10 fl10_103 d10_comesIn_2 rfl rfl (by decide) (v := .int (iZ (S 30))) rfl rfl ?_
  refine j_iload_n G 2 rfl d10_comesIn_5 ?_
  refine j_bipush G d10_comesIn_6 rfl ?_
  refine j_idiv G d10_comesIn_8 (by omega) ?_
  refine j_aload_n G 0 rfl d10_comesIn_9 ?_
  refine j_get G 0 10 32 in10 fl10_109 d10_comesIn_10 rfl rfl (by decide) (v := .ref (ad 32)) rfl rfl ?_
  refine j_iload_n G 1 rfl d10_comesIn_13 ?_
  refine j_iald G 2 rfl (by omega) d10_comesIn_14 ?_
  refine j_iadd G d10_comesIn_15 ?_
  refine j_VP G (k10_min (xl Γ) E mo (S 30) ((st / 81) + (spr step)) (by first | assumption | omega | (simp only [upS, reduceIte, Nat.reduceEqDiff, eq_self, List.length_cons, List.length_nil, List.length_append] <;> omega)) (by first | assumption | omega | (simp only [upS, reduceIte, Nat.reduceEqDiff, eq_self, List.length_cons, List.length_nil, List.length_append] <;> omega))) mw10_min ml10_276 [] rfl 0 10 rfl rfl rfl ⟨Nat.le_of_ble_eq_true rfl, Nat.le_of_ble_eq_true rfl⟩ rfl (rest := []) rfl (Nat.le_of_ble_eq_true rfl) d10_comesIn_16 ⟨Nat.le_of_ble_eq_true rfl, Nat.le_of_ble_eq_true rfl⟩ (fun r hr => ?_)
  obtain ⟨_, rfl, rfl⟩ := hr
  refine j_nm (fun x2 ex2 => ?_)
  refine j_istore_n G d10_comesIn_19 (by decide) rfl ?_
  refine j_iload_n G 3 rfl d10_comesIn_20 ?_
  refine j_bipush G d10_comesIn_21 rfl ?_
  refine j_idiv G d10_comesIn_23 (by omega) ?_
  refine j_bipush G d10_comesIn_24 rfl ?_
  refine j_irem G d10_comesIn_26 (by omega) ?_
  refine j_aload_n G 1 rfl d10_comesIn_27 ?_
  refine j_get G 0 10 22 in10 fl10_79 d10_comesIn_28 rfl rfl (by decide) (v := .ref (ad 22)) rfl rfl ?_
  refine j_iload_n G 2 rfl d10_comesIn_31 ?_
  refine j_iald G 1 rfl (by omega) d10_comesIn_32 ?_
  refine j_iadd G d10_comesIn_33 ?_
  refine j_istore G d10_comesIn_34 (by decide) rfl ?_
  refine j_iload_n G 4 rfl d10_comesIn_36 ?_
  refine j_bipush G d10_comesIn_37 rfl ?_
  refine j_irem G d10_comesIn_39 (by omega) ?_
  refine j_aload_n G 2 rfl d10_comesIn_40 ?_
  refine j_bipush G d10_comesIn_41 rfl ?_
  refine j_aload_n G 2 rfl d10_comesIn_43 ?_
  refine j_get G 0 10 31 in10 fl10_106 d10_comesIn_44 rfl rfl (by decide) (v := .int (iZ (S 31))) rfl rfl ?_
  refine j_aload_n G 2 rfl d10_comesIn_47 ?_
  refine j_get G 0 10 22 in10 fl10_79 d10_comesIn_48 rfl rfl (by decide) (v := .ref (ad 22)) rfl rfl ?_
  refine j_bipush G d10_comesIn_51 rfl ?_
  refine j_iload_n G 3 rfl d10_comesIn_53 ?_
  refine j_iadd G d10_comesIn_54 ?_
  refine j_iald G 1 rfl (by omega) d10_comesIn_55 ?_
  refine j_imul G d10_comesIn_56 ?_
  refine j_VP G (k10_min (xl Γ) E mo 6 ((S 31) * (co (12 + step))) (by first | assumption | omega | (simp only [upS, reduceIte, Nat.reduceEqDiff, eq_self, List.length_cons, List.length_nil, List.length_append] <;> omega)) (by first | assumption | omega | (simp only [upS, reduceIte, Nat.reduceEqDiff, eq_self, List.length_cons, List.length_nil, List.length_append] <;> omega))) mw10_min ml10_276 [] rfl 0 10 rfl rfl rfl ⟨Nat.le_of_ble_eq_true rfl, Nat.le_of_ble_eq_true rfl⟩ rfl (rest := [.int (iZ (st % 9))]) rfl (Nat.le_of_ble_eq_true rfl) d10_comesIn_57 ⟨Nat.le_of_ble_eq_true rfl, Nat.le_of_ble_eq_true rfl⟩ (fun r hr => ?_)
  obtain ⟨_, rfl, rfl⟩ := hr
  refine j_iadd G d10_comesIn_60 ?_
  refine j_nm (fun x4 ex4 => ?_)
  refine j_istore G d10_comesIn_61 (by decide) rfl ?_
  refine j_aload_n G 3 rfl d10_comesIn_63 ?_
  refine j_iload G 1 rfl d10_comesIn_64 ?_
  refine j_bipush G d10_comesIn_66 rfl ?_
  have mg68 : ∀ x5 : Int, x5 = (if ((st / 9) % 9) + (co step) ≤ 8 then 0 else ((((st / 9) % 9) + (co step)) - 8)) → J E 6 Γ (some A) 0 0 [(mo, mO ad S), (ad 22, aInt E 24 co), (ad 32, aInt E 12 spr), (ad 33, aInt E 588 le)] 80 [(5, .int (iZ x4)), (4, .int (iZ (((st / 9) % 9) + (co step)))), (3, .int (iZ x2)), (0, .ref mo), (1, .int (iZ step)), (2, .int (iZ st))] ([.int (iZ x5), .ref mo]) := by
    intro x5 ex5
    refine j_iload G 0 rfl d10_comesIn_80 ?_
    refine j_bipush G d10_comesIn_82 rfl ?_
    have mg84 : ∀ x6 : Int, x6 = (if x4 ≤ 8 then 0 else (x4 - 8)) → J E 6 Γ (some A) 0 0 [(mo, mO ad S), (ad 22, aInt E 24 co), (ad 32, aInt E 12 spr), (ad 33, aInt E 588 le)] 96 [(5, .int (iZ x4)), (4, .int (iZ (((st / 9) % 9) + (co step)))), (3, .int (iZ x2)), (0, .ref mo), (1, .int (iZ step)), (2, .int (iZ st))] ([.int (iZ x6), .int (iZ x5), .ref mo]) := by
      intro x6 ex6
      refine j_iadd G d10_comesIn_96 ?_
      refine j_put G 0 10 35 in10 tyok10 nm10 fl10_118 d10_comesIn_97 rfl rfl (by decide) ⟨rfl, rfl⟩ rfl rfl (Nat.le_of_ble_eq_true rfl) (e := mO ad (upS S 35 (x5 + x6))) rfl ?_
      refine j_aload_n G 3 rfl d10_comesIn_100 ?_
      refine j_bipush G d10_comesIn_101 rfl ?_
      refine j_iload G 1 rfl d10_comesIn_103 ?_
      refine j_VP G (k10_min (xl Γ) E mo 8 (((st / 9) % 9) + (co step)) (by first | assumption | omega | (simp only [upS, reduceIte, Nat.reduceEqDiff, eq_self, List.length_cons, List.length_nil, List.length_append] <;> omega)) (by first | assumption | omega | (simp only [upS, reduceIte, Nat.reduceEqDiff, eq_self, List.length_cons, List.length_nil, List.length_append] <;> omega))) mw10_min ml10_276 [] rfl 0 10 rfl rfl rfl ⟨Nat.le_of_ble_eq_true rfl, Nat.le_of_ble_eq_true rfl⟩ rfl (rest := []) rfl (Nat.le_of_ble_eq_true rfl) d10_comesIn_105 ⟨Nat.le_of_ble_eq_true rfl, Nat.le_of_ble_eq_true rfl⟩ (fun r hr => ?_)
      obtain ⟨_, rfl, rfl⟩ := hr
      refine j_istore G d10_comesIn_108 (by decide) rfl ?_
      refine j_aload_n G 3 rfl d10_comesIn_110 ?_
      refine j_bipush G d10_comesIn_111 rfl ?_
      refine j_iload G 1 rfl d10_comesIn_113 ?_
      refine j_VP G (k10_min (xl Γ) E mo 8 x4 (by first | assumption | omega | (simp only [upS, reduceIte, Nat.reduceEqDiff, eq_self, List.length_cons, List.length_nil, List.length_append] <;> omega)) (by first | assumption | omega | (simp only [upS, reduceIte, Nat.reduceEqDiff, eq_self, List.length_cons, List.length_nil, List.length_append] <;> omega))) mw10_min ml10_276 [] rfl 0 10 rfl rfl rfl ⟨Nat.le_of_ble_eq_true rfl, Nat.le_of_ble_eq_true rfl⟩ rfl (rest := []) rfl (Nat.le_of_ble_eq_true rfl) d10_comesIn_115 ⟨Nat.le_of_ble_eq_true rfl, Nat.le_of_ble_eq_true rfl⟩ (fun r hr => ?_)
      obtain ⟨_, rfl, rfl⟩ := hr
      refine j_istore G d10_comesIn_118 (by decide) rfl ?_
      refine j_aload_n G 3 rfl d10_comesIn_120 ?_
      refine j_bipush G d10_comesIn_121 rfl ?_
      refine j_iload_n G 2 rfl d10_comesIn_123 ?_
      refine j_imul G d10_comesIn_124 ?_
      refine j_bipush G d10_comesIn_125 rfl ?_
      refine j_iload G 1 rfl d10_comesIn_127 ?_
      refine j_imul G d10_comesIn_129 ?_
      refine j_iadd G d10_comesIn_130 ?_
      refine j_iload G 0 rfl d10_comesIn_131 ?_
      refine j_iadd G d10_comesIn_133 ?_
      refine j_nm (fun x9 ex9 => ?_)
      refine j_put G 0 10 34 in10 tyok10 nm10 fl10_115 d10_comesIn_134 rfl rfl (by decide) ⟨rfl, rfl⟩ rfl rfl (Nat.le_of_ble_eq_true rfl) (e := mO ad (upS (upS S 35 (x5 + x6)) 34 x9)) rfl ?_
      refine j_aload_n G 3 rfl d10_comesIn_137 ?_
      refine j_aload_n G 3 rfl d10_comesIn_138 ?_
      refine j_iload G 1 rfl d10_comesIn_139 ?_
      refine j_aload_n G 3 rfl d10_comesIn_141 ?_
      refine j_get G 0 10 29 in10 fl10_100 d10_comesIn_142 rfl rfl (by decide) (v := .int (iZ (S 29))) rfl rfl ?_
      refine j_VP G (k10_min (xl Γ) E mo (min 8 (((st / 9) % 9) + (co step))) (S 29) (by first | assumption | omega | (simp only [upS, reduceIte, Nat.reduceEqDiff, eq_self, List.length_cons, List.length_nil, List.length_append] <;> omega)) (by first | assumption | omega | (simp only [upS, reduceIte, Nat.reduceEqDiff, eq_self, List.length_cons, List.length_nil, List.length_append] <;> omega))) mw10_min ml10_276 [] rfl 0 10 rfl rfl rfl ⟨Nat.le_of_ble_eq_true rfl, Nat.le_of_ble_eq_true rfl⟩ rfl (rest := [.ref mo]) rfl (Nat.le_of_ble_eq_true rfl) d10_comesIn_145 ⟨Nat.le_of_ble_eq_true rfl, Nat.le_of_ble_eq_true rfl⟩ (fun r hr => ?_)
      obtain ⟨_, rfl, rfl⟩ := hr
      refine j_nm (fun x11 ex11 => ?_)
      refine j_put G 0 10 36 in10 tyok10 nm10 fl10_121 d10_comesIn_148 rfl rfl (by decide) ⟨rfl, rfl⟩ rfl rfl (Nat.le_of_ble_eq_true rfl) (e := mO ad (upS (upS (upS S 35 (x5 + x6)) 34 x9) 36 x11)) rfl ?_
      refine j_aload_n G 3 rfl d10_comesIn_151 ?_
      refine j_aload_n G 3 rfl d10_comesIn_152 ?_
      refine j_iload G 0 rfl d10_comesIn_153 ?_
      refine j_aload_n G 3 rfl d10_comesIn_155 ?_
      refine j_get G 0 10 29 in10 fl10_100 d10_comesIn_156 rfl rfl (by decide) (v := .int (iZ (S 29))) rfl rfl ?_
      refine j_VP G (k10_min (xl Γ) E mo (min 8 x4) (S 29) (by first | assumption | omega | (simp only [upS, reduceIte, Nat.reduceEqDiff, eq_self, List.length_cons, List.length_nil, List.length_append] <;> omega)) (by first | assumption | omega | (simp only [upS, reduceIte, Nat.reduceEqDiff, eq_self, List.length_cons, List.length_nil, List.length_append] <;> omega))) mw10_min ml10_276 [] rfl 0 10 rfl rfl rfl ⟨Nat.le_of_ble_eq_true rfl, Nat.le_of_ble_eq_true rfl⟩ rfl (rest := [.ref mo]) rfl (Nat.le_of_ble_eq_true rfl) d10_comesIn_159 ⟨Nat.le_of_ble_eq_true rfl, Nat.le_of_ble_eq_true rfl⟩ (fun r hr => ?_)
      obtain ⟨_, rfl, rfl⟩ := hr
      refine j_put G 0 10 37 in10 tyok10 nm10 fl10_124 d10_comesIn_162 rfl rfl (by decide) ⟨rfl, rfl⟩ rfl rfl (Nat.le_of_ble_eq_true rfl) (e := mO ad (upS (upS (upS (upS S 35 (x5 + x6)) 34 x9) 36 x11) 37 (min (min 8 x4) (S 29)))) rfl ?_
      refine j_aload_n G 3 rfl d10_comesIn_165 ?_
      refine j_aload_n G 3 rfl d10_comesIn_166 ?_
      refine j_get G 0 10 36 in10 fl10_121 d10_comesIn_167 rfl rfl (by decide) (v := .int (iZ x11)) rfl rfl ?_
      refine j_aload_n G 3 rfl d10_comesIn_170 ?_
      refine j_get G 0 10 37 in10 fl10_124 d10_comesIn_171 rfl rfl (by decide) (v := .int (iZ (min (min 8 x4) (S 29)))) rfl rfl ?_
      refine j_iadd G d10_comesIn_174 ?_
      have mg175 : ∀ x13 : Int, x13 = (if x11 + (min (min 8 x4) (S 29)) ≠ 0 then (le (((49 * step) + (7 * x11)) + (min (min 8 x4) (S 29)))) else (-5)) → J E 6 Γ (some A) 0 0 [(mo, mO ad (upS (upS (upS (upS S 35 (x5 + x6)) 34 x9) 36 x11) 37 (min (min 8 x4) (S 29)))), (ad 22, aInt E 24 co), (ad 32, aInt E 12 spr), (ad 33, aInt E 588 le)] 205 [(5, .int (iZ (min 8 x4))), (4, .int (iZ (min 8 (((st / 9) % 9) + (co step))))), (3, .int (iZ x2)), (0, .ref mo), (1, .int (iZ step)), (2, .int (iZ st))] ([.int (iZ x13), .ref mo]) := by
        intro x13 ex13
        refine j_put G 0 10 38 in10 tyok10 nm10 fl10_127 d10_comesIn_205 rfl rfl (by decide) ⟨rfl, rfl⟩ rfl rfl (Nat.le_of_ble_eq_true rfl) (e := mO ad (upS (upS (upS (upS (upS S 35 (x5 + x6)) 34 x9) 36 x11) 37 (min (min 8 x4) (S 29))) 38 x13)) rfl ?_
        exact j_vret G F d10_comesIn_208 ⟨x9, (x5 + x6), x11, (min (min 8 x4) (S 29)), x13, rfl, rfl, (by exact ⟨by unfold dNow dF dA dB; omega, by unfold dLost; rw [if_lt', if_lt']; omega, by unfold dDn dA; omega, by unfold dUp dB; omega, comes_w (d := min (min 8 (st / 9 % 9 + co step)) (S 29)) (u := min (min 8 (st % 9 + min 6 (S 31 * co (12 + step)))) (S 29)) hst hz5 (by omega) (by omega) (by unfold dDn dA; omega) (by unfold dUp dB; omega) (by subst_vars; rfl)⟩)⟩
      refine j_if_ne (tgt := 183) G d10_comesIn_175 (by decide) (by omega) (fun h14 => ?_) (fun h14 => ?_)
      ·
        refine j_aload_n G 3 rfl d10_comesIn_183 ?_
        refine j_get G 0 10 33 in10 fl10_112 d10_comesIn_184 rfl rfl (by decide) (v := .ref (ad 33)) rfl rfl ?_
        refine j_bipush G d10_comesIn_187 rfl ?_
        refine j_iload_n G 4 rfl d10_comesIn_189 ?_
        refine j_imul G d10_comesIn_190 ?_
        refine j_bipush G d10_comesIn_191 rfl ?_
        refine j_aload_n G 3 rfl d10_comesIn_193 ?_
        refine j_get G 0 10 36 in10 fl10_121 d10_comesIn_194 rfl rfl (by decide) (v := .int (iZ x11)) rfl rfl ?_
        refine j_imul G d10_comesIn_197 ?_
        refine j_iadd G d10_comesIn_198 ?_
        refine j_aload_n G 3 rfl d10_comesIn_199 ?_
        refine j_get G 0 10 37 in10 fl10_124 d10_comesIn_200 rfl rfl (by decide) (v := .int (iZ (min (min 8 x4) (S 29)))) rfl rfl ?_
        refine j_iadd G d10_comesIn_203 ?_
        refine j_iald G 3 rfl (by unfold dDn dUp dA dB at hdR; omega) d10_comesIn_204 ?_
        refine j_eq (ws' := [(mo, mO ad (upS (upS (upS (upS S 35 (x5 + x6)) 34 x9) 36 x11) 37 (min (min 8 x4) (S 29)))), (ad 22, aInt E 24 co), (ad 32, aInt E 12 spr), (ad 33, aInt E 588 le)]) (ls' := [(5, .int (iZ (min 8 x4))), (4, .int (iZ (min 8 (((st / 9) % 9) + (co step))))), (3, .int (iZ x2)), (0, .ref mo), (1, .int (iZ step)), (2, .int (iZ st))]) rfl rfl rfl ?_
        exact mg175 _ (by first | rfl | (simp only [*, if_true, if_false, ite_true, ite_false]; done) | (split <;> first | rfl | omega | (split <;> first | rfl | omega | (split <;> first | rfl | omega))))
      ·
        refine j_bipush G d10_comesIn_178 rfl ?_
        refine j_goto (tgt := 205) G d10_comesIn_180 (by decide) ?_
        refine j_eq (ws' := [(mo, mO ad (upS (upS (upS (upS S 35 (x5 + x6)) 34 x9) 36 x11) 37 (min (min 8 x4) (S 29)))), (ad 22, aInt E 24 co), (ad 32, aInt E 12 spr), (ad 33, aInt E 588 le)]) (ls' := [(5, .int (iZ (min 8 x4))), (4, .int (iZ (min 8 (((st / 9) % 9) + (co step))))), (3, .int (iZ x2)), (0, .ref mo), (1, .int (iZ step)), (2, .int (iZ st))]) rfl rfl rfl ?_
        exact mg175 _ (by first | rfl | (simp only [*, if_true, if_false, ite_true, ite_false]; done) | (split <;> first | rfl | omega | (split <;> first | rfl | omega | (split <;> first | rfl | omega))))
    refine j_icmp_le (tgt := 95) G d10_comesIn_84 (by decide) (by omega) (by decide) (fun h15 => ?_) (fun h15 => ?_)
    ·
      refine j_iconst G d10_comesIn_95 ?_
      refine j_eq (ws' := [(mo, mO ad S), (ad 22, aInt E 24 co), (ad 32, aInt E 12 spr), (ad 33, aInt E 588 le)]) (ls' := [(5, .int (iZ x4)), (4, .int (iZ (((st / 9) % 9) + (co step)))), (3, .int (iZ x2)), (0, .ref mo), (1, .int (iZ step)), (2, .int (iZ st))]) rfl rfl rfl ?_
      exact mg84 _ (by first | rfl | (simp only [*, if_true, if_false, ite_true, ite_false]; done) | (split <;> first | rfl | omega | (split <;> first | rfl | omega | (split <;> first | rfl | omega))))
    ·
      refine j_iload G 0 rfl d10_comesIn_87 ?_
      refine j_bipush G d10_comesIn_89 rfl ?_
      refine j_isub G d10_comesIn_91 ?_
      refine j_goto (tgt := 96) G d10_comesIn_92 (by decide) ?_
      refine j_eq (ws' := [(mo, mO ad S), (ad 22, aInt E 24 co), (ad 32, aInt E 12 spr), (ad 33, aInt E 588 le)]) (ls' := [(5, .int (iZ x4)), (4, .int (iZ (((st / 9) % 9) + (co step)))), (3, .int (iZ x2)), (0, .ref mo), (1, .int (iZ step)), (2, .int (iZ st))]) rfl rfl rfl ?_
      exact mg84 _ (by first | rfl | (simp only [*, if_true, if_false, ite_true, ite_false]; done) | (split <;> first | rfl | omega | (split <;> first | rfl | omega | (split <;> first | rfl | omega))))
  refine j_icmp_le (tgt := 79) G d10_comesIn_68 (by decide) (by omega) (by decide) (fun h16 => ?_) (fun h16 => ?_)
  ·
    refine j_iconst G d10_comesIn_79 ?_
    refine j_eq (ws' := [(mo, mO ad S), (ad 22, aInt E 24 co), (ad 32, aInt E 12 spr), (ad 33, aInt E 588 le)]) (ls' := [(5, .int (iZ x4)), (4, .int (iZ (((st / 9) % 9) + (co step)))), (3, .int (iZ x2)), (0, .ref mo), (1, .int (iZ step)), (2, .int (iZ st))]) rfl rfl rfl ?_
    exact mg68 _ (by first | rfl | (simp only [*, if_true, if_false, ite_true, ite_false]; done) | (split <;> first | rfl | omega | (split <;> first | rfl | omega | (split <;> first | rfl | omega))))
  ·
    refine j_iload G 1 rfl d10_comesIn_71 ?_
    refine j_bipush G d10_comesIn_73 rfl ?_
    refine j_isub G d10_comesIn_75 ?_
    refine j_goto (tgt := 80) G d10_comesIn_76 (by decide) ?_
    refine j_eq (ws' := [(mo, mO ad S), (ad 22, aInt E 24 co), (ad 32, aInt E 12 spr), (ad 33, aInt E 588 le)]) (ls' := [(5, .int (iZ x4)), (4, .int (iZ (((st / 9) % 9) + (co step)))), (3, .int (iZ x2)), (0, .ref mo), (1, .int (iZ step)), (2, .int (iZ st))]) rfl rfl rfl ?_
    exact mg68 _ (by first | rfl | (simp only [*, if_true, if_false, ite_true, ite_false]; done) | (split <;> first | rfl | omega | (split <;> first | rfl | omega | (split <;> first | rfl | omega))))
theorem d10_can_0 : decode c10_can 0 = .ok (.aload_n 0, 1) := by decide +kernel
theorem d10_can_1 : decode c10_can 1 = .ok (.getfield 127, 3) := by decide +kernel
theorem d10_can_4 : decode c10_can 4 = .ok (.ifCond .lt 23, 3) := by decide +kernel
theorem d10_can_7 : decode c10_can 7 = .ok (.aload_n 0, 1) := by decide +kernel
theorem d10_can_8 : decode c10_can 8 = .ok (.getfield 115, 3) := by decide +kernel
theorem d10_can_11 : decode c10_can 11 = .ok (.bipush 81, 2) := by decide +kernel
theorem d10_can_13 : decode c10_can 13 = .ok (.idiv, 1) := by decide +kernel
theorem d10_can_14 : decode c10_can 14 = .ok (.aload_n 0, 1) := by decide +kernel
theorem d10_can_15 : decode c10_can 15 = .ok (.getfield 127, 3) := by decide +kernel
theorem d10_can_18 : decode c10_can 18 = .ok (.isub, 1) := by decide +kernel
theorem d10_can_19 : decode c10_can 19 = .ok (.iload_n 1, 1) := by decide +kernel
theorem d10_can_20 : decode c10_can 20 = .ok (.if_icmp .lt 7, 3) := by decide +kernel
theorem d10_can_23 : decode c10_can 23 = .ok (.iconst 1, 1) := by decide +kernel
theorem d10_can_24 : decode c10_can 24 = .ok (.goto 4, 3) := by decide +kernel
theorem d10_can_27 : decode c10_can 27 = .ok (.iconst 0, 1) := by decide +kernel
theorem d10_can_28 : decode c10_can 28 = .ok (.ireturn, 1) := by decide +kernel
theorem mw10_can : MV y10_can c10_can 2 (some .boolean) 1 := ⟨cd10_can, ini10, na10_can, im10_can, se10_can⟩
set_option maxHeartbeats 4000000 in
set_option maxRecDepth 100000 in
theorem k10_can (l : Launch) (E : En) (mo : Nat) (ad : Nat → Nat) (S : Nat → Int) (a : Int) (r_a : R32 a) (hnw : 0 ≤ S 34 ∧ S 34 ≤ 3320) (hwa : -5 ≤ S 38 ∧ S 38 ≤ 60) : Cp l E y10_can c10_can 2 (some .boolean) 0 0 [.ref mo, .int (iZ a)] [(mo, mO ad S)] (fun r => ∃ (v : Int), r = some (.int (iZ v)) ∧ (((0 ≤ S 38 ∧ a ≤ S 34 / 81 - S 38) ∧ v = 1) ∨ (¬ (0 ≤ S 38 ∧ a ≤ S 34 / 81 - S 38) ∧ v = 0))) := by
  refine Cp.of (by decide +kernel) (Nat.le_of_ble_eq_true rfl) (fun Γ hl hargs G F => ?_)
  subst hl
  refine j_aload_n G 0 rfl d10_can_0 ?_
  refine j_get G 0 10 38 in10 fl10_127 d10_can_1 rfl rfl (by decide) (v := .int (iZ (S 38))) rfl rfl ?_
  refine j_if_lt (tgt := 27) G d10_can_4 (by decide) (by omega) (fun h1 => ?_) (fun h1 => ?_)
  ·
    refine j_iconst G d10_can_27 ?_
    exact j_zret G F d10_can_28 (by decide) ⟨0, rfl, (by first | (left; exact ⟨by omega, rfl⟩) | (right; exact ⟨by omega, rfl⟩))⟩
  ·
    refine j_aload_n G 0 rfl d10_can_7 ?_
    refine j_get G 0 10 34 in10 fl10_115 d10_can_8 rfl rfl (by decide) (v := .int (iZ (S 34))) rfl rfl ?_
    refine j_bipush G d10_can_11 rfl ?_
    refine j_idiv G d10_can_13 (by omega) ?_
    refine j_aload_n G 0 rfl d10_can_14 ?_
    refine j_get G 0 10 38 in10 fl10_127 d10_can_15 rfl rfl (by decide) (v := .int (iZ (S 38))) rfl rfl ?_
    refine j_isub G d10_can_18 ?_
    refine j_iload_n G 1 rfl d10_can_19 ?_
    refine j_icmp_lt (tgt := 27) G d10_can_20 (by decide) (by omega) (by omega) (fun h2 => ?_) (fun h2 => ?_)
    ·
      refine j_iconst G d10_can_27 ?_
      exact j_zret G F d10_can_28 (by decide) ⟨0, rfl, (by first | (left; exact ⟨by omega, rfl⟩) | (right; exact ⟨by omega, rfl⟩))⟩
    ·
      refine j_iconst G d10_can_23 ?_
      refine j_goto (tgt := 28) G d10_can_24 (by decide) ?_
      exact j_zret G F d10_can_28 (by decide) ⟨1, rfl, (by first | (left; exact ⟨by omega, rfl⟩) | (right; exact ⟨by omega, rfl⟩))⟩
theorem d10_gone_0 : decode c10_gone 0 = .ok (.aload_n 0, 1) := by decide +kernel
theorem d10_gone_1 : decode c10_gone 1 = .ok (.getfield 115, 3) := by decide +kernel
theorem d10_gone_4 : decode c10_gone 4 = .ok (.bipush 81, 2) := by decide +kernel
theorem d10_gone_6 : decode c10_gone 6 = .ok (.aload_n 0, 1) := by decide +kernel
theorem d10_gone_7 : decode c10_gone 7 = .ok (.getfield 127, 3) := by decide +kernel
theorem d10_gone_10 : decode c10_gone 10 = .ok (.imul, 1) := by decide +kernel
theorem d10_gone_11 : decode c10_gone 11 = .ok (.isub, 1) := by decide +kernel
theorem d10_gone_12 : decode c10_gone 12 = .ok (.bipush 9, 2) := by decide +kernel
theorem d10_gone_14 : decode c10_gone 14 = .ok (.aload_n 0, 1) := by decide +kernel
theorem d10_gone_15 : decode c10_gone 15 = .ok (.getfield 121, 3) := by decide +kernel
theorem d10_gone_18 : decode c10_gone 18 = .ok (.imul, 1) := by decide +kernel
theorem d10_gone_19 : decode c10_gone 19 = .ok (.isub, 1) := by decide +kernel
theorem d10_gone_20 : decode c10_gone 20 = .ok (.aload_n 0, 1) := by decide +kernel
theorem d10_gone_21 : decode c10_gone 21 = .ok (.getfield 124, 3) := by decide +kernel
theorem d10_gone_24 : decode c10_gone 24 = .ok (.isub, 1) := by decide +kernel
theorem d10_gone_25 : decode c10_gone 25 = .ok (.ireturn, 1) := by decide +kernel
theorem mw10_gone : MV y10_gone c10_gone 1 (some .int) 0 := ⟨cd10_gone, ini10, na10_gone, im10_gone, se10_gone⟩
set_option maxHeartbeats 4000000 in
set_option maxRecDepth 100000 in
theorem k10_gone (l : Launch) (E : En) (mo : Nat) (ad : Nat → Nat) (S : Nat → Int)  : Cp l E y10_gone c10_gone 1 (some .int) 0 0 [.ref mo] [(mo, mO ad S)] (fun r => ∃ (v : Int), r = some (.int (iZ v)) ∧ (v = S 34 - 81 * S 38 - 9 * S 36 - S 37)) := by
  refine Cp.of (by decide +kernel) (Nat.le_of_ble_eq_true rfl) (fun Γ hl hargs G F => ?_)
  subst hl
  refine j_aload_n G 0 rfl d10_gone_0 ?_
  refine j_get G 0 10 34 in10 fl10_115 d10_gone_1 rfl rfl (by decide) (v := .int (iZ (S 34))) rfl rfl ?_
  refine j_bipush G d10_gone_4 rfl ?_
  refine j_aload_n G 0 rfl d10_gone_6 ?_
  refine j_get G 0 10 38 in10 fl10_127 d10_gone_7 rfl rfl (by decide) (v := .int (iZ (S 38))) rfl rfl ?_
  refine j_imul G d10_gone_10 ?_
  refine j_isub G d10_gone_11 ?_
  refine j_bipush G d10_gone_12 rfl ?_
  refine j_aload_n G 0 rfl d10_gone_14 ?_
  refine j_get G 0 10 36 in10 fl10_121 d10_gone_15 rfl rfl (by decide) (v := .int (iZ (S 36))) rfl rfl ?_
  refine j_imul G d10_gone_18 ?_
  refine j_isub G d10_gone_19 ?_
  refine j_aload_n G 0 rfl d10_gone_20 ?_
  refine j_get G 0 10 37 in10 fl10_124 d10_gone_21 rfl rfl (by decide) (v := .int (iZ (S 37))) rfl rfl ?_
  refine j_isub G d10_gone_24 ?_
  exact j_iret G F d10_gone_25 ⟨(((S 34) - (81 * (S 38))) - (9 * (S 36))) - (S 37), rfl, (by omega)⟩
