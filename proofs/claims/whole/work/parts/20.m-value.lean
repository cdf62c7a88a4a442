/-! what the rest of a day is worth by the best -/
def V (K : Dy) (spare : Int) : Nat → Int → Int → Int
  | 0, _, st => st / 81
  | m + 1, s, st => if V K spare m (s + 1) (dNow K s st) < (if dCan K s st spare then 100 * dUp K s st + V K spare m (s + 1) (dGone K s st) else V K spare m (s + 1) (dNow K s st)) then (if dCan K s st spare then 100 * dUp K s st + V K spare m (s + 1) (dGone K s st) else V K spare m (s + 1) (dNow K s st)) else V K spare m (s + 1) (dNow K s st)
theorem V_r {K : Dy} {spare : Int} (h : okD K) (h0 : 0 ≤ spare) : ∀ (m : Nat) (s st : Int), 0 ≤ s → s + m ≤ 12 → 0 ≤ st → st ≤ 3320 → 0 ≤ V K spare m s st ∧ V K spare m s st ≤ 40 + 600 * m
  | 0, s, st, _, _, h1, h2 => by unfold V; omega
  | m + 1, s, st, h1, h2, h3, h4 => by
    have e := dNow_r h (s := s) (st := st) (by omega) (by omega)
    have e1 := V_r h h0 m (s + 1) (dNow K s st) (by omega) (by omega) e.1 e.2
    have e2 := dR h (s := s) (st := st) (by omega) (by omega)
    unfold V
    by_cases hc : dCan K s st spare
    · have e3 := dGone_r h (s := s) (st := st) (by omega) (by omega) h0 hc
      have e4 := V_r h h0 m (s + 1) (dGone K s st) (by omega) (by omega) e3.1 e3.2
      rw [if_pos hc]
      split <;> omega
    · rw [if_neg hc, if_neg (by omega)]
      omega
def Vn (K : Dy) (spare s st : Int) : Int := V K spare (12 - s).toNat s st
theorem Vn_e {K : Dy} {spare st : Int} : Vn K spare 12 st = st / 81 := rfl
theorem Vn_s {K : Dy} {spare s st : Int} (h : s ≤ 11) : Vn K spare s st = if Vn K spare (s + 1) (dNow K s st) < (if dCan K s st spare then 100 * dUp K s st + Vn K spare (s + 1) (dGone K s st) else Vn K spare (s + 1) (dNow K s st)) then (if dCan K s st spare then 100 * dUp K s st + Vn K spare (s + 1) (dGone K s st) else Vn K spare (s + 1) (dNow K s st)) else Vn K spare (s + 1) (dNow K s st) := by
  have e : (12 - s).toNat = (12 - (s + 1)).toNat + 1 := by omega
  unfold Vn
  rw [e]
  rfl
theorem Vn_r {K : Dy} {spare s st : Int} (h : okD K) (h0 : 0 ≤ spare) (hs : 0 ≤ s ∧ s ≤ 12) (ht : 0 ≤ st ∧ st ≤ 3320) : 0 ≤ Vn K spare s st ∧ Vn K spare s st ≤ 7240 := by
  have := V_r h h0 (12 - s).toNat s st hs.1 (by omega) ht.1 ht.2
  unfold Vn; omega
/-- every marked state's next ones are marked -/
def Cl (K : Dy) (spare b : Int) (m : Int → Int) (s k : Int) : Prop := ∀ s' k', b ≤ s' → 0 ≤ k' → k' ≤ 3320 → (s' < s ∨ s' = s ∧ k' < k) → m (3321 * s' + k') ≠ 0 → m (3321 * (s' + 1) + dNow K s' k') ≠ 0 ∧ (dCan K s' k' spare → m (3321 * (s' + 1) + dGone K s' k') ≠ 0)
theorem up1 {m : Int → Int} {i j : Int} (h : m j ≠ 0) : upI m i 1 j ≠ 0 := by
  unfold upI; split
  · decide
  · exact h
theorem up1s {m : Int → Int} {i : Int} : upI m i 1 i ≠ 0 := by
  unfold upI; rw [if_pos rfl]; decide
theorem upb {m : Int → Int} {N i v : Int} (h : ∀ j, 0 ≤ j → j < N → 0 ≤ m j ∧ m j ≤ 1) (hv : 0 ≤ v ∧ v ≤ 1) : ∀ j, 0 ≤ j → j < N → 0 ≤ upI m i v j ∧ upI m i v j ≤ 1 := by
  intro j h1 h2
  unfold upI; split
  · exact hv
  · exact h j h1 h2
theorem cl_0 {K : Dy} {spare b : Int} {m : Int → Int} : Cl K spare b m b 0 := fun s' k' h1 h2 h3 h4 => by omega
theorem cl_row {K : Dy} {spare b s k : Int} {m : Int → Int} (h : Cl K spare b m s k) (hk : 3321 ≤ k) : Cl K spare b m (s + 1) 0 := fun s' k' h1 h2 h3 h4 => h s' k' h1 h2 h3 (by omega)
theorem cl_skip {K : Dy} {spare b s k : Int} {m : Int → Int} (h : Cl K spare b m s k) (hk : m (3321 * s + k) = 0) : Cl K spare b m s (k + 1) := fun s' k' h1 h2 h3 h4 h5 => if e : s' = s ∧ k' = k then absurd hk (by obtain ⟨rfl, rfl⟩ := e; exact h5) else h s' k' h1 h2 h3 (by omega) h5
theorem cl_up {K : Dy} {spare b s k i : Int} {m : Int → Int} (h : Cl K spare b m s k) (hk : k ≤ 3320) (hi : 3321 * (s + 1) ≤ i) : Cl K spare b (upI m i 1) s k := by
  intro s' k' h1 h2 h3 h4 h5
  have e : upI m i 1 (3321 * s' + k') = m (3321 * s' + k') := by unfold upI; rw [if_neg (by omega)]
  rw [e] at h5
  have h6 := h s' k' h1 h2 h3 h4 h5
  exact ⟨up1 h6.1, fun hc => up1 (h6.2 hc)⟩
theorem cl_put {K : Dy} {spare b s k : Int} {m : Int → Int} (h : Cl K spare b m s k) (h1 : m (3321 * (s + 1) + dNow K s k) ≠ 0) (h2 : dCan K s k spare → m (3321 * (s + 1) + dGone K s k) ≠ 0) : Cl K spare b m s (k + 1) := fun s' k' a1 a2 a3 a4 a5 => if e : s' = s ∧ k' = k then (by obtain ⟨rfl, rfl⟩ := e; exact ⟨h1, h2⟩) else h s' k' a1 a2 a3 (by omega) a5
theorem cl_one {K : Dy} {spare b s k nw : Int} {m : Int → Int} (h : Cl K spare b m s k) (hk : k ≤ 3320) (hn : nw = dNow K s k) (h0 : 0 ≤ nw) (hc : ¬ dCan K s k spare) : Cl K spare b (upI m (3321 * (s + 1) + nw) 1) s (k + 1) :=
  cl_put (cl_up h hk (by omega)) (by rw [← hn]; exact up1s) (fun q => absurd q hc)
theorem cl_two {K : Dy} {spare b s k nw g : Int} {m : Int → Int} (h : Cl K spare b m s k) (hk : k ≤ 3320) (hn : nw = dNow K s k) (h0 : 0 ≤ nw) (hg : g = dGone K s k) (h1 : 0 ≤ g) : Cl K spare b (upI (upI m (3321 * (s + 1) + nw) 1) (3321 * (s + 1) + g) 1) s (k + 1) :=
  cl_put (cl_up (cl_up h hk (by omega)) hk (by omega)) (by rw [← hn]; exact up1 up1s) (fun _ => by rw [← hg]; exact up1s)
/-- the worths of the marked states from row s, place k on -/
def Va (K : Dy) (spare : Int) (m w : Int → Int) (s k : Int) : Prop := ∀ s' k', s ≤ s' → s' ≤ 12 → 0 ≤ k' → k' ≤ 3320 → (s < s' ∨ k' < k) → (s' = 12 ∨ m (3321 * s' + k') ≠ 0) → w (3321 * s' + k') = Vn K spare s' k'
theorem vl_0 {K : Dy} {spare k : Int} {m w : Int → Int} (h : ∀ j, 0 ≤ j → j < k → w (39852 + j) = j / 81) (hk : 3321 ≤ k) : Va K spare m w 11 0 := by
  intro s' k' h1 h2 h3 h4 h5 _
  have e : s' = 12 := by omega
  subst e
  rw [Vn_e]
  exact h k' h3 (by omega)
theorem vl_row {K : Dy} {spare s k : Int} {m w : Int → Int} (h : Va K spare m w s k) (hk : 3321 ≤ k) : Va K spare m w (s + -1) 0 := fun s' k' h1 h2 h3 h4 h5 => h s' k' (by omega) h2 h3 h4 (by omega)
theorem vl_skip {K : Dy} {spare s k : Int} {m w : Int → Int} (h : Va K spare m w s k) (hs : s ≤ 11) (hk : m (3321 * s + k) = 0) : Va K spare m w s (k + 1) := fun s' k' h1 h2 h3 h4 h5 h6 => if e : s' = s ∧ k' = k then (by obtain ⟨rfl, rfl⟩ := e; exact absurd hk (h6.resolve_left (by omega))) else h s' k' h1 h2 h3 h4 (by omega) h6
theorem vl_put {K : Dy} {spare s k x : Int} {m w : Int → Int} (h : Va K spare m w s k) (hk : 0 ≤ k ∧ k ≤ 3320) (hx : x = Vn K spare s k) : Va K spare m (upI w (3321 * s + k) x) s (k + 1) := fun s' k' h1 h2 h3 h4 h5 h6 => if e : s' = s ∧ k' = k then (by obtain ⟨rfl, rfl⟩ := e; unfold upI; rw [if_pos rfl]; exact hx) else (by unfold upI; rw [if_neg (by omega)]; exact h s' k' h1 h2 h3 h4 (by omega) h6)
/-- the model's tables hold the best of the day K from step b on -/
def Best (K : Dy) (spare b : Int) (m w : Int → Int) : Prop := Cl K spare b m 12 0 ∧ Va K spare m w (b - 1) 0
theorem v_none {K : Dy} {spare s k a x : Int} (hs : s ≤ 11) (ha : a = Vn K spare (s + 1) (dNow K s k)) (hc : ¬ dCan K s k spare) (hx : x = a) : x = Vn K spare s k := by
  rw [Vn_s hs, if_neg hc, if_neg (by omega), hx, ha]
theorem v_trip {K : Dy} {spare s k a x y u g : Int} (hs : s ≤ 11) (ha : a = Vn K spare (s + 1) (dNow K s k)) (hc : dCan K s k spare) (hu : u = dUp K s k) (hg : g = Vn K spare (s + 1) (dGone K s k)) (hx : x = if y ≤ a then a else y) (hy : y = 100 * u + g) : x = Vn K spare s k := by
  rw [Vn_s hs, if_pos hc, hx, ← ha, ← hu, ← hg, ← hy]
  split <;> split <;> omega
theorem d10_valueFrom_0 : decode c10_valueFrom 0 = .ok (.sipush 3321, 3) := by decide +kernel
theorem d10_valueFrom_3 : decode c10_valueFrom 3 = .ok (.iload_n 1, 1) := by decide +kernel
theorem d10_valueFrom_4 : decode c10_valueFrom 4 = .ok (.imul, 1) := by decide +kernel
theorem d10_valueFrom_5 : decode c10_valueFrom 5 = .ok (.istore 4, 2) := by decide +kernel
theorem d10_valueFrom_7 : decode c10_valueFrom 7 = .ok (.iload 4, 2) := by decide +kernel
theorem d10_valueFrom_9 : decode c10_valueFrom 9 = .ok (.ldc 130, 2) := by decide +kernel
theorem d10_valueFrom_11 : decode c10_valueFrom 11 = .ok (.if_icmp .ge 17, 3) := by decide +kernel
theorem d10_valueFrom_14 : decode c10_valueFrom 14 = .ok (.aload_n 0, 1) := by decide +kernel
theorem d10_valueFrom_15 : decode c10_valueFrom 15 = .ok (.getfield 131, 3) := by decide +kernel
theorem d10_valueFrom_18 : decode c10_valueFrom 18 = .ok (.iload 4, 2) := by decide +kernel
theorem d10_valueFrom_20 : decode c10_valueFrom 20 = .ok (.iconst 0, 1) := by decide +kernel
theorem d10_valueFrom_21 : decode c10_valueFrom 21 = .ok (.bastore, 1) := by decide +kernel
theorem d10_valueFrom_22 : decode c10_valueFrom 22 = .ok (.iinc 4 1, 3) := by decide +kernel
theorem d10_valueFrom_25 : decode c10_valueFrom 25 = .ok (.goto (-18), 3) := by decide +kernel
theorem d10_valueFrom_28 : decode c10_valueFrom 28 = .ok (.aload_n 0, 1) := by decide +kernel
theorem d10_valueFrom_29 : decode c10_valueFrom 29 = .ok (.getfield 131, 3) := by decide +kernel
theorem d10_valueFrom_32 : decode c10_valueFrom 32 = .ok (.sipush 3321, 3) := by decide +kernel
theorem d10_valueFrom_35 : decode c10_valueFrom 35 = .ok (.iload_n 1, 1) := by decide +kernel
theorem d10_valueFrom_36 : decode c10_valueFrom 36 = .ok (.imul, 1) := by decide +kernel
theorem d10_valueFrom_37 : decode c10_valueFrom 37 = .ok (.iload_n 2, 1) := by decide +kernel
theorem d10_valueFrom_38 : decode c10_valueFrom 38 = .ok (.iadd, 1) := by decide +kernel
theorem d10_valueFrom_39 : decode c10_valueFrom 39 = .ok (.iconst 1, 1) := by decide +kernel
theorem d10_valueFrom_40 : decode c10_valueFrom 40 = .ok (.bastore, 1) := by decide +kernel
theorem d10_valueFrom_41 : decode c10_valueFrom 41 = .ok (.iload_n 1, 1) := by decide +kernel
theorem d10_valueFrom_42 : decode c10_valueFrom 42 = .ok (.istore 4, 2) := by decide +kernel
theorem d10_valueFrom_44 : decode c10_valueFrom 44 = .ok (.iload 4, 2) := by decide +kernel
theorem d10_valueFrom_46 : decode c10_valueFrom 46 = .ok (.bipush 12, 2) := by decide +kernel
theorem d10_valueFrom_48 : decode c10_valueFrom 48 = .ok (.if_icmp .ge 100, 3) := by decide +kernel
theorem d10_valueFrom_51 : decode c10_valueFrom 51 = .ok (.iconst 0, 1) := by decide +kernel
theorem d10_valueFrom_52 : decode c10_valueFrom 52 = .ok (.istore 5, 2) := by decide +kernel
theorem d10_valueFrom_54 : decode c10_valueFrom 54 = .ok (.iload 5, 2) := by decide +kernel
theorem d10_valueFrom_56 : decode c10_valueFrom 56 = .ok (.sipush 3321, 3) := by decide +kernel
theorem d10_valueFrom_59 : decode c10_valueFrom 59 = .ok (.if_icmp .ge 83, 3) := by decide +kernel
theorem d10_valueFrom_62 : decode c10_valueFrom 62 = .ok (.aload_n 0, 1) := by decide +kernel
theorem d10_valueFrom_63 : decode c10_valueFrom 63 = .ok (.getfield 131, 3) := by decide +kernel
theorem d10_valueFrom_66 : decode c10_valueFrom 66 = .ok (.sipush 3321, 3) := by decide +kernel
theorem d10_valueFrom_69 : decode c10_valueFrom 69 = .ok (.iload 4, 2) := by decide +kernel
theorem d10_valueFrom_71 : decode c10_valueFrom 71 = .ok (.imul, 1) := by decide +kernel
theorem d10_valueFrom_72 : decode c10_valueFrom 72 = .ok (.iload 5, 2) := by decide +kernel
theorem d10_valueFrom_74 : decode c10_valueFrom 74 = .ok (.iadd, 1) := by decide +kernel
theorem d10_valueFrom_75 : decode c10_valueFrom 75 = .ok (.baload, 1) := by decide +kernel
theorem d10_valueFrom_76 : decode c10_valueFrom 76 = .ok (.ifCond .ne 6, 3) := by decide +kernel
theorem d10_valueFrom_79 : decode c10_valueFrom 79 = .ok (.goto 57, 3) := by decide +kernel
theorem d10_valueFrom_82 : decode c10_valueFrom 82 = .ok (.aload_n 0, 1) := by decide +kernel
theorem d10_valueFrom_83 : decode c10_valueFrom 83 = .ok (.iload 4, 2) := by decide +kernel
theorem d10_valueFrom_85 : decode c10_valueFrom 85 = .ok (.iload 5, 2) := by decide +kernel
theorem d10_valueFrom_87 : decode c10_valueFrom 87 = .ok (.invokevirtual 318, 3) := by decide +kernel
theorem d10_valueFrom_90 : decode c10_valueFrom 90 = .ok (.aload_n 0, 1) := by decide +kernel
theorem d10_valueFrom_91 : decode c10_valueFrom 91 = .ok (.getfield 131, 3) := by decide +kernel
theorem d10_valueFrom_94 : decode c10_valueFrom 94 = .ok (.sipush 3321, 3) := by decide +kernel
theorem d10_valueFrom_97 : decode c10_valueFrom 97 = .ok (.iload 4, 2) := by decide +kernel
theorem d10_valueFrom_99 : decode c10_valueFrom 99 = .ok (.iconst 1, 1) := by decide +kernel
theorem d10_valueFrom_100 : decode c10_valueFrom 100 = .ok (.iadd, 1) := by decide +kernel
theorem d10_valueFrom_101 : decode c10_valueFrom 101 = .ok (.imul, 1) := by decide +kernel
theorem d10_valueFrom_102 : decode c10_valueFrom 102 = .ok (.aload_n 0, 1) := by decide +kernel
theorem d10_valueFrom_103 : decode c10_valueFrom 103 = .ok (.getfield 115, 3) := by decide +kernel
theorem d10_valueFrom_106 : decode c10_valueFrom 106 = .ok (.iadd, 1) := by decide +kernel
theorem d10_valueFrom_107 : decode c10_valueFrom 107 = .ok (.iconst 1, 1) := by decide +kernel
theorem d10_valueFrom_108 : decode c10_valueFrom 108 = .ok (.bastore, 1) := by decide +kernel
theorem d10_valueFrom_109 : decode c10_valueFrom 109 = .ok (.aload_n 0, 1) := by decide +kernel
theorem d10_valueFrom_110 : decode c10_valueFrom 110 = .ok (.iload_n 3, 1) := by decide +kernel
theorem d10_valueFrom_111 : decode c10_valueFrom 111 = .ok (.invokevirtual 322, 3) := by decide +kernel
theorem d10_valueFrom_114 : decode c10_valueFrom 114 = .ok (.ifCond .eq 22, 3) := by decide +kernel
theorem d10_valueFrom_117 : decode c10_valueFrom 117 = .ok (.aload_n 0, 1) := by decide +kernel
theorem d10_valueFrom_118 : decode c10_valueFrom 118 = .ok (.getfield 131, 3) := by decide +kernel
theorem d10_valueFrom_121 : decode c10_valueFrom 121 = .ok (.sipush 3321, 3) := by decide +kernel
theorem d10_valueFrom_124 : decode c10_valueFrom 124 = .ok (.iload 4, 2) := by decide +kernel
theorem d10_valueFrom_126 : decode c10_valueFrom 126 = .ok (.iconst 1, 1) := by decide +kernel
theorem d10_valueFrom_127 : decode c10_valueFrom 127 = .ok (.iadd, 1) := by decide +kernel
theorem d10_valueFrom_128 : decode c10_valueFrom 128 = .ok (.imul, 1) := by decide +kernel
theorem d10_valueFrom_129 : decode c10_valueFrom 129 = .ok (.aload_n 0, 1) := by decide +kernel
theorem d10_valueFrom_130 : decode c10_valueFrom 130 = .ok (.invokevirtual 325, 3) := by decide +kernel
theorem d10_valueFrom_133 : decode c10_valueFrom 133 = .ok (.iadd, 1) := by decide +kernel
theorem d10_valueFrom_134 : decode c10_valueFrom 134 = .ok (.iconst 1, 1) := by decide +kernel
theorem d10_valueFrom_135 : decode c10_valueFrom 135 = .ok (.bastore, 1) := by decide +kernel
theorem d10_valueFrom_136 : decode c10_valueFrom 136 = .ok (.iinc 5 1, 3) := by decide +kernel
theorem d10_valueFrom_139 : decode c10_valueFrom 139 = .ok (.goto (-85), 3) := by decide +kernel
theorem d10_valueFrom_142 : decode c10_valueFrom 142 = .ok (.iinc 4 1, 3) := by decide +kernel
theorem d10_valueFrom_145 : decode c10_valueFrom 145 = .ok (.goto (-101), 3) := by decide +kernel
theorem d10_valueFrom_148 : decode c10_valueFrom 148 = .ok (.iconst 0, 1) := by decide +kernel
theorem d10_valueFrom_149 : decode c10_valueFrom 149 = .ok (.istore 4, 2) := by decide +kernel
theorem d10_valueFrom_151 : decode c10_valueFrom 151 = .ok (.iload 4, 2) := by decide +kernel
theorem d10_valueFrom_153 : decode c10_valueFrom 153 = .ok (.sipush 3321, 3) := by decide +kernel
theorem d10_valueFrom_156 : decode c10_valueFrom 156 = .ok (.if_icmp .ge 25, 3) := by decide +kernel
theorem d10_valueFrom_159 : decode c10_valueFrom 159 = .ok (.aload_n 0, 1) := by decide +kernel
theorem d10_valueFrom_160 : decode c10_valueFrom 160 = .ok (.getfield 134, 3) := by decide +kernel
theorem d10_valueFrom_163 : decode c10_valueFrom 163 = .ok (.ldc_w 328, 3) := by decide +kernel
theorem d10_valueFrom_166 : decode c10_valueFrom 166 = .ok (.iload 4, 2) := by decide +kernel
theorem d10_valueFrom_168 : decode c10_valueFrom 168 = .ok (.iadd, 1) := by decide +kernel
theorem d10_valueFrom_169 : decode c10_valueFrom 169 = .ok (.iload 4, 2) := by decide +kernel
theorem d10_valueFrom_171 : decode c10_valueFrom 171 = .ok (.bipush 81, 2) := by decide +kernel
theorem d10_valueFrom_173 : decode c10_valueFrom 173 = .ok (.idiv, 1) := by decide +kernel
theorem d10_valueFrom_174 : decode c10_valueFrom 174 = .ok (.iastore, 1) := by decide +kernel
theorem d10_valueFrom_175 : decode c10_valueFrom 175 = .ok (.iinc 4 1, 3) := by decide +kernel
theorem d10_valueFrom_178 : decode c10_valueFrom 178 = .ok (.goto (-27), 3) := by decide +kernel
theorem d10_valueFrom_181 : decode c10_valueFrom 181 = .ok (.bipush 11, 2) := by decide +kernel
theorem d10_valueFrom_183 : decode c10_valueFrom 183 = .ok (.istore 4, 2) := by decide +kernel
theorem d10_valueFrom_185 : decode c10_valueFrom 185 = .ok (.iload 4, 2) := by decide +kernel
theorem d10_valueFrom_187 : decode c10_valueFrom 187 = .ok (.iload_n 1, 1) := by decide +kernel
theorem d10_valueFrom_188 : decode c10_valueFrom 188 = .ok (.if_icmp .lt 143, 3) := by decide +kernel
theorem d10_valueFrom_191 : decode c10_valueFrom 191 = .ok (.iconst 0, 1) := by decide +kernel
theorem d10_valueFrom_192 : decode c10_valueFrom 192 = .ok (.istore 5, 2) := by decide +kernel
theorem d10_valueFrom_194 : decode c10_valueFrom 194 = .ok (.iload 5, 2) := by decide +kernel
theorem d10_valueFrom_196 : decode c10_valueFrom 196 = .ok (.sipush 3321, 3) := by decide +kernel
theorem d10_valueFrom_199 : decode c10_valueFrom 199 = .ok (.if_icmp .ge 126, 3) := by decide +kernel
theorem d10_valueFrom_202 : decode c10_valueFrom 202 = .ok (.aload_n 0, 1) := by decide +kernel
theorem d10_valueFrom_203 : decode c10_valueFrom 203 = .ok (.getfield 131, 3) := by decide +kernel
theorem d10_valueFrom_206 : decode c10_valueFrom 206 = .ok (.sipush 3321, 3) := by decide +kernel
theorem d10_valueFrom_209 : decode c10_valueFrom 209 = .ok (.iload 4, 2) := by decide +kernel
theorem d10_valueFrom_211 : decode c10_valueFrom 211 = .ok (.imul, 1) := by decide +kernel
theorem d10_valueFrom_212 : decode c10_valueFrom 212 = .ok (.iload 5, 2) := by decide +kernel
theorem d10_valueFrom_214 : decode c10_valueFrom 214 = .ok (.iadd, 1) := by decide +kernel
theorem d10_valueFrom_215 : decode c10_valueFrom 215 = .ok (.baload, 1) := by decide +kernel
theorem d10_valueFrom_216 : decode c10_valueFrom 216 = .ok (.ifCond .ne 6, 3) := by decide +kernel
theorem d10_valueFrom_219 : decode c10_valueFrom 219 = .ok (.goto 100, 3) := by decide +kernel
theorem d10_valueFrom_222 : decode c10_valueFrom 222 = .ok (.aload_n 0, 1) := by decide +kernel
theorem d10_valueFrom_223 : decode c10_valueFrom 223 = .ok (.iload 4, 2) := by decide +kernel
theorem d10_valueFrom_225 : decode c10_valueFrom 225 = .ok (.iload 5, 2) := by decide +kernel
theorem d10_valueFrom_227 : decode c10_valueFrom 227 = .ok (.invokevirtual 318, 3) := by decide +kernel
theorem d10_valueFrom_230 : decode c10_valueFrom 230 = .ok (.aload_n 0, 1) := by decide +kernel
theorem d10_valueFrom_231 : decode c10_valueFrom 231 = .ok (.getfield 134, 3) := by decide +kernel
theorem d10_valueFrom_234 : decode c10_valueFrom 234 = .ok (.sipush 3321, 3) := by decide +kernel
theorem d10_valueFrom_237 : decode c10_valueFrom 237 = .ok (.iload 4, 2) := by decide +kernel
theorem d10_valueFrom_239 : decode c10_valueFrom 239 = .ok (.iconst 1, 1) := by decide +kernel
theorem d10_valueFrom_240 : decode c10_valueFrom 240 = .ok (.iadd, 1) := by decide +kernel
theorem d10_valueFrom_241 : decode c10_valueFrom 241 = .ok (.imul, 1) := by decide +kernel
theorem d10_valueFrom_242 : decode c10_valueFrom 242 = .ok (.aload_n 0, 1) := by decide +kernel
theorem d10_valueFrom_243 : decode c10_valueFrom 243 = .ok (.getfield 115, 3) := by decide +kernel
theorem d10_valueFrom_246 : decode c10_valueFrom 246 = .ok (.iadd, 1) := by decide +kernel
theorem d10_valueFrom_247 : decode c10_valueFrom 247 = .ok (.iaload, 1) := by decide +kernel
theorem d10_valueFrom_248 : decode c10_valueFrom 248 = .ok (.istore 6, 2) := by decide +kernel
theorem d10_valueFrom_250 : decode c10_valueFrom 250 = .ok (.aload_n 0, 1) := by decide +kernel
theorem d10_valueFrom_251 : decode c10_valueFrom 251 = .ok (.iload_n 3, 1) := by decide +kernel
theorem d10_valueFrom_252 : decode c10_valueFrom 252 = .ok (.invokevirtual 322, 3) := by decide +kernel
theorem d10_valueFrom_255 : decode c10_valueFrom 255 = .ok (.ifCond .eq 32, 3) := by decide +kernel
theorem d10_valueFrom_258 : decode c10_valueFrom 258 = .ok (.bipush 100, 2) := by decide +kernel
theorem d10_valueFrom_260 : decode c10_valueFrom 260 = .ok (.aload_n 0, 1) := by decide +kernel
theorem d10_valueFrom_261 : decode c10_valueFrom 261 = .ok (.getfield 124, 3) := by decide +kernel
theorem d10_valueFrom_264 : decode c10_valueFrom 264 = .ok (.imul, 1) := by decide +kernel
theorem d10_valueFrom_265 : decode c10_valueFrom 265 = .ok (.aload_n 0, 1) := by decide +kernel
theorem d10_valueFrom_266 : decode c10_valueFrom 266 = .ok (.getfield 134, 3) := by decide +kernel
theorem d10_valueFrom_269 : decode c10_valueFrom 269 = .ok (.sipush 3321, 3) := by decide +kernel
theorem d10_valueFrom_272 : decode c10_valueFrom 272 = .ok (.iload 4, 2) := by decide +kernel
theorem d10_valueFrom_274 : decode c10_valueFrom 274 = .ok (.iconst 1, 1) := by decide +kernel
theorem d10_valueFrom_275 : decode c10_valueFrom 275 = .ok (.iadd, 1) := by decide +kernel
theorem d10_valueFrom_276 : decode c10_valueFrom 276 = .ok (.imul, 1) := by decide +kernel
theorem d10_valueFrom_277 : decode c10_valueFrom 277 = .ok (.aload_n 0, 1) := by decide +kernel
theorem d10_valueFrom_278 : decode c10_valueFrom 278 = .ok (.invokevirtual 325, 3) := by decide +kernel
theorem d10_valueFrom_281 : decode c10_valueFrom 281 = .ok (.iadd, 1) := by decide +kernel
theorem d10_valueFrom_282 : decode c10_valueFrom 282 = .ok (.iaload, 1) := by decide +kernel
theorem d10_valueFrom_283 : decode c10_valueFrom 283 = .ok (.iadd, 1) := by decide +kernel
theorem d10_valueFrom_284 : decode c10_valueFrom 284 = .ok (.goto 5, 3) := by decide +kernel
theorem d10_valueFrom_287 : decode c10_valueFrom 287 = .ok (.iload 6, 2) := by decide +kernel
theorem d10_valueFrom_289 : decode c10_valueFrom 289 = .ok (.istore 7, 2) := by decide +kernel
theorem d10_valueFrom_291 : decode c10_valueFrom 291 = .ok (.aload_n 0, 1) := by decide +kernel
theorem d10_valueFrom_292 : decode c10_valueFrom 292 = .ok (.getfield 134, 3) := by decide +kernel
theorem d10_valueFrom_295 : decode c10_valueFrom 295 = .ok (.sipush 3321, 3) := by decide +kernel
theorem d10_valueFrom_298 : decode c10_valueFrom 298 = .ok (.iload 4, 2) := by decide +kernel
theorem d10_valueFrom_300 : decode c10_valueFrom 300 = .ok (.imul, 1) := by decide +kernel
theorem d10_valueFrom_301 : decode c10_valueFrom 301 = .ok (.iload 5, 2) := by decide +kernel
theorem d10_valueFrom_303 : decode c10_valueFrom 303 = .ok (.iadd, 1) := by decide +kernel
theorem d10_valueFrom_304 : decode c10_valueFrom 304 = .ok (.iload 7, 2) := by decide +kernel
theorem d10_valueFrom_306 : decode c10_valueFrom 306 = .ok (.iload 6, 2) := by decide +kernel
theorem d10_valueFrom_308 : decode c10_valueFrom 308 = .ok (.if_icmp .le 8, 3) := by decide +kernel
theorem d10_valueFrom_311 : decode c10_valueFrom 311 = .ok (.iload 7, 2) := by decide +kernel
theorem d10_valueFrom_313 : decode c10_valueFrom 313 = .ok (.goto 5, 3) := by decide +kernel
theorem d10_valueFrom_316 : decode c10_valueFrom 316 = .ok (.iload 6, 2) := by decide +kernel
theorem d10_valueFrom_318 : decode c10_valueFrom 318 = .ok (.iastore, 1) := by decide +kernel
theorem d10_valueFrom_319 : decode c10_valueFrom 319 = .ok (.iinc 5 1, 3) := by decide +kernel
theorem d10_valueFrom_322 : decode c10_valueFrom 322 = .ok (.goto (-128), 3) := by decide +kernel
theorem d10_valueFrom_325 : decode c10_valueFrom 325 = .ok (.iinc 4 (-1), 3) := by decide +kernel
theorem d10_valueFrom_328 : decode c10_valueFrom 328 = .ok (.goto (-143), 3) := by decide +kernel
theorem d10_valueFrom_331 : decode c10_valueFrom 331 = .ok (.aload_n 0, 1) := by decide +kernel
theorem d10_valueFrom_332 : decode c10_valueFrom 332 = .ok (.getfield 134, 3) := by decide +kernel
theorem d10_valueFrom_335 : decode c10_valueFrom 335 = .ok (.sipush 3321, 3) := by decide +kernel
theorem d10_valueFrom_338 : decode c10_valueFrom 338 = .ok (.iload_n 1, 1) := by decide +kernel
theorem d10_valueFrom_339 : decode c10_valueFrom 339 = .ok (.imul, 1) := by decide +kernel
theorem d10_valueFrom_340 : decode c10_valueFrom 340 = .ok (.iload_n 2, 1) := by decide +kernel
theorem d10_valueFrom_341 : decode c10_valueFrom 341 = .ok (.iadd, 1) := by decide +kernel
theorem d10_valueFrom_342 : decode c10_valueFrom 342 = .ok (.iaload, 1) := by decide +kernel
theorem d10_valueFrom_343 : decode c10_valueFrom 343 = .ok (.ireturn, 1) := by decide +kernel
theorem mw10_valueFrom : MV y10_valueFrom c10_valueFrom 8 (some .int) 3 := ⟨cd10_valueFrom, ini10, na10_valueFrom, im10_valueFrom, se10_valueFrom⟩
set_option maxHeartbeats 4000000 in
set_option maxRecDepth 100000 in
theorem k10_valueFrom (l : Launch) (E : En) (mo : Nat) (ad : Nat → Nat) (S : Nat → Int) (co : Int → Int) (spr : Int → Int) (le : Int → Int) (K : Dy) (mk : Int → Int) (wo : Int → Int) (b : Int) (st0 : Int) (spare : Int) (hly : Lay K (S 28) (S 29) (S 30) (S 31) spr le co) (hb : 0 ≤ b ∧ b ≤ 11) (hs0 : 0 ≤ st0 ∧ st0 ≤ 3320) (hsp : 0 ≤ spare ∧ spare ≤ 20) (hmk : ∀ j, 0 ≤ j → j < 43173 → 0 ≤ mk j ∧ mk j ≤ 1) : Cm l E y10_valueFrom c10_valueFrom 8 (some .int) { frames := 2, cells := 0, slots := 0, locals := 47 } [.ref mo, .int (iZ b), .int (iZ st0), .int (iZ spare)] [(mo, mO ad S), (ad 22, aInt E 24 co), (ad 32, aInt E 12 spr), (ad 33, aInt E 588 le), (ad 39, aBoo E 43173 mk), (ad 40, aInt E 43173 wo)] (fun r ws => ∃ (v : Int), ∃ (mk1 : Int → Int), ∃ (wo1 : Int → Int), ∃ (nw1 : Int), ∃ (lo1 : Int), ∃ (dn1 : Int), ∃ (up1 : Int), ∃ (wa1 : Int), r = some (.int (iZ v)) ∧ ws = [(mo, mO ad (upS (upS (upS (upS (upS S 34 nw1) 35 lo1) 36 dn1) 37 up1) 38 wa1)), (ad 22, aInt E 24 co), (ad 32, aInt E 12 spr), (ad 33, aInt E 588 le), (ad 39, aBoo E 43173 mk1), (ad 40, aInt E 43173 wo1)] ∧ (v = Vn K spare b st0 ∧ mk1 (3321 * b + st0) ≠ 0 ∧ Best K spare b mk1 wo1 ∧ (∀ j, 0 ≤ j → j < 43173 → 0 ≤ mk1 j ∧ mk1 j ≤ 1))) := by
  refine Cm.of (by decide +kernel) (Nat.le_of_ble_eq_true rfl) (fun Γ A hl hargs hin G F => ?_)
  subst hl
  have hok : okD K := hly.2.2.2.2.1
  refine j_sipush G d10_valueFrom_0 rfl ?_
  refine j_iload_n G 1 rfl d10_valueFrom_3 ?_
  refine j_imul G d10_valueFrom_4 ?_
  refine j_istore G d10_valueFrom_5 (by decide) rfl ?_
  have lp7 : ∀ (fu : Nat) (kk : Int) (m : Int → Int), (43173 - kk).toNat < fu → (0 ≤ kk ∧ kk ≤ 43173) → (∀ j, 0 ≤ j → j < 43173 → 0 ≤ m j ∧ m j ≤ 1) →  J E 8 Γ (some A) 0 0 [(mo, mO ad S), (ad 22, aInt E 24 co), (ad 32, aInt E 12 spr), (ad 33, aInt E 588 le), (ad 39, aBoo E 43173 m), (ad 40, aInt E 43173 wo)] 7 [(4, .int (iZ kk)), (0, .ref mo), (1, .int (iZ b)), (2, .int (iZ st0)), (3, .int (iZ spare))] [] := by
    intro fu
    induction fu with
    | zero =>
      intro kk m hm
      exact absurd hm (Nat.not_lt_zero _)
    | succ fu ih7 =>
      intro kk m hm hk hm1
      refine j_iload G 0 rfl d10_valueFrom_7 ?_
      refine j_ldc G 43173 ct10_130 (by decide) d10_valueFrom_9 ?_
      refine j_icmp_ge (tgt := 28) G d10_valueFrom_11 (by decide) (by omega) (by decide) (fun h1 => ?_) (fun h1 => ?_)
      ·
        refine j_aload_n G 1 rfl d10_valueFrom_28 ?_
        refine j_get G 0 10 39 in10 fl10_131 d10_valueFrom_29 rfl rfl (by decide) (v := .ref (ad 39)) rfl rfl ?_
        refine j_sipush G d10_valueFrom_32 rfl ?_
        refine j_iload_n G 2 rfl d10_valueFrom_35 ?_
        refine j_imul G d10_valueFrom_36 ?_
        refine j_iload_n G 3 rfl d10_valueFrom_37 ?_
        refine j_iadd G d10_valueFrom_38 ?_
        refine j_iconst G d10_valueFrom_39 ?_
        refine j_zast G 4 rfl (by omega) (by decide) d10_valueFrom_40 ?_
        refine j_iload_n G 2 rfl d10_valueFrom_41 ?_
        refine j_istore G d10_valueFrom_42 (by decide) rfl ?_
        refine j_eq (ws' := [(mo, mO ad (upS (upS (upS (upS (upS S 34 (S 34)) 35 (S 35)) 36 (S 36)) 37 (S 37)) 38 (S 38))), (ad 22, aInt E 24 co), (ad 32, aInt E 12 spr), (ad 33, aInt E 588 le), (ad 39, aBoo E 43173 (upI m ((3321 * b) + st0) 1)), (ad 40, aInt E 43173 wo)]) rfl rfl rfl ?_
        have lp44 : ∀ (fu : Nat) (s : Int) (m2 : Int → Int) (nw : Int) (lo : Int) (dn : Int) (up : Int) (wa : Int), (12 - s).toNat < fu → (b ≤ s ∧ s ≤ 12) → (∀ j, 0 ≤ j → j < 43173 → 0 ≤ m2 j ∧ m2 j ≤ 1) → (m2 (3321 * b + st0) ≠ 0) → (Cl K spare b m2 s 0) →  J E 8 Γ (some A) 0 0 [(mo, mO ad (upS (upS (upS (upS (upS S 34 nw) 35 lo) 36 dn) 37 up) 38 wa)), (ad 22, aInt E 24 co), (ad 32, aInt E 12 spr), (ad 33, aInt E 588 le), (ad 39, aBoo E 43173 m2), (ad 40, aInt E 43173 wo)] 44 [(4, .int (iZ s)), (0, .ref mo), (1, .int (iZ b)), (2, .int (iZ st0)), (3, .int (iZ spare))] [] := by
          intro fu
          induction fu with
          | zero =>
            intro s m2 nw lo dn up wa hm
            exact absurd hm (Nat.not_lt_zero _)
          | succ fu ih44 =>
            intro s m2 nw lo dn up wa hm hs hm2 hst0 hcl
            refine j_iload G 0 rfl d10_valueFrom_44 ?_
            refine j_bipush G d10_valueFrom_46 rfl ?_
            refine j_icmp_ge (tgt := 148) G d10_valueFrom_48 (by decide) (by omega) (by decide) (fun h2 => ?_) (fun h2 => ?_)
            ·
              have e12 : s = 12 := by omega
              have hcl12 : Cl K spare b m2 12 0 := by rw [← e12]; exact hcl
              refine j_iconst G d10_valueFrom_148 ?_
              refine j_istore G d10_valueFrom_149 (by decide) rfl ?_
              have lp151 : ∀ (fu : Nat) (kq : Int) (w : Int → Int), (3321 - kq).toNat < fu → (0 ≤ kq ∧ kq ≤ 3321) → (∀ j, 0 ≤ j → j < kq → w (39852 + j) = j / 81) →  J E 8 Γ (some A) 0 0 [(mo, mO ad (upS (upS (upS (upS (upS S 34 nw) 35 lo) 36 dn) 37 up) 38 wa)), (ad 22, aInt E 24 co), (ad 32, aInt E 12 spr), (ad 33, aInt E 588 le), (ad 39, aBoo E 43173 m2), (ad 40, aInt E 43173 w)] 151 [(4, .int (iZ kq)), (0, .ref mo), (1, .int (iZ b)), (2, .int (iZ st0)), (3, .int (iZ spare))] [] := by
                intro fu
                induction fu with
                | zero =>
                  intro kq w hm
                  exact absurd hm (Nat.not_lt_zero _)
                | succ fu ih151 =>
                  intro kq w hm hkq hw1
                  refine j_iload G 0 rfl d10_valueFrom_151 ?_
                  refine j_sipush G d10_valueFrom_153 rfl ?_
                  refine j_icmp_ge (tgt := 181) G d10_valueFrom_156 (by decide) (by omega) (by decide) (fun h3 => ?_) (fun h3 => ?_)
                  ·
                    refine j_bipush G d10_valueFrom_181 rfl ?_
                    refine j_istore G d10_valueFrom_183 (by decide) rfl ?_
                    have lp185 : ∀ (fu : Nat) (t : Int) (w2 : Int → Int) (nw3 : Int) (lo3 : Int) (dn3 : Int) (up3 : Int) (wa3 : Int), (t + 1).toNat < fu → (b - 1 ≤ t ∧ t ≤ 11) → (Va K spare m2 w2 t 0) →  J E 8 Γ (some A) 0 0 [(mo, mO ad (upS (upS (upS (upS (upS S 34 nw3) 35 lo3) 36 dn3) 37 up3) 38 wa3)), (ad 22, aInt E 24 co), (ad 32, aInt E 12 spr), (ad 33, aInt E 588 le), (ad 39, aBoo E 43173 m2), (ad 40, aInt E 43173 w2)] 185 [(4, .int (iZ t)), (0, .ref mo), (1, .int (iZ b)), (2, .int (iZ st0)), (3, .int (iZ spare))] [] := by
                      intro fu
                      induction fu with
                      | zero =>
                        intro t w2 nw3 lo3 dn3 up3 wa3 hm
                        exact absurd hm (Nat.not_lt_zero _)
                      | succ fu ih185 =>
                        intro t w2 nw3 lo3 dn3 up3 wa3 hm ht hva
                        refine j_iload G 0 rfl d10_valueFrom_185 ?_
                        refine j_iload_n G 2 rfl d10_valueFrom_187 ?_
                        refine j_icmp_lt (tgt := 331) G d10_valueFrom_188 (by decide) (by omega) (by omega) (fun h4 => ?_) (fun h4 => ?_)
                        ·
                          have hvb : Va K spare m2 w2 (b - 1) 0 := (show t = b - 1 by omega) ▸ hva
                          refine j_aload_n G 1 rfl d10_valueFrom_331 ?_
                          refine j_get G 0 10 40 in10 fl10_134 d10_valueFrom_332 rfl rfl (by decide) (v := .ref (ad 40)) rfl rfl ?_
                          refine j_sipush G d10_valueFrom_335 rfl ?_
                          refine j_iload_n G 2 rfl d10_valueFrom_338 ?_
                          refine j_imul G d10_valueFrom_339 ?_
                          refine j_iload_n G 3 rfl d10_valueFrom_340 ?_
                          refine j_iadd G d10_valueFrom_341 ?_
                          refine j_iald G 5 rfl (by omega) d10_valueFrom_342 ?_
                          exact j_iret G F d10_valueFrom_343 ⟨w2 ((3321 * b) + st0), m2, w2, nw3, lo3, dn3, up3, wa3, rfl, rfl, (by exact ⟨hva b st0 (by omega) (by omega) (by omega) (by omega) (by omega) (Or.inr hst0), hst0, ⟨hcl12, hvb⟩, hm2⟩)⟩
                        ·
                          refine j_iconst G d10_valueFrom_191 ?_
                          refine j_istore G d10_valueFrom_192 (by decide) rfl ?_
                          have lp194 : ∀ (fu : Nat) (k : Int) (w3 : Int → Int) (nw4 : Int) (lo4 : Int) (dn4 : Int) (up4 : Int) (wa4 : Int), (3321 - k).toNat < fu → (0 ≤ k ∧ k ≤ 3321) → (Va K spare m2 w3 t k) →  J E 8 Γ (some A) 0 0 [(mo, mO ad (upS (upS (upS (upS (upS S 34 nw4) 35 lo4) 36 dn4) 37 up4) 38 wa4)), (ad 22, aInt E 24 co), (ad 32, aInt E 12 spr), (ad 33, aInt E 588 le), (ad 39, aBoo E 43173 m2), (ad 40, aInt E 43173 w3)] 194 [(5, .int (iZ k)), (4, .int (iZ t)), (0, .ref mo), (1, .int (iZ b)), (2, .int (iZ st0)), (3, .int (iZ spare))] [] := by
                            intro fu
                            induction fu with
                            | zero =>
                              intro k w3 nw4 lo4 dn4 up4 wa4 hm
                              exact absurd hm (Nat.not_lt_zero _)
                            | succ fu ih194 =>
                              intro k w3 nw4 lo4 dn4 up4 wa4 hm hkk hva2
                              refine j_iload G 0 rfl d10_valueFrom_194 ?_
                              refine j_sipush G d10_valueFrom_196 rfl ?_
                              refine j_icmp_ge (tgt := 325) G d10_valueFrom_199 (by decide) (by omega) (by decide) (fun h5 => ?_) (fun h5 => ?_)
                              ·
                                refine j_iinc G d10_valueFrom_325 1 rfl (by decide) rfl ?_
                                refine j_goto (tgt := 185) G d10_valueFrom_328 (by decide) ?_
                                refine j_locs (ls' := [(4, .int (iZ (t + (-1)))), (0, .ref mo), (1, .int (iZ b)), (2, .int (iZ st0)), (3, .int (iZ spare))]) [0, 2, 3, 4, 5] rfl ?_
                                exact ih185 (t + (-1)) w3 nw4 lo4 dn4 up4 wa4 (by omega) (by first | assumption | omega) (vl_row hva2 (by omega))
                              ·
                                refine j_aload_n G 2 rfl d10_valueFrom_202 ?_
                                refine j_get G 0 10 39 in10 fl10_131 d10_valueFrom_203 rfl rfl (by decide) (v := .ref (ad 39)) rfl rfl ?_
                                refine j_sipush G d10_valueFrom_206 rfl ?_
                                refine j_iload G 1 rfl d10_valueFrom_209 ?_
                                refine j_imul G d10_valueFrom_211 ?_
                                refine j_iload G 0 rfl d10_valueFrom_212 ?_
                                refine j_iadd G d10_valueFrom_214 ?_
                                refine j_zald G 4 rfl (by omega) d10_valueFrom_215 ?_
                                have hb6 := hm2 ((3321 * t) + k) (by omega) (by omega)
                                refine j_if_ne (tgt := 222) G d10_valueFrom_216 (by decide) (by omega) (fun h7 => ?_) (fun h7 => ?_)
                                ·
                                  refine j_aload_n G 2 rfl d10_valueFrom_222 ?_
                                  refine j_iload G 1 rfl d10_valueFrom_223 ?_
                                  refine j_iload G 0 rfl d10_valueFrom_225 ?_
                                  refine j_VM G (rm' := { frames := 1, cells := 0, slots := 0, locals := 22 }) (wc := [(mo, mO ad (upS (upS (upS (upS (upS S 34 nw4) 35 lo4) 36 dn4) 37 up4) 38 wa4)), (ad 22, aInt E 24 co), (ad 32, aInt E 12 spr), (ad 33, aInt E 588 le)]) (wr := [(ad 39, aBoo E 43173 m2), (ad 40, aInt E 43173 w3)]) (k10_comesIn (xl Γ) E mo ad (upS (upS (upS (upS (upS S 34 nw4) 35 lo4) 36 dn4) 37 up4) 38 wa4) co spr le K t k (by first | assumption | omega | (simp only [upS, reduceIte, Nat.reduceEqDiff, eq_self, List.length_cons, List.length_nil, List.length_append] <;> omega)) (by first | assumption | omega | (simp only [upS, reduceIte, Nat.reduceEqDiff, eq_self, List.length_cons, List.length_nil, List.length_append] <;> omega)) (by first | assumption | omega | (simp only [upS, reduceIte, Nat.reduceEqDiff, eq_self, List.length_cons, List.length_nil, List.length_append] <;> omega))) mw10_comesIn ml10_318 [0, 1, 2, 3] [4, 5] rfl rfl ⟨rfl, rfl⟩ (by decide) 0 10 rfl rfl rfl ⟨Nat.le_of_ble_eq_true rfl, Nat.le_of_ble_eq_true rfl⟩ rfl (rest := []) rfl (Nat.le_of_ble_eq_true rfl) d10_valueFrom_227 ⟨Nat.le_of_ble_eq_true rfl, Nat.le_of_ble_eq_true rfl⟩ (fun r w1 hr => ?_)
                                  obtain ⟨nw_9, lo_10, dn_11, up_12, wa_13, rfl, rfl, ⟨hq8_0, hq8_1, hq8_2, hq8_3, hq8_4⟩⟩ := hr
                                  refine j_eq (ws' := [(ad 39, aBoo E 43173 m2), (ad 40, aInt E 43173 w3), (mo, mO ad (upS (upS (upS (upS (upS S 34 nw_9) 35 lo_10) 36 dn_11) 37 up_12) 38 wa_13)), (ad 22, aInt E 24 co), (ad 32, aInt E 12 spr), (ad 33, aInt E 588 le)]) rfl rfl rfl ?_
                                  try simp only [upS, reduceIte, Nat.reduceEqDiff, eq_self] at hq8_0 hq8_1 hq8_2 hq8_3 hq8_4
                                  have hnw := hq8_0
                                  have hup := hq8_3
                                  have hwa := hq8_4
                                  have hdn := hq8_2
                                  have hdr := dR hok (s := t) (st := k) (by omega) (by omega)
                                  have hnr := dNow_r hok (s := t) (st := k) (by omega) (by omega)
                                  have hgr := fun q : dCan K t k spare => dGone_r hok (s := t) (st := k) (by omega) (by omega) hsp.1 q
                                  have hmm := hcl12 t k (by omega) (by omega) (by omega) (by omega) (by omega)
                                  have haN : w3 (3321 * (t + 1) + nw_9) = Vn K spare (t + 1) (dNow K t k) := by rw [hnw]; exact hva2 (t + 1) (dNow K t k) (by omega) (by omega) hnr.1 hnr.2 (by omega) (Or.inr hmm.1)
                                  have hvr := Vn_r hok hsp.1 (s := t + 1) (st := dNow K t k) (by omega) hnr
                                  have haG : dCan K t k spare → w3 (3321 * (t + 1) + (nw_9 - 81 * wa_13 - 9 * dn_11 - up_12)) = Vn K spare (t + 1) (dGone K t k) := fun q => by rw [show nw_9 - 81 * wa_13 - 9 * dn_11 - up_12 = dGone K t k by unfold dGone; omega]; exact hva2 (t + 1) (dGone K t k) (by omega) (by omega) (hgr q).1 (hgr q).2 (by omega) (Or.inr (hmm.2 q))
                                  refine j_aload_n G 2 rfl d10_valueFrom_230 ?_
                                  refine j_get G 2 10 40 in10 fl10_134 d10_valueFrom_231 rfl rfl (by decide) (v := .ref (ad 40)) rfl rfl ?_
                                  refine j_sipush G d10_valueFrom_234 rfl ?_
                                  refine j_iload G 1 rfl d10_valueFrom_237 ?_
                                  refine j_iconst G d10_valueFrom_239 ?_
                                  refine j_iadd G d10_valueFrom_240 ?_
                                  refine j_imul G d10_valueFrom_241 ?_
                                  refine j_aload_n G 2 rfl d10_valueFrom_242 ?_
                                  refine j_get G 2 10 34 in10 fl10_115 d10_valueFrom_243 rfl rfl (by decide) (v := .int (iZ nw_9)) rfl rfl ?_
                                  refine j_iadd G d10_valueFrom_246 ?_
                                  refine j_iald G 1 rfl (by omega) d10_valueFrom_247 ?_
                                  refine j_istore G d10_valueFrom_248 (by decide) rfl ?_
                                  refine j_aload_n G 3 rfl d10_valueFrom_250 ?_
                                  refine j_iload_n G 6 rfl d10_valueFrom_251 ?_
                                  refine j_VP G (k10_can (xl Γ) E mo ad (upS (upS (upS (upS (upS S 34 nw_9) 35 lo_10) 36 dn_11) 37 up_12) 38 wa_13) spare (by first | assumption | omega | (simp only [upS, reduceIte, Nat.reduceEqDiff, eq_self, List.length_cons, List.length_nil, List.length_append] <;> omega)) (by first | assumption | omega | (simp only [upS, reduceIte, Nat.reduceEqDiff, eq_self, List.length_cons, List.length_nil, List.length_append] <;> omega)) (by first | assumption | omega | (simp only [upS, reduceIte, Nat.reduceEqDiff, eq_self, List.length_cons, List.length_nil, List.length_append] <;> omega))) mw10_can ml10_322 [2] rfl 2 10 rfl rfl rfl ⟨Nat.le_of_ble_eq_true rfl, Nat.le_of_ble_eq_true rfl⟩ rfl (rest := []) rfl (Nat.le_of_ble_eq_true rfl) d10_valueFrom_252 ⟨Nat.le_of_ble_eq_true rfl, Nat.le_of_ble_eq_true rfl⟩ (fun r hr => ?_)
                                  obtain ⟨v15, rfl, hq14⟩ := hr
                                  try simp only [upS, reduceIte, Nat.reduceEqDiff, eq_self] at hq14
                                  rcases hq14 with ⟨hq14, rfl⟩ | ⟨hq14, rfl⟩
                                  ·
                                    refine j_if_eq (tgt := 287) G d10_valueFrom_255 (by decide) (by decide) (fun h16 => absurd h16 (by decide)) (fun h16 => ?_)
                                    have hcc : dCan K t k spare := ⟨by omega, by omega⟩
                                    have haG2 := haG hcc
                                    have hvg := Vn_r hok hsp.1 (s := t + 1) (st := dGone K t k) (by omega) (hgr hcc)
                                    have hge : dGone K t k = dNow K t k - 81 * dW K t k - 9 * dDn K t k - dUp K t k := rfl
                                    have hgg := hgr hcc
                                    refine j_bipush G d10_valueFrom_258 rfl ?_
                                    refine j_aload_n G 3 rfl d10_valueFrom_260 ?_
                                    refine j_get G 2 10 37 in10 fl10_124 d10_valueFrom_261 rfl rfl (by decide) (v := .int (iZ up_12)) rfl rfl ?_
                                    refine j_imul G d10_valueFrom_264 ?_
                                    refine j_aload_n G 3 rfl d10_valueFrom_265 ?_
                                    refine j_get G 2 10 40 in10 fl10_134 d10_valueFrom_266 rfl rfl (by decide) (v := .ref (ad 40)) rfl rfl ?_
                                    refine j_sipush G d10_valueFrom_269 rfl ?_
                                    refine j_iload G 2 rfl d10_valueFrom_272 ?_
                                    refine j_iconst G d10_valueFrom_274 ?_
                                    refine j_iadd G d10_valueFrom_275 ?_
                                    refine j_imul G d10_valueFrom_276 ?_
                                    refine j_aload_n G 3 rfl d10_valueFrom_277 ?_
                                    refine j_VP G (k10_gone (xl Γ) E mo ad (upS (upS (upS (upS (upS S 34 nw_9) 35 lo_10) 36 dn_11) 37 up_12) 38 wa_13) ) mw10_gone ml10_325 [2] rfl 2 10 rfl rfl rfl ⟨Nat.le_of_ble_eq_true rfl, Nat.le_of_ble_eq_true rfl⟩ rfl (rest := [.int (iZ (3321 * (t + 1))), .ref (ad 40), .int (iZ (100 * up_12))]) rfl (Nat.le_of_ble_eq_true rfl) d10_valueFrom_278 ⟨Nat.le_of_ble_eq_true rfl, Nat.le_of_ble_eq_true rfl⟩ (fun r hr => ?_)
                                    obtain ⟨_, rfl, rfl⟩ := hr
                                    refine j_eq (st' := [.int (iZ (nw_9 - 81 * wa_13 - 9 * dn_11 - up_12)), .int (iZ (3321 * (t + 1))), .ref (ad 40), .int (iZ (100 * up_12))]) rfl rfl rfl ?_
                                    refine j_iadd G d10_valueFrom_281 ?_
                                    refine j_iald G 1 rfl (by omega) d10_valueFrom_282 ?_
                                    refine j_iadd G d10_valueFrom_283 ?_
                                    refine j_goto (tgt := 289) G d10_valueFrom_284 (by decide) ?_
                                    refine j_nm (fun x18 ex18 => ?_)
                                    refine j_istore G d10_valueFrom_289 (by decide) rfl ?_
                                    refine j_aload_n G 4 rfl d10_valueFrom_291 ?_
                                    refine j_get G 2 10 40 in10 fl10_134 d10_valueFrom_292 rfl rfl (by decide) (v := .ref (ad 40)) rfl rfl ?_
                                    refine j_sipush G d10_valueFrom_295 rfl ?_
                                    refine j_iload G 3 rfl d10_valueFrom_298 ?_
                                    refine j_imul G d10_valueFrom_300 ?_
                                    refine j_iload G 2 rfl d10_valueFrom_301 ?_
                                    refine j_iadd G d10_valueFrom_303 ?_
                                    refine j_iload G 0 rfl d10_valueFrom_304 ?_
                                    refine j_iload G 1 rfl d10_valueFrom_306 ?_
                                    have mg308 : ∀ x19 : Int, x19 = (if x18 ≤ w3 ((3321 * (t + 1)) + nw_9) then (w3 ((3321 * (t + 1)) + nw_9)) else x18) → J E 8 Γ (some A) 0 0 [(ad 39, aBoo E 43173 m2), (ad 40, aInt E 43173 w3), (mo, mO ad (upS (upS (upS (upS (upS S 34 nw_9) 35 lo_10) 36 dn_11) 37 up_12) 38 wa_13)), (ad 22, aInt E 24 co), (ad 32, aInt E 12 spr), (ad 33, aInt E 588 le)] 318 [(7, .int (iZ x18)), (6, .int (iZ (w3 ((3321 * (t + 1)) + nw_9)))), (5, .int (iZ k)), (4, .int (iZ t)), (0, .ref mo), (1, .int (iZ b)), (2, .int (iZ st0)), (3, .int (iZ spare))] ([.int (iZ x19), .int (iZ ((3321 * t) + k)), .ref (ad 40)]) := by
                                      intro x19 ex19
                                      have hxv : x19 = Vn K spare t k := by first | exact v_none (by omega) haN hnc ex19 | exact v_trip (by omega) haN hcc hup haG2 ex19 (by assumption)
                                      refine j_iast G 1 rfl (by omega) d10_valueFrom_318 ?_
                                      refine j_iinc G d10_valueFrom_319 2 rfl (by decide) rfl ?_
                                      refine j_goto (tgt := 194) G d10_valueFrom_322 (by decide) ?_
                                      refine j_locs (ls' := [(5, .int (iZ (k + 1))), (4, .int (iZ t)), (0, .ref mo), (1, .int (iZ b)), (2, .int (iZ st0)), (3, .int (iZ spare))]) [0, 3, 4, 5, 6, 7] rfl ?_
                                      refine j_perm (ws' := [(mo, mO ad (upS (upS (upS (upS (upS S 34 nw_9) 35 lo_10) 36 dn_11) 37 up_12) 38 wa_13)), (ad 22, aInt E 24 co), (ad 32, aInt E 12 spr), (ad 33, aInt E 588 le), (ad 39, aBoo E 43173 m2), (ad 40, aInt E 43173 (upI w3 ((3321 * t) + k) x19))]) [2, 3, 4, 5, 0, 1] rfl rfl rfl ?_
                                      exact ih194 (k + 1) (upI w3 ((3321 * t) + k) x19) nw_9 lo_10 dn_11 up_12 wa_13 (by omega) (by first | assumption | omega) (by first | exact vl_skip hva2 (by omega) (by omega) | exact vl_put hva2 (by omega) hxv)
                                    refine j_icmp_le (tgt := 316) G d10_valueFrom_308 (by decide) (by omega) (by omega) (fun h20 => ?_) (fun h20 => ?_)
                                    ·
                                      refine j_iload G 1 rfl d10_valueFrom_316 ?_
                                      refine j_eq (ws' := [(ad 39, aBoo E 43173 m2), (ad 40, aInt E 43173 w3), (mo, mO ad (upS (upS (upS (upS (upS S 34 nw_9) 35 lo_10) 36 dn_11) 37 up_12) 38 wa_13)), (ad 22, aInt E 24 co), (ad 32, aInt E 12 spr), (ad 33, aInt E 588 le)]) (ls' := [(7, .int (iZ x18)), (6, .int (iZ (w3 ((3321 * (t + 1)) + nw_9)))), (5, .int (iZ k)), (4, .int (iZ t)), (0, .ref mo), (1, .int (iZ b)), (2, .int (iZ st0)), (3, .int (iZ spare))]) rfl rfl rfl ?_
                                      exact mg308 _ (by first | rfl | (simp only [*, if_true, if_false, ite_true, ite_false]; done) | (split <;> first | rfl | omega | (split <;> first | rfl | omega | (split <;> first | rfl | omega))))
                                    ·
                                      refine j_iload G 0 rfl d10_valueFrom_311 ?_
                                      refine j_goto (tgt := 318) G d10_valueFrom_313 (by decide) ?_
                                      refine j_eq (ws' := [(ad 39, aBoo E 43173 m2), (ad 40, aInt E 43173 w3), (mo, mO ad (upS (upS (upS (upS (upS S 34 nw_9) 35 lo_10) 36 dn_11) 37 up_12) 38 wa_13)), (ad 22, aInt E 24 co), (ad 32, aInt E 12 spr), (ad 33, aInt E 588 le)]) (ls' := [(7, .int (iZ x18)), (6, .int (iZ (w3 ((3321 * (t + 1)) + nw_9)))), (5, .int (iZ k)), (4, .int (iZ t)), (0, .ref mo), (1, .int (iZ b)), (2, .int (iZ st0)), (3, .int (iZ spare))]) rfl rfl rfl ?_
                                      exact mg308 _ (by first | rfl | (simp only [*, if_true, if_false, ite_true, ite_false]; done) | (split <;> first | rfl | omega | (split <;> first | rfl | omega | (split <;> first | rfl | omega))))
                                  ·
                                    refine j_if_eq (tgt := 287) G d10_valueFrom_255 (by decide) (by decide) (fun h21 => ?_) (fun h21 => absurd h21 (by decide))
                                    have hnc : ¬ dCan K t k spare := fun q => by obtain ⟨q1, q2⟩ := q; omega
                                    refine j_iload G 0 rfl d10_valueFrom_287 ?_
                                    refine j_istore G d10_valueFrom_289 (by decide) rfl ?_
                                    refine j_aload_n G 4 rfl d10_valueFrom_291 ?_
                                    refine j_get G 2 10 40 in10 fl10_134 d10_valueFrom_292 rfl rfl (by decide) (v := .ref (ad 40)) rfl rfl ?_
                                    refine j_sipush G d10_valueFrom_295 rfl ?_
                                    refine j_iload G 3 rfl d10_valueFrom_298 ?_
                                    refine j_imul G d10_valueFrom_300 ?_
                                    refine j_iload G 2 rfl d10_valueFrom_301 ?_
                                    refine j_iadd G d10_valueFrom_303 ?_
                                    refine j_iload G 0 rfl d10_valueFrom_304 ?_
                                    refine j_iload G 1 rfl d10_valueFrom_306 ?_
                                    have mg308 : ∀ x22 : Int, x22 = (w3 ((3321 * (t + 1)) + nw_9)) → J E 8 Γ (some A) 0 0 [(ad 39, aBoo E 43173 m2), (ad 40, aInt E 43173 w3), (mo, mO ad (upS (upS (upS (upS (upS S 34 nw_9) 35 lo_10) 36 dn_11) 37 up_12) 38 wa_13)), (ad 22, aInt E 24 co), (ad 32, aInt E 12 spr), (ad 33, aInt E 588 le)] 318 [(7, .int (iZ (w3 ((3321 * (t + 1)) + nw_9)))), (6, .int (iZ (w3 ((3321 * (t + 1)) + nw_9)))), (5, .int (iZ k)), (4, .int (iZ t)), (0, .ref mo), (1, .int (iZ b)), (2, .int (iZ st0)), (3, .int (iZ spare))] ([.int (iZ x22), .int (iZ ((3321 * t) + k)), .ref (ad 40)]) := by
                                      intro x22 ex22
                                      have hxv : x22 = Vn K spare t k := by first | exact v_none (by omega) haN hnc ex22 | exact v_trip (by omega) haN hcc hup haG2 ex22 (by assumption)
                                      refine j_iast G 1 rfl (by omega) d10_valueFrom_318 ?_
                                      refine j_iinc G d10_valueFrom_319 2 rfl (by decide) rfl ?_
                                      refine j_goto (tgt := 194) G d10_valueFrom_322 (by decide) ?_
                                      refine j_locs (ls' := [(5, .int (iZ (k + 1))), (4, .int (iZ t)), (0, .ref mo), (1, .int (iZ b)), (2, .int (iZ st0)), (3, .int (iZ spare))]) [0, 3, 4, 5, 6, 7] rfl ?_
                                      refine j_perm (ws' := [(mo, mO ad (upS (upS (upS (upS (upS S 34 nw_9) 35 lo_10) 36 dn_11) 37 up_12) 38 wa_13)), (ad 22, aInt E 24 co), (ad 32, aInt E 12 spr), (ad 33, aInt E 588 le), (ad 39, aBoo E 43173 m2), (ad 40, aInt E 43173 (upI w3 ((3321 * t) + k) x22))]) [2, 3, 4, 5, 0, 1] rfl rfl rfl ?_
                                      exact ih194 (k + 1) (upI w3 ((3321 * t) + k) x22) nw_9 lo_10 dn_11 up_12 wa_13 (by omega) (by first | assumption | omega) (by first | exact vl_skip hva2 (by omega) (by omega) | exact vl_put hva2 (by omega) hxv)
                                    refine j_icmp_le (tgt := 316) G d10_valueFrom_308 (by decide) (by omega) (by omega) (fun h23 => ?_) (fun h23 => ?_)
                                    ·
                                      refine j_iload G 1 rfl d10_valueFrom_316 ?_
                                      refine j_eq (ws' := [(ad 39, aBoo E 43173 m2), (ad 40, aInt E 43173 w3), (mo, mO ad (upS (upS (upS (upS (upS S 34 nw_9) 35 lo_10) 36 dn_11) 37 up_12) 38 wa_13)), (ad 22, aInt E 24 co), (ad 32, aInt E 12 spr), (ad 33, aInt E 588 le)]) (ls' := [(7, .int (iZ (w3 ((3321 * (t + 1)) + nw_9)))), (6, .int (iZ (w3 ((3321 * (t + 1)) + nw_9)))), (5, .int (iZ k)), (4, .int (iZ t)), (0, .ref mo), (1, .int (iZ b)), (2, .int (iZ st0)), (3, .int (iZ spare))]) rfl rfl rfl ?_
                                      exact mg308 _ (by first | rfl | (simp only [*, if_true, if_false, ite_true, ite_false]; done) | (split <;> first | rfl | omega | (split <;> first | rfl | omega | (split <;> first | rfl | omega))))
                                    ·
                                      refine j_iload G 0 rfl d10_valueFrom_311 ?_
                                      refine j_goto (tgt := 318) G d10_valueFrom_313 (by decide) ?_
                                      refine j_eq (ws' := [(ad 39, aBoo E 43173 m2), (ad 40, aInt E 43173 w3), (mo, mO ad (upS (upS (upS (upS (upS S 34 nw_9) 35 lo_10) 36 dn_11) 37 up_12) 38 wa_13)), (ad 22, aInt E 24 co), (ad 32, aInt E 12 spr), (ad 33, aInt E 588 le)]) (ls' := [(7, .int (iZ (w3 ((3321 * (t + 1)) + nw_9)))), (6, .int (iZ (w3 ((3321 * (t + 1)) + nw_9)))), (5, .int (iZ k)), (4, .int (iZ t)), (0, .ref mo), (1, .int (iZ b)), (2, .int (iZ st0)), (3, .int (iZ spare))]) rfl rfl rfl ?_
                                      exact mg308 _ (by first | rfl | (simp only [*, if_true, if_false, ite_true, ite_false]; done) | (split <;> first | rfl | omega | (split <;> first | rfl | omega | (split <;> first | rfl | omega))))
                                ·
                                  refine j_goto (tgt := 319) G d10_valueFrom_219 (by decide) ?_
                                  refine j_iinc G d10_valueFrom_319 0 rfl (by decide) rfl ?_
                                  refine j_goto (tgt := 194) G d10_valueFrom_322 (by decide) ?_
                                  exact ih194 (k + 1) w3 nw4 lo4 dn4 up4 wa4 (by omega) (by first | assumption | omega) (by first | exact vl_skip hva2 (by omega) (by omega) | exact vl_put hva2 (by omega) hxv)
                          exact lp194 _ 0 w2 nw3 lo3 dn3 up3 wa3 (Nat.lt_succ_self _) (by first | assumption | omega) hva
                    exact lp185 _ 11 w nw lo dn up wa (Nat.lt_succ_self _) (by first | assumption | omega) (vl_0 hw1 (by omega))
                  ·
                    refine j_aload_n G 1 rfl d10_valueFrom_159 ?_
                    refine j_get G 0 10 40 in10 fl10_134 d10_valueFrom_160 rfl rfl (by decide) (v := .ref (ad 40)) rfl rfl ?_
                    refine j_ldcw G 39852 ct10_328 (by decide) d10_valueFrom_163 ?_
                    refine j_iload G 0 rfl d10_valueFrom_166 ?_
                    refine j_iadd G d10_valueFrom_168 ?_
                    refine j_iload G 0 rfl d10_valueFrom_169 ?_
                    refine j_bipush G d10_valueFrom_171 rfl ?_
                    refine j_idiv G d10_valueFrom_173 (by omega) ?_
                    refine j_iast G 5 rfl (by omega) d10_valueFrom_174 ?_
                    refine j_iinc G d10_valueFrom_175 0 rfl (by decide) rfl ?_
                    refine j_goto (tgt := 151) G d10_valueFrom_178 (by decide) ?_
                    exact ih151 (kq + 1) (upI w (39852 + kq) (kq / 81)) (by omega) (by first | assumption | omega) (fun j h1 h2 => if hj : j = kq then (by subst hj; unfold upI; rw [if_pos rfl]) else (by unfold upI; rw [if_neg (by omega)]; exact hw1 j h1 (by omega)))
              exact lp151 _ 0 wo (Nat.lt_succ_self _) (by first | assumption | omega) (fun j h1 h2 => by omega)
            ·
              refine j_iconst G d10_valueFrom_51 ?_
              refine j_istore G d10_valueFrom_52 (by decide) rfl ?_
              have lp54 : ∀ (fu : Nat) (k : Int) (m3 : Int → Int) (nw2 : Int) (lo2 : Int) (dn2 : Int) (up2 : Int) (wa2 : Int), (3321 - k).toNat < fu → (0 ≤ k ∧ k ≤ 3321) → (∀ j, 0 ≤ j → j < 43173 → 0 ≤ m3 j ∧ m3 j ≤ 1) → (m3 (3321 * b + st0) ≠ 0) → (Cl K spare b m3 s k) →  J E 8 Γ (some A) 0 0 [(mo, mO ad (upS (upS (upS (upS (upS S 34 nw2) 35 lo2) 36 dn2) 37 up2) 38 wa2)), (ad 22, aInt E 24 co), (ad 32, aInt E 12 spr), (ad 33, aInt E 588 le), (ad 39, aBoo E 43173 m3), (ad 40, aInt E 43173 wo)] 54 [(5, .int (iZ k)), (4, .int (iZ s)), (0, .ref mo), (1, .int (iZ b)), (2, .int (iZ st0)), (3, .int (iZ spare))] [] := by
                intro fu
                induction fu with
                | zero =>
                  intro k m3 nw2 lo2 dn2 up2 wa2 hm
                  exact absurd hm (Nat.not_lt_zero _)
                | succ fu ih54 =>
                  intro k m3 nw2 lo2 dn2 up2 wa2 hm hkk hm3 hst3 hcl3
                  refine j_iload G 0 rfl d10_valueFrom_54 ?_
                  refine j_sipush G d10_valueFrom_56 rfl ?_
                  refine j_icmp_ge (tgt := 142) G d10_valueFrom_59 (by decide) (by omega) (by decide) (fun h24 => ?_) (fun h24 => ?_)
                  ·
                    refine j_iinc G d10_valueFrom_142 1 rfl (by decide) rfl ?_
                    refine j_goto (tgt := 44) G d10_valueFrom_145 (by decide) ?_
                    refine j_locs (ls' := [(4, .int (iZ (s + 1))), (0, .ref mo), (1, .int (iZ b)), (2, .int (iZ st0)), (3, .int (iZ spare))]) [0, 2, 3, 4, 5] rfl ?_
                    exact ih44 (s + 1) m3 nw2 lo2 dn2 up2 wa2 (by omega) (by first | assumption | omega) hm3 hst3 (cl_row hcl3 (by omega))
                  ·
                    refine j_aload_n G 2 rfl d10_valueFrom_62 ?_
                    refine j_get G 0 10 39 in10 fl10_131 d10_valueFrom_63 rfl rfl (by decide) (v := .ref (ad 39)) rfl rfl ?_
                    refine j_sipush G d10_valueFrom_66 rfl ?_
                    refine j_iload G 1 rfl d10_valueFrom_69 ?_
                    refine j_imul G d10_valueFrom_71 ?_
                    refine j_iload G 0 rfl d10_valueFrom_72 ?_
                    refine j_iadd G d10_valueFrom_74 ?_
                    refine j_zald G 4 rfl (by omega) d10_valueFrom_75 ?_
                    have hb25 := hm3 ((3321 * s) + k) (by omega) (by omega)
                    refine j_if_ne (tgt := 82) G d10_valueFrom_76 (by decide) (by omega) (fun h26 => ?_) (fun h26 => ?_)
                    ·
                      refine j_aload_n G 2 rfl d10_valueFrom_82 ?_
                      refine j_iload G 1 rfl d10_valueFrom_83 ?_
                      refine j_iload G 0 rfl d10_valueFrom_85 ?_
                      refine j_VM G (rm' := { frames := 1, cells := 0, slots := 0, locals := 22 }) (wc := [(mo, mO ad (upS (upS (upS (upS (upS S 34 nw2) 35 lo2) 36 dn2) 37 up2) 38 wa2)), (ad 22, aInt E 24 co), (ad 32, aInt E 12 spr), (ad 33, aInt E 588 le)]) (wr := [(ad 39, aBoo E 43173 m3), (ad 40, aInt E 43173 wo)]) (k10_comesIn (xl Γ) E mo ad (upS (upS (upS (upS (upS S 34 nw2) 35 lo2) 36 dn2) 37 up2) 38 wa2) co spr le K s k (by first | assumption | omega | (simp only [upS, reduceIte, Nat.reduceEqDiff, eq_self, List.length_cons, List.length_nil, List.length_append] <;> omega)) (by first | assumption | omega | (simp only [upS, reduceIte, Nat.reduceEqDiff, eq_self, List.length_cons, List.length_nil, List.length_append] <;> omega)) (by first | assumption | omega | (simp only [upS, reduceIte, Nat.reduceEqDiff, eq_self, List.length_cons, List.length_nil, List.length_append] <;> omega))) mw10_comesIn ml10_318 [0, 1, 2, 3] [4, 5] rfl rfl ⟨rfl, rfl⟩ (by decide) 0 10 rfl rfl rfl ⟨Nat.le_of_ble_eq_true rfl, Nat.le_of_ble_eq_true rfl⟩ rfl (rest := []) rfl (Nat.le_of_ble_eq_true rfl) d10_valueFrom_87 ⟨Nat.le_of_ble_eq_true rfl, Nat.le_of_ble_eq_true rfl⟩ (fun r w1 hr => ?_)
                      obtain ⟨nw_28, lo_29, dn_30, up_31, wa_32, rfl, rfl, ⟨hq27_0, hq27_1, hq27_2, hq27_3, hq27_4⟩⟩ := hr
                      refine j_eq (ws' := [(ad 39, aBoo E 43173 m3), (ad 40, aInt E 43173 wo), (mo, mO ad (upS (upS (upS (upS (upS S 34 nw_28) 35 lo_29) 36 dn_30) 37 up_31) 38 wa_32)), (ad 22, aInt E 24 co), (ad 32, aInt E 12 spr), (ad 33, aInt E 588 le)]) rfl rfl rfl ?_
                      try simp only [upS, reduceIte, Nat.reduceEqDiff, eq_self] at hq27_0 hq27_1 hq27_2 hq27_3 hq27_4
                      have hnw := hq27_0
                      have hup := hq27_3
                      have hwa := hq27_4
                      have hdn := hq27_2
                      have hdr := dR hok (s := s) (st := k) (by omega) (by omega)
                      have hnr := dNow_r hok (s := s) (st := k) (by omega) (by omega)
                      have hgr := fun q : dCan K s k spare => dGone_r hok (s := s) (st := k) (by omega) (by omega) hsp.1 q
                      refine j_aload_n G 2 rfl d10_valueFrom_90 ?_
                      refine j_get G 2 10 39 in10 fl10_131 d10_valueFrom_91 rfl rfl (by decide) (v := .ref (ad 39)) rfl rfl ?_
                      refine j_sipush G d10_valueFrom_94 rfl ?_
                      refine j_iload G 1 rfl d10_valueFrom_97 ?_
                      refine j_iconst G d10_valueFrom_99 ?_
                      refine j_iadd G d10_valueFrom_100 ?_
                      refine j_imul G d10_valueFrom_101 ?_
                      refine j_aload_n G 2 rfl d10_valueFrom_102 ?_
                      refine j_get G 2 10 34 in10 fl10_115 d10_valueFrom_103 rfl rfl (by decide) (v := .int (iZ nw_28)) rfl rfl ?_
                      refine j_iadd G d10_valueFrom_106 ?_
                      refine j_iconst G d10_valueFrom_107 ?_
                      refine j_zast G 0 rfl (by omega) (by decide) d10_valueFrom_108 ?_
                      refine j_aload_n G 2 rfl d10_valueFrom_109 ?_
                      refine j_iload_n G 5 rfl d10_valueFrom_110 ?_
                      refine j_VP G (k10_can (xl Γ) E mo ad (upS (upS (upS (upS (upS S 34 nw_28) 35 lo_29) 36 dn_30) 37 up_31) 38 wa_32) spare (by first | assumption | omega | (simp only [upS, reduceIte, Nat.reduceEqDiff, eq_self, List.length_cons, List.length_nil, List.length_append] <;> omega)) (by first | assumption | omega | (simp only [upS, reduceIte, Nat.reduceEqDiff, eq_self, List.length_cons, List.length_nil, List.length_append] <;> omega)) (by first | assumption | omega | (simp only [upS, reduceIte, Nat.reduceEqDiff, eq_self, List.length_cons, List.length_nil, List.length_append] <;> omega))) mw10_can ml10_322 [2] rfl 2 10 rfl rfl rfl ⟨Nat.le_of_ble_eq_true rfl, Nat.le_of_ble_eq_true rfl⟩ rfl (rest := []) rfl (Nat.le_of_ble_eq_true rfl) d10_valueFrom_111 ⟨Nat.le_of_ble_eq_true rfl, Nat.le_of_ble_eq_true rfl⟩ (fun r hr => ?_)
                      obtain ⟨v34, rfl, hq33⟩ := hr
                      try simp only [upS, reduceIte, Nat.reduceEqDiff, eq_self] at hq33
                      rcases hq33 with ⟨hq33, rfl⟩ | ⟨hq33, rfl⟩
                      ·
                        refine j_if_eq (tgt := 136) G d10_valueFrom_114 (by decide) (by decide) (fun h35 => absurd h35 (by decide)) (fun h35 => ?_)
                        have hcc : dCan K s k spare := ⟨by omega, by omega⟩
                        have hgg := hgr hcc
                        have hge : dGone K s k = dNow K s k - 81 * dW K s k - 9 * dDn K s k - dUp K s k := rfl
                        refine j_aload_n G 2 rfl d10_valueFrom_117 ?_
                        refine j_get G 2 10 39 in10 fl10_131 d10_valueFrom_118 rfl rfl (by decide) (v := .ref (ad 39)) rfl rfl ?_
                        refine j_sipush G d10_valueFrom_121 rfl ?_
                        refine j_iload G 1 rfl d10_valueFrom_124 ?_
                        refine j_iconst G d10_valueFrom_126 ?_
                        refine j_iadd G d10_valueFrom_127 ?_
                        refine j_imul G d10_valueFrom_128 ?_
                        refine j_aload_n G 2 rfl d10_valueFrom_129 ?_
                        refine j_VP G (k10_gone (xl Γ) E mo ad (upS (upS (upS (upS (upS S 34 nw_28) 35 lo_29) 36 dn_30) 37 up_31) 38 wa_32) ) mw10_gone ml10_325 [2] rfl 2 10 rfl rfl rfl ⟨Nat.le_of_ble_eq_true rfl, Nat.le_of_ble_eq_true rfl⟩ rfl (rest := [.int (iZ (3321 * (s + 1))), .ref (ad 39)]) rfl (Nat.le_of_ble_eq_true rfl) d10_valueFrom_130 ⟨Nat.le_of_ble_eq_true rfl, Nat.le_of_ble_eq_true rfl⟩ (fun r hr => ?_)
                        obtain ⟨_, rfl, rfl⟩ := hr
                        refine j_eq (st' := [.int (iZ (nw_28 - 81 * wa_32 - 9 * dn_30 - up_31)), .int (iZ (3321 * (s + 1))), .ref (ad 39)]) rfl rfl rfl ?_
                        refine j_iadd G d10_valueFrom_133 ?_
                        refine j_iconst G d10_valueFrom_134 ?_
                        refine j_zast G 0 rfl (by omega) (by decide) d10_valueFrom_135 ?_
                        refine j_iinc G d10_valueFrom_136 0 rfl (by decide) rfl ?_
                        refine j_goto (tgt := 54) G d10_valueFrom_139 (by decide) ?_
                        refine j_perm (ws' := [(mo, mO ad (upS (upS (upS (upS (upS S 34 nw_28) 35 lo_29) 36 dn_30) 37 up_31) 38 wa_32)), (ad 22, aInt E 24 co), (ad 32, aInt E 12 spr), (ad 33, aInt E 588 le), (ad 39, aBoo E 43173 (upI (upI m3 ((3321 * (s + 1)) + nw_28) 1) ((3321 * (s + 1)) + (nw_28 - 81 * wa_32 - 9 * dn_30 - up_31)) 1)), (ad 40, aInt E 43173 wo)]) [2, 3, 4, 5, 0, 1] rfl rfl rfl ?_
                        exact ih54 (k + 1) (upI (upI m3 ((3321 * (s + 1)) + nw_28) 1) ((3321 * (s + 1)) + (nw_28 - 81 * wa_32 - 9 * dn_30 - up_31)) 1) nw_28 lo_29 dn_30 up_31 wa_32 (by omega) (by first | assumption | omega) (by first | exact hm3 | exact upb hm3 (by decide) | exact upb (upb hm3 (by decide)) (by decide)) (by first | exact hst3 | exact up1 hst3 | exact up1 (up1 hst3)) (by first | exact cl_skip hcl3 (by omega) | exact cl_one hcl3 (by omega) hnw (by omega) (fun q => by obtain ⟨q1, q2⟩ := q; omega) | exact cl_two hcl3 (by omega) hnw (by omega) (by unfold dGone; omega) (by omega))
                      ·
                        refine j_if_eq (tgt := 136) G d10_valueFrom_114 (by decide) (by decide) (fun h37 => ?_) (fun h37 => absurd h37 (by decide))
                        refine j_iinc G d10_valueFrom_136 0 rfl (by decide) rfl ?_
                        refine j_goto (tgt := 54) G d10_valueFrom_139 (by decide) ?_
                        refine j_perm (ws' := [(mo, mO ad (upS (upS (upS (upS (upS S 34 nw_28) 35 lo_29) 36 dn_30) 37 up_31) 38 wa_32)), (ad 22, aInt E 24 co), (ad 32, aInt E 12 spr), (ad 33, aInt E 588 le), (ad 39, aBoo E 43173 (upI m3 ((3321 * (s + 1)) + nw_28) 1)), (ad 40, aInt E 43173 wo)]) [2, 3, 4, 5, 0, 1] rfl rfl rfl ?_
                        exact ih54 (k + 1) (upI m3 ((3321 * (s + 1)) + nw_28) 1) nw_28 lo_29 dn_30 up_31 wa_32 (by omega) (by first | assumption | omega) (by first | exact hm3 | exact upb hm3 (by decide) | exact upb (upb hm3 (by decide)) (by decide)) (by first | exact hst3 | exact up1 hst3 | exact up1 (up1 hst3)) (by first | exact cl_skip hcl3 (by omega) | exact cl_one hcl3 (by omega) hnw (by omega) (fun q => by obtain ⟨q1, q2⟩ := q; omega) | exact cl_two hcl3 (by omega) hnw (by omega) (by unfold dGone; omega) (by omega))
                    ·
                      refine j_goto (tgt := 136) G d10_valueFrom_79 (by decide) ?_
                      refine j_iinc G d10_valueFrom_136 0 rfl (by decide) rfl ?_
                      refine j_goto (tgt := 54) G d10_valueFrom_139 (by decide) ?_
                      exact ih54 (k + 1) m3 nw2 lo2 dn2 up2 wa2 (by omega) (by first | assumption | omega) (by first | exact hm3 | exact upb hm3 (by decide) | exact upb (upb hm3 (by decide)) (by decide)) (by first | exact hst3 | exact up1 hst3 | exact up1 (up1 hst3)) (by first | exact cl_skip hcl3 (by omega) | exact cl_one hcl3 (by omega) hnw (by omega) (fun q => by obtain ⟨q1, q2⟩ := q; omega) | exact cl_two hcl3 (by omega) hnw (by omega) (by unfold dGone; omega) (by omega))
              exact lp54 _ 0 m2 nw lo dn up wa (Nat.lt_succ_self _) (by first | assumption | omega) hm2 hst0 hcl
        exact lp44 _ b (upI m ((3321 * b) + st0) 1) (S 34) (S 35) (S 36) (S 37) (S 38) (Nat.lt_succ_self _) (by first | assumption | omega) (upb hm1 (by decide)) up1s cl_0
      ·
        refine j_aload_n G 1 rfl d10_valueFrom_14 ?_
        refine j_get G 0 10 39 in10 fl10_131 d10_valueFrom_15 rfl rfl (by decide) (v := .ref (ad 39)) rfl rfl ?_
        refine j_iload G 0 rfl d10_valueFrom_18 ?_
        refine j_iconst G d10_valueFrom_20 ?_
        refine j_zast G 4 rfl (by omega) (by decide) d10_valueFrom_21 ?_
        refine j_iinc G d10_valueFrom_22 0 rfl (by decide) rfl ?_
        refine j_goto (tgt := 7) G d10_valueFrom_25 (by decide) ?_
        exact ih7 (kk + 1) (upI m kk 0) (by omega) (by first | assumption | omega) (upb hm1 (by decide))
  exact lp7 _ (3321 * b) mk (Nat.lt_succ_self _) (by first | assumption | omega) hmk
