/-! loads on a cliff: C its numbers (1 how many parts, 2 rope, 3 head, 4 brake, 5 tank, 6 seats, 7 pond), P its parts -/
def pulM (C : Nat → Int) (P : Int → Int) (k load drag : Int) : Int := P k * load + C 2 * (2 * k - C 1 + 1) - drag
def wfC (C : Nat → Int) (P : Int → Int) : Prop := (1 ≤ C 1 ∧ C 1 ≤ 5) ∧ (∀ j, 0 ≤ j → j < 5 → 0 ≤ P j ∧ P j ≤ 999) ∧ (0 ≤ C 2 ∧ C 2 ≤ 999) ∧ (0 ≤ C 3 ∧ C 3 ≤ 999) ∧ (0 ≤ C 4 ∧ C 4 ≤ 999) ∧ (0 ≤ C 5 ∧ C 5 ≤ 60) ∧ (0 ≤ C 6 ∧ C 6 ≤ 6) ∧ (0 ≤ C 7 ∧ C 7 ≤ 40)
theorem mulb {a b A B : Int} (ha : 0 ≤ a) (hA : a ≤ A) (hb : -B ≤ b) (hB : b ≤ B) : -(A * B) ≤ a * b ∧ a * b ≤ A * B := by
  have hB0 : 0 ≤ B := by omega
  have h1 : a * b ≤ a * B := Int.mul_le_mul_of_nonneg_left hB ha
  have h2 : a * B ≤ A * B := Int.mul_le_mul_of_nonneg_right hA hB0
  have h3 : a * -B ≤ a * b := Int.mul_le_mul_of_nonneg_left hb ha
  rw [Int.mul_neg] at h3
  omega
theorem pul_r {C : Nat → Int} {P : Int → Int} {k load drag : Int} (hw : wfC C P) (hk : 0 ≤ k) (hk2 : k < C 1) (hl : -7000 ≤ load) (hl2 : load ≤ 7000) (hd : 0 ≤ drag) (hd2 : drag ≤ 30000) : -10000000 ≤ pulM C P k load drag ∧ pulM C P k load drag ≤ 10000000 := by
  obtain ⟨h1, h2, h3, h4, -⟩ := hw
  have a1 := mulb (h2 k hk (by omega)).1 (h2 k hk (by omega)).2 hl hl2
  have a2 := mulb (b := 2 * k - C 1 + 1) (B := 10) h3.1 h3.2 (by omega) (by omega)
  unfold pulM
  omega
theorem pul_w (C : Nat → Int) (P : Int → Int) (k H w drag : Int) : pulM C P k (H + w) drag = pulM C P k H drag + P k * w := by
  unfold pulM
  rw [Int.mul_add]
  omega
def stopF (C : Nat → Int) (P : Int → Int) (load drag : Int) : Nat → Int → Int
  | 0, _ => -5
  | n + 1, k => if pulM C P k load drag ≤ 0 then k else if C 4 < pulM C P k load drag then 100 + k else stopF C P load drag n (k + 1)
def stopM (C : Nat → Int) (P : Int → Int) (load drag : Int) : Int := stopF C P load drag (C 1).toNat 0
theorem stopF_s {C : Nat → Int} {P : Int → Int} {load drag k : Int} (h : k < C 1) (h0 : 0 ≤ k) : stopF C P load drag (C 1 - k).toNat k = if pulM C P k load drag ≤ 0 then k else if C 4 < pulM C P k load drag then 100 + k else stopF C P load drag (C 1 - (k + 1)).toNat (k + 1) := by
  have e : (C 1 - k).toNat = (C 1 - (k + 1)).toNat + 1 := by omega
  rw [e]
  rfl
theorem stopF_e {C : Nat → Int} {P : Int → Int} {load drag k : Int} (h : ¬ k < C 1) : stopF C P load drag (C 1 - k).toNat k = -5 := by
  have e : (C 1 - k).toNat = 0 := by omega
  rw [e]
  rfl
theorem stopM_0 (C : Nat → Int) (P : Int → Int) (load drag : Int) : stopM C P load drag = stopF C P load drag (C 1 - 0).toNat 0 := by
  unfold stopM
  rw [Int.sub_zero]
def goesM (C : Nat → Int) (P : Int → Int) (load drag : Int) : Prop := ∀ j, 0 ≤ j → j < C 1 → 0 < pulM C P j load drag ∧ pulM C P j load drag ≤ C 4
theorem stopF_go {C : Nat → Int} {P : Int → Int} {load drag : Int} : ∀ (n : Nat) (k : Int), 0 ≤ k → n = (C 1 - k).toNat → (stopF C P load drag n k = -5 ↔ ∀ j, k ≤ j → j < C 1 → 0 < pulM C P j load drag ∧ pulM C P j load drag ≤ C 4) := by
  intro n
  induction n with
  | zero =>
    intro k hk hn
    exact ⟨fun _ j h1 h2 => by omega, fun _ => rfl⟩
  | succ n ih =>
    intro k hk hn
    unfold stopF
    by_cases h1 : pulM C P k load drag ≤ 0
    · rw [if_pos h1]
      exact ⟨fun h => by omega, fun h => by have := (h k (Int.le_refl k) (by omega)).1; omega⟩
    · rw [if_neg h1]
      by_cases h2 : C 4 < pulM C P k load drag
      · rw [if_pos h2]
        exact ⟨fun h => by omega, fun h => by have := (h k (Int.le_refl k) (by omega)).2; omega⟩
      · rw [if_neg h2, ih (k + 1) (by omega) (by omega)]
        refine ⟨fun h j h3 h4 => ?_, fun h j h3 h4 => h j (by omega) h4⟩
        by_cases h5 : j = k
        · subst h5
          omega
        · exact h j (by omega) h4
theorem stopM_go {C : Nat → Int} {P : Int → Int} {load drag : Int} : stopM C P load drag = -5 ↔ goesM C P load drag := by
  unfold stopM
  rw [stopF_go (C 1).toNat 0 (Int.le_refl 0) (by omega)]
  exact Iff.rfl
theorem stopF_r {C : Nat → Int} {P : Int → Int} {load drag : Int} : ∀ (n : Nat) (k : Int), 0 ≤ k → k + n ≤ 5 → stopF C P load drag n k = -5 ∨ (0 ≤ stopF C P load drag n k ∧ stopF C P load drag n k ≤ 104) := by
  intro n
  induction n with
  | zero => intro k _ _; exact Or.inl rfl
  | succ n ih =>
    intro k hk hn
    unfold stopF
    have := ih (k + 1) (by omega) (by omega)
    (repeat' split) <;> omega
/-- r is the least water for which it goes, or -5 -/
def isL (C : Nat → Int) (P : Int → Int) (drag dd tank v : Int) : Prop := (v = -5 ∧ ∀ w, 0 ≤ w → w ≤ tank → ¬ goesM C P (C 3 * dd + w) drag) ∨ ((0 ≤ v ∧ v ≤ tank) ∧ goesM C P (C 3 * dd + v) drag ∧ ∀ w, 0 ≤ w → w < v → ¬ goesM C P (C 3 * dd + w) drag)
theorem isL_one {C : Nat → Int} {P : Int → Int} {drag dd tank a b : Int} (ha : isL C P drag dd tank a) (hb : isL C P drag dd tank b) : a = b := by
  rcases ha with ⟨a1, a2⟩ | ⟨a1, a2, a3⟩ <;> rcases hb with ⟨b1, b2⟩ | ⟨b1, b2, b3⟩
  · omega
  · exact absurd b2 (a2 b b1.1 b1.2)
  · exact absurd a2 (b2 a a1.1 a1.2)
  · rcases Int.lt_trichotomy a b with h | h | h
    · exact absurd a2 (b3 a a1.1 h)
    · exact h
    · exact absurd b2 (a3 b b1.1 h)
def lwI (C : Nat → Int) (P : Int → Int) (drag dd tank k lo hi : Int) : Prop := ∀ w, 0 ≤ w → w ≤ tank → ((∀ j, 0 ≤ j → j < k → 0 < pulM C P j (C 3 * dd + w) drag ∧ pulM C P j (C 3 * dd + w) drag ≤ C 4) ↔ (lo ≤ w ∧ w ≤ hi))
theorem lw_0 (C : Nat → Int) (P : Int → Int) (drag dd tank : Int) : lwI C P drag dd tank 0 0 tank := fun w h1 h2 => ⟨fun _ => ⟨h1, h2⟩, fun _ j h3 h4 => by omega⟩
theorem all_s {k : Int} (hk : 0 ≤ k) {Q : Int → Prop} : (∀ j, 0 ≤ j → j < k + 1 → Q j) ↔ ((∀ j, 0 ≤ j → j < k → Q j) ∧ Q k) := by
  refine ⟨fun h => ⟨fun j h1 h2 => h j h1 (by omega), h k hk (by omega)⟩, fun h j h1 h2 => ?_⟩
  by_cases h3 : j = k
  · rw [h3]; exact h.2
  · exact h.1 j h1 (by omega)
theorem lw_pos {C : Nat → Int} {P : Int → Int} {drag dd tank k lo hi : Int} (hw : lwI C P drag dd tank k lo hi) (hk : 0 ≤ k) (hp : 0 < P k) : lwI C P drag dd tank (k + 1) (max lo (-((pulM C P k (C 3 * dd) drag - 1) / P k))) (min hi ((C 4 - pulM C P k (C 3 * dd) drag) / P k)) := by
  intro w h1 h2
  rw [all_s hk, hw w h1 h2, pul_w]
  have e1 : -((pulM C P k (C 3 * dd) drag - 1) / P k) ≤ w ↔ 0 < pulM C P k (C 3 * dd) drag + P k * w := by
    have := Int.le_ediv_iff_mul_le (c := P k) (a := -w) (b := pulM C P k (C 3 * dd) drag - 1) hp
    rw [Int.neg_mul, Int.mul_comm w] at this
    omega
  have e2 : w ≤ (C 4 - pulM C P k (C 3 * dd) drag) / P k ↔ pulM C P k (C 3 * dd) drag + P k * w ≤ C 4 := by
    have := Int.le_ediv_iff_mul_le (c := P k) (a := w) (b := C 4 - pulM C P k (C 3 * dd) drag) hp
    rw [Int.mul_comm w] at this
    omega
  rw [← e1, ← e2]
  omega
theorem lw_zero {C : Nat → Int} {P : Int → Int} {drag dd tank k lo hi : Int} (hw : lwI C P drag dd tank k lo hi) (hk : 0 ≤ k) (hp : P k = 0) (h3 : 0 < pulM C P k (C 3 * dd) drag) (h4 : pulM C P k (C 3 * dd) drag ≤ C 4) : lwI C P drag dd tank (k + 1) lo hi := by
  intro w h1 h2
  rw [all_s hk, hw w h1 h2, pul_w, hp, Int.zero_mul]
  omega
theorem lw_bad {C : Nat → Int} {P : Int → Int} {drag dd tank k : Int} (hk : 0 ≤ k) (hk2 : k < C 1) (hp : P k = 0) (h : pulM C P k (C 3 * dd) drag ≤ 0 ∨ C 4 < pulM C P k (C 3 * dd) drag) : isL C P drag dd tank (-5) := by
  refine Or.inl ⟨rfl, fun w h1 h2 hg => ?_⟩
  have := hg k hk hk2
  rw [pul_w, hp, Int.zero_mul] at this
  omega
theorem lw_end {C : Nat → Int} {P : Int → Int} {drag dd tank k lo hi : Int} (hw : lwI C P drag dd tank k lo hi) (hk : k = C 1) (h0 : 0 ≤ lo) (h1 : hi ≤ tank) (h : lo ≤ hi) : isL C P drag dd tank lo := by
  subst hk
  refine Or.inr ⟨⟨h0, by omega⟩, (hw lo h0 (by omega)).mpr ⟨Int.le_refl _, h⟩, fun w a1 a2 hg => ?_⟩
  have := (hw w a1 (by omega)).mp hg
  omega
theorem lw_none {C : Nat → Int} {P : Int → Int} {drag dd tank k lo hi : Int} (hw : lwI C P drag dd tank k lo hi) (hk : k = C 1) (h : ¬ lo ≤ hi) : isL C P drag dd tank (-5) := by
  subst hk
  refine Or.inl ⟨rfl, fun w a1 a2 hg => ?_⟩
  have := (hw w a1 a2).mp hg
  omega
/-! floorDiv -/
theorem iZ_tdiv {a b : Int} (ha : -1000000000 ≤ a) (ha2 : a ≤ 1000000000) (hb : 0 < b) (hb2 : b ≤ 1000000000) : iZ a / iZ b = iZ (a.tdiv b) := by
  refine (Int32.ofInt_tdiv ?_ ?_ ?_ ?_).symm
  all_goals first | (rw [show Int32.minValue.toInt = -2147483648 from rfl]; omega) | (rw [show Int32.maxValue.toInt = 2147483647 from rfl]; omega)
theorem xor_sign {a b : Int} (ha : R32 a) (hb : 0 < b) (hb2 : b ≤ 1000000000) : 0 ≤ (iZ a ^^^ iZ b).toInt ↔ 0 ≤ a := by
  have e : (iZ a ^^^ iZ b).toBitVec.msb = (Bool.xor (iZ a).toBitVec.msb (iZ b).toBitVec.msb) := by simp
  have m : ∀ x : Int32, x.toBitVec.msb = decide (x.toInt < 0) := fun x => BitVec.msb_eq_toInt
  rw [m, m, m, iZ_toInt ha, iZ_toInt (z := b) ⟨by omega, by omega⟩] at e
  have h2 : decide (b < 0) = false := by simp; omega
  rw [h2, Bool.xor_false] at e
  have := decide_eq_decide.mp e
  omega
theorem fdiv_c {a b : Int} (hb : 0 < b) : (0 ≤ a → a.tdiv b = a / b) ∧ (a < 0 → a.tdiv b * b = a → a.tdiv b = a / b) ∧ (a < 0 → ¬ a.tdiv b * b = a → a.tdiv b - 1 = a / b) := by
  refine ⟨fun h => Int.tdiv_eq_ediv_of_nonneg h, fun _ h => Int.tdiv_eq_ediv_of_dvd ⟨a.tdiv b, by rw [Int.mul_comm]; exact h.symm⟩, fun h0 h => ?_⟩
  have h1 := Int.tdiv_eq_ediv (a := a) (b := b)
  by_cases hd : b ∣ a
  · obtain ⟨c, rfl⟩ := hd
    exact absurd (by rw [Int.mul_tdiv_cancel_left _ (by omega), Int.mul_comm]) h
  · rw [if_neg (by intro q; rcases q with q | q; omega; exact hd q), Int.sign_eq_one_of_pos hb] at h1
    omega
theorem fdiv_r {a b : Int} (ha : -1000000000 ≤ a) (ha2 : a ≤ 1000000000) (hb : 0 < b) : -1000000000 ≤ a / b ∧ a / b ≤ 1000000000 := by
  have h1 := Int.le_ediv_iff_mul_le (c := b) (a := -1000000000) (b := a) hb
  have h2 := Int.le_ediv_iff_mul_le (c := b) (a := 1000000001) (b := a) hb
  omega
theorem tmul_r {a b : Int} (ha : -1000000000 ≤ a) (ha2 : a ≤ 1000000000) (hb : 0 < b) (hb2 : b ≤ 1000000000) : R32 (a.tdiv b * b) := by
  have h1 := Int.mul_tdiv_add_tmod a b
  have h2 := tmod_bounds (a := a) hb
  rw [Int.mul_comm] at h1
  exact ⟨by omega, by omega⟩
theorem Cp.ofF {l : Launch} {E : En} {y : MethodName} {cc : ByteArray} {maxL : Nat} {ret : Option FieldType} {fr lo : Nat} {args : List Value} {ws : va_W} {post : Option Value → Prop} (hy : plainFor y = true) (hL : (lg_sl args).length ≤ maxL)
    (body : ∀ (Γ : Ctx), xl Γ = l → xa Γ = args.toArray → Gd E maxL Γ cc y.cls { frames := fr, cells := 0, slots := 0, locals := lo } → Fend E Γ none ret 0 0 (fun r _ => post r) → J E maxL Γ none 0 0 ws 0 (lv_args 0 args) []) : Cp l E y cc maxL ret fr lo args ws post := by
  refine va_MetF (cc := cc) (maxL := maxL) (ret := ret) hy rfl ?_
  intro p e s m args' below meth c s₁ B hml hv
  obtain ⟨rfl, hP, hK, hV⟩ := hv
  have hts : ∀ w ∈ TT, w.before args.toArray s = true := fun w hw => atoms_spec (ws := Cond.code y cc maxL ret :: TT) B.pre w (List.mem_cons_of_mem _ hw)
  have hl := lv_entry args (n := maxL) hL
  rw [lg_entry_eq]
  exact body (p, l, e, { frames := fr, cells := 0, slots := 0, locals := lo }, s, m, args.toArray, below, meth, c, MQ below (QP post) args.toArray s 0 0 (fun _ => False)) rfl rfl ⟨B.exec, B.bytes, hml, findClass_of_methodNamed B.named, hts, hK, hV, rfl, B.notSynchronized⟩
    ⟨B.returns, QP post, fun _ => False, rfl, fun r ws' H locs hp hP' hD' hS => ⟨fun t ht hW => ⟨r, rfl, hp, by rw [ht]; exact hS.1⟩, fun q hq => by rw [hS.2] at hq; cases hq⟩⟩ s.heap [] hP trivial ⟨rfl, rfl⟩ _ hl
theorem dM_floorDiv_0 : decode cM_floorDiv 0 = .ok (.iload_n 0, 1) := by decide +kernel
theorem dM_floorDiv_1 : decode cM_floorDiv 1 = .ok (.iload_n 1, 1) := by decide +kernel
theorem dM_floorDiv_2 : decode cM_floorDiv 2 = .ok (.idiv, 1) := by decide +kernel
theorem dM_floorDiv_3 : decode cM_floorDiv 3 = .ok (.istore_n 2, 1) := by decide +kernel
theorem dM_floorDiv_4 : decode cM_floorDiv 4 = .ok (.iload_n 0, 1) := by decide +kernel
theorem dM_floorDiv_5 : decode cM_floorDiv 5 = .ok (.iload_n 1, 1) := by decide +kernel
theorem dM_floorDiv_6 : decode cM_floorDiv 6 = .ok (.ixor, 1) := by decide +kernel
theorem dM_floorDiv_7 : decode cM_floorDiv 7 = .ok (.ifCond .ge 14, 3) := by decide +kernel
theorem dM_floorDiv_10 : decode cM_floorDiv 10 = .ok (.iload_n 2, 1) := by decide +kernel
theorem dM_floorDiv_11 : decode cM_floorDiv 11 = .ok (.iload_n 1, 1) := by decide +kernel
theorem dM_floorDiv_12 : decode cM_floorDiv 12 = .ok (.imul, 1) := by decide +kernel
theorem dM_floorDiv_13 : decode cM_floorDiv 13 = .ok (.iload_n 0, 1) := by decide +kernel
theorem dM_floorDiv_14 : decode cM_floorDiv 14 = .ok (.if_icmp .eq 7, 3) := by decide +kernel
theorem dM_floorDiv_17 : decode cM_floorDiv 17 = .ok (.iload_n 2, 1) := by decide +kernel
theorem dM_floorDiv_18 : decode cM_floorDiv 18 = .ok (.iconst 1, 1) := by decide +kernel
theorem dM_floorDiv_19 : decode cM_floorDiv 19 = .ok (.isub, 1) := by decide +kernel
theorem dM_floorDiv_20 : decode cM_floorDiv 20 = .ok (.ireturn, 1) := by decide +kernel
theorem dM_floorDiv_21 : decode cM_floorDiv 21 = .ok (.iload_n 2, 1) := by decide +kernel
theorem dM_floorDiv_22 : decode cM_floorDiv 22 = .ok (.ireturn, 1) := by decide +kernel
theorem mwM_floorDiv : MS yM_floorDiv cM_floorDiv 3 (some .int) 2 := ⟨cdM_floorDiv, iniM, naM_floorDiv, stM_floorDiv⟩
set_option maxHeartbeats 4000000 in
set_option maxRecDepth 100000 in
theorem kM_floorDiv (l : Launch) (E : En) (a : Int) (b : Int) (ha : -1000000000 ≤ a ∧ a ≤ 1000000000) (hb : 0 < b ∧ b ≤ 1000000000) : Cp l E yM_floorDiv cM_floorDiv 3 (some .int) 0 0 [.int (iZ a), .int (iZ b)] [] (fun r => ∃ (v : Int), r = some (.int (iZ v)) ∧ (v = a / b ∧ -1000000000 ≤ v ∧ v ≤ 1000000000)) := by
  refine Cp.ofF (by decide +kernel) (Nat.le_of_ble_eq_true rfl) (fun Γ hl hargs G F => ?_)
  subst hl
  have hxs := xor_sign (a := a) (b := b) ⟨by omega, by omega⟩ hb.1 hb.2
  have hfc := fdiv_c (a := a) hb.1
  have hfr := fdiv_r ha.1 ha.2 hb.1
  have htr := tmul_r ha.1 ha.2 hb.1 hb.2
  refine j_iload_n G 0 rfl dM_floorDiv_0 ?_
  refine j_iload_n G 1 rfl dM_floorDiv_1 ?_
  refine r_idiv G dM_floorDiv_2 (fun h => by have := (iZ_inj (a := b) (b := 0) ⟨by omega, by omega⟩ r32_0).mp h; omega) ?_
  refine j_top (y := iZ (a.tdiv b)) (iZ_tdiv ha.1 ha.2 hb.1 hb.2) ?_
  refine j_istore_n G dM_floorDiv_3 (by decide) rfl ?_
  refine j_iload_n G 1 rfl dM_floorDiv_4 ?_
  refine j_iload_n G 2 rfl dM_floorDiv_5 ?_
  refine r_ixor G dM_floorDiv_6 ?_
  refine j_top (y := iZ (((iZ a) ^^^ (iZ b)).toInt)) (iZ_of _).symm ?_
  refine j_if_ge (tgt := 21) G dM_floorDiv_7 (by decide) (iZ_r _) (fun h1 => ?_) (fun h1 => ?_)
  ·
    refine j_iload_n G 0 rfl dM_floorDiv_21 ?_
    exact j_iret G F dM_floorDiv_22 ⟨a.tdiv b, rfl, (by exact ⟨by omega, by omega, by omega⟩)⟩
  ·
    refine j_iload_n G 0 rfl dM_floorDiv_10 ?_
    refine j_iload_n G 2 rfl dM_floorDiv_11 ?_
    refine j_imul G dM_floorDiv_12 ?_
    refine j_iload_n G 1 rfl dM_floorDiv_13 ?_
    refine j_icmp_eq (tgt := 21) G dM_floorDiv_14 (by decide) (by first | exact htr | omega) (by first | exact htr | omega) (fun h2 => ?_) (fun h2 => ?_)
    ·
      refine j_iload_n G 0 rfl dM_floorDiv_21 ?_
      exact j_iret G F dM_floorDiv_22 ⟨a.tdiv b, rfl, (by exact ⟨by omega, by omega, by omega⟩)⟩
    ·
      refine j_iload_n G 0 rfl dM_floorDiv_17 ?_
      refine j_iconst G dM_floorDiv_18 ?_
      refine j_isub G dM_floorDiv_19 ?_
      exact j_iret G F dM_floorDiv_20 ⟨(a.tdiv b) - 1, rfl, (by exact ⟨by omega, by omega, by omega⟩)⟩
theorem d1_pullAt_0 : decode c1_pullAt 0 = .ok (.aload_n 0, 1) := by decide +kernel
theorem d1_pullAt_1 : decode c1_pullAt 1 = .ok (.getfield 9, 3) := by decide +kernel
theorem d1_pullAt_4 : decode c1_pullAt 4 = .ok (.iload_n 1, 1) := by decide +kernel
theorem d1_pullAt_5 : decode c1_pullAt 5 = .ok (.iaload, 1) := by decide +kernel
theorem d1_pullAt_6 : decode c1_pullAt 6 = .ok (.iload_n 2, 1) := by decide +kernel
theorem d1_pullAt_7 : decode c1_pullAt 7 = .ok (.imul, 1) := by decide +kernel
theorem d1_pullAt_8 : decode c1_pullAt 8 = .ok (.aload_n 0, 1) := by decide +kernel
theorem d1_pullAt_9 : decode c1_pullAt 9 = .ok (.getfield 44, 3) := by decide +kernel
theorem d1_pullAt_12 : decode c1_pullAt 12 = .ok (.iconst 2, 1) := by decide +kernel
theorem d1_pullAt_13 : decode c1_pullAt 13 = .ok (.iload_n 1, 1) := by decide +kernel
theorem d1_pullAt_14 : decode c1_pullAt 14 = .ok (.imul, 1) := by decide +kernel
theorem d1_pullAt_15 : decode c1_pullAt 15 = .ok (.aload_n 0, 1) := by decide +kernel
theorem d1_pullAt_16 : decode c1_pullAt 16 = .ok (.getfield 37, 3) := by decide +kernel
theorem d1_pullAt_19 : decode c1_pullAt 19 = .ok (.isub, 1) := by decide +kernel
theorem d1_pullAt_20 : decode c1_pullAt 20 = .ok (.iconst 1, 1) := by decide +kernel
theorem d1_pullAt_21 : decode c1_pullAt 21 = .ok (.iadd, 1) := by decide +kernel
theorem d1_pullAt_22 : decode c1_pullAt 22 = .ok (.imul, 1) := by decide +kernel
theorem d1_pullAt_23 : decode c1_pullAt 23 = .ok (.iadd, 1) := by decide +kernel
theorem d1_pullAt_24 : decode c1_pullAt 24 = .ok (.iload_n 3, 1) := by decide +kernel
theorem d1_pullAt_25 : decode c1_pullAt 25 = .ok (.isub, 1) := by decide +kernel
theorem d1_pullAt_26 : decode c1_pullAt 26 = .ok (.ireturn, 1) := by decide +kernel
theorem mw1_pullAt : MV y1_pullAt c1_pullAt 4 (some .int) 3 := ⟨cd1_pullAt, ini1, na1_pullAt, im1_pullAt, se1_pullAt⟩
set_option maxHeartbeats 4000000 in
set_option maxRecDepth 100000 in
theorem k1_pullAt (l : Launch) (E : En) (ca : Nat) (pa : Nat) (da : Nat) (sa : Nat) (C : Nat → Int) (P : Int → Int) (i : Int) (load : Int) (drag : Int) (hk : 0 ≤ i ∧ i < 5) : Cp l E y1_pullAt c1_pullAt 4 (some .int) 0 0 [.ref ca, .int (iZ i), .int (iZ load), .int (iZ drag)] [(ca, o1 (some pa) (some da) (some sa) C), (pa, aInt E 5 P)] (fun r => ∃ (v : Int), r = some (.int (iZ v)) ∧ (v = pulM C P i load drag)) := by
  refine Cp.of (by decide +kernel) (Nat.le_of_ble_eq_true rfl) (fun Γ hl hargs G F => ?_)
  subst hl
  refine j_aload_n G 0 rfl d1_pullAt_0 ?_
  refine j_get G 0 1 0 in1 fl1_9 d1_pullAt_1 rfl rfl (by decide) (v := .ref pa) rfl rfl ?_
  refine j_iload_n G 1 rfl d1_pullAt_4 ?_
  refine j_iald G 1 rfl (by omega) d1_pullAt_5 ?_
  refine j_iload_n G 2 rfl d1_pullAt_6 ?_
  refine j_imul G d1_pullAt_7 ?_
  refine j_aload_n G 0 rfl d1_pullAt_8 ?_
  refine j_get G 0 1 2 in1 fl1_44 d1_pullAt_9 rfl rfl (by decide) (v := .int (iZ (C 2))) rfl rfl ?_
  refine j_iconst G d1_pullAt_12 ?_
  refine j_iload_n G 1 rfl d1_pullAt_13 ?_
  refine j_imul G d1_pullAt_14 ?_
  refine j_aload_n G 0 rfl d1_pullAt_15 ?_
  refine j_get G 0 1 1 in1 fl1_37 d1_pullAt_16 rfl rfl (by decide) (v := .int (iZ (C 1))) rfl rfl ?_
  refine j_isub G d1_pullAt_19 ?_
  refine j_iconst G d1_pullAt_20 ?_
  refine j_iadd G d1_pullAt_21 ?_
  refine j_imul G d1_pullAt_22 ?_
  refine j_iadd G d1_pullAt_23 ?_
  refine j_iload_n G 3 rfl d1_pullAt_24 ?_
  refine j_isub G d1_pullAt_25 ?_
  exact j_iret G F d1_pullAt_26 ⟨(((P i) * load) + ((C 2) * (((2 * i) - (C 1)) + 1))) - drag, rfl, (by rfl)⟩
theorem d1_stopOf_0 : decode c1_stopOf 0 = .ok (.iconst 0, 1) := by decide +kernel
theorem d1_stopOf_1 : decode c1_stopOf 1 = .ok (.istore_n 3, 1) := by decide +kernel
theorem d1_stopOf_2 : decode c1_stopOf 2 = .ok (.iload_n 3, 1) := by decide +kernel
theorem d1_stopOf_3 : decode c1_stopOf 3 = .ok (.aload_n 0, 1) := by decide +kernel
theorem d1_stopOf_4 : decode c1_stopOf 4 = .ok (.getfield 37, 3) := by decide +kernel
theorem d1_stopOf_7 : decode c1_stopOf 7 = .ok (.if_icmp .ge 39, 3) := by decide +kernel
theorem d1_stopOf_10 : decode c1_stopOf 10 = .ok (.aload_n 0, 1) := by decide +kernel
theorem d1_stopOf_11 : decode c1_stopOf 11 = .ok (.iload_n 3, 1) := by decide +kernel
theorem d1_stopOf_12 : decode c1_stopOf 12 = .ok (.iload_n 1, 1) := by decide +kernel
theorem d1_stopOf_13 : decode c1_stopOf 13 = .ok (.iload_n 2, 1) := by decide +kernel
theorem d1_stopOf_14 : decode c1_stopOf 14 = .ok (.invokevirtual 53, 3) := by decide +kernel
theorem d1_stopOf_17 : decode c1_stopOf 17 = .ok (.istore 4, 2) := by decide +kernel
theorem d1_stopOf_19 : decode c1_stopOf 19 = .ok (.iload 4, 2) := by decide +kernel
theorem d1_stopOf_21 : decode c1_stopOf 21 = .ok (.ifCond .gt 5, 3) := by decide +kernel
theorem d1_stopOf_24 : decode c1_stopOf 24 = .ok (.iload_n 3, 1) := by decide +kernel
theorem d1_stopOf_25 : decode c1_stopOf 25 = .ok (.ireturn, 1) := by decide +kernel
theorem d1_stopOf_26 : decode c1_stopOf 26 = .ok (.iload 4, 2) := by decide +kernel
theorem d1_stopOf_28 : decode c1_stopOf 28 = .ok (.aload_n 0, 1) := by decide +kernel
theorem d1_stopOf_29 : decode c1_stopOf 29 = .ok (.getfield 19, 3) := by decide +kernel
theorem d1_stopOf_32 : decode c1_stopOf 32 = .ok (.if_icmp .le 8, 3) := by decide +kernel
theorem d1_stopOf_35 : decode c1_stopOf 35 = .ok (.bipush 100, 2) := by decide +kernel
theorem d1_stopOf_37 : decode c1_stopOf 37 = .ok (.iload_n 3, 1) := by decide +kernel
theorem d1_stopOf_38 : decode c1_stopOf 38 = .ok (.iadd, 1) := by decide +kernel
theorem d1_stopOf_39 : decode c1_stopOf 39 = .ok (.ireturn, 1) := by decide +kernel
theorem d1_stopOf_40 : decode c1_stopOf 40 = .ok (.iinc 3 1, 3) := by decide +kernel
theorem d1_stopOf_43 : decode c1_stopOf 43 = .ok (.goto (-41), 3) := by decide +kernel
theorem d1_stopOf_46 : decode c1_stopOf 46 = .ok (.bipush (-5), 2) := by decide +kernel
theorem d1_stopOf_48 : decode c1_stopOf 48 = .ok (.ireturn, 1) := by decide +kernel
theorem mw1_stopOf : MV y1_stopOf c1_stopOf 5 (some .int) 2 := ⟨cd1_stopOf, ini1, na1_stopOf, im1_stopOf, se1_stopOf⟩
set_option maxHeartbeats 4000000 in
set_option maxRecDepth 100000 in
theorem k1_stopOf (l : Launch) (E : En) (ca : Nat) (pa : Nat) (da : Nat) (sa : Nat) (C : Nat → Int) (P : Int → Int) (load : Int) (drag : Int) (hwf : wfC C P) (hl : -7000 ≤ load ∧ load ≤ 7000) (hdr : 0 ≤ drag ∧ drag ≤ 30000) : Cp l E y1_stopOf c1_stopOf 5 (some .int) 1 23 [.ref ca, .int (iZ load), .int (iZ drag)] [(ca, o1 (some pa) (some da) (some sa) C), (pa, aInt E 5 P)] (fun r => ∃ (v : Int), r = some (.int (iZ v)) ∧ (v = stopM C P load drag)) := by
  refine Cp.of (by decide +kernel) (Nat.le_of_ble_eq_true rfl) (fun Γ hl hargs G F => ?_)
  subst hl
  have hwf1 := hwf.1
  have hwf4 := hwf.2.2.2.2.1
  refine j_iconst G d1_stopOf_0 ?_
  refine j_istore_n G d1_stopOf_1 (by decide) rfl ?_
  have lp2 : ∀ (fu : Nat) (kk : Int), (C 1 - kk).toNat < fu → (0 ≤ kk ∧ kk ≤ C 1) → (stopM C P load drag = stopF C P load drag (C 1 - kk).toNat kk) →  J E 5 Γ none 0 0 [(ca, o1 (some pa) (some da) (some sa) C), (pa, aInt E 5 P)] 2 [(3, .int (iZ kk)), (0, .ref ca), (1, .int (iZ load)), (2, .int (iZ drag))] [] := by
    intro fu
    induction fu with
    | zero =>
      intro kk hm
      exact absurd hm (Nat.not_lt_zero _)
    | succ fu ih2 =>
      intro kk hm hk hs
      refine j_iload_n G 0 rfl d1_stopOf_2 ?_
      refine j_aload_n G 1 rfl d1_stopOf_3 ?_
      refine j_get G 0 1 1 in1 fl1_37 d1_stopOf_4 rfl rfl (by decide) (v := .int (iZ (C 1))) rfl rfl ?_
      refine j_icmp_ge (tgt := 46) G d1_stopOf_7 (by decide) (by omega) (by omega) (fun h1 => ?_) (fun h1 => ?_)
      ·
        refine j_bipush G d1_stopOf_46 rfl ?_
        exact j_iret G F d1_stopOf_48 ⟨(-5), rfl, (by rw [hs]; first | (rw [stopF_e (by omega)]; done) | (rw [stopF_s (by omega) (by omega), if_pos (by omega)]; done) | (rw [stopF_s (by omega) (by omega), if_neg (by omega), if_pos (by omega)]; done))⟩
      ·
        refine j_aload_n G 1 rfl d1_stopOf_10 ?_
        refine j_iload_n G 0 rfl d1_stopOf_11 ?_
        refine j_iload_n G 2 rfl d1_stopOf_12 ?_
        refine j_iload_n G 3 rfl d1_stopOf_13 ?_
        refine j_VP G (k1_pullAt (xl Γ) E ca pa da sa C P kk load drag (by first | assumption | omega | (simp only [upS, reduceIte, Nat.reduceEqDiff, eq_self, List.length_cons, List.length_nil, List.length_append] <;> omega))) mw1_pullAt ml1_53 [0, 1] rfl 0 1 rfl rfl rfl ⟨Nat.le_of_ble_eq_true rfl, Nat.le_of_ble_eq_true rfl⟩ rfl (rest := []) rfl (Nat.le_of_ble_eq_true rfl) d1_stopOf_14 ⟨Nat.le_of_ble_eq_true rfl, Nat.le_of_ble_eq_true rfl⟩ (fun r hr => ?_)
        obtain ⟨v3, rfl, hq2⟩ := hr
        have hpr := pul_r hwf (k := kk) (load := load) (drag := drag) (by omega) (by omega) hl.1 hl.2 hdr.1 hdr.2
        refine j_istore G d1_stopOf_17 (by decide) rfl ?_
        refine j_iload G 0 rfl d1_stopOf_19 ?_
        refine j_if_gt (tgt := 26) G d1_stopOf_21 (by decide) (by omega) (fun h4 => ?_) (fun h4 => ?_)
        ·
          refine j_iload G 0 rfl d1_stopOf_26 ?_
          refine j_aload_n G 2 rfl d1_stopOf_28 ?_
          refine j_get G 0 1 4 in1 fl1_19 d1_stopOf_29 rfl rfl (by decide) (v := .int (iZ (C 4))) rfl rfl ?_
          refine j_icmp_le (tgt := 40) G d1_stopOf_32 (by decide) (by omega) (by omega) (fun h5 => ?_) (fun h5 => ?_)
          ·
            refine j_iinc G d1_stopOf_40 1 rfl (by decide) rfl ?_
            refine j_goto (tgt := 2) G d1_stopOf_43 (by decide) ?_
            refine j_locs (ls' := [(3, .int (iZ (kk + 1))), (0, .ref ca), (1, .int (iZ load)), (2, .int (iZ drag))]) [0, 2, 3, 4] rfl ?_
            exact ih2 (kk + 1) (by omega) (by first | assumption | omega) (by rw [hs, stopF_s (by omega) (by omega), if_neg (by omega), if_neg (by omega)])
          ·
            refine j_bipush G d1_stopOf_35 rfl ?_
            refine j_iload_n G 1 rfl d1_stopOf_37 ?_
            refine j_iadd G d1_stopOf_38 ?_
            exact j_iret G F d1_stopOf_39 ⟨100 + kk, rfl, (by rw [hs]; first | (rw [stopF_e (by omega)]; done) | (rw [stopF_s (by omega) (by omega), if_pos (by omega)]; done) | (rw [stopF_s (by omega) (by omega), if_neg (by omega), if_pos (by omega)]; done))⟩
        ·
          refine j_iload_n G 1 rfl d1_stopOf_24 ?_
          exact j_iret G F d1_stopOf_25 ⟨kk, rfl, (by rw [hs]; first | (rw [stopF_e (by omega)]; done) | (rw [stopF_s (by omega) (by omega), if_pos (by omega)]; done) | (rw [stopF_s (by omega) (by omega), if_neg (by omega), if_pos (by omega)]; done))⟩
  exact lp2 _ 0 (Nat.lt_succ_self _) (by first | assumption | omega) (stopM_0 C P load drag)
theorem d1_leastWater_0 : decode c1_leastWater 0 = .ok (.iconst 0, 1) := by decide +kernel
theorem d1_leastWater_1 : decode c1_leastWater 1 = .ok (.istore 4, 2) := by decide +kernel
theorem d1_leastWater_3 : decode c1_leastWater 3 = .ok (.iload_n 3, 1) := by decide +kernel
theorem d1_leastWater_4 : decode c1_leastWater 4 = .ok (.istore 5, 2) := by decide +kernel
theorem d1_leastWater_6 : decode c1_leastWater 6 = .ok (.iconst 0, 1) := by decide +kernel
theorem d1_leastWater_7 : decode c1_leastWater 7 = .ok (.istore 6, 2) := by decide +kernel
theorem d1_leastWater_9 : decode c1_leastWater 9 = .ok (.iload 6, 2) := by decide +kernel
theorem d1_leastWater_11 : decode c1_leastWater 11 = .ok (.aload_n 0, 1) := by decide +kernel
theorem d1_leastWater_12 : decode c1_leastWater 12 = .ok (.getfield 37, 3) := by decide +kernel
theorem d1_leastWater_15 : decode c1_leastWater 15 = .ok (.if_icmp .ge 94, 3) := by decide +kernel
theorem d1_leastWater_18 : decode c1_leastWater 18 = .ok (.aload_n 0, 1) := by decide +kernel
theorem d1_leastWater_19 : decode c1_leastWater 19 = .ok (.iload 6, 2) := by decide +kernel
theorem d1_leastWater_21 : decode c1_leastWater 21 = .ok (.aload_n 0, 1) := by decide +kernel
theorem d1_leastWater_22 : decode c1_leastWater 22 = .ok (.getfield 15, 3) := by decide +kernel
theorem d1_leastWater_25 : decode c1_leastWater 25 = .ok (.iload_n 1, 1) := by decide +kernel
theorem d1_leastWater_26 : decode c1_leastWater 26 = .ok (.imul, 1) := by decide +kernel
theorem d1_leastWater_27 : decode c1_leastWater 27 = .ok (.iload_n 2, 1) := by decide +kernel
theorem d1_leastWater_28 : decode c1_leastWater 28 = .ok (.invokevirtual 53, 3) := by decide +kernel
theorem d1_leastWater_31 : decode c1_leastWater 31 = .ok (.istore 7, 2) := by decide +kernel
theorem d1_leastWater_33 : decode c1_leastWater 33 = .ok (.aload_n 0, 1) := by decide +kernel
theorem d1_leastWater_34 : decode c1_leastWater 34 = .ok (.getfield 9, 3) := by decide +kernel
theorem d1_leastWater_37 : decode c1_leastWater 37 = .ok (.iload 6, 2) := by decide +kernel
theorem d1_leastWater_39 : decode c1_leastWater 39 = .ok (.iaload, 1) := by decide +kernel
theorem d1_leastWater_40 : decode c1_leastWater 40 = .ok (.istore 8, 2) := by decide +kernel
theorem d1_leastWater_42 : decode c1_leastWater 42 = .ok (.iload 8, 2) := by decide +kernel
theorem d1_leastWater_44 : decode c1_leastWater 44 = .ok (.ifCond .le 42, 3) := by decide +kernel
theorem d1_leastWater_47 : decode c1_leastWater 47 = .ok (.iload 4, 2) := by decide +kernel
theorem d1_leastWater_49 : decode c1_leastWater 49 = .ok (.iload 7, 2) := by decide +kernel
theorem d1_leastWater_51 : decode c1_leastWater 51 = .ok (.iconst 1, 1) := by decide +kernel
theorem d1_leastWater_52 : decode c1_leastWater 52 = .ok (.isub, 1) := by decide +kernel
theorem d1_leastWater_53 : decode c1_leastWater 53 = .ok (.iload 8, 2) := by decide +kernel
theorem d1_leastWater_55 : decode c1_leastWater 55 = .ok (.invokestatic 57, 3) := by decide +kernel
theorem d1_leastWater_58 : decode c1_leastWater 58 = .ok (.ineg, 1) := by decide +kernel
theorem d1_leastWater_59 : decode c1_leastWater 59 = .ok (.invokestatic 60, 3) := by decide +kernel
theorem d1_leastWater_62 : decode c1_leastWater 62 = .ok (.istore 4, 2) := by decide +kernel
theorem d1_leastWater_64 : decode c1_leastWater 64 = .ok (.iload 5, 2) := by decide +kernel
theorem d1_leastWater_66 : decode c1_leastWater 66 = .ok (.aload_n 0, 1) := by decide +kernel
theorem d1_leastWater_67 : decode c1_leastWater 67 = .ok (.getfield 19, 3) := by decide +kernel
theorem d1_leastWater_70 : decode c1_leastWater 70 = .ok (.iload 7, 2) := by decide +kernel
theorem d1_leastWater_72 : decode c1_leastWater 72 = .ok (.isub, 1) := by decide +kernel
theorem d1_leastWater_73 : decode c1_leastWater 73 = .ok (.iload 8, 2) := by decide +kernel
theorem d1_leastWater_75 : decode c1_leastWater 75 = .ok (.invokestatic 57, 3) := by decide +kernel
theorem d1_leastWater_78 : decode c1_leastWater 78 = .ok (.invokestatic 47, 3) := by decide +kernel
theorem d1_leastWater_81 : decode c1_leastWater 81 = .ok (.istore 5, 2) := by decide +kernel
theorem d1_leastWater_83 : decode c1_leastWater 83 = .ok (.goto 20, 3) := by decide +kernel
theorem d1_leastWater_86 : decode c1_leastWater 86 = .ok (.iload 7, 2) := by decide +kernel
theorem d1_leastWater_88 : decode c1_leastWater 88 = .ok (.ifCond .le 12, 3) := by decide +kernel
theorem d1_leastWater_91 : decode c1_leastWater 91 = .ok (.iload 7, 2) := by decide +kernel
theorem d1_leastWater_93 : decode c1_leastWater 93 = .ok (.aload_n 0, 1) := by decide +kernel
theorem d1_leastWater_94 : decode c1_leastWater 94 = .ok (.getfield 19, 3) := by decide +kernel
theorem d1_leastWater_97 : decode c1_leastWater 97 = .ok (.if_icmp .le 6, 3) := by decide +kernel
theorem d1_leastWater_100 : decode c1_leastWater 100 = .ok (.bipush (-5), 2) := by decide +kernel
theorem d1_leastWater_102 : decode c1_leastWater 102 = .ok (.ireturn, 1) := by decide +kernel
theorem d1_leastWater_103 : decode c1_leastWater 103 = .ok (.iinc 6 1, 3) := by decide +kernel
theorem d1_leastWater_106 : decode c1_leastWater 106 = .ok (.goto (-97), 3) := by decide +kernel
theorem d1_leastWater_109 : decode c1_leastWater 109 = .ok (.iload 4, 2) := by decide +kernel
theorem d1_leastWater_111 : decode c1_leastWater 111 = .ok (.iload 5, 2) := by decide +kernel
theorem d1_leastWater_113 : decode c1_leastWater 113 = .ok (.if_icmp .gt 8, 3) := by decide +kernel
theorem d1_leastWater_116 : decode c1_leastWater 116 = .ok (.iload 4, 2) := by decide +kernel
theorem d1_leastWater_118 : decode c1_leastWater 118 = .ok (.goto 5, 3) := by decide +kernel
theorem d1_leastWater_121 : decode c1_leastWater 121 = .ok (.bipush (-5), 2) := by decide +kernel
theorem d1_leastWater_123 : decode c1_leastWater 123 = .ok (.ireturn, 1) := by decide +kernel
theorem mw1_leastWater : MV y1_leastWater c1_leastWater 9 (some .int) 3 := ⟨cd1_leastWater, ini1, na1_leastWater, im1_leastWater, se1_leastWater⟩
set_option maxHeartbeats 4000000 in
set_option maxRecDepth 100000 in
theorem k1_leastWater (l : Launch) (E : En) (ca : Nat) (pa : Nat) (da : Nat) (sa : Nat) (C : Nat → Int) (P : Int → Int) (dd : Int) (drag : Int) (tank : Int) (hwf : wfC C P) (hd : -6 ≤ dd ∧ dd ≤ 6) (hdr : 0 ≤ drag ∧ drag ≤ 30000) (htk : 0 ≤ tank ∧ tank ≤ 60) : Cp l E y1_leastWater c1_leastWater 9 (some .int) 1 23 [.ref ca, .int (iZ dd), .int (iZ drag), .int (iZ tank)] [(ca, o1 (some pa) (some da) (some sa) C), (pa, aInt E 5 P)] (fun r => ∃ (v : Int), r = some (.int (iZ v)) ∧ (isL C P drag dd tank v)) := by
  refine Cp.of (by decide +kernel) (Nat.le_of_ble_eq_true rfl) (fun Γ hl hargs G F => ?_)
  subst hl
  have hwf1 := hwf.1
  have hwf3 := hwf.2.2.2.1
  have hwf4 := hwf.2.2.2.2.1
  have hmb := mulb (a := C 3) (b := dd) (A := 999) (B := 6) hwf3.1 hwf3.2 hd.1 hd.2
  refine j_iconst G d1_leastWater_0 ?_
  refine j_istore G d1_leastWater_1 (by decide) rfl ?_
  refine j_iload_n G 4 rfl d1_leastWater_3 ?_
  refine j_istore G d1_leastWater_4 (by decide) rfl ?_
  refine j_iconst G d1_leastWater_6 ?_
  refine j_istore G d1_leastWater_7 (by decide) rfl ?_
  have lp9 : ∀ (fu : Nat) (lo : Int) (hi : Int) (kk : Int), (C 1 - kk).toNat < fu → (0 ≤ kk ∧ kk ≤ C 1) → (0 ≤ lo ∧ lo ≤ 1000000000) → (-1000000000 ≤ hi ∧ hi ≤ tank) → (lwI C P drag dd tank kk lo hi) →  J E 9 Γ none 0 0 [(ca, o1 (some pa) (some da) (some sa) C), (pa, aInt E 5 P)] 9 [(6, .int (iZ kk)), (5, .int (iZ hi)), (4, .int (iZ lo)), (0, .ref ca), (1, .int (iZ dd)), (2, .int (iZ drag)), (3, .int (iZ tank))] [] := by
    intro fu
    induction fu with
    | zero =>
      intro lo hi kk hm
      exact absurd hm (Nat.not_lt_zero _)
    | succ fu ih9 =>
      intro lo hi kk hm hk hlo hhi hw
      refine j_iload G 0 rfl d1_leastWater_9 ?_
      refine j_aload_n G 3 rfl d1_leastWater_11 ?_
      refine j_get G 0 1 1 in1 fl1_37 d1_leastWater_12 rfl rfl (by decide) (v := .int (iZ (C 1))) rfl rfl ?_
      refine j_icmp_ge (tgt := 109) G d1_leastWater_15 (by decide) (by omega) (by omega) (fun h1 => ?_) (fun h1 => ?_)
      ·
        refine j_iload G 2 rfl d1_leastWater_109 ?_
        refine j_iload G 1 rfl d1_leastWater_111 ?_
        refine j_icmp_gt (tgt := 121) G d1_leastWater_113 (by decide) (by omega) (by omega) (fun h2 => ?_) (fun h2 => ?_)
        ·
          refine j_bipush G d1_leastWater_121 rfl ?_
          exact j_iret G F d1_leastWater_123 ⟨(-5), rfl, (by first | exact lw_end hw (by omega) hlo.1 hhi.2 (by omega) | exact lw_none hw (by omega) (by omega) | (subst_vars; exact lw_bad hk.1 (by omega) (by omega) (by omega)))⟩
        ·
          refine j_iload G 2 rfl d1_leastWater_116 ?_
          refine j_goto (tgt := 123) G d1_leastWater_118 (by decide) ?_
          exact j_iret G F d1_leastWater_123 ⟨lo, rfl, (by first | exact lw_end hw (by omega) hlo.1 hhi.2 (by omega) | exact lw_none hw (by omega) (by omega) | (subst_vars; exact lw_bad hk.1 (by omega) (by omega) (by omega)))⟩
      ·
        refine j_aload_n G 3 rfl d1_leastWater_18 ?_
        refine j_iload G 0 rfl d1_leastWater_19 ?_
        refine j_aload_n G 3 rfl d1_leastWater_21 ?_
        refine j_get G 0 1 3 in1 fl1_15 d1_leastWater_22 rfl rfl (by decide) (v := .int (iZ (C 3))) rfl rfl ?_
        refine j_iload_n G 4 rfl d1_leastWater_25 ?_
        refine j_imul G d1_leastWater_26 ?_
        refine j_iload_n G 5 rfl d1_leastWater_27 ?_
        refine j_VP G (k1_pullAt (xl Γ) E ca pa da sa C P kk ((C 3) * dd) drag (by first | assumption | omega | (simp only [upS, reduceIte, Nat.reduceEqDiff, eq_self, List.length_cons, List.length_nil, List.length_append] <;> omega))) mw1_pullAt ml1_53 [0, 1] rfl 0 1 rfl rfl rfl ⟨Nat.le_of_ble_eq_true rfl, Nat.le_of_ble_eq_true rfl⟩ rfl (rest := []) rfl (Nat.le_of_ble_eq_true rfl) d1_leastWater_28 ⟨Nat.le_of_ble_eq_true rfl, Nat.le_of_ble_eq_true rfl⟩ (fun r hr => ?_)
        obtain ⟨v4, rfl, hq3⟩ := hr
        have hpr := pul_r hwf (k := kk) (load := C 3 * dd) (drag := drag) (by omega) (by omega) (by omega) (by omega) hdr.1 hdr.2
        refine j_istore G d1_leastWater_31 (by decide) rfl ?_
        refine j_aload_n G 4 rfl d1_leastWater_33 ?_
        refine j_get G 0 1 0 in1 fl1_9 d1_leastWater_34 rfl rfl (by decide) (v := .ref pa) rfl rfl ?_
        refine j_iload G 1 rfl d1_leastWater_37 ?_
        refine j_iald G 1 rfl (by omega) d1_leastWater_39 ?_
        have hb5 := hwf.2.1 kk (by omega) (by omega)
        refine j_istore G d1_leastWater_40 (by decide) rfl ?_
        refine j_iload G 0 rfl d1_leastWater_42 ?_
        refine j_if_le (tgt := 86) G d1_leastWater_44 (by decide) (by omega) (fun h6 => ?_) (fun h6 => ?_)
        ·
          refine j_iload G 1 rfl d1_leastWater_86 ?_
          refine j_if_le (tgt := 100) G d1_leastWater_88 (by decide) (by omega) (fun h7 => ?_) (fun h7 => ?_)
          ·
            refine j_bipush G d1_leastWater_100 rfl ?_
            exact j_iret G F d1_leastWater_102 ⟨(-5), rfl, (by first | exact lw_end hw (by omega) hlo.1 hhi.2 (by omega) | exact lw_none hw (by omega) (by omega) | (subst_vars; exact lw_bad hk.1 (by omega) (by omega) (by omega)))⟩
          ·
            refine j_iload G 1 rfl d1_leastWater_91 ?_
            refine j_aload_n G 5 rfl d1_leastWater_93 ?_
            refine j_get G 0 1 4 in1 fl1_19 d1_leastWater_94 rfl rfl (by decide) (v := .int (iZ (C 4))) rfl rfl ?_
            refine j_icmp_le (tgt := 103) G d1_leastWater_97 (by decide) (by omega) (by omega) (fun h8 => ?_) (fun h8 => ?_)
            ·
              refine j_iinc G d1_leastWater_103 2 rfl (by decide) rfl ?_
              refine j_goto (tgt := 9) G d1_leastWater_106 (by decide) ?_
              refine j_locs (ls' := [(6, .int (iZ (kk + 1))), (5, .int (iZ hi)), (4, .int (iZ lo)), (0, .ref ca), (1, .int (iZ dd)), (2, .int (iZ drag)), (3, .int (iZ tank))]) [0, 3, 4, 5, 6, 7, 8] rfl ?_
              exact ih9 lo hi (kk + 1) (by omega) (by first | assumption | omega) (by first | assumption | omega) (by first | assumption | omega) (by subst_vars; first | exact lw_pos hw hk.1 (by omega) | exact lw_zero hw hk.1 (by omega) (by omega) (by omega))
            ·
              refine j_bipush G d1_leastWater_100 rfl ?_
              exact j_iret G F d1_leastWater_102 ⟨(-5), rfl, (by first | exact lw_end hw (by omega) hlo.1 hhi.2 (by omega) | exact lw_none hw (by omega) (by omega) | (subst_vars; exact lw_bad hk.1 (by omega) (by omega) (by omega)))⟩
        ·
          refine j_iload G 4 rfl d1_leastWater_47 ?_
          refine j_iload G 1 rfl d1_leastWater_49 ?_
          refine j_iconst G d1_leastWater_51 ?_
          refine j_isub G d1_leastWater_52 ?_
          refine j_iload G 0 rfl d1_leastWater_53 ?_
          refine j_SP G (kM_floorDiv (xl Γ) E (v4 - 1) (P kk) (by first | assumption | omega | (simp only [upS, reduceIte, Nat.reduceEqDiff, eq_self, List.length_cons, List.length_nil, List.length_append] <;> omega)) (by first | assumption | omega | (simp only [upS, reduceIte, Nat.reduceEqDiff, eq_self, List.length_cons, List.length_nil, List.length_append] <;> omega))) mwM_floorDiv ml1_57 [] rfl ⟨Nat.le_of_ble_eq_true rfl, Nat.le_of_ble_eq_true rfl⟩ rfl (rest := [.int (iZ lo)]) rfl (Nat.le_of_ble_eq_true rfl) d1_leastWater_55 ⟨Nat.le_of_ble_eq_true rfl, Nat.le_of_ble_eq_true rfl⟩ (fun r hr => ?_)
          obtain ⟨v10, rfl, ⟨hq9_0, hq9_1, hq9_2⟩⟩ := hr
          refine j_ineg G d1_leastWater_58 ?_
          refine j_mmax G ml1_60 (by omega) (by omega) ⟨Nat.le_of_ble_eq_true rfl, Nat.le_of_ble_eq_true rfl⟩ ⟨Nat.le_of_ble_eq_true rfl, Nat.le_of_ble_eq_true rfl⟩ d1_leastWater_59 ?_
          refine j_istore G d1_leastWater_62 (by decide) rfl ?_
          refine j_iload G 4 rfl d1_leastWater_64 ?_
          refine j_aload_n G 5 rfl d1_leastWater_66 ?_
          refine j_get G 0 1 4 in1 fl1_19 d1_leastWater_67 rfl rfl (by decide) (v := .int (iZ (C 4))) rfl rfl ?_
          refine j_iload G 2 rfl d1_leastWater_70 ?_
          refine j_isub G d1_leastWater_72 ?_
          refine j_iload G 1 rfl d1_leastWater_73 ?_
          refine j_SP G (kM_floorDiv (xl Γ) E ((C 4) - v4) (P kk) (by first | assumption | omega | (simp only [upS, reduceIte, Nat.reduceEqDiff, eq_self, List.length_cons, List.length_nil, List.length_append] <;> omega)) (by first | assumption | omega | (simp only [upS, reduceIte, Nat.reduceEqDiff, eq_self, List.length_cons, List.length_nil, List.length_append] <;> omega))) mwM_floorDiv ml1_57 [] rfl ⟨Nat.le_of_ble_eq_true rfl, Nat.le_of_ble_eq_true rfl⟩ rfl (rest := [.int (iZ hi)]) rfl (Nat.le_of_ble_eq_true rfl) d1_leastWater_75 ⟨Nat.le_of_ble_eq_true rfl, Nat.le_of_ble_eq_true rfl⟩ (fun r hr => ?_)
          obtain ⟨v12, rfl, ⟨hq11_0, hq11_1, hq11_2⟩⟩ := hr
          refine j_mmin G ml1_47 (by omega) (by omega) ⟨Nat.le_of_ble_eq_true rfl, Nat.le_of_ble_eq_true rfl⟩ ⟨Nat.le_of_ble_eq_true rfl, Nat.le_of_ble_eq_true rfl⟩ d1_leastWater_78 ?_
          refine j_istore G d1_leastWater_81 (by decide) rfl ?_
          refine j_goto (tgt := 103) G d1_leastWater_83 (by decide) ?_
          refine j_iinc G d1_leastWater_103 4 rfl (by decide) rfl ?_
          refine j_goto (tgt := 9) G d1_leastWater_106 (by decide) ?_
          refine j_locs (ls' := [(6, .int (iZ (kk + 1))), (5, .int (iZ (min hi v12))), (4, .int (iZ (max lo (-v10)))), (0, .ref ca), (1, .int (iZ dd)), (2, .int (iZ drag)), (3, .int (iZ tank))]) [0, 1, 2, 5, 6, 7, 8] rfl ?_
          exact ih9 (max lo (-v10)) (min hi v12) (kk + 1) (by omega) (by first | assumption | omega) (by first | assumption | omega) (by first | assumption | omega) (by subst_vars; first | exact lw_pos hw hk.1 (by omega) | exact lw_zero hw hk.1 (by omega) (by omega) (by omega))
  exact lp9 _ 0 tank 0 (Nat.lt_succ_self _) (by first | assumption | omega) (by first | assumption | omega) (by first | assumption | omega) (lw_0 C P drag dd tank)
