/-! bits of an int -/
def bt (x : Int32) (i : Nat) : Bool := x.toBitVec.getLsbD i
theorem b_ext {x y : Int32} (h : ∀ i, i < 32 → bt x i = bt y i) : x = y := Int32.toBitVec_inj.mp (BitVec.eq_of_getLsbD_eq (fun i hi => h i hi))
theorem b_or (x y : Int32) (i : Nat) : bt (x ||| y) i = (bt x i || bt y i) := by unfold bt; rw [Int32.toBitVec_or, BitVec.getLsbD_or]
theorem b_and (x y : Int32) (i : Nat) : bt (x &&& y) i = (bt x i && bt y i) := by unfold bt; rw [Int32.toBitVec_and, BitVec.getLsbD_and]
theorem b_xor (x y : Int32) (i : Nat) : bt (x ^^^ y) i = (bt x i ^^ bt y i) := by unfold bt; rw [Int32.toBitVec_xor, BitVec.getLsbD_xor]
theorem b_m1 : ∀ i, i < 32 → bt (-1) i = true := by decide +kernel
theorem b_one : ∀ i, i < 32 → bt (iZ 1) i = decide (i = 0) := by decide +kernel
theorem b_zero : ∀ i, i < 32 → bt (iZ 0) i = false := by decide +kernel
theorem b_all : ∀ i, i < 32 → bt (iZ 16777215) i = decide (i < 24) := by decide +kernel
theorem b_min : ∀ i, i < 32 → bt (iZ (-1)) i = true := by decide +kernel
theorem s_l : ∀ n, n < 32 → ((nI n &&& 31).toBitVec.smod 32).toNat = n := by decide +kernel
theorem b_shl (n : Nat) (hn : n < 32) (x : Int32) {i : Nat} (hi : i < 32) : bt (x <<< (nI n &&& 31)) i = (decide (n ≤ i) && bt x (i - n)) := by
  unfold bt
  rw [Int32.toBitVec_shiftLeft]
  show (x.toBitVec <<< ((nI n &&& 31).toBitVec.smod 32).toNat).getLsbD i = _
  rw [s_l n hn, BitVec.getLsbD_shiftLeft]
  rcases Nat.lt_or_ge i n with h | h
  · simp [h, Nat.not_le.mpr h]
  · simp [hi, h, Nat.not_lt.mpr h]
theorem b_sshr (n : Nat) (hn : n < 32) (x : Int32) {i : Nat} (hi : i < 32) : bt (x >>> (nI n &&& 31)) i = if n + i < 32 then bt x (n + i) else bt x 31 := by
  unfold bt
  rw [Int32.toBitVec_shiftRight]
  show (x.toBitVec.sshiftRight ((nI n &&& 31).toBitVec.smod 32).toNat).getLsbD i = _
  rw [s_l n hn, BitVec.getLsbD_sshiftRight, BitVec.msb_eq_getLsbD_last]
  simp [hi]
theorem iZ_nat (k : Nat) : iZ (k : Int) = nI k := Int32.ofInt_eq_ofNat
/-- bit k of a number -/
def bz (s k : Int) : Int := ((iZ s >>> (iZ k &&& 31)) &&& iZ 1).toInt
theorem bz_top {s k : Int} : iZ ((iZ s >>> (iZ k &&& 31)).toInt) &&& iZ 1 = iZ (bz s k) := by unfold bz; rw [iZ_of, iZ_of]
theorem bz_e {s k : Int} (hk : 0 ≤ k) (hk2 : k ≤ 31) : bz s k = if bt (iZ s) k.toNat = true then 1 else 0 := by
  obtain ⟨n, rfl⟩ := Int.eq_ofNat_of_zero_le hk
  unfold bz
  rw [iZ_nat, Int.toNat_natCast]
  have hn : n < 32 := by omega
  cases hb : bt (iZ s) n with
  | true =>
    have e : (iZ s >>> (nI n &&& 31)) &&& iZ 1 = iZ 1 := b_ext (fun i hi => by
      rw [b_and, b_sshr n hn _ hi, b_one i hi]
      by_cases h : i = 0
      · subst h; simp [hb, hn]
      · simp [h])
    rw [e, iZ_toInt (by decide)]; rfl
  | false =>
    have e : (iZ s >>> (nI n &&& 31)) &&& iZ 1 = iZ 0 := b_ext (fun i hi => by
      rw [b_and, b_sshr n hn _ hi, b_one i hi, b_zero i hi]
      by_cases h : i = 0
      · subst h; simp [hb, hn]
      · simp [h])
    rw [e, iZ_toInt (by decide)]; rfl
theorem bz_01 {s k : Int} (hk : 0 ≤ k) (hk2 : k ≤ 31) : bz s k = 0 ∨ bz s k = 1 := by
  rw [bz_e hk hk2]; split
  · exact Or.inr rfl
  · exact Or.inl rfl
def pw (n : Int) : Int := (iZ 1 <<< (iZ n &&& 31)).toInt
theorem pw_top {n : Int} : iZ 1 <<< (iZ n &&& 31) = iZ (pw n) := by unfold pw; rw [iZ_of]
theorem pw_r {n : Int} (h : 0 ≤ n) (h2 : n ≤ 4) : 1 ≤ pw n ∧ pw n ≤ 16 := by
  rcases (show n = 0 ∨ n = 1 ∨ n = 2 ∨ n = 3 ∨ n = 4 by omega) with h | h | h | h | h <;> subst h <;> exact ⟨by decide +kernel, by decide +kernel⟩
