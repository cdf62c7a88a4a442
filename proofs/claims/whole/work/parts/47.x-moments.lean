/-! the bits of the moments at which something holds -/
def mb (m : Int) (f : Bv) : Prop := ∀ i : Nat, i < 32 → bt (iZ m) i = decide (i < 24 ∧ ¬ f ((i % 12 : Nat) : Int) ((i / 12 : Nat) : Int) = 0)
theorem mb_or {a b : Int} {f g : Bv} (h : mb a f) (h2 : mb b g) : mb ((iZ a ||| iZ b).toInt) (orB f g) := fun i hi => by
  rw [iZ_of, b_or, h i hi, h2 i hi]
  have e : ∀ x y : Int, ¬ orV x y = 0 ↔ (¬ x = 0 ∨ ¬ y = 0) := fun x y => by unfold orV; (repeat' split) <;> omega
  by_cases q : i < 24 <;> simp [q, orB, e]
theorem mb_and {a b : Int} {f g : Bv} (h : mb a f) (h2 : mb b g) : mb ((iZ a &&& iZ b).toInt) (anB f g) := fun i hi => by
  rw [iZ_of, b_and, h i hi, h2 i hi]
  have e : ∀ x y : Int, ¬ andV x y = 0 ↔ (¬ x = 0 ∧ ¬ y = 0) := fun x y => by unfold andV; (repeat' split) <;> omega
  by_cases q : i < 24 <;> simp [q, anB, e]
theorem mb_not {a : Int} {f : Bv} (h : mb a f) : mb ((iZ 16777215 &&& iZ ((iZ a ^^^ iZ (-1)).toInt)).toInt) (ntB f) := fun i hi => by
  rw [iZ_of, iZ_of, b_and, b_xor, h i hi, b_all i hi, b_min i hi]
  have e : ∀ x : Int, ¬ notV x = 0 ↔ x = 0 := fun x => by unfold notV; split <;> omega
  by_cases q : i < 24 <;> simp [q, ntB, e]
theorem mb_nn {a : Int} {f : Bv} (h : mb a f) : mb a (ntB (ntB f)) := fun i hi => by
  rw [h i hi]
  have e : ∀ x : Int, ¬ notV (notV x) = 0 ↔ ¬ x = 0 := fun x => by unfold notV; (repeat' split) <;> omega
  simp only [ntB, e]
theorem mb_bz {m k : Int} {f : Bv} (h : mb m f) (hk : 0 ≤ k) (hk2 : k < 24) : bz m k = if f (k % 12) (k / 12) = 0 then 0 else 1 := by
  rw [bz_e hk (by omega), h k.toNat (by omega)]
  have e1 : ((k.toNat % 12 : Nat) : Int) = k % 12 := by omega
  have e2 : ((k.toNat / 12 : Nat) : Int) = k / 12 := by omega
  rw [e1, e2]
  by_cases q : f (k % 12) (k / 12) = 0
  · rw [if_pos q]; simp [q]
  · rw [if_neg q]; simp [q]; omega
/-- the bits below k are told -/
def mbk (m : Int) (f : Bv) (k : Int) : Prop := ∀ i : Nat, i < 32 → bt (iZ m) i = decide ((i : Int) < k ∧ ¬ f ((i % 12 : Nat) : Int) ((i / 12 : Nat) : Int) = 0)
theorem mbk_0 {f : Bv} : mbk 0 f 0 := fun i hi => by
  rw [b_zero i hi]
  simp; intro q; omega
theorem mbk_no {m k : Int} {f : Bv} (h : mbk m f k) (hk : 0 ≤ k) (hz : f (k % 12) (k / 12) = 0) : mbk m f (k + 1) := fun i hi => by
  rw [h i hi]
  by_cases q : (i : Int) = k
  · have e1 : ((i % 12 : Nat) : Int) = k % 12 := by omega
    have e2 : ((i / 12 : Nat) : Int) = k / 12 := by omega
    rw [e1, e2]
    simp [hz]
  · have : ((i : Int) < k + 1) ↔ (i : Int) < k := by omega
    simp [this]
theorem mbk_up {m k : Int} {f : Bv} (h : mbk m f k) (hk : 0 ≤ k) (hk2 : k < 24) (hz : ¬ f (k % 12) (k / 12) = 0) : mbk ((iZ m ||| iZ ((iZ 1 <<< (iZ k &&& 31)).toInt)).toInt) f (k + 1) := fun i hi => by
  obtain ⟨n, rfl⟩ := Int.eq_ofNat_of_zero_le hk
  rw [iZ_of, iZ_of, b_or, h i hi, iZ_nat, b_shl n (by omega) _ hi]
  by_cases q : i = n
  · subst q
    have e1 : ((i % 12 : Nat) : Int) = (i : Int) % 12 := by omega
    have e2 : ((i / 12 : Nat) : Int) = (i : Int) / 12 := by omega
    rw [e1, e2, b_one _ (by omega)]
    simp [hz]; omega
  · have h1 : ((i : Int) < (n : Int) + 1) ↔ (i : Int) < (n : Int) := by omega
    by_cases q2 : n ≤ i
    · rw [b_one _ (by omega)]
      have : ¬ i - n = 0 := by omega
      simp [h1, this]
    · simp [h1, q2]
theorem mbk_e {m : Int} {f : Bv} (h : mbk m f 24) : mb m f := fun i hi => by
  rw [h i hi]
  have : ((i : Int) < 24) ↔ i < 24 := by omega
  simp [this]
/-! the word that stands at a place -/
section
variable {U : Int → Int} {n p k : Int}
theorem wb_0 : wb 0 0 = 112 ∧ wb 1 0 = 114 ∧ wb 2 0 = 104 ∧ wb 3 0 = 100 ∧ wb 4 0 = 98 ∧ wb 5 0 = 116 ∧ wb 6 0 = 115 ∧ wb 7 0 = 115 ∧ wb 8 0 = 112 ∧ wb 0 1 = 97 ∧ wb 6 1 = 101 ∧ wb 7 1 = 112 ∧ wb 8 1 = 111 := by decide +kernel
theorem mt_f (h : ¬ nx U n p = wb k 0) : mt U n p k = 0 := by
  unfold mt
  have := wl_r k
  rw [show (wl k).toNat = (wl k - 1).toNat + 1 by omega]
  exact mtF_n (by rw [Int.add_zero]; exact h)
theorem mt_t (h : nx U n p = wb k 0) : 1 ≤ mt U n p k := by
  unfold mt
  have := wl_r k
  rw [show (wl k).toNat = (wl k - 1).toNat + 1 by omega, mtF_y (by rw [Int.add_zero]; exact h)]
  exact (mtF_r (wl k - 1).toNat (0 + 1)).1
theorem mt_u (h : nx U n p = wb k 0) (h2 : ¬ nx U n (p + 1) = wb k 1) : mt U n p k = 1 := by
  unfold mt
  have := wl_r k
  rw [show (wl k).toNat = (wl k - 2).toNat + 1 + 1 by omega, mtF_y (by rw [Int.add_zero]; exact h)]
  exact mtF_n h2
theorem hd_112 (h : nx U n p = 112) : hdK U n p = if nx U n (p + 1) = 111 then 8 else 0 := by unfold hdK; rw [if_pos h]
theorem hd_114 (h : nx U n p = 114) : hdK U n p = 1 := by unfold hdK; rw [if_neg (by omega), if_pos h]
theorem hd_104 (h : nx U n p = 104) : hdK U n p = 2 := by unfold hdK; rw [if_neg (by omega), if_neg (by omega), if_pos h]
theorem hd_100 (h : nx U n p = 100) : hdK U n p = 3 := by unfold hdK; rw [if_neg (by omega), if_neg (by omega), if_neg (by omega), if_pos h]
theorem hd_98 (h : nx U n p = 98) : hdK U n p = 4 := by unfold hdK; rw [if_neg (by omega), if_neg (by omega), if_neg (by omega), if_neg (by omega), if_pos h]
theorem hd_115 (h : nx U n p = 115) : hdK U n p = if nx U n (p + 1) = 112 then 7 else 6 := by unfold hdK; rw [if_neg (by omega), if_neg (by omega), if_neg (by omega), if_neg (by omega), if_neg (by omega), if_pos h]
theorem hd_116 (h : nx U n p = 116) : hdK U n p = 5 := by unfold hdK; rw [if_neg (by omega), if_neg (by omega), if_neg (by omega), if_neg (by omega), if_neg (by omega), if_neg (by omega)]
theorem mt_same (h : hdK U n p = k) : mt U n p k ≤ mt U n p (hdK U n p) ∧ (mt U n p k = wl k → k = hdK U n p) := by rw [h]; exact ⟨Int.le_refl _, fun _ => rfl⟩
theorem mt_alt {b : Int} (h : hdK U n p = b) (hf : nx U n p = wb k 0) (h2 : ¬ nx U n (p + 1) = wb k 1) (h1 : nx U n p = wb b 0) : mt U n p k ≤ mt U n p (hdK U n p) ∧ (mt U n p k = wl k → k = hdK U n p) := by
  have hw := wl_r k
  have h3 := mt_u hf h2
  have h4 := mt_t h1
  rw [h]
  exact ⟨by omega, fun q => by omega⟩
theorem mt_best (hk : 0 ≤ k ∧ k ≤ 8) : mt U n p k ≤ mt U n p (hdK U n p) ∧ (mt U n p k = wl k → k = hdK U n p) := by
  have hw := wl_r k
  by_cases hf : nx U n p = wb k 0
  · obtain ⟨z0, z1, z2, z3, z4, z5, z6, z7, z8, y0, y6, y7, y8⟩ := wb_0
    rcases (show k = 0 ∨ k = 1 ∨ k = 2 ∨ k = 3 ∨ k = 4 ∨ k = 5 ∨ k = 6 ∨ k = 7 ∨ k = 8 by omega) with q | q | q | q | q | q | q | q | q <;> subst q
    · have e := hd_112 (by omega : nx U n p = 112)
      by_cases z : nx U n (p + 1) = 111
      · rw [if_pos z] at e; exact mt_alt e hf (by omega) (by omega)
      · rw [if_neg z] at e; exact mt_same e
    · exact mt_same (hd_114 (by omega))
    · exact mt_same (hd_104 (by omega))
    · exact mt_same (hd_100 (by omega))
    · exact mt_same (hd_98 (by omega))
    · exact mt_same (hd_116 (by omega))
    · have e := hd_115 (by omega : nx U n p = 115)
      by_cases z : nx U n (p + 1) = 112
      · rw [if_pos z] at e; exact mt_alt e hf (by omega) (by omega)
      · rw [if_neg z] at e; exact mt_same e
    · have e := hd_115 (by omega : nx U n p = 115)
      by_cases z : nx U n (p + 1) = 112
      · rw [if_pos z] at e; exact mt_same e
      · rw [if_neg z] at e; exact mt_alt e hf (by omega) (by omega)
    · have e := hd_112 (by omega : nx U n p = 112)
      by_cases z : nx U n (p + 1) = 111
      · rw [if_pos z] at e; exact mt_same e
      · rw [if_neg z] at e; exact mt_alt e hf (by omega) (by omega)
  · have h3 := mt_f hf
    have h4 := mt_r U n p (hdK U n p)
    exact ⟨by omega, fun q => by omega⟩
end
theorem tst_e {sb rl n s q : Int} (h1 : sb = 115 ∨ sb = 119) (h2 : 60 ≤ rl ∧ rl ≤ 62) (h3 : 0 ≤ n ∧ n ≤ 99) : tstV ((if sb = 115 then 0 else 10000) + 100 * (rl - 60) + n) s q = if rl = 60 then (if (if sb = 115 then s else q) < n then 1 else 0) else if rl = 62 then (if n < (if sb = 115 then s else q) then 1 else 0) else (if (if sb = 115 then s else q) = n then 1 else 0) := by
  have e1 : ((if sb = 115 then 0 else 10000) + 100 * (rl - 60) + n) / 100 % 100 = rl - 60 := by split <;> omega
  have e2 : ((if sb = 115 then 0 else 10000) + 100 * (rl - 60) + n) % 100 = n := by split <;> omega
  have e3 : ((if sb = 115 then 0 else 10000) + 100 * (rl - 60) + n < 10000) ↔ sb = 115 := by split <;> omega
  unfold tstV
  rw [e1, e2]
  simp only [e3]
  rcases (show rl = 60 ∨ rl = 61 ∨ rl = 62 by omega) with q | q | q <;> subst q <;> simp
