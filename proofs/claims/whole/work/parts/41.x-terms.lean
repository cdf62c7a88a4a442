/-! longs of a kept worth: edition above, worth below 20 bits -/
theorem lZ_nat (k : Nat) : lZ (k : Int) = lN k := Int64.ofInt_eq_ofNat
theorem c20 : ((iZ 20).toInt64 &&& 63) = lN 20 := by decide +kernel
theorem kn_hi {x : Int} (h0 : 0 ≤ x) (h : x < 4611686018427387904) : lZ x >>> ((iZ 20).toInt64 &&& 63) = lZ (x / 1048576) := by
  obtain ⟨a, rfl⟩ := Int.eq_ofNat_of_zero_le h0
  have hD : (((iZ 20).toInt64 &&& 63).toBitVec.smod 64).toNat = 20 := by decide +kernel
  apply Int64.toInt_inj.mp
  have e : (lZ (a : Int) >>> ((iZ 20).toInt64 &&& 63)).toInt = (lZ (a : Int)).toInt >>> 20 := by
    show ((lZ (a : Int)).toBitVec.sshiftRight (((iZ 20).toInt64 &&& 63).toBitVec.smod 64).toNat).toInt = _
    rw [hD]
    exact BitVec.toInt_sshiftRight ..
  rw [e, Int.shiftRight_eq_div_pow, lZ_toInt ⟨by omega, by omega⟩, lZ_toInt ⟨by omega, by omega⟩]
  rfl
theorem kn_sh {x : Int} (h0 : 0 ≤ x) (h : x < 8796093022208) : lZ x <<< ((iZ 20).toInt64 &&& 63) = lZ (x * 1048576) := by
  obtain ⟨a, rfl⟩ := Int.eq_ofNat_of_zero_le h0
  have hD : ((iZ 20).toInt64 &&& 63).toBitVec.smod 64 = BitVec.ofNat 64 20 := by decide +kernel
  rw [show (a : Int) * 1048576 = ((a * 1048576 : Nat) : Int) by omega, lZ_nat, lZ_nat]
  apply Int64.toBitVec_inj.mp
  rw [Int64.toBitVec_shiftLeft, hD]
  apply BitVec.eq_of_toNat_eq
  have hb : (lN a).toBitVec.toNat = a := Nat.mod_eq_of_lt (by omega)
  have hk' : (BitVec.ofNat 64 20).toNat = 20 := by decide
  have h2 : ((lN a).toBitVec <<< BitVec.ofNat 64 20).toNat = (a * 2 ^ 20) % 2 ^ 64 := by simp only [BitVec.shiftLeft_eq', BitVec.toNat_shiftLeft, hb, hk', Nat.shiftLeft_eq]
  rw [h2]
  rfl
theorem kn_or {x w : Int} (h0 : 0 ≤ x) (h : x < 8796093022208) (hw : 0 ≤ w) (hw2 : w < 1048576) : lZ (x * 1048576) ||| lZ w = lZ (x * 1048576 + w) := by
  obtain ⟨a, rfl⟩ := Int.eq_ofNat_of_zero_le h0
  obtain ⟨b, rfl⟩ := Int.eq_ofNat_of_zero_le hw
  rw [show (a : Int) * 1048576 = ((a * 1048576 : Nat) : Int) by omega, show ((a * 1048576 : Nat) : Int) + (b : Int) = ((a * 1048576 + b : Nat) : Int) by omega, lZ_nat, lZ_nat, lZ_nat]
  have tn : ∀ n : Nat, n < 2 ^ 64 → (UInt64.ofNat n).toNat = n := fun n h => Nat.mod_eq_of_lt h
  have h1 : a * 2 ^ 20 ||| b = a * 2 ^ 20 + b := by rw [← Nat.shiftLeft_eq, Nat.shiftLeft_add_eq_or_of_lt (by omega)]
  have h3 : UInt64.ofNat (a * 1048576) ||| UInt64.ofNat b = UInt64.ofNat (a * 1048576 + b) := UInt64.toNat_inj.mp (by rw [UInt64.toNat_or, tn _ (by omega), tn _ (by omega), tn _ (by omega)]; exact h1)
  exact congrArg UInt64.toInt64 h3
theorem kn_lo {x : Int} (h0 : 0 ≤ x) (h : x < 4611686018427387904) : iZ x &&& iZ 1048575 = iZ (x % 1048576) := by
  obtain ⟨a, rfl⟩ := Int.eq_ofNat_of_zero_le h0
  rw [show (a : Int) % 1048576 = ((a % 1048576 : Nat) : Int) by omega, iZ_nat, iZ_nat, show iZ 1048575 = nI 1048575 from rfl]
  apply Int32.toBitVec_inj.mp
  rw [Int32.toBitVec_and]
  apply BitVec.eq_of_toNat_eq
  rw [BitVec.toNat_and]
  show (BitVec.ofNat 32 a).toNat &&& (BitVec.ofNat 32 1048575).toNat = (BitVec.ofNat 32 (a % 1048576)).toNat
  rw [BitVec.toNat_ofNat, BitVec.toNat_ofNat, BitVec.toNat_ofNat, show 1048575 % 2 ^ 32 = 2 ^ 20 - 1 from rfl, Nat.and_two_pow_sub_one_eq_mod]
  omega
/-! the terms of a day: T the numbers, C P the cliff's, da sa its drags and springs, co who comes -/
def TmK (K : Dy) (T C : Nat → Int) (P da sa co : Int → Int) : Prop := (T 3 = K.tk ∧ T 4 = K.se ∧ T 5 = K.mx ∧ (T 1 = 0 ∨ T 1 = 12) ∧ 0 ≤ T 6 ∧ T 6 ≤ 80) ∧ okD K ∧ wfC C P ∧ ∀ s, 0 ≤ s → s ≤ 11 → (0 ≤ sa (T 1 + s) ∧ sa (T 1 + s) ≤ 11988) ∧ sa (T 1 + s) + T 6 = K.sp s ∧ co s = K.ca s ∧ co (12 + s) = K.cb s ∧ (0 ≤ da (T 1 + s) ∧ da (T 1 + s) ≤ 11988) ∧ ∀ d u, 0 ≤ d → d ≤ K.se → 0 ≤ u → u ≤ K.se → lF C P (da (T 1 + s)) (d - u) (T 3) = K.lw s d u
theorem d7_pondWithSpring_0 : decode c7_pondWithSpring 0 = .ok (.iload_n 2, 1) := by decide +kernel
theorem d7_pondWithSpring_1 : decode c7_pondWithSpring 1 = .ok (.aload_n 0, 1) := by decide +kernel
theorem d7_pondWithSpring_2 : decode c7_pondWithSpring 2 = .ok (.getfield 12, 3) := by decide +kernel
theorem d7_pondWithSpring_5 : decode c7_pondWithSpring 5 = .ok (.getfield 60, 3) := by decide +kernel
theorem d7_pondWithSpring_8 : decode c7_pondWithSpring 8 = .ok (.aload_n 0, 1) := by decide +kernel
theorem d7_pondWithSpring_9 : decode c7_pondWithSpring 9 = .ok (.getfield 28, 3) := by decide +kernel
theorem d7_pondWithSpring_12 : decode c7_pondWithSpring 12 = .ok (.iload_n 1, 1) := by decide +kernel
theorem d7_pondWithSpring_13 : decode c7_pondWithSpring 13 = .ok (.iadd, 1) := by decide +kernel
theorem d7_pondWithSpring_14 : decode c7_pondWithSpring 14 = .ok (.iaload, 1) := by decide +kernel
theorem d7_pondWithSpring_15 : decode c7_pondWithSpring 15 = .ok (.iadd, 1) := by decide +kernel
theorem d7_pondWithSpring_16 : decode c7_pondWithSpring 16 = .ok (.aload_n 0, 1) := by decide +kernel
theorem d7_pondWithSpring_17 : decode c7_pondWithSpring 17 = .ok (.getfield 51, 3) := by decide +kernel
theorem d7_pondWithSpring_20 : decode c7_pondWithSpring 20 = .ok (.iadd, 1) := by decide +kernel
theorem d7_pondWithSpring_21 : decode c7_pondWithSpring 21 = .ok (.aload_n 0, 1) := by decide +kernel
theorem d7_pondWithSpring_22 : decode c7_pondWithSpring 22 = .ok (.getfield 50, 3) := by decide +kernel
theorem d7_pondWithSpring_25 : decode c7_pondWithSpring 25 = .ok (.invokestatic 54, 3) := by decide +kernel
theorem d7_pondWithSpring_28 : decode c7_pondWithSpring 28 = .ok (.ireturn, 1) := by decide +kernel
theorem mw7_pondWithSpring : MV y7_pondWithSpring c7_pondWithSpring 3 (some .int) 2 := ⟨cd7_pondWithSpring, ini7, na7_pondWithSpring, im7_pondWithSpring, se7_pondWithSpring⟩
set_option maxHeartbeats 4000000 in
set_option maxRecDepth 100000 in
theorem k7_pondWithSpring (l : Launch) (E : En) (ta : Nat) (oa : Nat) (T : Nat → Int) (ca : Nat) (pa : Nat) (da : Nat) (sa : Nat) (C : Nat → Int) (P : Int → Int) (dr : Int → Int) (sr : Int → Int) (co : Int → Int) (K : Dy) (step : Int) (p : Int) (htm : TmK K T C P dr sr co) (hst : 0 ≤ step ∧ step ≤ 11) (hp : 0 ≤ p ∧ p ≤ 40) : Cp l E y7_pondWithSpring c7_pondWithSpring 3 (some .int) 1 13 [.ref ta, .int (iZ step), .int (iZ p)] [(ta, o7 (some ca) (some oa) T), (oa, aInt E 24 co), (ca, o1 (some pa) (some da) (some sa) C), (pa, aInt E 5 P), (da, aInt E 24 dr), (sa, aInt E 24 sr)] (fun r => ∃ (v : Int), r = some (.int (iZ v)) ∧ (v = min K.mx (p + K.sp step) ∧ 0 ≤ v ∧ v ≤ 40)) := by
  refine Cp.of (by decide +kernel) (Nat.le_of_ble_eq_true rfl) (fun Γ hl hargs G F => ?_)
  subst hl
  obtain ⟨⟨t1, t2, t3, t4, t5, t6⟩, tok, twf, ts⟩ := htm
  obtain ⟨s1, s2, s3, s4, s5, s6⟩ := ts step hst.1 hst.2
  have tk1 := tok.1
  have tk2 := tok.2.1
  have tk3 := tok.2.2.1
  have tk4 := tok.2.2.2 step hst.1 hst.2
  refine j_iload_n G 2 rfl d7_pondWithSpring_0 ?_
  refine j_aload_n G 0 rfl d7_pondWithSpring_1 ?_
  refine j_get G 0 7 0 in7 fl7_12 d7_pondWithSpring_2 rfl rfl (by decide) (v := .ref ca) rfl rfl ?_
  refine j_get G 2 1 9 in1 fl7_60 d7_pondWithSpring_5 rfl rfl (by decide) (v := .ref sa) rfl rfl ?_
  refine j_aload_n G 0 rfl d7_pondWithSpring_8 ?_
  refine j_get G 0 7 1 in7 fl7_28 d7_pondWithSpring_9 rfl rfl (by decide) (v := .int (iZ (T 1))) rfl rfl ?_
  refine j_iload_n G 1 rfl d7_pondWithSpring_12 ?_
  refine j_iadd G d7_pondWithSpring_13 ?_
  refine j_iald G 5 rfl (by omega) d7_pondWithSpring_14 ?_
  refine j_iadd G d7_pondWithSpring_15 ?_
  refine j_aload_n G 0 rfl d7_pondWithSpring_16 ?_
  refine j_get G 0 7 6 in7 fl7_51 d7_pondWithSpring_17 rfl rfl (by decide) (v := .int (iZ (T 6))) rfl rfl ?_
  refine j_iadd G d7_pondWithSpring_20 ?_
  refine j_aload_n G 0 rfl d7_pondWithSpring_21 ?_
  refine j_get G 0 7 5 in7 fl7_50 d7_pondWithSpring_22 rfl rfl (by decide) (v := .int (iZ (T 5))) rfl rfl ?_
  refine j_mmin G ml7_54 (by omega) (by omega) ⟨Nat.le_of_ble_eq_true rfl, Nat.le_of_ble_eq_true rfl⟩ ⟨Nat.le_of_ble_eq_true rfl, Nat.le_of_ble_eq_true rfl⟩ d7_pondWithSpring_25 ?_
  exact j_iret G F d7_pondWithSpring_28 ⟨min ((p + (sr ((T 1) + step))) + (T 6)) (T 5), rfl, (by omega)⟩
theorem d7_comingAbove_0 : decode c7_comingAbove 0 = .ok (.aload_n 0, 1) := by decide +kernel
theorem d7_comingAbove_1 : decode c7_comingAbove 1 = .ok (.getfield 18, 3) := by decide +kernel
theorem d7_comingAbove_4 : decode c7_comingAbove 4 = .ok (.iload_n 1, 1) := by decide +kernel
theorem d7_comingAbove_5 : decode c7_comingAbove 5 = .ok (.iaload, 1) := by decide +kernel
theorem d7_comingAbove_6 : decode c7_comingAbove 6 = .ok (.ireturn, 1) := by decide +kernel
theorem mw7_comingAbove : MV y7_comingAbove c7_comingAbove 2 (some .int) 1 := ⟨cd7_comingAbove, ini7, na7_comingAbove, im7_comingAbove, se7_comingAbove⟩
set_option maxHeartbeats 4000000 in
set_option maxRecDepth 100000 in
theorem k7_comingAbove (l : Launch) (E : En) (ta : Nat) (oa : Nat) (T : Nat → Int) (ca : Nat) (pa : Nat) (da : Nat) (sa : Nat) (C : Nat → Int) (P : Int → Int) (dr : Int → Int) (sr : Int → Int) (co : Int → Int) (K : Dy) (step : Int) (htm : TmK K T C P dr sr co) (hst : 0 ≤ step ∧ step ≤ 11) : Cp l E y7_comingAbove c7_comingAbove 2 (some .int) 0 0 [.ref ta, .int (iZ step)] [(ta, o7 (some ca) (some oa) T), (oa, aInt E 24 co), (ca, o1 (some pa) (some da) (some sa) C), (pa, aInt E 5 P), (da, aInt E 24 dr), (sa, aInt E 24 sr)] (fun r => ∃ (v : Int), r = some (.int (iZ v)) ∧ (v = K.ca step ∧ 0 ≤ v ∧ v ≤ 6)) := by
  refine Cp.of (by decide +kernel) (Nat.le_of_ble_eq_true rfl) (fun Γ hl hargs G F => ?_)
  subst hl
  obtain ⟨⟨t1, t2, t3, t4, t5, t6⟩, tok, twf, ts⟩ := htm
  obtain ⟨s1, s2, s3, s4, s5, s6⟩ := ts step hst.1 hst.2
  have tk1 := tok.1
  have tk2 := tok.2.1
  have tk3 := tok.2.2.1
  have tk4 := tok.2.2.2 step hst.1 hst.2
  refine j_aload_n G 0 rfl d7_comingAbove_0 ?_
  refine j_get G 0 7 2 in7 fl7_18 d7_comingAbove_1 rfl rfl (by decide) (v := .ref oa) rfl rfl ?_
  refine j_iload_n G 1 rfl d7_comingAbove_4 ?_
  refine j_iald G 1 rfl (by omega) d7_comingAbove_5 ?_
  exact j_iret G F d7_comingAbove_6 ⟨co step, rfl, (by omega)⟩
theorem d7_comingBelow_0 : decode c7_comingBelow 0 = .ok (.aload_n 0, 1) := by decide +kernel
theorem d7_comingBelow_1 : decode c7_comingBelow 1 = .ok (.getfield 18, 3) := by decide +kernel
theorem d7_comingBelow_4 : decode c7_comingBelow 4 = .ok (.bipush 12, 2) := by decide +kernel
theorem d7_comingBelow_6 : decode c7_comingBelow 6 = .ok (.iload_n 1, 1) := by decide +kernel
theorem d7_comingBelow_7 : decode c7_comingBelow 7 = .ok (.iadd, 1) := by decide +kernel
theorem d7_comingBelow_8 : decode c7_comingBelow 8 = .ok (.iaload, 1) := by decide +kernel
theorem d7_comingBelow_9 : decode c7_comingBelow 9 = .ok (.ireturn, 1) := by decide +kernel
theorem mw7_comingBelow : MV y7_comingBelow c7_comingBelow 2 (some .int) 1 := ⟨cd7_comingBelow, ini7, na7_comingBelow, im7_comingBelow, se7_comingBelow⟩
set_option maxHeartbeats 4000000 in
set_option maxRecDepth 100000 in
theorem k7_comingBelow (l : Launch) (E : En) (ta : Nat) (oa : Nat) (T : Nat → Int) (ca : Nat) (pa : Nat) (da : Nat) (sa : Nat) (C : Nat → Int) (P : Int → Int) (dr : Int → Int) (sr : Int → Int) (co : Int → Int) (K : Dy) (step : Int) (htm : TmK K T C P dr sr co) (hst : 0 ≤ step ∧ step ≤ 11) : Cp l E y7_comingBelow c7_comingBelow 2 (some .int) 0 0 [.ref ta, .int (iZ step)] [(ta, o7 (some ca) (some oa) T), (oa, aInt E 24 co), (ca, o1 (some pa) (some da) (some sa) C), (pa, aInt E 5 P), (da, aInt E 24 dr), (sa, aInt E 24 sr)] (fun r => ∃ (v : Int), r = some (.int (iZ v)) ∧ (v = K.cb step ∧ 0 ≤ v ∧ v ≤ 6)) := by
  refine Cp.of (by decide +kernel) (Nat.le_of_ble_eq_true rfl) (fun Γ hl hargs G F => ?_)
  subst hl
  obtain ⟨⟨t1, t2, t3, t4, t5, t6⟩, tok, twf, ts⟩ := htm
  obtain ⟨s1, s2, s3, s4, s5, s6⟩ := ts step hst.1 hst.2
  have tk1 := tok.1
  have tk2 := tok.2.1
  have tk3 := tok.2.2.1
  have tk4 := tok.2.2.2 step hst.1 hst.2
  refine j_aload_n G 0 rfl d7_comingBelow_0 ?_
  refine j_get G 0 7 2 in7 fl7_18 d7_comingBelow_1 rfl rfl (by decide) (v := .ref oa) rfl rfl ?_
  refine j_bipush G d7_comingBelow_4 rfl ?_
  refine j_iload_n G 1 rfl d7_comingBelow_6 ?_
  refine j_iadd G d7_comingBelow_7 ?_
  refine j_iald G 1 rfl (by omega) d7_comingBelow_8 ?_
  exact j_iret G F d7_comingBelow_9 ⟨co (12 + step), rfl, (by omega)⟩
theorem d7_seated_0 : decode c7_seated 0 = .ok (.iload_n 1, 1) := by decide +kernel
theorem d7_seated_1 : decode c7_seated 1 = .ok (.aload_n 0, 1) := by decide +kernel
theorem d7_seated_2 : decode c7_seated 2 = .ok (.getfield 46, 3) := by decide +kernel
theorem d7_seated_5 : decode c7_seated 5 = .ok (.invokestatic 54, 3) := by decide +kernel
theorem d7_seated_8 : decode c7_seated 8 = .ok (.ireturn, 1) := by decide +kernel
theorem mw7_seated : MV y7_seated c7_seated 2 (some .int) 1 := ⟨cd7_seated, ini7, na7_seated, im7_seated, se7_seated⟩
set_option maxHeartbeats 4000000 in
set_option maxRecDepth 100000 in
theorem k7_seated (l : Launch) (E : En) (ta : Nat) (oa : Nat) (T : Nat → Int) (ca : Nat) (pa : Nat) (da : Nat) (sa : Nat) (C : Nat → Int) (P : Int → Int) (dr : Int → Int) (sr : Int → Int) (co : Int → Int) (K : Dy) (a : Int) (htm : TmK K T C P dr sr co) (ha : 0 ≤ a ∧ a ≤ 8) : Cp l E y7_seated c7_seated 2 (some .int) 1 13 [.ref ta, .int (iZ a)] [(ta, o7 (some ca) (some oa) T), (oa, aInt E 24 co), (ca, o1 (some pa) (some da) (some sa) C), (pa, aInt E 5 P), (da, aInt E 24 dr), (sa, aInt E 24 sr)] (fun r => ∃ (v : Int), r = some (.int (iZ v)) ∧ (v = min a K.se ∧ 0 ≤ v ∧ v ≤ 6 ∧ v ≤ a ∧ v ≤ K.se)) := by
  refine Cp.of (by decide +kernel) (Nat.le_of_ble_eq_true rfl) (fun Γ hl hargs G F => ?_)
  subst hl
  have t2 := htm.1.2.1
  have tk2 := htm.2.1.2.1
  refine j_iload_n G 1 rfl d7_seated_0 ?_
  refine j_aload_n G 0 rfl d7_seated_1 ?_
  refine j_get G 0 7 4 in7 fl7_46 d7_seated_2 rfl rfl (by decide) (v := .int (iZ (T 4))) rfl rfl ?_
  refine j_mmin G ml7_54 (by omega) (by omega) ⟨Nat.le_of_ble_eq_true rfl, Nat.le_of_ble_eq_true rfl⟩ ⟨Nat.le_of_ble_eq_true rfl, Nat.le_of_ble_eq_true rfl⟩ d7_seated_5 ?_
  exact j_iret G F d7_seated_8 ⟨min a (T 4), rfl, (by omega)⟩
theorem d7_leastFor_0 : decode c7_leastFor 0 = .ok (.aload_n 0, 1) := by decide +kernel
theorem d7_leastFor_1 : decode c7_leastFor 1 = .ok (.getfield 12, 3) := by decide +kernel
theorem d7_leastFor_4 : decode c7_leastFor 4 = .ok (.iload_n 2, 1) := by decide +kernel
theorem d7_leastFor_5 : decode c7_leastFor 5 = .ok (.iload_n 3, 1) := by decide +kernel
theorem d7_leastFor_6 : decode c7_leastFor 6 = .ok (.isub, 1) := by decide +kernel
theorem d7_leastFor_7 : decode c7_leastFor 7 = .ok (.aload_n 0, 1) := by decide +kernel
theorem d7_leastFor_8 : decode c7_leastFor 8 = .ok (.getfield 12, 3) := by decide +kernel
theorem d7_leastFor_11 : decode c7_leastFor 11 = .ok (.getfield 63, 3) := by decide +kernel
theorem d7_leastFor_14 : decode c7_leastFor 14 = .ok (.aload_n 0, 1) := by decide +kernel
theorem d7_leastFor_15 : decode c7_leastFor 15 = .ok (.getfield 28, 3) := by decide +kernel
theorem d7_leastFor_18 : decode c7_leastFor 18 = .ok (.iload_n 1, 1) := by decide +kernel
theorem d7_leastFor_19 : decode c7_leastFor 19 = .ok (.iadd, 1) := by decide +kernel
theorem d7_leastFor_20 : decode c7_leastFor 20 = .ok (.iaload, 1) := by decide +kernel
theorem d7_leastFor_21 : decode c7_leastFor 21 = .ok (.aload_n 0, 1) := by decide +kernel
theorem d7_leastFor_22 : decode c7_leastFor 22 = .ok (.getfield 42, 3) := by decide +kernel
theorem d7_leastFor_25 : decode c7_leastFor 25 = .ok (.invokevirtual 66, 3) := by decide +kernel
theorem d7_leastFor_28 : decode c7_leastFor 28 = .ok (.ireturn, 1) := by decide +kernel
theorem mw7_leastFor : MV y7_leastFor c7_leastFor 4 (some .int) 3 := ⟨cd7_leastFor, ini7, na7_leastFor, im7_leastFor, se7_leastFor⟩
set_option maxHeartbeats 4000000 in
set_option maxRecDepth 100000 in
theorem k7_leastFor (l : Launch) (E : En) (ta : Nat) (oa : Nat) (T : Nat → Int) (ca : Nat) (pa : Nat) (da : Nat) (sa : Nat) (C : Nat → Int) (P : Int → Int) (dr : Int → Int) (sr : Int → Int) (co : Int → Int) (K : Dy) (step : Int) (d : Int) (u : Int) (htm : TmK K T C P dr sr co) (hst : 0 ≤ step ∧ step ≤ 11) (hd : 0 ≤ d ∧ d ≤ K.se) (hu : 0 ≤ u ∧ u ≤ K.se) : Cp l E y7_leastFor c7_leastFor 4 (some .int) 2 51 [.ref ta, .int (iZ step), .int (iZ d), .int (iZ u)] [(ta, o7 (some ca) (some oa) T), (oa, aInt E 24 co), (ca, o1 (some pa) (some da) (some sa) C), (pa, aInt E 5 P), (da, aInt E 24 dr), (sa, aInt E 24 sr)] (fun r => ∃ (v : Int), r = some (.int (iZ v)) ∧ (v = K.lw step d u ∧ (v = -5 ∨ (0 ≤ v ∧ v ≤ 60)))) := by
  refine Cp.of (by decide +kernel) (Nat.le_of_ble_eq_true rfl) (fun Γ hl hargs G F => ?_)
  subst hl
  obtain ⟨⟨t1, t2, t3, t4, t5, t6⟩, tok, twf, ts⟩ := htm
  obtain ⟨s1, s2, s3, s4, s5, s6⟩ := ts step hst.1 hst.2
  have tk1 := tok.1
  have tk2 := tok.2.1
  have tk3 := tok.2.2.1
  have tk4 := tok.2.2.2 step hst.1 hst.2
  refine j_aload_n G 0 rfl d7_leastFor_0 ?_
  refine j_get G 0 7 0 in7 fl7_12 d7_leastFor_1 rfl rfl (by decide) (v := .ref ca) rfl rfl ?_
  refine j_iload_n G 2 rfl d7_leastFor_4 ?_
  refine j_iload_n G 3 rfl d7_leastFor_5 ?_
  refine j_isub G d7_leastFor_6 ?_
  refine j_aload_n G 0 rfl d7_leastFor_7 ?_
  refine j_get G 0 7 0 in7 fl7_12 d7_leastFor_8 rfl rfl (by decide) (v := .ref ca) rfl rfl ?_
  refine j_get G 2 1 8 in1 fl7_63 d7_leastFor_11 rfl rfl (by decide) (v := .ref da) rfl rfl ?_
  refine j_aload_n G 0 rfl d7_leastFor_14 ?_
  refine j_get G 0 7 1 in7 fl7_28 d7_leastFor_15 rfl rfl (by decide) (v := .int (iZ (T 1))) rfl rfl ?_
  refine j_iload_n G 1 rfl d7_leastFor_18 ?_
  refine j_iadd G d7_leastFor_19 ?_
  refine j_iald G 4 rfl (by omega) d7_leastFor_20 ?_
  refine j_aload_n G 0 rfl d7_leastFor_21 ?_
  refine j_get G 0 7 3 in7 fl7_42 d7_leastFor_22 rfl rfl (by decide) (v := .int (iZ (T 3))) rfl rfl ?_
  refine j_VP G (k1_leastWater (xl Γ) E ca pa da sa C P (d - u) (dr ((T 1) + step)) (T 3) (by first | assumption | omega | (simp only [upS, reduceIte, Nat.reduceEqDiff, eq_self, List.length_cons, List.length_nil, List.length_append] <;> omega)) (by first | assumption | omega | (simp only [upS, reduceIte, Nat.reduceEqDiff, eq_self, List.length_cons, List.length_nil, List.length_append] <;> omega)) (by first | assumption | omega | (simp only [upS, reduceIte, Nat.reduceEqDiff, eq_self, List.length_cons, List.length_nil, List.length_append] <;> omega)) (by first | assumption | omega | (simp only [upS, reduceIte, Nat.reduceEqDiff, eq_self, List.length_cons, List.length_nil, List.length_append] <;> omega))) mw1_leastWater ml7_66 [2, 3] rfl 2 1 rfl rfl rfl ⟨Nat.le_of_ble_eq_true rfl, Nat.le_of_ble_eq_true rfl⟩ rfl (rest := []) rfl (Nat.le_of_ble_eq_true rfl) d7_leastFor_25 ⟨Nat.le_of_ble_eq_true rfl, Nat.le_of_ble_eq_true rfl⟩ (fun r hr => ?_)
  obtain ⟨v2, rfl, hq1⟩ := hr
  have hlw := isL_lF hq1
  have hlr := isL_r hq1
  exact j_iret G F d7_leastFor_28 ⟨v2, rfl, (by exact ⟨hlw.trans (s6 d u hd.1 hd.2 hu.1 hu.2), by omega⟩)⟩
theorem d7_goesWith_0 : decode c7_goesWith 0 = .ok (.iload 4, 2) := by decide +kernel
theorem d7_goesWith_2 : decode c7_goesWith 2 = .ok (.aload_n 0, 1) := by decide +kernel
theorem d7_goesWith_3 : decode c7_goesWith 3 = .ok (.getfield 42, 3) := by decide +kernel
theorem d7_goesWith_6 : decode c7_goesWith 6 = .ok (.if_icmp .gt 47, 3) := by decide +kernel
theorem d7_goesWith_9 : decode c7_goesWith 9 = .ok (.aload_n 0, 1) := by decide +kernel
theorem d7_goesWith_10 : decode c7_goesWith 10 = .ok (.getfield 12, 3) := by decide +kernel
theorem d7_goesWith_13 : decode c7_goesWith 13 = .ok (.aload_n 0, 1) := by decide +kernel
theorem d7_goesWith_14 : decode c7_goesWith 14 = .ok (.getfield 12, 3) := by decide +kernel
theorem d7_goesWith_17 : decode c7_goesWith 17 = .ok (.getfield 70, 3) := by decide +kernel
theorem d7_goesWith_20 : decode c7_goesWith 20 = .ok (.iload_n 2, 1) := by decide +kernel
theorem d7_goesWith_21 : decode c7_goesWith 21 = .ok (.iload_n 3, 1) := by decide +kernel
theorem d7_goesWith_22 : decode c7_goesWith 22 = .ok (.isub, 1) := by decide +kernel
theorem d7_goesWith_23 : decode c7_goesWith 23 = .ok (.imul, 1) := by decide +kernel
theorem d7_goesWith_24 : decode c7_goesWith 24 = .ok (.iload 4, 2) := by decide +kernel
theorem d7_goesWith_26 : decode c7_goesWith 26 = .ok (.iadd, 1) := by decide +kernel
theorem d7_goesWith_27 : decode c7_goesWith 27 = .ok (.aload_n 0, 1) := by decide +kernel
theorem d7_goesWith_28 : decode c7_goesWith 28 = .ok (.getfield 12, 3) := by decide +kernel
theorem d7_goesWith_31 : decode c7_goesWith 31 = .ok (.getfield 63, 3) := by decide +kernel
theorem d7_goesWith_34 : decode c7_goesWith 34 = .ok (.aload_n 0, 1) := by decide +kernel
theorem d7_goesWith_35 : decode c7_goesWith 35 = .ok (.getfield 28, 3) := by decide +kernel
theorem d7_goesWith_38 : decode c7_goesWith 38 = .ok (.iload_n 1, 1) := by decide +kernel
theorem d7_goesWith_39 : decode c7_goesWith 39 = .ok (.iadd, 1) := by decide +kernel
theorem d7_goesWith_40 : decode c7_goesWith 40 = .ok (.iaload, 1) := by decide +kernel
theorem d7_goesWith_41 : decode c7_goesWith 41 = .ok (.invokevirtual 73, 3) := by decide +kernel
theorem d7_goesWith_44 : decode c7_goesWith 44 = .ok (.bipush (-5), 2) := by decide +kernel
theorem d7_goesWith_46 : decode c7_goesWith 46 = .ok (.if_icmp .ne 7, 3) := by decide +kernel
theorem d7_goesWith_49 : decode c7_goesWith 49 = .ok (.iconst 1, 1) := by decide +kernel
theorem d7_goesWith_50 : decode c7_goesWith 50 = .ok (.goto 4, 3) := by decide +kernel
theorem d7_goesWith_53 : decode c7_goesWith 53 = .ok (.iconst 0, 1) := by decide +kernel
theorem d7_goesWith_54 : decode c7_goesWith 54 = .ok (.ireturn, 1) := by decide +kernel
theorem mw7_goesWith : MV y7_goesWith c7_goesWith 5 (some .boolean) 4 := ⟨cd7_goesWith, ini7, na7_goesWith, im7_goesWith, se7_goesWith⟩
set_option maxHeartbeats 4000000 in
set_option maxRecDepth 100000 in
theorem k7_goesWith (l : Launch) (E : En) (ta : Nat) (oa : Nat) (T : Nat → Int) (ca : Nat) (pa : Nat) (da : Nat) (sa : Nat) (C : Nat → Int) (P : Int → Int) (dr : Int → Int) (sr : Int → Int) (co : Int → Int) (K : Dy) (step : Int) (d : Int) (u : Int) (w : Int) (htm : TmK K T C P dr sr co) (hst : 0 ≤ step ∧ step ≤ 11) (hd : 0 ≤ d ∧ d ≤ K.se) (hu : 0 ≤ u ∧ u ≤ K.se) (hw : 0 ≤ w ∧ w ≤ 1000) : Cp l E y7_goesWith c7_goesWith 5 (some .boolean) 2 47 [.ref ta, .int (iZ step), .int (iZ d), .int (iZ u), .int (iZ w)] [(ta, o7 (some ca) (some oa) T), (oa, aInt E 24 co), (ca, o1 (some pa) (some da) (some sa) C), (pa, aInt E 5 P), (da, aInt E 24 dr), (sa, aInt E 24 sr)] (fun r => ∃ (v : Int), r = some (.int (iZ v)) ∧ (((w ≤ K.tk ∧ stopM C P (C 3 * (d - u) + w) (dr (T 1 + step)) = -5) ∧ v = 1) ∨ (¬ (w ≤ K.tk ∧ stopM C P (C 3 * (d - u) + w) (dr (T 1 + step)) = -5) ∧ v = 0))) := by
  refine Cp.of (by decide +kernel) (Nat.le_of_ble_eq_true rfl) (fun Γ hl hargs G F => ?_)
  subst hl
  obtain ⟨⟨t1, t2, t3, t4, t5, t6⟩, tok, twf, ts⟩ := htm
  obtain ⟨s1, s2, s3, s4, s5, s6⟩ := ts step hst.1 hst.2
  have tk1 := tok.1
  have tk2 := tok.2.1
  have tk3 := tok.2.2.1
  have tk4 := tok.2.2.2 step hst.1 hst.2
  have hmb := mulb (a := C 3) (b := d - u) (A := 999) (B := 6) twf.2.2.2.1.1 twf.2.2.2.1.2 (by omega) (by omega)
  refine j_iload G 4 rfl d7_goesWith_0 ?_
  refine j_aload_n G 0 rfl d7_goesWith_2 ?_
  refine j_get G 0 7 3 in7 fl7_42 d7_goesWith_3 rfl rfl (by decide) (v := .int (iZ (T 3))) rfl rfl ?_
  refine j_icmp_gt (tgt := 53) G d7_goesWith_6 (by decide) (by omega) (by omega) (fun h1 => ?_) (fun h1 => ?_)
  ·
    refine j_iconst G d7_goesWith_53 ?_
    exact j_zret G F d7_goesWith_54 (by decide) ⟨0, rfl, (by first | (left; exact ⟨by omega, rfl⟩) | (right; exact ⟨by omega, rfl⟩))⟩
  ·
    refine j_aload_n G 0 rfl d7_goesWith_9 ?_
    refine j_get G 0 7 0 in7 fl7_12 d7_goesWith_10 rfl rfl (by decide) (v := .ref ca) rfl rfl ?_
    refine j_aload_n G 0 rfl d7_goesWith_13 ?_
    refine j_get G 0 7 0 in7 fl7_12 d7_goesWith_14 rfl rfl (by decide) (v := .ref ca) rfl rfl ?_
    refine j_get G 2 1 3 in1 fl7_70 d7_goesWith_17 rfl rfl (by decide) (v := .int (iZ (C 3))) rfl rfl ?_
    refine j_iload_n G 2 rfl d7_goesWith_20 ?_
    refine j_iload_n G 3 rfl d7_goesWith_21 ?_
    refine j_isub G d7_goesWith_22 ?_
    refine j_imul G d7_goesWith_23 ?_
    refine j_iload G 4 rfl d7_goesWith_24 ?_
    refine j_iadd G d7_goesWith_26 ?_
    refine j_aload_n G 0 rfl d7_goesWith_27 ?_
    refine j_get G 0 7 0 in7 fl7_12 d7_goesWith_28 rfl rfl (by decide) (v := .ref ca) rfl rfl ?_
    refine j_get G 2 1 8 in1 fl7_63 d7_goesWith_31 rfl rfl (by decide) (v := .ref da) rfl rfl ?_
    refine j_aload_n G 0 rfl d7_goesWith_34 ?_
    refine j_get G 0 7 1 in7 fl7_28 d7_goesWith_35 rfl rfl (by decide) (v := .int (iZ (T 1))) rfl rfl ?_
    refine j_iload_n G 1 rfl d7_goesWith_38 ?_
    refine j_iadd G d7_goesWith_39 ?_
    refine j_iald G 4 rfl (by omega) d7_goesWith_40 ?_
    refine j_VP G (k1_stopOf (xl Γ) E ca pa da sa C P (((C 3) * (d - u)) + w) (dr ((T 1) + step)) (by first | assumption | omega | (simp only [upS, reduceIte, Nat.reduceEqDiff, eq_self, List.length_cons, List.length_nil, List.length_append] <;> omega)) (by first | assumption | omega | (simp only [upS, reduceIte, Nat.reduceEqDiff, eq_self, List.length_cons, List.length_nil, List.length_append] <;> omega)) (by first | assumption | omega | (simp only [upS, reduceIte, Nat.reduceEqDiff, eq_self, List.length_cons, List.length_nil, List.length_append] <;> omega))) mw1_stopOf ml7_73 [2, 3] rfl 2 1 rfl rfl rfl ⟨Nat.le_of_ble_eq_true rfl, Nat.le_of_ble_eq_true rfl⟩ rfl (rest := []) rfl (Nat.le_of_ble_eq_true rfl) d7_goesWith_41 ⟨Nat.le_of_ble_eq_true rfl, Nat.le_of_ble_eq_true rfl⟩ (fun r hr => ?_)
    obtain ⟨v3, rfl, hq2⟩ := hr
    have hsr := stopF_r (C := C) (P := P) (load := C 3 * (d - u) + w) (drag := dr (T 1 + step)) (C 1).toNat 0 (Int.le_refl 0) (by have h5 : C 1 ≤ 5 := twf.1.2; omega)
    have hsr2 : stopM C P (C 3 * (d - u) + w) (dr (T 1 + step)) = -5 ∨ (0 ≤ stopM C P (C 3 * (d - u) + w) (dr (T 1 + step)) ∧ stopM C P (C 3 * (d - u) + w) (dr (T 1 + step)) ≤ 104) := hsr
    refine j_bipush G d7_goesWith_44 rfl ?_
    refine j_icmp_ne (tgt := 53) G d7_goesWith_46 (by decide) (by omega) (by decide) (fun h4 => ?_) (fun h4 => ?_)
    ·
      refine j_iconst G d7_goesWith_53 ?_
      exact j_zret G F d7_goesWith_54 (by decide) ⟨0, rfl, (by first | (left; exact ⟨by omega, rfl⟩) | (right; exact ⟨by omega, rfl⟩))⟩
    ·
      refine j_iconst G d7_goesWith_49 ?_
      refine j_goto (tgt := 54) G d7_goesWith_50 (by decide) ?_
      exact j_zret G F d7_goesWith_54 (by decide) ⟨1, rfl, (by first | (left; exact ⟨by omega, rfl⟩) | (right; exact ⟨by omega, rfl⟩))⟩
theorem d7_crowdBelow_0 : decode c7_crowdBelow 0 = .ok (.bipush 12, 2) := by decide +kernel
theorem d7_crowdBelow_2 : decode c7_crowdBelow 2 = .ok (.istore_n 2, 1) := by decide +kernel
theorem d7_crowdBelow_3 : decode c7_crowdBelow 3 = .ok (.iload_n 2, 1) := by decide +kernel
theorem d7_crowdBelow_4 : decode c7_crowdBelow 4 = .ok (.bipush 24, 2) := by decide +kernel
theorem d7_crowdBelow_6 : decode c7_crowdBelow 6 = .ok (.if_icmp .ge 28, 3) := by decide +kernel
theorem d7_crowdBelow_9 : decode c7_crowdBelow 9 = .ok (.aload_n 0, 1) := by decide +kernel
theorem d7_crowdBelow_10 : decode c7_crowdBelow 10 = .ok (.getfield 18, 3) := by decide +kernel
theorem d7_crowdBelow_13 : decode c7_crowdBelow 13 = .ok (.iload_n 2, 1) := by decide +kernel
theorem d7_crowdBelow_14 : decode c7_crowdBelow 14 = .ok (.iload_n 1, 1) := by decide +kernel
theorem d7_crowdBelow_15 : decode c7_crowdBelow 15 = .ok (.aload_n 0, 1) := by decide +kernel
theorem d7_crowdBelow_16 : decode c7_crowdBelow 16 = .ok (.getfield 18, 3) := by decide +kernel
theorem d7_crowdBelow_19 : decode c7_crowdBelow 19 = .ok (.iload_n 2, 1) := by decide +kernel
theorem d7_crowdBelow_20 : decode c7_crowdBelow 20 = .ok (.iaload, 1) := by decide +kernel
theorem d7_crowdBelow_21 : decode c7_crowdBelow 21 = .ok (.imul, 1) := by decide +kernel
theorem d7_crowdBelow_22 : decode c7_crowdBelow 22 = .ok (.bipush 6, 2) := by decide +kernel
theorem d7_crowdBelow_24 : decode c7_crowdBelow 24 = .ok (.invokestatic 54, 3) := by decide +kernel
theorem d7_crowdBelow_27 : decode c7_crowdBelow 27 = .ok (.iastore, 1) := by decide +kernel
theorem d7_crowdBelow_28 : decode c7_crowdBelow 28 = .ok (.iinc 2 1, 3) := by decide +kernel
theorem d7_crowdBelow_31 : decode c7_crowdBelow 31 = .ok (.goto (-28), 3) := by decide +kernel
theorem d7_crowdBelow_34 : decode c7_crowdBelow 34 = .ok (.return_, 1) := by decide +kernel
theorem mw7_crowdBelow : MV y7_crowdBelow c7_crowdBelow 3 none 1 := ⟨cd7_crowdBelow, ini7, na7_crowdBelow, im7_crowdBelow, se7_crowdBelow⟩
set_option maxHeartbeats 4000000 in
set_option maxRecDepth 100000 in
theorem k7_crowdBelow (l : Launch) (E : En) (ta : Nat) (oa : Nat) (T : Nat → Int) (ca : Nat) (co : Int → Int) (n : Int) (hn : 1 ≤ n ∧ n ≤ 6) (hco : ∀ j, 0 ≤ j → j < 24 → 0 ≤ co j ∧ co j ≤ 6) : Cm l E y7_crowdBelow c7_crowdBelow 3 none { frames := 1, cells := 0, slots := 0, locals := 15 } [.ref ta, .int (iZ n)] [(ta, o7 (some ca) (some oa) T), (oa, aInt E 24 co)] (fun r ws => ∃ (co1 : Int → Int), r = none ∧ ws = [(ta, o7 (some ca) (some oa) T), (oa, aInt E 24 co1)] ∧ (∀ j, 0 ≤ j → j < 24 → co1 j = if 12 ≤ j then min (n * co j) 6 else co j)) := by
  refine Cm.of (by decide +kernel) (Nat.le_of_ble_eq_true rfl) (fun Γ A hl hargs hin G F => ?_)
  subst hl
  refine j_bipush G d7_crowdBelow_0 rfl ?_
  refine j_istore_n G d7_crowdBelow_2 (by decide) rfl ?_
  have lp3 : ∀ (fu : Nat) (k : Int) (g : Int → Int), (24 - k).toNat < fu → (12 ≤ k ∧ k ≤ 24) → (∀ j, 0 ≤ j → j < 24 → g j = if 12 ≤ j ∧ j < k then min (n * co j) 6 else co j) →  J E 3 Γ (some A) 0 0 [(ta, o7 (some ca) (some oa) T), (oa, aInt E 24 g)] 3 [(2, .int (iZ k)), (0, .ref ta), (1, .int (iZ n))] [] := by
    intro fu
    induction fu with
    | zero =>
      intro k g hm
      exact absurd hm (Nat.not_lt_zero _)
    | succ fu ih3 =>
      intro k g hm hk hg
      refine j_iload_n G 0 rfl d7_crowdBelow_3 ?_
      refine j_bipush G d7_crowdBelow_4 rfl ?_
      refine j_icmp_ge (tgt := 34) G d7_crowdBelow_6 (by decide) (by omega) (by decide) (fun h1 => ?_) (fun h1 => ?_)
      ·
        exact j_vret G F d7_crowdBelow_34 ⟨g, rfl, rfl, (by exact fun j h1 h2 => (by rw [hg j h1 h2]; by_cases q : 12 ≤ j; (rw [if_pos (by omega), if_pos q]); (rw [if_neg (by omega), if_neg q])))⟩
      ·
        have hgk : g k = co k := by rw [hg k (by omega) (by omega), if_neg (by omega)]
        have hck := hco k (by omega) (by omega)
        have hmm := mulb (a := n) (b := co k) (A := 6) (B := 6) (by omega) (by omega) (by omega) (by omega)
        rw [← hgk] at hck hmm
        refine j_aload_n G 1 rfl d7_crowdBelow_9 ?_
        refine j_get G 0 7 2 in7 fl7_18 d7_crowdBelow_10 rfl rfl (by decide) (v := .ref oa) rfl rfl ?_
        refine j_iload_n G 0 rfl d7_crowdBelow_13 ?_
        refine j_iload_n G 2 rfl d7_crowdBelow_14 ?_
        refine j_aload_n G 1 rfl d7_crowdBelow_15 ?_
        refine j_get G 0 7 2 in7 fl7_18 d7_crowdBelow_16 rfl rfl (by decide) (v := .ref oa) rfl rfl ?_
        refine j_iload_n G 0 rfl d7_crowdBelow_19 ?_
        refine j_iald G 1 rfl (by omega) d7_crowdBelow_20 ?_
        refine j_imul G d7_crowdBelow_21 ?_
        refine j_bipush G d7_crowdBelow_22 rfl ?_
        refine j_mmin G ml7_54 (by omega) (by decide) ⟨Nat.le_of_ble_eq_true rfl, Nat.le_of_ble_eq_true rfl⟩ ⟨Nat.le_of_ble_eq_true rfl, Nat.le_of_ble_eq_true rfl⟩ d7_crowdBelow_24 ?_
        refine j_iast G 1 rfl (by omega) d7_crowdBelow_27 ?_
        refine j_iinc G d7_crowdBelow_28 0 rfl (by decide) rfl ?_
        refine j_goto (tgt := 3) G d7_crowdBelow_31 (by decide) ?_
        exact ih3 (k + 1) (upI g k (min (n * (g k)) 6)) (by omega) (by first | assumption | omega) (fun j h1 h2 => if hj : j = k then (by subst hj; rw [upI_eq, if_pos (by omega), hgk]) else (by rw [upI_ne hj, hg j h1 h2]; by_cases q : 12 ≤ j ∧ j < k; (rw [if_pos q, if_pos (by omega)]); (rw [if_neg q, if_neg (by omega)])))
  exact lp3 _ 12 co (Nat.lt_succ_self _) (by first | assumption | omega) (fun j h1 h2 => (if_neg (by omega)).symm)
theorem d7_add_0 : decode c7_add 0 = .ok (.iload_n 1, 1) := by decide +kernel
theorem d7_add_1 : decode c7_add 1 = .ok (.tableswitch 76 0 2 #[27, 45, 63], 27) := by decide +kernel
theorem d7_add_28 : decode c7_add 28 = .ok (.aload_n 0, 1) := by decide +kernel
theorem d7_add_29 : decode c7_add 29 = .ok (.aload_n 0, 1) := by decide +kernel
theorem d7_add_30 : decode c7_add 30 = .ok (.getfield 42, 3) := by decide +kernel
theorem d7_add_33 : decode c7_add 33 = .ok (.iload_n 2, 1) := by decide +kernel
theorem d7_add_34 : decode c7_add 34 = .ok (.iadd, 1) := by decide +kernel
theorem d7_add_35 : decode c7_add 35 = .ok (.bipush 60, 2) := by decide +kernel
theorem d7_add_37 : decode c7_add 37 = .ok (.invokestatic 54, 3) := by decide +kernel
theorem d7_add_40 : decode c7_add 40 = .ok (.putfield 42, 3) := by decide +kernel
theorem d7_add_43 : decode c7_add 43 = .ok (.goto 49, 3) := by decide +kernel
theorem d7_add_46 : decode c7_add 46 = .ok (.aload_n 0, 1) := by decide +kernel
theorem d7_add_47 : decode c7_add 47 = .ok (.aload_n 0, 1) := by decide +kernel
theorem d7_add_48 : decode c7_add 48 = .ok (.getfield 46, 3) := by decide +kernel
theorem d7_add_51 : decode c7_add 51 = .ok (.iload_n 2, 1) := by decide +kernel
theorem d7_add_52 : decode c7_add 52 = .ok (.iadd, 1) := by decide +kernel
theorem d7_add_53 : decode c7_add 53 = .ok (.bipush 6, 2) := by decide +kernel
theorem d7_add_55 : decode c7_add 55 = .ok (.invokestatic 54, 3) := by decide +kernel
theorem d7_add_58 : decode c7_add 58 = .ok (.putfield 46, 3) := by decide +kernel
theorem d7_add_61 : decode c7_add 61 = .ok (.goto 31, 3) := by decide +kernel
theorem d7_add_64 : decode c7_add 64 = .ok (.aload_n 0, 1) := by decide +kernel
theorem d7_add_65 : decode c7_add 65 = .ok (.dup, 1) := by decide +kernel
theorem d7_add_66 : decode c7_add 66 = .ok (.getfield 51, 3) := by decide +kernel
theorem d7_add_69 : decode c7_add 69 = .ok (.iload_n 2, 1) := by decide +kernel
theorem d7_add_70 : decode c7_add 70 = .ok (.iadd, 1) := by decide +kernel
theorem d7_add_71 : decode c7_add 71 = .ok (.putfield 51, 3) := by decide +kernel
theorem d7_add_74 : decode c7_add 74 = .ok (.goto 18, 3) := by decide +kernel
theorem d7_add_77 : decode c7_add 77 = .ok (.aload_n 0, 1) := by decide +kernel
theorem d7_add_78 : decode c7_add 78 = .ok (.aload_n 0, 1) := by decide +kernel
theorem d7_add_79 : decode c7_add 79 = .ok (.getfield 50, 3) := by decide +kernel
theorem d7_add_82 : decode c7_add 82 = .ok (.iload_n 2, 1) := by decide +kernel
theorem d7_add_83 : decode c7_add 83 = .ok (.iadd, 1) := by decide +kernel
theorem d7_add_84 : decode c7_add 84 = .ok (.bipush 40, 2) := by decide +kernel
theorem d7_add_86 : decode c7_add 86 = .ok (.invokestatic 54, 3) := by decide +kernel
theorem d7_add_89 : decode c7_add 89 = .ok (.putfield 50, 3) := by decide +kernel
theorem d7_add_92 : decode c7_add 92 = .ok (.return_, 1) := by decide +kernel
theorem mw7_add : MV y7_add c7_add 3 none 2 := ⟨cd7_add, ini7, na7_add, im7_add, se7_add⟩
set_option maxHeartbeats 4000000 in
set_option maxRecDepth 100000 in
theorem k7_add (l : Launch) (E : En) (ta : Nat) (oa : Nat) (T : Nat → Int) (ca : Nat) (so : Int) (si : Int) (hso : 0 ≤ so ∧ so ≤ 3) (hsi : 1 ≤ si ∧ si ≤ 20) (hT : (0 ≤ T 3 ∧ T 3 ≤ 60) ∧ (0 ≤ T 4 ∧ T 4 ≤ 6) ∧ (0 ≤ T 5 ∧ T 5 ≤ 40) ∧ (0 ≤ T 6 ∧ T 6 ≤ 1000)) : Cm l E y7_add c7_add 3 none { frames := 1, cells := 0, slots := 0, locals := 14 } [.ref ta, .int (iZ so), .int (iZ si)] [(ta, o7 (some ca) (some oa) T)] (fun r ws => ∃ (x3 : Int), ∃ (x4 : Int), ∃ (x5 : Int), ∃ (x6 : Int), r = none ∧ ws = [(ta, o7 (some ca) (some oa) (upS (upS (upS (upS T 3 x3) 4 x4) 5 x5) 6 x6))] ∧ (x3 = (if so = 0 then min (T 3 + si) 60 else T 3) ∧ x4 = (if so = 1 then min (T 4 + si) 6 else T 4) ∧ x6 = (if so = 2 then T 6 + si else T 6) ∧ x5 = (if so = 3 then min (T 5 + si) 40 else T 5))) := by
  refine Cm.of (by decide +kernel) (Nat.le_of_ble_eq_true rfl) (fun Γ A hl hargs hin G F => ?_)
  subst hl
  refine j_iload_n G 1 rfl d7_add_0 ?_
  rcases (show so = 0 ∨ so = 1 ∨ so = 2 ∨ (so < 0 ∨ 2 < so) by omega) with h1 | h1 | h1 | h1
  ·
    refine j_tabIn (tgt := 28) G d7_add_1 (by omega) 0 h1 ⟨by decide, by decide⟩ rfl (by decide) ?_
    refine j_aload_n G 0 rfl d7_add_28 ?_
    refine j_aload_n G 0 rfl d7_add_29 ?_
    refine j_get G 0 7 3 in7 fl7_42 d7_add_30 rfl rfl (by decide) (v := .int (iZ (T 3))) rfl rfl ?_
    refine j_iload_n G 2 rfl d7_add_33 ?_
    refine j_iadd G d7_add_34 ?_
    refine j_bipush G d7_add_35 rfl ?_
    refine j_mmin G ml7_54 (by omega) (by decide) ⟨Nat.le_of_ble_eq_true rfl, Nat.le_of_ble_eq_true rfl⟩ ⟨Nat.le_of_ble_eq_true rfl, Nat.le_of_ble_eq_true rfl⟩ d7_add_37 ?_
    refine j_put G 0 7 3 in7 tyok7 nm7 fl7_42 d7_add_40 rfl rfl (by decide) ⟨rfl, rfl⟩ rfl rfl (Nat.le_of_ble_eq_true rfl) (e := o7 (some ca) (some oa) (upS T 3 (min ((T 3) + si) 60))) rfl ?_
    refine j_goto (tgt := 92) G d7_add_43 (by decide) ?_
    exact j_vret G F d7_add_92 ⟨(min ((T 3) + si) 60), (T 4), (T 5), (T 6), rfl, rfl, (by (refine ⟨?_, ?_, ?_, ?_⟩ <;> (repeat' split) <;> omega))⟩
  ·
    refine j_tabIn (tgt := 46) G d7_add_1 (by omega) 1 h1 ⟨by decide, by decide⟩ rfl (by decide) ?_
    refine j_aload_n G 0 rfl d7_add_46 ?_
    refine j_aload_n G 0 rfl d7_add_47 ?_
    refine j_get G 0 7 4 in7 fl7_46 d7_add_48 rfl rfl (by decide) (v := .int (iZ (T 4))) rfl rfl ?_
    refine j_iload_n G 2 rfl d7_add_51 ?_
    refine j_iadd G d7_add_52 ?_
    refine j_bipush G d7_add_53 rfl ?_
    refine j_mmin G ml7_54 (by omega) (by decide) ⟨Nat.le_of_ble_eq_true rfl, Nat.le_of_ble_eq_true rfl⟩ ⟨Nat.le_of_ble_eq_true rfl, Nat.le_of_ble_eq_true rfl⟩ d7_add_55 ?_
    refine j_put G 0 7 4 in7 tyok7 nm7 fl7_46 d7_add_58 rfl rfl (by decide) ⟨rfl, rfl⟩ rfl rfl (Nat.le_of_ble_eq_true rfl) (e := o7 (some ca) (some oa) (upS T 4 (min ((T 4) + si) 6))) rfl ?_
    refine j_goto (tgt := 92) G d7_add_61 (by decide) ?_
    exact j_vret G F d7_add_92 ⟨(T 3), (min ((T 4) + si) 6), (T 5), (T 6), rfl, rfl, (by (refine ⟨?_, ?_, ?_, ?_⟩ <;> (repeat' split) <;> omega))⟩
  ·
    refine j_tabIn (tgt := 64) G d7_add_1 (by omega) 2 h1 ⟨by decide, by decide⟩ rfl (by decide) ?_
    refine j_aload_n G 0 rfl d7_add_64 ?_
    refine j_dup G d7_add_65 rfl ?_
    refine j_get G 0 7 6 in7 fl7_51 d7_add_66 rfl rfl (by decide) (v := .int (iZ (T 6))) rfl rfl ?_
    refine j_iload_n G 2 rfl d7_add_69 ?_
    refine j_iadd G d7_add_70 ?_
    refine j_put G 0 7 6 in7 tyok7 nm7 fl7_51 d7_add_71 rfl rfl (by decide) ⟨rfl, rfl⟩ rfl rfl (Nat.le_of_ble_eq_true rfl) (e := o7 (some ca) (some oa) (upS T 6 ((T 6) + si))) rfl ?_
    refine j_goto (tgt := 92) G d7_add_74 (by decide) ?_
    exact j_vret G F d7_add_92 ⟨(T 3), (T 4), (T 5), ((T 6) + si), rfl, rfl, (by (refine ⟨?_, ?_, ?_, ?_⟩ <;> (repeat' split) <;> omega))⟩
  ·
    refine j_tabOut (tgt := 77) G d7_add_1 (by omega) h1 (by decide) ?_
    refine j_aload_n G 0 rfl d7_add_77 ?_
    refine j_aload_n G 0 rfl d7_add_78 ?_
    refine j_get G 0 7 5 in7 fl7_50 d7_add_79 rfl rfl (by decide) (v := .int (iZ (T 5))) rfl rfl ?_
    refine j_iload_n G 2 rfl d7_add_82 ?_
    refine j_iadd G d7_add_83 ?_
    refine j_bipush G d7_add_84 rfl ?_
    refine j_mmin G ml7_54 (by omega) (by decide) ⟨Nat.le_of_ble_eq_true rfl, Nat.le_of_ble_eq_true rfl⟩ ⟨Nat.le_of_ble_eq_true rfl, Nat.le_of_ble_eq_true rfl⟩ d7_add_86 ?_
    refine j_put G 0 7 5 in7 tyok7 nm7 fl7_50 d7_add_89 rfl rfl (by decide) ⟨rfl, rfl⟩ rfl rfl (Nat.le_of_ble_eq_true rfl) (e := o7 (some ca) (some oa) (upS T 5 (min ((T 5) + si) 40))) rfl ?_
    exact j_vret G F d7_add_92 ⟨(T 3), (T 4), (min ((T 5) + si) 40), (T 6), rfl, rfl, (by (refine ⟨?_, ?_, ?_, ?_⟩ <;> (repeat' split) <;> omega))⟩
theorem d3_begin_0 : decode c3_begin 0 = .ok (.aload_n 0, 1) := by decide +kernel
theorem d3_begin_1 : decode c3_begin 1 = .ok (.iload_n 1, 1) := by decide +kernel
theorem d3_begin_2 : decode c3_begin 2 = .ok (.putfield 20, 3) := by decide +kernel
theorem d3_begin_5 : decode c3_begin 5 = .ok (.aload_n 0, 1) := by decide +kernel
theorem d3_begin_6 : decode c3_begin 6 = .ok (.dup, 1) := by decide +kernel
theorem d3_begin_7 : decode c3_begin 7 = .ok (.getfield 24, 3) := by decide +kernel
theorem d3_begin_10 : decode c3_begin 10 = .ok (.lconst 1, 1) := by decide +kernel
theorem d3_begin_11 : decode c3_begin 11 = .ok (.ladd, 1) := by decide +kernel
theorem d3_begin_12 : decode c3_begin 12 = .ok (.putfield 24, 3) := by decide +kernel
theorem d3_begin_15 : decode c3_begin 15 = .ok (.return_, 1) := by decide +kernel
theorem mw3_begin : MV y3_begin c3_begin 2 none 1 := ⟨cd3_begin, ini3, na3_begin, im3_begin, se3_begin⟩
set_option maxHeartbeats 4000000 in
set_option maxRecDepth 100000 in
theorem k3_begin (l : Launch) (E : En) (la : Nat) (ta : Nat) (ka : Nat) (Q : Nat → Int) (sp : Int)  : Cm l E y3_begin c3_begin 2 none { frames := 0, cells := 0, slots := 0, locals := 0 } [.ref la, .int (iZ sp)] [(la, o3 (some ta) (some ka) Q)] (fun r ws => r = none ∧ ws = [(la, o3 (some ta) (some ka) (upS (upS Q 1 sp) 2 (Q 2 + 1)))] ∧ True) := by
  refine Cm.of (by decide +kernel) (Nat.le_of_ble_eq_true rfl) (fun Γ A hl hargs hin G F => ?_)
  subst hl
  refine j_aload_n G 0 rfl d3_begin_0 ?_
  refine j_iload_n G 1 rfl d3_begin_1 ?_
  refine j_put G 0 3 1 in3 tyok3 nm3 fl3_20 d3_begin_2 rfl rfl (by decide) ⟨rfl, rfl⟩ rfl rfl (Nat.le_of_ble_eq_true rfl) (e := o3 (some ta) (some ka) (upS Q 1 sp)) rfl ?_
  refine j_aload_n G 0 rfl d3_begin_5 ?_
  refine j_dup G d3_begin_6 rfl ?_
  refine j_get G 0 3 2 in3 fl3_24 d3_begin_7 rfl rfl (by decide) (v := .long (lZ (Q 2))) rfl rfl ?_
  refine j_lconst G 1 d3_begin_10 rfl ?_
  refine j_ladd G d3_begin_11 ?_
  refine j_put G 0 3 2 in3 tyok3 nm3 fl3_24 d3_begin_12 rfl rfl (by decide) ⟨rfl, rfl⟩ rfl rfl (Nat.le_of_ble_eq_true rfl) (e := o3 (some ta) (some ka) (upS (upS Q 1 sp) 2 ((Q 2) + 1))) rfl ?_
  exact j_vret G F d3_begin_15 ⟨rfl, rfl, trivial⟩
theorem d3_waiting_0 : decode c3_waiting 0 = .ok (.iload_n 0, 1) := by decide +kernel
theorem d3_waiting_1 : decode c3_waiting 1 = .ok (.bipush 8, 2) := by decide +kernel
theorem d3_waiting_3 : decode c3_waiting 3 = .ok (.invokestatic 65, 3) := by decide +kernel
theorem d3_waiting_6 : decode c3_waiting 6 = .ok (.ireturn, 1) := by decide +kernel
theorem mw3_waiting : MS y3_waiting c3_waiting 1 (some .int) 1 := ⟨cd3_waiting, ini3, na3_waiting, st3_waiting⟩
set_option maxHeartbeats 4000000 in
set_option maxRecDepth 100000 in
theorem k3_waiting (l : Launch) (E : En) (a : Int) (ha : 0 ≤ a ∧ a ≤ 100) : Cp l E y3_waiting c3_waiting 1 (some .int) 1 13 [.int (iZ a)] [] (fun r => ∃ (v : Int), r = some (.int (iZ v)) ∧ (v = min a 8)) := by
  refine Cp.of (by decide +kernel) (Nat.le_of_ble_eq_true rfl) (fun Γ hl hargs G F => ?_)
  subst hl
  refine j_iload_n G 0 rfl d3_waiting_0 ?_
  refine j_bipush G d3_waiting_1 rfl ?_
  refine j_mmin G ml3_65 (by omega) (by decide) ⟨Nat.le_of_ble_eq_true rfl, Nat.le_of_ble_eq_true rfl⟩ ⟨Nat.le_of_ble_eq_true rfl, Nat.le_of_ble_eq_true rfl⟩ d3_waiting_3 ?_
  exact j_iret G F d3_waiting_6 ⟨min a 8, rfl, (by omega)⟩
