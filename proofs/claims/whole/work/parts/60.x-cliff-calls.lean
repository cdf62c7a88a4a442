theorem b_255 (i : Nat) : bt 255 i = decide (i < 8) := by
  by_cases h : i < 32
  · have : ∀ i, i < 32 → bt 255 i = decide (i < 8) := by decide +kernel
    exact this i h
  · have h2 : bt 255 i = false := BitVec.getLsbD_of_ge _ _ (by omega)
    rw [h2]
    have : ¬ i < 8 := by omega
    simp [this]
theorem s_u : ∀ n, n < 32 → (((nI n).toUInt32 &&& Int32.toUInt32 31).toBitVec % 32).toNat = n := by decide +kernel
theorem b_ushr (n : Nat) (hn : n < 32) (x : Int32) (i : Nat) : bt ((x.toUInt32 >>> ((nI n).toUInt32 &&& Int32.toUInt32 31)).toInt32) i = bt x (n + i) := by
  show (x.toUInt32 >>> ((nI n).toUInt32 &&& Int32.toUInt32 31)).toBitVec.getLsbD i = x.toUInt32.toBitVec.getLsbD (n + i)
  rw [UInt32.toBitVec_shiftRight]
  show (x.toUInt32.toBitVec >>> (((nI n).toUInt32 &&& Int32.toUInt32 31).toBitVec % 32).toNat).getLsbD i = _
  rw [s_u n hn, BitVec.getLsbD_ushiftRight]
theorem and255 (x : Int32) : (x &&& 255).toInt = x.toInt % 256 := by
  have e : (x &&& 255).toBitVec.toNat = x.toBitVec.toNat % 256 := by
    rw [Int32.toBitVec_and, BitVec.toNat_and]
    show x.toBitVec.toNat &&& (2 ^ 8 - 1) = _
    rw [Nat.and_two_pow_sub_one_eq_mod]
  have e2 : x.toInt = if 2 * x.toBitVec.toNat < 2 ^ 32 then (x.toBitVec.toNat : Int) else (x.toBitVec.toNat : Int) - ((2 ^ 32 : Nat) : Int) := BitVec.toInt_eq_toNat_cond x.toBitVec
  have e3 : (x &&& 255).toInt = if 2 * (x &&& 255).toBitVec.toNat < 2 ^ 32 then ((x &&& 255).toBitVec.toNat : Int) else ((x &&& 255).toBitVec.toNat : Int) - ((2 ^ 32 : Nat) : Int) := BitVec.toInt_eq_toNat_cond (x &&& 255).toBitVec
  rw [e3, e2, e, if_pos (by omega)]
  split <;> omega
theorem low8 (x : Int32) : x.toInt8.toInt32 &&& 255 = x &&& 255 := b_ext (fun i hi => by
  rw [b_and, b_and, b_255]
  by_cases h : i < 8
  · have e : bt x.toInt8.toInt32 i = bt x i := by
      show (x.toBitVec.signExtend 8 |>.signExtend 32).getLsbD i = x.toBitVec.getLsbD i
      rw [BitVec.getLsbD_signExtend, BitVec.getLsbD_signExtend]
      simp [h, hi]
    rw [e]
  · simp [h])
theorem fd_x {b k : Int} (hk : 0 ≤ k) (hk2 : k ≤ 3) : (iZ (((iZ b).toUInt32 >>> ((iZ (8 * k)).toUInt32 &&& Int32.toUInt32 31)).toInt32.toInt) &&& iZ 255) = iZ (fdB b k % 256) := by
  obtain ⟨n, rfl⟩ := Int.eq_ofNat_of_zero_le hk
  have e0 : iZ (8 * (n : Int)) = nI (8 * n) := by rw [show (8 : Int) * (n : Int) = ((8 * n : Nat) : Int) by omega, iZ_nat]
  have e1 : ((iZ b).toUInt32 >>> ((nI (8 * n)).toUInt32 &&& Int32.toUInt32 31)).toInt32 &&& 255 = (iZ b >>> (nI (8 * n) &&& 31)) &&& 255 := b_ext (fun i hi => by
    rw [b_and, b_and, b_ushr (8 * n) (by omega), b_sshr (8 * n) (by omega) _ hi, b_255]
    by_cases h : i < 8
    · rw [if_pos (by omega)]
    · simp [h])
  have e2 : fdB b n % 256 = ((iZ b >>> (nI (8 * n) &&& 31)) &&& 255).toInt := by
    unfold fdB
    rw [e0, iZ_of, ← low8, and255]
  rw [iZ_of, e0, show iZ 255 = 255 from rfl, e1, e2, iZ_of]
theorem d9_moveTo_0 : decode c9_moveTo 0 = .ok (.aload_n 0, 1) := by decide +kernel
theorem d9_moveTo_1 : decode c9_moveTo 1 = .ok (.getfield 30, 3) := by decide +kernel
theorem d9_moveTo_4 : decode c9_moveTo 4 = .ok (.iload_n 1, 1) := by decide +kernel
theorem d9_moveTo_5 : decode c9_moveTo 5 = .ok (.putfield 104, 3) := by decide +kernel
theorem d9_moveTo_8 : decode c9_moveTo 8 = .ok (.aload_n 0, 1) := by decide +kernel
theorem d9_moveTo_9 : decode c9_moveTo 9 = .ok (.getfield 30, 3) := by decide +kernel
theorem d9_moveTo_12 : decode c9_moveTo 12 = .ok (.aload_n 0, 1) := by decide +kernel
theorem d9_moveTo_13 : decode c9_moveTo 13 = .ok (.getfield 30, 3) := by decide +kernel
theorem d9_moveTo_16 : decode c9_moveTo 16 = .ok (.getfield 175, 3) := by decide +kernel
theorem d9_moveTo_19 : decode c9_moveTo 19 = .ok (.aload_n 2, 1) := by decide +kernel
theorem d9_moveTo_20 : decode c9_moveTo 20 = .ok (.getfield 132, 3) := by decide +kernel
theorem d9_moveTo_23 : decode c9_moveTo 23 = .ok (.invokestatic 336, 3) := by decide +kernel
theorem d9_moveTo_26 : decode c9_moveTo 26 = .ok (.putfield 175, 3) := by decide +kernel
theorem d9_moveTo_29 : decode c9_moveTo 29 = .ok (.return_, 1) := by decide +kernel
theorem mw9_moveTo : MV y9_moveTo c9_moveTo 3 none 2 := ⟨cd9_moveTo, ini9, na9_moveTo, im9_moveTo, se9_moveTo⟩
set_option maxHeartbeats 4000000 in
set_option maxRecDepth 100000 in
theorem k9_moveTo (l : Launch) (E : En) (xo : Nat) (xa : Nat → Nat) (X : Nat → Int) (U : Nat → Int) (ca : Nat) (pa : Nat) (da : Nat) (sa : Nat) (C : Nat → Int) (q : Int) (hu2 : 0 ≤ U 2 ∧ U 2 ≤ 40) (hc7 : 0 ≤ C 7 ∧ C 7 ≤ 40) : Cm l E y9_moveTo c9_moveTo 3 none { frames := 1, cells := 0, slots := 0, locals := 14 } [.ref xo, .int (iZ q), .ref ca] [(xo, xO xa X), (xa 6, o5 (some (xa 20)) (some (xa 21)) (some (xa 22)) (some (xa 23)) U), (ca, o1 (some pa) (some da) (some sa) C)] (fun r ws => r = none ∧ ws = [(xo, xO xa X), (xa 6, o5 (some (xa 20)) (some (xa 21)) (some (xa 22)) (some (xa 23)) (upS (upS U 3 q) 2 (min (U 2) (C 7)))), (ca, o1 (some pa) (some da) (some sa) C)] ∧ True) := by
  refine Cm.of (by decide +kernel) (Nat.le_of_ble_eq_true rfl) (fun Γ A hl hargs hin G F => ?_)
  subst hl
  refine j_aload_n G 0 rfl d9_moveTo_0 ?_
  refine j_get G 0 9 6 in9 fl9_30 d9_moveTo_1 rfl rfl (by decide) (v := .ref (xa 6)) rfl rfl ?_
  refine j_iload_n G 1 rfl d9_moveTo_4 ?_
  refine j_put G 1 5 3 in5 tyok5 nm5 fl9_104 d9_moveTo_5 rfl rfl (by decide) ⟨rfl, rfl⟩ rfl rfl (Nat.le_of_ble_eq_true rfl) (e := o5 (some (xa 20)) (some (xa 21)) (some (xa 22)) (some (xa 23)) (upS U 3 q)) rfl ?_
  refine j_aload_n G 0 rfl d9_moveTo_8 ?_
  refine j_get G 0 9 6 in9 fl9_30 d9_moveTo_9 rfl rfl (by decide) (v := .ref (xa 6)) rfl rfl ?_
  refine j_aload_n G 0 rfl d9_moveTo_12 ?_
  refine j_get G 0 9 6 in9 fl9_30 d9_moveTo_13 rfl rfl (by decide) (v := .ref (xa 6)) rfl rfl ?_
  refine j_get G 1 5 2 in5 fl9_175 d9_moveTo_16 rfl rfl (by decide) (v := .int (iZ (U 2))) rfl rfl ?_
  refine j_aload_n G 2 rfl d9_moveTo_19 ?_
  refine j_get G 2 1 7 in1 fl9_132 d9_moveTo_20 rfl rfl (by decide) (v := .int (iZ (C 7))) rfl rfl ?_
  refine j_mmin G ml9_336 (by omega) (by omega) ⟨Nat.le_of_ble_eq_true rfl, Nat.le_of_ble_eq_true rfl⟩ ⟨Nat.le_of_ble_eq_true rfl, Nat.le_of_ble_eq_true rfl⟩ d9_moveTo_23 ?_
  refine j_put G 1 5 2 in5 tyok5 nm5 fl9_175 d9_moveTo_26 rfl rfl (by decide) ⟨rfl, rfl⟩ rfl rfl (Nat.le_of_ble_eq_true rfl) (e := o5 (some (xa 20)) (some (xa 21)) (some (xa 22)) (some (xa 23)) (upS (upS U 3 q) 2 (min (U 2) (C 7)))) rfl ?_
  exact j_vret G F d9_moveTo_29 ⟨rfl, rfl, trivial⟩
theorem d9_choose_0 : decode c9_choose 0 = .ok (.iload_n 1, 1) := by decide +kernel
theorem d9_choose_1 : decode c9_choose 1 = .ok (.ifCond .lt 11, 3) := by decide +kernel
theorem d9_choose_4 : decode c9_choose 4 = .ok (.iload_n 1, 1) := by decide +kernel
theorem d9_choose_5 : decode c9_choose 5 = .ok (.aload_n 0, 1) := by decide +kernel
theorem d9_choose_6 : decode c9_choose 6 = .ok (.getfield 87, 3) := by decide +kernel
theorem d9_choose_9 : decode c9_choose 9 = .ok (.if_icmp .lt 5, 3) := by decide +kernel
theorem d9_choose_12 : decode c9_choose 12 = .ok (.iconst (-1), 1) := by decide +kernel
theorem d9_choose_13 : decode c9_choose 13 = .ok (.ireturn, 1) := by decide +kernel
theorem mw9_choose : MV y9_choose c9_choose 3 (some .int) 1 := ⟨cd9_choose, ini9, na9_choose, im9_choose, se9_choose⟩
set_option maxHeartbeats 4000000 in
set_option maxRecDepth 100000 in
theorem k9_choosen (l : Launch) (E : En) (xo : Nat) (xa : Nat → Nat) (X : Nat → Int) (f : Int) (r_f : R32 f) (hx3 : 0 ≤ X 3 ∧ X 3 ≤ 4) (hf : ¬ (0 ≤ f ∧ f < X 3)) : Cp l E y9_choose c9_choose 3 (some .int) 0 0 [.ref xo, .int (iZ f)] [(xo, xO xa X)] (fun r => ∃ (v : Int), r = some (.int (iZ v)) ∧ (v = -1)) := by
  refine Cp.of (by decide +kernel) (Nat.le_of_ble_eq_true rfl) (fun Γ hl hargs G F => ?_)
  subst hl
  refine j_iload_n G 1 rfl d9_choose_0 ?_
  refine j_if_lt (tgt := 12) G d9_choose_1 (by decide) (by omega) (fun h1 => ?_) (fun h1 => ?_)
  ·
    refine j_iconst G d9_choose_12 ?_
    exact j_iret G F d9_choose_13 ⟨(-1), rfl, (by rfl)⟩
  ·
    refine j_iload_n G 1 rfl d9_choose_4 ?_
    refine j_aload_n G 0 rfl d9_choose_5 ?_
    refine j_get G 0 9 3 in9 fl9_87 d9_choose_6 rfl rfl (by decide) (v := .int (iZ (X 3))) rfl rfl ?_
    refine j_icmp_lt (tgt := 14) G d9_choose_9 (by decide) (by omega) (by omega) (fun h2 => ?_) (fun h2 => ?_)
    ·
      exact absurd h2 (by omega)
    ·
      refine j_iconst G d9_choose_12 ?_
      exact j_iret G F d9_choose_13 ⟨(-1), rfl, (by rfl)⟩
theorem d9_choose_14 : decode c9_choose 14 = .ok (.aload_n 0, 1) := by decide +kernel
theorem d9_choose_15 : decode c9_choose 15 = .ok (.getfield 30, 3) := by decide +kernel
theorem d9_choose_18 : decode c9_choose 18 = .ok (.getfield 104, 3) := by decide +kernel
theorem d9_choose_21 : decode c9_choose 21 = .ok (.istore_n 2, 1) := by decide +kernel
theorem d9_choose_22 : decode c9_choose 22 = .ok (.aload_n 0, 1) := by decide +kernel
theorem d9_choose_23 : decode c9_choose 23 = .ok (.iload_n 1, 1) := by decide +kernel
theorem d9_choose_24 : decode c9_choose 24 = .ok (.aload_n 0, 1) := by decide +kernel
theorem d9_choose_25 : decode c9_choose 25 = .ok (.getfield 17, 3) := by decide +kernel
theorem d9_choose_28 : decode c9_choose 28 = .ok (.iload_n 1, 1) := by decide +kernel
theorem d9_choose_29 : decode c9_choose 29 = .ok (.aaload, 1) := by decide +kernel
theorem d9_choose_30 : decode c9_choose 30 = .ok (.invokevirtual 100, 3) := by decide +kernel
theorem d9_choose_33 : decode c9_choose 33 = .ok (.iload_n 2, 1) := by decide +kernel
theorem d9_choose_34 : decode c9_choose 34 = .ok (.ireturn, 1) := by decide +kernel
set_option maxHeartbeats 4000000 in
set_option maxRecDepth 100000 in
theorem k9_choosec (l : Launch) (E : En) (xo : Nat) (xa : Nat → Nat) (X : Nat → Int) (U : Nat → Int) (ck : Nat → Option Nat) (ca : Nat) (pa : Nat) (da : Nat) (sa : Nat) (C : Nat → Int) (f : Int) (r_f : R32 f) (hx3 : 0 ≤ f ∧ f < X 3 ∧ X 3 ≤ 4) (hck : ck f.toNat = some ca) (hu2 : 0 ≤ U 2 ∧ U 2 ≤ 40) (hc7 : 0 ≤ C 7 ∧ C 7 ≤ 40) : Cm l E y9_choose c9_choose 3 (some .int) { frames := 2, cells := 0, slots := 0, locals := 36 } [.ref xo, .int (iZ f)] [(xo, xO xa X), (xa 6, o5 (some (xa 20)) (some (xa 21)) (some (xa 22)) (some (xa 23)) U), (xa 2, aRef E 3 4 ck), (ca, o1 (some pa) (some da) (some sa) C)] (fun r ws => r = some (.int (iZ (U 3))) ∧ ws = [(xo, xO xa X), (xa 6, o5 (some (xa 20)) (some (xa 21)) (some (xa 22)) (some (xa 23)) (upS (upS U 3 f) 2 (min (U 2) (C 7)))), (xa 2, aRef E 3 4 ck), (ca, o1 (some pa) (some da) (some sa) C)] ∧ True) := by
  refine Cm.of (by decide +kernel) (Nat.le_of_ble_eq_true rfl) (fun Γ A hl hargs hin G F => ?_)
  subst hl
  refine j_iload_n G 1 rfl d9_choose_0 ?_
  refine j_if_lt (tgt := 12) G d9_choose_1 (by decide) (by omega) (fun h1 => ?_) (fun h1 => ?_)
  ·
    exact absurd h1 (by omega)
  ·
    refine j_iload_n G 1 rfl d9_choose_4 ?_
    refine j_aload_n G 0 rfl d9_choose_5 ?_
    refine j_get G 0 9 3 in9 fl9_87 d9_choose_6 rfl rfl (by decide) (v := .int (iZ (X 3))) rfl rfl ?_
    refine j_icmp_lt (tgt := 14) G d9_choose_9 (by decide) (by omega) (by omega) (fun h2 => ?_) (fun h2 => ?_)
    ·
      refine j_aload_n G 0 rfl d9_choose_14 ?_
      refine j_get G 0 9 6 in9 fl9_30 d9_choose_15 rfl rfl (by decide) (v := .ref (xa 6)) rfl rfl ?_
      refine j_get G 1 5 3 in5 fl9_104 d9_choose_18 rfl rfl (by decide) (v := .int (iZ (U 3))) rfl rfl ?_
      refine j_istore_n G d9_choose_21 (by decide) rfl ?_
      refine j_aload_n G 1 rfl d9_choose_22 ?_
      refine j_iload_n G 2 rfl d9_choose_23 ?_
      refine j_aload_n G 1 rfl d9_choose_24 ?_
      refine j_get G 0 9 2 in9 fl9_17 d9_choose_25 rfl rfl (by decide) (v := .ref (xa 2)) rfl rfl ?_
      refine j_iload_n G 2 rfl d9_choose_28 ?_
      refine j_aald G 2 3 rfl rfl (by omega) d9_choose_29 (v := .ref ca) (by rw [hck]; rfl) ?_
      refine j_VM G (rm' := { frames := 1, cells := 0, slots := 0, locals := 14 }) (wc := [(xo, xO xa X), (xa 6, o5 (some (xa 20)) (some (xa 21)) (some (xa 22)) (some (xa 23)) U), (ca, o1 (some pa) (some da) (some sa) C)]) (wr := [(xa 2, aRef E 3 4 ck)]) (k9_moveTo (xl Γ) E xo xa X U ca pa da sa C f (by first | assumption | omega | (simp only [upS, reduceIte, Nat.reduceEqDiff, eq_self, List.length_cons, List.length_nil, List.length_append] <;> omega)) (by first | assumption | omega | (simp only [upS, reduceIte, Nat.reduceEqDiff, eq_self, List.length_cons, List.length_nil, List.length_append] <;> omega))) mw9_moveTo ml9_100 [0, 1, 3] [2] rfl rfl ⟨rfl, rfl⟩ (by decide) 0 9 rfl rfl rfl ⟨Nat.le_of_ble_eq_true rfl, Nat.le_of_ble_eq_true rfl⟩ rfl (rest := []) rfl (Nat.le_of_ble_eq_true rfl) d9_choose_30 ⟨Nat.le_of_ble_eq_true rfl, Nat.le_of_ble_eq_true rfl⟩ (fun r w1 hr => ?_)
      obtain ⟨rfl, rfl, hq3⟩ := hr
      refine j_eq (ws' := [(xa 2, aRef E 3 4 ck), (xo, xO xa X), (xa 6, o5 (some (xa 20)) (some (xa 21)) (some (xa 22)) (some (xa 23)) (upS (upS U 3 f) 2 (min ((U 2)) ((C 7))))), (ca, o1 (some pa) (some da) (some sa) C)]) rfl rfl rfl ?_
      refine j_iload_n G 0 rfl d9_choose_33 ?_
      refine j_perm (ws' := [(xo, xO xa X), (xa 6, o5 (some (xa 20)) (some (xa 21)) (some (xa 22)) (some (xa 23)) (upS (upS U 3 f) 2 (min ((U 2)) ((C 7))))), (xa 2, aRef E 3 4 ck), (ca, o1 (some pa) (some da) (some sa) C)]) [1, 2, 0, 3] rfl rfl rfl ?_
      exact j_iret G F d9_choose_34 ⟨rfl, rfl, trivial⟩
    ·
      omega
theorem d9_feed_0 : decode c9_feed 0 = .ok (.iload_n 2, 1) := by decide +kernel
theorem d9_feed_1 : decode c9_feed 1 = .ok (.ifCond .lt 8, 3) := by decide +kernel
theorem d9_feed_4 : decode c9_feed 4 = .ok (.iload_n 2, 1) := by decide +kernel
theorem d9_feed_5 : decode c9_feed 5 = .ok (.iconst 4, 1) := by decide +kernel
theorem d9_feed_6 : decode c9_feed 6 = .ok (.if_icmp .le 6, 3) := by decide +kernel
theorem d9_feed_9 : decode c9_feed 9 = .ok (.bipush (-2), 2) := by decide +kernel
theorem d9_feed_11 : decode c9_feed 11 = .ok (.ireturn, 1) := by decide +kernel
theorem d9_feed_12 : decode c9_feed 12 = .ok (.aload_n 0, 1) := by decide +kernel
theorem d9_feed_13 : decode c9_feed 13 = .ok (.getfield 83, 3) := by decide +kernel
theorem d9_feed_16 : decode c9_feed 16 = .ok (.iload_n 2, 1) := by decide +kernel
theorem d9_feed_17 : decode c9_feed 17 = .ok (.iadd, 1) := by decide +kernel
theorem d9_feed_18 : decode c9_feed 18 = .ok (.bipush 100, 2) := by decide +kernel
theorem d9_feed_20 : decode c9_feed 20 = .ok (.if_icmp .le 6, 3) := by decide +kernel
theorem d9_feed_23 : decode c9_feed 23 = .ok (.bipush (-4), 2) := by decide +kernel
theorem d9_feed_25 : decode c9_feed 25 = .ok (.ireturn, 1) := by decide +kernel
theorem d9_feed_26 : decode c9_feed 26 = .ok (.iload_n 2, 1) := by decide +kernel
theorem d9_feed_27 : decode c9_feed 27 = .ok (.iconst 1, 1) := by decide +kernel
theorem d9_feed_28 : decode c9_feed 28 = .ok (.isub, 1) := by decide +kernel
theorem d9_feed_29 : decode c9_feed 29 = .ok (.istore_n 3, 1) := by decide +kernel
theorem d9_feed_30 : decode c9_feed 30 = .ok (.iload_n 3, 1) := by decide +kernel
theorem d9_feed_31 : decode c9_feed 31 = .ok (.ifCond .lt 38, 3) := by decide +kernel
theorem d9_feed_34 : decode c9_feed 34 = .ok (.aload_n 0, 1) := by decide +kernel
theorem d9_feed_35 : decode c9_feed 35 = .ok (.getfield 11, 3) := by decide +kernel
theorem d9_feed_38 : decode c9_feed 38 = .ok (.aload_n 0, 1) := by decide +kernel
theorem d9_feed_39 : decode c9_feed 39 = .ok (.getfield 83, 3) := by decide +kernel
theorem d9_feed_42 : decode c9_feed 42 = .ok (.iload_n 1, 1) := by decide +kernel
theorem d9_feed_43 : decode c9_feed 43 = .ok (.bipush 8, 2) := by decide +kernel
theorem d9_feed_45 : decode c9_feed 45 = .ok (.iload_n 3, 1) := by decide +kernel
theorem d9_feed_46 : decode c9_feed 46 = .ok (.imul, 1) := by decide +kernel
theorem d9_feed_47 : decode c9_feed 47 = .ok (.iushr, 1) := by decide +kernel
theorem d9_feed_48 : decode c9_feed 48 = .ok (.sipush 255, 3) := by decide +kernel
theorem d9_feed_51 : decode c9_feed 51 = .ok (.iand, 1) := by decide +kernel
theorem d9_feed_52 : decode c9_feed 52 = .ok (.iastore, 1) := by decide +kernel
theorem d9_feed_53 : decode c9_feed 53 = .ok (.aload_n 0, 1) := by decide +kernel
theorem d9_feed_54 : decode c9_feed 54 = .ok (.dup, 1) := by decide +kernel
theorem d9_feed_55 : decode c9_feed 55 = .ok (.getfield 83, 3) := by decide +kernel
theorem d9_feed_58 : decode c9_feed 58 = .ok (.iconst 1, 1) := by decide +kernel
theorem d9_feed_59 : decode c9_feed 59 = .ok (.iadd, 1) := by decide +kernel
theorem d9_feed_60 : decode c9_feed 60 = .ok (.putfield 83, 3) := by decide +kernel
theorem d9_feed_63 : decode c9_feed 63 = .ok (.iinc 3 (-1), 3) := by decide +kernel
theorem d9_feed_66 : decode c9_feed 66 = .ok (.goto (-36), 3) := by decide +kernel
theorem d9_feed_69 : decode c9_feed 69 = .ok (.aload_n 0, 1) := by decide +kernel
theorem d9_feed_70 : decode c9_feed 70 = .ok (.getfield 83, 3) := by decide +kernel
theorem d9_feed_73 : decode c9_feed 73 = .ok (.ireturn, 1) := by decide +kernel
theorem mw9_feed : MV y9_feed c9_feed 4 (some .int) 2 := ⟨cd9_feed, ini9, na9_feed, im9_feed, se9_feed⟩
set_option maxHeartbeats 4000000 in
set_option maxRecDepth 100000 in
theorem k9_feed (l : Launch) (E : En) (xo : Nat) (xa : Nat → Nat) (X : Nat → Int) (tb : Int → Int) (Ut : Int → Int) (b : Int) (n : Int) (r_b : R32 b) (r_n : R32 n) (hx1 : 0 ≤ X 1 ∧ X 1 ≤ 100) (htb : ∀ j, 0 ≤ j → j < 100 → tb j = Ut j % 256) : Cm l E y9_feed c9_feed 4 (some .int) { frames := 0, cells := 0, slots := 0, locals := 0 } [.ref xo, .int (iZ b), .int (iZ n)] [(xo, xO xa X), (xa 0, aInt E 100 tb)] (fun r ws => ∃ (v : Int), ∃ (tb1 : Int → Int), ∃ (x1 : Int), r = some (.int (iZ v)) ∧ ws = [(xo, xO xa (upS X 1 x1)), (xa 0, aInt E 100 tb1)] ∧ (v = feedA (X 1) n ∧ ((feedOk (X 1) n ∧ x1 = X 1 + n ∧ ∀ j, 0 ≤ j → j < 100 → tb1 j = fdF b n Ut (X 1) j % 256) ∨ (¬ feedOk (X 1) n ∧ x1 = X 1 ∧ tb1 = tb)))) := by
  refine Cm.of (by decide +kernel) (Nat.le_of_ble_eq_true rfl) (fun Γ A hl hargs hin G F => ?_)
  subst hl
  refine j_iload_n G 2 rfl d9_feed_0 ?_
  refine j_if_lt (tgt := 9) G d9_feed_1 (by decide) (by omega) (fun h1 => ?_) (fun h1 => ?_)
  ·
    refine j_bipush G d9_feed_9 rfl ?_
    exact j_iret G F d9_feed_11 ⟨(-2), tb, (X 1), rfl, rfl, (by exact ⟨by (simp only [feedA]; (repeat' split) <;> omega), by first | (right; exact ⟨fun z => by (have q1 := z.1; have q2 := z.2; omega), rfl, rfl⟩) | (left; exact ⟨⟨by omega, by omega⟩, by omega, fun j h1 h2 => by (rw [hg j h1 h2]; unfold fdF; by_cases z : X 1 ≤ j ∧ j < q; (rw [if_pos z, if_pos (by omega)]); (rw [if_neg z, if_neg (by omega), htb j h1 h2]))⟩)⟩)⟩
  ·
    refine j_iload_n G 2 rfl d9_feed_4 ?_
    refine j_iconst G d9_feed_5 ?_
    refine j_icmp_le (tgt := 12) G d9_feed_6 (by decide) (by omega) (by decide) (fun h2 => ?_) (fun h2 => ?_)
    ·
      refine j_aload_n G 0 rfl d9_feed_12 ?_
      refine j_get G 0 9 1 in9 fl9_83 d9_feed_13 rfl rfl (by decide) (v := .int (iZ (X 1))) rfl rfl ?_
      refine j_iload_n G 2 rfl d9_feed_16 ?_
      refine j_iadd G d9_feed_17 ?_
      refine j_bipush G d9_feed_18 rfl ?_
      refine j_icmp_le (tgt := 26) G d9_feed_20 (by decide) (by omega) (by decide) (fun h3 => ?_) (fun h3 => ?_)
      ·
        refine j_iload_n G 2 rfl d9_feed_26 ?_
        refine j_iconst G d9_feed_27 ?_
        refine j_isub G d9_feed_28 ?_
        refine j_istore_n G d9_feed_29 (by decide) rfl ?_
        refine j_eq (ws' := [(xo, xO xa (upS X 1 (X 1))), (xa 0, aInt E 100 tb)]) rfl rfl rfl ?_
        have lp30 : ∀ (fu : Nat) (k : Int) (q : Int) (g : Int → Int), (k + 1).toNat < fu → (-1 ≤ k ∧ k ≤ n - 1) → (q = X 1 + (n - 1 - k)) → (∀ j, 0 ≤ j → j < 100 → g j = if X 1 ≤ j ∧ j < q then fdB b (n - 1 - (j - X 1)) % 256 else tb j) →  J E 4 Γ (some A) 0 0 [(xo, xO xa (upS X 1 q)), (xa 0, aInt E 100 g)] 30 [(3, .int (iZ k)), (0, .ref xo), (1, .int (iZ b)), (2, .int (iZ n))] [] := by
          intro fu
          induction fu with
          | zero =>
            intro k q g hm
            exact absurd hm (Nat.not_lt_zero _)
          | succ fu ih30 =>
            intro k q g hm hk hq hg
            refine j_iload_n G 0 rfl d9_feed_30 ?_
            refine j_if_lt (tgt := 69) G d9_feed_31 (by decide) (by omega) (fun h4 => ?_) (fun h4 => ?_)
            ·
              refine j_aload_n G 1 rfl d9_feed_69 ?_
              refine j_get G 0 9 1 in9 fl9_83 d9_feed_70 rfl rfl (by decide) (v := .int (iZ q)) rfl rfl ?_
              exact j_iret G F d9_feed_73 ⟨q, g, q, rfl, rfl, (by exact ⟨by (simp only [feedA]; (repeat' split) <;> omega), by first | (right; exact ⟨fun z => by (have q1 := z.1; have q2 := z.2; omega), rfl, rfl⟩) | (left; exact ⟨⟨by omega, by omega⟩, by omega, fun j h1 h2 => by (rw [hg j h1 h2]; unfold fdF; by_cases z : X 1 ≤ j ∧ j < q; (rw [if_pos z, if_pos (by omega)]); (rw [if_neg z, if_neg (by omega), htb j h1 h2]))⟩)⟩)⟩
            ·
              refine j_aload_n G 1 rfl d9_feed_34 ?_
              refine j_get G 0 9 0 in9 fl9_11 d9_feed_35 rfl rfl (by decide) (v := .ref (xa 0)) rfl rfl ?_
              refine j_aload_n G 1 rfl d9_feed_38 ?_
              refine j_get G 0 9 1 in9 fl9_83 d9_feed_39 rfl rfl (by decide) (v := .int (iZ q)) rfl rfl ?_
              refine j_iload_n G 2 rfl d9_feed_42 ?_
              refine j_bipush G d9_feed_43 rfl ?_
              refine j_iload_n G 0 rfl d9_feed_45 ?_
              refine j_imul G d9_feed_46 ?_
              refine r_iushr G d9_feed_47 ?_
              refine j_top (y := iZ ((((iZ b).toUInt32 >>> ((iZ (8 * k)).toUInt32 &&& Int32.toUInt32 31)).toInt32).toInt)) (iZ_of _).symm ?_
              refine j_sipush G d9_feed_48 rfl ?_
              refine r_iand G d9_feed_51 ?_
              refine j_top (y := (iZ (fdB b k % 256))) (fd_x (by omega) (by omega)) ?_
              refine j_iast G 1 rfl (by omega) d9_feed_52 ?_
              refine j_aload_n G 1 rfl d9_feed_53 ?_
              refine j_dup G d9_feed_54 rfl ?_
              refine j_get G 0 9 1 in9 fl9_83 d9_feed_55 rfl rfl (by decide) (v := .int (iZ q)) rfl rfl ?_
              refine j_iconst G d9_feed_58 ?_
              refine j_iadd G d9_feed_59 ?_
              refine j_put G 0 9 1 in9 tyok9 nm9 fl9_83 d9_feed_60 rfl rfl (by decide) ⟨rfl, rfl⟩ rfl rfl (Nat.le_of_ble_eq_true rfl) (e := xO xa (upS X 1 (q + 1))) rfl ?_
              refine j_iinc G d9_feed_63 0 rfl (by decide) rfl ?_
              refine j_goto (tgt := 30) G d9_feed_66 (by decide) ?_
              exact ih30 (k + (-1)) (q + 1) (upI g q (fdB b k % 256)) (by omega) (by first | assumption | omega) (by first | assumption | omega) (fun j h1 h2 => if hj : j = q then (by subst hj; rw [upI_eq, if_pos (by omega)]; congr 2; omega) else (by rw [upI_ne hj, hg j h1 h2]; by_cases z : X 1 ≤ j ∧ j < q; (rw [if_pos z, if_pos (by omega)]); (rw [if_neg z, if_neg (by omega)])))
        exact lp30 _ (n - 1) (X 1) tb (Nat.lt_succ_self _) (by first | assumption | omega) (by first | assumption | omega) (fun j _ _ => (if_neg (by omega)).symm)
      ·
        refine j_bipush G d9_feed_23 rfl ?_
        exact j_iret G F d9_feed_25 ⟨(-4), tb, (X 1), rfl, rfl, (by exact ⟨by (simp only [feedA]; (repeat' split) <;> omega), by first | (right; exact ⟨fun z => by (have q1 := z.1; have q2 := z.2; omega), rfl, rfl⟩) | (left; exact ⟨⟨by omega, by omega⟩, by omega, fun j h1 h2 => by (rw [hg j h1 h2]; unfold fdF; by_cases z : X 1 ≤ j ∧ j < q; (rw [if_pos z, if_pos (by omega)]); (rw [if_neg z, if_neg (by omega), htb j h1 h2]))⟩)⟩)⟩
    ·
      refine j_bipush G d9_feed_9 rfl ?_
      exact j_iret G F d9_feed_11 ⟨(-2), tb, (X 1), rfl, rfl, (by exact ⟨by (simp only [feedA]; (repeat' split) <;> omega), by first | (right; exact ⟨fun z => by (have q1 := z.1; have q2 := z.2; omega), rfl, rfl⟩) | (left; exact ⟨⟨by omega, by omega⟩, by omega, fun j h1 h2 => by (rw [hg j h1 h2]; unfold fdF; by_cases z : X 1 ≤ j ∧ j < q; (rw [if_pos z, if_pos (by omega)]); (rw [if_neg z, if_neg (by omega), htb j h1 h2]))⟩)⟩)⟩
theorem d9_cliff_0 : decode c9_cliff 0 = .ok (.aload_n 0, 1) := by decide +kernel
theorem d9_cliff_1 : decode c9_cliff 1 = .ok (.getfield 87, 3) := by decide +kernel
theorem d9_cliff_4 : decode c9_cliff 4 = .ok (.iconst 4, 1) := by decide +kernel
theorem d9_cliff_5 : decode c9_cliff 5 = .ok (.if_icmp .lt 6, 3) := by decide +kernel
theorem d9_cliff_8 : decode c9_cliff 8 = .ok (.bipush (-4), 2) := by decide +kernel
theorem d9_cliff_10 : decode c9_cliff 10 = .ok (.ireturn, 1) := by decide +kernel
theorem mw9_cliff : MV y9_cliff c9_cliff 3 (some .int) 0 := ⟨cd9_cliff, ini9, na9_cliff, im9_cliff, se9_cliff⟩
set_option maxHeartbeats 4000000 in
set_option maxRecDepth 100000 in
theorem k9_clifff (l : Launch) (E : En) (xo : Nat) (xa : Nat → Nat) (X : Nat → Int) (hx3 : X 3 = 4) : Cp l E y9_cliff c9_cliff 3 (some .int) 0 0 [.ref xo] [(xo, xO xa X)] (fun r => ∃ (v : Int), r = some (.int (iZ v)) ∧ (v = -4)) := by
  refine Cp.of (by decide +kernel) (Nat.le_of_ble_eq_true rfl) (fun Γ hl hargs G F => ?_)
  subst hl
  refine j_aload_n G 0 rfl d9_cliff_0 ?_
  refine j_get G 0 9 3 in9 fl9_87 d9_cliff_1 rfl rfl (by decide) (v := .int (iZ (X 3))) rfl rfl ?_
  refine j_iconst G d9_cliff_4 ?_
  refine j_icmp_lt (tgt := 11) G d9_cliff_5 (by decide) (by omega) (by decide) (fun h1 => ?_) (fun h1 => ?_)
  ·
    exact absurd h1 (by omega)
  ·
    refine j_bipush G d9_cliff_8 rfl ?_
    exact j_iret G F d9_cliff_10 ⟨(-4), rfl, (by rfl)⟩
theorem d9_cliff_11 : decode c9_cliff 11 = .ok (.new 15, 3) := by decide +kernel
theorem d9_cliff_14 : decode c9_cliff 14 = .ok (.dup, 1) := by decide +kernel
theorem d9_cliff_15 : decode c9_cliff 15 = .ok (.invokespecial 90, 3) := by decide +kernel
theorem d9_cliff_18 : decode c9_cliff 18 = .ok (.astore_n 1, 1) := by decide +kernel
theorem d9_cliff_19 : decode c9_cliff 19 = .ok (.new 91, 3) := by decide +kernel
theorem d9_cliff_22 : decode c9_cliff 22 = .ok (.dup, 1) := by decide +kernel
theorem d9_cliff_23 : decode c9_cliff 23 = .ok (.aload_n 0, 1) := by decide +kernel
theorem d9_cliff_24 : decode c9_cliff 24 = .ok (.getfield 11, 3) := by decide +kernel
theorem d9_cliff_27 : decode c9_cliff 27 = .ok (.aload_n 0, 1) := by decide +kernel
theorem d9_cliff_28 : decode c9_cliff 28 = .ok (.getfield 83, 3) := by decide +kernel
theorem d9_cliff_31 : decode c9_cliff 31 = .ok (.invokespecial 93, 3) := by decide +kernel
theorem d9_cliff_34 : decode c9_cliff 34 = .ok (.aload_n 1, 1) := by decide +kernel
theorem d9_cliff_35 : decode c9_cliff 35 = .ok (.invokevirtual 96, 3) := by decide +kernel
theorem d9_cliff_38 : decode c9_cliff 38 = .ok (.istore_n 2, 1) := by decide +kernel
theorem d9_cliff_39 : decode c9_cliff 39 = .ok (.aload_n 0, 1) := by decide +kernel
theorem d9_cliff_40 : decode c9_cliff 40 = .ok (.iconst 0, 1) := by decide +kernel
theorem d9_cliff_41 : decode c9_cliff 41 = .ok (.putfield 83, 3) := by decide +kernel
theorem d9_cliff_44 : decode c9_cliff 44 = .ok (.iload_n 2, 1) := by decide +kernel
theorem d9_cliff_45 : decode c9_cliff 45 = .ok (.ifCond .lt 8, 3) := by decide +kernel
theorem d9_cliff_48 : decode c9_cliff 48 = .ok (.bipush (-10), 2) := by decide +kernel
theorem d9_cliff_50 : decode c9_cliff 50 = .ok (.iload_n 2, 1) := by decide +kernel
theorem d9_cliff_51 : decode c9_cliff 51 = .ok (.isub, 1) := by decide +kernel
theorem d9_cliff_52 : decode c9_cliff 52 = .ok (.ireturn, 1) := by decide +kernel
set_option maxHeartbeats 4000000 in
set_option maxRecDepth 100000 in
theorem k9_cliffe (l : Launch) (E : En) (xo : Nat) (xa : Nat → Nat) (X : Nat → Int) (tb : Int → Int) (Ut : Int → Int) (hx3 : 0 ≤ X 3 ∧ X 3 < 4) (hx1 : 0 ≤ X 1 ∧ X 1 ≤ 100) (htb : ∀ j, 0 ≤ j → j < 100 → tb j = Ut j % 256 ∧ -128 ≤ Ut j ∧ Ut j ≤ 127) (htx : (txF Ut (X 1) 12 0).1 = 0) : Cm l E y9_cliff c9_cliff 3 (some .int) { frames := 19, cells := 5, slots := 67, locals := 439 } [.ref xo] [(xo, xO xa X), (xa 0, aInt E 100 tb)] (fun r ws => ∃ (v : Int), r = some (.int (iZ v)) ∧ ws = [(xo, xO xa (upS X 1 0)), (xa 0, aInt E 100 tb)] ∧ (v = -10 - (txF Ut (X 1) 12 0).2)) := by
  refine Cm.of (by decide +kernel) (Nat.le_of_ble_eq_true rfl) (fun Γ A hl hargs hin G F => ?_)
  subst hl
  refine j_aload_n G 0 rfl d9_cliff_0 ?_
  refine j_get G 0 9 3 in9 fl9_87 d9_cliff_1 rfl rfl (by decide) (v := .int (iZ (X 3))) rfl rfl ?_
  refine j_iconst G d9_cliff_4 ?_
  refine j_icmp_lt (tgt := 11) G d9_cliff_5 (by decide) (by omega) (by decide) (fun h1 => ?_) (fun h1 => ?_)
  ·
    refine j_new G 1 (fs := z1) in1 tyok1 cl9_15 is1 ini1 rfl hz1 ⟨Nat.le_of_ble_eq_true rfl, Nat.le_of_ble_eq_true rfl⟩ d9_cliff_11 (fun q2 => ?_)
    refine j_dup G d9_cliff_14 rfl ?_
    refine j_IMN G (rm' := { frames := 1, cells := 3, slots := 53, locals := 12 }) (wc := [(q2, o1 none none none (fun _ => 0))]) (wr := [(xo, xO xa X), (xa 0, aInt E 100 tb)]) (k1_init (xl Γ) E q2 ) mw1_init mn9_90 [2] [0, 1] rfl rfl ⟨rfl, rfl⟩ (by decide) ⟨Nat.le_of_ble_eq_true rfl, Nat.le_of_ble_eq_true rfl⟩ rfl (rest := [.ref q2]) rfl (Nat.le_of_ble_eq_true rfl) d9_cliff_15 ⟨Nat.le_of_ble_eq_true rfl, Nat.le_of_ble_eq_true rfl⟩ (fun r w1 hr => ?_)
    obtain ⟨c0_4, c1_5, c2_6, rfl, rfl, hq3⟩ := hr
    refine j_eq (ws' := [(xo, xO xa X), (xa 0, aInt E 100 tb), (q2, o1 (some c0_4) (some c1_5) (some c2_6) (upS (upS (upS (upS (upS (fun _ => 0) 3 10) 4 999) 5 20) 6 4) 7 20)), (c0_4, aInt E 5 (fun _ => 0)), (c1_5, aInt E 24 (fun _ => 0)), (c2_6, aInt E 24 (fun _ => 0))]) rfl rfl rfl ?_
    refine j_astore_n G d9_cliff_18 (by decide) rfl ?_
    refine j_new G 0 (fs := z0) in0 tyok0 cl9_91 is0 ini0 rfl hz0 ⟨Nat.le_of_ble_eq_true rfl, Nat.le_of_ble_eq_true rfl⟩ d9_cliff_19 (fun q7 => ?_)
    refine j_dup G d9_cliff_22 rfl ?_
    refine j_aload_n G 1 rfl d9_cliff_23 ?_
    refine j_get G 0 9 0 in9 fl9_11 d9_cliff_24 rfl rfl (by decide) (v := .ref (xa 0)) rfl rfl ?_
    refine j_aload_n G 1 rfl d9_cliff_27 ?_
    refine j_get G 0 9 1 in9 fl9_83 d9_cliff_28 rfl rfl (by decide) (v := .int (iZ (X 1))) rfl rfl ?_
    refine j_IM G (rm' := { frames := 1, cells := 0, slots := 0, locals := 14 }) (wc := [(q7, o0 none (fun _ => 0)), (xa 0, aInt E 100 tb)]) (wr := [(xo, xO xa X), (q2, o1 (some c0_4) (some c1_5) (some c2_6) (upS (upS (upS (upS (upS (fun _ => 0) 3 10) 4 999) 5 20) 6 4) 7 20)), (c0_4, aInt E 5 (fun _ => 0)), (c1_5, aInt E 24 (fun _ => 0)), (c2_6, aInt E 24 (fun _ => 0))]) (k0_init (xl Γ) E q7 (xa 0) tb (X 1) (by first | assumption | omega | (simp only [upS, reduceIte, Nat.reduceEqDiff, eq_self, List.length_cons, List.length_nil, List.length_append] <;> omega))) mw0_init ml9_93 [6, 1] [0, 2, 3, 4, 5] rfl rfl ⟨rfl, rfl⟩ (by decide) ⟨Nat.le_of_ble_eq_true rfl, Nat.le_of_ble_eq_true rfl⟩ rfl (rest := [.ref q7]) rfl (Nat.le_of_ble_eq_true rfl) d9_cliff_31 ⟨Nat.le_of_ble_eq_true rfl, Nat.le_of_ble_eq_true rfl⟩ (fun r w1 hr => ?_)
    obtain ⟨rfl, rfl, hq8⟩ := hr
    refine j_eq (ws' := [(xo, xO xa X), (q2, o1 (some c0_4) (some c1_5) (some c2_6) (upS (upS (upS (upS (upS (fun _ => 0) 3 10) 4 999) 5 20) 6 4) 7 20)), (c0_4, aInt E 5 (fun _ => 0)), (c1_5, aInt E 24 (fun _ => 0)), (c2_6, aInt E 24 (fun _ => 0)), (q7, o0 (some (xa 0)) (upS (upS (fun _ => 0) 3 (-1)) 1 (X 1))), (xa 0, aInt E 100 tb)]) rfl rfl rfl ?_
    refine j_aload_n G 0 rfl d9_cliff_34 ?_
    refine j_VM G (rm' := { frames := 18, cells := 0, slots := 0, locals := 417 }) (wc := [(q7, o0 (some (xa 0)) (upS (upS (fun _ => 0) 3 (-1)) 1 (X 1))), (xa 0, aInt E 100 tb), (q2, o1 (some c0_4) (some c1_5) (some c2_6) (upS (upS (upS (upS (upS (fun _ => 0) 3 10) 4 999) 5 20) 6 4) 7 20)), (c0_4, aInt E 5 (fun _ => 0)), (c1_5, aInt E 24 (fun _ => 0)), (c2_6, aInt E 24 (fun _ => 0))]) (wr := [(xo, xO xa X)]) (k0_clausesOf (xl Γ) E q7 (xa 0) (upS (upS (fun _ => 0) 3 (-1)) 1 (X 1)) tb Ut q2 c0_4 c1_5 c2_6 (upS (upS (upS (upS (upS (fun _ => 0) 3 10) 4 999) 5 20) 6 4) 7 20) (fun _ => 0) (fun _ => 0) (fun _ => 0) (by first | assumption | omega | (simp only [upS, reduceIte, Nat.reduceEqDiff, eq_self, List.length_cons, List.length_nil, List.length_append] <;> omega)) (by first | assumption | omega | (simp only [upS, reduceIte, Nat.reduceEqDiff, eq_self, List.length_cons, List.length_nil, List.length_append] <;> omega)) (by first | assumption | omega | (simp only [upS, reduceIte, Nat.reduceEqDiff, eq_self, List.length_cons, List.length_nil, List.length_append] <;> omega)) (by first | assumption | omega | (simp only [upS, reduceIte, Nat.reduceEqDiff, eq_self, List.length_cons, List.length_nil, List.length_append] <;> omega)) rfl rfl ⟨(by funext k; simp only [upS, cv0]; (repeat' split) <;> first | rfl | omega), rfl⟩ (fun _ _ _ => rfl) (fun _ _ _ => rfl)) mw0_clausesOf ml9_96 [5, 6, 1, 2, 3, 4] [0] rfl rfl ⟨rfl, rfl⟩ (by decide) 5 0 rfl rfl rfl ⟨Nat.le_of_ble_eq_true rfl, Nat.le_of_ble_eq_true rfl⟩ rfl (rest := []) rfl (Nat.le_of_ble_eq_true rfl) d9_cliff_35 ⟨Nat.le_of_ble_eq_true rfl, Nat.le_of_ble_eq_true rfl⟩ (fun r w1 hr => ?_)
    obtain ⟨v10, at1_11, ft1_12, C1_13, P1_14, dr1_15, sr1_16, rfl, rfl, hq9⟩ := hr
    refine j_eq (ws' := [(xo, xO xa X), (q7, o0 (some (xa 0)) (upS (upS (upS (fun _ => 0) 1 (X 1)) 2 at1_11) 3 ft1_12)), (xa 0, aInt E 100 tb), (q2, o1 (some c0_4) (some c1_5) (some c2_6) C1_13), (c0_4, aInt E 5 P1_14), (c1_5, aInt E 24 dr1_15), (c2_6, aInt E 24 sr1_16)]) rfl rfl rfl ?_
    try simp only [upS, reduceIte, Nat.reduceEqDiff, eq_self] at hq9
    have hv0 : 0 ≤ v10 ∧ v10 ≤ 200 ∧ v10 = (txF Ut (X 1) 12 0).2 := by rcases hq9 with ⟨q1, q2, q3⟩ | ⟨q1, q2, q3⟩; (exact ⟨q1, q2, by rw [q3]⟩); (exfalso; omega)
    refine j_istore_n G d9_cliff_38 (by decide) rfl ?_
    refine j_aload_n G 2 rfl d9_cliff_39 ?_
    refine j_iconst G d9_cliff_40 ?_
    refine j_put G 0 9 1 in9 tyok9 nm9 fl9_83 d9_cliff_41 rfl rfl (by decide) ⟨rfl, rfl⟩ rfl rfl (Nat.le_of_ble_eq_true rfl) (e := xO xa (upS X 1 0)) rfl ?_
    refine j_iload_n G 0 rfl d9_cliff_44 ?_
    refine j_if_lt (tgt := 53) G d9_cliff_45 (by decide) (by omega) (fun h17 => ?_) (fun h17 => ?_)
    ·
      exact absurd h17 (by omega)
    ·
      refine j_bipush G d9_cliff_48 rfl ?_
      refine j_iload_n G 0 rfl d9_cliff_50 ?_
      refine j_isub G d9_cliff_51 ?_
      refine j_perm (ws' := [(xo, xO xa (upS X 1 0)), (xa 0, aInt E 100 tb)]) [0, 2] rfl rfl rfl ?_
      refine j_widen (k' := 5) (n' := 67) ⟨Nat.le_of_ble_eq_true rfl, Nat.le_of_ble_eq_true rfl⟩ ?_
      exact j_iret G F d9_cliff_52 ⟨(-10) - v10, rfl, rfl, (by omega)⟩
  ·
    omega
theorem d9_cliff_53 : decode c9_cliff 53 = .ok (.aload_n 0, 1) := by decide +kernel
theorem d9_cliff_54 : decode c9_cliff 54 = .ok (.getfield 17, 3) := by decide +kernel
theorem d9_cliff_57 : decode c9_cliff 57 = .ok (.aload_n 0, 1) := by decide +kernel
theorem d9_cliff_58 : decode c9_cliff 58 = .ok (.getfield 87, 3) := by decide +kernel
theorem d9_cliff_61 : decode c9_cliff 61 = .ok (.aload_n 1, 1) := by decide +kernel
theorem d9_cliff_62 : decode c9_cliff 62 = .ok (.aastore, 1) := by decide +kernel
theorem d9_cliff_63 : decode c9_cliff 63 = .ok (.aload_n 0, 1) := by decide +kernel
theorem d9_cliff_64 : decode c9_cliff 64 = .ok (.dup, 1) := by decide +kernel
theorem d9_cliff_65 : decode c9_cliff 65 = .ok (.getfield 87, 3) := by decide +kernel
theorem d9_cliff_68 : decode c9_cliff 68 = .ok (.iconst 1, 1) := by decide +kernel
theorem d9_cliff_69 : decode c9_cliff 69 = .ok (.iadd, 1) := by decide +kernel
theorem d9_cliff_70 : decode c9_cliff 70 = .ok (.putfield 87, 3) := by decide +kernel
theorem d9_cliff_73 : decode c9_cliff 73 = .ok (.aload_n 0, 1) := by decide +kernel
theorem d9_cliff_74 : decode c9_cliff 74 = .ok (.aload_n 0, 1) := by decide +kernel
theorem d9_cliff_75 : decode c9_cliff 75 = .ok (.getfield 87, 3) := by decide +kernel
theorem d9_cliff_78 : decode c9_cliff 78 = .ok (.iconst 1, 1) := by decide +kernel
theorem d9_cliff_79 : decode c9_cliff 79 = .ok (.isub, 1) := by decide +kernel
theorem d9_cliff_80 : decode c9_cliff 80 = .ok (.aload_n 1, 1) := by decide +kernel
theorem d9_cliff_81 : decode c9_cliff 81 = .ok (.invokevirtual 100, 3) := by decide +kernel
theorem d9_cliff_84 : decode c9_cliff 84 = .ok (.aload_n 0, 1) := by decide +kernel
theorem d9_cliff_85 : decode c9_cliff 85 = .ok (.getfield 87, 3) := by decide +kernel
theorem d9_cliff_88 : decode c9_cliff 88 = .ok (.iconst 1, 1) := by decide +kernel
theorem d9_cliff_89 : decode c9_cliff 89 = .ok (.isub, 1) := by decide +kernel
theorem d9_cliff_90 : decode c9_cliff 90 = .ok (.ireturn, 1) := by decide +kernel
set_option maxHeartbeats 4000000 in
set_option maxRecDepth 100000 in
theorem k9_cliffs (l : Launch) (E : En) (xo : Nat) (xa : Nat → Nat) (X : Nat → Int) (U : Nat → Int) (ck : Nat → Option Nat) (tb : Int → Int) (Ut : Int → Int) (hx3 : 0 ≤ X 3 ∧ X 3 < 4) (hx1 : 0 ≤ X 1 ∧ X 1 ≤ 100) (htb : ∀ j, 0 ≤ j → j < 100 → tb j = Ut j % 256 ∧ -128 ≤ Ut j ∧ Ut j ≤ 127) (htx : (txF Ut (X 1) 12 0).1 = 1) (hu2 : 0 ≤ U 2 ∧ U 2 ≤ 40) : Cm l E y9_cliff c9_cliff 3 (some .int) { frames := 19, cells := 5, slots := 67, locals := 439 } [.ref xo] [(xo, xO xa X), (xa 6, o5 (some (xa 20)) (some (xa 21)) (some (xa 22)) (some (xa 23)) U), (xa 2, aRef E 3 4 ck), (xa 0, aInt E 100 tb)] (fun r ws => ∃ (ca : Nat), ∃ (pa : Nat), ∃ (da : Nat), ∃ (sa : Nat), ∃ (C1 : Nat → Int), ∃ (P1 : Int → Int), ∃ (dr1 : Int → Int), ∃ (sr1 : Int → Int), r = some (.int (iZ (X 3))) ∧ ws = [(xo, xO xa (upS (upS X 1 0) 3 (X 3 + 1))), (xa 6, o5 (some (xa 20)) (some (xa 21)) (some (xa 22)) (some (xa 23)) (upS (upS U 3 (X 3)) 2 (min (U 2) (C1 7)))), (xa 2, aRef E 3 4 (va_up ck (X 3).toNat (some ca))), (xa 0, aInt E 100 tb), (ca, o1 (some pa) (some da) (some sa) C1), (pa, aInt E 5 P1), (da, aInt E 24 dr1), (sa, aInt E 24 sr1)] ∧ ((1 ≤ (txF Ut (X 1) 12 0).2 ∧ (txF Ut (X 1) 12 0).2 ≤ 12) ∧ C1 = ((cvE (cvF (fun i => hdK Ut (X 1) (cpos Ut (X 1) i)) (fun i => clN Ut (X 1) (cpos Ut (X 1) i)) (txF Ut (X 1) 12 0).2.toNat))).1 ∧ P1 = ((cvE (cvF (fun i => hdK Ut (X 1) (cpos Ut (X 1) i)) (fun i => clN Ut (X 1) (cpos Ut (X 1) i)) (txF Ut (X 1) 12 0).2.toNat))).2 ∧ ∀ j, 0 ≤ j → j < 24 → dr1 j = swF Ut (X 1) 3 j (txF Ut (X 1) 12 0).2.toNat ∧ sr1 j = swF Ut (X 1) 7 j (txF Ut (X 1) 12 0).2.toNat)) := by
  refine Cm.of (by decide +kernel) (Nat.le_of_ble_eq_true rfl) (fun Γ A hl hargs hin G F => ?_)
  subst hl
  refine j_aload_n G 0 rfl d9_cliff_0 ?_
  refine j_get G 0 9 3 in9 fl9_87 d9_cliff_1 rfl rfl (by decide) (v := .int (iZ (X 3))) rfl rfl ?_
  refine j_iconst G d9_cliff_4 ?_
  refine j_icmp_lt (tgt := 11) G d9_cliff_5 (by decide) (by omega) (by decide) (fun h1 => ?_) (fun h1 => ?_)
  ·
    refine j_new G 1 (fs := z1) in1 tyok1 cl9_15 is1 ini1 rfl hz1 ⟨Nat.le_of_ble_eq_true rfl, Nat.le_of_ble_eq_true rfl⟩ d9_cliff_11 (fun q2 => ?_)
    refine j_dup G d9_cliff_14 rfl ?_
    refine j_IMN G (rm' := { frames := 1, cells := 3, slots := 53, locals := 12 }) (wc := [(q2, o1 none none none (fun _ => 0))]) (wr := [(xo, xO xa X), (xa 6, o5 (some (xa 20)) (some (xa 21)) (some (xa 22)) (some (xa 23)) U), (xa 2, aRef E 3 4 ck), (xa 0, aInt E 100 tb)]) (k1_init (xl Γ) E q2 ) mw1_init mn9_90 [4] [0, 1, 2, 3] rfl rfl ⟨rfl, rfl⟩ (by decide) ⟨Nat.le_of_ble_eq_true rfl, Nat.le_of_ble_eq_true rfl⟩ rfl (rest := [.ref q2]) rfl (Nat.le_of_ble_eq_true rfl) d9_cliff_15 ⟨Nat.le_of_ble_eq_true rfl, Nat.le_of_ble_eq_true rfl⟩ (fun r w1 hr => ?_)
    obtain ⟨c0_4, c1_5, c2_6, rfl, rfl, hq3⟩ := hr
    refine j_eq (ws' := [(xo, xO xa X), (xa 6, o5 (some (xa 20)) (some (xa 21)) (some (xa 22)) (some (xa 23)) U), (xa 2, aRef E 3 4 ck), (xa 0, aInt E 100 tb), (q2, o1 (some c0_4) (some c1_5) (some c2_6) (upS (upS (upS (upS (upS (fun _ => 0) 3 10) 4 999) 5 20) 6 4) 7 20)), (c0_4, aInt E 5 (fun _ => 0)), (c1_5, aInt E 24 (fun _ => 0)), (c2_6, aInt E 24 (fun _ => 0))]) rfl rfl rfl ?_
    refine j_astore_n G d9_cliff_18 (by decide) rfl ?_
    refine j_new G 0 (fs := z0) in0 tyok0 cl9_91 is0 ini0 rfl hz0 ⟨Nat.le_of_ble_eq_true rfl, Nat.le_of_ble_eq_true rfl⟩ d9_cliff_19 (fun q7 => ?_)
    refine j_dup G d9_cliff_22 rfl ?_
    refine j_aload_n G 1 rfl d9_cliff_23 ?_
    refine j_get G 0 9 0 in9 fl9_11 d9_cliff_24 rfl rfl (by decide) (v := .ref (xa 0)) rfl rfl ?_
    refine j_aload_n G 1 rfl d9_cliff_27 ?_
    refine j_get G 0 9 1 in9 fl9_83 d9_cliff_28 rfl rfl (by decide) (v := .int (iZ (X 1))) rfl rfl ?_
    refine j_IM G (rm' := { frames := 1, cells := 0, slots := 0, locals := 14 }) (wc := [(q7, o0 none (fun _ => 0)), (xa 0, aInt E 100 tb)]) (wr := [(xo, xO xa X), (xa 6, o5 (some (xa 20)) (some (xa 21)) (some (xa 22)) (some (xa 23)) U), (xa 2, aRef E 3 4 ck), (q2, o1 (some c0_4) (some c1_5) (some c2_6) (upS (upS (upS (upS (upS (fun _ => 0) 3 10) 4 999) 5 20) 6 4) 7 20)), (c0_4, aInt E 5 (fun _ => 0)), (c1_5, aInt E 24 (fun _ => 0)), (c2_6, aInt E 24 (fun _ => 0))]) (k0_init (xl Γ) E q7 (xa 0) tb (X 1) (by first | assumption | omega | (simp only [upS, reduceIte, Nat.reduceEqDiff, eq_self, List.length_cons, List.length_nil, List.length_append] <;> omega))) mw0_init ml9_93 [8, 3] [0, 1, 2, 4, 5, 6, 7] rfl rfl ⟨rfl, rfl⟩ (by decide) ⟨Nat.le_of_ble_eq_true rfl, Nat.le_of_ble_eq_true rfl⟩ rfl (rest := [.ref q7]) rfl (Nat.le_of_ble_eq_true rfl) d9_cliff_31 ⟨Nat.le_of_ble_eq_true rfl, Nat.le_of_ble_eq_true rfl⟩ (fun r w1 hr => ?_)
    obtain ⟨rfl, rfl, hq8⟩ := hr
    refine j_eq (ws' := [(xo, xO xa X), (xa 6, o5 (some (xa 20)) (some (xa 21)) (some (xa 22)) (some (xa 23)) U), (xa 2, aRef E 3 4 ck), (q2, o1 (some c0_4) (some c1_5) (some c2_6) (upS (upS (upS (upS (upS (fun _ => 0) 3 10) 4 999) 5 20) 6 4) 7 20)), (c0_4, aInt E 5 (fun _ => 0)), (c1_5, aInt E 24 (fun _ => 0)), (c2_6, aInt E 24 (fun _ => 0)), (q7, o0 (some (xa 0)) (upS (upS (fun _ => 0) 3 (-1)) 1 (X 1))), (xa 0, aInt E 100 tb)]) rfl rfl rfl ?_
    refine j_aload_n G 0 rfl d9_cliff_34 ?_
    refine j_VM G (rm' := { frames := 18, cells := 0, slots := 0, locals := 417 }) (wc := [(q7, o0 (some (xa 0)) (upS (upS (fun _ => 0) 3 (-1)) 1 (X 1))), (xa 0, aInt E 100 tb), (q2, o1 (some c0_4) (some c1_5) (some c2_6) (upS (upS (upS (upS (upS (fun _ => 0) 3 10) 4 999) 5 20) 6 4) 7 20)), (c0_4, aInt E 5 (fun _ => 0)), (c1_5, aInt E 24 (fun _ => 0)), (c2_6, aInt E 24 (fun _ => 0))]) (wr := [(xo, xO xa X), (xa 6, o5 (some (xa 20)) (some (xa 21)) (some (xa 22)) (some (xa 23)) U), (xa 2, aRef E 3 4 ck)]) (k0_clausesOf (xl Γ) E q7 (xa 0) (upS (upS (fun _ => 0) 3 (-1)) 1 (X 1)) tb Ut q2 c0_4 c1_5 c2_6 (upS (upS (upS (upS (upS (fun _ => 0) 3 10) 4 999) 5 20) 6 4) 7 20) (fun _ => 0) (fun _ => 0) (fun _ => 0) (by first | assumption | omega | (simp only [upS, reduceIte, Nat.reduceEqDiff, eq_self, List.length_cons, List.length_nil, List.length_append] <;> omega)) (by first | assumption | omega | (simp only [upS, reduceIte, Nat.reduceEqDiff, eq_self, List.length_cons, List.length_nil, List.length_append] <;> omega)) (by first | assumption | omega | (simp only [upS, reduceIte, Nat.reduceEqDiff, eq_self, List.length_cons, List.length_nil, List.length_append] <;> omega)) (by first | assumption | omega | (simp only [upS, reduceIte, Nat.reduceEqDiff, eq_self, List.length_cons, List.length_nil, List.length_append] <;> omega)) rfl rfl ⟨(by funext k; simp only [upS, cv0]; (repeat' split) <;> first | rfl | omega), rfl⟩ (fun _ _ _ => rfl) (fun _ _ _ => rfl)) mw0_clausesOf ml9_96 [7, 8, 3, 4, 5, 6] [0, 1, 2] rfl rfl ⟨rfl, rfl⟩ (by decide) 7 0 rfl rfl rfl ⟨Nat.le_of_ble_eq_true rfl, Nat.le_of_ble_eq_true rfl⟩ rfl (rest := []) rfl (Nat.le_of_ble_eq_true rfl) d9_cliff_35 ⟨Nat.le_of_ble_eq_true rfl, Nat.le_of_ble_eq_true rfl⟩ (fun r w1 hr => ?_)
    obtain ⟨v10, at1_11, ft1_12, C1_13, P1_14, dr1_15, sr1_16, rfl, rfl, hq9⟩ := hr
    refine j_eq (ws' := [(xo, xO xa X), (xa 6, o5 (some (xa 20)) (some (xa 21)) (some (xa 22)) (some (xa 23)) U), (xa 2, aRef E 3 4 ck), (q7, o0 (some (xa 0)) (upS (upS (upS (fun _ => 0) 1 (X 1)) 2 at1_11) 3 ft1_12)), (xa 0, aInt E 100 tb), (q2, o1 (some c0_4) (some c1_5) (some c2_6) C1_13), (c0_4, aInt E 5 P1_14), (c1_5, aInt E 24 dr1_15), (c2_6, aInt E 24 sr1_16)]) rfl rfl rfl ?_
    try simp only [upS, reduceIte, Nat.reduceEqDiff, eq_self] at hq9
    have hv1 := hq9
    have hv0 : v10 < 0 := by rcases hv1 with ⟨q1, q2, q3⟩ | ⟨q1, q2⟩; (exfalso; rw [q3] at htx; exact absurd htx (show ¬ (0 : Int) = 1 by decide)); omega
    obtain ⟨hz1, hz2, hz3, hz4, hz5, hz6⟩ := hv1.resolve_left (fun q => by have := q.1; omega)
    have hwx := wfC_e (wfX_cv (cw := fun i => hdK Ut (X 1) (cpos Ut (X 1) i)) (cn := fun i => clN Ut (X 1) (cpos Ut (X 1) i)) (txF Ut (X 1) 12 0).2.toNat (fun i _ => clN_r))
    have hc7 := hwx.2.2.2.2.2.2.2
    rw [← hz4] at hc7
    refine j_istore_n G d9_cliff_38 (by decide) rfl ?_
    refine j_aload_n G 2 rfl d9_cliff_39 ?_
    refine j_iconst G d9_cliff_40 ?_
    refine j_put G 0 9 1 in9 tyok9 nm9 fl9_83 d9_cliff_41 rfl rfl (by decide) ⟨rfl, rfl⟩ rfl rfl (Nat.le_of_ble_eq_true rfl) (e := xO xa (upS X 1 0)) rfl ?_
    refine j_iload_n G 0 rfl d9_cliff_44 ?_
    refine j_if_lt (tgt := 53) G d9_cliff_45 (by decide) (by omega) (fun h17 => ?_) (fun h17 => ?_)
    ·
      refine j_aload_n G 2 rfl d9_cliff_53 ?_
      refine j_get G 0 9 2 in9 fl9_17 d9_cliff_54 rfl rfl (by decide) (v := .ref (xa 2)) rfl rfl ?_
      refine j_aload_n G 2 rfl d9_cliff_57 ?_
      refine j_get G 0 9 3 in9 fl9_87 d9_cliff_58 rfl rfl (by decide) (v := .int (iZ (X 3))) rfl rfl ?_
      refine j_aload_n G 1 rfl d9_cliff_61 ?_
      refine j_aast G 2 3 5 1 rfl rfl rfl rfl (by omega) d9_cliff_62 ?_
      refine j_aload_n G 2 rfl d9_cliff_63 ?_
      refine j_dup G d9_cliff_64 rfl ?_
      refine j_get G 0 9 3 in9 fl9_87 d9_cliff_65 rfl rfl (by decide) (v := .int (iZ (X 3))) rfl rfl ?_
      refine j_iconst G d9_cliff_68 ?_
      refine j_iadd G d9_cliff_69 ?_
      refine j_put G 0 9 3 in9 tyok9 nm9 fl9_87 d9_cliff_70 rfl rfl (by decide) ⟨rfl, rfl⟩ rfl rfl (Nat.le_of_ble_eq_true rfl) (e := xO xa (upS (upS X 1 0) 3 ((X 3) + 1))) rfl ?_
      refine j_aload_n G 2 rfl d9_cliff_73 ?_
      refine j_aload_n G 2 rfl d9_cliff_74 ?_
      refine j_get G 0 9 3 in9 fl9_87 d9_cliff_75 rfl rfl (by decide) (v := .int (iZ ((X 3) + 1))) rfl rfl ?_
      refine j_iconst G d9_cliff_78 ?_
      refine j_isub G d9_cliff_79 ?_
      refine j_top (y := iZ (X 3)) (by congr 1; omega) ?_
      refine j_aload_n G 1 rfl d9_cliff_80 ?_
      refine j_VM G (rm' := { frames := 1, cells := 0, slots := 0, locals := 14 }) (wc := [(xo, xO xa (upS (upS X 1 0) 3 ((X 3) + 1))), (xa 6, o5 (some (xa 20)) (some (xa 21)) (some (xa 22)) (some (xa 23)) U), (q2, o1 (some c0_4) (some c1_5) (some c2_6) C1_13)]) (wr := [(xa 2, aRef E 3 4 (va_up ck (X 3).toNat (some q2))), (q7, o0 (some (xa 0)) (upS (upS (upS (fun _ => 0) 1 (X 1)) 2 at1_11) 3 ft1_12)), (xa 0, aInt E 100 tb), (c0_4, aInt E 5 P1_14), (c1_5, aInt E 24 dr1_15), (c2_6, aInt E 24 sr1_16)]) (k9_moveTo (xl Γ) E xo xa (upS (upS X 1 0) 3 ((X 3) + 1)) U q2 c0_4 c1_5 c2_6 C1_13 (X 3) (by first | assumption | omega | (simp only [upS, reduceIte, Nat.reduceEqDiff, eq_self, List.length_cons, List.length_nil, List.length_append] <;> omega)) (by first | assumption | omega | (simp only [upS, reduceIte, Nat.reduceEqDiff, eq_self, List.length_cons, List.length_nil, List.length_append] <;> omega))) mw9_moveTo ml9_100 [0, 1, 5] [2, 3, 4, 6, 7, 8] rfl rfl ⟨rfl, rfl⟩ (by decide) 0 9 rfl rfl rfl ⟨Nat.le_of_ble_eq_true rfl, Nat.le_of_ble_eq_true rfl⟩ rfl (rest := []) rfl (Nat.le_of_ble_eq_true rfl) d9_cliff_81 ⟨Nat.le_of_ble_eq_true rfl, Nat.le_of_ble_eq_true rfl⟩ (fun r w1 hr => ?_)
      obtain ⟨rfl, rfl, hq18⟩ := hr
      refine j_eq (ws' := [(xa 2, aRef E 3 4 (va_up ck (X 3).toNat (some q2))), (q7, o0 (some (xa 0)) (upS (upS (upS (fun _ => 0) 1 (X 1)) 2 at1_11) 3 ft1_12)), (xa 0, aInt E 100 tb), (c0_4, aInt E 5 P1_14), (c1_5, aInt E 24 dr1_15), (c2_6, aInt E 24 sr1_16), (xo, xO xa (upS (upS X 1 0) 3 ((X 3) + 1))), (xa 6, o5 (some (xa 20)) (some (xa 21)) (some (xa 22)) (some (xa 23)) (upS (upS U 3 (X 3)) 2 (min ((U 2)) ((C1_13 7))))), (q2, o1 (some c0_4) (some c1_5) (some c2_6) C1_13)]) rfl rfl rfl ?_
      try simp only [upS, reduceIte, Nat.reduceEqDiff, eq_self] at hq18
      refine j_aload_n G 2 rfl d9_cliff_84 ?_
      refine j_get G 6 9 3 in9 fl9_87 d9_cliff_85 rfl rfl (by decide) (v := .int (iZ ((X 3) + 1))) rfl rfl ?_
      refine j_iconst G d9_cliff_88 ?_
      refine j_isub G d9_cliff_89 ?_
      refine j_top (y := iZ (X 3)) (by congr 1; omega) ?_
      refine j_perm (ws' := [(xo, xO xa (upS (upS X 1 0) 3 ((X 3) + 1))), (xa 6, o5 (some (xa 20)) (some (xa 21)) (some (xa 22)) (some (xa 23)) (upS (upS U 3 (X 3)) 2 (min ((U 2)) ((C1_13 7))))), (xa 2, aRef E 3 4 (va_up ck (X 3).toNat (some q2))), (xa 0, aInt E 100 tb), (q2, o1 (some c0_4) (some c1_5) (some c2_6) C1_13), (c0_4, aInt E 5 P1_14), (c1_5, aInt E 24 dr1_15), (c2_6, aInt E 24 sr1_16)]) [6, 7, 0, 2, 8, 3, 4, 5] rfl rfl rfl ?_
      refine j_widen (k' := 5) (n' := 67) ⟨Nat.le_of_ble_eq_true rfl, Nat.le_of_ble_eq_true rfl⟩ ?_
      exact j_iret G F d9_cliff_90 ⟨q2, c0_4, c1_5, c2_6, C1_13, P1_14, dr1_15, sr1_16, rfl, rfl, (by exact ⟨hz3, hz4, hz5, hz6⟩)⟩
    ·
      omega
  ·
    omega
