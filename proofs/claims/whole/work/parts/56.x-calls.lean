theorem d9_theCliff_0 : decode c9_theCliff 0 = .ok (.aload_n 0, 1) := by decide +kernel
theorem d9_theCliff_1 : decode c9_theCliff 1 = .ok (.getfield 30, 3) := by decide +kernel
theorem d9_theCliff_4 : decode c9_theCliff 4 = .ok (.getfield 104, 3) := by decide +kernel
theorem d9_theCliff_7 : decode c9_theCliff 7 = .ok (.istore_n 1, 1) := by decide +kernel
theorem d9_theCliff_8 : decode c9_theCliff 8 = .ok (.iload_n 1, 1) := by decide +kernel
theorem d9_theCliff_9 : decode c9_theCliff 9 = .ok (.ifCond .lt 11, 3) := by decide +kernel
theorem d9_theCliff_20 : decode c9_theCliff 20 = .ok (.aconst_null, 1) := by decide +kernel
theorem d9_theCliff_21 : decode c9_theCliff 21 = .ok (.goto 9, 3) := by decide +kernel
theorem d9_theCliff_30 : decode c9_theCliff 30 = .ok (.areturn, 1) := by decide +kernel
theorem mw9_theCliff : MV y9_theCliff c9_theCliff 2 (some (.object "CliffCars$Cliff")) 0 := ⟨cd9_theCliff, ini9, na9_theCliff, im9_theCliff, se9_theCliff⟩
set_option maxHeartbeats 4000000 in
set_option maxRecDepth 100000 in
theorem k9_theCliffn (l : Launch) (E : En) (xo : Nat) (xa : Nat → Nat) (X : Nat → Int) (U : Nat → Int) (hu3 : U 3 < 0) (hu4 : -100 ≤ U 3) : Cp l E y9_theCliff c9_theCliff 2 (some (.object "CliffCars$Cliff")) 0 0 [.ref xo] [(xo, xO xa X), (xa 6, o5 (some (xa 20)) (some (xa 21)) (some (xa 22)) (some (xa 23)) U)] (fun r => r = some (.null) ∧ True) := by
  refine Cp.of (by decide +kernel) (Nat.le_of_ble_eq_true rfl) (fun Γ hl hargs G F => ?_)
  subst hl
  refine j_aload_n G 0 rfl d9_theCliff_0 ?_
  refine j_get G 0 9 6 in9 fl9_30 d9_theCliff_1 rfl rfl (by decide) (v := .ref (xa 6)) rfl rfl ?_
  refine j_get G 1 5 3 in5 fl9_104 d9_theCliff_4 rfl rfl (by decide) (v := .int (iZ (U 3))) rfl rfl ?_
  refine j_istore_n G d9_theCliff_7 (by decide) rfl ?_
  refine j_iload_n G 0 rfl d9_theCliff_8 ?_
  refine j_if_lt (tgt := 20) G d9_theCliff_9 (by decide) (by omega) (fun h1 => ?_) (fun h1 => ?_)
  ·
    refine j_null G d9_theCliff_20 ?_
    refine j_goto (tgt := 30) G d9_theCliff_21 (by decide) ?_
    exact j_aret G F (Or.inl ⟨_, rfl⟩) (Or.inl rfl) d9_theCliff_30 ⟨rfl, trivial⟩
  ·
    omega
theorem d9_theCliff_12 : decode c9_theCliff 12 = .ok (.iload_n 1, 1) := by decide +kernel
theorem d9_theCliff_13 : decode c9_theCliff 13 = .ok (.aload_n 0, 1) := by decide +kernel
theorem d9_theCliff_14 : decode c9_theCliff 14 = .ok (.getfield 87, 3) := by decide +kernel
theorem d9_theCliff_17 : decode c9_theCliff 17 = .ok (.if_icmp .lt 7, 3) := by decide +kernel
theorem d9_theCliff_24 : decode c9_theCliff 24 = .ok (.aload_n 0, 1) := by decide +kernel
theorem d9_theCliff_25 : decode c9_theCliff 25 = .ok (.getfield 17, 3) := by decide +kernel
theorem d9_theCliff_28 : decode c9_theCliff 28 = .ok (.iload_n 1, 1) := by decide +kernel
theorem d9_theCliff_29 : decode c9_theCliff 29 = .ok (.aaload, 1) := by decide +kernel
set_option maxHeartbeats 4000000 in
set_option maxRecDepth 100000 in
theorem k9_theCliffc (l : Launch) (E : En) (xo : Nat) (xa : Nat → Nat) (X : Nat → Int) (U : Nat → Int) (ck : Nat → Option Nat) (ca : Nat) (hu3 : 0 ≤ U 3 ∧ U 3 < X 3 ∧ X 3 ≤ 4) (hck : ck (U 3).toNat = some ca) : Cp l E y9_theCliff c9_theCliff 2 (some (.object "CliffCars$Cliff")) 0 0 [.ref xo] [(xo, xO xa X), (xa 6, o5 (some (xa 20)) (some (xa 21)) (some (xa 22)) (some (xa 23)) U), (xa 2, aRef E 3 4 ck)] (fun r => r = some (.ref ca) ∧ True) := by
  refine Cp.of (by decide +kernel) (Nat.le_of_ble_eq_true rfl) (fun Γ hl hargs G F => ?_)
  subst hl
  refine j_aload_n G 0 rfl d9_theCliff_0 ?_
  refine j_get G 0 9 6 in9 fl9_30 d9_theCliff_1 rfl rfl (by decide) (v := .ref (xa 6)) rfl rfl ?_
  refine j_get G 1 5 3 in5 fl9_104 d9_theCliff_4 rfl rfl (by decide) (v := .int (iZ (U 3))) rfl rfl ?_
  refine j_istore_n G d9_theCliff_7 (by decide) rfl ?_
  refine j_iload_n G 0 rfl d9_theCliff_8 ?_
  refine j_if_lt (tgt := 20) G d9_theCliff_9 (by decide) (by omega) (fun h1 => ?_) (fun h1 => ?_)
  ·
    exact absurd h1 (by omega)
  ·
    refine j_iload_n G 0 rfl d9_theCliff_12 ?_
    refine j_aload_n G 1 rfl d9_theCliff_13 ?_
    refine j_get G 0 9 3 in9 fl9_87 d9_theCliff_14 rfl rfl (by decide) (v := .int (iZ (X 3))) rfl rfl ?_
    refine j_icmp_lt (tgt := 24) G d9_theCliff_17 (by decide) (by omega) (by omega) (fun h2 => ?_) (fun h2 => ?_)
    ·
      refine j_aload_n G 1 rfl d9_theCliff_24 ?_
      refine j_get G 0 9 2 in9 fl9_17 d9_theCliff_25 rfl rfl (by decide) (v := .ref (xa 2)) rfl rfl ?_
      refine j_iload_n G 0 rfl d9_theCliff_28 ?_
      refine j_aald G 2 3 rfl rfl (by omega) d9_theCliff_29 (v := .ref ca) (by rw [hck]; rfl) ?_
      exact j_aret G F (Or.inl ⟨_, rfl⟩) (Or.inr ⟨_, rfl⟩) d9_theCliff_30 ⟨rfl, trivial⟩
    ·
      omega
theorem d9_ruleAt_0 : decode c9_ruleAt 0 = .ok (.iload_n 1, 1) := by decide +kernel
theorem d9_ruleAt_1 : decode c9_ruleAt 1 = .ok (.ifCond .lt 11, 3) := by decide +kernel
theorem d9_ruleAt_4 : decode c9_ruleAt 4 = .ok (.iload_n 1, 1) := by decide +kernel
theorem d9_ruleAt_5 : decode c9_ruleAt 5 = .ok (.aload_n 0, 1) := by decide +kernel
theorem d9_ruleAt_6 : decode c9_ruleAt 6 = .ok (.getfield 181, 3) := by decide +kernel
theorem d9_ruleAt_9 : decode c9_ruleAt 9 = .ok (.if_icmp .lt 7, 3) := by decide +kernel
theorem d9_ruleAt_12 : decode c9_ruleAt 12 = .ok (.aconst_null, 1) := by decide +kernel
theorem d9_ruleAt_13 : decode c9_ruleAt 13 = .ok (.goto 9, 3) := by decide +kernel
theorem d9_ruleAt_22 : decode c9_ruleAt 22 = .ok (.areturn, 1) := by decide +kernel
theorem mw9_ruleAt : MV y9_ruleAt c9_ruleAt 2 (some (.object "CliffCars$Rule")) 1 := ⟨cd9_ruleAt, ini9, na9_ruleAt, im9_ruleAt, se9_ruleAt⟩
set_option maxHeartbeats 4000000 in
set_option maxRecDepth 100000 in
theorem k9_ruleAtn (l : Launch) (E : En) (xo : Nat) (xa : Nat → Nat) (X : Nat → Int) (q : Int) (r_q : R32 q) (hrq : ¬ (0 ≤ q ∧ q < X 5)) (hx5 : 0 ≤ X 5 ∧ X 5 ≤ 12) : Cp l E y9_ruleAt c9_ruleAt 2 (some (.object "CliffCars$Rule")) 0 0 [.ref xo, .int (iZ q)] [(xo, xO xa X)] (fun r => r = some (.null) ∧ True) := by
  refine Cp.of (by decide +kernel) (Nat.le_of_ble_eq_true rfl) (fun Γ hl hargs G F => ?_)
  subst hl
  refine j_iload_n G 1 rfl d9_ruleAt_0 ?_
  refine j_if_lt (tgt := 12) G d9_ruleAt_1 (by decide) (by omega) (fun h1 => ?_) (fun h1 => ?_)
  ·
    refine j_null G d9_ruleAt_12 ?_
    refine j_goto (tgt := 22) G d9_ruleAt_13 (by decide) ?_
    exact j_aret G F (Or.inl ⟨_, rfl⟩) (Or.inl rfl) d9_ruleAt_22 ⟨rfl, trivial⟩
  ·
    refine j_iload_n G 1 rfl d9_ruleAt_4 ?_
    refine j_aload_n G 0 rfl d9_ruleAt_5 ?_
    refine j_get G 0 9 5 in9 fl9_181 d9_ruleAt_6 rfl rfl (by decide) (v := .int (iZ (X 5))) rfl rfl ?_
    refine j_icmp_lt (tgt := 16) G d9_ruleAt_9 (by decide) (by omega) (by omega) (fun h2 => ?_) (fun h2 => ?_)
    ·
      exact absurd h2 (by omega)
    ·
      refine j_null G d9_ruleAt_12 ?_
      refine j_goto (tgt := 22) G d9_ruleAt_13 (by decide) ?_
      exact j_aret G F (Or.inl ⟨_, rfl⟩) (Or.inl rfl) d9_ruleAt_22 ⟨rfl, trivial⟩
theorem d9_ruleAt_16 : decode c9_ruleAt 16 = .ok (.aload_n 0, 1) := by decide +kernel
theorem d9_ruleAt_17 : decode c9_ruleAt 17 = .ok (.getfield 23, 3) := by decide +kernel
theorem d9_ruleAt_20 : decode c9_ruleAt 20 = .ok (.iload_n 1, 1) := by decide +kernel
theorem d9_ruleAt_21 : decode c9_ruleAt 21 = .ok (.aaload, 1) := by decide +kernel
set_option maxHeartbeats 4000000 in
set_option maxRecDepth 100000 in
theorem k9_ruleAtc (l : Launch) (E : En) (xo : Nat) (xa : Nat → Nat) (X : Nat → Int) (rk : Nat → Option Nat) (ra : Nat) (q : Int) (r_q : R32 q) (hrq : 0 ≤ q ∧ q < X 5 ∧ X 5 ≤ 12) (hrk : rk q.toNat = some ra) : Cp l E y9_ruleAt c9_ruleAt 2 (some (.object "CliffCars$Rule")) 0 0 [.ref xo, .int (iZ q)] [(xo, xO xa X), (xa 4, aRef E 4 12 rk)] (fun r => r = some (.ref ra) ∧ True) := by
  refine Cp.of (by decide +kernel) (Nat.le_of_ble_eq_true rfl) (fun Γ hl hargs G F => ?_)
  subst hl
  refine j_iload_n G 1 rfl d9_ruleAt_0 ?_
  refine j_if_lt (tgt := 12) G d9_ruleAt_1 (by decide) (by omega) (fun h1 => ?_) (fun h1 => ?_)
  ·
    exact absurd h1 (by omega)
  ·
    refine j_iload_n G 1 rfl d9_ruleAt_4 ?_
    refine j_aload_n G 0 rfl d9_ruleAt_5 ?_
    refine j_get G 0 9 5 in9 fl9_181 d9_ruleAt_6 rfl rfl (by decide) (v := .int (iZ (X 5))) rfl rfl ?_
    refine j_icmp_lt (tgt := 16) G d9_ruleAt_9 (by decide) (by omega) (by omega) (fun h2 => ?_) (fun h2 => ?_)
    ·
      refine j_aload_n G 0 rfl d9_ruleAt_16 ?_
      refine j_get G 0 9 4 in9 fl9_23 d9_ruleAt_17 rfl rfl (by decide) (v := .ref (xa 4)) rfl rfl ?_
      refine j_iload_n G 1 rfl d9_ruleAt_20 ?_
      refine j_aald G 1 4 rfl rfl (by omega) d9_ruleAt_21 (v := .ref ra) (by rw [hrk]; rfl) ?_
      exact j_aret G F (Or.inl ⟨_, rfl⟩) (Or.inr ⟨_, rfl⟩) d9_ruleAt_22 ⟨rfl, trivial⟩
    ·
      omega
theorem d9_of_0 : decode c9_of 0 = .ok (.aload_n 0, 1) := by decide +kernel
theorem d9_of_1 : decode c9_of 1 = .ok (.invokevirtual 107, 3) := by decide +kernel
theorem d9_of_4 : decode c9_of 4 = .ok (.astore_n 2, 1) := by decide +kernel
theorem d9_of_5 : decode c9_of 5 = .ok (.aload_n 2, 1) := by decide +kernel
theorem d9_of_6 : decode c9_of 6 = .ok (.ifnonnull 5, 3) := by decide +kernel
theorem d9_of_9 : decode c9_of 9 = .ok (.iconst (-1), 1) := by decide +kernel
theorem d9_of_10 : decode c9_of 10 = .ok (.ireturn, 1) := by decide +kernel
theorem mw9_of : MV y9_of c9_of 3 (some .int) 1 := ⟨cd9_of, ini9, na9_of, im9_of, se9_of⟩
set_option maxHeartbeats 4000000 in
set_option maxRecDepth 100000 in
theorem k9_ofn (l : Launch) (E : En) (xo : Nat) (xa : Nat → Nat) (X : Nat → Int) (U : Nat → Int) (a : Int) (r_a : R32 a) (hu3 : U 3 < 0) (hu4 : -100 ≤ U 3) : Cp l E y9_of c9_of 3 (some .int) 1 21 [.ref xo, .int (iZ a)] [(xo, xO xa X), (xa 6, o5 (some (xa 20)) (some (xa 21)) (some (xa 22)) (some (xa 23)) U)] (fun r => ∃ (v : Int), r = some (.int (iZ v)) ∧ (v = -1)) := by
  refine Cp.of (by decide +kernel) (Nat.le_of_ble_eq_true rfl) (fun Γ hl hargs G F => ?_)
  subst hl
  refine j_aload_n G 0 rfl d9_of_0 ?_
  refine j_VP G (k9_theCliffn (xl Γ) E xo xa X U (by first | assumption | omega | (simp only [upS, reduceIte, Nat.reduceEqDiff, eq_self, List.length_cons, List.length_nil, List.length_append] <;> omega)) (by first | assumption | omega | (simp only [upS, reduceIte, Nat.reduceEqDiff, eq_self, List.length_cons, List.length_nil, List.length_append] <;> omega))) mw9_theCliff ml9_107 [0, 1] rfl 0 9 rfl rfl rfl ⟨Nat.le_of_ble_eq_true rfl, Nat.le_of_ble_eq_true rfl⟩ rfl (rest := []) rfl (Nat.le_of_ble_eq_true rfl) d9_of_1 ⟨Nat.le_of_ble_eq_true rfl, Nat.le_of_ble_eq_true rfl⟩ (fun r hr => ?_)
  obtain ⟨rfl, hq1⟩ := hr
  refine j_astore_nN G d9_of_4 (by decide) rfl ?_
  refine j_aload_nN G 0 rfl d9_of_5 ?_
  refine j_ifnonnullN G d9_of_6 ?_
  refine j_iconst G d9_of_9 ?_
  exact j_iret G F d9_of_10 ⟨(-1), rfl, (by first | rfl | omega)⟩
theorem d9_of_11 : decode c9_of 11 = .ok (.iload_n 1, 1) := by decide +kernel
theorem d9_of_12 : decode c9_of 12 = .ok (.bipush 10, 2) := by decide +kernel
theorem d9_of_14 : decode c9_of 14 = .ok (.if_icmp .lt 24, 3) := by decide +kernel
theorem d9_of_17 : decode c9_of 17 = .ok (.iload_n 1, 1) := by decide +kernel
theorem d9_of_18 : decode c9_of 18 = .ok (.bipush 10, 2) := by decide +kernel
theorem d9_of_20 : decode c9_of 20 = .ok (.aload_n 2, 1) := by decide +kernel
theorem d9_of_21 : decode c9_of 21 = .ok (.getfield 111, 3) := by decide +kernel
theorem d9_of_24 : decode c9_of 24 = .ok (.iadd, 1) := by decide +kernel
theorem d9_of_25 : decode c9_of 25 = .ok (.if_icmp .ge 13, 3) := by decide +kernel
theorem d9_of_28 : decode c9_of 28 = .ok (.aload_n 2, 1) := by decide +kernel
theorem d9_of_29 : decode c9_of 29 = .ok (.getfield 114, 3) := by decide +kernel
theorem d9_of_32 : decode c9_of 32 = .ok (.iload_n 1, 1) := by decide +kernel
theorem d9_of_33 : decode c9_of 33 = .ok (.bipush 10, 2) := by decide +kernel
theorem d9_of_35 : decode c9_of 35 = .ok (.isub, 1) := by decide +kernel
theorem d9_of_36 : decode c9_of 36 = .ok (.iaload, 1) := by decide +kernel
theorem d9_of_37 : decode c9_of 37 = .ok (.ireturn, 1) := by decide +kernel
theorem d9_of_38 : decode c9_of 38 = .ok (.iload_n 1, 1) := by decide +kernel
theorem d9_of_39 : decode c9_of 39 = .ok (.tableswitch 76 0 6 #[41, 46, 51, 56, 61, 66, 71], 41) := by decide +kernel
theorem d9_of_80 : decode c9_of 80 = .ok (.aload_n 2, 1) := by decide +kernel
theorem d9_of_81 : decode c9_of 81 = .ok (.getfield 111, 3) := by decide +kernel
theorem d9_of_84 : decode c9_of 84 = .ok (.ireturn, 1) := by decide +kernel
theorem d9_of_85 : decode c9_of 85 = .ok (.aload_n 2, 1) := by decide +kernel
theorem d9_of_86 : decode c9_of 86 = .ok (.getfield 117, 3) := by decide +kernel
theorem d9_of_89 : decode c9_of 89 = .ok (.ireturn, 1) := by decide +kernel
theorem d9_of_90 : decode c9_of 90 = .ok (.aload_n 2, 1) := by decide +kernel
theorem d9_of_91 : decode c9_of 91 = .ok (.getfield 120, 3) := by decide +kernel
theorem d9_of_94 : decode c9_of 94 = .ok (.ireturn, 1) := by decide +kernel
theorem d9_of_95 : decode c9_of 95 = .ok (.aload_n 2, 1) := by decide +kernel
theorem d9_of_96 : decode c9_of 96 = .ok (.getfield 123, 3) := by decide +kernel
theorem d9_of_99 : decode c9_of 99 = .ok (.ireturn, 1) := by decide +kernel
theorem d9_of_100 : decode c9_of 100 = .ok (.aload_n 2, 1) := by decide +kernel
theorem d9_of_101 : decode c9_of 101 = .ok (.getfield 126, 3) := by decide +kernel
theorem d9_of_104 : decode c9_of 104 = .ok (.ireturn, 1) := by decide +kernel
theorem d9_of_105 : decode c9_of 105 = .ok (.aload_n 2, 1) := by decide +kernel
theorem d9_of_106 : decode c9_of 106 = .ok (.getfield 129, 3) := by decide +kernel
theorem d9_of_109 : decode c9_of 109 = .ok (.ireturn, 1) := by decide +kernel
theorem d9_of_110 : decode c9_of 110 = .ok (.aload_n 2, 1) := by decide +kernel
theorem d9_of_111 : decode c9_of 111 = .ok (.getfield 132, 3) := by decide +kernel
theorem d9_of_114 : decode c9_of 114 = .ok (.ireturn, 1) := by decide +kernel
theorem d9_of_115 : decode c9_of 115 = .ok (.iconst (-1), 1) := by decide +kernel
theorem d9_of_116 : decode c9_of 116 = .ok (.ireturn, 1) := by decide +kernel
set_option maxHeartbeats 4000000 in
set_option maxRecDepth 100000 in
theorem k9_ofc (l : Launch) (E : En) (xo : Nat) (xa : Nat → Nat) (X : Nat → Int) (U : Nat → Int) (ck : Nat → Option Nat) (ca : Nat) (pa : Nat) (da : Nat) (sa : Nat) (C : Nat → Int) (P : Int → Int) (dr : Int → Int) (sr : Int → Int) (a : Int) (r_a : R32 a) (hu3 : 0 ≤ U 3 ∧ U 3 < X 3 ∧ X 3 ≤ 4) (hck : ck (U 3).toNat = some ca) (hwf : wfC C P) (hU1 : U 1 = 0 ∨ U 1 = 1) (hdr : ∀ j, 0 ≤ j → j < 24 → (0 ≤ dr j ∧ dr j ≤ 11988)) : Cp l E y9_of c9_of 3 (some .int) 1 21 [.ref xo, .int (iZ a)] [(xo, xO xa X), (xa 6, o5 (some (xa 20)) (some (xa 21)) (some (xa 22)) (some (xa 23)) U), (xa 2, aRef E 3 4 ck), (ca, o1 (some pa) (some da) (some sa) C), (pa, aInt E 5 P), (da, aInt E 24 dr), (sa, aInt E 24 sr)] (fun r => ∃ (v : Int), r = some (.int (iZ v)) ∧ (v = ofA C P (U 3) a)) := by
  refine Cp.of (by decide +kernel) (Nat.le_of_ble_eq_true rfl) (fun Γ hl hargs G F => ?_)
  subst hl
  have hw1 := hwf.1
  have hcr : R32 (C 1) ∧ R32 (C 2) := ⟨⟨by omega, by omega⟩, by have := hwf.2.2.1; exact ⟨by omega, by omega⟩⟩
  refine j_aload_n G 0 rfl d9_of_0 ?_
  refine j_VP G (k9_theCliffc (xl Γ) E xo xa X U ck ca (by first | assumption | omega | (simp only [upS, reduceIte, Nat.reduceEqDiff, eq_self, List.length_cons, List.length_nil, List.length_append] <;> omega)) (by first | assumption | omega | (simp only [upS, reduceIte, Nat.reduceEqDiff, eq_self, List.length_cons, List.length_nil, List.length_append] <;> omega))) mw9_theCliff ml9_107 [0, 1, 2] rfl 0 9 rfl rfl rfl ⟨Nat.le_of_ble_eq_true rfl, Nat.le_of_ble_eq_true rfl⟩ rfl (rest := []) rfl (Nat.le_of_ble_eq_true rfl) d9_of_1 ⟨Nat.le_of_ble_eq_true rfl, Nat.le_of_ble_eq_true rfl⟩ (fun r hr => ?_)
  obtain ⟨rfl, hq1⟩ := hr
  refine j_astore_n G d9_of_4 (by decide) rfl ?_
  refine j_aload_n G 0 rfl d9_of_5 ?_
  refine j_ifnonnull (tgt := 11) G d9_of_6 (by decide) ?_
  refine j_iload_n G 2 rfl d9_of_11 ?_
  refine j_bipush G d9_of_12 rfl ?_
  refine j_icmp_lt (tgt := 38) G d9_of_14 (by decide) (by omega) (by decide) (fun h2 => ?_) (fun h2 => ?_)
  ·
    refine j_iload_n G 2 rfl d9_of_38 ?_
    rcases (show a = 0 ∨ a = 1 ∨ a = 2 ∨ a = 3 ∨ a = 4 ∨ a = 5 ∨ a = 6 ∨ (a < 0 ∨ 6 < a) by omega) with h3 | h3 | h3 | h3 | h3 | h3 | h3 | h3
    ·
      refine j_tabIn (tgt := 80) G d9_of_39 (by omega) 0 h3 ⟨by decide, by decide⟩ rfl (by decide) ?_
      refine j_aload_n G 0 rfl d9_of_80 ?_
      refine j_get G 3 1 1 in1 fl9_111 d9_of_81 rfl rfl (by decide) (v := .int (iZ (C 1))) rfl rfl ?_
      exact j_iret G F d9_of_84 ⟨C 1, rfl, (by simp only [ofA] <;> (repeat' split) <;> first | rfl | omega | (exfalso; omega))⟩
    ·
      refine j_tabIn (tgt := 85) G d9_of_39 (by omega) 1 h3 ⟨by decide, by decide⟩ rfl (by decide) ?_
      refine j_aload_n G 0 rfl d9_of_85 ?_
      refine j_get G 3 1 2 in1 fl9_117 d9_of_86 rfl rfl (by decide) (v := .int (iZ (C 2))) rfl rfl ?_
      exact j_iret G F d9_of_89 ⟨C 2, rfl, (by simp only [ofA] <;> (repeat' split) <;> first | rfl | omega | (exfalso; omega))⟩
    ·
      refine j_tabIn (tgt := 90) G d9_of_39 (by omega) 2 h3 ⟨by decide, by decide⟩ rfl (by decide) ?_
      refine j_aload_n G 0 rfl d9_of_90 ?_
      refine j_get G 3 1 3 in1 fl9_120 d9_of_91 rfl rfl (by decide) (v := .int (iZ (C 3))) rfl rfl ?_
      exact j_iret G F d9_of_94 ⟨C 3, rfl, (by simp only [ofA] <;> (repeat' split) <;> first | rfl | omega | (exfalso; omega))⟩
    ·
      refine j_tabIn (tgt := 95) G d9_of_39 (by omega) 3 h3 ⟨by decide, by decide⟩ rfl (by decide) ?_
      refine j_aload_n G 0 rfl d9_of_95 ?_
      refine j_get G 3 1 4 in1 fl9_123 d9_of_96 rfl rfl (by decide) (v := .int (iZ (C 4))) rfl rfl ?_
      exact j_iret G F d9_of_99 ⟨C 4, rfl, (by simp only [ofA] <;> (repeat' split) <;> first | rfl | omega | (exfalso; omega))⟩
    ·
      refine j_tabIn (tgt := 100) G d9_of_39 (by omega) 4 h3 ⟨by decide, by decide⟩ rfl (by decide) ?_
      refine j_aload_n G 0 rfl d9_of_100 ?_
      refine j_get G 3 1 5 in1 fl9_126 d9_of_101 rfl rfl (by decide) (v := .int (iZ (C 5))) rfl rfl ?_
      exact j_iret G F d9_of_104 ⟨C 5, rfl, (by simp only [ofA] <;> (repeat' split) <;> first | rfl | omega | (exfalso; omega))⟩
    ·
      refine j_tabIn (tgt := 105) G d9_of_39 (by omega) 5 h3 ⟨by decide, by decide⟩ rfl (by decide) ?_
      refine j_aload_n G 0 rfl d9_of_105 ?_
      refine j_get G 3 1 6 in1 fl9_129 d9_of_106 rfl rfl (by decide) (v := .int (iZ (C 6))) rfl rfl ?_
      exact j_iret G F d9_of_109 ⟨C 6, rfl, (by simp only [ofA] <;> (repeat' split) <;> first | rfl | omega | (exfalso; omega))⟩
    ·
      refine j_tabIn (tgt := 110) G d9_of_39 (by omega) 6 h3 ⟨by decide, by decide⟩ rfl (by decide) ?_
      refine j_aload_n G 0 rfl d9_of_110 ?_
      refine j_get G 3 1 7 in1 fl9_132 d9_of_111 rfl rfl (by decide) (v := .int (iZ (C 7))) rfl rfl ?_
      exact j_iret G F d9_of_114 ⟨C 7, rfl, (by simp only [ofA] <;> (repeat' split) <;> first | rfl | omega | (exfalso; omega))⟩
    ·
      refine j_tabOut (tgt := 115) G d9_of_39 (by omega) h3 (by decide) ?_
      refine j_iconst G d9_of_115 ?_
      exact j_iret G F d9_of_116 ⟨(-1), rfl, (by simp only [ofA] <;> (repeat' split) <;> first | rfl | omega | (exfalso; omega))⟩
  ·
    refine j_iload_n G 2 rfl d9_of_17 ?_
    refine j_bipush G d9_of_18 rfl ?_
    refine j_aload_n G 0 rfl d9_of_20 ?_
    refine j_get G 3 1 1 in1 fl9_111 d9_of_21 rfl rfl (by decide) (v := .int (iZ (C 1))) rfl rfl ?_
    refine j_iadd G d9_of_24 ?_
    refine j_icmp_ge (tgt := 38) G d9_of_25 (by decide) (by omega) (by omega) (fun h4 => ?_) (fun h4 => ?_)
    ·
      refine j_iload_n G 2 rfl d9_of_38 ?_
      rcases (show a = 0 ∨ a = 1 ∨ a = 2 ∨ a = 3 ∨ a = 4 ∨ a = 5 ∨ a = 6 ∨ (a < 0 ∨ 6 < a) by omega) with h5 | h5 | h5 | h5 | h5 | h5 | h5 | h5
      ·
        refine j_tabIn (tgt := 80) G d9_of_39 (by omega) 0 h5 ⟨by decide, by decide⟩ rfl (by decide) ?_
        refine j_aload_n G 0 rfl d9_of_80 ?_
        refine j_get G 3 1 1 in1 fl9_111 d9_of_81 rfl rfl (by decide) (v := .int (iZ (C 1))) rfl rfl ?_
        exact j_iret G F d9_of_84 ⟨C 1, rfl, (by simp only [ofA] <;> (repeat' split) <;> first | rfl | omega | (exfalso; omega))⟩
      ·
        refine j_tabIn (tgt := 85) G d9_of_39 (by omega) 1 h5 ⟨by decide, by decide⟩ rfl (by decide) ?_
        refine j_aload_n G 0 rfl d9_of_85 ?_
        refine j_get G 3 1 2 in1 fl9_117 d9_of_86 rfl rfl (by decide) (v := .int (iZ (C 2))) rfl rfl ?_
        exact j_iret G F d9_of_89 ⟨C 2, rfl, (by simp only [ofA] <;> (repeat' split) <;> first | rfl | omega | (exfalso; omega))⟩
      ·
        refine j_tabIn (tgt := 90) G d9_of_39 (by omega) 2 h5 ⟨by decide, by decide⟩ rfl (by decide) ?_
        refine j_aload_n G 0 rfl d9_of_90 ?_
        refine j_get G 3 1 3 in1 fl9_120 d9_of_91 rfl rfl (by decide) (v := .int (iZ (C 3))) rfl rfl ?_
        exact j_iret G F d9_of_94 ⟨C 3, rfl, (by simp only [ofA] <;> (repeat' split) <;> first | rfl | omega | (exfalso; omega))⟩
      ·
        refine j_tabIn (tgt := 95) G d9_of_39 (by omega) 3 h5 ⟨by decide, by decide⟩ rfl (by decide) ?_
        refine j_aload_n G 0 rfl d9_of_95 ?_
        refine j_get G 3 1 4 in1 fl9_123 d9_of_96 rfl rfl (by decide) (v := .int (iZ (C 4))) rfl rfl ?_
        exact j_iret G F d9_of_99 ⟨C 4, rfl, (by simp only [ofA] <;> (repeat' split) <;> first | rfl | omega | (exfalso; omega))⟩
      ·
        refine j_tabIn (tgt := 100) G d9_of_39 (by omega) 4 h5 ⟨by decide, by decide⟩ rfl (by decide) ?_
        refine j_aload_n G 0 rfl d9_of_100 ?_
        refine j_get G 3 1 5 in1 fl9_126 d9_of_101 rfl rfl (by decide) (v := .int (iZ (C 5))) rfl rfl ?_
        exact j_iret G F d9_of_104 ⟨C 5, rfl, (by simp only [ofA] <;> (repeat' split) <;> first | rfl | omega | (exfalso; omega))⟩
      ·
        refine j_tabIn (tgt := 105) G d9_of_39 (by omega) 5 h5 ⟨by decide, by decide⟩ rfl (by decide) ?_
        refine j_aload_n G 0 rfl d9_of_105 ?_
        refine j_get G 3 1 6 in1 fl9_129 d9_of_106 rfl rfl (by decide) (v := .int (iZ (C 6))) rfl rfl ?_
        exact j_iret G F d9_of_109 ⟨C 6, rfl, (by simp only [ofA] <;> (repeat' split) <;> first | rfl | omega | (exfalso; omega))⟩
      ·
        refine j_tabIn (tgt := 110) G d9_of_39 (by omega) 6 h5 ⟨by decide, by decide⟩ rfl (by decide) ?_
        refine j_aload_n G 0 rfl d9_of_110 ?_
        refine j_get G 3 1 7 in1 fl9_132 d9_of_111 rfl rfl (by decide) (v := .int (iZ (C 7))) rfl rfl ?_
        exact j_iret G F d9_of_114 ⟨C 7, rfl, (by simp only [ofA] <;> (repeat' split) <;> first | rfl | omega | (exfalso; omega))⟩
      ·
        refine j_tabOut (tgt := 115) G d9_of_39 (by omega) h5 (by decide) ?_
        refine j_iconst G d9_of_115 ?_
        exact j_iret G F d9_of_116 ⟨(-1), rfl, (by simp only [ofA] <;> (repeat' split) <;> first | rfl | omega | (exfalso; omega))⟩
    ·
      refine j_aload_n G 0 rfl d9_of_28 ?_
      refine j_get G 3 1 0 in1 fl9_114 d9_of_29 rfl rfl (by decide) (v := .ref pa) rfl rfl ?_
      refine j_iload_n G 2 rfl d9_of_32 ?_
      refine j_bipush G d9_of_33 rfl ?_
      refine j_isub G d9_of_35 ?_
      refine j_iald G 4 rfl (by omega) d9_of_36 ?_
      exact j_iret G F d9_of_37 ⟨P (a - 10), rfl, (by simp only [ofA] <;> (repeat' split) <;> first | rfl | omega | (exfalso; omega))⟩
theorem d9_told_0 : decode c9_told 0 = .ok (.aload_n 0, 1) := by decide +kernel
theorem d9_told_1 : decode c9_told 1 = .ok (.invokevirtual 107, 3) := by decide +kernel
theorem d9_told_4 : decode c9_told 4 = .ok (.astore_n 3, 1) := by decide +kernel
theorem d9_told_5 : decode c9_told 5 = .ok (.aload_n 3, 1) := by decide +kernel
theorem d9_told_6 : decode c9_told 6 = .ok (.ifnull 19, 3) := by decide +kernel
theorem d9_told_25 : decode c9_told 25 = .ok (.iconst (-1), 1) := by decide +kernel
theorem d9_told_26 : decode c9_told 26 = .ok (.ireturn, 1) := by decide +kernel
theorem mw9_told : MV y9_told c9_told 5 (some .int) 2 := ⟨cd9_told, ini9, na9_told, im9_told, se9_told⟩
set_option maxHeartbeats 4000000 in
set_option maxRecDepth 100000 in
theorem k9_toldn (l : Launch) (E : En) (xo : Nat) (xa : Nat → Nat) (X : Nat → Int) (U : Nat → Int) (a : Int) (step : Int) (r_a : R32 a) (r_step : R32 step) (hu3 : U 3 < 0) (hu4 : -100 ≤ U 3) : Cp l E y9_told c9_told 5 (some .int) 1 21 [.ref xo, .int (iZ a), .int (iZ step)] [(xo, xO xa X), (xa 6, o5 (some (xa 20)) (some (xa 21)) (some (xa 22)) (some (xa 23)) U)] (fun r => ∃ (v : Int), r = some (.int (iZ v)) ∧ (v = -1)) := by
  refine Cp.of (by decide +kernel) (Nat.le_of_ble_eq_true rfl) (fun Γ hl hargs G F => ?_)
  subst hl
  refine j_aload_n G 0 rfl d9_told_0 ?_
  refine j_VP G (k9_theCliffn (xl Γ) E xo xa X U (by first | assumption | omega | (simp only [upS, reduceIte, Nat.reduceEqDiff, eq_self, List.length_cons, List.length_nil, List.length_append] <;> omega)) (by first | assumption | omega | (simp only [upS, reduceIte, Nat.reduceEqDiff, eq_self, List.length_cons, List.length_nil, List.length_append] <;> omega))) mw9_theCliff ml9_107 [0, 1] rfl 0 9 rfl rfl rfl ⟨Nat.le_of_ble_eq_true rfl, Nat.le_of_ble_eq_true rfl⟩ rfl (rest := []) rfl (Nat.le_of_ble_eq_true rfl) d9_told_1 ⟨Nat.le_of_ble_eq_true rfl, Nat.le_of_ble_eq_true rfl⟩ (fun r hr => ?_)
  obtain ⟨rfl, hq1⟩ := hr
  refine j_astore_nN G d9_told_4 (by decide) rfl ?_
  refine j_aload_nN G 0 rfl d9_told_5 ?_
  refine j_ifnullN (tgt := 25) G d9_told_6 (by decide) ?_
  refine j_iconst G d9_told_25 ?_
  exact j_iret G F d9_told_26 ⟨(-1), rfl, (by first | rfl | omega)⟩
theorem d9_told_9 : decode c9_told 9 = .ok (.iload_n 2, 1) := by decide +kernel
theorem d9_told_10 : decode c9_told 10 = .ok (.invokestatic 135, 3) := by decide +kernel
theorem d9_told_13 : decode c9_told 13 = .ok (.ifCond .ne 12, 3) := by decide +kernel
theorem d9_told_16 : decode c9_told 16 = .ok (.iload_n 1, 1) := by decide +kernel
theorem d9_told_17 : decode c9_told 17 = .ok (.ifCond .lt 8, 3) := by decide +kernel
theorem d9_told_20 : decode c9_told 20 = .ok (.iload_n 1, 1) := by decide +kernel
theorem d9_told_21 : decode c9_told 21 = .ok (.iconst 1, 1) := by decide +kernel
theorem d9_told_22 : decode c9_told 22 = .ok (.if_icmp .le 5, 3) := by decide +kernel
theorem d9_told_27 : decode c9_told 27 = .ok (.aload_n 0, 1) := by decide +kernel
theorem d9_told_28 : decode c9_told 28 = .ok (.getfield 30, 3) := by decide +kernel
theorem d9_told_31 : decode c9_told 31 = .ok (.iload_n 2, 1) := by decide +kernel
theorem d9_told_32 : decode c9_told 32 = .ok (.invokevirtual 139, 3) := by decide +kernel
theorem d9_told_35 : decode c9_told 35 = .ok (.istore 4, 2) := by decide +kernel
theorem d9_told_37 : decode c9_told 37 = .ok (.iload_n 1, 1) := by decide +kernel
theorem d9_told_38 : decode c9_told 38 = .ok (.ifCond .ne 13, 3) := by decide +kernel
theorem d9_told_41 : decode c9_told 41 = .ok (.aload_n 3, 1) := by decide +kernel
theorem d9_told_42 : decode c9_told 42 = .ok (.getfield 143, 3) := by decide +kernel
theorem d9_told_45 : decode c9_told 45 = .ok (.iload 4, 2) := by decide +kernel
theorem d9_told_47 : decode c9_told 47 = .ok (.iaload, 1) := by decide +kernel
theorem d9_told_48 : decode c9_told 48 = .ok (.goto 10, 3) := by decide +kernel
theorem d9_told_51 : decode c9_told 51 = .ok (.aload_n 3, 1) := by decide +kernel
theorem d9_told_52 : decode c9_told 52 = .ok (.getfield 146, 3) := by decide +kernel
theorem d9_told_55 : decode c9_told 55 = .ok (.iload 4, 2) := by decide +kernel
theorem d9_told_57 : decode c9_told 57 = .ok (.iaload, 1) := by decide +kernel
theorem d9_told_58 : decode c9_told 58 = .ok (.ireturn, 1) := by decide +kernel
set_option maxHeartbeats 4000000 in
set_option maxRecDepth 100000 in
theorem k9_toldc (l : Launch) (E : En) (xo : Nat) (xa : Nat → Nat) (X : Nat → Int) (U : Nat → Int) (ck : Nat → Option Nat) (ca : Nat) (pa : Nat) (da : Nat) (sa : Nat) (C : Nat → Int) (P : Int → Int) (dr : Int → Int) (sr : Int → Int) (a : Int) (step : Int) (r_a : R32 a) (r_step : R32 step) (hu3 : 0 ≤ U 3 ∧ U 3 < X 3 ∧ X 3 ≤ 4) (hck : ck (U 3).toNat = some ca) (hwf : wfC C P) (hU1 : U 1 = 0 ∨ U 1 = 1) (hdr : ∀ j, 0 ≤ j → j < 24 → (0 ≤ dr j ∧ dr j ≤ 11988)) : Cp l E y9_told c9_told 5 (some .int) 1 21 [.ref xo, .int (iZ a), .int (iZ step)] [(xo, xO xa X), (xa 6, o5 (some (xa 20)) (some (xa 21)) (some (xa 22)) (some (xa 23)) U), (xa 2, aRef E 3 4 ck), (ca, o1 (some pa) (some da) (some sa) C), (pa, aInt E 5 P), (da, aInt E 24 dr), (sa, aInt E 24 sr)] (fun r => ∃ (v : Int), r = some (.int (iZ v)) ∧ (v = (if (0 ≤ a ∧ a ≤ 1) ∧ (0 ≤ step ∧ step ≤ 11) then (if a = 0 then dr (12 * U 1 + step) else sr (12 * U 1 + step)) else -1))) := by
  refine Cp.of (by decide +kernel) (Nat.le_of_ble_eq_true rfl) (fun Γ hl hargs G F => ?_)
  subst hl
  refine j_aload_n G 0 rfl d9_told_0 ?_
  refine j_VP G (k9_theCliffc (xl Γ) E xo xa X U ck ca (by first | assumption | omega | (simp only [upS, reduceIte, Nat.reduceEqDiff, eq_self, List.length_cons, List.length_nil, List.length_append] <;> omega)) (by first | assumption | omega | (simp only [upS, reduceIte, Nat.reduceEqDiff, eq_self, List.length_cons, List.length_nil, List.length_append] <;> omega))) mw9_theCliff ml9_107 [0, 1, 2] rfl 0 9 rfl rfl rfl ⟨Nat.le_of_ble_eq_true rfl, Nat.le_of_ble_eq_true rfl⟩ rfl (rest := []) rfl (Nat.le_of_ble_eq_true rfl) d9_told_1 ⟨Nat.le_of_ble_eq_true rfl, Nat.le_of_ble_eq_true rfl⟩ (fun r hr => ?_)
  obtain ⟨rfl, hq1⟩ := hr
  refine j_astore_n G d9_told_4 (by decide) rfl ?_
  refine j_aload_n G 0 rfl d9_told_5 ?_
  refine j_ifnull G d9_told_6 ?_
  refine j_iload_n G 3 rfl d9_told_9 ?_
  refine j_SP G (k9_isNoStep (xl Γ) E step (by first | assumption | omega | (simp only [upS, reduceIte, Nat.reduceEqDiff, eq_self, List.length_cons, List.length_nil, List.length_append] <;> omega))) mw9_isNoStep ml9_135 [] rfl ⟨Nat.le_of_ble_eq_true rfl, Nat.le_of_ble_eq_true rfl⟩ rfl (rest := []) rfl (Nat.le_of_ble_eq_true rfl) d9_told_10 ⟨Nat.le_of_ble_eq_true rfl, Nat.le_of_ble_eq_true rfl⟩ (fun r hr => ?_)
  obtain ⟨v3, rfl, hq2⟩ := hr
  rcases hq2 with ⟨hq2, rfl⟩ | ⟨hq2, rfl⟩
  ·
    refine j_if_ne (tgt := 25) G d9_told_13 (by decide) (by decide) (fun h4 => ?_) (fun h4 => absurd h4 (by decide))
    refine j_iconst G d9_told_25 ?_
    exact j_iret G F d9_told_26 ⟨(-1), rfl, (by first | (rw [if_neg (by omega)]; done) | (rw [if_pos (by omega), if_pos (by omega)]; done) | (rw [if_pos (by omega), if_neg (by omega)]; done))⟩
  ·
    refine j_if_ne (tgt := 25) G d9_told_13 (by decide) (by decide) (fun h5 => absurd h5 (by decide)) (fun h5 => ?_)
    refine j_iload_n G 2 rfl d9_told_16 ?_
    refine j_if_lt (tgt := 25) G d9_told_17 (by decide) (by omega) (fun h6 => ?_) (fun h6 => ?_)
    ·
      refine j_iconst G d9_told_25 ?_
      exact j_iret G F d9_told_26 ⟨(-1), rfl, (by first | (rw [if_neg (by omega)]; done) | (rw [if_pos (by omega), if_pos (by omega)]; done) | (rw [if_pos (by omega), if_neg (by omega)]; done))⟩
    ·
      refine j_iload_n G 2 rfl d9_told_20 ?_
      refine j_iconst G d9_told_21 ?_
      refine j_icmp_le (tgt := 27) G d9_told_22 (by decide) (by omega) (by decide) (fun h7 => ?_) (fun h7 => ?_)
      ·
        refine j_aload_n G 1 rfl d9_told_27 ?_
        refine j_get G 0 9 6 in9 fl9_30 d9_told_28 rfl rfl (by decide) (v := .ref (xa 6)) rfl rfl ?_
        refine j_iload_n G 3 rfl d9_told_31 ?_
        refine j_VP G (k5_momentOf (xl Γ) E (xa 6) (xa 20) (xa 21) (xa 22) (xa 23) U step (by first | assumption | omega | (simp only [upS, reduceIte, Nat.reduceEqDiff, eq_self, List.length_cons, List.length_nil, List.length_append] <;> omega))) mw5_momentOf ml9_139 [1] rfl 1 5 rfl rfl rfl ⟨Nat.le_of_ble_eq_true rfl, Nat.le_of_ble_eq_true rfl⟩ rfl (rest := []) rfl (Nat.le_of_ble_eq_true rfl) d9_told_32 ⟨Nat.le_of_ble_eq_true rfl, Nat.le_of_ble_eq_true rfl⟩ (fun r hr => ?_)
        obtain ⟨_, rfl, rfl⟩ := hr
        refine j_istore G d9_told_35 (by decide) rfl ?_
        refine j_iload_n G 3 rfl d9_told_37 ?_
        refine j_if_ne (tgt := 51) G d9_told_38 (by decide) (by omega) (fun h9 => ?_) (fun h9 => ?_)
        ·
          refine j_aload_n G 1 rfl d9_told_51 ?_
          refine j_get G 3 1 9 in1 fl9_146 d9_told_52 rfl rfl (by decide) (v := .ref sa) rfl rfl ?_
          refine j_iload G 0 rfl d9_told_55 ?_
          refine j_iald G 6 rfl (by omega) d9_told_57 ?_
          exact j_iret G F d9_told_58 ⟨sr (12 * (U 1) + step), rfl, (by first | (rw [if_neg (by omega)]; done) | (rw [if_pos (by omega), if_pos (by omega)]; done) | (rw [if_pos (by omega), if_neg (by omega)]; done))⟩
        ·
          refine j_aload_n G 1 rfl d9_told_41 ?_
          refine j_get G 3 1 8 in1 fl9_143 d9_told_42 rfl rfl (by decide) (v := .ref da) rfl rfl ?_
          refine j_iload G 0 rfl d9_told_45 ?_
          refine j_iald G 5 rfl (by omega) d9_told_47 ?_
          refine j_goto (tgt := 58) G d9_told_48 (by decide) ?_
          exact j_iret G F d9_told_58 ⟨dr (12 * (U 1) + step), rfl, (by first | (rw [if_neg (by omega)]; done) | (rw [if_pos (by omega), if_pos (by omega)]; done) | (rw [if_pos (by omega), if_neg (by omega)]; done))⟩
      ·
        refine j_iconst G d9_told_25 ?_
        exact j_iret G F d9_told_26 ⟨(-1), rfl, (by first | (rw [if_neg (by omega)]; done) | (rw [if_pos (by omega), if_pos (by omega)]; done) | (rw [if_pos (by omega), if_neg (by omega)]; done))⟩
theorem d9_pull_0 : decode c9_pull 0 = .ok (.aload_n 0, 1) := by decide +kernel
theorem d9_pull_1 : decode c9_pull 1 = .ok (.invokevirtual 107, 3) := by decide +kernel
theorem d9_pull_4 : decode c9_pull 4 = .ok (.astore 6, 2) := by decide +kernel
theorem d9_pull_6 : decode c9_pull 6 = .ok (.aload 6, 2) := by decide +kernel
theorem d9_pull_8 : decode c9_pull 8 = .ok (.ifnull 23, 3) := by decide +kernel
theorem d9_pull_31 : decode c9_pull 31 = .ok (.ldc2_w 149, 3) := by decide +kernel
theorem d9_pull_34 : decode c9_pull 34 = .ok (.lreturn, 1) := by decide +kernel
theorem mw9_pull : MV y9_pull c9_pull 7 (some .long) 5 := ⟨cd9_pull, ini9, na9_pull, im9_pull, se9_pull⟩
set_option maxHeartbeats 4000000 in
set_option maxRecDepth 100000 in
theorem k9_pulln (l : Launch) (E : En) (xo : Nat) (xa : Nat → Nat) (X : Nat → Int) (U : Nat → Int) (i : Int) (step : Int) (d : Int) (u : Int) (w : Int) (r_i : R32 i) (r_step : R32 step) (r_d : R32 d) (r_u : R32 u) (r_w : R32 w) (hu3 : U 3 < 0) (hu4 : -100 ≤ U 3) : Cp l E y9_pull c9_pull 7 (some .long) 1 21 [.ref xo, .int (iZ i), .int (iZ step), .int (iZ d), .int (iZ u), .int (iZ w)] [(xo, xO xa X), (xa 6, o5 (some (xa 20)) (some (xa 21)) (some (xa 22)) (some (xa 23)) U)] (fun r => ∃ (v : Int), r = some (.long (lZ v)) ∧ (v = -9223372036854775808)) := by
  refine Cp.of (by decide +kernel) (Nat.le_of_ble_eq_true rfl) (fun Γ hl hargs G F => ?_)
  subst hl
  refine j_aload_n G 0 rfl d9_pull_0 ?_
  refine j_VP G (k9_theCliffn (xl Γ) E xo xa X U (by first | assumption | omega | (simp only [upS, reduceIte, Nat.reduceEqDiff, eq_self, List.length_cons, List.length_nil, List.length_append] <;> omega)) (by first | assumption | omega | (simp only [upS, reduceIte, Nat.reduceEqDiff, eq_self, List.length_cons, List.length_nil, List.length_append] <;> omega))) mw9_theCliff ml9_107 [0, 1] rfl 0 9 rfl rfl rfl ⟨Nat.le_of_ble_eq_true rfl, Nat.le_of_ble_eq_true rfl⟩ rfl (rest := []) rfl (Nat.le_of_ble_eq_true rfl) d9_pull_1 ⟨Nat.le_of_ble_eq_true rfl, Nat.le_of_ble_eq_true rfl⟩ (fun r hr => ?_)
  obtain ⟨rfl, hq1⟩ := hr
  refine j_astoreN G d9_pull_4 (by decide) rfl ?_
  refine j_aloadN G 0 rfl d9_pull_6 ?_
  refine j_ifnullN (tgt := 31) G d9_pull_8 (by decide) ?_
  refine j_ldc2 G (-9223372036854775808) ct9_149 (by decide) d9_pull_31 ?_
  exact j_lret G F d9_pull_34 ⟨(-9223372036854775808), rfl, (by first | rfl | omega)⟩
theorem d9_pull_11 : decode c9_pull 11 = .ok (.iload_n 1, 1) := by decide +kernel
theorem d9_pull_12 : decode c9_pull 12 = .ok (.ifCond .lt 19, 3) := by decide +kernel
theorem d9_pull_15 : decode c9_pull 15 = .ok (.iload_n 1, 1) := by decide +kernel
theorem d9_pull_16 : decode c9_pull 16 = .ok (.aload 6, 2) := by decide +kernel
theorem d9_pull_18 : decode c9_pull 18 = .ok (.getfield 111, 3) := by decide +kernel
theorem d9_pull_21 : decode c9_pull 21 = .ok (.if_icmp .ge 10, 3) := by decide +kernel
theorem d9_pull_24 : decode c9_pull 24 = .ok (.iload_n 2, 1) := by decide +kernel
theorem d9_pull_25 : decode c9_pull 25 = .ok (.invokestatic 135, 3) := by decide +kernel
theorem d9_pull_28 : decode c9_pull 28 = .ok (.ifCond .eq 7, 3) := by decide +kernel
theorem d9_pull_35 : decode c9_pull 35 = .ok (.iload_n 3, 1) := by decide +kernel
theorem d9_pull_36 : decode c9_pull 36 = .ok (.invokestatic 151, 3) := by decide +kernel
theorem d9_pull_39 : decode c9_pull 39 = .ok (.ifCond .ne 19, 3) := by decide +kernel
theorem d9_pull_42 : decode c9_pull 42 = .ok (.iload 4, 2) := by decide +kernel
theorem d9_pull_44 : decode c9_pull 44 = .ok (.invokestatic 151, 3) := by decide +kernel
theorem d9_pull_47 : decode c9_pull 47 = .ok (.ifCond .ne 11, 3) := by decide +kernel
theorem d9_pull_50 : decode c9_pull 50 = .ok (.iload 5, 2) := by decide +kernel
theorem d9_pull_52 : decode c9_pull 52 = .ok (.invokestatic 154, 3) := by decide +kernel
theorem d9_pull_55 : decode c9_pull 55 = .ok (.ifCond .eq 7, 3) := by decide +kernel
theorem d9_pull_58 : decode c9_pull 58 = .ok (.ldc2_w 149, 3) := by decide +kernel
theorem d9_pull_61 : decode c9_pull 61 = .ok (.lreturn, 1) := by decide +kernel
theorem d9_pull_62 : decode c9_pull 62 = .ok (.aload 6, 2) := by decide +kernel
theorem d9_pull_64 : decode c9_pull 64 = .ok (.iload_n 1, 1) := by decide +kernel
theorem d9_pull_65 : decode c9_pull 65 = .ok (.aload 6, 2) := by decide +kernel
theorem d9_pull_67 : decode c9_pull 67 = .ok (.getfield 120, 3) := by decide +kernel
theorem d9_pull_70 : decode c9_pull 70 = .ok (.iload_n 3, 1) := by decide +kernel
theorem d9_pull_71 : decode c9_pull 71 = .ok (.iload 4, 2) := by decide +kernel
theorem d9_pull_73 : decode c9_pull 73 = .ok (.isub, 1) := by decide +kernel
theorem d9_pull_74 : decode c9_pull 74 = .ok (.imul, 1) := by decide +kernel
theorem d9_pull_75 : decode c9_pull 75 = .ok (.iload 5, 2) := by decide +kernel
theorem d9_pull_77 : decode c9_pull 77 = .ok (.iadd, 1) := by decide +kernel
theorem d9_pull_78 : decode c9_pull 78 = .ok (.aload 6, 2) := by decide +kernel
theorem d9_pull_80 : decode c9_pull 80 = .ok (.getfield 143, 3) := by decide +kernel
theorem d9_pull_83 : decode c9_pull 83 = .ok (.aload_n 0, 1) := by decide +kernel
theorem d9_pull_84 : decode c9_pull 84 = .ok (.getfield 30, 3) := by decide +kernel
theorem d9_pull_87 : decode c9_pull 87 = .ok (.iload_n 2, 1) := by decide +kernel
theorem d9_pull_88 : decode c9_pull 88 = .ok (.invokevirtual 139, 3) := by decide +kernel
theorem d9_pull_91 : decode c9_pull 91 = .ok (.iaload, 1) := by decide +kernel
theorem d9_pull_92 : decode c9_pull 92 = .ok (.invokevirtual 157, 3) := by decide +kernel
theorem d9_pull_95 : decode c9_pull 95 = .ok (.i2l, 1) := by decide +kernel
theorem d9_pull_96 : decode c9_pull 96 = .ok (.lreturn, 1) := by decide +kernel
set_option maxHeartbeats 4000000 in
set_option maxRecDepth 100000 in
theorem k9_pullc (l : Launch) (E : En) (xo : Nat) (xa : Nat → Nat) (X : Nat → Int) (U : Nat → Int) (ck : Nat → Option Nat) (ca : Nat) (pa : Nat) (da : Nat) (sa : Nat) (C : Nat → Int) (P : Int → Int) (dr : Int → Int) (sr : Int → Int) (i : Int) (step : Int) (d : Int) (u : Int) (w : Int) (r_i : R32 i) (r_step : R32 step) (r_d : R32 d) (r_u : R32 u) (r_w : R32 w) (hu3 : 0 ≤ U 3 ∧ U 3 < X 3 ∧ X 3 ≤ 4) (hck : ck (U 3).toNat = some ca) (hwf : wfC C P) (hU1 : U 1 = 0 ∨ U 1 = 1) (hdr : ∀ j, 0 ≤ j → j < 24 → (0 ≤ dr j ∧ dr j ≤ 11988)) : Cp l E y9_pull c9_pull 7 (some .long) 1 23 [.ref xo, .int (iZ i), .int (iZ step), .int (iZ d), .int (iZ u), .int (iZ w)] [(xo, xO xa X), (xa 6, o5 (some (xa 20)) (some (xa 21)) (some (xa 22)) (some (xa 23)) U), (xa 2, aRef E 3 4 ck), (ca, o1 (some pa) (some da) (some sa) C), (pa, aInt E 5 P), (da, aInt E 24 dr), (sa, aInt E 24 sr)] (fun r => ∃ (v : Int), r = some (.long (lZ v)) ∧ ((pullOk C (U 3) i step d u w ∧ v = pulM C P i (C 3 * (d - u) + w) (dr (12 * U 1 + step))) ∨ (¬ pullOk C (U 3) i step d u w ∧ v = -9223372036854775808))) := by
  refine Cp.of (by decide +kernel) (Nat.le_of_ble_eq_true rfl) (fun Γ hl hargs G F => ?_)
  subst hl
  have hw1 := hwf.1
  have hw7 := hwf.2.2.2.2.2.2.2
  refine j_aload_n G 0 rfl d9_pull_0 ?_
  refine j_VP G (k9_theCliffc (xl Γ) E xo xa X U ck ca (by first | assumption | omega | (simp only [upS, reduceIte, Nat.reduceEqDiff, eq_self, List.length_cons, List.length_nil, List.length_append] <;> omega)) (by first | assumption | omega | (simp only [upS, reduceIte, Nat.reduceEqDiff, eq_self, List.length_cons, List.length_nil, List.length_append] <;> omega))) mw9_theCliff ml9_107 [0, 1, 2] rfl 0 9 rfl rfl rfl ⟨Nat.le_of_ble_eq_true rfl, Nat.le_of_ble_eq_true rfl⟩ rfl (rest := []) rfl (Nat.le_of_ble_eq_true rfl) d9_pull_1 ⟨Nat.le_of_ble_eq_true rfl, Nat.le_of_ble_eq_true rfl⟩ (fun r hr => ?_)
  obtain ⟨rfl, hq1⟩ := hr
  refine j_astore G d9_pull_4 (by decide) rfl ?_
  refine j_aload G 0 rfl d9_pull_6 ?_
  refine j_ifnull G d9_pull_8 ?_
  refine j_iload_n G 2 rfl d9_pull_11 ?_
  refine j_if_lt (tgt := 31) G d9_pull_12 (by decide) (by omega) (fun h2 => ?_) (fun h2 => ?_)
  ·
    refine j_ldc2 G (-9223372036854775808) ct9_149 (by decide) d9_pull_31 ?_
    exact j_lret G F d9_pull_34 ⟨(-9223372036854775808), rfl, (by first | (left; exact ⟨⟨by omega, by omega, by omega, by omega, by omega⟩, by assumption⟩) | (right; exact ⟨fun q => (by obtain ⟨q1, q2, q3, q4, q5⟩ := q; omega), rfl⟩))⟩
  ·
    refine j_iload_n G 2 rfl d9_pull_15 ?_
    refine j_aload G 0 rfl d9_pull_16 ?_
    refine j_get G 3 1 1 in1 fl9_111 d9_pull_18 rfl rfl (by decide) (v := .int (iZ (C 1))) rfl rfl ?_
    refine j_icmp_ge (tgt := 31) G d9_pull_21 (by decide) (by omega) (by omega) (fun h3 => ?_) (fun h3 => ?_)
    ·
      refine j_ldc2 G (-9223372036854775808) ct9_149 (by decide) d9_pull_31 ?_
      exact j_lret G F d9_pull_34 ⟨(-9223372036854775808), rfl, (by first | (left; exact ⟨⟨by omega, by omega, by omega, by omega, by omega⟩, by assumption⟩) | (right; exact ⟨fun q => (by obtain ⟨q1, q2, q3, q4, q5⟩ := q; omega), rfl⟩))⟩
    ·
      refine j_iload_n G 3 rfl d9_pull_24 ?_
      refine j_SP G (k9_isNoStep (xl Γ) E step (by first | assumption | omega | (simp only [upS, reduceIte, Nat.reduceEqDiff, eq_self, List.length_cons, List.length_nil, List.length_append] <;> omega))) mw9_isNoStep ml9_135 [] rfl ⟨Nat.le_of_ble_eq_true rfl, Nat.le_of_ble_eq_true rfl⟩ rfl (rest := []) rfl (Nat.le_of_ble_eq_true rfl) d9_pull_25 ⟨Nat.le_of_ble_eq_true rfl, Nat.le_of_ble_eq_true rfl⟩ (fun r hr => ?_)
      obtain ⟨v5, rfl, hq4⟩ := hr
      rcases hq4 with ⟨hq4, rfl⟩ | ⟨hq4, rfl⟩
      ·
        refine j_if_eq (tgt := 35) G d9_pull_28 (by decide) (by decide) (fun h6 => absurd h6 (by decide)) (fun h6 => ?_)
        refine j_ldc2 G (-9223372036854775808) ct9_149 (by decide) d9_pull_31 ?_
        exact j_lret G F d9_pull_34 ⟨(-9223372036854775808), rfl, (by first | (left; exact ⟨⟨by omega, by omega, by omega, by omega, by omega⟩, by assumption⟩) | (right; exact ⟨fun q => (by obtain ⟨q1, q2, q3, q4, q5⟩ := q; omega), rfl⟩))⟩
      ·
        refine j_if_eq (tgt := 35) G d9_pull_28 (by decide) (by decide) (fun h7 => ?_) (fun h7 => absurd h7 (by decide))
        refine j_iload_n G 4 rfl d9_pull_35 ?_
        refine j_SP G (k9_areNoHeads (xl Γ) E d (by first | assumption | omega | (simp only [upS, reduceIte, Nat.reduceEqDiff, eq_self, List.length_cons, List.length_nil, List.length_append] <;> omega))) mw9_areNoHeads ml9_151 [] rfl ⟨Nat.le_of_ble_eq_true rfl, Nat.le_of_ble_eq_true rfl⟩ rfl (rest := []) rfl (Nat.le_of_ble_eq_true rfl) d9_pull_36 ⟨Nat.le_of_ble_eq_true rfl, Nat.le_of_ble_eq_true rfl⟩ (fun r hr => ?_)
        obtain ⟨v9, rfl, hq8⟩ := hr
        rcases hq8 with ⟨hq8, rfl⟩ | ⟨hq8, rfl⟩
        ·
          refine j_if_ne (tgt := 58) G d9_pull_39 (by decide) (by decide) (fun h10 => ?_) (fun h10 => absurd h10 (by decide))
          refine j_ldc2 G (-9223372036854775808) ct9_149 (by decide) d9_pull_58 ?_
          exact j_lret G F d9_pull_61 ⟨(-9223372036854775808), rfl, (by first | (left; exact ⟨⟨by omega, by omega, by omega, by omega, by omega⟩, by assumption⟩) | (right; exact ⟨fun q => (by obtain ⟨q1, q2, q3, q4, q5⟩ := q; omega), rfl⟩))⟩
        ·
          refine j_if_ne (tgt := 58) G d9_pull_39 (by decide) (by decide) (fun h11 => absurd h11 (by decide)) (fun h11 => ?_)
          refine j_iload G 5 rfl d9_pull_42 ?_
          refine j_SP G (k9_areNoHeads (xl Γ) E u (by first | assumption | omega | (simp only [upS, reduceIte, Nat.reduceEqDiff, eq_self, List.length_cons, List.length_nil, List.length_append] <;> omega))) mw9_areNoHeads ml9_151 [] rfl ⟨Nat.le_of_ble_eq_true rfl, Nat.le_of_ble_eq_true rfl⟩ rfl (rest := []) rfl (Nat.le_of_ble_eq_true rfl) d9_pull_44 ⟨Nat.le_of_ble_eq_true rfl, Nat.le_of_ble_eq_true rfl⟩ (fun r hr => ?_)
          obtain ⟨v13, rfl, hq12⟩ := hr
          rcases hq12 with ⟨hq12, rfl⟩ | ⟨hq12, rfl⟩
          ·
            refine j_if_ne (tgt := 58) G d9_pull_47 (by decide) (by decide) (fun h14 => ?_) (fun h14 => absurd h14 (by decide))
            refine j_ldc2 G (-9223372036854775808) ct9_149 (by decide) d9_pull_58 ?_
            exact j_lret G F d9_pull_61 ⟨(-9223372036854775808), rfl, (by first | (left; exact ⟨⟨by omega, by omega, by omega, by omega, by omega⟩, by assumption⟩) | (right; exact ⟨fun q => (by obtain ⟨q1, q2, q3, q4, q5⟩ := q; omega), rfl⟩))⟩
          ·
            refine j_if_ne (tgt := 58) G d9_pull_47 (by decide) (by decide) (fun h15 => absurd h15 (by decide)) (fun h15 => ?_)
            refine j_iload G 6 rfl d9_pull_50 ?_
            refine j_SP G (k9_areNoPints (xl Γ) E w (by first | assumption | omega | (simp only [upS, reduceIte, Nat.reduceEqDiff, eq_self, List.length_cons, List.length_nil, List.length_append] <;> omega))) mw9_areNoPints ml9_154 [] rfl ⟨Nat.le_of_ble_eq_true rfl, Nat.le_of_ble_eq_true rfl⟩ rfl (rest := []) rfl (Nat.le_of_ble_eq_true rfl) d9_pull_52 ⟨Nat.le_of_ble_eq_true rfl, Nat.le_of_ble_eq_true rfl⟩ (fun r hr => ?_)
            obtain ⟨v17, rfl, hq16⟩ := hr
            rcases hq16 with ⟨hq16, rfl⟩ | ⟨hq16, rfl⟩
            ·
              refine j_if_eq (tgt := 62) G d9_pull_55 (by decide) (by decide) (fun h18 => absurd h18 (by decide)) (fun h18 => ?_)
              refine j_ldc2 G (-9223372036854775808) ct9_149 (by decide) d9_pull_58 ?_
              exact j_lret G F d9_pull_61 ⟨(-9223372036854775808), rfl, (by first | (left; exact ⟨⟨by omega, by omega, by omega, by omega, by omega⟩, by assumption⟩) | (right; exact ⟨fun q => (by obtain ⟨q1, q2, q3, q4, q5⟩ := q; omega), rfl⟩))⟩
            ·
              refine j_if_eq (tgt := 62) G d9_pull_55 (by decide) (by decide) (fun h19 => ?_) (fun h19 => absurd h19 (by decide))
              have hdq := hdr (12 * U 1 + step) (by omega) (by omega)
              have hw3 := hwf.2.2.2.1
              have hmb := mulb (a := C 3) (b := d - u) (A := 999) (B := 6) hw3.1 hw3.2 (by omega) (by omega)
              have hw5 := hwf.2.2.2.2.2.1
              refine j_aload G 0 rfl d9_pull_62 ?_
              refine j_iload_n G 2 rfl d9_pull_64 ?_
              refine j_aload G 0 rfl d9_pull_65 ?_
              refine j_get G 3 1 3 in1 fl9_120 d9_pull_67 rfl rfl (by decide) (v := .int (iZ (C 3))) rfl rfl ?_
              refine j_iload_n G 4 rfl d9_pull_70 ?_
              refine j_iload G 5 rfl d9_pull_71 ?_
              refine j_isub G d9_pull_73 ?_
              refine j_imul G d9_pull_74 ?_
              refine j_iload G 6 rfl d9_pull_75 ?_
              refine j_iadd G d9_pull_77 ?_
              refine j_aload G 0 rfl d9_pull_78 ?_
              refine j_get G 3 1 8 in1 fl9_143 d9_pull_80 rfl rfl (by decide) (v := .ref da) rfl rfl ?_
              refine j_aload_n G 1 rfl d9_pull_83 ?_
              refine j_get G 0 9 6 in9 fl9_30 d9_pull_84 rfl rfl (by decide) (v := .ref (xa 6)) rfl rfl ?_
              refine j_iload_n G 3 rfl d9_pull_87 ?_
              refine j_VP G (k5_momentOf (xl Γ) E (xa 6) (xa 20) (xa 21) (xa 22) (xa 23) U step (by first | assumption | omega | (simp only [upS, reduceIte, Nat.reduceEqDiff, eq_self, List.length_cons, List.length_nil, List.length_append] <;> omega))) mw5_momentOf ml9_139 [1] rfl 1 5 rfl rfl rfl ⟨Nat.le_of_ble_eq_true rfl, Nat.le_of_ble_eq_true rfl⟩ rfl (rest := [.ref da, .int (iZ (((C 3) * (d - u)) + w)), .int (iZ i), .ref ca]) rfl (Nat.le_of_ble_eq_true rfl) d9_pull_88 ⟨Nat.le_of_ble_eq_true rfl, Nat.le_of_ble_eq_true rfl⟩ (fun r hr => ?_)
              obtain ⟨_, rfl, rfl⟩ := hr
              refine j_iald G 5 rfl (by omega) d9_pull_91 ?_
              refine j_VP G (k1_pullAt (xl Γ) E ca pa da sa C P i (((C 3) * (d - u)) + w) (dr (12 * (U 1) + step)) (by first | assumption | omega | (simp only [upS, reduceIte, Nat.reduceEqDiff, eq_self, List.length_cons, List.length_nil, List.length_append] <;> omega))) mw1_pullAt ml9_157 [3, 4] rfl 3 1 rfl rfl rfl ⟨Nat.le_of_ble_eq_true rfl, Nat.le_of_ble_eq_true rfl⟩ rfl (rest := []) rfl (Nat.le_of_ble_eq_true rfl) d9_pull_92 ⟨Nat.le_of_ble_eq_true rfl, Nat.le_of_ble_eq_true rfl⟩ (fun r hr => ?_)
              obtain ⟨v22, rfl, hq21⟩ := hr
              have hpb := pul_r hwf (k := i) (load := C 3 * (d - u) + w) (drag := (dr (12 * U 1 + step))) (by omega) (by omega) (by omega) (by omega) (by omega) (by omega)
              refine j_i2l G d9_pull_95 (by omega) ?_
              exact j_lret G F d9_pull_96 ⟨v22, rfl, (by first | (left; exact ⟨⟨by omega, by omega, by omega, by omega, by omega⟩, by assumption⟩) | (right; exact ⟨fun q => (by obtain ⟨q1, q2, q3, q4, q5⟩ := q; omega), rfl⟩))⟩
theorem d9_stops_0 : decode c9_stops 0 = .ok (.aload_n 0, 1) := by decide +kernel
theorem d9_stops_1 : decode c9_stops 1 = .ok (.invokevirtual 107, 3) := by decide +kernel
theorem d9_stops_4 : decode c9_stops 4 = .ok (.astore 5, 2) := by decide +kernel
theorem d9_stops_6 : decode c9_stops 6 = .ok (.aload 5, 2) := by decide +kernel
theorem d9_stops_8 : decode c9_stops 8 = .ok (.ifnull 10, 3) := by decide +kernel
theorem d9_stops_18 : decode c9_stops 18 = .ok (.iconst (-1), 1) := by decide +kernel
theorem d9_stops_19 : decode c9_stops 19 = .ok (.ireturn, 1) := by decide +kernel
theorem mw9_stops : MV y9_stops c9_stops 6 (some .int) 4 := ⟨cd9_stops, ini9, na9_stops, im9_stops, se9_stops⟩
set_option maxHeartbeats 4000000 in
set_option maxRecDepth 100000 in
theorem k9_stopsn (l : Launch) (E : En) (xo : Nat) (xa : Nat → Nat) (X : Nat → Int) (U : Nat → Int) (step : Int) (d : Int) (u : Int) (w : Int) (r_step : R32 step) (r_d : R32 d) (r_u : R32 u) (r_w : R32 w) (hu3 : U 3 < 0) (hu4 : -100 ≤ U 3) : Cp l E y9_stops c9_stops 6 (some .int) 1 21 [.ref xo, .int (iZ step), .int (iZ d), .int (iZ u), .int (iZ w)] [(xo, xO xa X), (xa 6, o5 (some (xa 20)) (some (xa 21)) (some (xa 22)) (some (xa 23)) U)] (fun r => ∃ (v : Int), r = some (.int (iZ v)) ∧ (v = -1)) := by
  refine Cp.of (by decide +kernel) (Nat.le_of_ble_eq_true rfl) (fun Γ hl hargs G F => ?_)
  subst hl
  refine j_aload_n G 0 rfl d9_stops_0 ?_
  refine j_VP G (k9_theCliffn (xl Γ) E xo xa X U (by first | assumption | omega | (simp only [upS, reduceIte, Nat.reduceEqDiff, eq_self, List.length_cons, List.length_nil, List.length_append] <;> omega)) (by first | assumption | omega | (simp only [upS, reduceIte, Nat.reduceEqDiff, eq_self, List.length_cons, List.length_nil, List.length_append] <;> omega))) mw9_theCliff ml9_107 [0, 1] rfl 0 9 rfl rfl rfl ⟨Nat.le_of_ble_eq_true rfl, Nat.le_of_ble_eq_true rfl⟩ rfl (rest := []) rfl (Nat.le_of_ble_eq_true rfl) d9_stops_1 ⟨Nat.le_of_ble_eq_true rfl, Nat.le_of_ble_eq_true rfl⟩ (fun r hr => ?_)
  obtain ⟨rfl, hq1⟩ := hr
  refine j_astoreN G d9_stops_4 (by decide) rfl ?_
  refine j_aloadN G 0 rfl d9_stops_6 ?_
  refine j_ifnullN (tgt := 18) G d9_stops_8 (by decide) ?_
  refine j_iconst G d9_stops_18 ?_
  exact j_iret G F d9_stops_19 ⟨(-1), rfl, (by first | rfl | omega)⟩
theorem d9_stops_11 : decode c9_stops 11 = .ok (.iload_n 1, 1) := by decide +kernel
theorem d9_stops_12 : decode c9_stops 12 = .ok (.invokestatic 135, 3) := by decide +kernel
theorem d9_stops_15 : decode c9_stops 15 = .ok (.ifCond .eq 5, 3) := by decide +kernel
theorem d9_stops_20 : decode c9_stops 20 = .ok (.iload_n 2, 1) := by decide +kernel
theorem d9_stops_21 : decode c9_stops 21 = .ok (.invokestatic 151, 3) := by decide +kernel
theorem d9_stops_24 : decode c9_stops 24 = .ok (.ifCond .ne 18, 3) := by decide +kernel
theorem d9_stops_27 : decode c9_stops 27 = .ok (.iload_n 3, 1) := by decide +kernel
theorem d9_stops_28 : decode c9_stops 28 = .ok (.invokestatic 151, 3) := by decide +kernel
theorem d9_stops_31 : decode c9_stops 31 = .ok (.ifCond .ne 11, 3) := by decide +kernel
theorem d9_stops_34 : decode c9_stops 34 = .ok (.iload 4, 2) := by decide +kernel
theorem d9_stops_36 : decode c9_stops 36 = .ok (.invokestatic 154, 3) := by decide +kernel
theorem d9_stops_39 : decode c9_stops 39 = .ok (.ifCond .eq 6, 3) := by decide +kernel
theorem d9_stops_42 : decode c9_stops 42 = .ok (.bipush (-2), 2) := by decide +kernel
theorem d9_stops_44 : decode c9_stops 44 = .ok (.ireturn, 1) := by decide +kernel
theorem d9_stops_45 : decode c9_stops 45 = .ok (.aload 5, 2) := by decide +kernel
theorem d9_stops_47 : decode c9_stops 47 = .ok (.aload 5, 2) := by decide +kernel
theorem d9_stops_49 : decode c9_stops 49 = .ok (.getfield 120, 3) := by decide +kernel
theorem d9_stops_52 : decode c9_stops 52 = .ok (.iload_n 2, 1) := by decide +kernel
theorem d9_stops_53 : decode c9_stops 53 = .ok (.iload_n 3, 1) := by decide +kernel
theorem d9_stops_54 : decode c9_stops 54 = .ok (.isub, 1) := by decide +kernel
theorem d9_stops_55 : decode c9_stops 55 = .ok (.imul, 1) := by decide +kernel
theorem d9_stops_56 : decode c9_stops 56 = .ok (.iload 4, 2) := by decide +kernel
theorem d9_stops_58 : decode c9_stops 58 = .ok (.iadd, 1) := by decide +kernel
theorem d9_stops_59 : decode c9_stops 59 = .ok (.aload 5, 2) := by decide +kernel
theorem d9_stops_61 : decode c9_stops 61 = .ok (.getfield 143, 3) := by decide +kernel
theorem d9_stops_64 : decode c9_stops 64 = .ok (.aload_n 0, 1) := by decide +kernel
theorem d9_stops_65 : decode c9_stops 65 = .ok (.getfield 30, 3) := by decide +kernel
theorem d9_stops_68 : decode c9_stops 68 = .ok (.iload_n 1, 1) := by decide +kernel
theorem d9_stops_69 : decode c9_stops 69 = .ok (.invokevirtual 139, 3) := by decide +kernel
theorem d9_stops_72 : decode c9_stops 72 = .ok (.iaload, 1) := by decide +kernel
theorem d9_stops_73 : decode c9_stops 73 = .ok (.invokevirtual 161, 3) := by decide +kernel
theorem d9_stops_76 : decode c9_stops 76 = .ok (.ireturn, 1) := by decide +kernel
set_option maxHeartbeats 4000000 in
set_option maxRecDepth 100000 in
theorem k9_stopsc (l : Launch) (E : En) (xo : Nat) (xa : Nat → Nat) (X : Nat → Int) (U : Nat → Int) (ck : Nat → Option Nat) (ca : Nat) (pa : Nat) (da : Nat) (sa : Nat) (C : Nat → Int) (P : Int → Int) (dr : Int → Int) (sr : Int → Int) (step : Int) (d : Int) (u : Int) (w : Int) (r_step : R32 step) (r_d : R32 d) (r_u : R32 u) (r_w : R32 w) (hu3 : 0 ≤ U 3 ∧ U 3 < X 3 ∧ X 3 ≤ 4) (hck : ck (U 3).toNat = some ca) (hwf : wfC C P) (hU1 : U 1 = 0 ∨ U 1 = 1) (hdr : ∀ j, 0 ≤ j → j < 24 → (0 ≤ dr j ∧ dr j ≤ 11988)) : Cp l E y9_stops c9_stops 6 (some .int) 2 47 [.ref xo, .int (iZ step), .int (iZ d), .int (iZ u), .int (iZ w)] [(xo, xO xa X), (xa 6, o5 (some (xa 20)) (some (xa 21)) (some (xa 22)) (some (xa 23)) U), (xa 2, aRef E 3 4 ck), (ca, o1 (some pa) (some da) (some sa) C), (pa, aInt E 5 P), (da, aInt E 24 dr), (sa, aInt E 24 sr)] (fun r => ∃ (v : Int), r = some (.int (iZ v)) ∧ (v = (if 0 ≤ step ∧ step ≤ 11 then (if ((0 ≤ d ∧ d ≤ 6) ∧ (0 ≤ u ∧ u ≤ 6)) ∧ (0 ≤ w ∧ w ≤ 99) then stopM C P (C 3 * (d - u) + w) (dr (12 * U 1 + step)) else -2) else -1))) := by
  refine Cp.of (by decide +kernel) (Nat.le_of_ble_eq_true rfl) (fun Γ hl hargs G F => ?_)
  subst hl
  have hw1 := hwf.1
  have hw7 := hwf.2.2.2.2.2.2.2
  refine j_aload_n G 0 rfl d9_stops_0 ?_
  refine j_VP G (k9_theCliffc (xl Γ) E xo xa X U ck ca (by first | assumption | omega | (simp only [upS, reduceIte, Nat.reduceEqDiff, eq_self, List.length_cons, List.length_nil, List.length_append] <;> omega)) (by first | assumption | omega | (simp only [upS, reduceIte, Nat.reduceEqDiff, eq_self, List.length_cons, List.length_nil, List.length_append] <;> omega))) mw9_theCliff ml9_107 [0, 1, 2] rfl 0 9 rfl rfl rfl ⟨Nat.le_of_ble_eq_true rfl, Nat.le_of_ble_eq_true rfl⟩ rfl (rest := []) rfl (Nat.le_of_ble_eq_true rfl) d9_stops_1 ⟨Nat.le_of_ble_eq_true rfl, Nat.le_of_ble_eq_true rfl⟩ (fun r hr => ?_)
  obtain ⟨rfl, hq1⟩ := hr
  refine j_astore G d9_stops_4 (by decide) rfl ?_
  refine j_aload G 0 rfl d9_stops_6 ?_
  refine j_ifnull G d9_stops_8 ?_
  refine j_iload_n G 2 rfl d9_stops_11 ?_
  refine j_SP G (k9_isNoStep (xl Γ) E step (by first | assumption | omega | (simp only [upS, reduceIte, Nat.reduceEqDiff, eq_self, List.length_cons, List.length_nil, List.length_append] <;> omega))) mw9_isNoStep ml9_135 [] rfl ⟨Nat.le_of_ble_eq_true rfl, Nat.le_of_ble_eq_true rfl⟩ rfl (rest := []) rfl (Nat.le_of_ble_eq_true rfl) d9_stops_12 ⟨Nat.le_of_ble_eq_true rfl, Nat.le_of_ble_eq_true rfl⟩ (fun r hr => ?_)
  obtain ⟨v3, rfl, hq2⟩ := hr
  rcases hq2 with ⟨hq2, rfl⟩ | ⟨hq2, rfl⟩
  ·
    refine j_if_eq (tgt := 20) G d9_stops_15 (by decide) (by decide) (fun h4 => absurd h4 (by decide)) (fun h4 => ?_)
    refine j_iconst G d9_stops_18 ?_
    exact j_iret G F d9_stops_19 ⟨(-1), rfl, (by first | (rw [if_neg (by omega)]; done) | (rw [if_pos (by omega), if_neg (by omega)]; done) | (rw [if_pos (by omega), if_pos (by omega)]; assumption))⟩
  ·
    refine j_if_eq (tgt := 20) G d9_stops_15 (by decide) (by decide) (fun h5 => ?_) (fun h5 => absurd h5 (by decide))
    refine j_iload_n G 3 rfl d9_stops_20 ?_
    refine j_SP G (k9_areNoHeads (xl Γ) E d (by first | assumption | omega | (simp only [upS, reduceIte, Nat.reduceEqDiff, eq_self, List.length_cons, List.length_nil, List.length_append] <;> omega))) mw9_areNoHeads ml9_151 [] rfl ⟨Nat.le_of_ble_eq_true rfl, Nat.le_of_ble_eq_true rfl⟩ rfl (rest := []) rfl (Nat.le_of_ble_eq_true rfl) d9_stops_21 ⟨Nat.le_of_ble_eq_true rfl, Nat.le_of_ble_eq_true rfl⟩ (fun r hr => ?_)
    obtain ⟨v7, rfl, hq6⟩ := hr
    rcases hq6 with ⟨hq6, rfl⟩ | ⟨hq6, rfl⟩
    ·
      refine j_if_ne (tgt := 42) G d9_stops_24 (by decide) (by decide) (fun h8 => ?_) (fun h8 => absurd h8 (by decide))
      refine j_bipush G d9_stops_42 rfl ?_
      exact j_iret G F d9_stops_44 ⟨(-2), rfl, (by first | (rw [if_neg (by omega)]; done) | (rw [if_pos (by omega), if_neg (by omega)]; done) | (rw [if_pos (by omega), if_pos (by omega)]; assumption))⟩
    ·
      refine j_if_ne (tgt := 42) G d9_stops_24 (by decide) (by decide) (fun h9 => absurd h9 (by decide)) (fun h9 => ?_)
      refine j_iload_n G 4 rfl d9_stops_27 ?_
      refine j_SP G (k9_areNoHeads (xl Γ) E u (by first | assumption | omega | (simp only [upS, reduceIte, Nat.reduceEqDiff, eq_self, List.length_cons, List.length_nil, List.length_append] <;> omega))) mw9_areNoHeads ml9_151 [] rfl ⟨Nat.le_of_ble_eq_true rfl, Nat.le_of_ble_eq_true rfl⟩ rfl (rest := []) rfl (Nat.le_of_ble_eq_true rfl) d9_stops_28 ⟨Nat.le_of_ble_eq_true rfl, Nat.le_of_ble_eq_true rfl⟩ (fun r hr => ?_)
      obtain ⟨v11, rfl, hq10⟩ := hr
      rcases hq10 with ⟨hq10, rfl⟩ | ⟨hq10, rfl⟩
      ·
        refine j_if_ne (tgt := 42) G d9_stops_31 (by decide) (by decide) (fun h12 => ?_) (fun h12 => absurd h12 (by decide))
        refine j_bipush G d9_stops_42 rfl ?_
        exact j_iret G F d9_stops_44 ⟨(-2), rfl, (by first | (rw [if_neg (by omega)]; done) | (rw [if_pos (by omega), if_neg (by omega)]; done) | (rw [if_pos (by omega), if_pos (by omega)]; assumption))⟩
      ·
        refine j_if_ne (tgt := 42) G d9_stops_31 (by decide) (by decide) (fun h13 => absurd h13 (by decide)) (fun h13 => ?_)
        refine j_iload G 5 rfl d9_stops_34 ?_
        refine j_SP G (k9_areNoPints (xl Γ) E w (by first | assumption | omega | (simp only [upS, reduceIte, Nat.reduceEqDiff, eq_self, List.length_cons, List.length_nil, List.length_append] <;> omega))) mw9_areNoPints ml9_154 [] rfl ⟨Nat.le_of_ble_eq_true rfl, Nat.le_of_ble_eq_true rfl⟩ rfl (rest := []) rfl (Nat.le_of_ble_eq_true rfl) d9_stops_36 ⟨Nat.le_of_ble_eq_true rfl, Nat.le_of_ble_eq_true rfl⟩ (fun r hr => ?_)
        obtain ⟨v15, rfl, hq14⟩ := hr
        rcases hq14 with ⟨hq14, rfl⟩ | ⟨hq14, rfl⟩
        ·
          refine j_if_eq (tgt := 45) G d9_stops_39 (by decide) (by decide) (fun h16 => absurd h16 (by decide)) (fun h16 => ?_)
          refine j_bipush G d9_stops_42 rfl ?_
          exact j_iret G F d9_stops_44 ⟨(-2), rfl, (by first | (rw [if_neg (by omega)]; done) | (rw [if_pos (by omega), if_neg (by omega)]; done) | (rw [if_pos (by omega), if_pos (by omega)]; assumption))⟩
        ·
          refine j_if_eq (tgt := 45) G d9_stops_39 (by decide) (by decide) (fun h17 => ?_) (fun h17 => absurd h17 (by decide))
          have hdq := hdr (12 * U 1 + step) (by omega) (by omega)
          have hw3 := hwf.2.2.2.1
          have hmb := mulb (a := C 3) (b := d - u) (A := 999) (B := 6) hw3.1 hw3.2 (by omega) (by omega)
          have hw5 := hwf.2.2.2.2.2.1
          refine j_aload G 0 rfl d9_stops_45 ?_
          refine j_aload G 0 rfl d9_stops_47 ?_
          refine j_get G 3 1 3 in1 fl9_120 d9_stops_49 rfl rfl (by decide) (v := .int (iZ (C 3))) rfl rfl ?_
          refine j_iload_n G 3 rfl d9_stops_52 ?_
          refine j_iload_n G 4 rfl d9_stops_53 ?_
          refine j_isub G d9_stops_54 ?_
          refine j_imul G d9_stops_55 ?_
          refine j_iload G 5 rfl d9_stops_56 ?_
          refine j_iadd G d9_stops_58 ?_
          refine j_aload G 0 rfl d9_stops_59 ?_
          refine j_get G 3 1 8 in1 fl9_143 d9_stops_61 rfl rfl (by decide) (v := .ref da) rfl rfl ?_
          refine j_aload_n G 1 rfl d9_stops_64 ?_
          refine j_get G 0 9 6 in9 fl9_30 d9_stops_65 rfl rfl (by decide) (v := .ref (xa 6)) rfl rfl ?_
          refine j_iload_n G 2 rfl d9_stops_68 ?_
          refine j_VP G (k5_momentOf (xl Γ) E (xa 6) (xa 20) (xa 21) (xa 22) (xa 23) U step (by first | assumption | omega | (simp only [upS, reduceIte, Nat.reduceEqDiff, eq_self, List.length_cons, List.length_nil, List.length_append] <;> omega))) mw5_momentOf ml9_139 [1] rfl 1 5 rfl rfl rfl ⟨Nat.le_of_ble_eq_true rfl, Nat.le_of_ble_eq_true rfl⟩ rfl (rest := [.ref da, .int (iZ (((C 3) * (d - u)) + w)), .ref ca]) rfl (Nat.le_of_ble_eq_true rfl) d9_stops_69 ⟨Nat.le_of_ble_eq_true rfl, Nat.le_of_ble_eq_true rfl⟩ (fun r hr => ?_)
          obtain ⟨_, rfl, rfl⟩ := hr
          refine j_iald G 5 rfl (by omega) d9_stops_72 ?_
          refine j_VP G (k1_stopOf (xl Γ) E ca pa da sa C P (((C 3) * (d - u)) + w) (dr (12 * (U 1) + step)) (by first | assumption | omega | (simp only [upS, reduceIte, Nat.reduceEqDiff, eq_self, List.length_cons, List.length_nil, List.length_append] <;> omega)) (by first | assumption | omega | (simp only [upS, reduceIte, Nat.reduceEqDiff, eq_self, List.length_cons, List.length_nil, List.length_append] <;> omega)) (by first | assumption | omega | (simp only [upS, reduceIte, Nat.reduceEqDiff, eq_self, List.length_cons, List.length_nil, List.length_append] <;> omega))) mw1_stopOf ml9_161 [3, 4] rfl 3 1 rfl rfl rfl ⟨Nat.le_of_ble_eq_true rfl, Nat.le_of_ble_eq_true rfl⟩ rfl (rest := []) rfl (Nat.le_of_ble_eq_true rfl) d9_stops_73 ⟨Nat.le_of_ble_eq_true rfl, Nat.le_of_ble_eq_true rfl⟩ (fun r hr => ?_)
          obtain ⟨v20, rfl, hq19⟩ := hr
          exact j_iret G F d9_stops_76 ⟨v20, rfl, (by first | (rw [if_neg (by omega)]; done) | (rw [if_pos (by omega), if_neg (by omega)]; done) | (rw [if_pos (by omega), if_pos (by omega)]; assumption))⟩
theorem d9_least_0 : decode c9_least 0 = .ok (.aload_n 0, 1) := by decide +kernel
theorem d9_least_1 : decode c9_least 1 = .ok (.invokevirtual 107, 3) := by decide +kernel
theorem d9_least_4 : decode c9_least 4 = .ok (.astore 4, 2) := by decide +kernel
theorem d9_least_6 : decode c9_least 6 = .ok (.aload 4, 2) := by decide +kernel
theorem d9_least_8 : decode c9_least 8 = .ok (.ifnull 10, 3) := by decide +kernel
theorem d9_least_18 : decode c9_least 18 = .ok (.iconst (-1), 1) := by decide +kernel
theorem d9_least_19 : decode c9_least 19 = .ok (.ireturn, 1) := by decide +kernel
theorem mw9_least : MV y9_least c9_least 5 (some .int) 3 := ⟨cd9_least, ini9, na9_least, im9_least, se9_least⟩
set_option maxHeartbeats 4000000 in
set_option maxRecDepth 100000 in
theorem k9_leastn (l : Launch) (E : En) (xo : Nat) (xa : Nat → Nat) (X : Nat → Int) (U : Nat → Int) (step : Int) (d : Int) (u : Int) (r_step : R32 step) (r_d : R32 d) (r_u : R32 u) (hu3 : U 3 < 0) (hu4 : -100 ≤ U 3) : Cp l E y9_least c9_least 5 (some .int) 1 21 [.ref xo, .int (iZ step), .int (iZ d), .int (iZ u)] [(xo, xO xa X), (xa 6, o5 (some (xa 20)) (some (xa 21)) (some (xa 22)) (some (xa 23)) U)] (fun r => ∃ (v : Int), r = some (.int (iZ v)) ∧ (v = -1)) := by
  refine Cp.of (by decide +kernel) (Nat.le_of_ble_eq_true rfl) (fun Γ hl hargs G F => ?_)
  subst hl
  refine j_aload_n G 0 rfl d9_least_0 ?_
  refine j_VP G (k9_theCliffn (xl Γ) E xo xa X U (by first | assumption | omega | (simp only [upS, reduceIte, Nat.reduceEqDiff, eq_self, List.length_cons, List.length_nil, List.length_append] <;> omega)) (by first | assumption | omega | (simp only [upS, reduceIte, Nat.reduceEqDiff, eq_self, List.length_cons, List.length_nil, List.length_append] <;> omega))) mw9_theCliff ml9_107 [0, 1] rfl 0 9 rfl rfl rfl ⟨Nat.le_of_ble_eq_true rfl, Nat.le_of_ble_eq_true rfl⟩ rfl (rest := []) rfl (Nat.le_of_ble_eq_true rfl) d9_least_1 ⟨Nat.le_of_ble_eq_true rfl, Nat.le_of_ble_eq_true rfl⟩ (fun r hr => ?_)
  obtain ⟨rfl, hq1⟩ := hr
  refine j_astoreN G d9_least_4 (by decide) rfl ?_
  refine j_aloadN G 0 rfl d9_least_6 ?_
  refine j_ifnullN (tgt := 18) G d9_least_8 (by decide) ?_
  refine j_iconst G d9_least_18 ?_
  exact j_iret G F d9_least_19 ⟨(-1), rfl, (by first | rfl | omega)⟩
theorem d9_least_11 : decode c9_least 11 = .ok (.iload_n 1, 1) := by decide +kernel
theorem d9_least_12 : decode c9_least 12 = .ok (.invokestatic 135, 3) := by decide +kernel
theorem d9_least_15 : decode c9_least 15 = .ok (.ifCond .eq 5, 3) := by decide +kernel
theorem d9_least_20 : decode c9_least 20 = .ok (.iload_n 2, 1) := by decide +kernel
theorem d9_least_21 : decode c9_least 21 = .ok (.invokestatic 151, 3) := by decide +kernel
theorem d9_least_24 : decode c9_least 24 = .ok (.ifCond .ne 10, 3) := by decide +kernel
theorem d9_least_27 : decode c9_least 27 = .ok (.iload_n 3, 1) := by decide +kernel
theorem d9_least_28 : decode c9_least 28 = .ok (.invokestatic 151, 3) := by decide +kernel
theorem d9_least_31 : decode c9_least 31 = .ok (.ifCond .eq 6, 3) := by decide +kernel
theorem d9_least_34 : decode c9_least 34 = .ok (.bipush (-2), 2) := by decide +kernel
theorem d9_least_36 : decode c9_least 36 = .ok (.ireturn, 1) := by decide +kernel
theorem d9_least_37 : decode c9_least 37 = .ok (.aload 4, 2) := by decide +kernel
theorem d9_least_39 : decode c9_least 39 = .ok (.iload_n 2, 1) := by decide +kernel
theorem d9_least_40 : decode c9_least 40 = .ok (.iload_n 3, 1) := by decide +kernel
theorem d9_least_41 : decode c9_least 41 = .ok (.isub, 1) := by decide +kernel
theorem d9_least_42 : decode c9_least 42 = .ok (.aload 4, 2) := by decide +kernel
theorem d9_least_44 : decode c9_least 44 = .ok (.getfield 143, 3) := by decide +kernel
theorem d9_least_47 : decode c9_least 47 = .ok (.aload_n 0, 1) := by decide +kernel
theorem d9_least_48 : decode c9_least 48 = .ok (.getfield 30, 3) := by decide +kernel
theorem d9_least_51 : decode c9_least 51 = .ok (.iload_n 1, 1) := by decide +kernel
theorem d9_least_52 : decode c9_least 52 = .ok (.invokevirtual 139, 3) := by decide +kernel
theorem d9_least_55 : decode c9_least 55 = .ok (.iaload, 1) := by decide +kernel
theorem d9_least_56 : decode c9_least 56 = .ok (.aload 4, 2) := by decide +kernel
theorem d9_least_58 : decode c9_least 58 = .ok (.getfield 126, 3) := by decide +kernel
theorem d9_least_61 : decode c9_least 61 = .ok (.invokevirtual 165, 3) := by decide +kernel
theorem d9_least_64 : decode c9_least 64 = .ok (.ireturn, 1) := by decide +kernel
set_option maxHeartbeats 4000000 in
set_option maxRecDepth 100000 in
theorem k9_leastc (l : Launch) (E : En) (xo : Nat) (xa : Nat → Nat) (X : Nat → Int) (U : Nat → Int) (ck : Nat → Option Nat) (ca : Nat) (pa : Nat) (da : Nat) (sa : Nat) (C : Nat → Int) (P : Int → Int) (dr : Int → Int) (sr : Int → Int) (step : Int) (d : Int) (u : Int) (r_step : R32 step) (r_d : R32 d) (r_u : R32 u) (hu3 : 0 ≤ U 3 ∧ U 3 < X 3 ∧ X 3 ≤ 4) (hck : ck (U 3).toNat = some ca) (hwf : wfC C P) (hU1 : U 1 = 0 ∨ U 1 = 1) (hdr : ∀ j, 0 ≤ j → j < 24 → (0 ≤ dr j ∧ dr j ≤ 11988)) : Cp l E y9_least c9_least 5 (some .int) 2 51 [.ref xo, .int (iZ step), .int (iZ d), .int (iZ u)] [(xo, xO xa X), (xa 6, o5 (some (xa 20)) (some (xa 21)) (some (xa 22)) (some (xa 23)) U), (xa 2, aRef E 3 4 ck), (ca, o1 (some pa) (some da) (some sa) C), (pa, aInt E 5 P), (da, aInt E 24 dr), (sa, aInt E 24 sr)] (fun r => ∃ (v : Int), r = some (.int (iZ v)) ∧ (v = (if 0 ≤ step ∧ step ≤ 11 then (if ((0 ≤ d ∧ d ≤ 6) ∧ (0 ≤ u ∧ u ≤ 6)) then lF C P (dr (12 * U 1 + step)) (d - u) (C 5) else -2) else -1))) := by
  refine Cp.of (by decide +kernel) (Nat.le_of_ble_eq_true rfl) (fun Γ hl hargs G F => ?_)
  subst hl
  have hw1 := hwf.1
  have hw7 := hwf.2.2.2.2.2.2.2
  refine j_aload_n G 0 rfl d9_least_0 ?_
  refine j_VP G (k9_theCliffc (xl Γ) E xo xa X U ck ca (by first | assumption | omega | (simp only [upS, reduceIte, Nat.reduceEqDiff, eq_self, List.length_cons, List.length_nil, List.length_append] <;> omega)) (by first | assumption | omega | (simp only [upS, reduceIte, Nat.reduceEqDiff, eq_self, List.length_cons, List.length_nil, List.length_append] <;> omega))) mw9_theCliff ml9_107 [0, 1, 2] rfl 0 9 rfl rfl rfl ⟨Nat.le_of_ble_eq_true rfl, Nat.le_of_ble_eq_true rfl⟩ rfl (rest := []) rfl (Nat.le_of_ble_eq_true rfl) d9_least_1 ⟨Nat.le_of_ble_eq_true rfl, Nat.le_of_ble_eq_true rfl⟩ (fun r hr => ?_)
  obtain ⟨rfl, hq1⟩ := hr
  refine j_astore G d9_least_4 (by decide) rfl ?_
  refine j_aload G 0 rfl d9_least_6 ?_
  refine j_ifnull G d9_least_8 ?_
  refine j_iload_n G 2 rfl d9_least_11 ?_
  refine j_SP G (k9_isNoStep (xl Γ) E step (by first | assumption | omega | (simp only [upS, reduceIte, Nat.reduceEqDiff, eq_self, List.length_cons, List.length_nil, List.length_append] <;> omega))) mw9_isNoStep ml9_135 [] rfl ⟨Nat.le_of_ble_eq_true rfl, Nat.le_of_ble_eq_true rfl⟩ rfl (rest := []) rfl (Nat.le_of_ble_eq_true rfl) d9_least_12 ⟨Nat.le_of_ble_eq_true rfl, Nat.le_of_ble_eq_true rfl⟩ (fun r hr => ?_)
  obtain ⟨v3, rfl, hq2⟩ := hr
  rcases hq2 with ⟨hq2, rfl⟩ | ⟨hq2, rfl⟩
  ·
    refine j_if_eq (tgt := 20) G d9_least_15 (by decide) (by decide) (fun h4 => absurd h4 (by decide)) (fun h4 => ?_)
    refine j_iconst G d9_least_18 ?_
    exact j_iret G F d9_least_19 ⟨(-1), rfl, (by first | (rw [if_neg (by omega)]; done) | (rw [if_pos (by omega), if_neg (by omega)]; done) | (rw [if_pos (by omega), if_pos (by omega)]; exact isL_lF (by assumption)))⟩
  ·
    refine j_if_eq (tgt := 20) G d9_least_15 (by decide) (by decide) (fun h5 => ?_) (fun h5 => absurd h5 (by decide))
    refine j_iload_n G 3 rfl d9_least_20 ?_
    refine j_SP G (k9_areNoHeads (xl Γ) E d (by first | assumption | omega | (simp only [upS, reduceIte, Nat.reduceEqDiff, eq_self, List.length_cons, List.length_nil, List.length_append] <;> omega))) mw9_areNoHeads ml9_151 [] rfl ⟨Nat.le_of_ble_eq_true rfl, Nat.le_of_ble_eq_true rfl⟩ rfl (rest := []) rfl (Nat.le_of_ble_eq_true rfl) d9_least_21 ⟨Nat.le_of_ble_eq_true rfl, Nat.le_of_ble_eq_true rfl⟩ (fun r hr => ?_)
    obtain ⟨v7, rfl, hq6⟩ := hr
    rcases hq6 with ⟨hq6, rfl⟩ | ⟨hq6, rfl⟩
    ·
      refine j_if_ne (tgt := 34) G d9_least_24 (by decide) (by decide) (fun h8 => ?_) (fun h8 => absurd h8 (by decide))
      refine j_bipush G d9_least_34 rfl ?_
      exact j_iret G F d9_least_36 ⟨(-2), rfl, (by first | (rw [if_neg (by omega)]; done) | (rw [if_pos (by omega), if_neg (by omega)]; done) | (rw [if_pos (by omega), if_pos (by omega)]; exact isL_lF (by assumption)))⟩
    ·
      refine j_if_ne (tgt := 34) G d9_least_24 (by decide) (by decide) (fun h9 => absurd h9 (by decide)) (fun h9 => ?_)
      refine j_iload_n G 4 rfl d9_least_27 ?_
      refine j_SP G (k9_areNoHeads (xl Γ) E u (by first | assumption | omega | (simp only [upS, reduceIte, Nat.reduceEqDiff, eq_self, List.length_cons, List.length_nil, List.length_append] <;> omega))) mw9_areNoHeads ml9_151 [] rfl ⟨Nat.le_of_ble_eq_true rfl, Nat.le_of_ble_eq_true rfl⟩ rfl (rest := []) rfl (Nat.le_of_ble_eq_true rfl) d9_least_28 ⟨Nat.le_of_ble_eq_true rfl, Nat.le_of_ble_eq_true rfl⟩ (fun r hr => ?_)
      obtain ⟨v11, rfl, hq10⟩ := hr
      rcases hq10 with ⟨hq10, rfl⟩ | ⟨hq10, rfl⟩
      ·
        refine j_if_eq (tgt := 37) G d9_least_31 (by decide) (by decide) (fun h12 => absurd h12 (by decide)) (fun h12 => ?_)
        refine j_bipush G d9_least_34 rfl ?_
        exact j_iret G F d9_least_36 ⟨(-2), rfl, (by first | (rw [if_neg (by omega)]; done) | (rw [if_pos (by omega), if_neg (by omega)]; done) | (rw [if_pos (by omega), if_pos (by omega)]; exact isL_lF (by assumption)))⟩
      ·
        refine j_if_eq (tgt := 37) G d9_least_31 (by decide) (by decide) (fun h13 => ?_) (fun h13 => absurd h13 (by decide))
        have hdq := hdr (12 * U 1 + step) (by omega) (by omega)
        have hw3 := hwf.2.2.2.1
        have hmb := mulb (a := C 3) (b := d - u) (A := 999) (B := 6) hw3.1 hw3.2 (by omega) (by omega)
        have hw5 := hwf.2.2.2.2.2.1
        refine j_aload G 0 rfl d9_least_37 ?_
        refine j_iload_n G 3 rfl d9_least_39 ?_
        refine j_iload_n G 4 rfl d9_least_40 ?_
        refine j_isub G d9_least_41 ?_
        refine j_aload G 0 rfl d9_least_42 ?_
        refine j_get G 3 1 8 in1 fl9_143 d9_least_44 rfl rfl (by decide) (v := .ref da) rfl rfl ?_
        refine j_aload_n G 1 rfl d9_least_47 ?_
        refine j_get G 0 9 6 in9 fl9_30 d9_least_48 rfl rfl (by decide) (v := .ref (xa 6)) rfl rfl ?_
        refine j_iload_n G 2 rfl d9_least_51 ?_
        refine j_VP G (k5_momentOf (xl Γ) E (xa 6) (xa 20) (xa 21) (xa 22) (xa 23) U step (by first | assumption | omega | (simp only [upS, reduceIte, Nat.reduceEqDiff, eq_self, List.length_cons, List.length_nil, List.length_append] <;> omega))) mw5_momentOf ml9_139 [1] rfl 1 5 rfl rfl rfl ⟨Nat.le_of_ble_eq_true rfl, Nat.le_of_ble_eq_true rfl⟩ rfl (rest := [.ref da, .int (iZ (d - u)), .ref ca]) rfl (Nat.le_of_ble_eq_true rfl) d9_least_52 ⟨Nat.le_of_ble_eq_true rfl, Nat.le_of_ble_eq_true rfl⟩ (fun r hr => ?_)
        obtain ⟨_, rfl, rfl⟩ := hr
        refine j_iald G 5 rfl (by omega) d9_least_55 ?_
        refine j_aload G 0 rfl d9_least_56 ?_
        refine j_get G 3 1 5 in1 fl9_126 d9_least_58 rfl rfl (by decide) (v := .int (iZ (C 5))) rfl rfl ?_
        refine j_VP G (k1_leastWater (xl Γ) E ca pa da sa C P (d - u) (dr (12 * (U 1) + step)) (C 5) (by first | assumption | omega | (simp only [upS, reduceIte, Nat.reduceEqDiff, eq_self, List.length_cons, List.length_nil, List.length_append] <;> omega)) (by first | assumption | omega | (simp only [upS, reduceIte, Nat.reduceEqDiff, eq_self, List.length_cons, List.length_nil, List.length_append] <;> omega)) (by first | assumption | omega | (simp only [upS, reduceIte, Nat.reduceEqDiff, eq_self, List.length_cons, List.length_nil, List.length_append] <;> omega)) (by first | assumption | omega | (simp only [upS, reduceIte, Nat.reduceEqDiff, eq_self, List.length_cons, List.length_nil, List.length_append] <;> omega))) mw1_leastWater ml9_165 [3, 4] rfl 3 1 rfl rfl rfl ⟨Nat.le_of_ble_eq_true rfl, Nat.le_of_ble_eq_true rfl⟩ rfl (rest := []) rfl (Nat.le_of_ble_eq_true rfl) d9_least_61 ⟨Nat.le_of_ble_eq_true rfl, Nat.le_of_ble_eq_true rfl⟩ (fun r hr => ?_)
        obtain ⟨v16, rfl, hq15⟩ := hr
        exact j_iret G F d9_least_64 ⟨v16, rfl, (by first | (rw [if_neg (by omega)]; done) | (rw [if_pos (by omega), if_neg (by omega)]; done) | (rw [if_pos (by omega), if_pos (by omega)]; exact isL_lF (by assumption)))⟩
theorem d9_jump_0 : decode c9_jump 0 = .ok (.aload_n 0, 1) := by decide +kernel
theorem d9_jump_1 : decode c9_jump 1 = .ok (.invokevirtual 107, 3) := by decide +kernel
theorem d9_jump_4 : decode c9_jump 4 = .ok (.astore 4, 2) := by decide +kernel
theorem d9_jump_6 : decode c9_jump 6 = .ok (.aload 4, 2) := by decide +kernel
theorem d9_jump_8 : decode c9_jump 8 = .ok (.ifnull 10, 3) := by decide +kernel
theorem d9_jump_18 : decode c9_jump 18 = .ok (.iconst (-1), 1) := by decide +kernel
theorem d9_jump_19 : decode c9_jump 19 = .ok (.ireturn, 1) := by decide +kernel
theorem mw9_jump : MV y9_jump c9_jump 8 (some .int) 3 := ⟨cd9_jump, ini9, na9_jump, im9_jump, se9_jump⟩
set_option maxHeartbeats 4000000 in
set_option maxRecDepth 100000 in
theorem k9_jumpn (l : Launch) (E : En) (xo : Nat) (xa : Nat → Nat) (X : Nat → Int) (U : Nat → Int) (step : Int) (d : Int) (u : Int) (r_step : R32 step) (r_d : R32 d) (r_u : R32 u) (hu3 : U 3 < 0) (hu4 : -100 ≤ U 3) : Cp l E y9_jump c9_jump 8 (some .int) 1 21 [.ref xo, .int (iZ step), .int (iZ d), .int (iZ u)] [(xo, xO xa X), (xa 6, o5 (some (xa 20)) (some (xa 21)) (some (xa 22)) (some (xa 23)) U)] (fun r => ∃ (v : Int), r = some (.int (iZ v)) ∧ (v = -1)) := by
  refine Cp.of (by decide +kernel) (Nat.le_of_ble_eq_true rfl) (fun Γ hl hargs G F => ?_)
  subst hl
  refine j_aload_n G 0 rfl d9_jump_0 ?_
  refine j_VP G (k9_theCliffn (xl Γ) E xo xa X U (by first | assumption | omega | (simp only [upS, reduceIte, Nat.reduceEqDiff, eq_self, List.length_cons, List.length_nil, List.length_append] <;> omega)) (by first | assumption | omega | (simp only [upS, reduceIte, Nat.reduceEqDiff, eq_self, List.length_cons, List.length_nil, List.length_append] <;> omega))) mw9_theCliff ml9_107 [0, 1] rfl 0 9 rfl rfl rfl ⟨Nat.le_of_ble_eq_true rfl, Nat.le_of_ble_eq_true rfl⟩ rfl (rest := []) rfl (Nat.le_of_ble_eq_true rfl) d9_jump_1 ⟨Nat.le_of_ble_eq_true rfl, Nat.le_of_ble_eq_true rfl⟩ (fun r hr => ?_)
  obtain ⟨rfl, hq1⟩ := hr
  refine j_astoreN G d9_jump_4 (by decide) rfl ?_
  refine j_aloadN G 0 rfl d9_jump_6 ?_
  refine j_ifnullN (tgt := 18) G d9_jump_8 (by decide) ?_
  refine j_iconst G d9_jump_18 ?_
  exact j_iret G F d9_jump_19 ⟨(-1), rfl, (by first | rfl | omega)⟩
theorem d9_jump_11 : decode c9_jump 11 = .ok (.iload_n 1, 1) := by decide +kernel
theorem d9_jump_12 : decode c9_jump 12 = .ok (.invokestatic 135, 3) := by decide +kernel
theorem d9_jump_15 : decode c9_jump 15 = .ok (.ifCond .eq 5, 3) := by decide +kernel
theorem d9_jump_20 : decode c9_jump 20 = .ok (.iload_n 2, 1) := by decide +kernel
theorem d9_jump_21 : decode c9_jump 21 = .ok (.invokestatic 151, 3) := by decide +kernel
theorem d9_jump_24 : decode c9_jump 24 = .ok (.ifCond .ne 10, 3) := by decide +kernel
theorem d9_jump_27 : decode c9_jump 27 = .ok (.iload_n 3, 1) := by decide +kernel
theorem d9_jump_28 : decode c9_jump 28 = .ok (.invokestatic 151, 3) := by decide +kernel
theorem d9_jump_31 : decode c9_jump 31 = .ok (.ifCond .eq 6, 3) := by decide +kernel
theorem d9_jump_34 : decode c9_jump 34 = .ok (.bipush (-2), 2) := by decide +kernel
theorem d9_jump_36 : decode c9_jump 36 = .ok (.ireturn, 1) := by decide +kernel
theorem d9_jump_37 : decode c9_jump 37 = .ok (.aload 4, 2) := by decide +kernel
theorem d9_jump_39 : decode c9_jump 39 = .ok (.getfield 143, 3) := by decide +kernel
theorem d9_jump_42 : decode c9_jump 42 = .ok (.aload_n 0, 1) := by decide +kernel
theorem d9_jump_43 : decode c9_jump 43 = .ok (.getfield 30, 3) := by decide +kernel
theorem d9_jump_46 : decode c9_jump 46 = .ok (.iload_n 1, 1) := by decide +kernel
theorem d9_jump_47 : decode c9_jump 47 = .ok (.invokevirtual 139, 3) := by decide +kernel
theorem d9_jump_50 : decode c9_jump 50 = .ok (.iaload, 1) := by decide +kernel
theorem d9_jump_51 : decode c9_jump 51 = .ok (.istore 5, 2) := by decide +kernel
theorem d9_jump_53 : decode c9_jump 53 = .ok (.aload 4, 2) := by decide +kernel
theorem d9_jump_55 : decode c9_jump 55 = .ok (.iload_n 2, 1) := by decide +kernel
theorem d9_jump_56 : decode c9_jump 56 = .ok (.iload_n 3, 1) := by decide +kernel
theorem d9_jump_57 : decode c9_jump 57 = .ok (.isub, 1) := by decide +kernel
theorem d9_jump_58 : decode c9_jump 58 = .ok (.iload 5, 2) := by decide +kernel
theorem d9_jump_60 : decode c9_jump 60 = .ok (.aload 4, 2) := by decide +kernel
theorem d9_jump_62 : decode c9_jump 62 = .ok (.getfield 126, 3) := by decide +kernel
theorem d9_jump_65 : decode c9_jump 65 = .ok (.invokevirtual 165, 3) := by decide +kernel
theorem d9_jump_68 : decode c9_jump 68 = .ok (.istore 6, 2) := by decide +kernel
theorem d9_jump_70 : decode c9_jump 70 = .ok (.iconst 1, 1) := by decide +kernel
theorem d9_jump_71 : decode c9_jump 71 = .ok (.istore 7, 2) := by decide +kernel
theorem d9_jump_73 : decode c9_jump 73 = .ok (.iload 7, 2) := by decide +kernel
theorem d9_jump_75 : decode c9_jump 75 = .ok (.bipush 99, 2) := by decide +kernel
theorem d9_jump_77 : decode c9_jump 77 = .ok (.if_icmp .gt 35, 3) := by decide +kernel
theorem d9_jump_80 : decode c9_jump 80 = .ok (.aload 4, 2) := by decide +kernel
theorem d9_jump_82 : decode c9_jump 82 = .ok (.iload_n 2, 1) := by decide +kernel
theorem d9_jump_83 : decode c9_jump 83 = .ok (.iload_n 3, 1) := by decide +kernel
theorem d9_jump_84 : decode c9_jump 84 = .ok (.isub, 1) := by decide +kernel
theorem d9_jump_85 : decode c9_jump 85 = .ok (.iload 5, 2) := by decide +kernel
theorem d9_jump_87 : decode c9_jump 87 = .ok (.iload 7, 2) := by decide +kernel
theorem d9_jump_89 : decode c9_jump 89 = .ok (.iadd, 1) := by decide +kernel
theorem d9_jump_90 : decode c9_jump 90 = .ok (.aload 4, 2) := by decide +kernel
theorem d9_jump_92 : decode c9_jump 92 = .ok (.getfield 126, 3) := by decide +kernel
theorem d9_jump_95 : decode c9_jump 95 = .ok (.invokevirtual 165, 3) := by decide +kernel
theorem d9_jump_98 : decode c9_jump 98 = .ok (.iload 6, 2) := by decide +kernel
theorem d9_jump_100 : decode c9_jump 100 = .ok (.if_icmp .eq 6, 3) := by decide +kernel
theorem d9_jump_103 : decode c9_jump 103 = .ok (.iload 7, 2) := by decide +kernel
theorem d9_jump_105 : decode c9_jump 105 = .ok (.ireturn, 1) := by decide +kernel
theorem d9_jump_106 : decode c9_jump 106 = .ok (.iinc 7 1, 3) := by decide +kernel
theorem d9_jump_109 : decode c9_jump 109 = .ok (.goto (-36), 3) := by decide +kernel
theorem d9_jump_112 : decode c9_jump 112 = .ok (.iconst 0, 1) := by decide +kernel
theorem d9_jump_113 : decode c9_jump 113 = .ok (.ireturn, 1) := by decide +kernel
set_option maxHeartbeats 4000000 in
set_option maxRecDepth 100000 in
theorem k9_jumpc (l : Launch) (E : En) (xo : Nat) (xa : Nat → Nat) (X : Nat → Int) (U : Nat → Int) (ck : Nat → Option Nat) (ca : Nat) (pa : Nat) (da : Nat) (sa : Nat) (C : Nat → Int) (P : Int → Int) (dr : Int → Int) (sr : Int → Int) (step : Int) (d : Int) (u : Int) (r_step : R32 step) (r_d : R32 d) (r_u : R32 u) (hu3 : 0 ≤ U 3 ∧ U 3 < X 3 ∧ X 3 ≤ 4) (hck : ck (U 3).toNat = some ca) (hwf : wfC C P) (hU1 : U 1 = 0 ∨ U 1 = 1) (hdr : ∀ j, 0 ≤ j → j < 24 → (0 ≤ dr j ∧ dr j ≤ 11988)) : Cp l E y9_jump c9_jump 8 (some .int) 2 51 [.ref xo, .int (iZ step), .int (iZ d), .int (iZ u)] [(xo, xO xa X), (xa 6, o5 (some (xa 20)) (some (xa 21)) (some (xa 22)) (some (xa 23)) U), (xa 2, aRef E 3 4 ck), (ca, o1 (some pa) (some da) (some sa) C), (pa, aInt E 5 P), (da, aInt E 24 dr), (sa, aInt E 24 sr)] (fun r => ∃ (v : Int), r = some (.int (iZ v)) ∧ (v = (if 0 ≤ step ∧ step ≤ 11 then (if ((0 ≤ d ∧ d ≤ 6) ∧ (0 ≤ u ∧ u ≤ 6)) then jmF C P (dr (12 * U 1 + step)) (d - u) (C 5) 99 1 else -2) else -1))) := by
  refine Cp.of (by decide +kernel) (Nat.le_of_ble_eq_true rfl) (fun Γ hl hargs G F => ?_)
  subst hl
  have hw1 := hwf.1
  have hw7 := hwf.2.2.2.2.2.2.2
  refine j_aload_n G 0 rfl d9_jump_0 ?_
  refine j_VP G (k9_theCliffc (xl Γ) E xo xa X U ck ca (by first | assumption | omega | (simp only [upS, reduceIte, Nat.reduceEqDiff, eq_self, List.length_cons, List.length_nil, List.length_append] <;> omega)) (by first | assumption | omega | (simp only [upS, reduceIte, Nat.reduceEqDiff, eq_self, List.length_cons, List.length_nil, List.length_append] <;> omega))) mw9_theCliff ml9_107 [0, 1, 2] rfl 0 9 rfl rfl rfl ⟨Nat.le_of_ble_eq_true rfl, Nat.le_of_ble_eq_true rfl⟩ rfl (rest := []) rfl (Nat.le_of_ble_eq_true rfl) d9_jump_1 ⟨Nat.le_of_ble_eq_true rfl, Nat.le_of_ble_eq_true rfl⟩ (fun r hr => ?_)
  obtain ⟨rfl, hq1⟩ := hr
  refine j_astore G d9_jump_4 (by decide) rfl ?_
  refine j_aload G 0 rfl d9_jump_6 ?_
  refine j_ifnull G d9_jump_8 ?_
  refine j_iload_n G 2 rfl d9_jump_11 ?_
  refine j_SP G (k9_isNoStep (xl Γ) E step (by first | assumption | omega | (simp only [upS, reduceIte, Nat.reduceEqDiff, eq_self, List.length_cons, List.length_nil, List.length_append] <;> omega))) mw9_isNoStep ml9_135 [] rfl ⟨Nat.le_of_ble_eq_true rfl, Nat.le_of_ble_eq_true rfl⟩ rfl (rest := []) rfl (Nat.le_of_ble_eq_true rfl) d9_jump_12 ⟨Nat.le_of_ble_eq_true rfl, Nat.le_of_ble_eq_true rfl⟩ (fun r hr => ?_)
  obtain ⟨v3, rfl, hq2⟩ := hr
  rcases hq2 with ⟨hq2, rfl⟩ | ⟨hq2, rfl⟩
  ·
    refine j_if_eq (tgt := 20) G d9_jump_15 (by decide) (by decide) (fun h4 => absurd h4 (by decide)) (fun h4 => ?_)
    refine j_iconst G d9_jump_18 ?_
    exact j_iret G F d9_jump_19 ⟨(-1), rfl, (by first | (rw [if_neg (by omega)]; done) | (rw [if_pos (by omega), if_neg (by omega)]; done) | (rw [if_pos (by omega), if_pos (by omega), hj, show (100 - kk).toNat = (100 - (kk + 1)).toNat + 1 by omega, jmF_s, if_neg (by rw [← isL_lF hisA, ← isL_lF hisB]; omega)]; done) | (rw [if_pos (by omega), if_pos (by omega), hj, show (100 - kk).toNat = 0 by omega]; rfl))⟩
  ·
    refine j_if_eq (tgt := 20) G d9_jump_15 (by decide) (by decide) (fun h5 => ?_) (fun h5 => absurd h5 (by decide))
    refine j_iload_n G 3 rfl d9_jump_20 ?_
    refine j_SP G (k9_areNoHeads (xl Γ) E d (by first | assumption | omega | (simp only [upS, reduceIte, Nat.reduceEqDiff, eq_self, List.length_cons, List.length_nil, List.length_append] <;> omega))) mw9_areNoHeads ml9_151 [] rfl ⟨Nat.le_of_ble_eq_true rfl, Nat.le_of_ble_eq_true rfl⟩ rfl (rest := []) rfl (Nat.le_of_ble_eq_true rfl) d9_jump_21 ⟨Nat.le_of_ble_eq_true rfl, Nat.le_of_ble_eq_true rfl⟩ (fun r hr => ?_)
    obtain ⟨v7, rfl, hq6⟩ := hr
    rcases hq6 with ⟨hq6, rfl⟩ | ⟨hq6, rfl⟩
    ·
      refine j_if_ne (tgt := 34) G d9_jump_24 (by decide) (by decide) (fun h8 => ?_) (fun h8 => absurd h8 (by decide))
      refine j_bipush G d9_jump_34 rfl ?_
      exact j_iret G F d9_jump_36 ⟨(-2), rfl, (by first | (rw [if_neg (by omega)]; done) | (rw [if_pos (by omega), if_neg (by omega)]; done) | (rw [if_pos (by omega), if_pos (by omega), hj, show (100 - kk).toNat = (100 - (kk + 1)).toNat + 1 by omega, jmF_s, if_neg (by rw [← isL_lF hisA, ← isL_lF hisB]; omega)]; done) | (rw [if_pos (by omega), if_pos (by omega), hj, show (100 - kk).toNat = 0 by omega]; rfl))⟩
    ·
      refine j_if_ne (tgt := 34) G d9_jump_24 (by decide) (by decide) (fun h9 => absurd h9 (by decide)) (fun h9 => ?_)
      refine j_iload_n G 4 rfl d9_jump_27 ?_
      refine j_SP G (k9_areNoHeads (xl Γ) E u (by first | assumption | omega | (simp only [upS, reduceIte, Nat.reduceEqDiff, eq_self, List.length_cons, List.length_nil, List.length_append] <;> omega))) mw9_areNoHeads ml9_151 [] rfl ⟨Nat.le_of_ble_eq_true rfl, Nat.le_of_ble_eq_true rfl⟩ rfl (rest := []) rfl (Nat.le_of_ble_eq_true rfl) d9_jump_28 ⟨Nat.le_of_ble_eq_true rfl, Nat.le_of_ble_eq_true rfl⟩ (fun r hr => ?_)
      obtain ⟨v11, rfl, hq10⟩ := hr
      rcases hq10 with ⟨hq10, rfl⟩ | ⟨hq10, rfl⟩
      ·
        refine j_if_eq (tgt := 37) G d9_jump_31 (by decide) (by decide) (fun h12 => absurd h12 (by decide)) (fun h12 => ?_)
        refine j_bipush G d9_jump_34 rfl ?_
        exact j_iret G F d9_jump_36 ⟨(-2), rfl, (by first | (rw [if_neg (by omega)]; done) | (rw [if_pos (by omega), if_neg (by omega)]; done) | (rw [if_pos (by omega), if_pos (by omega), hj, show (100 - kk).toNat = (100 - (kk + 1)).toNat + 1 by omega, jmF_s, if_neg (by rw [← isL_lF hisA, ← isL_lF hisB]; omega)]; done) | (rw [if_pos (by omega), if_pos (by omega), hj, show (100 - kk).toNat = 0 by omega]; rfl))⟩
      ·
        refine j_if_eq (tgt := 37) G d9_jump_31 (by decide) (by decide) (fun h13 => ?_) (fun h13 => absurd h13 (by decide))
        have hdq := hdr (12 * U 1 + step) (by omega) (by omega)
        have hw3 := hwf.2.2.2.1
        have hmb := mulb (a := C 3) (b := d - u) (A := 999) (B := 6) hw3.1 hw3.2 (by omega) (by omega)
        have hw5 := hwf.2.2.2.2.2.1
        refine j_aload G 0 rfl d9_jump_37 ?_
        refine j_get G 3 1 8 in1 fl9_143 d9_jump_39 rfl rfl (by decide) (v := .ref da) rfl rfl ?_
        refine j_aload_n G 1 rfl d9_jump_42 ?_
        refine j_get G 0 9 6 in9 fl9_30 d9_jump_43 rfl rfl (by decide) (v := .ref (xa 6)) rfl rfl ?_
        refine j_iload_n G 2 rfl d9_jump_46 ?_
        refine j_VP G (k5_momentOf (xl Γ) E (xa 6) (xa 20) (xa 21) (xa 22) (xa 23) U step (by first | assumption | omega | (simp only [upS, reduceIte, Nat.reduceEqDiff, eq_self, List.length_cons, List.length_nil, List.length_append] <;> omega))) mw5_momentOf ml9_139 [1] rfl 1 5 rfl rfl rfl ⟨Nat.le_of_ble_eq_true rfl, Nat.le_of_ble_eq_true rfl⟩ rfl (rest := [.ref da]) rfl (Nat.le_of_ble_eq_true rfl) d9_jump_47 ⟨Nat.le_of_ble_eq_true rfl, Nat.le_of_ble_eq_true rfl⟩ (fun r hr => ?_)
        obtain ⟨_, rfl, rfl⟩ := hr
        refine j_iald G 5 rfl (by omega) d9_jump_50 ?_
        refine j_istore G d9_jump_51 (by decide) rfl ?_
        refine j_aload G 1 rfl d9_jump_53 ?_
        refine j_iload_n G 4 rfl d9_jump_55 ?_
        refine j_iload_n G 5 rfl d9_jump_56 ?_
        refine j_isub G d9_jump_57 ?_
        refine j_iload G 0 rfl d9_jump_58 ?_
        refine j_aload G 1 rfl d9_jump_60 ?_
        refine j_get G 3 1 5 in1 fl9_126 d9_jump_62 rfl rfl (by decide) (v := .int (iZ (C 5))) rfl rfl ?_
        refine j_VP G (k1_leastWater (xl Γ) E ca pa da sa C P (d - u) (dr (12 * (U 1) + step)) (C 5) (by first | assumption | omega | (simp only [upS, reduceIte, Nat.reduceEqDiff, eq_self, List.length_cons, List.length_nil, List.length_append] <;> omega)) (by first | assumption | omega | (simp only [upS, reduceIte, Nat.reduceEqDiff, eq_self, List.length_cons, List.length_nil, List.length_append] <;> omega)) (by first | assumption | omega | (simp only [upS, reduceIte, Nat.reduceEqDiff, eq_self, List.length_cons, List.length_nil, List.length_append] <;> omega)) (by first | assumption | omega | (simp only [upS, reduceIte, Nat.reduceEqDiff, eq_self, List.length_cons, List.length_nil, List.length_append] <;> omega))) mw1_leastWater ml9_165 [3, 4] rfl 3 1 rfl rfl rfl ⟨Nat.le_of_ble_eq_true rfl, Nat.le_of_ble_eq_true rfl⟩ rfl (rest := []) rfl (Nat.le_of_ble_eq_true rfl) d9_jump_65 ⟨Nat.le_of_ble_eq_true rfl, Nat.le_of_ble_eq_true rfl⟩ (fun r hr => ?_)
        obtain ⟨v16, rfl, hq15⟩ := hr
        have hisB := hq15
        have hisR := isL_r hisB
        refine j_istore G d9_jump_68 (by decide) rfl ?_
        refine j_iconst G d9_jump_70 ?_
        refine j_istore G d9_jump_71 (by decide) rfl ?_
        have lp73 : ∀ (fu : Nat) (kk : Int), (100 - kk).toNat < fu → (1 ≤ kk ∧ kk ≤ 100) → (jmF C P (dr (12 * U 1 + step)) (d - u) (C 5) 99 1 = jmF C P (dr (12 * U 1 + step)) (d - u) (C 5) (100 - kk).toNat kk) →  J E 8 Γ none 0 0 [(xo, xO xa X), (xa 6, o5 (some (xa 20)) (some (xa 21)) (some (xa 22)) (some (xa 23)) U), (xa 2, aRef E 3 4 ck), (ca, o1 (some pa) (some da) (some sa) C), (pa, aInt E 5 P), (da, aInt E 24 dr), (sa, aInt E 24 sr)] 73 [(7, .int (iZ kk)), (6, .int (iZ v16)), (5, .int (iZ (dr (12 * (U 1) + step)))), (4, .ref ca), (0, .ref xo), (1, .int (iZ step)), (2, .int (iZ d)), (3, .int (iZ u))] [] := by
          intro fu
          induction fu with
          | zero =>
            intro kk hm
            exact absurd hm (Nat.not_lt_zero _)
          | succ fu ih73 =>
            intro kk hm hk hj
            refine j_iload G 0 rfl d9_jump_73 ?_
            refine j_bipush G d9_jump_75 rfl ?_
            refine j_icmp_gt (tgt := 112) G d9_jump_77 (by decide) (by omega) (by decide) (fun h17 => ?_) (fun h17 => ?_)
            ·
              refine j_iconst G d9_jump_112 ?_
              exact j_iret G F d9_jump_113 ⟨0, rfl, (by first | (rw [if_neg (by omega)]; done) | (rw [if_pos (by omega), if_neg (by omega)]; done) | (rw [if_pos (by omega), if_pos (by omega), hj, show (100 - kk).toNat = (100 - (kk + 1)).toNat + 1 by omega, jmF_s, if_neg (by rw [← isL_lF hisA, ← isL_lF hisB]; omega)]; done) | (rw [if_pos (by omega), if_pos (by omega), hj, show (100 - kk).toNat = 0 by omega]; rfl))⟩
            ·
              refine j_aload G 3 rfl d9_jump_80 ?_
              refine j_iload_n G 6 rfl d9_jump_82 ?_
              refine j_iload_n G 7 rfl d9_jump_83 ?_
              refine j_isub G d9_jump_84 ?_
              refine j_iload G 2 rfl d9_jump_85 ?_
              refine j_iload G 0 rfl d9_jump_87 ?_
              refine j_iadd G d9_jump_89 ?_
              refine j_aload G 3 rfl d9_jump_90 ?_
              refine j_get G 3 1 5 in1 fl9_126 d9_jump_92 rfl rfl (by decide) (v := .int (iZ (C 5))) rfl rfl ?_
              refine j_VP G (k1_leastWater (xl Γ) E ca pa da sa C P (d - u) ((dr (12 * (U 1) + step)) + kk) (C 5) (by first | assumption | omega | (simp only [upS, reduceIte, Nat.reduceEqDiff, eq_self, List.length_cons, List.length_nil, List.length_append] <;> omega)) (by first | assumption | omega | (simp only [upS, reduceIte, Nat.reduceEqDiff, eq_self, List.length_cons, List.length_nil, List.length_append] <;> omega)) (by first | assumption | omega | (simp only [upS, reduceIte, Nat.reduceEqDiff, eq_self, List.length_cons, List.length_nil, List.length_append] <;> omega)) (by first | assumption | omega | (simp only [upS, reduceIte, Nat.reduceEqDiff, eq_self, List.length_cons, List.length_nil, List.length_append] <;> omega))) mw1_leastWater ml9_165 [3, 4] rfl 3 1 rfl rfl rfl ⟨Nat.le_of_ble_eq_true rfl, Nat.le_of_ble_eq_true rfl⟩ rfl (rest := []) rfl (Nat.le_of_ble_eq_true rfl) d9_jump_95 ⟨Nat.le_of_ble_eq_true rfl, Nat.le_of_ble_eq_true rfl⟩ (fun r hr => ?_)
              obtain ⟨v19, rfl, hq18⟩ := hr
              have hisA := hq18
              have hisS := isL_r hisA
              refine j_iload G 1 rfl d9_jump_98 ?_
              refine j_icmp_eq (tgt := 106) G d9_jump_100 (by decide) (by omega) (by omega) (fun h20 => ?_) (fun h20 => ?_)
              ·
                refine j_iinc G d9_jump_106 0 rfl (by decide) rfl ?_
                refine j_goto (tgt := 73) G d9_jump_109 (by decide) ?_
                exact ih73 (kk + 1) (by omega) (by first | assumption | omega) (by rw [hj, show (100 - kk).toNat = (100 - (kk + 1)).toNat + 1 by omega, jmF_s, if_pos (by rw [← isL_lF hisA, ← isL_lF hisB]; omega)])
              ·
                refine j_iload G 0 rfl d9_jump_103 ?_
                exact j_iret G F d9_jump_105 ⟨kk, rfl, (by first | (rw [if_neg (by omega)]; done) | (rw [if_pos (by omega), if_neg (by omega)]; done) | (rw [if_pos (by omega), if_pos (by omega), hj, show (100 - kk).toNat = (100 - (kk + 1)).toNat + 1 by omega, jmF_s, if_neg (by rw [← isL_lF hisA, ← isL_lF hisB]; omega)]; done) | (rw [if_pos (by omega), if_pos (by omega), hj, show (100 - kk).toNat = 0 by omega]; rfl))⟩
        exact lp73 _ 1 (Nat.lt_succ_self _) (by first | assumption | omega) rfl
theorem d9_come_0 : decode c9_come 0 = .ok (.iload_n 1, 1) := by decide +kernel
theorem d9_come_1 : decode c9_come 1 = .ok (.invokestatic 135, 3) := by decide +kernel
theorem d9_come_4 : decode c9_come 4 = .ok (.ifCond .ne 12, 3) := by decide +kernel
theorem d9_come_7 : decode c9_come 7 = .ok (.iload_n 2, 1) := by decide +kernel
theorem d9_come_8 : decode c9_come 8 = .ok (.ifCond .lt 8, 3) := by decide +kernel
theorem d9_come_11 : decode c9_come 11 = .ok (.iload_n 2, 1) := by decide +kernel
theorem d9_come_12 : decode c9_come 12 = .ok (.iconst 2, 1) := by decide +kernel
theorem d9_come_13 : decode c9_come 13 = .ok (.if_icmp .lt 5, 3) := by decide +kernel
theorem d9_come_16 : decode c9_come 16 = .ok (.iconst (-1), 1) := by decide +kernel
theorem d9_come_17 : decode c9_come 17 = .ok (.ireturn, 1) := by decide +kernel
theorem d9_come_18 : decode c9_come 18 = .ok (.iload_n 3, 1) := by decide +kernel
theorem d9_come_19 : decode c9_come 19 = .ok (.ifCond .lt 9, 3) := by decide +kernel
theorem d9_come_22 : decode c9_come 22 = .ok (.iload_n 3, 1) := by decide +kernel
theorem d9_come_23 : decode c9_come 23 = .ok (.bipush 6, 2) := by decide +kernel
theorem d9_come_25 : decode c9_come 25 = .ok (.if_icmp .le 6, 3) := by decide +kernel
theorem d9_come_28 : decode c9_come 28 = .ok (.bipush (-2), 2) := by decide +kernel
theorem d9_come_30 : decode c9_come 30 = .ok (.ireturn, 1) := by decide +kernel
theorem d9_come_31 : decode c9_come 31 = .ok (.iload_n 2, 1) := by decide +kernel
theorem d9_come_32 : decode c9_come 32 = .ok (.bipush 12, 2) := by decide +kernel
theorem d9_come_34 : decode c9_come 34 = .ok (.imul, 1) := by decide +kernel
theorem d9_come_35 : decode c9_come 35 = .ok (.iload_n 1, 1) := by decide +kernel
theorem d9_come_36 : decode c9_come 36 = .ok (.iadd, 1) := by decide +kernel
theorem d9_come_37 : decode c9_come 37 = .ok (.istore 4, 2) := by decide +kernel
theorem d9_come_39 : decode c9_come 39 = .ok (.aload_n 0, 1) := by decide +kernel
theorem d9_come_40 : decode c9_come 40 = .ok (.getfield 30, 3) := by decide +kernel
theorem d9_come_43 : decode c9_come 43 = .ok (.getfield 168, 3) := by decide +kernel
theorem d9_come_46 : decode c9_come 46 = .ok (.iload 4, 2) := by decide +kernel
theorem d9_come_48 : decode c9_come 48 = .ok (.iaload, 1) := by decide +kernel
theorem d9_come_49 : decode c9_come 49 = .ok (.istore 5, 2) := by decide +kernel
theorem d9_come_51 : decode c9_come 51 = .ok (.aload_n 0, 1) := by decide +kernel
theorem d9_come_52 : decode c9_come 52 = .ok (.getfield 30, 3) := by decide +kernel
theorem d9_come_55 : decode c9_come 55 = .ok (.getfield 168, 3) := by decide +kernel
theorem d9_come_58 : decode c9_come 58 = .ok (.iload 4, 2) := by decide +kernel
theorem d9_come_60 : decode c9_come 60 = .ok (.iload_n 3, 1) := by decide +kernel
theorem d9_come_61 : decode c9_come 61 = .ok (.iastore, 1) := by decide +kernel
theorem d9_come_62 : decode c9_come 62 = .ok (.iload 5, 2) := by decide +kernel
theorem d9_come_64 : decode c9_come 64 = .ok (.ireturn, 1) := by decide +kernel
theorem mw9_come : MV y9_come c9_come 6 (some .int) 3 := ⟨cd9_come, ini9, na9_come, im9_come, se9_come⟩
set_option maxHeartbeats 4000000 in
set_option maxRecDepth 100000 in
theorem k9_come (l : Launch) (E : En) (xo : Nat) (xa : Nat → Nat) (X : Nat → Int) (U : Nat → Int) (co : Int → Int) (step : Int) (side : Int) (n : Int) (r_step : R32 step) (r_side : R32 side) (r_n : R32 n) : Cm l E y9_come c9_come 6 (some .int) { frames := 1, cells := 0, slots := 0, locals := 20 } [.ref xo, .int (iZ step), .int (iZ side), .int (iZ n)] [(xo, xO xa X), (xa 6, o5 (some (xa 20)) (some (xa 21)) (some (xa 22)) (some (xa 23)) U), (xa 20, aInt E 24 co)] (fun r ws => ∃ (v : Int), ∃ (co1 : Int → Int), r = some (.int (iZ v)) ∧ ws = [(xo, xO xa X), (xa 6, o5 (some (xa 20)) (some (xa 21)) (some (xa 22)) (some (xa 23)) U), (xa 20, aInt E 24 co1)] ∧ (v = comeA co step side n ∧ co1 = comeG co step side n)) := by
  refine Cm.of (by decide +kernel) (Nat.le_of_ble_eq_true rfl) (fun Γ A hl hargs hin G F => ?_)
  subst hl
  refine j_iload_n G 1 rfl d9_come_0 ?_
  refine j_SP G (k9_isNoStep (xl Γ) E step (by first | assumption | omega | (simp only [upS, reduceIte, Nat.reduceEqDiff, eq_self, List.length_cons, List.length_nil, List.length_append] <;> omega))) mw9_isNoStep ml9_135 [] rfl ⟨Nat.le_of_ble_eq_true rfl, Nat.le_of_ble_eq_true rfl⟩ rfl (rest := []) rfl (Nat.le_of_ble_eq_true rfl) d9_come_1 ⟨Nat.le_of_ble_eq_true rfl, Nat.le_of_ble_eq_true rfl⟩ (fun r hr => ?_)
  obtain ⟨v2, rfl, hq1⟩ := hr
  rcases hq1 with ⟨hq1, rfl⟩ | ⟨hq1, rfl⟩
  ·
    refine j_if_ne (tgt := 16) G d9_come_4 (by decide) (by decide) (fun h3 => ?_) (fun h3 => absurd h3 (by decide))
    refine j_iconst G d9_come_16 ?_
    exact j_iret G F d9_come_17 ⟨(-1), co, rfl, rfl, (by (refine ⟨?_, ?_⟩ <;> (simp only [comeA, comeG]) <;> (repeat' split) <;> first | rfl | omega | (exfalso; omega) | (congr 1; omega)))⟩
  ·
    refine j_if_ne (tgt := 16) G d9_come_4 (by decide) (by decide) (fun h4 => absurd h4 (by decide)) (fun h4 => ?_)
    refine j_iload_n G 2 rfl d9_come_7 ?_
    refine j_if_lt (tgt := 16) G d9_come_8 (by decide) (by omega) (fun h5 => ?_) (fun h5 => ?_)
    ·
      refine j_iconst G d9_come_16 ?_
      exact j_iret G F d9_come_17 ⟨(-1), co, rfl, rfl, (by (refine ⟨?_, ?_⟩ <;> (simp only [comeA, comeG]) <;> (repeat' split) <;> first | rfl | omega | (exfalso; omega) | (congr 1; omega)))⟩
    ·
      refine j_iload_n G 2 rfl d9_come_11 ?_
      refine j_iconst G d9_come_12 ?_
      refine j_icmp_lt (tgt := 18) G d9_come_13 (by decide) (by omega) (by decide) (fun h6 => ?_) (fun h6 => ?_)
      ·
        refine j_iload_n G 3 rfl d9_come_18 ?_
        refine j_if_lt (tgt := 28) G d9_come_19 (by decide) (by omega) (fun h7 => ?_) (fun h7 => ?_)
        ·
          refine j_bipush G d9_come_28 rfl ?_
          exact j_iret G F d9_come_30 ⟨(-2), co, rfl, rfl, (by (refine ⟨?_, ?_⟩ <;> (simp only [comeA, comeG]) <;> (repeat' split) <;> first | rfl | omega | (exfalso; omega) | (congr 1; omega)))⟩
        ·
          refine j_iload_n G 3 rfl d9_come_22 ?_
          refine j_bipush G d9_come_23 rfl ?_
          refine j_icmp_le (tgt := 31) G d9_come_25 (by decide) (by omega) (by decide) (fun h8 => ?_) (fun h8 => ?_)
          ·
            refine j_iload_n G 2 rfl d9_come_31 ?_
            refine j_bipush G d9_come_32 rfl ?_
            refine j_imul G d9_come_34 ?_
            refine j_iload_n G 1 rfl d9_come_35 ?_
            refine j_iadd G d9_come_36 ?_
            refine j_istore G d9_come_37 (by decide) rfl ?_
            refine j_aload_n G 1 rfl d9_come_39 ?_
            refine j_get G 0 9 6 in9 fl9_30 d9_come_40 rfl rfl (by decide) (v := .ref (xa 6)) rfl rfl ?_
            refine j_get G 1 5 0 in5 fl9_168 d9_come_43 rfl rfl (by decide) (v := .ref (xa 20)) rfl rfl ?_
            refine j_iload G 0 rfl d9_come_46 ?_
            refine j_iald G 2 rfl (by omega) d9_come_48 ?_
            refine j_istore G d9_come_49 (by decide) rfl ?_
            refine j_aload_n G 2 rfl d9_come_51 ?_
            refine j_get G 0 9 6 in9 fl9_30 d9_come_52 rfl rfl (by decide) (v := .ref (xa 6)) rfl rfl ?_
            refine j_get G 1 5 0 in5 fl9_168 d9_come_55 rfl rfl (by decide) (v := .ref (xa 20)) rfl rfl ?_
            refine j_iload G 1 rfl d9_come_58 ?_
            refine j_iload_n G 5 rfl d9_come_60 ?_
            refine j_iast G 2 rfl (by omega) d9_come_61 ?_
            refine j_iload G 0 rfl d9_come_62 ?_
            exact j_iret G F d9_come_64 ⟨co ((side * 12) + step), (upI co ((side * 12) + step) n), rfl, rfl, (by (refine ⟨?_, ?_⟩ <;> (simp only [comeA, comeG]) <;> (repeat' split) <;> first | rfl | omega | (exfalso; omega) | (congr 1; omega)))⟩
          ·
            refine j_bipush G d9_come_28 rfl ?_
            exact j_iret G F d9_come_30 ⟨(-2), co, rfl, rfl, (by (refine ⟨?_, ?_⟩ <;> (simp only [comeA, comeG]) <;> (repeat' split) <;> first | rfl | omega | (exfalso; omega) | (congr 1; omega)))⟩
      ·
        refine j_iconst G d9_come_16 ?_
        exact j_iret G F d9_come_17 ⟨(-1), co, rfl, rfl, (by (refine ⟨?_, ?_⟩ <;> (simp only [comeA, comeG]) <;> (repeat' split) <;> first | rfl | omega | (exfalso; omega) | (congr 1; omega)))⟩
theorem d9_wet_0 : decode c9_wet 0 = .ok (.aload_n 0, 1) := by decide +kernel
theorem d9_wet_1 : decode c9_wet 1 = .ok (.getfield 30, 3) := by decide +kernel
theorem d9_wet_4 : decode c9_wet 4 = .ok (.getfield 171, 3) := by decide +kernel
theorem d9_wet_7 : decode c9_wet 7 = .ok (.ifCond .eq 7, 3) := by decide +kernel
theorem d9_wet_10 : decode c9_wet 10 = .ok (.iconst 1, 1) := by decide +kernel
theorem d9_wet_11 : decode c9_wet 11 = .ok (.goto 4, 3) := by decide +kernel
theorem d9_wet_14 : decode c9_wet 14 = .ok (.iconst 0, 1) := by decide +kernel
theorem d9_wet_15 : decode c9_wet 15 = .ok (.istore_n 2, 1) := by decide +kernel
theorem d9_wet_16 : decode c9_wet 16 = .ok (.aload_n 0, 1) := by decide +kernel
theorem d9_wet_17 : decode c9_wet 17 = .ok (.getfield 30, 3) := by decide +kernel
theorem d9_wet_20 : decode c9_wet 20 = .ok (.iload_n 1, 1) := by decide +kernel
theorem d9_wet_21 : decode c9_wet 21 = .ok (.putfield 171, 3) := by decide +kernel
theorem d9_wet_24 : decode c9_wet 24 = .ok (.iload_n 2, 1) := by decide +kernel
theorem d9_wet_25 : decode c9_wet 25 = .ok (.ireturn, 1) := by decide +kernel
theorem mw9_wet : MV y9_wet c9_wet 3 (some .int) 1 := ⟨cd9_wet, ini9, na9_wet, im9_wet, se9_wet⟩
set_option maxHeartbeats 4000000 in
set_option maxRecDepth 100000 in
theorem k9_wet (l : Launch) (E : En) (xo : Nat) (xa : Nat → Nat) (X : Nat → Int) (U : Nat → Int) (b : Int) (hb : b = 0 ∨ b = 1) (hU1 : U 1 = 0 ∨ U 1 = 1) : Cm l E y9_wet c9_wet 3 (some .int) { frames := 0, cells := 0, slots := 0, locals := 0 } [.ref xo, .int (iZ b)] [(xo, xO xa X), (xa 6, o5 (some (xa 20)) (some (xa 21)) (some (xa 22)) (some (xa 23)) U)] (fun r ws => ∃ (v : Int), r = some (.int (iZ v)) ∧ ws = [(xo, xO xa X), (xa 6, o5 (some (xa 20)) (some (xa 21)) (some (xa 22)) (some (xa 23)) (upS U 1 b))] ∧ (v = U 1)) := by
  refine Cm.of (by decide +kernel) (Nat.le_of_ble_eq_true rfl) (fun Γ A hl hargs hin G F => ?_)
  subst hl
  refine j_aload_n G 0 rfl d9_wet_0 ?_
  refine j_get G 0 9 6 in9 fl9_30 d9_wet_1 rfl rfl (by decide) (v := .ref (xa 6)) rfl rfl ?_
  refine j_get G 1 5 1 in5 fl9_171 d9_wet_4 rfl rfl (by decide) (v := .int (iZ (U 1))) rfl rfl ?_
  have mg7 : ∀ x1 : Int, x1 = (if U 1 = 0 then 0 else 1) → J E 3 Γ (some A) 0 0 [(xo, xO xa X), (xa 6, o5 (some (xa 20)) (some (xa 21)) (some (xa 22)) (some (xa 23)) U)] 15 [(0, .ref xo), (1, .int (iZ b))] ([.int (iZ x1)]) := by
    intro x1 ex1
    refine j_istore_n G d9_wet_15 (by decide) rfl ?_
    refine j_aload_n G 1 rfl d9_wet_16 ?_
    refine j_get G 0 9 6 in9 fl9_30 d9_wet_17 rfl rfl (by decide) (v := .ref (xa 6)) rfl rfl ?_
    refine j_iload_n G 2 rfl d9_wet_20 ?_
    refine j_put G 1 5 1 in5 tyok5 nm5 fl9_171 d9_wet_21 rfl rfl (by decide) ⟨rfl, rfl⟩ (by rcases hb with h | h <;> rw [h] <;> rfl) (by rcases hb with h | h <;> rw [h] <;> rfl) (Nat.le_of_ble_eq_true rfl) (e := o5 (some (xa 20)) (some (xa 21)) (some (xa 22)) (some (xa 23)) (upS U 1 b)) rfl ?_
    refine j_iload_n G 0 rfl d9_wet_24 ?_
    exact j_iret G F d9_wet_25 ⟨x1, rfl, rfl, (by first | omega | (simp_all; done))⟩
  refine j_if_eq (tgt := 14) G d9_wet_7 (by decide) (by omega) (fun h2 => ?_) (fun h2 => ?_)
  ·
    refine j_iconst G d9_wet_14 ?_
    refine j_eq (ws' := [(xo, xO xa X), (xa 6, o5 (some (xa 20)) (some (xa 21)) (some (xa 22)) (some (xa 23)) U)]) (ls' := [(0, .ref xo), (1, .int (iZ b))]) rfl rfl rfl ?_
    exact mg7 _ (by first | rfl | (simp only [*, if_true, if_false, ite_true, ite_false]; done) | (split <;> first | rfl | omega | (split <;> first | rfl | omega | (split <;> first | rfl | omega))))
  ·
    refine j_iconst G d9_wet_10 ?_
    refine j_goto (tgt := 15) G d9_wet_11 (by decide) ?_
    refine j_eq (ws' := [(xo, xO xa X), (xa 6, o5 (some (xa 20)) (some (xa 21)) (some (xa 22)) (some (xa 23)) U)]) (ls' := [(0, .ref xo), (1, .int (iZ b))]) rfl rfl rfl ?_
    exact mg7 _ (by first | rfl | (simp only [*, if_true, if_false, ite_true, ite_false]; done) | (split <;> first | rfl | omega | (split <;> first | rfl | omega | (split <;> first | rfl | omega))))
theorem d9_pond_0 : decode c9_pond 0 = .ok (.aload_n 0, 1) := by decide +kernel
theorem d9_pond_1 : decode c9_pond 1 = .ok (.invokevirtual 107, 3) := by decide +kernel
theorem d9_pond_4 : decode c9_pond 4 = .ok (.astore_n 2, 1) := by decide +kernel
theorem d9_pond_5 : decode c9_pond 5 = .ok (.aload_n 2, 1) := by decide +kernel
theorem d9_pond_6 : decode c9_pond 6 = .ok (.ifnonnull 7, 3) := by decide +kernel
theorem d9_pond_9 : decode c9_pond 9 = .ok (.iconst 0, 1) := by decide +kernel
theorem d9_pond_10 : decode c9_pond 10 = .ok (.goto 7, 3) := by decide +kernel
theorem d9_pond_17 : decode c9_pond 17 = .ok (.istore_n 3, 1) := by decide +kernel
theorem d9_pond_18 : decode c9_pond 18 = .ok (.iload_n 1, 1) := by decide +kernel
theorem d9_pond_19 : decode c9_pond 19 = .ok (.ifCond .lt 8, 3) := by decide +kernel
theorem d9_pond_22 : decode c9_pond 22 = .ok (.iload_n 1, 1) := by decide +kernel
theorem d9_pond_23 : decode c9_pond 23 = .ok (.iload_n 3, 1) := by decide +kernel
theorem d9_pond_24 : decode c9_pond 24 = .ok (.if_icmp .le 6, 3) := by decide +kernel
theorem d9_pond_27 : decode c9_pond 27 = .ok (.bipush (-2), 2) := by decide +kernel
theorem d9_pond_29 : decode c9_pond 29 = .ok (.ireturn, 1) := by decide +kernel
theorem d9_pond_30 : decode c9_pond 30 = .ok (.aload_n 0, 1) := by decide +kernel
theorem d9_pond_31 : decode c9_pond 31 = .ok (.getfield 30, 3) := by decide +kernel
theorem d9_pond_34 : decode c9_pond 34 = .ok (.getfield 175, 3) := by decide +kernel
theorem d9_pond_37 : decode c9_pond 37 = .ok (.istore 4, 2) := by decide +kernel
theorem d9_pond_39 : decode c9_pond 39 = .ok (.aload_n 0, 1) := by decide +kernel
theorem d9_pond_40 : decode c9_pond 40 = .ok (.getfield 30, 3) := by decide +kernel
theorem d9_pond_43 : decode c9_pond 43 = .ok (.iload_n 1, 1) := by decide +kernel
theorem d9_pond_44 : decode c9_pond 44 = .ok (.putfield 175, 3) := by decide +kernel
theorem d9_pond_47 : decode c9_pond 47 = .ok (.iload 4, 2) := by decide +kernel
theorem d9_pond_49 : decode c9_pond 49 = .ok (.ireturn, 1) := by decide +kernel
theorem mw9_pond : MV y9_pond c9_pond 5 (some .int) 1 := ⟨cd9_pond, ini9, na9_pond, im9_pond, se9_pond⟩
set_option maxHeartbeats 4000000 in
set_option maxRecDepth 100000 in
theorem k9_pondn (l : Launch) (E : En) (xo : Nat) (xa : Nat → Nat) (X : Nat → Int) (U : Nat → Int) (a : Int) (r_a : R32 a) (hu3 : U 3 < 0) (hu4 : -100 ≤ U 3) : Cm l E y9_pond c9_pond 5 (some .int) { frames := 1, cells := 0, slots := 0, locals := 21 } [.ref xo, .int (iZ a)] [(xo, xO xa X), (xa 6, o5 (some (xa 20)) (some (xa 21)) (some (xa 22)) (some (xa 23)) U)] (fun r ws => ∃ (v : Int), ∃ (u2 : Int), r = some (.int (iZ v)) ∧ ws = [(xo, xO xa X), (xa 6, o5 (some (xa 20)) (some (xa 21)) (some (xa 22)) (some (xa 23)) (upS U 2 u2))] ∧ (v = pondA (U 2) 0 a ∧ u2 = pondN (U 2) 0 a)) := by
  refine Cm.of (by decide +kernel) (Nat.le_of_ble_eq_true rfl) (fun Γ A hl hargs hin G F => ?_)
  subst hl
  refine j_aload_n G 0 rfl d9_pond_0 ?_
  refine j_VP G (k9_theCliffn (xl Γ) E xo xa X U (by first | assumption | omega | (simp only [upS, reduceIte, Nat.reduceEqDiff, eq_self, List.length_cons, List.length_nil, List.length_append] <;> omega)) (by first | assumption | omega | (simp only [upS, reduceIte, Nat.reduceEqDiff, eq_self, List.length_cons, List.length_nil, List.length_append] <;> omega))) mw9_theCliff ml9_107 [0, 1] rfl 0 9 rfl rfl rfl ⟨Nat.le_of_ble_eq_true rfl, Nat.le_of_ble_eq_true rfl⟩ rfl (rest := []) rfl (Nat.le_of_ble_eq_true rfl) d9_pond_1 ⟨Nat.le_of_ble_eq_true rfl, Nat.le_of_ble_eq_true rfl⟩ (fun r hr => ?_)
  obtain ⟨rfl, hq1⟩ := hr
  refine j_astore_nN G d9_pond_4 (by decide) rfl ?_
  refine j_aload_nN G 0 rfl d9_pond_5 ?_
  refine j_ifnonnullN G d9_pond_6 ?_
  refine j_iconst G d9_pond_9 ?_
  refine j_goto (tgt := 17) G d9_pond_10 (by decide) ?_
  refine j_istore_n G d9_pond_17 (by decide) rfl ?_
  refine j_iload_n G 3 rfl d9_pond_18 ?_
  refine j_if_lt (tgt := 27) G d9_pond_19 (by decide) (by omega) (fun h2 => ?_) (fun h2 => ?_)
  ·
    refine j_bipush G d9_pond_27 rfl ?_
    exact j_iret G F d9_pond_29 ⟨(-2), (U 2), rfl, rfl, (by (refine ⟨?_, ?_⟩ <;> (simp only [pondA, pondN]) <;> (repeat' split) <;> first | rfl | omega | (exfalso; omega)))⟩
  ·
    refine j_iload_n G 3 rfl d9_pond_22 ?_
    refine j_iload_n G 0 rfl d9_pond_23 ?_
    refine j_icmp_le (tgt := 30) G d9_pond_24 (by decide) (by omega) (by decide) (fun h3 => ?_) (fun h3 => ?_)
    ·
      refine j_aload_n G 2 rfl d9_pond_30 ?_
      refine j_get G 0 9 6 in9 fl9_30 d9_pond_31 rfl rfl (by decide) (v := .ref (xa 6)) rfl rfl ?_
      refine j_get G 1 5 2 in5 fl9_175 d9_pond_34 rfl rfl (by decide) (v := .int (iZ (U 2))) rfl rfl ?_
      refine j_istore G d9_pond_37 (by decide) rfl ?_
      refine j_aload_n G 3 rfl d9_pond_39 ?_
      refine j_get G 0 9 6 in9 fl9_30 d9_pond_40 rfl rfl (by decide) (v := .ref (xa 6)) rfl rfl ?_
      refine j_iload_n G 4 rfl d9_pond_43 ?_
      refine j_put G 1 5 2 in5 tyok5 nm5 fl9_175 d9_pond_44 rfl rfl (by decide) ⟨rfl, rfl⟩ rfl rfl (Nat.le_of_ble_eq_true rfl) (e := o5 (some (xa 20)) (some (xa 21)) (some (xa 22)) (some (xa 23)) (upS U 2 a)) rfl ?_
      refine j_iload G 0 rfl d9_pond_47 ?_
      exact j_iret G F d9_pond_49 ⟨U 2, a, rfl, rfl, (by (refine ⟨?_, ?_⟩ <;> (simp only [pondA, pondN]) <;> (repeat' split) <;> first | rfl | omega | (exfalso; omega)))⟩
    ·
      refine j_bipush G d9_pond_27 rfl ?_
      exact j_iret G F d9_pond_29 ⟨(-2), (U 2), rfl, rfl, (by (refine ⟨?_, ?_⟩ <;> (simp only [pondA, pondN]) <;> (repeat' split) <;> first | rfl | omega | (exfalso; omega)))⟩
theorem d9_pond_13 : decode c9_pond 13 = .ok (.aload_n 2, 1) := by decide +kernel
theorem d9_pond_14 : decode c9_pond 14 = .ok (.getfield 132, 3) := by decide +kernel
set_option maxHeartbeats 4000000 in
set_option maxRecDepth 100000 in
theorem k9_pondc (l : Launch) (E : En) (xo : Nat) (xa : Nat → Nat) (X : Nat → Int) (U : Nat → Int) (ck : Nat → Option Nat) (ca : Nat) (pa : Nat) (da : Nat) (sa : Nat) (C : Nat → Int) (P : Int → Int) (dr : Int → Int) (sr : Int → Int) (a : Int) (r_a : R32 a) (hu3 : 0 ≤ U 3 ∧ U 3 < X 3 ∧ X 3 ≤ 4) (hck : ck (U 3).toNat = some ca) (hwf : wfC C P) (hU1 : U 1 = 0 ∨ U 1 = 1) (hdr : ∀ j, 0 ≤ j → j < 24 → (0 ≤ dr j ∧ dr j ≤ 11988)) : Cm l E y9_pond c9_pond 5 (some .int) { frames := 1, cells := 0, slots := 0, locals := 21 } [.ref xo, .int (iZ a)] [(xo, xO xa X), (xa 6, o5 (some (xa 20)) (some (xa 21)) (some (xa 22)) (some (xa 23)) U), (xa 2, aRef E 3 4 ck), (ca, o1 (some pa) (some da) (some sa) C), (pa, aInt E 5 P), (da, aInt E 24 dr), (sa, aInt E 24 sr)] (fun r ws => ∃ (v : Int), ∃ (u2 : Int), r = some (.int (iZ v)) ∧ ws = [(xo, xO xa X), (xa 6, o5 (some (xa 20)) (some (xa 21)) (some (xa 22)) (some (xa 23)) (upS U 2 u2)), (xa 2, aRef E 3 4 ck), (ca, o1 (some pa) (some da) (some sa) C), (pa, aInt E 5 P), (da, aInt E 24 dr), (sa, aInt E 24 sr)] ∧ (v = pondA (U 2) (C 7) a ∧ u2 = pondN (U 2) (C 7) a)) := by
  refine Cm.of (by decide +kernel) (Nat.le_of_ble_eq_true rfl) (fun Γ A hl hargs hin G F => ?_)
  subst hl
  have hw7 := hwf.2.2.2.2.2.2.2
  refine j_aload_n G 0 rfl d9_pond_0 ?_
  refine j_VP G (k9_theCliffc (xl Γ) E xo xa X U ck ca (by first | assumption | omega | (simp only [upS, reduceIte, Nat.reduceEqDiff, eq_self, List.length_cons, List.length_nil, List.length_append] <;> omega)) (by first | assumption | omega | (simp only [upS, reduceIte, Nat.reduceEqDiff, eq_self, List.length_cons, List.length_nil, List.length_append] <;> omega))) mw9_theCliff ml9_107 [0, 1, 2] rfl 0 9 rfl rfl rfl ⟨Nat.le_of_ble_eq_true rfl, Nat.le_of_ble_eq_true rfl⟩ rfl (rest := []) rfl (Nat.le_of_ble_eq_true rfl) d9_pond_1 ⟨Nat.le_of_ble_eq_true rfl, Nat.le_of_ble_eq_true rfl⟩ (fun r hr => ?_)
  obtain ⟨rfl, hq1⟩ := hr
  refine j_astore_n G d9_pond_4 (by decide) rfl ?_
  refine j_aload_n G 0 rfl d9_pond_5 ?_
  refine j_ifnonnull (tgt := 13) G d9_pond_6 (by decide) ?_
  refine j_aload_n G 0 rfl d9_pond_13 ?_
  refine j_get G 3 1 7 in1 fl9_132 d9_pond_14 rfl rfl (by decide) (v := .int (iZ (C 7))) rfl rfl ?_
  refine j_istore_n G d9_pond_17 (by decide) rfl ?_
  refine j_iload_n G 3 rfl d9_pond_18 ?_
  refine j_if_lt (tgt := 27) G d9_pond_19 (by decide) (by omega) (fun h2 => ?_) (fun h2 => ?_)
  ·
    refine j_bipush G d9_pond_27 rfl ?_
    exact j_iret G F d9_pond_29 ⟨(-2), (U 2), rfl, rfl, (by (refine ⟨?_, ?_⟩ <;> (simp only [pondA, pondN]) <;> (repeat' split) <;> first | rfl | omega | (exfalso; omega)))⟩
  ·
    refine j_iload_n G 3 rfl d9_pond_22 ?_
    refine j_iload_n G 0 rfl d9_pond_23 ?_
    refine j_icmp_le (tgt := 30) G d9_pond_24 (by decide) (by omega) (by omega) (fun h3 => ?_) (fun h3 => ?_)
    ·
      refine j_aload_n G 2 rfl d9_pond_30 ?_
      refine j_get G 0 9 6 in9 fl9_30 d9_pond_31 rfl rfl (by decide) (v := .ref (xa 6)) rfl rfl ?_
      refine j_get G 1 5 2 in5 fl9_175 d9_pond_34 rfl rfl (by decide) (v := .int (iZ (U 2))) rfl rfl ?_
      refine j_istore G d9_pond_37 (by decide) rfl ?_
      refine j_aload_n G 3 rfl d9_pond_39 ?_
      refine j_get G 0 9 6 in9 fl9_30 d9_pond_40 rfl rfl (by decide) (v := .ref (xa 6)) rfl rfl ?_
      refine j_iload_n G 4 rfl d9_pond_43 ?_
      refine j_put G 1 5 2 in5 tyok5 nm5 fl9_175 d9_pond_44 rfl rfl (by decide) ⟨rfl, rfl⟩ rfl rfl (Nat.le_of_ble_eq_true rfl) (e := o5 (some (xa 20)) (some (xa 21)) (some (xa 22)) (some (xa 23)) (upS U 2 a)) rfl ?_
      refine j_iload G 0 rfl d9_pond_47 ?_
      exact j_iret G F d9_pond_49 ⟨U 2, a, rfl, rfl, (by (refine ⟨?_, ?_⟩ <;> (simp only [pondA, pondN]) <;> (repeat' split) <;> first | rfl | omega | (exfalso; omega)))⟩
    ·
      refine j_bipush G d9_pond_27 rfl ?_
      exact j_iret G F d9_pond_29 ⟨(-2), (U 2), rfl, rfl, (by (refine ⟨?_, ?_⟩ <;> (simp only [pondA, pondN]) <;> (repeat' split) <;> first | rfl | omega | (exfalso; omega)))⟩
theorem d9_count_0 : decode c9_count 0 = .ok (.iload_n 1, 1) := by decide +kernel
theorem d9_count_1 : decode c9_count 1 = .ok (.tableswitch 78 0 5 #[39, 44, 49, 57, 62, 70], 39) := by decide +kernel
theorem d9_count_40 : decode c9_count 40 = .ok (.aload_n 0, 1) := by decide +kernel
theorem d9_count_41 : decode c9_count 41 = .ok (.getfield 87, 3) := by decide +kernel
theorem d9_count_44 : decode c9_count 44 = .ok (.ireturn, 1) := by decide +kernel
theorem d9_count_45 : decode c9_count 45 = .ok (.aload_n 0, 1) := by decide +kernel
theorem d9_count_46 : decode c9_count 46 = .ok (.getfield 181, 3) := by decide +kernel
theorem d9_count_49 : decode c9_count 49 = .ok (.ireturn, 1) := by decide +kernel
theorem d9_count_50 : decode c9_count 50 = .ok (.aload_n 0, 1) := by decide +kernel
theorem d9_count_51 : decode c9_count 51 = .ok (.getfield 30, 3) := by decide +kernel
theorem d9_count_54 : decode c9_count 54 = .ok (.getfield 251, 3) := by decide +kernel
theorem d9_count_57 : decode c9_count 57 = .ok (.ireturn, 1) := by decide +kernel
theorem d9_count_58 : decode c9_count 58 = .ok (.aload_n 0, 1) := by decide +kernel
theorem d9_count_59 : decode c9_count 59 = .ok (.getfield 83, 3) := by decide +kernel
theorem d9_count_62 : decode c9_count 62 = .ok (.ireturn, 1) := by decide +kernel
theorem d9_count_63 : decode c9_count 63 = .ok (.aload_n 0, 1) := by decide +kernel
theorem d9_count_64 : decode c9_count 64 = .ok (.getfield 30, 3) := by decide +kernel
theorem d9_count_67 : decode c9_count 67 = .ok (.getfield 104, 3) := by decide +kernel
theorem d9_count_70 : decode c9_count 70 = .ok (.ireturn, 1) := by decide +kernel
theorem d9_count_71 : decode c9_count 71 = .ok (.aload_n 0, 1) := by decide +kernel
theorem d9_count_72 : decode c9_count 72 = .ok (.getfield 46, 3) := by decide +kernel
theorem d9_count_75 : decode c9_count 75 = .ok (.getfield 291, 3) := by decide +kernel
theorem d9_count_78 : decode c9_count 78 = .ok (.ireturn, 1) := by decide +kernel
theorem d9_count_79 : decode c9_count 79 = .ok (.bipush (-2), 2) := by decide +kernel
theorem d9_count_81 : decode c9_count 81 = .ok (.ireturn, 1) := by decide +kernel
theorem mw9_count : MV y9_count c9_count 2 (some .int) 1 := ⟨cd9_count, ini9, na9_count, im9_count, se9_count⟩
set_option maxHeartbeats 4000000 in
set_option maxRecDepth 100000 in
theorem k9_count (l : Launch) (E : En) (xo : Nat) (xa : Nat → Nat) (X : Nat → Int) (U : Nat → Int) (Q : Nat → Int) (a : Int) (r_a : R32 a) : Cp l E y9_count c9_count 2 (some .int) 0 0 [.ref xo, .int (iZ a)] [(xo, xO xa X), (xa 6, o5 (some (xa 20)) (some (xa 21)) (some (xa 22)) (some (xa 23)) U), (xa 10, o8 (some (xa 28)) Q)] (fun r => ∃ (v : Int), r = some (.int (iZ v)) ∧ (v = (if a = 0 then X 3 else if a = 1 then X 5 else if a = 2 then U 7 else if a = 3 then X 1 else if a = 4 then U 3 else if a = 5 then Q 1 else -2))) := by
  refine Cp.of (by decide +kernel) (Nat.le_of_ble_eq_true rfl) (fun Γ hl hargs G F => ?_)
  subst hl
  refine j_iload_n G 1 rfl d9_count_0 ?_
  rcases (show a = 0 ∨ a = 1 ∨ a = 2 ∨ a = 3 ∨ a = 4 ∨ a = 5 ∨ (a < 0 ∨ 5 < a) by omega) with h1 | h1 | h1 | h1 | h1 | h1 | h1
  ·
    refine j_tabIn (tgt := 40) G d9_count_1 (by omega) 0 h1 ⟨by decide, by decide⟩ rfl (by decide) ?_
    refine j_aload_n G 0 rfl d9_count_40 ?_
    refine j_get G 0 9 3 in9 fl9_87 d9_count_41 rfl rfl (by decide) (v := .int (iZ (X 3))) rfl rfl ?_
    exact j_iret G F d9_count_44 ⟨X 3, rfl, (by (repeat' split) <;> first | rfl | omega | (exfalso; omega))⟩
  ·
    refine j_tabIn (tgt := 45) G d9_count_1 (by omega) 1 h1 ⟨by decide, by decide⟩ rfl (by decide) ?_
    refine j_aload_n G 0 rfl d9_count_45 ?_
    refine j_get G 0 9 5 in9 fl9_181 d9_count_46 rfl rfl (by decide) (v := .int (iZ (X 5))) rfl rfl ?_
    exact j_iret G F d9_count_49 ⟨X 5, rfl, (by (repeat' split) <;> first | rfl | omega | (exfalso; omega))⟩
  ·
    refine j_tabIn (tgt := 50) G d9_count_1 (by omega) 2 h1 ⟨by decide, by decide⟩ rfl (by decide) ?_
    refine j_aload_n G 0 rfl d9_count_50 ?_
    refine j_get G 0 9 6 in9 fl9_30 d9_count_51 rfl rfl (by decide) (v := .ref (xa 6)) rfl rfl ?_
    refine j_get G 1 5 7 in5 fl9_251 d9_count_54 rfl rfl (by decide) (v := .int (iZ (U 7))) rfl rfl ?_
    exact j_iret G F d9_count_57 ⟨U 7, rfl, (by (repeat' split) <;> first | rfl | omega | (exfalso; omega))⟩
  ·
    refine j_tabIn (tgt := 58) G d9_count_1 (by omega) 3 h1 ⟨by decide, by decide⟩ rfl (by decide) ?_
    refine j_aload_n G 0 rfl d9_count_58 ?_
    refine j_get G 0 9 1 in9 fl9_83 d9_count_59 rfl rfl (by decide) (v := .int (iZ (X 1))) rfl rfl ?_
    exact j_iret G F d9_count_62 ⟨X 1, rfl, (by (repeat' split) <;> first | rfl | omega | (exfalso; omega))⟩
  ·
    refine j_tabIn (tgt := 63) G d9_count_1 (by omega) 4 h1 ⟨by decide, by decide⟩ rfl (by decide) ?_
    refine j_aload_n G 0 rfl d9_count_63 ?_
    refine j_get G 0 9 6 in9 fl9_30 d9_count_64 rfl rfl (by decide) (v := .ref (xa 6)) rfl rfl ?_
    refine j_get G 1 5 3 in5 fl9_104 d9_count_67 rfl rfl (by decide) (v := .int (iZ (U 3))) rfl rfl ?_
    exact j_iret G F d9_count_70 ⟨U 3, rfl, (by (repeat' split) <;> first | rfl | omega | (exfalso; omega))⟩
  ·
    refine j_tabIn (tgt := 71) G d9_count_1 (by omega) 5 h1 ⟨by decide, by decide⟩ rfl (by decide) ?_
    refine j_aload_n G 0 rfl d9_count_71 ?_
    refine j_get G 0 9 10 in9 fl9_46 d9_count_72 rfl rfl (by decide) (v := .ref (xa 10)) rfl rfl ?_
    refine j_get G 2 8 1 in8 fl9_291 d9_count_75 rfl rfl (by decide) (v := .int (iZ (Q 1))) rfl rfl ?_
    exact j_iret G F d9_count_78 ⟨Q 1, rfl, (by (repeat' split) <;> first | rfl | omega | (exfalso; omega))⟩
  ·
    refine j_tabOut (tgt := 79) G d9_count_1 (by omega) h1 (by decide) ?_
    refine j_bipush G d9_count_79 rfl ?_
    exact j_iret G F d9_count_81 ⟨(-2), rfl, (by (repeat' split) <;> first | rfl | omega | (exfalso; omega))⟩
theorem d9_trace_0 : decode c9_trace 0 = .ok (.iload_n 1, 1) := by decide +kernel
theorem d9_trace_1 : decode c9_trace 1 = .ok (.ifCond .lt 20, 3) := by decide +kernel
theorem d9_trace_4 : decode c9_trace 4 = .ok (.iload_n 1, 1) := by decide +kernel
theorem d9_trace_5 : decode c9_trace 5 = .ok (.aload_n 0, 1) := by decide +kernel
theorem d9_trace_6 : decode c9_trace 6 = .ok (.getfield 46, 3) := by decide +kernel
theorem d9_trace_9 : decode c9_trace 9 = .ok (.getfield 291, 3) := by decide +kernel
theorem d9_trace_12 : decode c9_trace 12 = .ok (.if_icmp .ge 9, 3) := by decide +kernel
theorem d9_trace_15 : decode c9_trace 15 = .ok (.iload_n 1, 1) := by decide +kernel
theorem d9_trace_16 : decode c9_trace 16 = .ok (.bipush 20, 2) := by decide +kernel
theorem d9_trace_18 : decode c9_trace 18 = .ok (.if_icmp .lt 7, 3) := by decide +kernel
theorem d9_trace_21 : decode c9_trace 21 = .ok (.iconst (-1), 1) := by decide +kernel
theorem d9_trace_22 : decode c9_trace 22 = .ok (.goto 12, 3) := by decide +kernel
theorem d9_trace_25 : decode c9_trace 25 = .ok (.aload_n 0, 1) := by decide +kernel
theorem d9_trace_26 : decode c9_trace 26 = .ok (.getfield 46, 3) := by decide +kernel
theorem d9_trace_29 : decode c9_trace 29 = .ok (.getfield 304, 3) := by decide +kernel
theorem d9_trace_32 : decode c9_trace 32 = .ok (.iload_n 1, 1) := by decide +kernel
theorem d9_trace_33 : decode c9_trace 33 = .ok (.iaload, 1) := by decide +kernel
theorem d9_trace_34 : decode c9_trace 34 = .ok (.ireturn, 1) := by decide +kernel
theorem mw9_trace : MV y9_trace c9_trace 2 (some .int) 1 := ⟨cd9_trace, ini9, na9_trace, im9_trace, se9_trace⟩
set_option maxHeartbeats 4000000 in
set_option maxRecDepth 100000 in
theorem k9_trace (l : Launch) (E : En) (xo : Nat) (xa : Nat → Nat) (X : Nat → Int) (Q : Nat → Int) (bo : Int → Int) (a : Int) (r_a : R32 a) (hra : 0 ≤ Q 1 ∧ Q 1 ≤ 1000000) : Cp l E y9_trace c9_trace 2 (some .int) 0 0 [.ref xo, .int (iZ a)] [(xo, xO xa X), (xa 10, o8 (some (xa 28)) Q), (xa 28, aInt E 20 bo)] (fun r => ∃ (v : Int), r = some (.int (iZ v)) ∧ (v = traceA (Q 1) bo a)) := by
  refine Cp.of (by decide +kernel) (Nat.le_of_ble_eq_true rfl) (fun Γ hl hargs G F => ?_)
  subst hl
  refine j_iload_n G 1 rfl d9_trace_0 ?_
  refine j_if_lt (tgt := 21) G d9_trace_1 (by decide) (by omega) (fun h1 => ?_) (fun h1 => ?_)
  ·
    refine j_iconst G d9_trace_21 ?_
    refine j_goto (tgt := 34) G d9_trace_22 (by decide) ?_
    exact j_iret G F d9_trace_34 ⟨(-1), rfl, (by (try simp only [traceA]) <;> (repeat' split) <;> first | rfl | omega | (exfalso; omega))⟩
  ·
    refine j_iload_n G 1 rfl d9_trace_4 ?_
    refine j_aload_n G 0 rfl d9_trace_5 ?_
    refine j_get G 0 9 10 in9 fl9_46 d9_trace_6 rfl rfl (by decide) (v := .ref (xa 10)) rfl rfl ?_
    refine j_get G 1 8 1 in8 fl9_291 d9_trace_9 rfl rfl (by decide) (v := .int (iZ (Q 1))) rfl rfl ?_
    refine j_icmp_ge (tgt := 21) G d9_trace_12 (by decide) (by omega) (by omega) (fun h2 => ?_) (fun h2 => ?_)
    ·
      refine j_iconst G d9_trace_21 ?_
      refine j_goto (tgt := 34) G d9_trace_22 (by decide) ?_
      exact j_iret G F d9_trace_34 ⟨(-1), rfl, (by (try simp only [traceA]) <;> (repeat' split) <;> first | rfl | omega | (exfalso; omega))⟩
    ·
      refine j_iload_n G 1 rfl d9_trace_15 ?_
      refine j_bipush G d9_trace_16 rfl ?_
      refine j_icmp_lt (tgt := 25) G d9_trace_18 (by decide) (by omega) (by decide) (fun h3 => ?_) (fun h3 => ?_)
      ·
        refine j_aload_n G 0 rfl d9_trace_25 ?_
        refine j_get G 0 9 10 in9 fl9_46 d9_trace_26 rfl rfl (by decide) (v := .ref (xa 10)) rfl rfl ?_
        refine j_get G 1 8 0 in8 fl9_304 d9_trace_29 rfl rfl (by decide) (v := .ref (xa 28)) rfl rfl ?_
        refine j_iload_n G 1 rfl d9_trace_32 ?_
        refine j_iald G 2 rfl (by omega) d9_trace_33 ?_
        exact j_iret G F d9_trace_34 ⟨bo a, rfl, (by (try simp only [traceA]) <;> (repeat' split) <;> first | rfl | omega | (exfalso; omega))⟩
      ·
        refine j_iconst G d9_trace_21 ?_
        refine j_goto (tgt := 34) G d9_trace_22 (by decide) ?_
        exact j_iret G F d9_trace_34 ⟨(-1), rfl, (by (try simp only [traceA]) <;> (repeat' split) <;> first | rfl | omega | (exfalso; omega))⟩
