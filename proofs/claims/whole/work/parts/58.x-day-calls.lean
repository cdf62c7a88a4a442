theorem d9_day_0 : decode c9_day 0 = .ok (.aload_n 0, 1) := by decide +kernel
theorem d9_day_1 : decode c9_day 1 = .ok (.iload_n 1, 1) := by decide +kernel
theorem d9_day_2 : decode c9_day 2 = .ok (.invokevirtual 184, 3) := by decide +kernel
theorem d9_day_5 : decode c9_day 5 = .ok (.astore_n 3, 1) := by decide +kernel
theorem d9_day_6 : decode c9_day 6 = .ok (.aload_n 0, 1) := by decide +kernel
theorem d9_day_7 : decode c9_day 7 = .ok (.invokevirtual 107, 3) := by decide +kernel
theorem d9_day_10 : decode c9_day 10 = .ok (.astore 4, 2) := by decide +kernel
theorem d9_day_12 : decode c9_day 12 = .ok (.aload_n 3, 1) := by decide +kernel
theorem d9_day_13 : decode c9_day 13 = .ok (.ifnull 29, 3) := by decide +kernel
theorem d9_day_42 : decode c9_day 42 = .ok (.iconst (-1), 1) := by decide +kernel
theorem d9_day_43 : decode c9_day 43 = .ok (.ireturn, 1) := by decide +kernel
theorem mw9_day : MV y9_day c9_day 5 (some .int) 2 := ⟨cd9_day, ini9, na9_day, im9_day, se9_day⟩
set_option maxHeartbeats 4000000 in
set_option maxRecDepth 100000 in
theorem k9_daynn (l : Launch) (E : En) (xo : Nat) (xa : Nat → Nat) (X : Nat → Int) (U : Nat → Int) (q : Int) (a : Int) (r_q : R32 q) (r_a : R32 a) (hrq : ¬ (0 ≤ q ∧ q < X 5)) (hx5 : 0 ≤ X 5 ∧ X 5 ≤ 12) (hu3 : U 3 < 0) (hu4 : -100 ≤ U 3) : Cp l E y9_day c9_day 5 (some .int) 1 21 [.ref xo, .int (iZ q), .int (iZ a)] [(xo, xO xa X), (xa 6, o5 (some (xa 20)) (some (xa 21)) (some (xa 22)) (some (xa 23)) U)] (fun r => ∃ (v : Int), r = some (.int (iZ v)) ∧ (v = -1)) := by
  refine Cp.of (by decide +kernel) (Nat.le_of_ble_eq_true rfl) (fun Γ hl hargs G F => ?_)
  subst hl
  refine j_aload_n G 0 rfl d9_day_0 ?_
  refine j_iload_n G 1 rfl d9_day_1 ?_
  refine j_VP G (k9_ruleAtn (xl Γ) E xo xa X q (by first | assumption | omega | (simp only [upS, reduceIte, Nat.reduceEqDiff, eq_self, List.length_cons, List.length_nil, List.length_append] <;> omega)) (by first | assumption | omega | (simp only [upS, reduceIte, Nat.reduceEqDiff, eq_self, List.length_cons, List.length_nil, List.length_append] <;> omega)) (by first | assumption | omega | (simp only [upS, reduceIte, Nat.reduceEqDiff, eq_self, List.length_cons, List.length_nil, List.length_append] <;> omega))) mw9_ruleAt ml9_184 [0] rfl 0 9 rfl rfl rfl ⟨Nat.le_of_ble_eq_true rfl, Nat.le_of_ble_eq_true rfl⟩ rfl (rest := []) rfl (Nat.le_of_ble_eq_true rfl) d9_day_2 ⟨Nat.le_of_ble_eq_true rfl, Nat.le_of_ble_eq_true rfl⟩ (fun r hr => ?_)
  obtain ⟨rfl, hq1⟩ := hr
  refine j_astore_nN G d9_day_5 (by decide) rfl ?_
  refine j_aload_n G 1 rfl d9_day_6 ?_
  refine j_VP G (k9_theCliffn (xl Γ) E xo xa X U (by first | assumption | omega | (simp only [upS, reduceIte, Nat.reduceEqDiff, eq_self, List.length_cons, List.length_nil, List.length_append] <;> omega)) (by first | assumption | omega | (simp only [upS, reduceIte, Nat.reduceEqDiff, eq_self, List.length_cons, List.length_nil, List.length_append] <;> omega))) mw9_theCliff ml9_107 [0, 1] rfl 0 9 rfl rfl rfl ⟨Nat.le_of_ble_eq_true rfl, Nat.le_of_ble_eq_true rfl⟩ rfl (rest := []) rfl (Nat.le_of_ble_eq_true rfl) d9_day_7 ⟨Nat.le_of_ble_eq_true rfl, Nat.le_of_ble_eq_true rfl⟩ (fun r hr => ?_)
  obtain ⟨rfl, hq2⟩ := hr
  refine j_astoreN G d9_day_10 (by decide) rfl ?_
  refine j_aload_nN G 1 rfl d9_day_12 ?_
  refine j_ifnullN (tgt := 42) G d9_day_13 (by decide) ?_
  refine j_iconst G d9_day_42 ?_
  exact j_iret G F d9_day_43 ⟨(-1), rfl, (by first | rfl | omega)⟩
set_option maxHeartbeats 4000000 in
set_option maxRecDepth 100000 in
theorem k9_daync (l : Launch) (E : En) (xo : Nat) (xa : Nat → Nat) (X : Nat → Int) (U : Nat → Int) (ck : Nat → Option Nat) (ca : Nat) (pa : Nat) (da : Nat) (sa : Nat) (C : Nat → Int) (P : Int → Int) (dr : Int → Int) (sr : Int → Int) (q : Int) (a : Int) (r_q : R32 q) (r_a : R32 a) (hrq : ¬ (0 ≤ q ∧ q < X 5)) (hx5 : 0 ≤ X 5 ∧ X 5 ≤ 12) (hu3 : 0 ≤ U 3 ∧ U 3 < X 3 ∧ X 3 ≤ 4) (hck : ck (U 3).toNat = some ca) (hwf : wfC C P) (hU1 : U 1 = 0 ∨ U 1 = 1) (hdr : ∀ j, 0 ≤ j → j < 24 → (0 ≤ dr j ∧ dr j ≤ 11988)) : Cp l E y9_day c9_day 5 (some .int) 1 21 [.ref xo, .int (iZ q), .int (iZ a)] [(xo, xO xa X), (xa 6, o5 (some (xa 20)) (some (xa 21)) (some (xa 22)) (some (xa 23)) U), (xa 2, aRef E 3 4 ck), (ca, o1 (some pa) (some da) (some sa) C), (pa, aInt E 5 P), (da, aInt E 24 dr), (sa, aInt E 24 sr)] (fun r => ∃ (v : Int), r = some (.int (iZ v)) ∧ (v = -1)) := by
  refine Cp.of (by decide +kernel) (Nat.le_of_ble_eq_true rfl) (fun Γ hl hargs G F => ?_)
  subst hl
  refine j_aload_n G 0 rfl d9_day_0 ?_
  refine j_iload_n G 1 rfl d9_day_1 ?_
  refine j_VP G (k9_ruleAtn (xl Γ) E xo xa X q (by first | assumption | omega | (simp only [upS, reduceIte, Nat.reduceEqDiff, eq_self, List.length_cons, List.length_nil, List.length_append] <;> omega)) (by first | assumption | omega | (simp only [upS, reduceIte, Nat.reduceEqDiff, eq_self, List.length_cons, List.length_nil, List.length_append] <;> omega)) (by first | assumption | omega | (simp only [upS, reduceIte, Nat.reduceEqDiff, eq_self, List.length_cons, List.length_nil, List.length_append] <;> omega))) mw9_ruleAt ml9_184 [0] rfl 0 9 rfl rfl rfl ⟨Nat.le_of_ble_eq_true rfl, Nat.le_of_ble_eq_true rfl⟩ rfl (rest := []) rfl (Nat.le_of_ble_eq_true rfl) d9_day_2 ⟨Nat.le_of_ble_eq_true rfl, Nat.le_of_ble_eq_true rfl⟩ (fun r hr => ?_)
  obtain ⟨rfl, hq1⟩ := hr
  refine j_astore_nN G d9_day_5 (by decide) rfl ?_
  refine j_aload_n G 1 rfl d9_day_6 ?_
  refine j_VP G (k9_theCliffc (xl Γ) E xo xa X U ck ca (by first | assumption | omega | (simp only [upS, reduceIte, Nat.reduceEqDiff, eq_self, List.length_cons, List.length_nil, List.length_append] <;> omega)) (by first | assumption | omega | (simp only [upS, reduceIte, Nat.reduceEqDiff, eq_self, List.length_cons, List.length_nil, List.length_append] <;> omega))) mw9_theCliff ml9_107 [0, 1, 2] rfl 0 9 rfl rfl rfl ⟨Nat.le_of_ble_eq_true rfl, Nat.le_of_ble_eq_true rfl⟩ rfl (rest := []) rfl (Nat.le_of_ble_eq_true rfl) d9_day_7 ⟨Nat.le_of_ble_eq_true rfl, Nat.le_of_ble_eq_true rfl⟩ (fun r hr => ?_)
  obtain ⟨rfl, hq2⟩ := hr
  refine j_astore G d9_day_10 (by decide) rfl ?_
  refine j_aload_nN G 1 rfl d9_day_12 ?_
  refine j_ifnullN (tgt := 42) G d9_day_13 (by decide) ?_
  refine j_iconst G d9_day_42 ?_
  exact j_iret G F d9_day_43 ⟨(-1), rfl, (by first | rfl | omega)⟩
theorem d9_day_16 : decode c9_day 16 = .ok (.aload 4, 2) := by decide +kernel
theorem d9_day_18 : decode c9_day 18 = .ok (.ifnull 24, 3) := by decide +kernel
set_option maxHeartbeats 4000000 in
set_option maxRecDepth 100000 in
theorem k9_daycn (l : Launch) (E : En) (xo : Nat) (xa : Nat → Nat) (X : Nat → Int) (U : Nat → Int) (rk : Nat → Option Nat) (ra : Nat) (rr : Nat) (len : Nat) (R : Nat → Int) (rw : Int → Int) (q : Int) (a : Int) (r_q : R32 q) (r_a : R32 a) (hrq : 0 ≤ q ∧ q < X 5 ∧ X 5 ≤ 12) (hrk : rk q.toNat = some ra) (hu3 : U 3 < 0) (hu4 : -100 ≤ U 3) : Cp l E y9_day c9_day 5 (some .int) 1 21 [.ref xo, .int (iZ q), .int (iZ a)] [(xo, xO xa X), (xa 6, o5 (some (xa 20)) (some (xa 21)) (some (xa 22)) (some (xa 23)) U), (xa 4, aRef E 4 12 rk), (ra, o4 (some rr) R), (rr, aInt E len rw)] (fun r => ∃ (v : Int), r = some (.int (iZ v)) ∧ (v = -1)) := by
  refine Cp.of (by decide +kernel) (Nat.le_of_ble_eq_true rfl) (fun Γ hl hargs G F => ?_)
  subst hl
  refine j_aload_n G 0 rfl d9_day_0 ?_
  refine j_iload_n G 1 rfl d9_day_1 ?_
  refine j_VP G (k9_ruleAtc (xl Γ) E xo xa X rk ra q (by first | assumption | omega | (simp only [upS, reduceIte, Nat.reduceEqDiff, eq_self, List.length_cons, List.length_nil, List.length_append] <;> omega)) (by first | assumption | omega | (simp only [upS, reduceIte, Nat.reduceEqDiff, eq_self, List.length_cons, List.length_nil, List.length_append] <;> omega)) (by first | assumption | omega | (simp only [upS, reduceIte, Nat.reduceEqDiff, eq_self, List.length_cons, List.length_nil, List.length_append] <;> omega))) mw9_ruleAt ml9_184 [0, 2] rfl 0 9 rfl rfl rfl ⟨Nat.le_of_ble_eq_true rfl, Nat.le_of_ble_eq_true rfl⟩ rfl (rest := []) rfl (Nat.le_of_ble_eq_true rfl) d9_day_2 ⟨Nat.le_of_ble_eq_true rfl, Nat.le_of_ble_eq_true rfl⟩ (fun r hr => ?_)
  obtain ⟨rfl, hq1⟩ := hr
  refine j_astore_n G d9_day_5 (by decide) rfl ?_
  refine j_aload_n G 1 rfl d9_day_6 ?_
  refine j_VP G (k9_theCliffn (xl Γ) E xo xa X U (by first | assumption | omega | (simp only [upS, reduceIte, Nat.reduceEqDiff, eq_self, List.length_cons, List.length_nil, List.length_append] <;> omega)) (by first | assumption | omega | (simp only [upS, reduceIte, Nat.reduceEqDiff, eq_self, List.length_cons, List.length_nil, List.length_append] <;> omega))) mw9_theCliff ml9_107 [0, 1] rfl 0 9 rfl rfl rfl ⟨Nat.le_of_ble_eq_true rfl, Nat.le_of_ble_eq_true rfl⟩ rfl (rest := []) rfl (Nat.le_of_ble_eq_true rfl) d9_day_7 ⟨Nat.le_of_ble_eq_true rfl, Nat.le_of_ble_eq_true rfl⟩ (fun r hr => ?_)
  obtain ⟨rfl, hq2⟩ := hr
  refine j_astoreN G d9_day_10 (by decide) rfl ?_
  refine j_aload_n G 1 rfl d9_day_12 ?_
  refine j_ifnull G d9_day_13 ?_
  refine j_aloadN G 0 rfl d9_day_16 ?_
  refine j_ifnullN (tgt := 42) G d9_day_18 (by decide) ?_
  refine j_iconst G d9_day_42 ?_
  exact j_iret G F d9_day_43 ⟨(-1), rfl, (by first | rfl | omega)⟩
theorem d9_day_21 : decode c9_day 21 = .ok (.iload_n 2, 1) := by decide +kernel
theorem d9_day_22 : decode c9_day 22 = .ok (.ifCond .lt 20, 3) := by decide +kernel
theorem d9_day_25 : decode c9_day 25 = .ok (.iload_n 2, 1) := by decide +kernel
theorem d9_day_26 : decode c9_day 26 = .ok (.iconst 5, 1) := by decide +kernel
theorem d9_day_27 : decode c9_day 27 = .ok (.if_icmp .le 9, 3) := by decide +kernel
theorem d9_day_30 : decode c9_day 30 = .ok (.iload_n 2, 1) := by decide +kernel
theorem d9_day_31 : decode c9_day 31 = .ok (.bipush 10, 2) := by decide +kernel
theorem d9_day_33 : decode c9_day 33 = .ok (.if_icmp .lt 9, 3) := by decide +kernel
theorem d9_day_36 : decode c9_day 36 = .ok (.iload_n 2, 1) := by decide +kernel
theorem d9_day_37 : decode c9_day 37 = .ok (.bipush 22, 2) := by decide +kernel
theorem d9_day_39 : decode c9_day 39 = .ok (.if_icmp .lt 5, 3) := by decide +kernel
theorem d9_day_44 : decode c9_day 44 = .ok (.aload_n 0, 1) := by decide +kernel
theorem d9_day_45 : decode c9_day 45 = .ok (.getfield 60, 3) := by decide +kernel
theorem d9_day_48 : decode c9_day 48 = .ok (.aload 4, 2) := by decide +kernel
theorem d9_day_50 : decode c9_day 50 = .ok (.aload_n 0, 1) := by decide +kernel
theorem d9_day_51 : decode c9_day 51 = .ok (.getfield 30, 3) := by decide +kernel
theorem d9_day_54 : decode c9_day 54 = .ok (.invokevirtual 197, 3) := by decide +kernel
theorem d9_day_57 : decode c9_day 57 = .ok (.aload_n 0, 1) := by decide +kernel
theorem d9_day_58 : decode c9_day 58 = .ok (.getfield 78, 3) := by decide +kernel
theorem d9_day_61 : decode c9_day 61 = .ok (.aload_n 3, 1) := by decide +kernel
theorem d9_day_62 : decode c9_day 62 = .ok (.aload_n 0, 1) := by decide +kernel
theorem d9_day_63 : decode c9_day 63 = .ok (.getfield 30, 3) := by decide +kernel
theorem d9_day_66 : decode c9_day 66 = .ok (.getfield 175, 3) := by decide +kernel
theorem d9_day_69 : decode c9_day 69 = .ok (.invokevirtual 201, 3) := by decide +kernel
theorem d9_day_72 : decode c9_day 72 = .ok (.iload_n 2, 1) := by decide +kernel
theorem d9_day_73 : decode c9_day 73 = .ok (.tableswitch 87 0 5 #[39, 47, 55, 63, 71, 79], 39) := by decide +kernel
theorem d9_day_112 : decode c9_day 112 = .ok (.aload_n 0, 1) := by decide +kernel
theorem d9_day_113 : decode c9_day 113 = .ok (.getfield 78, 3) := by decide +kernel
theorem d9_day_116 : decode c9_day 116 = .ok (.getfield 205, 3) := by decide +kernel
theorem d9_day_119 : decode c9_day 119 = .ok (.ireturn, 1) := by decide +kernel
theorem d9_day_120 : decode c9_day 120 = .ok (.aload_n 0, 1) := by decide +kernel
theorem d9_day_121 : decode c9_day 121 = .ok (.getfield 78, 3) := by decide +kernel
theorem d9_day_124 : decode c9_day 124 = .ok (.getfield 208, 3) := by decide +kernel
theorem d9_day_127 : decode c9_day 127 = .ok (.ireturn, 1) := by decide +kernel
theorem d9_day_128 : decode c9_day 128 = .ok (.aload_n 0, 1) := by decide +kernel
theorem d9_day_129 : decode c9_day 129 = .ok (.getfield 78, 3) := by decide +kernel
theorem d9_day_132 : decode c9_day 132 = .ok (.getfield 211, 3) := by decide +kernel
theorem d9_day_135 : decode c9_day 135 = .ok (.ireturn, 1) := by decide +kernel
theorem d9_day_136 : decode c9_day 136 = .ok (.aload_n 0, 1) := by decide +kernel
theorem d9_day_137 : decode c9_day 137 = .ok (.getfield 78, 3) := by decide +kernel
theorem d9_day_140 : decode c9_day 140 = .ok (.getfield 214, 3) := by decide +kernel
theorem d9_day_143 : decode c9_day 143 = .ok (.ireturn, 1) := by decide +kernel
theorem d9_day_144 : decode c9_day 144 = .ok (.aload_n 0, 1) := by decide +kernel
theorem d9_day_145 : decode c9_day 145 = .ok (.getfield 78, 3) := by decide +kernel
theorem d9_day_148 : decode c9_day 148 = .ok (.getfield 217, 3) := by decide +kernel
theorem d9_day_151 : decode c9_day 151 = .ok (.ireturn, 1) := by decide +kernel
theorem d9_day_152 : decode c9_day 152 = .ok (.aload_n 0, 1) := by decide +kernel
theorem d9_day_153 : decode c9_day 153 = .ok (.getfield 78, 3) := by decide +kernel
theorem d9_day_156 : decode c9_day 156 = .ok (.getfield 220, 3) := by decide +kernel
theorem d9_day_159 : decode c9_day 159 = .ok (.ireturn, 1) := by decide +kernel
theorem d9_day_160 : decode c9_day 160 = .ok (.aload_n 0, 1) := by decide +kernel
theorem d9_day_161 : decode c9_day 161 = .ok (.getfield 78, 3) := by decide +kernel
theorem d9_day_164 : decode c9_day 164 = .ok (.getfield 223, 3) := by decide +kernel
theorem d9_day_167 : decode c9_day 167 = .ok (.iload_n 2, 1) := by decide +kernel
theorem d9_day_168 : decode c9_day 168 = .ok (.bipush 10, 2) := by decide +kernel
theorem d9_day_170 : decode c9_day 170 = .ok (.isub, 1) := by decide +kernel
theorem d9_day_171 : decode c9_day 171 = .ok (.iaload, 1) := by decide +kernel
theorem d9_day_172 : decode c9_day 172 = .ok (.ireturn, 1) := by decide +kernel
set_option maxHeartbeats 4000000 in
set_option maxRecDepth 100000 in
theorem k9_daycc (l : Launch) (E : En) (xo : Nat) (xa : Nat → Nat) (X : Nat → Int) (U : Nat → Int) (ck : Nat → Option Nat) (ca : Nat) (pa : Nat) (da : Nat) (sa : Nat) (C : Nat → Int) (P : Int → Int) (dr : Int → Int) (sr : Int → Int) (rk : Nat → Option Nat) (ra : Nat) (rr : Nat) (len : Nat) (R : Nat → Int) (rw : Int → Int) (r0 : Option Nat) (T : Nat → Int) (Q : Nat → Int) (Y : Nat → Int) (cx : Int → Int) (kn : Int → Int) (pn : Int → Int) (co : Int → Int) (D : Int → Int) (W : Int → Int) (q : Int) (a : Int) (r_q : R32 q) (r_a : R32 a) (hrq : 0 ≤ q ∧ q < X 5 ∧ X 5 ≤ 12) (hrk : rk q.toNat = some ra) (hu3 : 0 ≤ U 3 ∧ U 3 < X 3 ∧ X 3 ≤ 4) (hck : ck (U 3).toNat = some ca) (hwf : wfC C P) (hU1 : U 1 = 0 ∨ U 1 = 1) (hdr : ∀ j, 0 ≤ j → j < 24 → (0 ≤ dr j ∧ dr j ≤ 11988)) (hco : ∀ j, 0 ≤ j → j < 24 → 0 ≤ co j ∧ co j ≤ 6) (hDW : ∀ s, 0 ≤ s → s ≤ 11 → dr (12 * U 1 + s) = D s ∧ sr (12 * U 1 + s) = W s ∧ (0 ≤ D s ∧ D s ≤ 11988) ∧ (0 ≤ W s ∧ W s ≤ 11988)) (hkb : KnB (Q 2) kn) (hed : Q 2 < 90000000) (hu2 : 0 ≤ U 2 ∧ U 2 ≤ 40) (hR : (0 ≤ R 0 ∧ R 0 ≤ 6) ∧ (0 ≤ R 1 ∧ R 1 ≤ 20) ∧ (0 ≤ R 4 ∧ R 4 ≤ 12)) (hlen : R 0 = 6 → len = 12) (hrw : R 0 = 6 → ∀ j, 0 ≤ j → j < 12 → 0 ≤ rw j ∧ rw j ≤ 1) : Cm l E y9_day c9_day 5 (some .int) { frames := 29, cells := 0, slots := 0, locals := 802 } [.ref xo, .int (iZ q), .int (iZ a)] [(xo, xO xa X), (xa 6, o5 (some (xa 20)) (some (xa 21)) (some (xa 22)) (some (xa 23)) U), (xa 2, aRef E 3 4 ck), (ca, o1 (some pa) (some da) (some sa) C), (pa, aInt E 5 P), (da, aInt E 24 dr), (sa, aInt E 24 sr), (xa 4, aRef E 4 12 rk), (ra, o4 (some rr) R), (rr, aInt E len rw), (xa 20, aInt E 24 co), (xa 12, o7 r0 (some (xa 30)) T), (xa 30, aInt E 24 cx), (xa 13, o3 (some (xa 12)) (some (xa 31)) Q), (xa 31, aLng E 39852 kn), (xa 14, o2 (some (xa 12)) (some (xa 13)) (some (xa 32)) Y), (xa 32, aInt E 12 pn)] (fun r ws => ∃ (v : Int), ∃ (T1 : Nat → Int), ∃ (r1 : Option Nat), ∃ (Y1 : Nat → Int), ∃ (cx1 : Int → Int), ∃ (kn1 : Int → Int), ∃ (pn1 : Int → Int), ∃ (q1 : Int), ∃ (q2 : Int), r = some (.int (iZ v)) ∧ ws = [(xo, xO xa X), (xa 6, o5 (some (xa 20)) (some (xa 21)) (some (xa 22)) (some (xa 23)) U), (xa 2, aRef E 3 4 ck), (ca, o1 (some pa) (some da) (some sa) C), (pa, aInt E 5 P), (da, aInt E 24 dr), (sa, aInt E 24 sr), (xa 4, aRef E 4 12 rk), (ra, o4 (some rr) R), (rr, aInt E len rw), (xa 20, aInt E 24 co), (xa 12, o7 r1 (some (xa 30)) T1), (xa 30, aInt E 24 cx1), (xa 13, o3 (some (xa 12)) (some (xa 31)) (upS (upS Q 1 q1) 2 q2)), (xa 31, aLng E 39852 kn1), (xa 14, o2 (some (xa 12)) (some (xa 13)) (some (xa 32)) Y1), (xa 32, aInt E 12 pn1)] ∧ (v = (if ((0 ≤ a ∧ a ≤ 5) ∨ (10 ≤ a ∧ a ≤ 21)) then dayN (kD C P D W co 0 0 0 0 1) (fun s st => ldI (kD C P D W co 0 0 0 0 1) (R 0) (R 1) s st (R 4) rw) (81 * U 2) a else -1) ∧ (KnB q2 kn1 ∧ q2 ≤ Q 2 + 20))) := by
  refine Cm.of (by decide +kernel) (Nat.le_of_ble_eq_true rfl) (fun Γ A hl hargs hin G F => ?_)
  subst hl
  have hw5 := hwf.2.2.2.2.2.1
  have hw6 := hwf.2.2.2.2.2.2.1
  have hw7 := hwf.2.2.2.2.2.2.2
  refine j_aload_n G 0 rfl d9_day_0 ?_
  refine j_iload_n G 1 rfl d9_day_1 ?_
  refine j_VP G (k9_ruleAtc (xl Γ) E xo xa X rk ra q (by first | assumption | omega | (simp only [upS, reduceIte, Nat.reduceEqDiff, eq_self, List.length_cons, List.length_nil, List.length_append] <;> omega)) (by first | assumption | omega | (simp only [upS, reduceIte, Nat.reduceEqDiff, eq_self, List.length_cons, List.length_nil, List.length_append] <;> omega)) (by first | assumption | omega | (simp only [upS, reduceIte, Nat.reduceEqDiff, eq_self, List.length_cons, List.length_nil, List.length_append] <;> omega))) mw9_ruleAt ml9_184 [0, 7] rfl 0 9 rfl rfl rfl ⟨Nat.le_of_ble_eq_true rfl, Nat.le_of_ble_eq_true rfl⟩ rfl (rest := []) rfl (Nat.le_of_ble_eq_true rfl) d9_day_2 ⟨Nat.le_of_ble_eq_true rfl, Nat.le_of_ble_eq_true rfl⟩ (fun r hr => ?_)
  obtain ⟨rfl, hq1⟩ := hr
  refine j_astore_n G d9_day_5 (by decide) rfl ?_
  refine j_aload_n G 1 rfl d9_day_6 ?_
  refine j_VP G (k9_theCliffc (xl Γ) E xo xa X U ck ca (by first | assumption | omega | (simp only [upS, reduceIte, Nat.reduceEqDiff, eq_self, List.length_cons, List.length_nil, List.length_append] <;> omega)) (by first | assumption | omega | (simp only [upS, reduceIte, Nat.reduceEqDiff, eq_self, List.length_cons, List.length_nil, List.length_append] <;> omega))) mw9_theCliff ml9_107 [0, 1, 2] rfl 0 9 rfl rfl rfl ⟨Nat.le_of_ble_eq_true rfl, Nat.le_of_ble_eq_true rfl⟩ rfl (rest := []) rfl (Nat.le_of_ble_eq_true rfl) d9_day_7 ⟨Nat.le_of_ble_eq_true rfl, Nat.le_of_ble_eq_true rfl⟩ (fun r hr => ?_)
  obtain ⟨rfl, hq2⟩ := hr
  refine j_astore G d9_day_10 (by decide) rfl ?_
  refine j_aload_n G 1 rfl d9_day_12 ?_
  refine j_ifnull G d9_day_13 ?_
  refine j_aload G 0 rfl d9_day_16 ?_
  refine j_ifnull G d9_day_18 ?_
  refine j_iload_n G 4 rfl d9_day_21 ?_
  refine j_if_lt (tgt := 42) G d9_day_22 (by decide) (by omega) (fun h3 => ?_) (fun h3 => ?_)
  ·
    refine j_iconst G d9_day_42 ?_
    exact j_iret G F d9_day_43 ⟨(-1), T, r0, Y, cx, kn, pn, (Q 1), (Q 2), rfl, rfl, (by first | (refine ⟨(if_neg (by omega)).symm, hkb, by omega⟩; done) | (refine ⟨?_, hKB, by omega⟩; rw [if_pos (by omega)]; unfold dayN; first | (rw [if_pos (by omega)]; exact hA) | (rw [if_neg (by omega), if_pos (by omega)]; exact hB) | (rw [if_neg (by omega), if_neg (by omega), if_pos (by omega)]; exact hC) | (rw [if_neg (by omega), if_neg (by omega), if_neg (by omega), if_pos (by omega)]; exact hDd) | (rw [if_neg (by omega), if_neg (by omega), if_neg (by omega), if_neg (by omega), if_pos (by omega)]; omega) | (rw [if_neg (by omega), if_neg (by omega), if_neg (by omega), if_neg (by omega), if_neg (by omega), if_pos (by omega)]; exact hE) | (rw [if_neg (by omega), if_neg (by omega), if_neg (by omega), if_neg (by omega), if_neg (by omega), if_neg (by omega)]; exact hH (a - 10) (by omega) (by omega))))⟩
  ·
    refine j_iload_n G 4 rfl d9_day_25 ?_
    refine j_iconst G d9_day_26 ?_
    refine j_icmp_le (tgt := 36) G d9_day_27 (by decide) (by omega) (by decide) (fun h4 => ?_) (fun h4 => ?_)
    ·
      refine j_iload_n G 4 rfl d9_day_36 ?_
      refine j_bipush G d9_day_37 rfl ?_
      refine j_icmp_lt (tgt := 44) G d9_day_39 (by decide) (by omega) (by decide) (fun h5 => ?_) (fun h5 => ?_)
      ·
        refine j_aload_n G 2 rfl d9_day_44 ?_
        refine j_get G 0 9 12 in9 fl9_60 d9_day_45 rfl rfl (by decide) (v := .ref (xa 12)) rfl rfl ?_
        refine j_aload G 0 rfl d9_day_48 ?_
        refine j_aload_n G 2 rfl d9_day_50 ?_
        refine j_get G 0 9 6 in9 fl9_30 d9_day_51 rfl rfl (by decide) (v := .ref (xa 6)) rfl rfl ?_
        refine j_VM G (rm' := { frames := 1, cells := 0, slots := 0, locals := 60 }) (wc := [(xa 12, o7 r0 (some (xa 30)) T), (xa 30, aInt E 24 cx), (ca, o1 (some pa) (some da) (some sa) C), (pa, aInt E 5 P), (xa 6, o5 (some (xa 20)) (some (xa 21)) (some (xa 22)) (some (xa 23)) U), (xa 20, aInt E 24 co)]) (wr := [(xo, xO xa X), (xa 2, aRef E 3 4 ck), (da, aInt E 24 dr), (sa, aInt E 24 sr), (xa 4, aRef E 4 12 rk), (ra, o4 (some rr) R), (rr, aInt E len rw), (xa 13, o3 (some (xa 12)) (some (xa 31)) Q), (xa 31, aLng E 39852 kn), (xa 14, o2 (some (xa 12)) (some (xa 13)) (some (xa 32)) Y), (xa 32, aInt E 12 pn)]) (k7_setTo (xl Γ) E (xa 12) (xa 30) r0 T ca pa da sa C P (xa 6) (xa 20) (xa 21) (xa 22) (xa 23) U co cx (by first | assumption | omega | (simp only [upS, reduceIte, Nat.reduceEqDiff, eq_self, List.length_cons, List.length_nil, List.length_append] <;> omega))) mw7_setTo ml9_197 [11, 12, 3, 4, 1, 10] [0, 2, 5, 6, 7, 8, 9, 13, 14, 15, 16] rfl rfl ⟨rfl, rfl⟩ (by decide) 11 7 rfl rfl rfl ⟨Nat.le_of_ble_eq_true rfl, Nat.le_of_ble_eq_true rfl⟩ rfl (rest := []) rfl (Nat.le_of_ble_eq_true rfl) d9_day_54 ⟨Nat.le_of_ble_eq_true rfl, Nat.le_of_ble_eq_true rfl⟩ (fun r w1 hr => ?_)
        obtain ⟨t1_7, rfl, rfl, hq6⟩ := hr
        refine j_eq (ws' := [(xo, xO xa X), (xa 2, aRef E 3 4 ck), (da, aInt E 24 dr), (sa, aInt E 24 sr), (xa 4, aRef E 4 12 rk), (ra, o4 (some rr) R), (rr, aInt E len rw), (xa 13, o3 (some (xa 12)) (some (xa 31)) Q), (xa 31, aLng E 39852 kn), (xa 14, o2 (some (xa 12)) (some (xa 13)) (some (xa 32)) Y), (xa 32, aInt E 12 pn), (xa 12, o7 (some ca) (some (xa 30)) (upS (upS (upS (upS (upS T 1 t1_7) 3 (C 5)) 4 (C 6)) 5 (C 7)) 6 0)), (xa 30, aInt E 24 co), (ca, o1 (some pa) (some da) (some sa) C), (pa, aInt E 5 P), (xa 6, o5 (some (xa 20)) (some (xa 21)) (some (xa 22)) (some (xa 23)) U), (xa 20, aInt E 24 co)]) rfl rfl rfl ?_
        have ht1 := hq6
        refine j_aload_n G 2 rfl d9_day_57 ?_
        refine j_get G 0 9 14 in9 fl9_78 d9_day_58 rfl rfl (by decide) (v := .ref (xa 14)) rfl rfl ?_
        refine j_aload_n G 1 rfl d9_day_61 ?_
        refine j_aload_n G 2 rfl d9_day_62 ?_
        refine j_get G 0 9 6 in9 fl9_30 d9_day_63 rfl rfl (by decide) (v := .ref (xa 6)) rfl rfl ?_
        refine j_get G 15 5 2 in5 fl9_175 d9_day_66 rfl rfl (by decide) (v := .int (iZ (U 2))) rfl rfl ?_
        refine j_VM G (rm' := { frames := 28, cells := 0, slots := 0, locals := 779 }) (wc := [(ra, o4 (some rr) R), (rr, aInt E len rw), (xa 14, o2 (some (xa 12)) (some (xa 13)) (some (xa 32)) Y), (xa 32, aInt E 12 pn), (xa 13, o3 (some (xa 12)) (some (xa 31)) Q), (xa 31, aLng E 39852 kn), (xa 12, o7 (some ca) (some (xa 30)) (upS (upS (upS (upS (upS T 1 t1_7) 3 (C 5)) 4 (C 6)) 5 (C 7)) 6 0)), (xa 30, aInt E 24 co), (ca, o1 (some pa) (some da) (some sa) C), (pa, aInt E 5 P), (da, aInt E 24 dr), (sa, aInt E 24 sr)]) (wr := [(xo, xO xa X), (xa 2, aRef E 3 4 ck), (xa 4, aRef E 4 12 rk), (xa 6, o5 (some (xa 20)) (some (xa 21)) (some (xa 22)) (some (xa 23)) U), (xa 20, aInt E 24 co)]) (k2_leadBy (xl Γ) E ra rr len R rw (xa 14) (xa 32) Y (xa 13) (xa 31) Q (xa 12) (xa 30) (upS (upS (upS (upS (upS T 1 t1_7) 3 (C 5)) 4 (C 6)) 5 (C 7)) 6 0) ca pa da sa C P dr sr co (kD C P D W co 0 0 0 0 1) kn pn (U 2) (tm_k (mt := 0) (ms := 0) (msp := 0) (mp := 0) (n := 1) rfl hwf (by omega) (by omega) (by omega) (by omega) (by omega) hco (fun s a b => by have q := hDW s a b; simp only [upS, reduceIte, Nat.reduceEqDiff]; rw [ht1, Int.add_zero]; exact q) (by first | (simp only [upS, reduceIte, Nat.reduceEqDiff]; omega) | simp only [upS, reduceIte, Nat.reduceEqDiff]) (by first | (simp only [upS, reduceIte, Nat.reduceEqDiff]; omega) | simp only [upS, reduceIte, Nat.reduceEqDiff]) (by first | (simp only [upS, reduceIte, Nat.reduceEqDiff]; omega) | simp only [upS, reduceIte, Nat.reduceEqDiff]) (by first | (simp only [upS, reduceIte, Nat.reduceEqDiff]; omega) | simp only [upS, reduceIte, Nat.reduceEqDiff]) (by first | (simp only [upS, reduceIte, Nat.reduceEqDiff]; omega) | simp only [upS, reduceIte, Nat.reduceEqDiff]) (fun s a b => ⟨rfl, by have q := hco (12 + s) (by omega) (by omega); omega⟩)) (by first | assumption | omega | (simp only [upS, reduceIte, Nat.reduceEqDiff, eq_self, List.length_cons, List.length_nil, List.length_append] <;> omega)) (by first | assumption | omega | (simp only [upS, reduceIte, Nat.reduceEqDiff, eq_self, List.length_cons, List.length_nil, List.length_append] <;> omega)) (by first | assumption | omega | (simp only [upS, reduceIte, Nat.reduceEqDiff, eq_self, List.length_cons, List.length_nil, List.length_append] <;> omega)) (by first | assumption | omega | (simp only [upS, reduceIte, Nat.reduceEqDiff, eq_self, List.length_cons, List.length_nil, List.length_append] <;> omega)) (by first | assumption | omega | (simp only [upS, reduceIte, Nat.reduceEqDiff, eq_self, List.length_cons, List.length_nil, List.length_append] <;> omega)) (by first | assumption | omega | (simp only [upS, reduceIte, Nat.reduceEqDiff, eq_self, List.length_cons, List.length_nil, List.length_append] <;> omega))) mw2_leadBy ml9_201 [5, 6, 9, 10, 7, 8, 11, 12, 13, 14, 2, 3] [0, 1, 4, 15, 16] rfl rfl ⟨rfl, rfl⟩ (by decide) 9 2 rfl rfl rfl ⟨Nat.le_of_ble_eq_true rfl, Nat.le_of_ble_eq_true rfl⟩ rfl (rest := []) rfl (Nat.le_of_ble_eq_true rfl) d9_day_69 ⟨Nat.le_of_ble_eq_true rfl, Nat.le_of_ble_eq_true rfl⟩ (fun r w1 hr => ?_)
        obtain ⟨pn1_9, kn1_10, q1_11, y2_12, y3_13, y4_14, y5_15, y6_16, y7_17, y8_18, y9_19, y10_20, y11_21, y12_22, y13_23, rfl, rfl, ⟨hq8_0, hq8_1, hq8_2, hq8_3, hq8_4, hq8_5, hq8_6, hq8_7, hq8_8⟩⟩ := hr
        refine j_eq (ws' := [(xo, xO xa X), (xa 2, aRef E 3 4 ck), (xa 4, aRef E 4 12 rk), (xa 6, o5 (some (xa 20)) (some (xa 21)) (some (xa 22)) (some (xa 23)) U), (xa 20, aInt E 24 co), (ra, o4 (some rr) R), (rr, aInt E len rw), (xa 14, o2 (some (xa 12)) (some (xa 13)) (some (xa 32)) (upS (upS (upS (upS (upS (upS (upS (upS (upS (upS (upS (upS Y 2 y2_12) 3 y3_13) 4 y4_14) 5 y5_15) 6 y6_16) 7 y7_17) 8 y8_18) 9 y9_19) 10 y10_20) 11 y11_21) 12 y12_22) 13 y13_23)), (xa 32, aInt E 12 pn1_9), (xa 13, o3 (some (xa 12)) (some (xa 31)) (upS (upS Q 1 q1_11) 2 ((Q 2) + 1))), (xa 31, aLng E 39852 kn1_10), (xa 12, o7 (some ca) (some (xa 30)) (upS (upS (upS (upS (upS T 1 t1_7) 3 (C 5)) 4 (C 6)) 5 (C 7)) 6 0)), (xa 30, aInt E 24 co), (ca, o1 (some pa) (some da) (some sa) C), (pa, aInt E 5 P), (da, aInt E 24 dr), (sa, aInt E 24 sr)]) rfl rfl rfl ?_
        try simp only [upS, reduceIte, Nat.reduceEqDiff, eq_self] at hq8_0 hq8_1 hq8_2 hq8_3 hq8_4 hq8_5 hq8_6 hq8_7 hq8_8
        have hA := hq8_0
        have hB := hq8_1
        have hC := hq8_2
        have hDd := hq8_3
        have hE := hq8_4
        have hF := hq8_5
        have hG := hq8_6
        have hH := hq8_7
        have hKB := hq8_8
        refine j_iload_n G 4 rfl d9_day_72 ?_
        rcases (show a = 0 ∨ a = 1 ∨ a = 2 ∨ a = 3 ∨ a = 4 ∨ a = 5 ∨ (a < 0 ∨ 5 < a) by omega) with h24 | h24 | h24 | h24 | h24 | h24 | h24
        ·
          refine j_tabIn (tgt := 112) G d9_day_73 (by omega) 0 h24 ⟨by decide, by decide⟩ rfl (by decide) ?_
          refine j_aload_n G 2 rfl d9_day_112 ?_
          refine j_get G 0 9 14 in9 fl9_78 d9_day_113 rfl rfl (by decide) (v := .ref (xa 14)) rfl rfl ?_
          refine j_getN G 7 2 9 in2 fn9_205 d9_day_116 rfl rfl (by decide) (v := .int (iZ y9_19)) rfl rfl ?_
          refine j_perm (ws' := [(xo, xO xa X), (xa 6, o5 (some (xa 20)) (some (xa 21)) (some (xa 22)) (some (xa 23)) U), (xa 2, aRef E 3 4 ck), (ca, o1 (some pa) (some da) (some sa) C), (pa, aInt E 5 P), (da, aInt E 24 dr), (sa, aInt E 24 sr), (xa 4, aRef E 4 12 rk), (ra, o4 (some rr) R), (rr, aInt E len rw), (xa 20, aInt E 24 co), (xa 12, o7 (some ca) (some (xa 30)) (upS (upS (upS (upS (upS T 1 t1_7) 3 (C 5)) 4 (C 6)) 5 (C 7)) 6 0)), (xa 30, aInt E 24 co), (xa 13, o3 (some (xa 12)) (some (xa 31)) (upS (upS Q 1 q1_11) 2 ((Q 2) + 1))), (xa 31, aLng E 39852 kn1_10), (xa 14, o2 (some (xa 12)) (some (xa 13)) (some (xa 32)) (upS (upS (upS (upS (upS (upS (upS (upS (upS (upS (upS (upS Y 2 y2_12) 3 y3_13) 4 y4_14) 5 y5_15) 6 y6_16) 7 y7_17) 8 y8_18) 9 y9_19) 10 y10_20) 11 y11_21) 12 y12_22) 13 y13_23)), (xa 32, aInt E 12 pn1_9)]) [0, 3, 1, 13, 14, 15, 16, 2, 5, 6, 4, 11, 12, 9, 10, 7, 8] rfl rfl rfl ?_
          exact j_iret G F d9_day_119 ⟨y9_19, (upS (upS (upS (upS (upS T 1 t1_7) 3 (C 5)) 4 (C 6)) 5 (C 7)) 6 0), (some ca), (upS (upS (upS (upS (upS (upS (upS (upS (upS (upS (upS (upS Y 2 y2_12) 3 y3_13) 4 y4_14) 5 y5_15) 6 y6_16) 7 y7_17) 8 y8_18) 9 y9_19) 10 y10_20) 11 y11_21) 12 y12_22) 13 y13_23), co, kn1_10, pn1_9, q1_11, ((Q 2) + 1), rfl, rfl, (by first | (refine ⟨(if_neg (by omega)).symm, hkb, by omega⟩; done) | (refine ⟨?_, hKB, by omega⟩; rw [if_pos (by omega)]; unfold dayN; first | (rw [if_pos (by omega)]; exact hA) | (rw [if_neg (by omega), if_pos (by omega)]; exact hB) | (rw [if_neg (by omega), if_neg (by omega), if_pos (by omega)]; exact hC) | (rw [if_neg (by omega), if_neg (by omega), if_neg (by omega), if_pos (by omega)]; exact hDd) | (rw [if_neg (by omega), if_neg (by omega), if_neg (by omega), if_neg (by omega), if_pos (by omega)]; omega) | (rw [if_neg (by omega), if_neg (by omega), if_neg (by omega), if_neg (by omega), if_neg (by omega), if_pos (by omega)]; exact hE) | (rw [if_neg (by omega), if_neg (by omega), if_neg (by omega), if_neg (by omega), if_neg (by omega), if_neg (by omega)]; exact hH (a - 10) (by omega) (by omega))))⟩
        ·
          refine j_tabIn (tgt := 120) G d9_day_73 (by omega) 1 h24 ⟨by decide, by decide⟩ rfl (by decide) ?_
          refine j_aload_n G 2 rfl d9_day_120 ?_
          refine j_get G 0 9 14 in9 fl9_78 d9_day_121 rfl rfl (by decide) (v := .ref (xa 14)) rfl rfl ?_
          refine j_getN G 7 2 10 in2 fn9_208 d9_day_124 rfl rfl (by decide) (v := .int (iZ y10_20)) rfl rfl ?_
          refine j_perm (ws' := [(xo, xO xa X), (xa 6, o5 (some (xa 20)) (some (xa 21)) (some (xa 22)) (some (xa 23)) U), (xa 2, aRef E 3 4 ck), (ca, o1 (some pa) (some da) (some sa) C), (pa, aInt E 5 P), (da, aInt E 24 dr), (sa, aInt E 24 sr), (xa 4, aRef E 4 12 rk), (ra, o4 (some rr) R), (rr, aInt E len rw), (xa 20, aInt E 24 co), (xa 12, o7 (some ca) (some (xa 30)) (upS (upS (upS (upS (upS T 1 t1_7) 3 (C 5)) 4 (C 6)) 5 (C 7)) 6 0)), (xa 30, aInt E 24 co), (xa 13, o3 (some (xa 12)) (some (xa 31)) (upS (upS Q 1 q1_11) 2 ((Q 2) + 1))), (xa 31, aLng E 39852 kn1_10), (xa 14, o2 (some (xa 12)) (some (xa 13)) (some (xa 32)) (upS (upS (upS (upS (upS (upS (upS (upS (upS (upS (upS (upS Y 2 y2_12) 3 y3_13) 4 y4_14) 5 y5_15) 6 y6_16) 7 y7_17) 8 y8_18) 9 y9_19) 10 y10_20) 11 y11_21) 12 y12_22) 13 y13_23)), (xa 32, aInt E 12 pn1_9)]) [0, 3, 1, 13, 14, 15, 16, 2, 5, 6, 4, 11, 12, 9, 10, 7, 8] rfl rfl rfl ?_
          exact j_iret G F d9_day_127 ⟨y10_20, (upS (upS (upS (upS (upS T 1 t1_7) 3 (C 5)) 4 (C 6)) 5 (C 7)) 6 0), (some ca), (upS (upS (upS (upS (upS (upS (upS (upS (upS (upS (upS (upS Y 2 y2_12) 3 y3_13) 4 y4_14) 5 y5_15) 6 y6_16) 7 y7_17) 8 y8_18) 9 y9_19) 10 y10_20) 11 y11_21) 12 y12_22) 13 y13_23), co, kn1_10, pn1_9, q1_11, ((Q 2) + 1), rfl, rfl, (by first | (refine ⟨(if_neg (by omega)).symm, hkb, by omega⟩; done) | (refine ⟨?_, hKB, by omega⟩; rw [if_pos (by omega)]; unfold dayN; first | (rw [if_pos (by omega)]; exact hA) | (rw [if_neg (by omega), if_pos (by omega)]; exact hB) | (rw [if_neg (by omega), if_neg (by omega), if_pos (by omega)]; exact hC) | (rw [if_neg (by omega), if_neg (by omega), if_neg (by omega), if_pos (by omega)]; exact hDd) | (rw [if_neg (by omega), if_neg (by omega), if_neg (by omega), if_neg (by omega), if_pos (by omega)]; omega) | (rw [if_neg (by omega), if_neg (by omega), if_neg (by omega), if_neg (by omega), if_neg (by omega), if_pos (by omega)]; exact hE) | (rw [if_neg (by omega), if_neg (by omega), if_neg (by omega), if_neg (by omega), if_neg (by omega), if_neg (by omega)]; exact hH (a - 10) (by omega) (by omega))))⟩
        ·
          refine j_tabIn (tgt := 128) G d9_day_73 (by omega) 2 h24 ⟨by decide, by decide⟩ rfl (by decide) ?_
          refine j_aload_n G 2 rfl d9_day_128 ?_
          refine j_get G 0 9 14 in9 fl9_78 d9_day_129 rfl rfl (by decide) (v := .ref (xa 14)) rfl rfl ?_
          refine j_getN G 7 2 11 in2 fn9_211 d9_day_132 rfl rfl (by decide) (v := .int (iZ y11_21)) rfl rfl ?_
          refine j_perm (ws' := [(xo, xO xa X), (xa 6, o5 (some (xa 20)) (some (xa 21)) (some (xa 22)) (some (xa 23)) U), (xa 2, aRef E 3 4 ck), (ca, o1 (some pa) (some da) (some sa) C), (pa, aInt E 5 P), (da, aInt E 24 dr), (sa, aInt E 24 sr), (xa 4, aRef E 4 12 rk), (ra, o4 (some rr) R), (rr, aInt E len rw), (xa 20, aInt E 24 co), (xa 12, o7 (some ca) (some (xa 30)) (upS (upS (upS (upS (upS T 1 t1_7) 3 (C 5)) 4 (C 6)) 5 (C 7)) 6 0)), (xa 30, aInt E 24 co), (xa 13, o3 (some (xa 12)) (some (xa 31)) (upS (upS Q 1 q1_11) 2 ((Q 2) + 1))), (xa 31, aLng E 39852 kn1_10), (xa 14, o2 (some (xa 12)) (some (xa 13)) (some (xa 32)) (upS (upS (upS (upS (upS (upS (upS (upS (upS (upS (upS (upS Y 2 y2_12) 3 y3_13) 4 y4_14) 5 y5_15) 6 y6_16) 7 y7_17) 8 y8_18) 9 y9_19) 10 y10_20) 11 y11_21) 12 y12_22) 13 y13_23)), (xa 32, aInt E 12 pn1_9)]) [0, 3, 1, 13, 14, 15, 16, 2, 5, 6, 4, 11, 12, 9, 10, 7, 8] rfl rfl rfl ?_
          exact j_iret G F d9_day_135 ⟨y11_21, (upS (upS (upS (upS (upS T 1 t1_7) 3 (C 5)) 4 (C 6)) 5 (C 7)) 6 0), (some ca), (upS (upS (upS (upS (upS (upS (upS (upS (upS (upS (upS (upS Y 2 y2_12) 3 y3_13) 4 y4_14) 5 y5_15) 6 y6_16) 7 y7_17) 8 y8_18) 9 y9_19) 10 y10_20) 11 y11_21) 12 y12_22) 13 y13_23), co, kn1_10, pn1_9, q1_11, ((Q 2) + 1), rfl, rfl, (by first | (refine ⟨(if_neg (by omega)).symm, hkb, by omega⟩; done) | (refine ⟨?_, hKB, by omega⟩; rw [if_pos (by omega)]; unfold dayN; first | (rw [if_pos (by omega)]; exact hA) | (rw [if_neg (by omega), if_pos (by omega)]; exact hB) | (rw [if_neg (by omega), if_neg (by omega), if_pos (by omega)]; exact hC) | (rw [if_neg (by omega), if_neg (by omega), if_neg (by omega), if_pos (by omega)]; exact hDd) | (rw [if_neg (by omega), if_neg (by omega), if_neg (by omega), if_neg (by omega), if_pos (by omega)]; omega) | (rw [if_neg (by omega), if_neg (by omega), if_neg (by omega), if_neg (by omega), if_neg (by omega), if_pos (by omega)]; exact hE) | (rw [if_neg (by omega), if_neg (by omega), if_neg (by omega), if_neg (by omega), if_neg (by omega), if_neg (by omega)]; exact hH (a - 10) (by omega) (by omega))))⟩
        ·
          refine j_tabIn (tgt := 136) G d9_day_73 (by omega) 3 h24 ⟨by decide, by decide⟩ rfl (by decide) ?_
          refine j_aload_n G 2 rfl d9_day_136 ?_
          refine j_get G 0 9 14 in9 fl9_78 d9_day_137 rfl rfl (by decide) (v := .ref (xa 14)) rfl rfl ?_
          refine j_getN G 7 2 12 in2 fn9_214 d9_day_140 rfl rfl (by decide) (v := .int (iZ y12_22)) rfl rfl ?_
          refine j_perm (ws' := [(xo, xO xa X), (xa 6, o5 (some (xa 20)) (some (xa 21)) (some (xa 22)) (some (xa 23)) U), (xa 2, aRef E 3 4 ck), (ca, o1 (some pa) (some da) (some sa) C), (pa, aInt E 5 P), (da, aInt E 24 dr), (sa, aInt E 24 sr), (xa 4, aRef E 4 12 rk), (ra, o4 (some rr) R), (rr, aInt E len rw), (xa 20, aInt E 24 co), (xa 12, o7 (some ca) (some (xa 30)) (upS (upS (upS (upS (upS T 1 t1_7) 3 (C 5)) 4 (C 6)) 5 (C 7)) 6 0)), (xa 30, aInt E 24 co), (xa 13, o3 (some (xa 12)) (some (xa 31)) (upS (upS Q 1 q1_11) 2 ((Q 2) + 1))), (xa 31, aLng E 39852 kn1_10), (xa 14, o2 (some (xa 12)) (some (xa 13)) (some (xa 32)) (upS (upS (upS (upS (upS (upS (upS (upS (upS (upS (upS (upS Y 2 y2_12) 3 y3_13) 4 y4_14) 5 y5_15) 6 y6_16) 7 y7_17) 8 y8_18) 9 y9_19) 10 y10_20) 11 y11_21) 12 y12_22) 13 y13_23)), (xa 32, aInt E 12 pn1_9)]) [0, 3, 1, 13, 14, 15, 16, 2, 5, 6, 4, 11, 12, 9, 10, 7, 8] rfl rfl rfl ?_
          exact j_iret G F d9_day_143 ⟨y12_22, (upS (upS (upS (upS (upS T 1 t1_7) 3 (C 5)) 4 (C 6)) 5 (C 7)) 6 0), (some ca), (upS (upS (upS (upS (upS (upS (upS (upS (upS (upS (upS (upS Y 2 y2_12) 3 y3_13) 4 y4_14) 5 y5_15) 6 y6_16) 7 y7_17) 8 y8_18) 9 y9_19) 10 y10_20) 11 y11_21) 12 y12_22) 13 y13_23), co, kn1_10, pn1_9, q1_11, ((Q 2) + 1), rfl, rfl, (by first | (refine ⟨(if_neg (by omega)).symm, hkb, by omega⟩; done) | (refine ⟨?_, hKB, by omega⟩; rw [if_pos (by omega)]; unfold dayN; first | (rw [if_pos (by omega)]; exact hA) | (rw [if_neg (by omega), if_pos (by omega)]; exact hB) | (rw [if_neg (by omega), if_neg (by omega), if_pos (by omega)]; exact hC) | (rw [if_neg (by omega), if_neg (by omega), if_neg (by omega), if_pos (by omega)]; exact hDd) | (rw [if_neg (by omega), if_neg (by omega), if_neg (by omega), if_neg (by omega), if_pos (by omega)]; omega) | (rw [if_neg (by omega), if_neg (by omega), if_neg (by omega), if_neg (by omega), if_neg (by omega), if_pos (by omega)]; exact hE) | (rw [if_neg (by omega), if_neg (by omega), if_neg (by omega), if_neg (by omega), if_neg (by omega), if_neg (by omega)]; exact hH (a - 10) (by omega) (by omega))))⟩
        ·
          refine j_tabIn (tgt := 144) G d9_day_73 (by omega) 4 h24 ⟨by decide, by decide⟩ rfl (by decide) ?_
          refine j_aload_n G 2 rfl d9_day_144 ?_
          refine j_get G 0 9 14 in9 fl9_78 d9_day_145 rfl rfl (by decide) (v := .ref (xa 14)) rfl rfl ?_
          refine j_getN G 7 2 3 in2 fn9_217 d9_day_148 rfl rfl (by decide) (v := .int (iZ y3_13)) rfl rfl ?_
          refine j_perm (ws' := [(xo, xO xa X), (xa 6, o5 (some (xa 20)) (some (xa 21)) (some (xa 22)) (some (xa 23)) U), (xa 2, aRef E 3 4 ck), (ca, o1 (some pa) (some da) (some sa) C), (pa, aInt E 5 P), (da, aInt E 24 dr), (sa, aInt E 24 sr), (xa 4, aRef E 4 12 rk), (ra, o4 (some rr) R), (rr, aInt E len rw), (xa 20, aInt E 24 co), (xa 12, o7 (some ca) (some (xa 30)) (upS (upS (upS (upS (upS T 1 t1_7) 3 (C 5)) 4 (C 6)) 5 (C 7)) 6 0)), (xa 30, aInt E 24 co), (xa 13, o3 (some (xa 12)) (some (xa 31)) (upS (upS Q 1 q1_11) 2 ((Q 2) + 1))), (xa 31, aLng E 39852 kn1_10), (xa 14, o2 (some (xa 12)) (some (xa 13)) (some (xa 32)) (upS (upS (upS (upS (upS (upS (upS (upS (upS (upS (upS (upS Y 2 y2_12) 3 y3_13) 4 y4_14) 5 y5_15) 6 y6_16) 7 y7_17) 8 y8_18) 9 y9_19) 10 y10_20) 11 y11_21) 12 y12_22) 13 y13_23)), (xa 32, aInt E 12 pn1_9)]) [0, 3, 1, 13, 14, 15, 16, 2, 5, 6, 4, 11, 12, 9, 10, 7, 8] rfl rfl rfl ?_
          exact j_iret G F d9_day_151 ⟨y3_13, (upS (upS (upS (upS (upS T 1 t1_7) 3 (C 5)) 4 (C 6)) 5 (C 7)) 6 0), (some ca), (upS (upS (upS (upS (upS (upS (upS (upS (upS (upS (upS (upS Y 2 y2_12) 3 y3_13) 4 y4_14) 5 y5_15) 6 y6_16) 7 y7_17) 8 y8_18) 9 y9_19) 10 y10_20) 11 y11_21) 12 y12_22) 13 y13_23), co, kn1_10, pn1_9, q1_11, ((Q 2) + 1), rfl, rfl, (by first | (refine ⟨(if_neg (by omega)).symm, hkb, by omega⟩; done) | (refine ⟨?_, hKB, by omega⟩; rw [if_pos (by omega)]; unfold dayN; first | (rw [if_pos (by omega)]; exact hA) | (rw [if_neg (by omega), if_pos (by omega)]; exact hB) | (rw [if_neg (by omega), if_neg (by omega), if_pos (by omega)]; exact hC) | (rw [if_neg (by omega), if_neg (by omega), if_neg (by omega), if_pos (by omega)]; exact hDd) | (rw [if_neg (by omega), if_neg (by omega), if_neg (by omega), if_neg (by omega), if_pos (by omega)]; omega) | (rw [if_neg (by omega), if_neg (by omega), if_neg (by omega), if_neg (by omega), if_neg (by omega), if_pos (by omega)]; exact hE) | (rw [if_neg (by omega), if_neg (by omega), if_neg (by omega), if_neg (by omega), if_neg (by omega), if_neg (by omega)]; exact hH (a - 10) (by omega) (by omega))))⟩
        ·
          refine j_tabIn (tgt := 152) G d9_day_73 (by omega) 5 h24 ⟨by decide, by decide⟩ rfl (by decide) ?_
          refine j_aload_n G 2 rfl d9_day_152 ?_
          refine j_get G 0 9 14 in9 fl9_78 d9_day_153 rfl rfl (by decide) (v := .ref (xa 14)) rfl rfl ?_
          refine j_getN G 7 2 13 in2 fn9_220 d9_day_156 rfl rfl (by decide) (v := .int (iZ y13_23)) rfl rfl ?_
          refine j_perm (ws' := [(xo, xO xa X), (xa 6, o5 (some (xa 20)) (some (xa 21)) (some (xa 22)) (some (xa 23)) U), (xa 2, aRef E 3 4 ck), (ca, o1 (some pa) (some da) (some sa) C), (pa, aInt E 5 P), (da, aInt E 24 dr), (sa, aInt E 24 sr), (xa 4, aRef E 4 12 rk), (ra, o4 (some rr) R), (rr, aInt E len rw), (xa 20, aInt E 24 co), (xa 12, o7 (some ca) (some (xa 30)) (upS (upS (upS (upS (upS T 1 t1_7) 3 (C 5)) 4 (C 6)) 5 (C 7)) 6 0)), (xa 30, aInt E 24 co), (xa 13, o3 (some (xa 12)) (some (xa 31)) (upS (upS Q 1 q1_11) 2 ((Q 2) + 1))), (xa 31, aLng E 39852 kn1_10), (xa 14, o2 (some (xa 12)) (some (xa 13)) (some (xa 32)) (upS (upS (upS (upS (upS (upS (upS (upS (upS (upS (upS (upS Y 2 y2_12) 3 y3_13) 4 y4_14) 5 y5_15) 6 y6_16) 7 y7_17) 8 y8_18) 9 y9_19) 10 y10_20) 11 y11_21) 12 y12_22) 13 y13_23)), (xa 32, aInt E 12 pn1_9)]) [0, 3, 1, 13, 14, 15, 16, 2, 5, 6, 4, 11, 12, 9, 10, 7, 8] rfl rfl rfl ?_
          exact j_iret G F d9_day_159 ⟨y13_23, (upS (upS (upS (upS (upS T 1 t1_7) 3 (C 5)) 4 (C 6)) 5 (C 7)) 6 0), (some ca), (upS (upS (upS (upS (upS (upS (upS (upS (upS (upS (upS (upS Y 2 y2_12) 3 y3_13) 4 y4_14) 5 y5_15) 6 y6_16) 7 y7_17) 8 y8_18) 9 y9_19) 10 y10_20) 11 y11_21) 12 y12_22) 13 y13_23), co, kn1_10, pn1_9, q1_11, ((Q 2) + 1), rfl, rfl, (by first | (refine ⟨(if_neg (by omega)).symm, hkb, by omega⟩; done) | (refine ⟨?_, hKB, by omega⟩; rw [if_pos (by omega)]; unfold dayN; first | (rw [if_pos (by omega)]; exact hA) | (rw [if_neg (by omega), if_pos (by omega)]; exact hB) | (rw [if_neg (by omega), if_neg (by omega), if_pos (by omega)]; exact hC) | (rw [if_neg (by omega), if_neg (by omega), if_neg (by omega), if_pos (by omega)]; exact hDd) | (rw [if_neg (by omega), if_neg (by omega), if_neg (by omega), if_neg (by omega), if_pos (by omega)]; omega) | (rw [if_neg (by omega), if_neg (by omega), if_neg (by omega), if_neg (by omega), if_neg (by omega), if_pos (by omega)]; exact hE) | (rw [if_neg (by omega), if_neg (by omega), if_neg (by omega), if_neg (by omega), if_neg (by omega), if_neg (by omega)]; exact hH (a - 10) (by omega) (by omega))))⟩
        ·
          refine j_tabOut (tgt := 160) G d9_day_73 (by omega) h24 (by decide) ?_
          refine j_aload_n G 2 rfl d9_day_160 ?_
          refine j_get G 0 9 14 in9 fl9_78 d9_day_161 rfl rfl (by decide) (v := .ref (xa 14)) rfl rfl ?_
          refine j_getN G 7 2 14 in2 fn9_223 d9_day_164 rfl rfl (by decide) (v := .ref (xa 32)) rfl rfl ?_
          refine j_iload_n G 4 rfl d9_day_167 ?_
          refine j_bipush G d9_day_168 rfl ?_
          refine j_isub G d9_day_170 ?_
          refine j_iald G 8 rfl (by omega) d9_day_171 ?_
          refine j_perm (ws' := [(xo, xO xa X), (xa 6, o5 (some (xa 20)) (some (xa 21)) (some (xa 22)) (some (xa 23)) U), (xa 2, aRef E 3 4 ck), (ca, o1 (some pa) (some da) (some sa) C), (pa, aInt E 5 P), (da, aInt E 24 dr), (sa, aInt E 24 sr), (xa 4, aRef E 4 12 rk), (ra, o4 (some rr) R), (rr, aInt E len rw), (xa 20, aInt E 24 co), (xa 12, o7 (some ca) (some (xa 30)) (upS (upS (upS (upS (upS T 1 t1_7) 3 (C 5)) 4 (C 6)) 5 (C 7)) 6 0)), (xa 30, aInt E 24 co), (xa 13, o3 (some (xa 12)) (some (xa 31)) (upS (upS Q 1 q1_11) 2 ((Q 2) + 1))), (xa 31, aLng E 39852 kn1_10), (xa 14, o2 (some (xa 12)) (some (xa 13)) (some (xa 32)) (upS (upS (upS (upS (upS (upS (upS (upS (upS (upS (upS (upS Y 2 y2_12) 3 y3_13) 4 y4_14) 5 y5_15) 6 y6_16) 7 y7_17) 8 y8_18) 9 y9_19) 10 y10_20) 11 y11_21) 12 y12_22) 13 y13_23)), (xa 32, aInt E 12 pn1_9)]) [0, 3, 1, 13, 14, 15, 16, 2, 5, 6, 4, 11, 12, 9, 10, 7, 8] rfl rfl rfl ?_
          exact j_iret G F d9_day_172 ⟨pn1_9 (a - 10), (upS (upS (upS (upS (upS T 1 t1_7) 3 (C 5)) 4 (C 6)) 5 (C 7)) 6 0), (some ca), (upS (upS (upS (upS (upS (upS (upS (upS (upS (upS (upS (upS Y 2 y2_12) 3 y3_13) 4 y4_14) 5 y5_15) 6 y6_16) 7 y7_17) 8 y8_18) 9 y9_19) 10 y10_20) 11 y11_21) 12 y12_22) 13 y13_23), co, kn1_10, pn1_9, q1_11, ((Q 2) + 1), rfl, rfl, (by first | (refine ⟨(if_neg (by omega)).symm, hkb, by omega⟩; done) | (refine ⟨?_, hKB, by omega⟩; rw [if_pos (by omega)]; unfold dayN; first | (rw [if_pos (by omega)]; exact hA) | (rw [if_neg (by omega), if_pos (by omega)]; exact hB) | (rw [if_neg (by omega), if_neg (by omega), if_pos (by omega)]; exact hC) | (rw [if_neg (by omega), if_neg (by omega), if_neg (by omega), if_pos (by omega)]; exact hDd) | (rw [if_neg (by omega), if_neg (by omega), if_neg (by omega), if_neg (by omega), if_pos (by omega)]; omega) | (rw [if_neg (by omega), if_neg (by omega), if_neg (by omega), if_neg (by omega), if_neg (by omega), if_pos (by omega)]; exact hE) | (rw [if_neg (by omega), if_neg (by omega), if_neg (by omega), if_neg (by omega), if_neg (by omega), if_neg (by omega)]; exact hH (a - 10) (by omega) (by omega))))⟩
      ·
        refine j_iconst G d9_day_42 ?_
        exact j_iret G F d9_day_43 ⟨(-1), T, r0, Y, cx, kn, pn, (Q 1), (Q 2), rfl, rfl, (by first | (refine ⟨(if_neg (by omega)).symm, hkb, by omega⟩; done) | (refine ⟨?_, hKB, by omega⟩; rw [if_pos (by omega)]; unfold dayN; first | (rw [if_pos (by omega)]; exact hA) | (rw [if_neg (by omega), if_pos (by omega)]; exact hB) | (rw [if_neg (by omega), if_neg (by omega), if_pos (by omega)]; exact hC) | (rw [if_neg (by omega), if_neg (by omega), if_neg (by omega), if_pos (by omega)]; exact hDd) | (rw [if_neg (by omega), if_neg (by omega), if_neg (by omega), if_neg (by omega), if_pos (by omega)]; omega) | (rw [if_neg (by omega), if_neg (by omega), if_neg (by omega), if_neg (by omega), if_neg (by omega), if_pos (by omega)]; exact hE) | (rw [if_neg (by omega), if_neg (by omega), if_neg (by omega), if_neg (by omega), if_neg (by omega), if_neg (by omega)]; exact hH (a - 10) (by omega) (by omega))))⟩
    ·
      refine j_iload_n G 4 rfl d9_day_30 ?_
      refine j_bipush G d9_day_31 rfl ?_
      refine j_icmp_lt (tgt := 42) G d9_day_33 (by decide) (by omega) (by decide) (fun h25 => ?_) (fun h25 => ?_)
      ·
        refine j_iconst G d9_day_42 ?_
        exact j_iret G F d9_day_43 ⟨(-1), T, r0, Y, cx, kn, pn, (Q 1), (Q 2), rfl, rfl, (by first | (refine ⟨(if_neg (by omega)).symm, hkb, by omega⟩; done) | (refine ⟨?_, hKB, by omega⟩; rw [if_pos (by omega)]; unfold dayN; first | (rw [if_pos (by omega)]; exact hA) | (rw [if_neg (by omega), if_pos (by omega)]; exact hB) | (rw [if_neg (by omega), if_neg (by omega), if_pos (by omega)]; exact hC) | (rw [if_neg (by omega), if_neg (by omega), if_neg (by omega), if_pos (by omega)]; exact hDd) | (rw [if_neg (by omega), if_neg (by omega), if_neg (by omega), if_neg (by omega), if_pos (by omega)]; omega) | (rw [if_neg (by omega), if_neg (by omega), if_neg (by omega), if_neg (by omega), if_neg (by omega), if_pos (by omega)]; exact hE) | (rw [if_neg (by omega), if_neg (by omega), if_neg (by omega), if_neg (by omega), if_neg (by omega), if_neg (by omega)]; exact hH (a - 10) (by omega) (by omega))))⟩
      ·
        refine j_iload_n G 4 rfl d9_day_36 ?_
        refine j_bipush G d9_day_37 rfl ?_
        refine j_icmp_lt (tgt := 44) G d9_day_39 (by decide) (by omega) (by decide) (fun h26 => ?_) (fun h26 => ?_)
        ·
          refine j_aload_n G 2 rfl d9_day_44 ?_
          refine j_get G 0 9 12 in9 fl9_60 d9_day_45 rfl rfl (by decide) (v := .ref (xa 12)) rfl rfl ?_
          refine j_aload G 0 rfl d9_day_48 ?_
          refine j_aload_n G 2 rfl d9_day_50 ?_
          refine j_get G 0 9 6 in9 fl9_30 d9_day_51 rfl rfl (by decide) (v := .ref (xa 6)) rfl rfl ?_
          refine j_VM G (rm' := { frames := 1, cells := 0, slots := 0, locals := 60 }) (wc := [(xa 12, o7 r0 (some (xa 30)) T), (xa 30, aInt E 24 cx), (ca, o1 (some pa) (some da) (some sa) C), (pa, aInt E 5 P), (xa 6, o5 (some (xa 20)) (some (xa 21)) (some (xa 22)) (some (xa 23)) U), (xa 20, aInt E 24 co)]) (wr := [(xo, xO xa X), (xa 2, aRef E 3 4 ck), (da, aInt E 24 dr), (sa, aInt E 24 sr), (xa 4, aRef E 4 12 rk), (ra, o4 (some rr) R), (rr, aInt E len rw), (xa 13, o3 (some (xa 12)) (some (xa 31)) Q), (xa 31, aLng E 39852 kn), (xa 14, o2 (some (xa 12)) (some (xa 13)) (some (xa 32)) Y), (xa 32, aInt E 12 pn)]) (k7_setTo (xl Γ) E (xa 12) (xa 30) r0 T ca pa da sa C P (xa 6) (xa 20) (xa 21) (xa 22) (xa 23) U co cx (by first | assumption | omega | (simp only [upS, reduceIte, Nat.reduceEqDiff, eq_self, List.length_cons, List.length_nil, List.length_append] <;> omega))) mw7_setTo ml9_197 [11, 12, 3, 4, 1, 10] [0, 2, 5, 6, 7, 8, 9, 13, 14, 15, 16] rfl rfl ⟨rfl, rfl⟩ (by decide) 11 7 rfl rfl rfl ⟨Nat.le_of_ble_eq_true rfl, Nat.le_of_ble_eq_true rfl⟩ rfl (rest := []) rfl (Nat.le_of_ble_eq_true rfl) d9_day_54 ⟨Nat.le_of_ble_eq_true rfl, Nat.le_of_ble_eq_true rfl⟩ (fun r w1 hr => ?_)
          obtain ⟨t1_28, rfl, rfl, hq27⟩ := hr
          refine j_eq (ws' := [(xo, xO xa X), (xa 2, aRef E 3 4 ck), (da, aInt E 24 dr), (sa, aInt E 24 sr), (xa 4, aRef E 4 12 rk), (ra, o4 (some rr) R), (rr, aInt E len rw), (xa 13, o3 (some (xa 12)) (some (xa 31)) Q), (xa 31, aLng E 39852 kn), (xa 14, o2 (some (xa 12)) (some (xa 13)) (some (xa 32)) Y), (xa 32, aInt E 12 pn), (xa 12, o7 (some ca) (some (xa 30)) (upS (upS (upS (upS (upS T 1 t1_28) 3 (C 5)) 4 (C 6)) 5 (C 7)) 6 0)), (xa 30, aInt E 24 co), (ca, o1 (some pa) (some da) (some sa) C), (pa, aInt E 5 P), (xa 6, o5 (some (xa 20)) (some (xa 21)) (some (xa 22)) (some (xa 23)) U), (xa 20, aInt E 24 co)]) rfl rfl rfl ?_
          have ht1 := hq27
          refine j_aload_n G 2 rfl d9_day_57 ?_
          refine j_get G 0 9 14 in9 fl9_78 d9_day_58 rfl rfl (by decide) (v := .ref (xa 14)) rfl rfl ?_
          refine j_aload_n G 1 rfl d9_day_61 ?_
          refine j_aload_n G 2 rfl d9_day_62 ?_
          refine j_get G 0 9 6 in9 fl9_30 d9_day_63 rfl rfl (by decide) (v := .ref (xa 6)) rfl rfl ?_
          refine j_get G 15 5 2 in5 fl9_175 d9_day_66 rfl rfl (by decide) (v := .int (iZ (U 2))) rfl rfl ?_
          refine j_VM G (rm' := { frames := 28, cells := 0, slots := 0, locals := 779 }) (wc := [(ra, o4 (some rr) R), (rr, aInt E len rw), (xa 14, o2 (some (xa 12)) (some (xa 13)) (some (xa 32)) Y), (xa 32, aInt E 12 pn), (xa 13, o3 (some (xa 12)) (some (xa 31)) Q), (xa 31, aLng E 39852 kn), (xa 12, o7 (some ca) (some (xa 30)) (upS (upS (upS (upS (upS T 1 t1_28) 3 (C 5)) 4 (C 6)) 5 (C 7)) 6 0)), (xa 30, aInt E 24 co), (ca, o1 (some pa) (some da) (some sa) C), (pa, aInt E 5 P), (da, aInt E 24 dr), (sa, aInt E 24 sr)]) (wr := [(xo, xO xa X), (xa 2, aRef E 3 4 ck), (xa 4, aRef E 4 12 rk), (xa 6, o5 (some (xa 20)) (some (xa 21)) (some (xa 22)) (some (xa 23)) U), (xa 20, aInt E 24 co)]) (k2_leadBy (xl Γ) E ra rr len R rw (xa 14) (xa 32) Y (xa 13) (xa 31) Q (xa 12) (xa 30) (upS (upS (upS (upS (upS T 1 t1_28) 3 (C 5)) 4 (C 6)) 5 (C 7)) 6 0) ca pa da sa C P dr sr co (kD C P D W co 0 0 0 0 1) kn pn (U 2) (tm_k (mt := 0) (ms := 0) (msp := 0) (mp := 0) (n := 1) rfl hwf (by omega) (by omega) (by omega) (by omega) (by omega) hco (fun s a b => by have q := hDW s a b; simp only [upS, reduceIte, Nat.reduceEqDiff]; rw [ht1, Int.add_zero]; exact q) (by first | (simp only [upS, reduceIte, Nat.reduceEqDiff]; omega) | simp only [upS, reduceIte, Nat.reduceEqDiff]) (by first | (simp only [upS, reduceIte, Nat.reduceEqDiff]; omega) | simp only [upS, reduceIte, Nat.reduceEqDiff]) (by first | (simp only [upS, reduceIte, Nat.reduceEqDiff]; omega) | simp only [upS, reduceIte, Nat.reduceEqDiff]) (by first | (simp only [upS, reduceIte, Nat.reduceEqDiff]; omega) | simp only [upS, reduceIte, Nat.reduceEqDiff]) (by first | (simp only [upS, reduceIte, Nat.reduceEqDiff]; omega) | simp only [upS, reduceIte, Nat.reduceEqDiff]) (fun s a b => ⟨rfl, by have q := hco (12 + s) (by omega) (by omega); omega⟩)) (by first | assumption | omega | (simp only [upS, reduceIte, Nat.reduceEqDiff, eq_self, List.length_cons, List.length_nil, List.length_append] <;> omega)) (by first | assumption | omega | (simp only [upS, reduceIte, Nat.reduceEqDiff, eq_self, List.length_cons, List.length_nil, List.length_append] <;> omega)) (by first | assumption | omega | (simp only [upS, reduceIte, Nat.reduceEqDiff, eq_self, List.length_cons, List.length_nil, List.length_append] <;> omega)) (by first | assumption | omega | (simp only [upS, reduceIte, Nat.reduceEqDiff, eq_self, List.length_cons, List.length_nil, List.length_append] <;> omega)) (by first | assumption | omega | (simp only [upS, reduceIte, Nat.reduceEqDiff, eq_self, List.length_cons, List.length_nil, List.length_append] <;> omega)) (by first | assumption | omega | (simp only [upS, reduceIte, Nat.reduceEqDiff, eq_self, List.length_cons, List.length_nil, List.length_append] <;> omega))) mw2_leadBy ml9_201 [5, 6, 9, 10, 7, 8, 11, 12, 13, 14, 2, 3] [0, 1, 4, 15, 16] rfl rfl ⟨rfl, rfl⟩ (by decide) 9 2 rfl rfl rfl ⟨Nat.le_of_ble_eq_true rfl, Nat.le_of_ble_eq_true rfl⟩ rfl (rest := []) rfl (Nat.le_of_ble_eq_true rfl) d9_day_69 ⟨Nat.le_of_ble_eq_true rfl, Nat.le_of_ble_eq_true rfl⟩ (fun r w1 hr => ?_)
          obtain ⟨pn1_30, kn1_31, q1_32, y2_33, y3_34, y4_35, y5_36, y6_37, y7_38, y8_39, y9_40, y10_41, y11_42, y12_43, y13_44, rfl, rfl, ⟨hq29_0, hq29_1, hq29_2, hq29_3, hq29_4, hq29_5, hq29_6, hq29_7, hq29_8⟩⟩ := hr
          refine j_eq (ws' := [(xo, xO xa X), (xa 2, aRef E 3 4 ck), (xa 4, aRef E 4 12 rk), (xa 6, o5 (some (xa 20)) (some (xa 21)) (some (xa 22)) (some (xa 23)) U), (xa 20, aInt E 24 co), (ra, o4 (some rr) R), (rr, aInt E len rw), (xa 14, o2 (some (xa 12)) (some (xa 13)) (some (xa 32)) (upS (upS (upS (upS (upS (upS (upS (upS (upS (upS (upS (upS Y 2 y2_33) 3 y3_34) 4 y4_35) 5 y5_36) 6 y6_37) 7 y7_38) 8 y8_39) 9 y9_40) 10 y10_41) 11 y11_42) 12 y12_43) 13 y13_44)), (xa 32, aInt E 12 pn1_30), (xa 13, o3 (some (xa 12)) (some (xa 31)) (upS (upS Q 1 q1_32) 2 ((Q 2) + 1))), (xa 31, aLng E 39852 kn1_31), (xa 12, o7 (some ca) (some (xa 30)) (upS (upS (upS (upS (upS T 1 t1_28) 3 (C 5)) 4 (C 6)) 5 (C 7)) 6 0)), (xa 30, aInt E 24 co), (ca, o1 (some pa) (some da) (some sa) C), (pa, aInt E 5 P), (da, aInt E 24 dr), (sa, aInt E 24 sr)]) rfl rfl rfl ?_
          try simp only [upS, reduceIte, Nat.reduceEqDiff, eq_self] at hq29_0 hq29_1 hq29_2 hq29_3 hq29_4 hq29_5 hq29_6 hq29_7 hq29_8
          have hA := hq29_0
          have hB := hq29_1
          have hC := hq29_2
          have hDd := hq29_3
          have hE := hq29_4
          have hF := hq29_5
          have hG := hq29_6
          have hH := hq29_7
          have hKB := hq29_8
          refine j_iload_n G 4 rfl d9_day_72 ?_
          rcases (show a = 0 ∨ a = 1 ∨ a = 2 ∨ a = 3 ∨ a = 4 ∨ a = 5 ∨ (a < 0 ∨ 5 < a) by omega) with h45 | h45 | h45 | h45 | h45 | h45 | h45
          ·
            refine j_tabIn (tgt := 112) G d9_day_73 (by omega) 0 h45 ⟨by decide, by decide⟩ rfl (by decide) ?_
            refine j_aload_n G 2 rfl d9_day_112 ?_
            refine j_get G 0 9 14 in9 fl9_78 d9_day_113 rfl rfl (by decide) (v := .ref (xa 14)) rfl rfl ?_
            refine j_getN G 7 2 9 in2 fn9_205 d9_day_116 rfl rfl (by decide) (v := .int (iZ y9_40)) rfl rfl ?_
            refine j_perm (ws' := [(xo, xO xa X), (xa 6, o5 (some (xa 20)) (some (xa 21)) (some (xa 22)) (some (xa 23)) U), (xa 2, aRef E 3 4 ck), (ca, o1 (some pa) (some da) (some sa) C), (pa, aInt E 5 P), (da, aInt E 24 dr), (sa, aInt E 24 sr), (xa 4, aRef E 4 12 rk), (ra, o4 (some rr) R), (rr, aInt E len rw), (xa 20, aInt E 24 co), (xa 12, o7 (some ca) (some (xa 30)) (upS (upS (upS (upS (upS T 1 t1_28) 3 (C 5)) 4 (C 6)) 5 (C 7)) 6 0)), (xa 30, aInt E 24 co), (xa 13, o3 (some (xa 12)) (some (xa 31)) (upS (upS Q 1 q1_32) 2 ((Q 2) + 1))), (xa 31, aLng E 39852 kn1_31), (xa 14, o2 (some (xa 12)) (some (xa 13)) (some (xa 32)) (upS (upS (upS (upS (upS (upS (upS (upS (upS (upS (upS (upS Y 2 y2_33) 3 y3_34) 4 y4_35) 5 y5_36) 6 y6_37) 7 y7_38) 8 y8_39) 9 y9_40) 10 y10_41) 11 y11_42) 12 y12_43) 13 y13_44)), (xa 32, aInt E 12 pn1_30)]) [0, 3, 1, 13, 14, 15, 16, 2, 5, 6, 4, 11, 12, 9, 10, 7, 8] rfl rfl rfl ?_
            exact j_iret G F d9_day_119 ⟨y9_40, (upS (upS (upS (upS (upS T 1 t1_28) 3 (C 5)) 4 (C 6)) 5 (C 7)) 6 0), (some ca), (upS (upS (upS (upS (upS (upS (upS (upS (upS (upS (upS (upS Y 2 y2_33) 3 y3_34) 4 y4_35) 5 y5_36) 6 y6_37) 7 y7_38) 8 y8_39) 9 y9_40) 10 y10_41) 11 y11_42) 12 y12_43) 13 y13_44), co, kn1_31, pn1_30, q1_32, ((Q 2) + 1), rfl, rfl, (by first | (refine ⟨(if_neg (by omega)).symm, hkb, by omega⟩; done) | (refine ⟨?_, hKB, by omega⟩; rw [if_pos (by omega)]; unfold dayN; first | (rw [if_pos (by omega)]; exact hA) | (rw [if_neg (by omega), if_pos (by omega)]; exact hB) | (rw [if_neg (by omega), if_neg (by omega), if_pos (by omega)]; exact hC) | (rw [if_neg (by omega), if_neg (by omega), if_neg (by omega), if_pos (by omega)]; exact hDd) | (rw [if_neg (by omega), if_neg (by omega), if_neg (by omega), if_neg (by omega), if_pos (by omega)]; omega) | (rw [if_neg (by omega), if_neg (by omega), if_neg (by omega), if_neg (by omega), if_neg (by omega), if_pos (by omega)]; exact hE) | (rw [if_neg (by omega), if_neg (by omega), if_neg (by omega), if_neg (by omega), if_neg (by omega), if_neg (by omega)]; exact hH (a - 10) (by omega) (by omega))))⟩
          ·
            refine j_tabIn (tgt := 120) G d9_day_73 (by omega) 1 h45 ⟨by decide, by decide⟩ rfl (by decide) ?_
            refine j_aload_n G 2 rfl d9_day_120 ?_
            refine j_get G 0 9 14 in9 fl9_78 d9_day_121 rfl rfl (by decide) (v := .ref (xa 14)) rfl rfl ?_
            refine j_getN G 7 2 10 in2 fn9_208 d9_day_124 rfl rfl (by decide) (v := .int (iZ y10_41)) rfl rfl ?_
            refine j_perm (ws' := [(xo, xO xa X), (xa 6, o5 (some (xa 20)) (some (xa 21)) (some (xa 22)) (some (xa 23)) U), (xa 2, aRef E 3 4 ck), (ca, o1 (some pa) (some da) (some sa) C), (pa, aInt E 5 P), (da, aInt E 24 dr), (sa, aInt E 24 sr), (xa 4, aRef E 4 12 rk), (ra, o4 (some rr) R), (rr, aInt E len rw), (xa 20, aInt E 24 co), (xa 12, o7 (some ca) (some (xa 30)) (upS (upS (upS (upS (upS T 1 t1_28) 3 (C 5)) 4 (C 6)) 5 (C 7)) 6 0)), (xa 30, aInt E 24 co), (xa 13, o3 (some (xa 12)) (some (xa 31)) (upS (upS Q 1 q1_32) 2 ((Q 2) + 1))), (xa 31, aLng E 39852 kn1_31), (xa 14, o2 (some (xa 12)) (some (xa 13)) (some (xa 32)) (upS (upS (upS (upS (upS (upS (upS (upS (upS (upS (upS (upS Y 2 y2_33) 3 y3_34) 4 y4_35) 5 y5_36) 6 y6_37) 7 y7_38) 8 y8_39) 9 y9_40) 10 y10_41) 11 y11_42) 12 y12_43) 13 y13_44)), (xa 32, aInt E 12 pn1_30)]) [0, 3, 1, 13, 14, 15, 16, 2, 5, 6, 4, 11, 12, 9, 10, 7, 8] rfl rfl rfl ?_
            exact j_iret G F d9_day_127 ⟨y10_41, (upS (upS (upS (upS (upS T 1 t1_28) 3 (C 5)) 4 (C 6)) 5 (C 7)) 6 0), (some ca), (upS (upS (upS (upS (upS (upS (upS (upS (upS (upS (upS (upS Y 2 y2_33) 3 y3_34) 4 y4_35) 5 y5_36) 6 y6_37) 7 y7_38) 8 y8_39) 9 y9_40) 10 y10_41) 11 y11_42) 12 y12_43) 13 y13_44), co, kn1_31, pn1_30, q1_32, ((Q 2) + 1), rfl, rfl, (by first | (refine ⟨(if_neg (by omega)).symm, hkb, by omega⟩; done) | (refine ⟨?_, hKB, by omega⟩; rw [if_pos (by omega)]; unfold dayN; first | (rw [if_pos (by omega)]; exact hA) | (rw [if_neg (by omega), if_pos (by omega)]; exact hB) | (rw [if_neg (by omega), if_neg (by omega), if_pos (by omega)]; exact hC) | (rw [if_neg (by omega), if_neg (by omega), if_neg (by omega), if_pos (by omega)]; exact hDd) | (rw [if_neg (by omega), if_neg (by omega), if_neg (by omega), if_neg (by omega), if_pos (by omega)]; omega) | (rw [if_neg (by omega), if_neg (by omega), if_neg (by omega), if_neg (by omega), if_neg (by omega), if_pos (by omega)]; exact hE) | (rw [if_neg (by omega), if_neg (by omega), if_neg (by omega), if_neg (by omega), if_neg (by omega), if_neg (by omega)]; exact hH (a - 10) (by omega) (by omega))))⟩
          ·
            refine j_tabIn (tgt := 128) G d9_day_73 (by omega) 2 h45 ⟨by decide, by decide⟩ rfl (by decide) ?_
            refine j_aload_n G 2 rfl d9_day_128 ?_
            refine j_get G 0 9 14 in9 fl9_78 d9_day_129 rfl rfl (by decide) (v := .ref (xa 14)) rfl rfl ?_
            refine j_getN G 7 2 11 in2 fn9_211 d9_day_132 rfl rfl (by decide) (v := .int (iZ y11_42)) rfl rfl ?_
            refine j_perm (ws' := [(xo, xO xa X), (xa 6, o5 (some (xa 20)) (some (xa 21)) (some (xa 22)) (some (xa 23)) U), (xa 2, aRef E 3 4 ck), (ca, o1 (some pa) (some da) (some sa) C), (pa, aInt E 5 P), (da, aInt E 24 dr), (sa, aInt E 24 sr), (xa 4, aRef E 4 12 rk), (ra, o4 (some rr) R), (rr, aInt E len rw), (xa 20, aInt E 24 co), (xa 12, o7 (some ca) (some (xa 30)) (upS (upS (upS (upS (upS T 1 t1_28) 3 (C 5)) 4 (C 6)) 5 (C 7)) 6 0)), (xa 30, aInt E 24 co), (xa 13, o3 (some (xa 12)) (some (xa 31)) (upS (upS Q 1 q1_32) 2 ((Q 2) + 1))), (xa 31, aLng E 39852 kn1_31), (xa 14, o2 (some (xa 12)) (some (xa 13)) (some (xa 32)) (upS (upS (upS (upS (upS (upS (upS (upS (upS (upS (upS (upS Y 2 y2_33) 3 y3_34) 4 y4_35) 5 y5_36) 6 y6_37) 7 y7_38) 8 y8_39) 9 y9_40) 10 y10_41) 11 y11_42) 12 y12_43) 13 y13_44)), (xa 32, aInt E 12 pn1_30)]) [0, 3, 1, 13, 14, 15, 16, 2, 5, 6, 4, 11, 12, 9, 10, 7, 8] rfl rfl rfl ?_
            exact j_iret G F d9_day_135 ⟨y11_42, (upS (upS (upS (upS (upS T 1 t1_28) 3 (C 5)) 4 (C 6)) 5 (C 7)) 6 0), (some ca), (upS (upS (upS (upS (upS (upS (upS (upS (upS (upS (upS (upS Y 2 y2_33) 3 y3_34) 4 y4_35) 5 y5_36) 6 y6_37) 7 y7_38) 8 y8_39) 9 y9_40) 10 y10_41) 11 y11_42) 12 y12_43) 13 y13_44), co, kn1_31, pn1_30, q1_32, ((Q 2) + 1), rfl, rfl, (by first | (refine ⟨(if_neg (by omega)).symm, hkb, by omega⟩; done) | (refine ⟨?_, hKB, by omega⟩; rw [if_pos (by omega)]; unfold dayN; first | (rw [if_pos (by omega)]; exact hA) | (rw [if_neg (by omega), if_pos (by omega)]; exact hB) | (rw [if_neg (by omega), if_neg (by omega), if_pos (by omega)]; exact hC) | (rw [if_neg (by omega), if_neg (by omega), if_neg (by omega), if_pos (by omega)]; exact hDd) | (rw [if_neg (by omega), if_neg (by omega), if_neg (by omega), if_neg (by omega), if_pos (by omega)]; omega) | (rw [if_neg (by omega), if_neg (by omega), if_neg (by omega), if_neg (by omega), if_neg (by omega), if_pos (by omega)]; exact hE) | (rw [if_neg (by omega), if_neg (by omega), if_neg (by omega), if_neg (by omega), if_neg (by omega), if_neg (by omega)]; exact hH (a - 10) (by omega) (by omega))))⟩
          ·
            refine j_tabIn (tgt := 136) G d9_day_73 (by omega) 3 h45 ⟨by decide, by decide⟩ rfl (by decide) ?_
            refine j_aload_n G 2 rfl d9_day_136 ?_
            refine j_get G 0 9 14 in9 fl9_78 d9_day_137 rfl rfl (by decide) (v := .ref (xa 14)) rfl rfl ?_
            refine j_getN G 7 2 12 in2 fn9_214 d9_day_140 rfl rfl (by decide) (v := .int (iZ y12_43)) rfl rfl ?_
            refine j_perm (ws' := [(xo, xO xa X), (xa 6, o5 (some (xa 20)) (some (xa 21)) (some (xa 22)) (some (xa 23)) U), (xa 2, aRef E 3 4 ck), (ca, o1 (some pa) (some da) (some sa) C), (pa, aInt E 5 P), (da, aInt E 24 dr), (sa, aInt E 24 sr), (xa 4, aRef E 4 12 rk), (ra, o4 (some rr) R), (rr, aInt E len rw), (xa 20, aInt E 24 co), (xa 12, o7 (some ca) (some (xa 30)) (upS (upS (upS (upS (upS T 1 t1_28) 3 (C 5)) 4 (C 6)) 5 (C 7)) 6 0)), (xa 30, aInt E 24 co), (xa 13, o3 (some (xa 12)) (some (xa 31)) (upS (upS Q 1 q1_32) 2 ((Q 2) + 1))), (xa 31, aLng E 39852 kn1_31), (xa 14, o2 (some (xa 12)) (some (xa 13)) (some (xa 32)) (upS (upS (upS (upS (upS (upS (upS (upS (upS (upS (upS (upS Y 2 y2_33) 3 y3_34) 4 y4_35) 5 y5_36) 6 y6_37) 7 y7_38) 8 y8_39) 9 y9_40) 10 y10_41) 11 y11_42) 12 y12_43) 13 y13_44)), (xa 32, aInt E 12 pn1_30)]) [0, 3, 1, 13, 14, 15, 16, 2, 5, 6, 4, 11, 12, 9, 10, 7, 8] rfl rfl rfl ?_
            exact j_iret G F d9_day_143 ⟨y12_43, (upS (upS (upS (upS (upS T 1 t1_28) 3 (C 5)) 4 (C 6)) 5 (C 7)) 6 0), (some ca), (upS (upS (upS (upS (upS (upS (upS (upS (upS (upS (upS (upS Y 2 y2_33) 3 y3_34) 4 y4_35) 5 y5_36) 6 y6_37) 7 y7_38) 8 y8_39) 9 y9_40) 10 y10_41) 11 y11_42) 12 y12_43) 13 y13_44), co, kn1_31, pn1_30, q1_32, ((Q 2) + 1), rfl, rfl, (by first | (refine ⟨(if_neg (by omega)).symm, hkb, by omega⟩; done) | (refine ⟨?_, hKB, by omega⟩; rw [if_pos (by omega)]; unfold dayN; first | (rw [if_pos (by omega)]; exact hA) | (rw [if_neg (by omega), if_pos (by omega)]; exact hB) | (rw [if_neg (by omega), if_neg (by omega), if_pos (by omega)]; exact hC) | (rw [if_neg (by omega), if_neg (by omega), if_neg (by omega), if_pos (by omega)]; exact hDd) | (rw [if_neg (by omega), if_neg (by omega), if_neg (by omega), if_neg (by omega), if_pos (by omega)]; omega) | (rw [if_neg (by omega), if_neg (by omega), if_neg (by omega), if_neg (by omega), if_neg (by omega), if_pos (by omega)]; exact hE) | (rw [if_neg (by omega), if_neg (by omega), if_neg (by omega), if_neg (by omega), if_neg (by omega), if_neg (by omega)]; exact hH (a - 10) (by omega) (by omega))))⟩
          ·
            refine j_tabIn (tgt := 144) G d9_day_73 (by omega) 4 h45 ⟨by decide, by decide⟩ rfl (by decide) ?_
            refine j_aload_n G 2 rfl d9_day_144 ?_
            refine j_get G 0 9 14 in9 fl9_78 d9_day_145 rfl rfl (by decide) (v := .ref (xa 14)) rfl rfl ?_
            refine j_getN G 7 2 3 in2 fn9_217 d9_day_148 rfl rfl (by decide) (v := .int (iZ y3_34)) rfl rfl ?_
            refine j_perm (ws' := [(xo, xO xa X), (xa 6, o5 (some (xa 20)) (some (xa 21)) (some (xa 22)) (some (xa 23)) U), (xa 2, aRef E 3 4 ck), (ca, o1 (some pa) (some da) (some sa) C), (pa, aInt E 5 P), (da, aInt E 24 dr), (sa, aInt E 24 sr), (xa 4, aRef E 4 12 rk), (ra, o4 (some rr) R), (rr, aInt E len rw), (xa 20, aInt E 24 co), (xa 12, o7 (some ca) (some (xa 30)) (upS (upS (upS (upS (upS T 1 t1_28) 3 (C 5)) 4 (C 6)) 5 (C 7)) 6 0)), (xa 30, aInt E 24 co), (xa 13, o3 (some (xa 12)) (some (xa 31)) (upS (upS Q 1 q1_32) 2 ((Q 2) + 1))), (xa 31, aLng E 39852 kn1_31), (xa 14, o2 (some (xa 12)) (some (xa 13)) (some (xa 32)) (upS (upS (upS (upS (upS (upS (upS (upS (upS (upS (upS (upS Y 2 y2_33) 3 y3_34) 4 y4_35) 5 y5_36) 6 y6_37) 7 y7_38) 8 y8_39) 9 y9_40) 10 y10_41) 11 y11_42) 12 y12_43) 13 y13_44)), (xa 32, aInt E 12 pn1_30)]) [0, 3, 1, 13, 14, 15, 16, 2, 5, 6, 4, 11, 12, 9, 10, 7, 8] rfl rfl rfl ?_
            exact j_iret G F d9_day_151 ⟨y3_34, (upS (upS (upS (upS (upS T 1 t1_28) 3 (C 5)) 4 (C 6)) 5 (C 7)) 6 0), (some ca), (upS (upS (upS (upS (upS (upS (upS (upS (upS (upS (upS (upS Y 2 y2_33) 3 y3_34) 4 y4_35) 5 y5_36) 6 y6_37) 7 y7_38) 8 y8_39) 9 y9_40) 10 y10_41) 11 y11_42) 12 y12_43) 13 y13_44), co, kn1_31, pn1_30, q1_32, ((Q 2) + 1), rfl, rfl, (by first | (refine ⟨(if_neg (by omega)).symm, hkb, by omega⟩; done) | (refine ⟨?_, hKB, by omega⟩; rw [if_pos (by omega)]; unfold dayN; first | (rw [if_pos (by omega)]; exact hA) | (rw [if_neg (by omega), if_pos (by omega)]; exact hB) | (rw [if_neg (by omega), if_neg (by omega), if_pos (by omega)]; exact hC) | (rw [if_neg (by omega), if_neg (by omega), if_neg (by omega), if_pos (by omega)]; exact hDd) | (rw [if_neg (by omega), if_neg (by omega), if_neg (by omega), if_neg (by omega), if_pos (by omega)]; omega) | (rw [if_neg (by omega), if_neg (by omega), if_neg (by omega), if_neg (by omega), if_neg (by omega), if_pos (by omega)]; exact hE) | (rw [if_neg (by omega), if_neg (by omega), if_neg (by omega), if_neg (by omega), if_neg (by omega), if_neg (by omega)]; exact hH (a - 10) (by omega) (by omega))))⟩
          ·
            refine j_tabIn (tgt := 152) G d9_day_73 (by omega) 5 h45 ⟨by decide, by decide⟩ rfl (by decide) ?_
            refine j_aload_n G 2 rfl d9_day_152 ?_
            refine j_get G 0 9 14 in9 fl9_78 d9_day_153 rfl rfl (by decide) (v := .ref (xa 14)) rfl rfl ?_
            refine j_getN G 7 2 13 in2 fn9_220 d9_day_156 rfl rfl (by decide) (v := .int (iZ y13_44)) rfl rfl ?_
            refine j_perm (ws' := [(xo, xO xa X), (xa 6, o5 (some (xa 20)) (some (xa 21)) (some (xa 22)) (some (xa 23)) U), (xa 2, aRef E 3 4 ck), (ca, o1 (some pa) (some da) (some sa) C), (pa, aInt E 5 P), (da, aInt E 24 dr), (sa, aInt E 24 sr), (xa 4, aRef E 4 12 rk), (ra, o4 (some rr) R), (rr, aInt E len rw), (xa 20, aInt E 24 co), (xa 12, o7 (some ca) (some (xa 30)) (upS (upS (upS (upS (upS T 1 t1_28) 3 (C 5)) 4 (C 6)) 5 (C 7)) 6 0)), (xa 30, aInt E 24 co), (xa 13, o3 (some (xa 12)) (some (xa 31)) (upS (upS Q 1 q1_32) 2 ((Q 2) + 1))), (xa 31, aLng E 39852 kn1_31), (xa 14, o2 (some (xa 12)) (some (xa 13)) (some (xa 32)) (upS (upS (upS (upS (upS (upS (upS (upS (upS (upS (upS (upS Y 2 y2_33) 3 y3_34) 4 y4_35) 5 y5_36) 6 y6_37) 7 y7_38) 8 y8_39) 9 y9_40) 10 y10_41) 11 y11_42) 12 y12_43) 13 y13_44)), (xa 32, aInt E 12 pn1_30)]) [0, 3, 1, 13, 14, 15, 16, 2, 5, 6, 4, 11, 12, 9, 10, 7, 8] rfl rfl rfl ?_
            exact j_iret G F d9_day_159 ⟨y13_44, (upS (upS (upS (upS (upS T 1 t1_28) 3 (C 5)) 4 (C 6)) 5 (C 7)) 6 0), (some ca), (upS (upS (upS (upS (upS (upS (upS (upS (upS (upS (upS (upS Y 2 y2_33) 3 y3_34) 4 y4_35) 5 y5_36) 6 y6_37) 7 y7_38) 8 y8_39) 9 y9_40) 10 y10_41) 11 y11_42) 12 y12_43) 13 y13_44), co, kn1_31, pn1_30, q1_32, ((Q 2) + 1), rfl, rfl, (by first | (refine ⟨(if_neg (by omega)).symm, hkb, by omega⟩; done) | (refine ⟨?_, hKB, by omega⟩; rw [if_pos (by omega)]; unfold dayN; first | (rw [if_pos (by omega)]; exact hA) | (rw [if_neg (by omega), if_pos (by omega)]; exact hB) | (rw [if_neg (by omega), if_neg (by omega), if_pos (by omega)]; exact hC) | (rw [if_neg (by omega), if_neg (by omega), if_neg (by omega), if_pos (by omega)]; exact hDd) | (rw [if_neg (by omega), if_neg (by omega), if_neg (by omega), if_neg (by omega), if_pos (by omega)]; omega) | (rw [if_neg (by omega), if_neg (by omega), if_neg (by omega), if_neg (by omega), if_neg (by omega), if_pos (by omega)]; exact hE) | (rw [if_neg (by omega), if_neg (by omega), if_neg (by omega), if_neg (by omega), if_neg (by omega), if_neg (by omega)]; exact hH (a - 10) (by omega) (by omega))))⟩
          ·
            refine j_tabOut (tgt := 160) G d9_day_73 (by omega) h45 (by decide) ?_
            refine j_aload_n G 2 rfl d9_day_160 ?_
            refine j_get G 0 9 14 in9 fl9_78 d9_day_161 rfl rfl (by decide) (v := .ref (xa 14)) rfl rfl ?_
            refine j_getN G 7 2 14 in2 fn9_223 d9_day_164 rfl rfl (by decide) (v := .ref (xa 32)) rfl rfl ?_
            refine j_iload_n G 4 rfl d9_day_167 ?_
            refine j_bipush G d9_day_168 rfl ?_
            refine j_isub G d9_day_170 ?_
            refine j_iald G 8 rfl (by omega) d9_day_171 ?_
            refine j_perm (ws' := [(xo, xO xa X), (xa 6, o5 (some (xa 20)) (some (xa 21)) (some (xa 22)) (some (xa 23)) U), (xa 2, aRef E 3 4 ck), (ca, o1 (some pa) (some da) (some sa) C), (pa, aInt E 5 P), (da, aInt E 24 dr), (sa, aInt E 24 sr), (xa 4, aRef E 4 12 rk), (ra, o4 (some rr) R), (rr, aInt E len rw), (xa 20, aInt E 24 co), (xa 12, o7 (some ca) (some (xa 30)) (upS (upS (upS (upS (upS T 1 t1_28) 3 (C 5)) 4 (C 6)) 5 (C 7)) 6 0)), (xa 30, aInt E 24 co), (xa 13, o3 (some (xa 12)) (some (xa 31)) (upS (upS Q 1 q1_32) 2 ((Q 2) + 1))), (xa 31, aLng E 39852 kn1_31), (xa 14, o2 (some (xa 12)) (some (xa 13)) (some (xa 32)) (upS (upS (upS (upS (upS (upS (upS (upS (upS (upS (upS (upS Y 2 y2_33) 3 y3_34) 4 y4_35) 5 y5_36) 6 y6_37) 7 y7_38) 8 y8_39) 9 y9_40) 10 y10_41) 11 y11_42) 12 y12_43) 13 y13_44)), (xa 32, aInt E 12 pn1_30)]) [0, 3, 1, 13, 14, 15, 16, 2, 5, 6, 4, 11, 12, 9, 10, 7, 8] rfl rfl rfl ?_
            exact j_iret G F d9_day_172 ⟨pn1_30 (a - 10), (upS (upS (upS (upS (upS T 1 t1_28) 3 (C 5)) 4 (C 6)) 5 (C 7)) 6 0), (some ca), (upS (upS (upS (upS (upS (upS (upS (upS (upS (upS (upS (upS Y 2 y2_33) 3 y3_34) 4 y4_35) 5 y5_36) 6 y6_37) 7 y7_38) 8 y8_39) 9 y9_40) 10 y10_41) 11 y11_42) 12 y12_43) 13 y13_44), co, kn1_31, pn1_30, q1_32, ((Q 2) + 1), rfl, rfl, (by first | (refine ⟨(if_neg (by omega)).symm, hkb, by omega⟩; done) | (refine ⟨?_, hKB, by omega⟩; rw [if_pos (by omega)]; unfold dayN; first | (rw [if_pos (by omega)]; exact hA) | (rw [if_neg (by omega), if_pos (by omega)]; exact hB) | (rw [if_neg (by omega), if_neg (by omega), if_pos (by omega)]; exact hC) | (rw [if_neg (by omega), if_neg (by omega), if_neg (by omega), if_pos (by omega)]; exact hDd) | (rw [if_neg (by omega), if_neg (by omega), if_neg (by omega), if_neg (by omega), if_pos (by omega)]; omega) | (rw [if_neg (by omega), if_neg (by omega), if_neg (by omega), if_neg (by omega), if_neg (by omega), if_pos (by omega)]; exact hE) | (rw [if_neg (by omega), if_neg (by omega), if_neg (by omega), if_neg (by omega), if_neg (by omega), if_neg (by omega)]; exact hH (a - 10) (by omega) (by omega))))⟩
        ·
          refine j_iconst G d9_day_42 ?_
          exact j_iret G F d9_day_43 ⟨(-1), T, r0, Y, cx, kn, pn, (Q 1), (Q 2), rfl, rfl, (by first | (refine ⟨(if_neg (by omega)).symm, hkb, by omega⟩; done) | (refine ⟨?_, hKB, by omega⟩; rw [if_pos (by omega)]; unfold dayN; first | (rw [if_pos (by omega)]; exact hA) | (rw [if_neg (by omega), if_pos (by omega)]; exact hB) | (rw [if_neg (by omega), if_neg (by omega), if_pos (by omega)]; exact hC) | (rw [if_neg (by omega), if_neg (by omega), if_neg (by omega), if_pos (by omega)]; exact hDd) | (rw [if_neg (by omega), if_neg (by omega), if_neg (by omega), if_neg (by omega), if_pos (by omega)]; omega) | (rw [if_neg (by omega), if_neg (by omega), if_neg (by omega), if_neg (by omega), if_neg (by omega), if_pos (by omega)]; exact hE) | (rw [if_neg (by omega), if_neg (by omega), if_neg (by omega), if_neg (by omega), if_neg (by omega), if_neg (by omega)]; exact hH (a - 10) (by omega) (by omega))))⟩
theorem d9_waits_0 : decode c9_waits 0 = .ok (.aload_n 0, 1) := by decide +kernel
theorem d9_waits_1 : decode c9_waits 1 = .ok (.invokevirtual 107, 3) := by decide +kernel
theorem d9_waits_4 : decode c9_waits 4 = .ok (.astore 6, 2) := by decide +kernel
theorem d9_waits_6 : decode c9_waits 6 = .ok (.aload 6, 2) := by decide +kernel
theorem d9_waits_8 : decode c9_waits 8 = .ok (.ifnull 23, 3) := by decide +kernel
theorem d9_waits_31 : decode c9_waits 31 = .ok (.ldc2_w 149, 3) := by decide +kernel
theorem d9_waits_34 : decode c9_waits 34 = .ok (.lreturn, 1) := by decide +kernel
theorem mw9_waits : MV y9_waits c9_waits 7 (some .long) 5 := ⟨cd9_waits, ini9, na9_waits, im9_waits, se9_waits⟩
set_option maxHeartbeats 4000000 in
set_option maxRecDepth 100000 in
theorem k9_waitsn (l : Launch) (E : En) (xo : Nat) (xa : Nat → Nat) (X : Nat → Int) (U : Nat → Int) (step : Int) (p : Int) (a : Int) (b : Int) (w : Int) (r_step : R32 step) (r_p : R32 p) (r_a : R32 a) (r_b : R32 b) (r_w : R32 w) (hu3 : U 3 < 0) (hu4 : -100 ≤ U 3) : Cp l E y9_waits c9_waits 7 (some .long) 1 21 [.ref xo, .int (iZ step), .int (iZ p), .int (iZ a), .int (iZ b), .int (iZ w)] [(xo, xO xa X), (xa 6, o5 (some (xa 20)) (some (xa 21)) (some (xa 22)) (some (xa 23)) U)] (fun r => ∃ (v : Int), r = some (.long (lZ v)) ∧ (v = -9223372036854775808)) := by
  refine Cp.of (by decide +kernel) (Nat.le_of_ble_eq_true rfl) (fun Γ hl hargs G F => ?_)
  subst hl
  refine j_aload_n G 0 rfl d9_waits_0 ?_
  refine j_VP G (k9_theCliffn (xl Γ) E xo xa X U (by first | assumption | omega | (simp only [upS, reduceIte, Nat.reduceEqDiff, eq_self, List.length_cons, List.length_nil, List.length_append] <;> omega)) (by first | assumption | omega | (simp only [upS, reduceIte, Nat.reduceEqDiff, eq_self, List.length_cons, List.length_nil, List.length_append] <;> omega))) mw9_theCliff ml9_107 [0, 1] rfl 0 9 rfl rfl rfl ⟨Nat.le_of_ble_eq_true rfl, Nat.le_of_ble_eq_true rfl⟩ rfl (rest := []) rfl (Nat.le_of_ble_eq_true rfl) d9_waits_1 ⟨Nat.le_of_ble_eq_true rfl, Nat.le_of_ble_eq_true rfl⟩ (fun r hr => ?_)
  obtain ⟨rfl, hq1⟩ := hr
  refine j_astoreN G d9_waits_4 (by decide) rfl ?_
  refine j_aloadN G 0 rfl d9_waits_6 ?_
  refine j_ifnullN (tgt := 31) G d9_waits_8 (by decide) ?_
  refine j_ldc2 G (-9223372036854775808) ct9_149 (by decide) d9_waits_31 ?_
  exact j_lret G F d9_waits_34 ⟨(-9223372036854775808), rfl, (by first | rfl | omega)⟩
theorem d9_waits_11 : decode c9_waits 11 = .ok (.iload_n 1, 1) := by decide +kernel
theorem d9_waits_12 : decode c9_waits 12 = .ok (.invokestatic 135, 3) := by decide +kernel
theorem d9_waits_15 : decode c9_waits 15 = .ok (.ifCond .ne 16, 3) := by decide +kernel
theorem d9_waits_18 : decode c9_waits 18 = .ok (.iload_n 2, 1) := by decide +kernel
theorem d9_waits_19 : decode c9_waits 19 = .ok (.ifCond .lt 12, 3) := by decide +kernel
theorem d9_waits_22 : decode c9_waits 22 = .ok (.iload_n 2, 1) := by decide +kernel
theorem d9_waits_23 : decode c9_waits 23 = .ok (.aload 6, 2) := by decide +kernel
theorem d9_waits_25 : decode c9_waits 25 = .ok (.getfield 132, 3) := by decide +kernel
theorem d9_waits_28 : decode c9_waits 28 = .ok (.if_icmp .le 7, 3) := by decide +kernel
theorem d9_waits_35 : decode c9_waits 35 = .ok (.iload_n 3, 1) := by decide +kernel
theorem d9_waits_36 : decode c9_waits 36 = .ok (.invokestatic 226, 3) := by decide +kernel
theorem d9_waits_39 : decode c9_waits 39 = .ok (.ifCond .ne 22, 3) := by decide +kernel
theorem d9_waits_42 : decode c9_waits 42 = .ok (.iload 4, 2) := by decide +kernel
theorem d9_waits_44 : decode c9_waits 44 = .ok (.invokestatic 226, 3) := by decide +kernel
theorem d9_waits_47 : decode c9_waits 47 = .ok (.ifCond .ne 14, 3) := by decide +kernel
theorem d9_waits_50 : decode c9_waits 50 = .ok (.iload 5, 2) := by decide +kernel
theorem d9_waits_52 : decode c9_waits 52 = .ok (.ifCond .lt 9, 3) := by decide +kernel
theorem d9_waits_55 : decode c9_waits 55 = .ok (.iload 5, 2) := by decide +kernel
theorem d9_waits_57 : decode c9_waits 57 = .ok (.iconst 1, 1) := by decide +kernel
theorem d9_waits_58 : decode c9_waits 58 = .ok (.if_icmp .le 7, 3) := by decide +kernel
theorem d9_waits_61 : decode c9_waits 61 = .ok (.ldc2_w 149, 3) := by decide +kernel
theorem d9_waits_64 : decode c9_waits 64 = .ok (.lreturn, 1) := by decide +kernel
theorem d9_waits_65 : decode c9_waits 65 = .ok (.aload_n 0, 1) := by decide +kernel
theorem d9_waits_66 : decode c9_waits 66 = .ok (.getfield 60, 3) := by decide +kernel
theorem d9_waits_69 : decode c9_waits 69 = .ok (.aload 6, 2) := by decide +kernel
theorem d9_waits_71 : decode c9_waits 71 = .ok (.aload_n 0, 1) := by decide +kernel
theorem d9_waits_72 : decode c9_waits 72 = .ok (.getfield 30, 3) := by decide +kernel
theorem d9_waits_75 : decode c9_waits 75 = .ok (.invokevirtual 197, 3) := by decide +kernel
theorem d9_waits_78 : decode c9_waits 78 = .ok (.aload_n 0, 1) := by decide +kernel
theorem d9_waits_79 : decode c9_waits 79 = .ok (.getfield 69, 3) := by decide +kernel
theorem d9_waits_82 : decode c9_waits 82 = .ok (.iconst 0, 1) := by decide +kernel
theorem d9_waits_83 : decode c9_waits 83 = .ok (.invokevirtual 229, 3) := by decide +kernel
theorem d9_waits_86 : decode c9_waits 86 = .ok (.iload 5, 2) := by decide +kernel
theorem d9_waits_88 : decode c9_waits 88 = .ok (.ifCond .ne 19, 3) := by decide +kernel
theorem d9_waits_91 : decode c9_waits 91 = .ok (.aload_n 0, 1) := by decide +kernel
theorem d9_waits_92 : decode c9_waits 92 = .ok (.getfield 69, 3) := by decide +kernel
theorem d9_waits_95 : decode c9_waits 95 = .ok (.iload_n 1, 1) := by decide +kernel
theorem d9_waits_96 : decode c9_waits 96 = .ok (.iload_n 2, 1) := by decide +kernel
theorem d9_waits_97 : decode c9_waits 97 = .ok (.iload_n 3, 1) := by decide +kernel
theorem d9_waits_98 : decode c9_waits 98 = .ok (.iload 4, 2) := by decide +kernel
theorem d9_waits_100 : decode c9_waits 100 = .ok (.invokestatic 233, 3) := by decide +kernel
theorem d9_waits_103 : decode c9_waits 103 = .ok (.i2l, 1) := by decide +kernel
theorem d9_waits_104 : decode c9_waits 104 = .ok (.goto 16, 3) := by decide +kernel
theorem d9_waits_107 : decode c9_waits 107 = .ok (.aload_n 0, 1) := by decide +kernel
theorem d9_waits_108 : decode c9_waits 108 = .ok (.getfield 69, 3) := by decide +kernel
theorem d9_waits_111 : decode c9_waits 111 = .ok (.iload_n 1, 1) := by decide +kernel
theorem d9_waits_112 : decode c9_waits 112 = .ok (.iload_n 2, 1) := by decide +kernel
theorem d9_waits_113 : decode c9_waits 113 = .ok (.iload_n 3, 1) := by decide +kernel
theorem d9_waits_114 : decode c9_waits 114 = .ok (.iload 4, 2) := by decide +kernel
theorem d9_waits_116 : decode c9_waits 116 = .ok (.invokevirtual 237, 3) := by decide +kernel
theorem d9_waits_119 : decode c9_waits 119 = .ok (.i2l, 1) := by decide +kernel
theorem d9_waits_120 : decode c9_waits 120 = .ok (.lreturn, 1) := by decide +kernel
set_option maxHeartbeats 4000000 in
set_option maxRecDepth 100000 in
theorem k9_waitsc (l : Launch) (E : En) (xo : Nat) (xa : Nat → Nat) (X : Nat → Int) (U : Nat → Int) (ck : Nat → Option Nat) (ca : Nat) (pa : Nat) (da : Nat) (sa : Nat) (C : Nat → Int) (P : Int → Int) (dr : Int → Int) (sr : Int → Int) (r0 : Option Nat) (T : Nat → Int) (Q : Nat → Int) (Y : Nat → Int) (cx : Int → Int) (kn : Int → Int) (pn : Int → Int) (co : Int → Int) (D : Int → Int) (W : Int → Int) (step : Int) (p : Int) (a : Int) (b : Int) (w : Int) (r_step : R32 step) (r_p : R32 p) (r_a : R32 a) (r_b : R32 b) (r_w : R32 w) (hu3 : 0 ≤ U 3 ∧ U 3 < X 3 ∧ X 3 ≤ 4) (hck : ck (U 3).toNat = some ca) (hwf : wfC C P) (hU1 : U 1 = 0 ∨ U 1 = 1) (hdr : ∀ j, 0 ≤ j → j < 24 → (0 ≤ dr j ∧ dr j ≤ 11988)) (hco : ∀ j, 0 ≤ j → j < 24 → 0 ≤ co j ∧ co j ≤ 6) (hDW : ∀ s, 0 ≤ s → s ≤ 11 → dr (12 * U 1 + s) = D s ∧ sr (12 * U 1 + s) = W s ∧ (0 ≤ D s ∧ D s ≤ 11988) ∧ (0 ≤ W s ∧ W s ≤ 11988)) (hkb : KnB (Q 2) kn) (hed : Q 2 < 90000000) (hu2 : 0 ≤ U 2 ∧ U 2 ≤ 40) : Cm l E y9_waits c9_waits 7 (some .long) { frames := 27, cells := 0, slots := 0, locals := 758 } [.ref xo, .int (iZ step), .int (iZ p), .int (iZ a), .int (iZ b), .int (iZ w)] [(xo, xO xa X), (xa 6, o5 (some (xa 20)) (some (xa 21)) (some (xa 22)) (some (xa 23)) U), (xa 2, aRef E 3 4 ck), (ca, o1 (some pa) (some da) (some sa) C), (pa, aInt E 5 P), (da, aInt E 24 dr), (sa, aInt E 24 sr), (xa 20, aInt E 24 co), (xa 12, o7 r0 (some (xa 30)) T), (xa 30, aInt E 24 cx), (xa 13, o3 (some (xa 12)) (some (xa 31)) Q), (xa 31, aLng E 39852 kn), (xa 14, o2 (some (xa 12)) (some (xa 13)) (some (xa 32)) Y), (xa 32, aInt E 12 pn)] (fun r ws => ∃ (v : Int), ∃ (T1 : Nat → Int), ∃ (r1 : Option Nat), ∃ (Y1 : Nat → Int), ∃ (cx1 : Int → Int), ∃ (kn1 : Int → Int), ∃ (pn1 : Int → Int), ∃ (q1 : Int), ∃ (q2 : Int), r = some (.long (lZ v)) ∧ ws = [(xo, xO xa X), (xa 6, o5 (some (xa 20)) (some (xa 21)) (some (xa 22)) (some (xa 23)) U), (xa 2, aRef E 3 4 ck), (ca, o1 (some pa) (some da) (some sa) C), (pa, aInt E 5 P), (da, aInt E 24 dr), (sa, aInt E 24 sr), (xa 20, aInt E 24 co), (xa 12, o7 r1 (some (xa 30)) T1), (xa 30, aInt E 24 cx1), (xa 13, o3 (some (xa 12)) (some (xa 31)) (upS (upS Q 1 q1) 2 q2)), (xa 31, aLng E 39852 kn1), (xa 14, o2 (some (xa 12)) (some (xa 13)) (some (xa 32)) Y1), (xa 32, aInt E 12 pn1)] ∧ (v = (if ((0 ≤ step ∧ step ≤ 11) ∧ (0 ≤ p ∧ p ≤ C 7) ∧ (0 ≤ a ∧ a ≤ 8) ∧ (0 ≤ b ∧ b ≤ 8) ∧ (0 ≤ w ∧ w ≤ 1)) then waN (kD C P D W co 0 0 0 0 1) step (81 * p + 9 * a + b) w else -9223372036854775808) ∧ (KnB q2 kn1 ∧ q2 ≤ Q 2 + 20))) := by
  refine Cm.of (by decide +kernel) (Nat.le_of_ble_eq_true rfl) (fun Γ A hl hargs hin G F => ?_)
  subst hl
  have hw5 := hwf.2.2.2.2.2.1
  have hw6 := hwf.2.2.2.2.2.2.1
  have hw7 := hwf.2.2.2.2.2.2.2
  refine j_aload_n G 0 rfl d9_waits_0 ?_
  refine j_VP G (k9_theCliffc (xl Γ) E xo xa X U ck ca (by first | assumption | omega | (simp only [upS, reduceIte, Nat.reduceEqDiff, eq_self, List.length_cons, List.length_nil, List.length_append] <;> omega)) (by first | assumption | omega | (simp only [upS, reduceIte, Nat.reduceEqDiff, eq_self, List.length_cons, List.length_nil, List.length_append] <;> omega))) mw9_theCliff ml9_107 [0, 1, 2] rfl 0 9 rfl rfl rfl ⟨Nat.le_of_ble_eq_true rfl, Nat.le_of_ble_eq_true rfl⟩ rfl (rest := []) rfl (Nat.le_of_ble_eq_true rfl) d9_waits_1 ⟨Nat.le_of_ble_eq_true rfl, Nat.le_of_ble_eq_true rfl⟩ (fun r hr => ?_)
  obtain ⟨rfl, hq1⟩ := hr
  refine j_astore G d9_waits_4 (by decide) rfl ?_
  refine j_aload G 0 rfl d9_waits_6 ?_
  refine j_ifnull G d9_waits_8 ?_
  refine j_iload_n G 2 rfl d9_waits_11 ?_
  refine j_SP G (k9_isNoStep (xl Γ) E step (by first | assumption | omega | (simp only [upS, reduceIte, Nat.reduceEqDiff, eq_self, List.length_cons, List.length_nil, List.length_append] <;> omega))) mw9_isNoStep ml9_135 [] rfl ⟨Nat.le_of_ble_eq_true rfl, Nat.le_of_ble_eq_true rfl⟩ rfl (rest := []) rfl (Nat.le_of_ble_eq_true rfl) d9_waits_12 ⟨Nat.le_of_ble_eq_true rfl, Nat.le_of_ble_eq_true rfl⟩ (fun r hr => ?_)
  obtain ⟨v3, rfl, hq2⟩ := hr
  rcases hq2 with ⟨hq2, rfl⟩ | ⟨hq2, rfl⟩
  ·
    refine j_if_ne (tgt := 31) G d9_waits_15 (by decide) (by decide) (fun h4 => ?_) (fun h4 => absurd h4 (by decide))
    refine j_ldc2 G (-9223372036854775808) ct9_149 (by decide) d9_waits_31 ?_
    exact j_lret G F d9_waits_34 ⟨(-9223372036854775808), T, r0, Y, cx, kn, pn, (Q 1), (Q 2), rfl, rfl, (by first | (refine ⟨(if_neg (by omega)).symm, hkb, by omega⟩; done) | (refine ⟨?_, hk1.b, by omega⟩; rw [if_pos (by omega)]; unfold waN; first | (rw [if_pos (by omega)]; exact hv) | (rw [if_neg (by omega)]; exact hg)))⟩
  ·
    refine j_if_ne (tgt := 31) G d9_waits_15 (by decide) (by decide) (fun h5 => absurd h5 (by decide)) (fun h5 => ?_)
    refine j_iload_n G 3 rfl d9_waits_18 ?_
    refine j_if_lt (tgt := 31) G d9_waits_19 (by decide) (by omega) (fun h6 => ?_) (fun h6 => ?_)
    ·
      refine j_ldc2 G (-9223372036854775808) ct9_149 (by decide) d9_waits_31 ?_
      exact j_lret G F d9_waits_34 ⟨(-9223372036854775808), T, r0, Y, cx, kn, pn, (Q 1), (Q 2), rfl, rfl, (by first | (refine ⟨(if_neg (by omega)).symm, hkb, by omega⟩; done) | (refine ⟨?_, hk1.b, by omega⟩; rw [if_pos (by omega)]; unfold waN; first | (rw [if_pos (by omega)]; exact hv) | (rw [if_neg (by omega)]; exact hg)))⟩
    ·
      refine j_iload_n G 3 rfl d9_waits_22 ?_
      refine j_aload G 0 rfl d9_waits_23 ?_
      refine j_get G 3 1 7 in1 fl9_132 d9_waits_25 rfl rfl (by decide) (v := .int (iZ (C 7))) rfl rfl ?_
      refine j_icmp_le (tgt := 35) G d9_waits_28 (by decide) (by omega) (by omega) (fun h7 => ?_) (fun h7 => ?_)
      ·
        refine j_iload_n G 4 rfl d9_waits_35 ?_
        refine j_SP G (k9_isNoCrowd (xl Γ) E a (by first | assumption | omega | (simp only [upS, reduceIte, Nat.reduceEqDiff, eq_self, List.length_cons, List.length_nil, List.length_append] <;> omega))) mw9_isNoCrowd ml9_226 [] rfl ⟨Nat.le_of_ble_eq_true rfl, Nat.le_of_ble_eq_true rfl⟩ rfl (rest := []) rfl (Nat.le_of_ble_eq_true rfl) d9_waits_36 ⟨Nat.le_of_ble_eq_true rfl, Nat.le_of_ble_eq_true rfl⟩ (fun r hr => ?_)
        obtain ⟨v9, rfl, hq8⟩ := hr
        rcases hq8 with ⟨hq8, rfl⟩ | ⟨hq8, rfl⟩
        ·
          refine j_if_ne (tgt := 61) G d9_waits_39 (by decide) (by decide) (fun h10 => ?_) (fun h10 => absurd h10 (by decide))
          refine j_ldc2 G (-9223372036854775808) ct9_149 (by decide) d9_waits_61 ?_
          exact j_lret G F d9_waits_64 ⟨(-9223372036854775808), T, r0, Y, cx, kn, pn, (Q 1), (Q 2), rfl, rfl, (by first | (refine ⟨(if_neg (by omega)).symm, hkb, by omega⟩; done) | (refine ⟨?_, hk1.b, by omega⟩; rw [if_pos (by omega)]; unfold waN; first | (rw [if_pos (by omega)]; exact hv) | (rw [if_neg (by omega)]; exact hg)))⟩
        ·
          refine j_if_ne (tgt := 61) G d9_waits_39 (by decide) (by decide) (fun h11 => absurd h11 (by decide)) (fun h11 => ?_)
          refine j_iload G 5 rfl d9_waits_42 ?_
          refine j_SP G (k9_isNoCrowd (xl Γ) E b (by first | assumption | omega | (simp only [upS, reduceIte, Nat.reduceEqDiff, eq_self, List.length_cons, List.length_nil, List.length_append] <;> omega))) mw9_isNoCrowd ml9_226 [] rfl ⟨Nat.le_of_ble_eq_true rfl, Nat.le_of_ble_eq_true rfl⟩ rfl (rest := []) rfl (Nat.le_of_ble_eq_true rfl) d9_waits_44 ⟨Nat.le_of_ble_eq_true rfl, Nat.le_of_ble_eq_true rfl⟩ (fun r hr => ?_)
          obtain ⟨v13, rfl, hq12⟩ := hr
          rcases hq12 with ⟨hq12, rfl⟩ | ⟨hq12, rfl⟩
          ·
            refine j_if_ne (tgt := 61) G d9_waits_47 (by decide) (by decide) (fun h14 => ?_) (fun h14 => absurd h14 (by decide))
            refine j_ldc2 G (-9223372036854775808) ct9_149 (by decide) d9_waits_61 ?_
            exact j_lret G F d9_waits_64 ⟨(-9223372036854775808), T, r0, Y, cx, kn, pn, (Q 1), (Q 2), rfl, rfl, (by first | (refine ⟨(if_neg (by omega)).symm, hkb, by omega⟩; done) | (refine ⟨?_, hk1.b, by omega⟩; rw [if_pos (by omega)]; unfold waN; first | (rw [if_pos (by omega)]; exact hv) | (rw [if_neg (by omega)]; exact hg)))⟩
          ·
            refine j_if_ne (tgt := 61) G d9_waits_47 (by decide) (by decide) (fun h15 => absurd h15 (by decide)) (fun h15 => ?_)
            refine j_iload G 6 rfl d9_waits_50 ?_
            refine j_if_lt (tgt := 61) G d9_waits_52 (by decide) (by omega) (fun h16 => ?_) (fun h16 => ?_)
            ·
              refine j_ldc2 G (-9223372036854775808) ct9_149 (by decide) d9_waits_61 ?_
              exact j_lret G F d9_waits_64 ⟨(-9223372036854775808), T, r0, Y, cx, kn, pn, (Q 1), (Q 2), rfl, rfl, (by first | (refine ⟨(if_neg (by omega)).symm, hkb, by omega⟩; done) | (refine ⟨?_, hk1.b, by omega⟩; rw [if_pos (by omega)]; unfold waN; first | (rw [if_pos (by omega)]; exact hv) | (rw [if_neg (by omega)]; exact hg)))⟩
            ·
              refine j_iload G 6 rfl d9_waits_55 ?_
              refine j_iconst G d9_waits_57 ?_
              refine j_icmp_le (tgt := 65) G d9_waits_58 (by decide) (by omega) (by decide) (fun h17 => ?_) (fun h17 => ?_)
              ·
                refine j_aload_n G 1 rfl d9_waits_65 ?_
                refine j_get G 0 9 12 in9 fl9_60 d9_waits_66 rfl rfl (by decide) (v := .ref (xa 12)) rfl rfl ?_
                refine j_aload G 0 rfl d9_waits_69 ?_
                refine j_aload_n G 1 rfl d9_waits_71 ?_
                refine j_get G 0 9 6 in9 fl9_30 d9_waits_72 rfl rfl (by decide) (v := .ref (xa 6)) rfl rfl ?_
                refine j_VM G (rm' := { frames := 1, cells := 0, slots := 0, locals := 60 }) (wc := [(xa 12, o7 r0 (some (xa 30)) T), (xa 30, aInt E 24 cx), (ca, o1 (some pa) (some da) (some sa) C), (pa, aInt E 5 P), (xa 6, o5 (some (xa 20)) (some (xa 21)) (some (xa 22)) (some (xa 23)) U), (xa 20, aInt E 24 co)]) (wr := [(xo, xO xa X), (xa 2, aRef E 3 4 ck), (da, aInt E 24 dr), (sa, aInt E 24 sr), (xa 13, o3 (some (xa 12)) (some (xa 31)) Q), (xa 31, aLng E 39852 kn), (xa 14, o2 (some (xa 12)) (some (xa 13)) (some (xa 32)) Y), (xa 32, aInt E 12 pn)]) (k7_setTo (xl Γ) E (xa 12) (xa 30) r0 T ca pa da sa C P (xa 6) (xa 20) (xa 21) (xa 22) (xa 23) U co cx (by first | assumption | omega | (simp only [upS, reduceIte, Nat.reduceEqDiff, eq_self, List.length_cons, List.length_nil, List.length_append] <;> omega))) mw7_setTo ml9_197 [8, 9, 3, 4, 1, 7] [0, 2, 5, 6, 10, 11, 12, 13] rfl rfl ⟨rfl, rfl⟩ (by decide) 8 7 rfl rfl rfl ⟨Nat.le_of_ble_eq_true rfl, Nat.le_of_ble_eq_true rfl⟩ rfl (rest := []) rfl (Nat.le_of_ble_eq_true rfl) d9_waits_75 ⟨Nat.le_of_ble_eq_true rfl, Nat.le_of_ble_eq_true rfl⟩ (fun r w1 hr => ?_)
                obtain ⟨t1_19, rfl, rfl, hq18⟩ := hr
                refine j_eq (ws' := [(xo, xO xa X), (xa 2, aRef E 3 4 ck), (da, aInt E 24 dr), (sa, aInt E 24 sr), (xa 13, o3 (some (xa 12)) (some (xa 31)) Q), (xa 31, aLng E 39852 kn), (xa 14, o2 (some (xa 12)) (some (xa 13)) (some (xa 32)) Y), (xa 32, aInt E 12 pn), (xa 12, o7 (some ca) (some (xa 30)) (upS (upS (upS (upS (upS T 1 t1_19) 3 (C 5)) 4 (C 6)) 5 (C 7)) 6 0)), (xa 30, aInt E 24 co), (ca, o1 (some pa) (some da) (some sa) C), (pa, aInt E 5 P), (xa 6, o5 (some (xa 20)) (some (xa 21)) (some (xa 22)) (some (xa 23)) U), (xa 20, aInt E 24 co)]) rfl rfl rfl ?_
                have ht1 := hq18
                refine j_aload_n G 1 rfl d9_waits_78 ?_
                refine j_get G 0 9 13 in9 fl9_69 d9_waits_79 rfl rfl (by decide) (v := .ref (xa 13)) rfl rfl ?_
                refine j_iconst G d9_waits_82 ?_
                refine j_VM G (rm' := { frames := 0, cells := 0, slots := 0, locals := 0 }) (wc := [(xa 13, o3 (some (xa 12)) (some (xa 31)) Q)]) (wr := [(xo, xO xa X), (xa 2, aRef E 3 4 ck), (da, aInt E 24 dr), (sa, aInt E 24 sr), (xa 31, aLng E 39852 kn), (xa 14, o2 (some (xa 12)) (some (xa 13)) (some (xa 32)) Y), (xa 32, aInt E 12 pn), (xa 12, o7 (some ca) (some (xa 30)) (upS (upS (upS (upS (upS T 1 t1_19) 3 (C 5)) 4 (C 6)) 5 (C 7)) 6 0)), (xa 30, aInt E 24 co), (ca, o1 (some pa) (some da) (some sa) C), (pa, aInt E 5 P), (xa 6, o5 (some (xa 20)) (some (xa 21)) (some (xa 22)) (some (xa 23)) U), (xa 20, aInt E 24 co)]) (k3_begin (xl Γ) E (xa 13) (xa 12) (xa 31) Q 0 ) mw3_begin ml9_229 [4] [0, 1, 2, 3, 5, 6, 7, 8, 9, 10, 11, 12, 13] rfl rfl ⟨rfl, rfl⟩ (by decide) 4 3 rfl rfl rfl ⟨Nat.le_of_ble_eq_true rfl, Nat.le_of_ble_eq_true rfl⟩ rfl (rest := []) rfl (Nat.le_of_ble_eq_true rfl) d9_waits_83 ⟨Nat.le_of_ble_eq_true rfl, Nat.le_of_ble_eq_true rfl⟩ (fun r w1 hr => ?_)
                obtain ⟨rfl, rfl, hq20⟩ := hr
                refine j_eq (ws' := [(xo, xO xa X), (xa 2, aRef E 3 4 ck), (da, aInt E 24 dr), (sa, aInt E 24 sr), (xa 31, aLng E 39852 kn), (xa 14, o2 (some (xa 12)) (some (xa 13)) (some (xa 32)) Y), (xa 32, aInt E 12 pn), (xa 12, o7 (some ca) (some (xa 30)) (upS (upS (upS (upS (upS T 1 t1_19) 3 (C 5)) 4 (C 6)) 5 (C 7)) 6 0)), (xa 30, aInt E 24 co), (ca, o1 (some pa) (some da) (some sa) C), (pa, aInt E 5 P), (xa 6, o5 (some (xa 20)) (some (xa 21)) (some (xa 22)) (some (xa 23)) U), (xa 20, aInt E 24 co), (xa 13, o3 (some (xa 12)) (some (xa 31)) (upS (upS Q 1 0) 2 ((Q 2) + 1)))]) rfl rfl rfl ?_
                refine j_iload G 6 rfl d9_waits_86 ?_
                refine j_if_ne (tgt := 107) G d9_waits_88 (by decide) (by omega) (fun h21 => ?_) (fun h21 => ?_)
                ·
                  refine j_aload_n G 1 rfl d9_waits_107 ?_
                  refine j_get G 0 9 13 in9 fl9_69 d9_waits_108 rfl rfl (by decide) (v := .ref (xa 13)) rfl rfl ?_
                  refine j_iload_n G 2 rfl d9_waits_111 ?_
                  refine j_iload_n G 3 rfl d9_waits_112 ?_
                  refine j_iload_n G 4 rfl d9_waits_113 ?_
                  refine j_iload G 5 rfl d9_waits_114 ?_
                  refine j_VM G (rm' := { frames := 26, cells := 0, slots := 0, locals := 728 }) (wc := [(xa 13, o3 (some (xa 12)) (some (xa 31)) (upS (upS Q 1 0) 2 ((Q 2) + 1))), (xa 31, aLng E 39852 kn), (xa 12, o7 (some ca) (some (xa 30)) (upS (upS (upS (upS (upS T 1 t1_19) 3 (C 5)) 4 (C 6)) 5 (C 7)) 6 0)), (xa 30, aInt E 24 co), (ca, o1 (some pa) (some da) (some sa) C), (pa, aInt E 5 P), (da, aInt E 24 dr), (sa, aInt E 24 sr)]) (wr := [(xo, xO xa X), (xa 2, aRef E 3 4 ck), (xa 14, o2 (some (xa 12)) (some (xa 13)) (some (xa 32)) Y), (xa 32, aInt E 12 pn), (xa 6, o5 (some (xa 20)) (some (xa 21)) (some (xa 22)) (some (xa 23)) U), (xa 20, aInt E 24 co)]) (k3_gainOfTrip (xl Γ) E (xa 13) (xa 31) (upS (upS Q 1 0) 2 ((Q 2) + 1)) (xa 12) (xa 30) (upS (upS (upS (upS (upS T 1 t1_19) 3 (C 5)) 4 (C 6)) 5 (C 7)) 6 0) ca pa da sa C P dr sr co (kD C P D W co 0 0 0 0 1) kn step p a b (tm_k (mt := 0) (ms := 0) (msp := 0) (mp := 0) (n := 1) rfl hwf (by omega) (by omega) (by omega) (by omega) (by omega) hco (fun s a b => by have q := hDW s a b; simp only [upS, reduceIte, Nat.reduceEqDiff]; rw [ht1, Int.add_zero]; exact q) (by first | (simp only [upS, reduceIte, Nat.reduceEqDiff]; omega) | simp only [upS, reduceIte, Nat.reduceEqDiff]) (by first | (simp only [upS, reduceIte, Nat.reduceEqDiff]; omega) | simp only [upS, reduceIte, Nat.reduceEqDiff]) (by first | (simp only [upS, reduceIte, Nat.reduceEqDiff]; omega) | simp only [upS, reduceIte, Nat.reduceEqDiff]) (by first | (simp only [upS, reduceIte, Nat.reduceEqDiff]; omega) | simp only [upS, reduceIte, Nat.reduceEqDiff]) (by first | (simp only [upS, reduceIte, Nat.reduceEqDiff]; omega) | simp only [upS, reduceIte, Nat.reduceEqDiff]) (fun s a b => ⟨rfl, by have q := hco (12 + s) (by omega) (by omega); omega⟩)) (hkb.k (by omega)) (by first | assumption | omega | (simp only [upS, reduceIte, Nat.reduceEqDiff, eq_self, List.length_cons, List.length_nil, List.length_append] <;> omega)) (by first | assumption | omega | (simp only [upS, reduceIte, Nat.reduceEqDiff, eq_self, List.length_cons, List.length_nil, List.length_append] <;> omega)) (by first | assumption | omega | (simp only [upS, reduceIte, Nat.reduceEqDiff, eq_self, List.length_cons, List.length_nil, List.length_append] <;> omega)) (by first | assumption | omega | (simp only [upS, reduceIte, Nat.reduceEqDiff, eq_self, List.length_cons, List.length_nil, List.length_append] <;> omega)) (by first | assumption | omega | (simp only [upS, reduceIte, Nat.reduceEqDiff, eq_self, List.length_cons, List.length_nil, List.length_append] <;> omega))) mw3_gainOfTrip ml9_237 [13, 4, 7, 8, 9, 10, 2, 3] [0, 1, 5, 6, 11, 12] rfl rfl ⟨rfl, rfl⟩ (by decide) 13 3 rfl rfl rfl ⟨Nat.le_of_ble_eq_true rfl, Nat.le_of_ble_eq_true rfl⟩ rfl (rest := []) rfl (Nat.le_of_ble_eq_true rfl) d9_waits_116 ⟨Nat.le_of_ble_eq_true rfl, Nat.le_of_ble_eq_true rfl⟩ (fun r w1 hr => ?_)
                  obtain ⟨v23, kn1_24, rfl, rfl, ⟨hq22_0, hq22_1, hq22_2⟩⟩ := hr
                  refine j_eq (ws' := [(xo, xO xa X), (xa 2, aRef E 3 4 ck), (xa 14, o2 (some (xa 12)) (some (xa 13)) (some (xa 32)) Y), (xa 32, aInt E 12 pn), (xa 6, o5 (some (xa 20)) (some (xa 21)) (some (xa 22)) (some (xa 23)) U), (xa 20, aInt E 24 co), (xa 13, o3 (some (xa 12)) (some (xa 31)) (upS (upS Q 1 0) 2 ((Q 2) + 1))), (xa 31, aLng E 39852 kn1_24), (xa 12, o7 (some ca) (some (xa 30)) (upS (upS (upS (upS (upS T 1 t1_19) 3 (C 5)) 4 (C 6)) 5 (C 7)) 6 0)), (xa 30, aInt E 24 co), (ca, o1 (some pa) (some da) (some sa) C), (pa, aInt E 5 P), (da, aInt E 24 dr), (sa, aInt E 24 sr)]) rfl rfl rfl ?_
                  try simp only [upS, reduceIte, Nat.reduceEqDiff, eq_self] at hq22_0 hq22_1 hq22_2
                  have hg := hq22_0
                  have hk1 := hq22_1
                  have hr1 := hq22_2
                  refine j_i2l G d9_waits_119 (by omega) ?_
                  refine j_perm (ws' := [(xo, xO xa X), (xa 6, o5 (some (xa 20)) (some (xa 21)) (some (xa 22)) (some (xa 23)) U), (xa 2, aRef E 3 4 ck), (ca, o1 (some pa) (some da) (some sa) C), (pa, aInt E 5 P), (da, aInt E 24 dr), (sa, aInt E 24 sr), (xa 20, aInt E 24 co), (xa 12, o7 (some ca) (some (xa 30)) (upS (upS (upS (upS (upS T 1 t1_19) 3 (C 5)) 4 (C 6)) 5 (C 7)) 6 0)), (xa 30, aInt E 24 co), (xa 13, o3 (some (xa 12)) (some (xa 31)) (upS (upS Q 1 0) 2 ((Q 2) + 1))), (xa 31, aLng E 39852 kn1_24), (xa 14, o2 (some (xa 12)) (some (xa 13)) (some (xa 32)) Y), (xa 32, aInt E 12 pn)]) [0, 4, 1, 10, 11, 12, 13, 5, 8, 9, 6, 7, 2, 3] rfl rfl rfl ?_
                  exact j_lret G F d9_waits_120 ⟨v23, (upS (upS (upS (upS (upS T 1 t1_19) 3 (C 5)) 4 (C 6)) 5 (C 7)) 6 0), (some ca), Y, co, kn1_24, pn, 0, ((Q 2) + 1), rfl, rfl, (by first | (refine ⟨(if_neg (by omega)).symm, hkb, by omega⟩; done) | (refine ⟨?_, hk1.b, by omega⟩; rw [if_pos (by omega)]; unfold waN; first | (rw [if_pos (by omega)]; exact hv) | (rw [if_neg (by omega)]; exact hg)))⟩
                ·
                  refine j_aload_n G 1 rfl d9_waits_91 ?_
                  refine j_get G 0 9 13 in9 fl9_69 d9_waits_92 rfl rfl (by decide) (v := .ref (xa 13)) rfl rfl ?_
                  refine j_iload_n G 2 rfl d9_waits_95 ?_
                  refine j_iload_n G 3 rfl d9_waits_96 ?_
                  refine j_iload_n G 4 rfl d9_waits_97 ?_
                  refine j_iload G 5 rfl d9_waits_98 ?_
                  refine j_SMN G (rm' := { frames := 26, cells := 0, slots := 0, locals := 728 }) (wc := [(xa 13, o3 (some (xa 12)) (some (xa 31)) (upS (upS Q 1 0) 2 ((Q 2) + 1))), (xa 31, aLng E 39852 kn), (xa 12, o7 (some ca) (some (xa 30)) (upS (upS (upS (upS (upS T 1 t1_19) 3 (C 5)) 4 (C 6)) 5 (C 7)) 6 0)), (xa 30, aInt E 24 co), (ca, o1 (some pa) (some da) (some sa) C), (pa, aInt E 5 P), (da, aInt E 24 dr), (sa, aInt E 24 sr)]) (wr := [(xo, xO xa X), (xa 2, aRef E 3 4 ck), (xa 14, o2 (some (xa 12)) (some (xa 13)) (some (xa 32)) Y), (xa 32, aInt E 12 pn), (xa 6, o5 (some (xa 20)) (some (xa 21)) (some (xa 22)) (some (xa 23)) U), (xa 20, aInt E 24 co)]) (k3_worthFrom_12 (xl Γ) E (xa 13) (xa 31) (upS (upS Q 1 0) 2 ((Q 2) + 1)) (xa 12) (xa 30) (upS (upS (upS (upS (upS T 1 t1_19) 3 (C 5)) 4 (C 6)) 5 (C 7)) 6 0) ca pa da sa C P dr sr co (kD C P D W co 0 0 0 0 1) kn step p a b (tm_k (mt := 0) (ms := 0) (msp := 0) (mp := 0) (n := 1) rfl hwf (by omega) (by omega) (by omega) (by omega) (by omega) hco (fun s a b => by have q := hDW s a b; simp only [upS, reduceIte, Nat.reduceEqDiff]; rw [ht1, Int.add_zero]; exact q) (by first | (simp only [upS, reduceIte, Nat.reduceEqDiff]; omega) | simp only [upS, reduceIte, Nat.reduceEqDiff]) (by first | (simp only [upS, reduceIte, Nat.reduceEqDiff]; omega) | simp only [upS, reduceIte, Nat.reduceEqDiff]) (by first | (simp only [upS, reduceIte, Nat.reduceEqDiff]; omega) | simp only [upS, reduceIte, Nat.reduceEqDiff]) (by first | (simp only [upS, reduceIte, Nat.reduceEqDiff]; omega) | simp only [upS, reduceIte, Nat.reduceEqDiff]) (by first | (simp only [upS, reduceIte, Nat.reduceEqDiff]; omega) | simp only [upS, reduceIte, Nat.reduceEqDiff]) (fun s a b => ⟨rfl, by have q := hco (12 + s) (by omega) (by omega); omega⟩)) (hkb.k (by omega)) (by first | assumption | omega | (simp only [upS, reduceIte, Nat.reduceEqDiff, eq_self, List.length_cons, List.length_nil, List.length_append] <;> omega)) (by first | assumption | omega | (simp only [upS, reduceIte, Nat.reduceEqDiff, eq_self, List.length_cons, List.length_nil, List.length_append] <;> omega)) (by first | assumption | omega | (simp only [upS, reduceIte, Nat.reduceEqDiff, eq_self, List.length_cons, List.length_nil, List.length_append] <;> omega)) (by first | assumption | omega | (simp only [upS, reduceIte, Nat.reduceEqDiff, eq_self, List.length_cons, List.length_nil, List.length_append] <;> omega)) (by first | assumption | omega | (simp only [upS, reduceIte, Nat.reduceEqDiff, eq_self, List.length_cons, List.length_nil, List.length_append] <;> omega))) mw3_worthFrom mn9_233 [13, 4, 7, 8, 9, 10, 2, 3] [0, 1, 5, 6, 11, 12] rfl rfl ⟨rfl, rfl⟩ (by decide) ⟨Nat.le_of_ble_eq_true rfl, Nat.le_of_ble_eq_true rfl⟩ rfl (rest := []) rfl (Nat.le_of_ble_eq_true rfl) d9_waits_100 ⟨Nat.le_of_ble_eq_true rfl, Nat.le_of_ble_eq_true rfl⟩ (fun r w1 hr => ?_)
                  obtain ⟨v26, kn1_27, rfl, rfl, ⟨hq25_0, hq25_1, hq25_2⟩⟩ := hr
                  refine j_eq (ws' := [(xo, xO xa X), (xa 2, aRef E 3 4 ck), (xa 14, o2 (some (xa 12)) (some (xa 13)) (some (xa 32)) Y), (xa 32, aInt E 12 pn), (xa 6, o5 (some (xa 20)) (some (xa 21)) (some (xa 22)) (some (xa 23)) U), (xa 20, aInt E 24 co), (xa 13, o3 (some (xa 12)) (some (xa 31)) (upS (upS Q 1 0) 2 ((Q 2) + 1))), (xa 31, aLng E 39852 kn1_27), (xa 12, o7 (some ca) (some (xa 30)) (upS (upS (upS (upS (upS T 1 t1_19) 3 (C 5)) 4 (C 6)) 5 (C 7)) 6 0)), (xa 30, aInt E 24 co), (ca, o1 (some pa) (some da) (some sa) C), (pa, aInt E 5 P), (da, aInt E 24 dr), (sa, aInt E 24 sr)]) rfl rfl rfl ?_
                  try simp only [upS, reduceIte, Nat.reduceEqDiff, eq_self] at hq25_0 hq25_1 hq25_2
                  have hv := hq25_0
                  have hk1 := hq25_1
                  have hr1 := hq25_2
                  refine j_i2l G d9_waits_103 (by omega) ?_
                  refine j_goto (tgt := 120) G d9_waits_104 (by decide) ?_
                  refine j_perm (ws' := [(xo, xO xa X), (xa 6, o5 (some (xa 20)) (some (xa 21)) (some (xa 22)) (some (xa 23)) U), (xa 2, aRef E 3 4 ck), (ca, o1 (some pa) (some da) (some sa) C), (pa, aInt E 5 P), (da, aInt E 24 dr), (sa, aInt E 24 sr), (xa 20, aInt E 24 co), (xa 12, o7 (some ca) (some (xa 30)) (upS (upS (upS (upS (upS T 1 t1_19) 3 (C 5)) 4 (C 6)) 5 (C 7)) 6 0)), (xa 30, aInt E 24 co), (xa 13, o3 (some (xa 12)) (some (xa 31)) (upS (upS Q 1 0) 2 ((Q 2) + 1))), (xa 31, aLng E 39852 kn1_27), (xa 14, o2 (some (xa 12)) (some (xa 13)) (some (xa 32)) Y), (xa 32, aInt E 12 pn)]) [0, 4, 1, 10, 11, 12, 13, 5, 8, 9, 6, 7, 2, 3] rfl rfl rfl ?_
                  exact j_lret G F d9_waits_120 ⟨v26, (upS (upS (upS (upS (upS T 1 t1_19) 3 (C 5)) 4 (C 6)) 5 (C 7)) 6 0), (some ca), Y, co, kn1_27, pn, 0, ((Q 2) + 1), rfl, rfl, (by first | (refine ⟨(if_neg (by omega)).symm, hkb, by omega⟩; done) | (refine ⟨?_, hk1.b, by omega⟩; rw [if_pos (by omega)]; unfold waN; first | (rw [if_pos (by omega)]; exact hv) | (rw [if_neg (by omega)]; exact hg)))⟩
              ·
                refine j_ldc2 G (-9223372036854775808) ct9_149 (by decide) d9_waits_61 ?_
                exact j_lret G F d9_waits_64 ⟨(-9223372036854775808), T, r0, Y, cx, kn, pn, (Q 1), (Q 2), rfl, rfl, (by first | (refine ⟨(if_neg (by omega)).symm, hkb, by omega⟩; done) | (refine ⟨?_, hk1.b, by omega⟩; rw [if_pos (by omega)]; unfold waN; first | (rw [if_pos (by omega)]; exact hv) | (rw [if_neg (by omega)]; exact hg)))⟩
      ·
        refine j_ldc2 G (-9223372036854775808) ct9_149 (by decide) d9_waits_31 ?_
        exact j_lret G F d9_waits_34 ⟨(-9223372036854775808), T, r0, Y, cx, kn, pn, (Q 1), (Q 2), rfl, rfl, (by first | (refine ⟨(if_neg (by omega)).symm, hkb, by omega⟩; done) | (refine ⟨?_, hk1.b, by omega⟩; rw [if_pos (by omega)]; unfold waN; first | (rw [if_pos (by omega)]; exact hv) | (rw [if_neg (by omega)]; exact hg)))⟩
