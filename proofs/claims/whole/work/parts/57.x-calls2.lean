theorem d9_rule_0 : decode c9_rule 0 = .ok (.iload_n 1, 1) := by decide +kernel
theorem d9_rule_1 : decode c9_rule 1 = .ok (.invokestatic 178, 3) := by decide +kernel
theorem d9_rule_4 : decode c9_rule 4 = .ok (.ifCond .eq 5, 3) := by decide +kernel
theorem d9_rule_9 : decode c9_rule 9 = .ok (.iload_n 2, 1) := by decide +kernel
theorem d9_rule_10 : decode c9_rule 10 = .ok (.ifCond .lt 9, 3) := by decide +kernel
theorem d9_rule_13 : decode c9_rule 13 = .ok (.iload_n 2, 1) := by decide +kernel
theorem d9_rule_14 : decode c9_rule 14 = .ok (.bipush 20, 2) := by decide +kernel
theorem d9_rule_16 : decode c9_rule 16 = .ok (.if_icmp .le 6, 3) := by decide +kernel
theorem d9_rule_22 : decode c9_rule 22 = .ok (.aload_n 0, 1) := by decide +kernel
theorem d9_rule_23 : decode c9_rule 23 = .ok (.getfield 181, 3) := by decide +kernel
theorem d9_rule_26 : decode c9_rule 26 = .ok (.bipush 12, 2) := by decide +kernel
theorem d9_rule_28 : decode c9_rule 28 = .ok (.if_icmp .lt 6, 3) := by decide +kernel
theorem d9_rule_34 : decode c9_rule 34 = .ok (.aload_n 0, 1) := by decide +kernel
theorem d9_rule_35 : decode c9_rule 35 = .ok (.getfield 23, 3) := by decide +kernel
theorem d9_rule_38 : decode c9_rule 38 = .ok (.aload_n 0, 1) := by decide +kernel
theorem d9_rule_39 : decode c9_rule 39 = .ok (.getfield 181, 3) := by decide +kernel
theorem d9_rule_42 : decode c9_rule 42 = .ok (.new 21, 3) := by decide +kernel
theorem d9_rule_45 : decode c9_rule 45 = .ok (.dup, 1) := by decide +kernel
theorem d9_rule_46 : decode c9_rule 46 = .ok (.iload_n 1, 1) := by decide +kernel
theorem d9_rule_47 : decode c9_rule 47 = .ok (.iload_n 2, 1) := by decide +kernel
theorem d9_rule_48 : decode c9_rule 48 = .ok (.aload_n 0, 1) := by decide +kernel
theorem d9_rule_49 : decode c9_rule 49 = .ok (.getfield 181, 3) := by decide +kernel
theorem d9_rule_52 : decode c9_rule 52 = .ok (.invokespecial 50, 3) := by decide +kernel
theorem d9_rule_55 : decode c9_rule 55 = .ok (.aastore, 1) := by decide +kernel
theorem d9_rule_56 : decode c9_rule 56 = .ok (.aload_n 0, 1) := by decide +kernel
theorem d9_rule_57 : decode c9_rule 57 = .ok (.dup, 1) := by decide +kernel
theorem d9_rule_58 : decode c9_rule 58 = .ok (.getfield 181, 3) := by decide +kernel
theorem d9_rule_61 : decode c9_rule 61 = .ok (.iconst 1, 1) := by decide +kernel
theorem d9_rule_62 : decode c9_rule 62 = .ok (.iadd, 1) := by decide +kernel
theorem d9_rule_63 : decode c9_rule 63 = .ok (.putfield 181, 3) := by decide +kernel
theorem d9_rule_66 : decode c9_rule 66 = .ok (.aload_n 0, 1) := by decide +kernel
theorem d9_rule_67 : decode c9_rule 67 = .ok (.getfield 181, 3) := by decide +kernel
theorem d9_rule_70 : decode c9_rule 70 = .ok (.iconst 1, 1) := by decide +kernel
theorem d9_rule_71 : decode c9_rule 71 = .ok (.isub, 1) := by decide +kernel
theorem d9_rule_72 : decode c9_rule 72 = .ok (.ireturn, 1) := by decide +kernel
theorem mw9_rule : MV y9_rule c9_rule 3 (some .int) 2 := ⟨cd9_rule, ini9, na9_rule, im9_rule, se9_rule⟩
set_option maxHeartbeats 4000000 in
set_option maxRecDepth 100000 in
theorem k9_rulea (l : Launch) (E : En) (xo : Nat) (xa : Nat → Nat) (X : Nat → Int) (rk : Nat → Option Nat) (k : Int) (v : Int) (r_k : R32 k) (r_v : R32 v) (hx5 : 0 ≤ X 5 ∧ X 5 < 12) (hok : (0 ≤ k ∧ k ≤ 6) ∧ (0 ≤ v ∧ v ≤ 20)) (hkk : k = 6) : Cm l E y9_rule c9_rule 3 (some .int) { frames := 2, cells := 2, slots := 17, locals := 35 } [.ref xo, .int (iZ k), .int (iZ v)] [(xo, xO xa X), (xa 4, aRef E 4 12 rk)] (fun r ws => ∃ (ra : Nat), ∃ (rr : Nat), r = some (.int (iZ (X 5))) ∧ ws = [(xo, xO xa (upS X 5 (X 5 + 1))), (xa 4, aRef E 4 12 (va_up rk (X 5).toNat (some ra))), (ra, o4 (some rr) (upS (upS (upS (fun _ => 0) 0 k) 1 v) 2 (X 5))), (rr, aInt E 12 (fun _ => 0))] ∧ True) := by
  refine Cm.of (by decide +kernel) (Nat.le_of_ble_eq_true rfl) (fun Γ A hl hargs hin G F => ?_)
  subst hl
  refine j_iload_n G 1 rfl d9_rule_0 ?_
  refine j_SP G (k9_isNoKind (xl Γ) E k (by first | assumption | omega | (simp only [upS, reduceIte, Nat.reduceEqDiff, eq_self, List.length_cons, List.length_nil, List.length_append] <;> omega))) mw9_isNoKind ml9_178 [] rfl ⟨Nat.le_of_ble_eq_true rfl, Nat.le_of_ble_eq_true rfl⟩ rfl (rest := []) rfl (Nat.le_of_ble_eq_true rfl) d9_rule_1 ⟨Nat.le_of_ble_eq_true rfl, Nat.le_of_ble_eq_true rfl⟩ (fun r hr => ?_)
  obtain ⟨v2, rfl, hq1⟩ := hr
  rcases hq1 with ⟨hq1, rfl⟩ | ⟨hq1, rfl⟩
  ·
    omega
  ·
    refine j_if_eq (tgt := 9) G d9_rule_4 (by decide) (by decide) (fun h3 => ?_) (fun h3 => absurd h3 (by decide))
    refine j_iload_n G 2 rfl d9_rule_9 ?_
    refine j_if_lt (tgt := 19) G d9_rule_10 (by decide) (by omega) (fun h4 => ?_) (fun h4 => ?_)
    ·
      exact absurd h4 (by omega)
    ·
      refine j_iload_n G 2 rfl d9_rule_13 ?_
      refine j_bipush G d9_rule_14 rfl ?_
      refine j_icmp_le (tgt := 22) G d9_rule_16 (by decide) (by omega) (by decide) (fun h5 => ?_) (fun h5 => ?_)
      ·
        refine j_aload_n G 0 rfl d9_rule_22 ?_
        refine j_get G 0 9 5 in9 fl9_181 d9_rule_23 rfl rfl (by decide) (v := .int (iZ (X 5))) rfl rfl ?_
        refine j_bipush G d9_rule_26 rfl ?_
        refine j_icmp_lt (tgt := 34) G d9_rule_28 (by decide) (by omega) (by decide) (fun h6 => ?_) (fun h6 => ?_)
        ·
          refine j_aload_n G 0 rfl d9_rule_34 ?_
          refine j_get G 0 9 4 in9 fl9_23 d9_rule_35 rfl rfl (by decide) (v := .ref (xa 4)) rfl rfl ?_
          refine j_aload_n G 0 rfl d9_rule_38 ?_
          refine j_get G 0 9 5 in9 fl9_181 d9_rule_39 rfl rfl (by decide) (v := .int (iZ (X 5))) rfl rfl ?_
          refine j_new G 4 (fs := z4) in4 tyok4 cl9_21 is4 ini4 rfl hz4 ⟨Nat.le_of_ble_eq_true rfl, Nat.le_of_ble_eq_true rfl⟩ d9_rule_42 (fun q7 => ?_)
          refine j_dup G d9_rule_45 rfl ?_
          refine j_iload_n G 1 rfl d9_rule_46 ?_
          refine j_iload_n G 2 rfl d9_rule_47 ?_
          refine j_aload_n G 0 rfl d9_rule_48 ?_
          refine j_get G 0 9 5 in9 fl9_181 d9_rule_49 rfl rfl (by decide) (v := .int (iZ (X 5))) rfl rfl ?_
          refine j_IM G (rm' := { frames := 1, cells := 1, slots := 12, locals := 12 }) (wc := [(q7, o4 none (fun _ => 0))]) (wr := [(xo, xO xa X), (xa 4, aRef E 4 12 rk)]) (k4_inita (xl Γ) E q7 k v (X 5) (by first | assumption | omega | (simp only [upS, reduceIte, Nat.reduceEqDiff, eq_self, List.length_cons, List.length_nil, List.length_append] <;> omega))) mw4_init ml9_50 [2] [0, 1] rfl rfl ⟨rfl, rfl⟩ (by decide) ⟨Nat.le_of_ble_eq_true rfl, Nat.le_of_ble_eq_true rfl⟩ rfl (rest := [.ref q7, .int (iZ (X 5)), .ref (xa 4)]) rfl (Nat.le_of_ble_eq_true rfl) d9_rule_52 ⟨Nat.le_of_ble_eq_true rfl, Nat.le_of_ble_eq_true rfl⟩ (fun r w1 hr => ?_)
          obtain ⟨c0_9, rfl, rfl, hq8⟩ := hr
          refine j_eq (ws' := [(xo, xO xa X), (xa 4, aRef E 4 12 rk), (q7, o4 (some c0_9) (upS (upS (upS (fun _ => 0) 0 k) 1 v) 2 (X 5))), (c0_9, aInt E 12 (fun _ => 0))]) rfl rfl rfl ?_
          refine j_aast G 1 4 2 4 rfl rfl rfl rfl (by omega) d9_rule_55 ?_
          refine j_aload_n G 0 rfl d9_rule_56 ?_
          refine j_dup G d9_rule_57 rfl ?_
          refine j_get G 0 9 5 in9 fl9_181 d9_rule_58 rfl rfl (by decide) (v := .int (iZ (X 5))) rfl rfl ?_
          refine j_iconst G d9_rule_61 ?_
          refine j_iadd G d9_rule_62 ?_
          refine j_put G 0 9 5 in9 tyok9 nm9 fl9_181 d9_rule_63 rfl rfl (by decide) ⟨rfl, rfl⟩ rfl rfl (Nat.le_of_ble_eq_true rfl) (e := xO xa (upS X 5 ((X 5) + 1))) rfl ?_
          refine j_aload_n G 0 rfl d9_rule_66 ?_
          refine j_get G 0 9 5 in9 fl9_181 d9_rule_67 rfl rfl (by decide) (v := .int (iZ ((X 5) + 1))) rfl rfl ?_
          refine j_iconst G d9_rule_70 ?_
          refine j_isub G d9_rule_71 ?_
          refine j_top (y := iZ (X 5)) (by congr 1; omega) ?_
          refine j_widen (k' := 2) (n' := 17) ⟨Nat.le_of_ble_eq_true rfl, Nat.le_of_ble_eq_true rfl⟩ ?_
          exact j_iret G F d9_rule_72 ⟨q7, c0_9, rfl, rfl, trivial⟩
        ·
          omega
      ·
        omega
set_option maxHeartbeats 4000000 in
set_option maxRecDepth 100000 in
theorem k9_ruleb (l : Launch) (E : En) (xo : Nat) (xa : Nat → Nat) (X : Nat → Int) (rk : Nat → Option Nat) (k : Int) (v : Int) (r_k : R32 k) (r_v : R32 v) (hx5 : 0 ≤ X 5 ∧ X 5 < 12) (hok : (0 ≤ k ∧ k ≤ 6) ∧ (0 ≤ v ∧ v ≤ 20)) (hkk : ¬ k = 6) : Cm l E y9_rule c9_rule 3 (some .int) { frames := 2, cells := 2, slots := 5, locals := 35 } [.ref xo, .int (iZ k), .int (iZ v)] [(xo, xO xa X), (xa 4, aRef E 4 12 rk)] (fun r ws => ∃ (ra : Nat), ∃ (rr : Nat), r = some (.int (iZ (X 5))) ∧ ws = [(xo, xO xa (upS X 5 (X 5 + 1))), (xa 4, aRef E 4 12 (va_up rk (X 5).toNat (some ra))), (ra, o4 (some rr) (upS (upS (upS (fun _ => 0) 0 k) 1 v) 2 (X 5))), (rr, aInt E 0 (fun _ => 0))] ∧ True) := by
  refine Cm.of (by decide +kernel) (Nat.le_of_ble_eq_true rfl) (fun Γ A hl hargs hin G F => ?_)
  subst hl
  refine j_iload_n G 1 rfl d9_rule_0 ?_
  refine j_SP G (k9_isNoKind (xl Γ) E k (by first | assumption | omega | (simp only [upS, reduceIte, Nat.reduceEqDiff, eq_self, List.length_cons, List.length_nil, List.length_append] <;> omega))) mw9_isNoKind ml9_178 [] rfl ⟨Nat.le_of_ble_eq_true rfl, Nat.le_of_ble_eq_true rfl⟩ rfl (rest := []) rfl (Nat.le_of_ble_eq_true rfl) d9_rule_1 ⟨Nat.le_of_ble_eq_true rfl, Nat.le_of_ble_eq_true rfl⟩ (fun r hr => ?_)
  obtain ⟨v2, rfl, hq1⟩ := hr
  rcases hq1 with ⟨hq1, rfl⟩ | ⟨hq1, rfl⟩
  ·
    omega
  ·
    refine j_if_eq (tgt := 9) G d9_rule_4 (by decide) (by decide) (fun h3 => ?_) (fun h3 => absurd h3 (by decide))
    refine j_iload_n G 2 rfl d9_rule_9 ?_
    refine j_if_lt (tgt := 19) G d9_rule_10 (by decide) (by omega) (fun h4 => ?_) (fun h4 => ?_)
    ·
      exact absurd h4 (by omega)
    ·
      refine j_iload_n G 2 rfl d9_rule_13 ?_
      refine j_bipush G d9_rule_14 rfl ?_
      refine j_icmp_le (tgt := 22) G d9_rule_16 (by decide) (by omega) (by decide) (fun h5 => ?_) (fun h5 => ?_)
      ·
        refine j_aload_n G 0 rfl d9_rule_22 ?_
        refine j_get G 0 9 5 in9 fl9_181 d9_rule_23 rfl rfl (by decide) (v := .int (iZ (X 5))) rfl rfl ?_
        refine j_bipush G d9_rule_26 rfl ?_
        refine j_icmp_lt (tgt := 34) G d9_rule_28 (by decide) (by omega) (by decide) (fun h6 => ?_) (fun h6 => ?_)
        ·
          refine j_aload_n G 0 rfl d9_rule_34 ?_
          refine j_get G 0 9 4 in9 fl9_23 d9_rule_35 rfl rfl (by decide) (v := .ref (xa 4)) rfl rfl ?_
          refine j_aload_n G 0 rfl d9_rule_38 ?_
          refine j_get G 0 9 5 in9 fl9_181 d9_rule_39 rfl rfl (by decide) (v := .int (iZ (X 5))) rfl rfl ?_
          refine j_new G 4 (fs := z4) in4 tyok4 cl9_21 is4 ini4 rfl hz4 ⟨Nat.le_of_ble_eq_true rfl, Nat.le_of_ble_eq_true rfl⟩ d9_rule_42 (fun q7 => ?_)
          refine j_dup G d9_rule_45 rfl ?_
          refine j_iload_n G 1 rfl d9_rule_46 ?_
          refine j_iload_n G 2 rfl d9_rule_47 ?_
          refine j_aload_n G 0 rfl d9_rule_48 ?_
          refine j_get G 0 9 5 in9 fl9_181 d9_rule_49 rfl rfl (by decide) (v := .int (iZ (X 5))) rfl rfl ?_
          refine j_IM G (rm' := { frames := 1, cells := 1, slots := 0, locals := 12 }) (wc := [(q7, o4 none (fun _ => 0))]) (wr := [(xo, xO xa X), (xa 4, aRef E 4 12 rk)]) (k4_initb (xl Γ) E q7 k v (X 5) (by first | assumption | omega | (simp only [upS, reduceIte, Nat.reduceEqDiff, eq_self, List.length_cons, List.length_nil, List.length_append] <;> omega)) (by first | assumption | omega | (simp only [upS, reduceIte, Nat.reduceEqDiff, eq_self, List.length_cons, List.length_nil, List.length_append] <;> omega))) mw4_init ml9_50 [2] [0, 1] rfl rfl ⟨rfl, rfl⟩ (by decide) ⟨Nat.le_of_ble_eq_true rfl, Nat.le_of_ble_eq_true rfl⟩ rfl (rest := [.ref q7, .int (iZ (X 5)), .ref (xa 4)]) rfl (Nat.le_of_ble_eq_true rfl) d9_rule_52 ⟨Nat.le_of_ble_eq_true rfl, Nat.le_of_ble_eq_true rfl⟩ (fun r w1 hr => ?_)
          obtain ⟨c0_9, rfl, rfl, hq8⟩ := hr
          refine j_eq (ws' := [(xo, xO xa X), (xa 4, aRef E 4 12 rk), (q7, o4 (some c0_9) (upS (upS (upS (fun _ => 0) 0 k) 1 v) 2 (X 5))), (c0_9, aInt E 0 (fun _ => 0))]) rfl rfl rfl ?_
          refine j_aast G 1 4 2 4 rfl rfl rfl rfl (by omega) d9_rule_55 ?_
          refine j_aload_n G 0 rfl d9_rule_56 ?_
          refine j_dup G d9_rule_57 rfl ?_
          refine j_get G 0 9 5 in9 fl9_181 d9_rule_58 rfl rfl (by decide) (v := .int (iZ (X 5))) rfl rfl ?_
          refine j_iconst G d9_rule_61 ?_
          refine j_iadd G d9_rule_62 ?_
          refine j_put G 0 9 5 in9 tyok9 nm9 fl9_181 d9_rule_63 rfl rfl (by decide) ⟨rfl, rfl⟩ rfl rfl (Nat.le_of_ble_eq_true rfl) (e := xO xa (upS X 5 ((X 5) + 1))) rfl ?_
          refine j_aload_n G 0 rfl d9_rule_66 ?_
          refine j_get G 0 9 5 in9 fl9_181 d9_rule_67 rfl rfl (by decide) (v := .int (iZ ((X 5) + 1))) rfl rfl ?_
          refine j_iconst G d9_rule_70 ?_
          refine j_isub G d9_rule_71 ?_
          refine j_top (y := iZ (X 5)) (by congr 1; omega) ?_
          refine j_widen (k' := 2) (n' := 5) ⟨Nat.le_of_ble_eq_true rfl, Nat.le_of_ble_eq_true rfl⟩ ?_
          exact j_iret G F d9_rule_72 ⟨q7, c0_9, rfl, rfl, trivial⟩
        ·
          omega
      ·
        omega
theorem d9_rule_7 : decode c9_rule 7 = .ok (.iconst (-1), 1) := by decide +kernel
theorem d9_rule_8 : decode c9_rule 8 = .ok (.ireturn, 1) := by decide +kernel
theorem d9_rule_19 : decode c9_rule 19 = .ok (.bipush (-2), 2) := by decide +kernel
theorem d9_rule_21 : decode c9_rule 21 = .ok (.ireturn, 1) := by decide +kernel
theorem d9_rule_31 : decode c9_rule 31 = .ok (.bipush (-4), 2) := by decide +kernel
theorem d9_rule_33 : decode c9_rule 33 = .ok (.ireturn, 1) := by decide +kernel
set_option maxHeartbeats 4000000 in
set_option maxRecDepth 100000 in
theorem k9_rulen (l : Launch) (E : En) (xo : Nat) (xa : Nat → Nat) (X : Nat → Int) (k : Int) (w : Int) (r_k : R32 k) (r_w : R32 w) (hx5 : 0 ≤ X 5 ∧ X 5 ≤ 12) (hno : ¬ ((0 ≤ k ∧ k ≤ 6) ∧ (0 ≤ w ∧ w ≤ 20) ∧ ¬ X 5 = 12)) : Cp l E y9_rule c9_rule 3 (some .int) 1 20 [.ref xo, .int (iZ k), .int (iZ w)] [(xo, xO xa X)] (fun r => ∃ (v : Int), r = some (.int (iZ v)) ∧ (v = ruleA (X 5) k w)) := by
  refine Cp.of (by decide +kernel) (Nat.le_of_ble_eq_true rfl) (fun Γ hl hargs G F => ?_)
  subst hl
  refine j_iload_n G 1 rfl d9_rule_0 ?_
  refine j_SP G (k9_isNoKind (xl Γ) E k (by first | assumption | omega | (simp only [upS, reduceIte, Nat.reduceEqDiff, eq_self, List.length_cons, List.length_nil, List.length_append] <;> omega))) mw9_isNoKind ml9_178 [] rfl ⟨Nat.le_of_ble_eq_true rfl, Nat.le_of_ble_eq_true rfl⟩ rfl (rest := []) rfl (Nat.le_of_ble_eq_true rfl) d9_rule_1 ⟨Nat.le_of_ble_eq_true rfl, Nat.le_of_ble_eq_true rfl⟩ (fun r hr => ?_)
  obtain ⟨v2, rfl, hq1⟩ := hr
  rcases hq1 with ⟨hq1, rfl⟩ | ⟨hq1, rfl⟩
  ·
    refine j_if_eq (tgt := 9) G d9_rule_4 (by decide) (by decide) (fun h3 => absurd h3 (by decide)) (fun h3 => ?_)
    refine j_iconst G d9_rule_7 ?_
    exact j_iret G F d9_rule_8 ⟨(-1), rfl, (by (try simp only [ruleA]) <;> (repeat' split) <;> first | rfl | omega | (exfalso; omega))⟩
  ·
    refine j_if_eq (tgt := 9) G d9_rule_4 (by decide) (by decide) (fun h4 => ?_) (fun h4 => absurd h4 (by decide))
    refine j_iload_n G 2 rfl d9_rule_9 ?_
    refine j_if_lt (tgt := 19) G d9_rule_10 (by decide) (by omega) (fun h5 => ?_) (fun h5 => ?_)
    ·
      refine j_bipush G d9_rule_19 rfl ?_
      exact j_iret G F d9_rule_21 ⟨(-2), rfl, (by (try simp only [ruleA]) <;> (repeat' split) <;> first | rfl | omega | (exfalso; omega))⟩
    ·
      refine j_iload_n G 2 rfl d9_rule_13 ?_
      refine j_bipush G d9_rule_14 rfl ?_
      refine j_icmp_le (tgt := 22) G d9_rule_16 (by decide) (by omega) (by decide) (fun h6 => ?_) (fun h6 => ?_)
      ·
        refine j_aload_n G 0 rfl d9_rule_22 ?_
        refine j_get G 0 9 5 in9 fl9_181 d9_rule_23 rfl rfl (by decide) (v := .int (iZ (X 5))) rfl rfl ?_
        refine j_bipush G d9_rule_26 rfl ?_
        refine j_icmp_lt (tgt := 34) G d9_rule_28 (by decide) (by omega) (by decide) (fun h7 => ?_) (fun h7 => ?_)
        ·
          exact absurd h7 (by omega)
        ·
          refine j_bipush G d9_rule_31 rfl ?_
          exact j_iret G F d9_rule_33 ⟨(-4), rfl, (by (try simp only [ruleA]) <;> (repeat' split) <;> first | rfl | omega | (exfalso; omega))⟩
      ·
        refine j_bipush G d9_rule_19 rfl ?_
        exact j_iret G F d9_rule_21 ⟨(-2), rfl, (by (try simp only [ruleA]) <;> (repeat' split) <;> first | rfl | omega | (exfalso; omega))⟩
theorem d9_row_0 : decode c9_row 0 = .ok (.aload_n 0, 1) := by decide +kernel
theorem d9_row_1 : decode c9_row 1 = .ok (.iload_n 1, 1) := by decide +kernel
theorem d9_row_2 : decode c9_row 2 = .ok (.invokevirtual 184, 3) := by decide +kernel
theorem d9_row_5 : decode c9_row 5 = .ok (.astore_n 3, 1) := by decide +kernel
theorem d9_row_6 : decode c9_row 6 = .ok (.aload_n 3, 1) := by decide +kernel
theorem d9_row_7 : decode c9_row 7 = .ok (.ifnonnull 5, 3) := by decide +kernel
theorem d9_row_10 : decode c9_row 10 = .ok (.iconst (-1), 1) := by decide +kernel
theorem d9_row_11 : decode c9_row 11 = .ok (.ireturn, 1) := by decide +kernel
theorem mw9_row : MV y9_row c9_row 4 (some .int) 2 := ⟨cd9_row, ini9, na9_row, im9_row, se9_row⟩
set_option maxHeartbeats 4000000 in
set_option maxRecDepth 100000 in
theorem k9_rown (l : Launch) (E : En) (xo : Nat) (xa : Nat → Nat) (X : Nat → Int) (q : Int) (n : Int) (r_q : R32 q) (r_n : R32 n) (hrq : ¬ (0 ≤ q ∧ q < X 5)) (hx5 : 0 ≤ X 5 ∧ X 5 ≤ 12) : Cp l E y9_row c9_row 4 (some .int) 1 21 [.ref xo, .int (iZ q), .int (iZ n)] [(xo, xO xa X)] (fun r => ∃ (v : Int), r = some (.int (iZ v)) ∧ (v = -1)) := by
  refine Cp.of (by decide +kernel) (Nat.le_of_ble_eq_true rfl) (fun Γ hl hargs G F => ?_)
  subst hl
  refine j_aload_n G 0 rfl d9_row_0 ?_
  refine j_iload_n G 1 rfl d9_row_1 ?_
  refine j_VP G (k9_ruleAtn (xl Γ) E xo xa X q (by first | assumption | omega | (simp only [upS, reduceIte, Nat.reduceEqDiff, eq_self, List.length_cons, List.length_nil, List.length_append] <;> omega)) (by first | assumption | omega | (simp only [upS, reduceIte, Nat.reduceEqDiff, eq_self, List.length_cons, List.length_nil, List.length_append] <;> omega)) (by first | assumption | omega | (simp only [upS, reduceIte, Nat.reduceEqDiff, eq_self, List.length_cons, List.length_nil, List.length_append] <;> omega))) mw9_ruleAt ml9_184 [0] rfl 0 9 rfl rfl rfl ⟨Nat.le_of_ble_eq_true rfl, Nat.le_of_ble_eq_true rfl⟩ rfl (rest := []) rfl (Nat.le_of_ble_eq_true rfl) d9_row_2 ⟨Nat.le_of_ble_eq_true rfl, Nat.le_of_ble_eq_true rfl⟩ (fun r hr => ?_)
  obtain ⟨rfl, hq1⟩ := hr
  refine j_astore_nN G d9_row_5 (by decide) rfl ?_
  refine j_aload_nN G 0 rfl d9_row_6 ?_
  refine j_ifnonnullN G d9_row_7 ?_
  refine j_iconst G d9_row_10 ?_
  exact j_iret G F d9_row_11 ⟨(-1), rfl, (by first | rfl | omega)⟩
theorem d9_row_12 : decode c9_row 12 = .ok (.iload_n 2, 1) := by decide +kernel
theorem d9_row_13 : decode c9_row 13 = .ok (.ifCond .lt 8, 3) := by decide +kernel
theorem d9_row_16 : decode c9_row 16 = .ok (.iload_n 2, 1) := by decide +kernel
theorem d9_row_17 : decode c9_row 17 = .ok (.iconst 1, 1) := by decide +kernel
theorem d9_row_18 : decode c9_row 18 = .ok (.if_icmp .le 6, 3) := by decide +kernel
theorem d9_row_21 : decode c9_row 21 = .ok (.bipush (-2), 2) := by decide +kernel
theorem d9_row_23 : decode c9_row 23 = .ok (.ireturn, 1) := by decide +kernel
theorem d9_row_24 : decode c9_row 24 = .ok (.aload_n 3, 1) := by decide +kernel
theorem d9_row_25 : decode c9_row 25 = .ok (.getfield 188, 3) := by decide +kernel
theorem d9_row_28 : decode c9_row 28 = .ok (.bipush 6, 2) := by decide +kernel
theorem d9_row_30 : decode c9_row 30 = .ok (.if_icmp .eq 6, 3) := by decide +kernel
theorem d9_row_33 : decode c9_row 33 = .ok (.bipush (-3), 2) := by decide +kernel
theorem d9_row_35 : decode c9_row 35 = .ok (.ireturn, 1) := by decide +kernel
theorem d9_row_36 : decode c9_row 36 = .ok (.aload_n 3, 1) := by decide +kernel
theorem d9_row_37 : decode c9_row 37 = .ok (.iload_n 2, 1) := by decide +kernel
theorem d9_row_38 : decode c9_row 38 = .ok (.invokevirtual 191, 3) := by decide +kernel
theorem d9_row_41 : decode c9_row 41 = .ok (.ifCond .eq 10, 3) := by decide +kernel
theorem d9_row_44 : decode c9_row 44 = .ok (.aload_n 3, 1) := by decide +kernel
theorem d9_row_45 : decode c9_row 45 = .ok (.getfield 194, 3) := by decide +kernel
theorem d9_row_48 : decode c9_row 48 = .ok (.goto 5, 3) := by decide +kernel
theorem d9_row_51 : decode c9_row 51 = .ok (.bipush (-4), 2) := by decide +kernel
theorem d9_row_53 : decode c9_row 53 = .ok (.ireturn, 1) := by decide +kernel
set_option maxHeartbeats 4000000 in
set_option maxRecDepth 100000 in
theorem k9_rowc (l : Launch) (E : En) (xo : Nat) (xa : Nat → Nat) (X : Nat → Int) (rk : Nat → Option Nat) (ra : Nat) (rr : Nat) (len : Nat) (R : Nat → Int) (rw : Int → Int) (q : Int) (n : Int) (r_q : R32 q) (r_n : R32 n) (hrq : 0 ≤ q ∧ q < X 5 ∧ X 5 ≤ 12) (hrk : rk q.toNat = some ra) (hR0 : 0 ≤ R 0 ∧ R 0 ≤ 6) (hR4 : 0 ≤ R 4 ∧ R 4 ≤ (len : Int) ∧ (len : Int) ≤ 12) : Cm l E y9_row c9_row 4 (some .int) { frames := 1, cells := 0, slots := 0, locals := 21 } [.ref xo, .int (iZ q), .int (iZ n)] [(xo, xO xa X), (xa 4, aRef E 4 12 rk), (ra, o4 (some rr) R), (rr, aInt E len rw)] (fun r ws => ∃ (v : Int), ∃ (R1 : Nat → Int), ∃ (rw1 : Int → Int), r = some (.int (iZ v)) ∧ ws = [(xo, xO xa X), (xa 4, aRef E 4 12 rk), (ra, o4 (some rr) R1), (rr, aInt E len rw1)] ∧ (((0 ≤ n ∧ n ≤ 1) ∧ R 0 = 6 ∧ R 4 < (len : Int) ∧ v = R 4 + 1 ∧ R1 = upS R 4 (R 4 + 1) ∧ rw1 = upI rw (R 4) n) ∨ (¬ ((0 ≤ n ∧ n ≤ 1) ∧ R 0 = 6 ∧ R 4 < (len : Int)) ∧ v = (if 0 ≤ n ∧ n ≤ 1 then (if R 0 = 6 then -4 else -3) else -2) ∧ R1 = R ∧ rw1 = rw))) := by
  refine Cm.of (by decide +kernel) (Nat.le_of_ble_eq_true rfl) (fun Γ A hl hargs hin G F => ?_)
  subst hl
  refine j_aload_n G 0 rfl d9_row_0 ?_
  refine j_iload_n G 1 rfl d9_row_1 ?_
  refine j_VP G (k9_ruleAtc (xl Γ) E xo xa X rk ra q (by first | assumption | omega | (simp only [upS, reduceIte, Nat.reduceEqDiff, eq_self, List.length_cons, List.length_nil, List.length_append] <;> omega)) (by first | assumption | omega | (simp only [upS, reduceIte, Nat.reduceEqDiff, eq_self, List.length_cons, List.length_nil, List.length_append] <;> omega)) (by first | assumption | omega | (simp only [upS, reduceIte, Nat.reduceEqDiff, eq_self, List.length_cons, List.length_nil, List.length_append] <;> omega))) mw9_ruleAt ml9_184 [0, 1] rfl 0 9 rfl rfl rfl ⟨Nat.le_of_ble_eq_true rfl, Nat.le_of_ble_eq_true rfl⟩ rfl (rest := []) rfl (Nat.le_of_ble_eq_true rfl) d9_row_2 ⟨Nat.le_of_ble_eq_true rfl, Nat.le_of_ble_eq_true rfl⟩ (fun r hr => ?_)
  obtain ⟨rfl, hq1⟩ := hr
  refine j_astore_n G d9_row_5 (by decide) rfl ?_
  refine j_aload_n G 0 rfl d9_row_6 ?_
  refine j_ifnonnull (tgt := 12) G d9_row_7 (by decide) ?_
  refine j_iload_n G 3 rfl d9_row_12 ?_
  refine j_if_lt (tgt := 21) G d9_row_13 (by decide) (by omega) (fun h2 => ?_) (fun h2 => ?_)
  ·
    refine j_bipush G d9_row_21 rfl ?_
    exact j_iret G F d9_row_23 ⟨(-2), R, rw, rfl, rfl, (by first | (left; exact ⟨by omega, by omega, hz1, hz4.symm, hz2, hz3⟩) | (right; refine ⟨by omega, ?_, by first | rfl | exact hz2, by first | rfl | exact hz3⟩; (repeat' split) <;> omega))⟩
  ·
    refine j_iload_n G 3 rfl d9_row_16 ?_
    refine j_iconst G d9_row_17 ?_
    refine j_icmp_le (tgt := 24) G d9_row_18 (by decide) (by omega) (by decide) (fun h3 => ?_) (fun h3 => ?_)
    ·
      refine j_aload_n G 0 rfl d9_row_24 ?_
      refine j_get G 2 4 0 in4 fl9_188 d9_row_25 rfl rfl (by decide) (v := .int (iZ (R 0))) rfl rfl ?_
      refine j_bipush G d9_row_28 rfl ?_
      refine j_icmp_eq (tgt := 36) G d9_row_30 (by decide) (by omega) (by decide) (fun h4 => ?_) (fun h4 => ?_)
      ·
        refine j_aload_n G 0 rfl d9_row_36 ?_
        refine j_iload_n G 3 rfl d9_row_37 ?_
        refine j_VM G (rm' := { frames := 0, cells := 0, slots := 0, locals := 0 }) (wc := [(ra, o4 (some rr) R), (rr, aInt E len rw)]) (wr := [(xo, xO xa X), (xa 4, aRef E 4 12 rk)]) (k4_hear (xl Γ) E ra rr R len rw n (by first | assumption | omega | (simp only [upS, reduceIte, Nat.reduceEqDiff, eq_self, List.length_cons, List.length_nil, List.length_append] <;> omega)) (by first | assumption | omega | (simp only [upS, reduceIte, Nat.reduceEqDiff, eq_self, List.length_cons, List.length_nil, List.length_append] <;> omega))) mw4_hear ml9_191 [2, 3] [0, 1] rfl rfl ⟨rfl, rfl⟩ (by decide) 2 4 rfl rfl rfl ⟨Nat.le_of_ble_eq_true rfl, Nat.le_of_ble_eq_true rfl⟩ rfl (rest := []) rfl (Nat.le_of_ble_eq_true rfl) d9_row_38 ⟨Nat.le_of_ble_eq_true rfl, Nat.le_of_ble_eq_true rfl⟩ (fun r w1 hr => ?_)
        obtain ⟨v6, R1_7, rw1_8, rfl, rfl, hq5⟩ := hr
        refine j_eq (ws' := [(xo, xO xa X), (xa 4, aRef E 4 12 rk), (ra, o4 (some rr) R1_7), (rr, aInt E len rw1_8)]) rfl rfl rfl ?_
        rcases hq5 with ⟨hq5, rfl⟩ | ⟨hq5, rfl⟩
        ·
          have hs38 := hq5
          refine j_if_eq (tgt := 51) G d9_row_41 (by decide) (by decide) (fun h9 => absurd h9 (by decide)) (fun h9 => ?_)
          obtain ⟨hz1, hz2, hz3⟩ := hs38
          have hz4 : R 4 + 1 = _ := (upS_eq (g := R) (i := 4) (v := R 4 + 1)).symm
          rw [← hz2] at hz4
          refine j_aload_n G 0 rfl d9_row_44 ?_
          refine j_getN G 2 4 4 in4 fn9_194 d9_row_45 rfl rfl (by decide) (v := .int (iZ (R1_7 4))) rfl rfl ?_
          refine j_goto (tgt := 53) G d9_row_48 (by decide) ?_
          exact j_iret G F d9_row_53 ⟨R1_7 4, R1_7, rw1_8, rfl, rfl, (by first | (left; exact ⟨by omega, by omega, hz1, hz4.symm, hz2, hz3⟩) | (right; refine ⟨by omega, ?_, by first | rfl | exact hz2, by first | rfl | exact hz3⟩; (repeat' split) <;> omega))⟩
        ·
          have hs38 := hq5
          refine j_if_eq (tgt := 51) G d9_row_41 (by decide) (by decide) (fun h10 => ?_) (fun h10 => absurd h10 (by decide))
          obtain ⟨hz1, hz2, hz3⟩ := hs38
          refine j_bipush G d9_row_51 rfl ?_
          exact j_iret G F d9_row_53 ⟨(-4), R1_7, rw1_8, rfl, rfl, (by first | (left; exact ⟨by omega, by omega, hz1, hz4.symm, hz2, hz3⟩) | (right; refine ⟨by omega, ?_, by first | rfl | exact hz2, by first | rfl | exact hz3⟩; (repeat' split) <;> omega))⟩
      ·
        refine j_bipush G d9_row_33 rfl ?_
        exact j_iret G F d9_row_35 ⟨(-3), R, rw, rfl, rfl, (by first | (left; exact ⟨by omega, by omega, hz1, hz4.symm, hz2, hz3⟩) | (right; refine ⟨by omega, ?_, by first | rfl | exact hz2, by first | rfl | exact hz3⟩; (repeat' split) <;> omega))⟩
    ·
      refine j_bipush G d9_row_21 rfl ?_
      exact j_iret G F d9_row_23 ⟨(-2), R, rw, rfl, rfl, (by first | (left; exact ⟨by omega, by omega, hz1, hz4.symm, hz2, hz3⟩) | (right; refine ⟨by omega, ?_, by first | rfl | exact hz2, by first | rfl | exact hz3⟩; (repeat' split) <;> omega))⟩
theorem d9_offer_0 : decode c9_offer 0 = .ok (.iload_n 1, 1) := by decide +kernel
theorem d9_offer_1 : decode c9_offer 1 = .ok (.ifCond .lt 8, 3) := by decide +kernel
theorem d9_offer_4 : decode c9_offer 4 = .ok (.iload_n 1, 1) := by decide +kernel
theorem d9_offer_5 : decode c9_offer 5 = .ok (.iconst 3, 1) := by decide +kernel
theorem d9_offer_6 : decode c9_offer 6 = .ok (.if_icmp .le 5, 3) := by decide +kernel
theorem d9_offer_9 : decode c9_offer 9 = .ok (.iconst (-1), 1) := by decide +kernel
theorem d9_offer_10 : decode c9_offer 10 = .ok (.ireturn, 1) := by decide +kernel
theorem d9_offer_11 : decode c9_offer 11 = .ok (.iload_n 2, 1) := by decide +kernel
theorem d9_offer_12 : decode c9_offer 12 = .ok (.iconst 1, 1) := by decide +kernel
theorem d9_offer_13 : decode c9_offer 13 = .ok (.if_icmp .lt 19, 3) := by decide +kernel
theorem d9_offer_16 : decode c9_offer 16 = .ok (.iload_n 2, 1) := by decide +kernel
theorem d9_offer_17 : decode c9_offer 17 = .ok (.bipush 20, 2) := by decide +kernel
theorem d9_offer_19 : decode c9_offer 19 = .ok (.if_icmp .gt 13, 3) := by decide +kernel
theorem d9_offer_22 : decode c9_offer 22 = .ok (.iload_n 3, 1) := by decide +kernel
theorem d9_offer_23 : decode c9_offer 23 = .ok (.ifCond .lt 9, 3) := by decide +kernel
theorem d9_offer_26 : decode c9_offer 26 = .ok (.iload_n 3, 1) := by decide +kernel
theorem d9_offer_27 : decode c9_offer 27 = .ok (.bipush 99, 2) := by decide +kernel
theorem d9_offer_29 : decode c9_offer 29 = .ok (.if_icmp .le 6, 3) := by decide +kernel
theorem d9_offer_32 : decode c9_offer 32 = .ok (.bipush (-2), 2) := by decide +kernel
theorem d9_offer_34 : decode c9_offer 34 = .ok (.ireturn, 1) := by decide +kernel
theorem d9_offer_35 : decode c9_offer 35 = .ok (.aload_n 0, 1) := by decide +kernel
theorem d9_offer_36 : decode c9_offer 36 = .ok (.getfield 30, 3) := by decide +kernel
theorem d9_offer_39 : decode c9_offer 39 = .ok (.getfield 251, 3) := by decide +kernel
theorem d9_offer_42 : decode c9_offer 42 = .ok (.iconst 4, 1) := by decide +kernel
theorem d9_offer_43 : decode c9_offer 43 = .ok (.if_icmp .lt 6, 3) := by decide +kernel
theorem d9_offer_46 : decode c9_offer 46 = .ok (.bipush (-4), 2) := by decide +kernel
theorem d9_offer_48 : decode c9_offer 48 = .ok (.ireturn, 1) := by decide +kernel
theorem d9_offer_49 : decode c9_offer 49 = .ok (.aload_n 0, 1) := by decide +kernel
theorem d9_offer_50 : decode c9_offer 50 = .ok (.getfield 30, 3) := by decide +kernel
theorem d9_offer_53 : decode c9_offer 53 = .ok (.getfield 254, 3) := by decide +kernel
theorem d9_offer_56 : decode c9_offer 56 = .ok (.aload_n 0, 1) := by decide +kernel
theorem d9_offer_57 : decode c9_offer 57 = .ok (.getfield 30, 3) := by decide +kernel
theorem d9_offer_60 : decode c9_offer 60 = .ok (.getfield 251, 3) := by decide +kernel
theorem d9_offer_63 : decode c9_offer 63 = .ok (.iload_n 1, 1) := by decide +kernel
theorem d9_offer_64 : decode c9_offer 64 = .ok (.iastore, 1) := by decide +kernel
theorem d9_offer_65 : decode c9_offer 65 = .ok (.aload_n 0, 1) := by decide +kernel
theorem d9_offer_66 : decode c9_offer 66 = .ok (.getfield 30, 3) := by decide +kernel
theorem d9_offer_69 : decode c9_offer 69 = .ok (.getfield 257, 3) := by decide +kernel
theorem d9_offer_72 : decode c9_offer 72 = .ok (.aload_n 0, 1) := by decide +kernel
theorem d9_offer_73 : decode c9_offer 73 = .ok (.getfield 30, 3) := by decide +kernel
theorem d9_offer_76 : decode c9_offer 76 = .ok (.getfield 251, 3) := by decide +kernel
theorem d9_offer_79 : decode c9_offer 79 = .ok (.iload_n 2, 1) := by decide +kernel
theorem d9_offer_80 : decode c9_offer 80 = .ok (.iastore, 1) := by decide +kernel
theorem d9_offer_81 : decode c9_offer 81 = .ok (.aload_n 0, 1) := by decide +kernel
theorem d9_offer_82 : decode c9_offer 82 = .ok (.getfield 30, 3) := by decide +kernel
theorem d9_offer_85 : decode c9_offer 85 = .ok (.getfield 260, 3) := by decide +kernel
theorem d9_offer_88 : decode c9_offer 88 = .ok (.aload_n 0, 1) := by decide +kernel
theorem d9_offer_89 : decode c9_offer 89 = .ok (.getfield 30, 3) := by decide +kernel
theorem d9_offer_92 : decode c9_offer 92 = .ok (.getfield 251, 3) := by decide +kernel
theorem d9_offer_95 : decode c9_offer 95 = .ok (.iload_n 3, 1) := by decide +kernel
theorem d9_offer_96 : decode c9_offer 96 = .ok (.iastore, 1) := by decide +kernel
theorem d9_offer_97 : decode c9_offer 97 = .ok (.aload_n 0, 1) := by decide +kernel
theorem d9_offer_98 : decode c9_offer 98 = .ok (.getfield 30, 3) := by decide +kernel
theorem d9_offer_101 : decode c9_offer 101 = .ok (.dup, 1) := by decide +kernel
theorem d9_offer_102 : decode c9_offer 102 = .ok (.getfield 251, 3) := by decide +kernel
theorem d9_offer_105 : decode c9_offer 105 = .ok (.iconst 1, 1) := by decide +kernel
theorem d9_offer_106 : decode c9_offer 106 = .ok (.iadd, 1) := by decide +kernel
theorem d9_offer_107 : decode c9_offer 107 = .ok (.putfield 251, 3) := by decide +kernel
theorem d9_offer_110 : decode c9_offer 110 = .ok (.aload_n 0, 1) := by decide +kernel
theorem d9_offer_111 : decode c9_offer 111 = .ok (.getfield 30, 3) := by decide +kernel
theorem d9_offer_114 : decode c9_offer 114 = .ok (.getfield 251, 3) := by decide +kernel
theorem d9_offer_117 : decode c9_offer 117 = .ok (.iconst 1, 1) := by decide +kernel
theorem d9_offer_118 : decode c9_offer 118 = .ok (.isub, 1) := by decide +kernel
theorem d9_offer_119 : decode c9_offer 119 = .ok (.ireturn, 1) := by decide +kernel
theorem mw9_offer : MV y9_offer c9_offer 4 (some .int) 3 := ⟨cd9_offer, ini9, na9_offer, im9_offer, se9_offer⟩
set_option maxHeartbeats 4000000 in
set_option maxRecDepth 100000 in
theorem k9_offer (l : Launch) (E : En) (xo : Nat) (xa : Nat → Nat) (X : Nat → Int) (U : Nat → Int) (so : Int → Int) (si : Int → Int) (pr : Int → Int) (a : Int) (b : Int) (c : Int) (r_a : R32 a) (r_b : R32 b) (r_c : R32 c) (hu7 : 0 ≤ U 7 ∧ U 7 ≤ 4) : Cm l E y9_offer c9_offer 4 (some .int) { frames := 0, cells := 0, slots := 0, locals := 0 } [.ref xo, .int (iZ a), .int (iZ b), .int (iZ c)] [(xo, xO xa X), (xa 6, o5 (some (xa 20)) (some (xa 21)) (some (xa 22)) (some (xa 23)) U), (xa 21, aInt E 4 so), (xa 22, aInt E 4 si), (xa 23, aInt E 4 pr)] (fun r ws => ∃ (v : Int), ∃ (u7 : Int), ∃ (so1 : Int → Int), ∃ (si1 : Int → Int), ∃ (pr1 : Int → Int), r = some (.int (iZ v)) ∧ ws = [(xo, xO xa X), (xa 6, o5 (some (xa 20)) (some (xa 21)) (some (xa 22)) (some (xa 23)) (upS U 7 u7)), (xa 21, aInt E 4 so1), (xa 22, aInt E 4 si1), (xa 23, aInt E 4 pr1)] ∧ (v = offerA (U 7) a b c ∧ ((offerOk (U 7) a b c ∧ u7 = U 7 + 1 ∧ so1 = upI so (U 7) a ∧ si1 = upI si (U 7) b ∧ pr1 = upI pr (U 7) c) ∨ (¬ offerOk (U 7) a b c ∧ u7 = U 7 ∧ so1 = so ∧ si1 = si ∧ pr1 = pr)))) := by
  refine Cm.of (by decide +kernel) (Nat.le_of_ble_eq_true rfl) (fun Γ A hl hargs hin G F => ?_)
  subst hl
  refine j_iload_n G 1 rfl d9_offer_0 ?_
  refine j_if_lt (tgt := 9) G d9_offer_1 (by decide) (by omega) (fun h1 => ?_) (fun h1 => ?_)
  ·
    refine j_iconst G d9_offer_9 ?_
    exact j_iret G F d9_offer_10 ⟨(-1), (U 7), so, si, pr, rfl, rfl, (by exact ⟨by (simp only [offerA]; (repeat' split) <;> omega), by first | (left; exact ⟨by unfold offerOk; omega, by omega, rfl, rfl, rfl⟩) | (right; exact ⟨by unfold offerOk; omega, rfl, rfl, rfl, rfl⟩)⟩)⟩
  ·
    refine j_iload_n G 1 rfl d9_offer_4 ?_
    refine j_iconst G d9_offer_5 ?_
    refine j_icmp_le (tgt := 11) G d9_offer_6 (by decide) (by omega) (by decide) (fun h2 => ?_) (fun h2 => ?_)
    ·
      refine j_iload_n G 2 rfl d9_offer_11 ?_
      refine j_iconst G d9_offer_12 ?_
      refine j_icmp_lt (tgt := 32) G d9_offer_13 (by decide) (by omega) (by decide) (fun h3 => ?_) (fun h3 => ?_)
      ·
        refine j_bipush G d9_offer_32 rfl ?_
        exact j_iret G F d9_offer_34 ⟨(-2), (U 7), so, si, pr, rfl, rfl, (by exact ⟨by (simp only [offerA]; (repeat' split) <;> omega), by first | (left; exact ⟨by unfold offerOk; omega, by omega, rfl, rfl, rfl⟩) | (right; exact ⟨by unfold offerOk; omega, rfl, rfl, rfl, rfl⟩)⟩)⟩
      ·
        refine j_iload_n G 2 rfl d9_offer_16 ?_
        refine j_bipush G d9_offer_17 rfl ?_
        refine j_icmp_gt (tgt := 32) G d9_offer_19 (by decide) (by omega) (by decide) (fun h4 => ?_) (fun h4 => ?_)
        ·
          refine j_bipush G d9_offer_32 rfl ?_
          exact j_iret G F d9_offer_34 ⟨(-2), (U 7), so, si, pr, rfl, rfl, (by exact ⟨by (simp only [offerA]; (repeat' split) <;> omega), by first | (left; exact ⟨by unfold offerOk; omega, by omega, rfl, rfl, rfl⟩) | (right; exact ⟨by unfold offerOk; omega, rfl, rfl, rfl, rfl⟩)⟩)⟩
        ·
          refine j_iload_n G 3 rfl d9_offer_22 ?_
          refine j_if_lt (tgt := 32) G d9_offer_23 (by decide) (by omega) (fun h5 => ?_) (fun h5 => ?_)
          ·
            refine j_bipush G d9_offer_32 rfl ?_
            exact j_iret G F d9_offer_34 ⟨(-2), (U 7), so, si, pr, rfl, rfl, (by exact ⟨by (simp only [offerA]; (repeat' split) <;> omega), by first | (left; exact ⟨by unfold offerOk; omega, by omega, rfl, rfl, rfl⟩) | (right; exact ⟨by unfold offerOk; omega, rfl, rfl, rfl, rfl⟩)⟩)⟩
          ·
            refine j_iload_n G 3 rfl d9_offer_26 ?_
            refine j_bipush G d9_offer_27 rfl ?_
            refine j_icmp_le (tgt := 35) G d9_offer_29 (by decide) (by omega) (by decide) (fun h6 => ?_) (fun h6 => ?_)
            ·
              refine j_aload_n G 0 rfl d9_offer_35 ?_
              refine j_get G 0 9 6 in9 fl9_30 d9_offer_36 rfl rfl (by decide) (v := .ref (xa 6)) rfl rfl ?_
              refine j_get G 1 5 7 in5 fl9_251 d9_offer_39 rfl rfl (by decide) (v := .int (iZ (U 7))) rfl rfl ?_
              refine j_iconst G d9_offer_42 ?_
              refine j_icmp_lt (tgt := 49) G d9_offer_43 (by decide) (by omega) (by decide) (fun h7 => ?_) (fun h7 => ?_)
              ·
                refine j_aload_n G 0 rfl d9_offer_49 ?_
                refine j_get G 0 9 6 in9 fl9_30 d9_offer_50 rfl rfl (by decide) (v := .ref (xa 6)) rfl rfl ?_
                refine j_get G 1 5 4 in5 fl9_254 d9_offer_53 rfl rfl (by decide) (v := .ref (xa 21)) rfl rfl ?_
                refine j_aload_n G 0 rfl d9_offer_56 ?_
                refine j_get G 0 9 6 in9 fl9_30 d9_offer_57 rfl rfl (by decide) (v := .ref (xa 6)) rfl rfl ?_
                refine j_get G 1 5 7 in5 fl9_251 d9_offer_60 rfl rfl (by decide) (v := .int (iZ (U 7))) rfl rfl ?_
                refine j_iload_n G 1 rfl d9_offer_63 ?_
                refine j_iast G 2 rfl (by omega) d9_offer_64 ?_
                refine j_aload_n G 0 rfl d9_offer_65 ?_
                refine j_get G 0 9 6 in9 fl9_30 d9_offer_66 rfl rfl (by decide) (v := .ref (xa 6)) rfl rfl ?_
                refine j_get G 1 5 5 in5 fl9_257 d9_offer_69 rfl rfl (by decide) (v := .ref (xa 22)) rfl rfl ?_
                refine j_aload_n G 0 rfl d9_offer_72 ?_
                refine j_get G 0 9 6 in9 fl9_30 d9_offer_73 rfl rfl (by decide) (v := .ref (xa 6)) rfl rfl ?_
                refine j_get G 1 5 7 in5 fl9_251 d9_offer_76 rfl rfl (by decide) (v := .int (iZ (U 7))) rfl rfl ?_
                refine j_iload_n G 2 rfl d9_offer_79 ?_
                refine j_iast G 3 rfl (by omega) d9_offer_80 ?_
                refine j_aload_n G 0 rfl d9_offer_81 ?_
                refine j_get G 0 9 6 in9 fl9_30 d9_offer_82 rfl rfl (by decide) (v := .ref (xa 6)) rfl rfl ?_
                refine j_get G 1 5 6 in5 fl9_260 d9_offer_85 rfl rfl (by decide) (v := .ref (xa 23)) rfl rfl ?_
                refine j_aload_n G 0 rfl d9_offer_88 ?_
                refine j_get G 0 9 6 in9 fl9_30 d9_offer_89 rfl rfl (by decide) (v := .ref (xa 6)) rfl rfl ?_
                refine j_get G 1 5 7 in5 fl9_251 d9_offer_92 rfl rfl (by decide) (v := .int (iZ (U 7))) rfl rfl ?_
                refine j_iload_n G 3 rfl d9_offer_95 ?_
                refine j_iast G 4 rfl (by omega) d9_offer_96 ?_
                refine j_aload_n G 0 rfl d9_offer_97 ?_
                refine j_get G 0 9 6 in9 fl9_30 d9_offer_98 rfl rfl (by decide) (v := .ref (xa 6)) rfl rfl ?_
                refine j_dup G d9_offer_101 rfl ?_
                refine j_get G 1 5 7 in5 fl9_251 d9_offer_102 rfl rfl (by decide) (v := .int (iZ (U 7))) rfl rfl ?_
                refine j_iconst G d9_offer_105 ?_
                refine j_iadd G d9_offer_106 ?_
                refine j_put G 1 5 7 in5 tyok5 nm5 fl9_251 d9_offer_107 rfl rfl (by decide) ⟨rfl, rfl⟩ rfl rfl (Nat.le_of_ble_eq_true rfl) (e := o5 (some (xa 20)) (some (xa 21)) (some (xa 22)) (some (xa 23)) (upS U 7 ((U 7) + 1))) rfl ?_
                refine j_aload_n G 0 rfl d9_offer_110 ?_
                refine j_get G 0 9 6 in9 fl9_30 d9_offer_111 rfl rfl (by decide) (v := .ref (xa 6)) rfl rfl ?_
                refine j_get G 1 5 7 in5 fl9_251 d9_offer_114 rfl rfl (by decide) (v := .int (iZ ((U 7) + 1))) rfl rfl ?_
                refine j_iconst G d9_offer_117 ?_
                refine j_isub G d9_offer_118 ?_
                exact j_iret G F d9_offer_119 ⟨((U 7) + 1) - 1, ((U 7) + 1), (upI so (U 7) a), (upI si (U 7) b), (upI pr (U 7) c), rfl, rfl, (by exact ⟨by (simp only [offerA]; (repeat' split) <;> omega), by first | (left; exact ⟨by unfold offerOk; omega, by omega, rfl, rfl, rfl⟩) | (right; exact ⟨by unfold offerOk; omega, rfl, rfl, rfl, rfl⟩)⟩)⟩
              ·
                refine j_bipush G d9_offer_46 rfl ?_
                exact j_iret G F d9_offer_48 ⟨(-4), (U 7), so, si, pr, rfl, rfl, (by exact ⟨by (simp only [offerA]; (repeat' split) <;> omega), by first | (left; exact ⟨by unfold offerOk; omega, by omega, rfl, rfl, rfl⟩) | (right; exact ⟨by unfold offerOk; omega, rfl, rfl, rfl, rfl⟩)⟩)⟩
            ·
              refine j_bipush G d9_offer_32 rfl ?_
              exact j_iret G F d9_offer_34 ⟨(-2), (U 7), so, si, pr, rfl, rfl, (by exact ⟨by (simp only [offerA]; (repeat' split) <;> omega), by first | (left; exact ⟨by unfold offerOk; omega, by omega, rfl, rfl, rfl⟩) | (right; exact ⟨by unfold offerOk; omega, rfl, rfl, rfl, rfl⟩)⟩)⟩
    ·
      refine j_iconst G d9_offer_9 ?_
      exact j_iret G F d9_offer_10 ⟨(-1), (U 7), so, si, pr, rfl, rfl, (by exact ⟨by (simp only [offerA]; (repeat' split) <;> omega), by first | (left; exact ⟨by unfold offerOk; omega, by omega, rfl, rfl, rfl⟩) | (right; exact ⟨by unfold offerOk; omega, rfl, rfl, rfl, rfl⟩)⟩)⟩
theorem d9_image_0 : decode c9_image 0 = .ok (.aload_n 0, 1) := by decide +kernel
theorem d9_image_1 : decode c9_image 1 = .ok (.getfield 34, 3) := by decide +kernel
theorem d9_image_4 : decode c9_image 4 = .ok (.aload_n 0, 1) := by decide +kernel
theorem d9_image_5 : decode c9_image 5 = .ok (.getfield 30, 3) := by decide +kernel
theorem d9_image_8 : decode c9_image 8 = .ok (.invokevirtual 284, 3) := by decide +kernel
theorem d9_image_11 : decode c9_image 11 = .ok (.aload_n 0, 1) := by decide +kernel
theorem d9_image_12 : decode c9_image 12 = .ok (.iconst 1, 1) := by decide +kernel
theorem d9_image_13 : decode c9_image 13 = .ok (.putfield 288, 3) := by decide +kernel
theorem d9_image_16 : decode c9_image 16 = .ok (.aload_n 0, 1) := by decide +kernel
theorem d9_image_17 : decode c9_image 17 = .ok (.getfield 30, 3) := by decide +kernel
theorem d9_image_20 : decode c9_image 20 = .ok (.getfield 175, 3) := by decide +kernel
theorem d9_image_23 : decode c9_image 23 = .ok (.ireturn, 1) := by decide +kernel
theorem mw9_image : MV y9_image c9_image 1 (some .int) 0 := ⟨cd9_image, ini9, na9_image, im9_image, se9_image⟩
set_option maxHeartbeats 4000000 in
set_option maxRecDepth 100000 in
theorem k9_image (l : Launch) (E : En) (xo : Nat) (xa : Nat → Nat) (X : Nat → Int) (U : Nat → Int) (V : Nat → Int) (co : Int → Int) (so : Int → Int) (si : Int → Int) (pr : Int → Int) (co2 : Int → Int) (so2 : Int → Int) (si2 : Int → Int) (pr2 : Int → Int) (hU1 : U 1 = 0 ∨ U 1 = 1) : Cm l E y9_image c9_image 1 (some .int) { frames := 2, cells := 0, slots := 0, locals := 81 } [.ref xo] [(xo, xO xa X), (xa 6, o5 (some (xa 20)) (some (xa 21)) (some (xa 22)) (some (xa 23)) U), (xa 20, aInt E 24 co), (xa 21, aInt E 4 so), (xa 22, aInt E 4 si), (xa 23, aInt E 4 pr), (xa 7, o5 (some (xa 24)) (some (xa 25)) (some (xa 26)) (some (xa 27)) V), (xa 24, aInt E 24 co2), (xa 25, aInt E 4 so2), (xa 26, aInt E 4 si2), (xa 27, aInt E 4 pr2)] (fun r ws => ∃ (v : Int), r = some (.int (iZ v)) ∧ ws = [(xo, xO xa (upS X 8 1)), (xa 6, o5 (some (xa 20)) (some (xa 21)) (some (xa 22)) (some (xa 23)) U), (xa 20, aInt E 24 co), (xa 21, aInt E 4 so), (xa 22, aInt E 4 si), (xa 23, aInt E 4 pr), (xa 7, o5 (some (xa 24)) (some (xa 25)) (some (xa 26)) (some (xa 27)) (upS (upS (upS (upS V 1 (U 1)) 2 (U 2)) 3 (U 3)) 7 (U 7))), (xa 24, aInt E 24 co), (xa 25, aInt E 4 so), (xa 26, aInt E 4 si), (xa 27, aInt E 4 pr)] ∧ (v = U 2)) := by
  refine Cm.of (by decide +kernel) (Nat.le_of_ble_eq_true rfl) (fun Γ A hl hargs hin G F => ?_)
  subst hl
  refine j_aload_n G 0 rfl d9_image_0 ?_
  refine j_get G 0 9 7 in9 fl9_34 d9_image_1 rfl rfl (by decide) (v := .ref (xa 7)) rfl rfl ?_
  refine j_aload_n G 0 rfl d9_image_4 ?_
  refine j_get G 0 9 6 in9 fl9_30 d9_image_5 rfl rfl (by decide) (v := .ref (xa 6)) rfl rfl ?_
  refine j_VM G (rm' := { frames := 1, cells := 0, slots := 0, locals := 60 }) (wc := [(xa 7, o5 (some (xa 24)) (some (xa 25)) (some (xa 26)) (some (xa 27)) V), (xa 24, aInt E 24 co2), (xa 25, aInt E 4 so2), (xa 26, aInt E 4 si2), (xa 27, aInt E 4 pr2), (xa 6, o5 (some (xa 20)) (some (xa 21)) (some (xa 22)) (some (xa 23)) U), (xa 20, aInt E 24 co), (xa 21, aInt E 4 so), (xa 22, aInt E 4 si), (xa 23, aInt E 4 pr)]) (wr := [(xo, xO xa X)]) (k5_becomeLike (xl Γ) E (xa 7) (xa 24) (xa 25) (xa 26) (xa 27) V (xa 6) (xa 20) (xa 21) (xa 22) (xa 23) U co2 so2 si2 pr2 co so si pr (by first | assumption | omega | (simp only [upS, reduceIte, Nat.reduceEqDiff, eq_self, List.length_cons, List.length_nil, List.length_append] <;> omega))) mw5_becomeLike ml9_284 [6, 7, 8, 9, 10, 1, 2, 3, 4, 5] [0] rfl rfl ⟨rfl, rfl⟩ (by decide) 6 5 rfl rfl rfl ⟨Nat.le_of_ble_eq_true rfl, Nat.le_of_ble_eq_true rfl⟩ rfl (rest := []) rfl (Nat.le_of_ble_eq_true rfl) d9_image_8 ⟨Nat.le_of_ble_eq_true rfl, Nat.le_of_ble_eq_true rfl⟩ (fun r w1 hr => ?_)
  obtain ⟨rfl, rfl, hq1⟩ := hr
  refine j_eq (ws' := [(xo, xO xa X), (xa 7, o5 (some (xa 24)) (some (xa 25)) (some (xa 26)) (some (xa 27)) (upS (upS (upS (upS V 1 (U 1)) 2 (U 2)) 3 (U 3)) 7 (U 7))), (xa 24, aInt E 24 co), (xa 25, aInt E 4 so), (xa 26, aInt E 4 si), (xa 27, aInt E 4 pr), (xa 6, o5 (some (xa 20)) (some (xa 21)) (some (xa 22)) (some (xa 23)) U), (xa 20, aInt E 24 co), (xa 21, aInt E 4 so), (xa 22, aInt E 4 si), (xa 23, aInt E 4 pr)]) rfl rfl rfl ?_
  refine j_aload_n G 0 rfl d9_image_11 ?_
  refine j_iconst G d9_image_12 ?_
  refine j_put G 0 9 8 in9 tyok9 nm9 fl9_288 d9_image_13 rfl rfl (by decide) ⟨rfl, rfl⟩ rfl rfl (Nat.le_of_ble_eq_true rfl) (e := xO xa (upS X 8 1)) rfl ?_
  refine j_aload_n G 0 rfl d9_image_16 ?_
  refine j_get G 0 9 6 in9 fl9_30 d9_image_17 rfl rfl (by decide) (v := .ref (xa 6)) rfl rfl ?_
  refine j_get G 6 5 2 in5 fl9_175 d9_image_20 rfl rfl (by decide) (v := .int (iZ (U 2))) rfl rfl ?_
  refine j_perm (ws' := [(xo, xO xa (upS X 8 1)), (xa 6, o5 (some (xa 20)) (some (xa 21)) (some (xa 22)) (some (xa 23)) U), (xa 20, aInt E 24 co), (xa 21, aInt E 4 so), (xa 22, aInt E 4 si), (xa 23, aInt E 4 pr), (xa 7, o5 (some (xa 24)) (some (xa 25)) (some (xa 26)) (some (xa 27)) (upS (upS (upS (upS V 1 (U 1)) 2 (U 2)) 3 (U 3)) 7 (U 7))), (xa 24, aInt E 24 co), (xa 25, aInt E 4 so), (xa 26, aInt E 4 si), (xa 27, aInt E 4 pr)]) [0, 6, 7, 8, 9, 10, 1, 2, 3, 4, 5] rfl rfl rfl ?_
  exact j_iret G F d9_image_23 ⟨U 2, rfl, rfl, (by rfl)⟩
theorem d9_undo_0 : decode c9_undo 0 = .ok (.aload_n 0, 1) := by decide +kernel
theorem d9_undo_1 : decode c9_undo 1 = .ok (.getfield 288, 3) := by decide +kernel
theorem d9_undo_4 : decode c9_undo 4 = .ok (.ifCond .ne 6, 3) := by decide +kernel
theorem d9_undo_7 : decode c9_undo 7 = .ok (.bipush (-3), 2) := by decide +kernel
theorem d9_undo_9 : decode c9_undo 9 = .ok (.ireturn, 1) := by decide +kernel
theorem mw9_undo : MV y9_undo c9_undo 1 (some .int) 0 := ⟨cd9_undo, ini9, na9_undo, im9_undo, se9_undo⟩
set_option maxHeartbeats 4000000 in
set_option maxRecDepth 100000 in
theorem k9_undon (l : Launch) (E : En) (xo : Nat) (xa : Nat → Nat) (X : Nat → Int) (hx8 : X 8 = 0) : Cp l E y9_undo c9_undo 1 (some .int) 0 0 [.ref xo] [(xo, xO xa X)] (fun r => ∃ (v : Int), r = some (.int (iZ v)) ∧ (v = -3)) := by
  refine Cp.of (by decide +kernel) (Nat.le_of_ble_eq_true rfl) (fun Γ hl hargs G F => ?_)
  subst hl
  refine j_aload_n G 0 rfl d9_undo_0 ?_
  refine j_get G 0 9 8 in9 fl9_288 d9_undo_1 rfl rfl (by decide) (v := .int (iZ (X 8))) rfl rfl ?_
  refine j_if_ne (tgt := 10) G d9_undo_4 (by decide) (by omega) (fun h1 => ?_) (fun h1 => ?_)
  ·
    exact absurd h1 (by omega)
  ·
    refine j_bipush G d9_undo_7 rfl ?_
    exact j_iret G F d9_undo_9 ⟨(-3), rfl, (by rfl)⟩
theorem d9_undo_10 : decode c9_undo 10 = .ok (.aload_n 0, 1) := by decide +kernel
theorem d9_undo_11 : decode c9_undo 11 = .ok (.getfield 30, 3) := by decide +kernel
theorem d9_undo_14 : decode c9_undo 14 = .ok (.aload_n 0, 1) := by decide +kernel
theorem d9_undo_15 : decode c9_undo 15 = .ok (.getfield 34, 3) := by decide +kernel
theorem d9_undo_18 : decode c9_undo 18 = .ok (.invokevirtual 284, 3) := by decide +kernel
theorem d9_undo_21 : decode c9_undo 21 = .ok (.aload_n 0, 1) := by decide +kernel
theorem d9_undo_22 : decode c9_undo 22 = .ok (.getfield 30, 3) := by decide +kernel
theorem d9_undo_25 : decode c9_undo 25 = .ok (.getfield 175, 3) := by decide +kernel
theorem d9_undo_28 : decode c9_undo 28 = .ok (.ireturn, 1) := by decide +kernel
set_option maxHeartbeats 4000000 in
set_option maxRecDepth 100000 in
theorem k9_undoc (l : Launch) (E : En) (xo : Nat) (xa : Nat → Nat) (X : Nat → Int) (U : Nat → Int) (V : Nat → Int) (co : Int → Int) (so : Int → Int) (si : Int → Int) (pr : Int → Int) (co2 : Int → Int) (so2 : Int → Int) (si2 : Int → Int) (pr2 : Int → Int) (hx8 : X 8 = 1) (hV1 : V 1 = 0 ∨ V 1 = 1) : Cm l E y9_undo c9_undo 1 (some .int) { frames := 2, cells := 0, slots := 0, locals := 81 } [.ref xo] [(xo, xO xa X), (xa 6, o5 (some (xa 20)) (some (xa 21)) (some (xa 22)) (some (xa 23)) U), (xa 20, aInt E 24 co), (xa 21, aInt E 4 so), (xa 22, aInt E 4 si), (xa 23, aInt E 4 pr), (xa 7, o5 (some (xa 24)) (some (xa 25)) (some (xa 26)) (some (xa 27)) V), (xa 24, aInt E 24 co2), (xa 25, aInt E 4 so2), (xa 26, aInt E 4 si2), (xa 27, aInt E 4 pr2)] (fun r ws => ∃ (v : Int), r = some (.int (iZ v)) ∧ ws = [(xo, xO xa X), (xa 6, o5 (some (xa 20)) (some (xa 21)) (some (xa 22)) (some (xa 23)) (upS (upS (upS (upS U 1 (V 1)) 2 (V 2)) 3 (V 3)) 7 (V 7))), (xa 20, aInt E 24 co2), (xa 21, aInt E 4 so2), (xa 22, aInt E 4 si2), (xa 23, aInt E 4 pr2), (xa 7, o5 (some (xa 24)) (some (xa 25)) (some (xa 26)) (some (xa 27)) V), (xa 24, aInt E 24 co2), (xa 25, aInt E 4 so2), (xa 26, aInt E 4 si2), (xa 27, aInt E 4 pr2)] ∧ (v = V 2)) := by
  refine Cm.of (by decide +kernel) (Nat.le_of_ble_eq_true rfl) (fun Γ A hl hargs hin G F => ?_)
  subst hl
  refine j_aload_n G 0 rfl d9_undo_0 ?_
  refine j_get G 0 9 8 in9 fl9_288 d9_undo_1 rfl rfl (by decide) (v := .int (iZ (X 8))) rfl rfl ?_
  refine j_if_ne (tgt := 10) G d9_undo_4 (by decide) (by omega) (fun h1 => ?_) (fun h1 => ?_)
  ·
    refine j_aload_n G 0 rfl d9_undo_10 ?_
    refine j_get G 0 9 6 in9 fl9_30 d9_undo_11 rfl rfl (by decide) (v := .ref (xa 6)) rfl rfl ?_
    refine j_aload_n G 0 rfl d9_undo_14 ?_
    refine j_get G 0 9 7 in9 fl9_34 d9_undo_15 rfl rfl (by decide) (v := .ref (xa 7)) rfl rfl ?_
    refine j_VM G (rm' := { frames := 1, cells := 0, slots := 0, locals := 60 }) (wc := [(xa 6, o5 (some (xa 20)) (some (xa 21)) (some (xa 22)) (some (xa 23)) U), (xa 20, aInt E 24 co), (xa 21, aInt E 4 so), (xa 22, aInt E 4 si), (xa 23, aInt E 4 pr), (xa 7, o5 (some (xa 24)) (some (xa 25)) (some (xa 26)) (some (xa 27)) V), (xa 24, aInt E 24 co2), (xa 25, aInt E 4 so2), (xa 26, aInt E 4 si2), (xa 27, aInt E 4 pr2)]) (wr := [(xo, xO xa X)]) (k5_becomeLike (xl Γ) E (xa 6) (xa 20) (xa 21) (xa 22) (xa 23) U (xa 7) (xa 24) (xa 25) (xa 26) (xa 27) V co so si pr co2 so2 si2 pr2 (by first | assumption | omega | (simp only [upS, reduceIte, Nat.reduceEqDiff, eq_self, List.length_cons, List.length_nil, List.length_append] <;> omega))) mw5_becomeLike ml9_284 [1, 2, 3, 4, 5, 6, 7, 8, 9, 10] [0] rfl rfl ⟨rfl, rfl⟩ (by decide) 1 5 rfl rfl rfl ⟨Nat.le_of_ble_eq_true rfl, Nat.le_of_ble_eq_true rfl⟩ rfl (rest := []) rfl (Nat.le_of_ble_eq_true rfl) d9_undo_18 ⟨Nat.le_of_ble_eq_true rfl, Nat.le_of_ble_eq_true rfl⟩ (fun r w1 hr => ?_)
    obtain ⟨rfl, rfl, hq2⟩ := hr
    refine j_eq (ws' := [(xo, xO xa X), (xa 6, o5 (some (xa 20)) (some (xa 21)) (some (xa 22)) (some (xa 23)) (upS (upS (upS (upS U 1 (V 1)) 2 (V 2)) 3 (V 3)) 7 (V 7))), (xa 20, aInt E 24 co2), (xa 21, aInt E 4 so2), (xa 22, aInt E 4 si2), (xa 23, aInt E 4 pr2), (xa 7, o5 (some (xa 24)) (some (xa 25)) (some (xa 26)) (some (xa 27)) V), (xa 24, aInt E 24 co2), (xa 25, aInt E 4 so2), (xa 26, aInt E 4 si2), (xa 27, aInt E 4 pr2)]) rfl rfl rfl ?_
    refine j_aload_n G 0 rfl d9_undo_21 ?_
    refine j_get G 0 9 6 in9 fl9_30 d9_undo_22 rfl rfl (by decide) (v := .ref (xa 6)) rfl rfl ?_
    refine j_get G 1 5 2 in5 fl9_175 d9_undo_25 rfl rfl (by decide) (v := .int (iZ (V 2))) rfl rfl ?_
    exact j_iret G F d9_undo_28 ⟨(V 2), rfl, rfl, (by rfl)⟩
  ·
    omega
theorem d9_act_0 : decode c9_act 0 = .ok (.aload_n 0, 1) := by decide +kernel
theorem d9_act_1 : decode c9_act 1 = .ok (.getfield 46, 3) := by decide +kernel
theorem d9_act_4 : decode c9_act 4 = .ok (.iconst 0, 1) := by decide +kernel
theorem d9_act_5 : decode c9_act 5 = .ok (.putfield 291, 3) := by decide +kernel
theorem d9_act_8 : decode c9_act 8 = .ok (.aload_n 0, 1) := by decide +kernel
theorem d9_act_9 : decode c9_act 9 = .ok (.iload_n 1, 1) := by decide +kernel
theorem d9_act_10 : decode c9_act 10 = .ok (.invokevirtual 184, 3) := by decide +kernel
theorem d9_act_13 : decode c9_act 13 = .ok (.astore 4, 2) := by decide +kernel
theorem d9_act_15 : decode c9_act 15 = .ok (.aload 4, 2) := by decide +kernel
theorem d9_act_17 : decode c9_act 17 = .ok (.ifnonnull 5, 3) := by decide +kernel
theorem d9_act_20 : decode c9_act 20 = .ok (.iconst 0, 1) := by decide +kernel
theorem d9_act_21 : decode c9_act 21 = .ok (.ireturn, 1) := by decide +kernel
theorem mw9_act : MV y9_act c9_act 5 (some .int) 3 := ⟨cd9_act, ini9, na9_act, im9_act, se9_act⟩
set_option maxHeartbeats 4000000 in
set_option maxRecDepth 100000 in
theorem k9_actn (l : Launch) (E : En) (xo : Nat) (xa : Nat → Nat) (X : Nat → Int) (Q : Nat → Int) (q : Int) (a : Int) (x : Int) (r_q : R32 q) (r_a : R32 a) (hrq : ¬ (0 ≤ q ∧ q < X 5)) (hx5 : 0 ≤ X 5 ∧ X 5 ≤ 12) : Cm l E y9_act c9_act 5 (some .int) { frames := 1, cells := 0, slots := 0, locals := 21 } [.ref xo, .int (iZ q), .int (iZ a), .int (iZ x)] [(xo, xO xa X), (xa 10, o8 (some (xa 28)) Q)] (fun r ws => ∃ (v : Int), r = some (.int (iZ v)) ∧ ws = [(xo, xO xa X), (xa 10, o8 (some (xa 28)) (upS Q 1 0))] ∧ (v = 0)) := by
  refine Cm.of (by decide +kernel) (Nat.le_of_ble_eq_true rfl) (fun Γ A hl hargs hin G F => ?_)
  subst hl
  refine j_aload_n G 0 rfl d9_act_0 ?_
  refine j_get G 0 9 10 in9 fl9_46 d9_act_1 rfl rfl (by decide) (v := .ref (xa 10)) rfl rfl ?_
  refine j_iconst G d9_act_4 ?_
  refine j_put G 1 8 1 in8 tyok8 nm8 fl9_291 d9_act_5 rfl rfl (by decide) ⟨rfl, rfl⟩ rfl rfl (Nat.le_of_ble_eq_true rfl) (e := o8 (some (xa 28)) (upS Q 1 0)) rfl ?_
  refine j_aload_n G 0 rfl d9_act_8 ?_
  refine j_iload_n G 1 rfl d9_act_9 ?_
  refine j_VP G (k9_ruleAtn (xl Γ) E xo xa X q (by first | assumption | omega | (simp only [upS, reduceIte, Nat.reduceEqDiff, eq_self, List.length_cons, List.length_nil, List.length_append] <;> omega)) (by first | assumption | omega | (simp only [upS, reduceIte, Nat.reduceEqDiff, eq_self, List.length_cons, List.length_nil, List.length_append] <;> omega)) (by first | assumption | omega | (simp only [upS, reduceIte, Nat.reduceEqDiff, eq_self, List.length_cons, List.length_nil, List.length_append] <;> omega))) mw9_ruleAt ml9_184 [0] rfl 0 9 rfl rfl rfl ⟨Nat.le_of_ble_eq_true rfl, Nat.le_of_ble_eq_true rfl⟩ rfl (rest := []) rfl (Nat.le_of_ble_eq_true rfl) d9_act_10 ⟨Nat.le_of_ble_eq_true rfl, Nat.le_of_ble_eq_true rfl⟩ (fun r hr => ?_)
  obtain ⟨rfl, hq1⟩ := hr
  refine j_astoreN G d9_act_13 (by decide) rfl ?_
  refine j_aloadN G 0 rfl d9_act_15 ?_
  refine j_ifnonnullN G d9_act_17 ?_
  refine j_iconst G d9_act_20 ?_
  exact j_iret G F d9_act_21 ⟨0, rfl, rfl, (by rfl)⟩
theorem d9_act_22 : decode c9_act 22 = .ok (.iload_n 2, 1) := by decide +kernel
theorem d9_act_23 : decode c9_act 23 = .ok (.tableswitch 73 0 2 #[25, 41, 57], 25) := by decide +kernel
theorem d9_act_48 : decode c9_act 48 = .ok (.aload 4, 2) := by decide +kernel
theorem d9_act_50 : decode c9_act 50 = .ok (.aload 4, 2) := by decide +kernel
theorem d9_act_52 : decode c9_act 52 = .ok (.getfield 188, 3) := by decide +kernel
theorem d9_act_55 : decode c9_act 55 = .ok (.iload_n 3, 1) := by decide +kernel
theorem d9_act_56 : decode c9_act 56 = .ok (.aload_n 0, 1) := by decide +kernel
theorem d9_act_57 : decode c9_act 57 = .ok (.getfield 46, 3) := by decide +kernel
theorem d9_act_60 : decode c9_act 60 = .ok (.invokestatic 294, 3) := by decide +kernel
theorem d9_act_63 : decode c9_act 63 = .ok (.ireturn, 1) := by decide +kernel
theorem d9_act_64 : decode c9_act 64 = .ok (.aload 4, 2) := by decide +kernel
theorem d9_act_66 : decode c9_act 66 = .ok (.aload 4, 2) := by decide +kernel
theorem d9_act_68 : decode c9_act 68 = .ok (.getfield 188, 3) := by decide +kernel
theorem d9_act_71 : decode c9_act 71 = .ok (.iload_n 3, 1) := by decide +kernel
theorem d9_act_72 : decode c9_act 72 = .ok (.aload_n 0, 1) := by decide +kernel
theorem d9_act_73 : decode c9_act 73 = .ok (.getfield 46, 3) := by decide +kernel
theorem d9_act_76 : decode c9_act 76 = .ok (.invokestatic 298, 3) := by decide +kernel
theorem d9_act_79 : decode c9_act 79 = .ok (.ireturn, 1) := by decide +kernel
theorem d9_act_80 : decode c9_act 80 = .ok (.aload 4, 2) := by decide +kernel
theorem d9_act_82 : decode c9_act 82 = .ok (.aload 4, 2) := by decide +kernel
theorem d9_act_84 : decode c9_act 84 = .ok (.getfield 188, 3) := by decide +kernel
theorem d9_act_87 : decode c9_act 87 = .ok (.iload_n 3, 1) := by decide +kernel
theorem d9_act_88 : decode c9_act 88 = .ok (.aload_n 0, 1) := by decide +kernel
theorem d9_act_89 : decode c9_act 89 = .ok (.getfield 46, 3) := by decide +kernel
theorem d9_act_92 : decode c9_act 92 = .ok (.invokestatic 301, 3) := by decide +kernel
theorem d9_act_95 : decode c9_act 95 = .ok (.ireturn, 1) := by decide +kernel
theorem d9_act_96 : decode c9_act 96 = .ok (.iconst 0, 1) := by decide +kernel
theorem d9_act_97 : decode c9_act 97 = .ok (.ireturn, 1) := by decide +kernel
set_option maxHeartbeats 4000000 in
set_option maxRecDepth 100000 in
theorem k9_actc (l : Launch) (E : En) (xo : Nat) (xa : Nat → Nat) (X : Nat → Int) (Q : Nat → Int) (bo : Int → Int) (rk : Nat → Option Nat) (ra : Nat) (rr : Nat) (R : Nat → Int) (q : Int) (a : Int) (x : Int) (r_q : R32 q) (r_a : R32 a) (hrq : 0 ≤ q ∧ q < X 5 ∧ X 5 ≤ 12) (hrk : rk q.toNat = some ra) (hR0 : 0 ≤ R 0 ∧ R 0 ≤ 6) : Cm l E y9_act c9_act 5 (some .int) { frames := 7, cells := 0, slots := 0, locals := 159 } [.ref xo, .int (iZ q), .int (iZ a), .int (iZ x)] [(xo, xO xa X), (xa 4, aRef E 4 12 rk), (ra, o4 (some rr) R), (xa 10, o8 (some (xa 28)) Q), (xa 28, aInt E 20 bo)] (fun r ws => ∃ (v : Int), ∃ (q1 : Int), ∃ (bo1 : Int → Int), r = some (.int (iZ v)) ∧ ws = [(xo, xO xa X), (xa 4, aRef E 4 12 rk), (ra, o4 (some rr) R), (xa 10, o8 (some (xa 28)) (upS Q 1 q1)), (xa 28, aInt E 20 bo1)] ∧ (((0 ≤ a ∧ a ≤ 2) ∧ v = acV (R 0) (R 2) (R 1) a x ∧ q1 = ((acL (R 0) a).length : Int) ∧ bo1 = trL (acL (R 0) a) 0 bo) ∨ (¬ (0 ≤ a ∧ a ≤ 2) ∧ v = 0 ∧ q1 = 0 ∧ bo1 = bo))) := by
  refine Cm.of (by decide +kernel) (Nat.le_of_ble_eq_true rfl) (fun Γ A hl hargs hin G F => ?_)
  subst hl
  refine j_aload_n G 0 rfl d9_act_0 ?_
  refine j_get G 0 9 10 in9 fl9_46 d9_act_1 rfl rfl (by decide) (v := .ref (xa 10)) rfl rfl ?_
  refine j_iconst G d9_act_4 ?_
  refine j_put G 3 8 1 in8 tyok8 nm8 fl9_291 d9_act_5 rfl rfl (by decide) ⟨rfl, rfl⟩ rfl rfl (Nat.le_of_ble_eq_true rfl) (e := o8 (some (xa 28)) (upS Q 1 0)) rfl ?_
  refine j_aload_n G 0 rfl d9_act_8 ?_
  refine j_iload_n G 1 rfl d9_act_9 ?_
  refine j_VP G (k9_ruleAtc (xl Γ) E xo xa X rk ra q (by first | assumption | omega | (simp only [upS, reduceIte, Nat.reduceEqDiff, eq_self, List.length_cons, List.length_nil, List.length_append] <;> omega)) (by first | assumption | omega | (simp only [upS, reduceIte, Nat.reduceEqDiff, eq_self, List.length_cons, List.length_nil, List.length_append] <;> omega)) (by first | assumption | omega | (simp only [upS, reduceIte, Nat.reduceEqDiff, eq_self, List.length_cons, List.length_nil, List.length_append] <;> omega))) mw9_ruleAt ml9_184 [0, 1] rfl 0 9 rfl rfl rfl ⟨Nat.le_of_ble_eq_true rfl, Nat.le_of_ble_eq_true rfl⟩ rfl (rest := []) rfl (Nat.le_of_ble_eq_true rfl) d9_act_10 ⟨Nat.le_of_ble_eq_true rfl, Nat.le_of_ble_eq_true rfl⟩ (fun r hr => ?_)
  obtain ⟨rfl, hq1⟩ := hr
  refine j_astore G d9_act_13 (by decide) rfl ?_
  refine j_aload G 0 rfl d9_act_15 ?_
  refine j_ifnonnull (tgt := 22) G d9_act_17 (by decide) ?_
  refine j_iload_n G 3 rfl d9_act_22 ?_
  rcases (show a = 0 ∨ a = 1 ∨ a = 2 ∨ (a < 0 ∨ 2 < a) by omega) with h2 | h2 | h2 | h2
  ·
    refine j_tabIn (tgt := 48) G d9_act_23 (by omega) 0 h2 ⟨by decide, by decide⟩ rfl (by decide) ?_
    refine j_aload G 0 rfl d9_act_48 ?_
    refine j_aload G 0 rfl d9_act_50 ?_
    refine j_get G 2 4 0 in4 fl9_188 d9_act_52 rfl rfl (by decide) (v := .int (iZ (R 0))) rfl rfl ?_
    refine j_iload_n G 4 rfl d9_act_55 ?_
    refine j_aload_n G 1 rfl d9_act_56 ?_
    refine j_get G 0 9 10 in9 fl9_46 d9_act_57 rfl rfl (by decide) (v := .ref (xa 10)) rfl rfl ?_
    refine j_SMN G (rm' := { frames := 2, cells := 0, slots := 0, locals := 44 }) (wc := [(ra, o4 (some rr) R), (xa 10, o8 (some (xa 28)) (upS Q 1 0)), (xa 28, aInt E 20 bo)]) (wr := [(xo, xO xa X), (xa 4, aRef E 4 12 rk)]) (k4_goes (xl Γ) E ra rr R (xa 10) (xa 28) (upS Q 1 0) bo (R 0) x (by first | assumption | omega | (simp only [upS, reduceIte, Nat.reduceEqDiff, eq_self, List.length_cons, List.length_nil, List.length_append] <;> omega)) (by first | assumption | omega | (simp only [upS, reduceIte, Nat.reduceEqDiff, eq_self, List.length_cons, List.length_nil, List.length_append] <;> omega))) mw4_goes mn9_294 [2, 3, 4] [0, 1] rfl rfl ⟨rfl, rfl⟩ (by decide) ⟨Nat.le_of_ble_eq_true rfl, Nat.le_of_ble_eq_true rfl⟩ rfl (rest := []) rfl (Nat.le_of_ble_eq_true rfl) d9_act_60 ⟨Nat.le_of_ble_eq_true rfl, Nat.le_of_ble_eq_true rfl⟩ (fun r w1 hr => ?_)
    obtain ⟨v4, Q1_5, bo1_6, rfl, rfl, rfl, rfl, hq3⟩ := hr
    refine j_eq (ws' := [(xo, xO xa X), (xa 4, aRef E 4 12 rk), (ra, o4 (some rr) R), (xa 10, o8 (some (xa 28)) (upS Q 1 (0 + ((goL (R 0)).length : Int)))), (xa 28, aInt E 20 (trL (goL (R 0)) (0) bo))]) rfl rfl rfl ?_
    try simp only [upS, reduceIte, Nat.reduceEqDiff, eq_self] at hq3
    exact j_iret G F d9_act_63 ⟨v4, (0 + ((goL (R 0)).length : Int)), (trL (goL (R 0)) (0) bo), rfl, rfl, (by first | (left; exact ⟨by omega, by (simp only [acV] <;> (repeat' split) <;> first | omega | (exfalso; omega)), by (simp only [acL] <;> (repeat' split) <;> first | omega | (exfalso; omega)), by (simp only [acL] <;> (repeat' split) <;> first | rfl | (exfalso; omega))⟩) | (right; exact ⟨by omega, rfl, rfl, rfl⟩))⟩
  ·
    refine j_tabIn (tgt := 64) G d9_act_23 (by omega) 1 h2 ⟨by decide, by decide⟩ rfl (by decide) ?_
    refine j_aload G 0 rfl d9_act_64 ?_
    refine j_aload G 0 rfl d9_act_66 ?_
    refine j_get G 2 4 0 in4 fl9_188 d9_act_68 rfl rfl (by decide) (v := .int (iZ (R 0))) rfl rfl ?_
    refine j_iload_n G 4 rfl d9_act_71 ?_
    refine j_aload_n G 1 rfl d9_act_72 ?_
    refine j_get G 0 9 10 in9 fl9_46 d9_act_73 rfl rfl (by decide) (v := .ref (xa 10)) rfl rfl ?_
    refine j_SMN G (rm' := { frames := 4, cells := 0, slots := 0, locals := 90 }) (wc := [(ra, o4 (some rr) R), (xa 10, o8 (some (xa 28)) (upS Q 1 0)), (xa 28, aInt E 20 bo)]) (wr := [(xo, xO xa X), (xa 4, aRef E 4 12 rk)]) (k4_holds (xl Γ) E ra rr R (xa 10) (xa 28) (upS Q 1 0) bo (R 0) x (by first | assumption | omega | (simp only [upS, reduceIte, Nat.reduceEqDiff, eq_self, List.length_cons, List.length_nil, List.length_append] <;> omega)) (by first | assumption | omega | (simp only [upS, reduceIte, Nat.reduceEqDiff, eq_self, List.length_cons, List.length_nil, List.length_append] <;> omega)) (by first | assumption | omega | (simp only [upS, reduceIte, Nat.reduceEqDiff, eq_self, List.length_cons, List.length_nil, List.length_append] <;> omega))) mw4_holds mn9_298 [2, 3, 4] [0, 1] rfl rfl ⟨rfl, rfl⟩ (by decide) ⟨Nat.le_of_ble_eq_true rfl, Nat.le_of_ble_eq_true rfl⟩ rfl (rest := []) rfl (Nat.le_of_ble_eq_true rfl) d9_act_76 ⟨Nat.le_of_ble_eq_true rfl, Nat.le_of_ble_eq_true rfl⟩ (fun r w1 hr => ?_)
    obtain ⟨v8, Q1_9, bo1_10, rfl, rfl, rfl, rfl, hq7⟩ := hr
    refine j_eq (ws' := [(xo, xO xa X), (xa 4, aRef E 4 12 rk), (ra, o4 (some rr) R), (xa 10, o8 (some (xa 28)) (upS Q 1 (0 + ((hoL ((R 0)) (R 0)).length : Int)))), (xa 28, aInt E 20 (trL (hoL ((R 0)) (R 0)) (0) bo))]) rfl rfl rfl ?_
    try simp only [upS, reduceIte, Nat.reduceEqDiff, eq_self] at hq7
    exact j_iret G F d9_act_79 ⟨v8, (0 + ((hoL ((R 0)) (R 0)).length : Int)), (trL (hoL ((R 0)) (R 0)) (0) bo), rfl, rfl, (by first | (left; exact ⟨by omega, by (simp only [acV] <;> (repeat' split) <;> first | omega | (exfalso; omega)), by (simp only [acL] <;> (repeat' split) <;> first | omega | (exfalso; omega)), by (simp only [acL] <;> (repeat' split) <;> first | rfl | (exfalso; omega))⟩) | (right; exact ⟨by omega, rfl, rfl, rfl⟩))⟩
  ·
    refine j_tabIn (tgt := 80) G d9_act_23 (by omega) 2 h2 ⟨by decide, by decide⟩ rfl (by decide) ?_
    refine j_aload G 0 rfl d9_act_80 ?_
    refine j_aload G 0 rfl d9_act_82 ?_
    refine j_get G 2 4 0 in4 fl9_188 d9_act_84 rfl rfl (by decide) (v := .int (iZ (R 0))) rfl rfl ?_
    refine j_iload_n G 4 rfl d9_act_87 ?_
    refine j_aload_n G 1 rfl d9_act_88 ?_
    refine j_get G 0 9 10 in9 fl9_46 d9_act_89 rfl rfl (by decide) (v := .ref (xa 10)) rfl rfl ?_
    refine j_SMN G (rm' := { frames := 6, cells := 0, slots := 0, locals := 136 }) (wc := [(ra, o4 (some rr) R), (xa 10, o8 (some (xa 28)) (upS Q 1 0)), (xa 28, aInt E 20 bo)]) (wr := [(xo, xO xa X), (xa 4, aRef E 4 12 rk)]) (k4_tells (xl Γ) E ra rr R (xa 10) (xa 28) (upS Q 1 0) bo (R 0) x (by first | assumption | omega | (simp only [upS, reduceIte, Nat.reduceEqDiff, eq_self, List.length_cons, List.length_nil, List.length_append] <;> omega)) (by first | assumption | omega | (simp only [upS, reduceIte, Nat.reduceEqDiff, eq_self, List.length_cons, List.length_nil, List.length_append] <;> omega)) (by first | assumption | omega | (simp only [upS, reduceIte, Nat.reduceEqDiff, eq_self, List.length_cons, List.length_nil, List.length_append] <;> omega))) mw4_tells mn9_301 [2, 3, 4] [0, 1] rfl rfl ⟨rfl, rfl⟩ (by decide) ⟨Nat.le_of_ble_eq_true rfl, Nat.le_of_ble_eq_true rfl⟩ rfl (rest := []) rfl (Nat.le_of_ble_eq_true rfl) d9_act_92 ⟨Nat.le_of_ble_eq_true rfl, Nat.le_of_ble_eq_true rfl⟩ (fun r w1 hr => ?_)
    obtain ⟨v12, Q1_13, bo1_14, rfl, rfl, rfl, rfl, hq11⟩ := hr
    refine j_eq (ws' := [(xo, xO xa X), (xa 4, aRef E 4 12 rk), (ra, o4 (some rr) R), (xa 10, o8 (some (xa 28)) (upS Q 1 (0 + ((teL ((R 0)) (R 0)).length : Int)))), (xa 28, aInt E 20 (trL (teL ((R 0)) (R 0)) (0) bo))]) rfl rfl rfl ?_
    try simp only [upS, reduceIte, Nat.reduceEqDiff, eq_self] at hq11
    exact j_iret G F d9_act_95 ⟨v12, (0 + ((teL ((R 0)) (R 0)).length : Int)), (trL (teL ((R 0)) (R 0)) (0) bo), rfl, rfl, (by first | (left; exact ⟨by omega, by (simp only [acV] <;> (repeat' split) <;> first | omega | (exfalso; omega)), by (simp only [acL] <;> (repeat' split) <;> first | omega | (exfalso; omega)), by (simp only [acL] <;> (repeat' split) <;> first | rfl | (exfalso; omega))⟩) | (right; exact ⟨by omega, rfl, rfl, rfl⟩))⟩
  ·
    refine j_tabOut (tgt := 96) G d9_act_23 (by omega) h2 (by decide) ?_
    refine j_iconst G d9_act_96 ?_
    exact j_iret G F d9_act_97 ⟨0, 0, bo, rfl, rfl, (by first | (left; exact ⟨by omega, by (simp only [acV] <;> (repeat' split) <;> first | omega | (exfalso; omega)), by (simp only [acL] <;> (repeat' split) <;> first | omega | (exfalso; omega)), by (simp only [acL] <;> (repeat' split) <;> first | rfl | (exfalso; omega))⟩) | (right; exact ⟨by omega, rfl, rfl, rfl⟩))⟩
theorem d9_taken_0 : decode c9_taken 0 = .ok (.iload_n 2, 1) := by decide +kernel
theorem d9_taken_1 : decode c9_taken 1 = .ok (.invokestatic 178, 3) := by decide +kernel
theorem d9_taken_4 : decode c9_taken 4 = .ok (.ifCond .eq 6, 3) := by decide +kernel
theorem d9_taken_7 : decode c9_taken 7 = .ok (.bipush (-2), 2) := by decide +kernel
theorem d9_taken_9 : decode c9_taken 9 = .ok (.ireturn, 1) := by decide +kernel
theorem d9_taken_10 : decode c9_taken 10 = .ok (.aload_n 0, 1) := by decide +kernel
theorem d9_taken_11 : decode c9_taken 11 = .ok (.iload_n 1, 1) := by decide +kernel
theorem d9_taken_12 : decode c9_taken 12 = .ok (.invokevirtual 184, 3) := by decide +kernel
theorem d9_taken_15 : decode c9_taken 15 = .ok (.astore_n 3, 1) := by decide +kernel
theorem d9_taken_16 : decode c9_taken 16 = .ok (.aload_n 3, 1) := by decide +kernel
theorem d9_taken_17 : decode c9_taken 17 = .ok (.ifnonnull 6, 3) := by decide +kernel
theorem d9_taken_20 : decode c9_taken 20 = .ok (.bipush (-11), 2) := by decide +kernel
theorem d9_taken_22 : decode c9_taken 22 = .ok (.ireturn, 1) := by decide +kernel
theorem mw9_taken : MV y9_taken c9_taken 4 (some .int) 2 := ⟨cd9_taken, ini9, na9_taken, im9_taken, se9_taken⟩
set_option maxHeartbeats 4000000 in
set_option maxRecDepth 100000 in
theorem k9_takenn (l : Launch) (E : En) (xo : Nat) (xa : Nat → Nat) (X : Nat → Int) (q : Int) (k : Int) (r_q : R32 q) (r_k : R32 k) (hrq : ¬ (0 ≤ q ∧ q < X 5)) (hx5 : 0 ≤ X 5 ∧ X 5 ≤ 12) : Cp l E y9_taken c9_taken 4 (some .int) 1 21 [.ref xo, .int (iZ q), .int (iZ k)] [(xo, xO xa X)] (fun r => ∃ (v : Int), r = some (.int (iZ v)) ∧ (v = (if 0 ≤ k ∧ k ≤ 6 then -11 else -2))) := by
  refine Cp.of (by decide +kernel) (Nat.le_of_ble_eq_true rfl) (fun Γ hl hargs G F => ?_)
  subst hl
  refine j_iload_n G 2 rfl d9_taken_0 ?_
  refine j_SP G (k9_isNoKind (xl Γ) E k (by first | assumption | omega | (simp only [upS, reduceIte, Nat.reduceEqDiff, eq_self, List.length_cons, List.length_nil, List.length_append] <;> omega))) mw9_isNoKind ml9_178 [] rfl ⟨Nat.le_of_ble_eq_true rfl, Nat.le_of_ble_eq_true rfl⟩ rfl (rest := []) rfl (Nat.le_of_ble_eq_true rfl) d9_taken_1 ⟨Nat.le_of_ble_eq_true rfl, Nat.le_of_ble_eq_true rfl⟩ (fun r hr => ?_)
  obtain ⟨v2, rfl, hq1⟩ := hr
  rcases hq1 with ⟨hq1, rfl⟩ | ⟨hq1, rfl⟩
  ·
    refine j_if_eq (tgt := 10) G d9_taken_4 (by decide) (by decide) (fun h3 => absurd h3 (by decide)) (fun h3 => ?_)
    refine j_bipush G d9_taken_7 rfl ?_
    exact j_iret G F d9_taken_9 ⟨(-2), rfl, (by (repeat' split) <;> omega)⟩
  ·
    refine j_if_eq (tgt := 10) G d9_taken_4 (by decide) (by decide) (fun h4 => ?_) (fun h4 => absurd h4 (by decide))
    refine j_aload_n G 0 rfl d9_taken_10 ?_
    refine j_iload_n G 1 rfl d9_taken_11 ?_
    refine j_VP G (k9_ruleAtn (xl Γ) E xo xa X q (by first | assumption | omega | (simp only [upS, reduceIte, Nat.reduceEqDiff, eq_self, List.length_cons, List.length_nil, List.length_append] <;> omega)) (by first | assumption | omega | (simp only [upS, reduceIte, Nat.reduceEqDiff, eq_self, List.length_cons, List.length_nil, List.length_append] <;> omega)) (by first | assumption | omega | (simp only [upS, reduceIte, Nat.reduceEqDiff, eq_self, List.length_cons, List.length_nil, List.length_append] <;> omega))) mw9_ruleAt ml9_184 [0] rfl 0 9 rfl rfl rfl ⟨Nat.le_of_ble_eq_true rfl, Nat.le_of_ble_eq_true rfl⟩ rfl (rest := []) rfl (Nat.le_of_ble_eq_true rfl) d9_taken_12 ⟨Nat.le_of_ble_eq_true rfl, Nat.le_of_ble_eq_true rfl⟩ (fun r hr => ?_)
    obtain ⟨rfl, hq5⟩ := hr
    refine j_astore_nN G d9_taken_15 (by decide) rfl ?_
    refine j_aload_nN G 0 rfl d9_taken_16 ?_
    refine j_ifnonnullN G d9_taken_17 ?_
    refine j_bipush G d9_taken_20 rfl ?_
    exact j_iret G F d9_taken_22 ⟨(-11), rfl, (by (repeat' split) <;> omega)⟩
theorem d9_taken_23 : decode c9_taken 23 = .ok (.aload_n 3, 1) := by decide +kernel
theorem d9_taken_24 : decode c9_taken 24 = .ok (.iload_n 2, 1) := by decide +kernel
theorem d9_taken_25 : decode c9_taken 25 = .ok (.invokevirtual 307, 3) := by decide +kernel
theorem d9_taken_28 : decode c9_taken 28 = .ok (.ifCond .eq 10, 3) := by decide +kernel
theorem d9_taken_31 : decode c9_taken 31 = .ok (.aload_n 3, 1) := by decide +kernel
theorem d9_taken_32 : decode c9_taken 32 = .ok (.getfield 188, 3) := by decide +kernel
theorem d9_taken_35 : decode c9_taken 35 = .ok (.goto 5, 3) := by decide +kernel
theorem d9_taken_38 : decode c9_taken 38 = .ok (.bipush (-12), 2) := by decide +kernel
theorem d9_taken_40 : decode c9_taken 40 = .ok (.ireturn, 1) := by decide +kernel
set_option maxHeartbeats 4000000 in
set_option maxRecDepth 100000 in
theorem k9_takenc (l : Launch) (E : En) (xo : Nat) (xa : Nat → Nat) (X : Nat → Int) (rk : Nat → Option Nat) (ra : Nat) (rr : Nat) (len : Nat) (R : Nat → Int) (q : Int) (k : Int) (r_q : R32 q) (r_k : R32 k) (hrq : 0 ≤ q ∧ q < X 5 ∧ X 5 ≤ 12) (hrk : rk q.toNat = some ra) (hR0 : 0 ≤ R 0 ∧ R 0 ≤ 6) : Cp l E y9_taken c9_taken 4 (some .int) 1 21 [.ref xo, .int (iZ q), .int (iZ k)] [(xo, xO xa X), (xa 4, aRef E 4 12 rk), (ra, o4 (some rr) R)] (fun r => ∃ (v : Int), r = some (.int (iZ v)) ∧ (v = (if 0 ≤ k ∧ k ≤ 6 then (if k = 0 ∨ R 0 = k ∨ (k = 4 ∧ R 0 = 5) then R 0 else -12) else -2))) := by
  refine Cp.of (by decide +kernel) (Nat.le_of_ble_eq_true rfl) (fun Γ hl hargs G F => ?_)
  subst hl
  refine j_iload_n G 2 rfl d9_taken_0 ?_
  refine j_SP G (k9_isNoKind (xl Γ) E k (by first | assumption | omega | (simp only [upS, reduceIte, Nat.reduceEqDiff, eq_self, List.length_cons, List.length_nil, List.length_append] <;> omega))) mw9_isNoKind ml9_178 [] rfl ⟨Nat.le_of_ble_eq_true rfl, Nat.le_of_ble_eq_true rfl⟩ rfl (rest := []) rfl (Nat.le_of_ble_eq_true rfl) d9_taken_1 ⟨Nat.le_of_ble_eq_true rfl, Nat.le_of_ble_eq_true rfl⟩ (fun r hr => ?_)
  obtain ⟨v2, rfl, hq1⟩ := hr
  rcases hq1 with ⟨hq1, rfl⟩ | ⟨hq1, rfl⟩
  ·
    refine j_if_eq (tgt := 10) G d9_taken_4 (by decide) (by decide) (fun h3 => absurd h3 (by decide)) (fun h3 => ?_)
    refine j_bipush G d9_taken_7 rfl ?_
    exact j_iret G F d9_taken_9 ⟨(-2), rfl, (by (repeat' split) <;> omega)⟩
  ·
    refine j_if_eq (tgt := 10) G d9_taken_4 (by decide) (by decide) (fun h4 => ?_) (fun h4 => absurd h4 (by decide))
    refine j_aload_n G 0 rfl d9_taken_10 ?_
    refine j_iload_n G 1 rfl d9_taken_11 ?_
    refine j_VP G (k9_ruleAtc (xl Γ) E xo xa X rk ra q (by first | assumption | omega | (simp only [upS, reduceIte, Nat.reduceEqDiff, eq_self, List.length_cons, List.length_nil, List.length_append] <;> omega)) (by first | assumption | omega | (simp only [upS, reduceIte, Nat.reduceEqDiff, eq_self, List.length_cons, List.length_nil, List.length_append] <;> omega)) (by first | assumption | omega | (simp only [upS, reduceIte, Nat.reduceEqDiff, eq_self, List.length_cons, List.length_nil, List.length_append] <;> omega))) mw9_ruleAt ml9_184 [0, 1] rfl 0 9 rfl rfl rfl ⟨Nat.le_of_ble_eq_true rfl, Nat.le_of_ble_eq_true rfl⟩ rfl (rest := []) rfl (Nat.le_of_ble_eq_true rfl) d9_taken_12 ⟨Nat.le_of_ble_eq_true rfl, Nat.le_of_ble_eq_true rfl⟩ (fun r hr => ?_)
    obtain ⟨rfl, hq5⟩ := hr
    refine j_astore_n G d9_taken_15 (by decide) rfl ?_
    refine j_aload_n G 0 rfl d9_taken_16 ?_
    refine j_ifnonnull (tgt := 23) G d9_taken_17 (by decide) ?_
    refine j_aload_n G 0 rfl d9_taken_23 ?_
    refine j_iload_n G 3 rfl d9_taken_24 ?_
    refine j_VP G (k4_isUnder (xl Γ) E ra rr R k (by first | assumption | omega | (simp only [upS, reduceIte, Nat.reduceEqDiff, eq_self, List.length_cons, List.length_nil, List.length_append] <;> omega)) (by first | assumption | omega | (simp only [upS, reduceIte, Nat.reduceEqDiff, eq_self, List.length_cons, List.length_nil, List.length_append] <;> omega))) mw4_isUnder ml9_307 [2] rfl 2 4 rfl rfl rfl ⟨Nat.le_of_ble_eq_true rfl, Nat.le_of_ble_eq_true rfl⟩ rfl (rest := []) rfl (Nat.le_of_ble_eq_true rfl) d9_taken_25 ⟨Nat.le_of_ble_eq_true rfl, Nat.le_of_ble_eq_true rfl⟩ (fun r hr => ?_)
    obtain ⟨v7, rfl, hq6⟩ := hr
    rcases hq6 with ⟨hq6, rfl⟩ | ⟨hq6, rfl⟩
    ·
      refine j_if_eq (tgt := 38) G d9_taken_28 (by decide) (by decide) (fun h8 => absurd h8 (by decide)) (fun h8 => ?_)
      refine j_aload_n G 0 rfl d9_taken_31 ?_
      refine j_get G 2 4 0 in4 fl9_188 d9_taken_32 rfl rfl (by decide) (v := .int (iZ (R 0))) rfl rfl ?_
      refine j_goto (tgt := 40) G d9_taken_35 (by decide) ?_
      exact j_iret G F d9_taken_40 ⟨R 0, rfl, (by (repeat' split) <;> omega)⟩
    ·
      refine j_if_eq (tgt := 38) G d9_taken_28 (by decide) (by decide) (fun h9 => ?_) (fun h9 => absurd h9 (by decide))
      refine j_bipush G d9_taken_38 rfl ?_
      exact j_iret G F d9_taken_40 ⟨(-12), rfl, (by (repeat' split) <;> omega)⟩
theorem d9_tape_0 : decode c9_tape 0 = .ok (.iload_n 1, 1) := by decide +kernel
theorem d9_tape_1 : decode c9_tape 1 = .ok (.invokestatic 270, 3) := by decide +kernel
theorem d9_tape_4 : decode c9_tape 4 = .ok (.ifCond .eq 5, 3) := by decide +kernel
theorem d9_tape_7 : decode c9_tape 7 = .ok (.iconst (-1), 1) := by decide +kernel
theorem d9_tape_8 : decode c9_tape 8 = .ok (.ireturn, 1) := by decide +kernel
theorem mw9_tape : MV y9_tape c9_tape 4 (some .int) 3 := ⟨cd9_tape, ini9, na9_tape, im9_tape, se9_tape⟩
set_option maxHeartbeats 4000000 in
set_option maxRecDepth 100000 in
theorem k9_tapen (l : Launch) (E : En) (xo : Nat) (xa : Nat → Nat) (X : Nat → Int) (t : Int) (s : Int) (n : Int) (r_t : R32 t) (r_s : R32 s) (r_n : R32 n) (htq : ¬ (0 ≤ t ∧ t ≤ 5)) : Cp l E y9_tape c9_tape 4 (some .int) 1 20 [.ref xo, .int (iZ t), .int (iZ s), .int (iZ n)] [(xo, xO xa X)] (fun r => ∃ (v : Int), r = some (.int (iZ v)) ∧ (v = -1)) := by
  refine Cp.of (by decide +kernel) (Nat.le_of_ble_eq_true rfl) (fun Γ hl hargs G F => ?_)
  subst hl
  refine j_iload_n G 1 rfl d9_tape_0 ?_
  refine j_SP G (k9_isNoTape (xl Γ) E t (by first | assumption | omega | (simp only [upS, reduceIte, Nat.reduceEqDiff, eq_self, List.length_cons, List.length_nil, List.length_append] <;> omega))) mw9_isNoTape ml9_270 [] rfl ⟨Nat.le_of_ble_eq_true rfl, Nat.le_of_ble_eq_true rfl⟩ rfl (rest := []) rfl (Nat.le_of_ble_eq_true rfl) d9_tape_1 ⟨Nat.le_of_ble_eq_true rfl, Nat.le_of_ble_eq_true rfl⟩ (fun r hr => ?_)
  obtain ⟨v2, rfl, hq1⟩ := hr
  rcases hq1 with ⟨hq1, rfl⟩ | ⟨hq1, rfl⟩
  ·
    refine j_if_eq (tgt := 9) G d9_tape_4 (by decide) (by decide) (fun h3 => absurd h3 (by decide)) (fun h3 => ?_)
    refine j_iconst G d9_tape_7 ?_
    exact j_iret G F d9_tape_8 ⟨(-1), rfl, (by first | rfl | omega)⟩
  ·
    omega
theorem d9_item_0 : decode c9_item 0 = .ok (.iload_n 1, 1) := by decide +kernel
theorem d9_item_1 : decode c9_item 1 = .ok (.invokestatic 270, 3) := by decide +kernel
theorem d9_item_4 : decode c9_item 4 = .ok (.ifCond .eq 5, 3) := by decide +kernel
theorem d9_item_7 : decode c9_item 7 = .ok (.iconst (-1), 1) := by decide +kernel
theorem d9_item_8 : decode c9_item 8 = .ok (.ireturn, 1) := by decide +kernel
theorem mw9_item : MV y9_item c9_item 6 (some .int) 3 := ⟨cd9_item, ini9, na9_item, im9_item, se9_item⟩
set_option maxHeartbeats 4000000 in
set_option maxRecDepth 100000 in
theorem k9_itemn (l : Launch) (E : En) (xo : Nat) (xa : Nat → Nat) (X : Nat → Int) (t : Int) (i : Int) (w : Int) (r_t : R32 t) (r_i : R32 i) (r_w : R64 w) (htq : ¬ (0 ≤ t ∧ t ≤ 5)) : Cp l E y9_item c9_item 6 (some .int) 1 20 [.ref xo, .int (iZ t), .int (iZ i), .long (lZ w)] [(xo, xO xa X)] (fun r => ∃ (v : Int), r = some (.int (iZ v)) ∧ (v = -1)) := by
  refine Cp.of (by decide +kernel) (Nat.le_of_ble_eq_true rfl) (fun Γ hl hargs G F => ?_)
  subst hl
  refine j_iload_n G 1 rfl d9_item_0 ?_
  refine j_SP G (k9_isNoTape (xl Γ) E t (by first | assumption | omega | (simp only [upS, reduceIte, Nat.reduceEqDiff, eq_self, List.length_cons, List.length_nil, List.length_append] <;> omega))) mw9_isNoTape ml9_270 [] rfl ⟨Nat.le_of_ble_eq_true rfl, Nat.le_of_ble_eq_true rfl⟩ rfl (rest := []) rfl (Nat.le_of_ble_eq_true rfl) d9_item_1 ⟨Nat.le_of_ble_eq_true rfl, Nat.le_of_ble_eq_true rfl⟩ (fun r hr => ?_)
  obtain ⟨v2, rfl, hq1⟩ := hr
  rcases hq1 with ⟨hq1, rfl⟩ | ⟨hq1, rfl⟩
  ·
    refine j_if_eq (tgt := 9) G d9_item_4 (by decide) (by decide) (fun h3 => absurd h3 (by decide)) (fun h3 => ?_)
    refine j_iconst G d9_item_7 ?_
    exact j_iret G F d9_item_8 ⟨(-1), rfl, (by first | rfl | omega)⟩
  ·
    omega
theorem d9_read_0 : decode c9_read 0 = .ok (.iload_n 1, 1) := by decide +kernel
theorem d9_read_1 : decode c9_read 1 = .ok (.invokestatic 270, 3) := by decide +kernel
theorem d9_read_4 : decode c9_read 4 = .ok (.ifCond .ne 17, 3) := by decide +kernel
theorem d9_read_21 : decode c9_read 21 = .ok (.ldc2_w 149, 3) := by decide +kernel
theorem d9_read_24 : decode c9_read 24 = .ok (.lreturn, 1) := by decide +kernel
theorem mw9_read : MV y9_read c9_read 3 (some .long) 2 := ⟨cd9_read, ini9, na9_read, im9_read, se9_read⟩
set_option maxHeartbeats 4000000 in
set_option maxRecDepth 100000 in
theorem k9_readn (l : Launch) (E : En) (xo : Nat) (xa : Nat → Nat) (X : Nat → Int) (t : Int) (i : Int) (r_t : R32 t) (r_i : R32 i) (htq : ¬ (0 ≤ t ∧ t ≤ 5)) : Cp l E y9_read c9_read 3 (some .long) 1 20 [.ref xo, .int (iZ t), .int (iZ i)] [(xo, xO xa X)] (fun r => ∃ (v : Int), r = some (.long (lZ v)) ∧ (v = -9223372036854775808)) := by
  refine Cp.of (by decide +kernel) (Nat.le_of_ble_eq_true rfl) (fun Γ hl hargs G F => ?_)
  subst hl
  refine j_iload_n G 1 rfl d9_read_0 ?_
  refine j_SP G (k9_isNoTape (xl Γ) E t (by first | assumption | omega | (simp only [upS, reduceIte, Nat.reduceEqDiff, eq_self, List.length_cons, List.length_nil, List.length_append] <;> omega))) mw9_isNoTape ml9_270 [] rfl ⟨Nat.le_of_ble_eq_true rfl, Nat.le_of_ble_eq_true rfl⟩ rfl (rest := []) rfl (Nat.le_of_ble_eq_true rfl) d9_read_1 ⟨Nat.le_of_ble_eq_true rfl, Nat.le_of_ble_eq_true rfl⟩ (fun r hr => ?_)
  obtain ⟨v2, rfl, hq1⟩ := hr
  rcases hq1 with ⟨hq1, rfl⟩ | ⟨hq1, rfl⟩
  ·
    refine j_if_ne (tgt := 21) G d9_read_4 (by decide) (by decide) (fun h3 => ?_) (fun h3 => absurd h3 (by decide))
    refine j_ldc2 G (-9223372036854775808) ct9_149 (by decide) d9_read_21 ?_
    exact j_lret G F d9_read_24 ⟨(-9223372036854775808), rfl, (by first | rfl | omega)⟩
  ·
    omega
theorem d9_tape_9 : decode c9_tape 9 = .ok (.iload_n 2, 1) := by decide +kernel
theorem d9_tape_10 : decode c9_tape 10 = .ok (.iconst (-1), 1) := by decide +kernel
theorem d9_tape_11 : decode c9_tape 11 = .ok (.if_icmp .ne 16, 3) := by decide +kernel
theorem d9_tape_14 : decode c9_tape 14 = .ok (.aload_n 0, 1) := by decide +kernel
theorem d9_tape_15 : decode c9_tape 15 = .ok (.getfield 39, 3) := by decide +kernel
theorem d9_tape_18 : decode c9_tape 18 = .ok (.iload_n 1, 1) := by decide +kernel
theorem d9_tape_19 : decode c9_tape 19 = .ok (.aaload, 1) := by decide +kernel
theorem d9_tape_20 : decode c9_tape 20 = .ok (.iload_n 2, 1) := by decide +kernel
theorem d9_tape_21 : decode c9_tape 21 = .ok (.iconst 0, 1) := by decide +kernel
theorem d9_tape_22 : decode c9_tape 22 = .ok (.invokevirtual 310, 3) := by decide +kernel
theorem d9_tape_25 : decode c9_tape 25 = .ok (.iconst 1, 1) := by decide +kernel
theorem d9_tape_26 : decode c9_tape 26 = .ok (.ireturn, 1) := by decide +kernel
theorem d9_tape_27 : decode c9_tape 27 = .ok (.iload_n 2, 1) := by decide +kernel
theorem d9_tape_28 : decode c9_tape 28 = .ok (.ifCond .lt 14, 3) := by decide +kernel
theorem d9_tape_31 : decode c9_tape 31 = .ok (.iload_n 2, 1) := by decide +kernel
theorem d9_tape_32 : decode c9_tape 32 = .ok (.iconst 4, 1) := by decide +kernel
theorem d9_tape_33 : decode c9_tape 33 = .ok (.if_icmp .gt 9, 3) := by decide +kernel
theorem d9_tape_36 : decode c9_tape 36 = .ok (.iload_n 3, 1) := by decide +kernel
theorem d9_tape_37 : decode c9_tape 37 = .ok (.bipush 60, 2) := by decide +kernel
theorem d9_tape_39 : decode c9_tape 39 = .ok (.if_icmp .le 6, 3) := by decide +kernel
theorem d9_tape_42 : decode c9_tape 42 = .ok (.bipush (-2), 2) := by decide +kernel
theorem d9_tape_44 : decode c9_tape 44 = .ok (.ireturn, 1) := by decide +kernel
theorem d9_tape_45 : decode c9_tape 45 = .ok (.iload_n 3, 1) := by decide +kernel
theorem d9_tape_46 : decode c9_tape 46 = .ok (.ifCond .ge 6, 3) := by decide +kernel
theorem d9_tape_49 : decode c9_tape 49 = .ok (.bipush (-14), 2) := by decide +kernel
theorem d9_tape_51 : decode c9_tape 51 = .ok (.ireturn, 1) := by decide +kernel
theorem d9_tape_52 : decode c9_tape 52 = .ok (.aload_n 0, 1) := by decide +kernel
theorem d9_tape_53 : decode c9_tape 53 = .ok (.getfield 39, 3) := by decide +kernel
theorem d9_tape_56 : decode c9_tape 56 = .ok (.iload_n 1, 1) := by decide +kernel
theorem d9_tape_57 : decode c9_tape 57 = .ok (.aaload, 1) := by decide +kernel
theorem d9_tape_58 : decode c9_tape 58 = .ok (.iload_n 2, 1) := by decide +kernel
theorem d9_tape_59 : decode c9_tape 59 = .ok (.iload_n 3, 1) := by decide +kernel
theorem d9_tape_60 : decode c9_tape 60 = .ok (.invokevirtual 310, 3) := by decide +kernel
theorem d9_tape_63 : decode c9_tape 63 = .ok (.iconst 1, 1) := by decide +kernel
theorem d9_tape_64 : decode c9_tape 64 = .ok (.ireturn, 1) := by decide +kernel
set_option maxHeartbeats 4000000 in
set_option maxRecDepth 100000 in
theorem k9_tapec (l : Launch) (E : En) (xo : Nat) (xa : Nat → Nat) (X : Nat → Int) (tk : Nat → Option Nat) (qa : Nat) (qi : Nat) (L : Nat → Int) (it : Int → Int) (t : Int) (s : Int) (n : Int) (r_t : R32 t) (r_s : R32 s) (r_n : R32 n) (htq : 0 ≤ t ∧ t ≤ 5) (htk : tk t.toNat = some qa) (hL : (-1 ≤ L 0 ∧ L 0 ≤ 4) ∧ (0 ≤ L 1 ∧ L 1 ≤ 60) ∧ (L 0 < 0 → L 1 = 0)) : Cm l E y9_tape c9_tape 4 (some .int) { frames := 2, cells := 0, slots := 0, locals := 37 } [.ref xo, .int (iZ t), .int (iZ s), .int (iZ n)] [(xo, xO xa X), (xa 9, aRef E 5 6 tk), (qa, o6 (some qi) L), (qi, aLng E 60 it)] (fun r ws => ∃ (v : Int), ∃ (l0 : Int), ∃ (l1 : Int), ∃ (it1 : Int → Int), r = some (.int (iZ v)) ∧ ws = [(xo, xO xa X), (xa 9, aRef E 5 6 tk), (qa, o6 (some qi) (upS (upS L 0 l0) 1 l1)), (qi, aLng E 60 it1)] ∧ (v = tapeA t s n ∧ ((tapeOk t s n ∧ l0 = s ∧ l1 = tapeL s n ∧ it1 = fun _ => 0) ∨ (¬ tapeOk t s n ∧ l0 = L 0 ∧ l1 = L 1 ∧ it1 = it)))) := by
  refine Cm.of (by decide +kernel) (Nat.le_of_ble_eq_true rfl) (fun Γ A hl hargs hin G F => ?_)
  subst hl
  refine j_iload_n G 1 rfl d9_tape_0 ?_
  refine j_SP G (k9_isNoTape (xl Γ) E t (by first | assumption | omega | (simp only [upS, reduceIte, Nat.reduceEqDiff, eq_self, List.length_cons, List.length_nil, List.length_append] <;> omega))) mw9_isNoTape ml9_270 [] rfl ⟨Nat.le_of_ble_eq_true rfl, Nat.le_of_ble_eq_true rfl⟩ rfl (rest := []) rfl (Nat.le_of_ble_eq_true rfl) d9_tape_1 ⟨Nat.le_of_ble_eq_true rfl, Nat.le_of_ble_eq_true rfl⟩ (fun r hr => ?_)
  obtain ⟨v2, rfl, hq1⟩ := hr
  rcases hq1 with ⟨hq1, rfl⟩ | ⟨hq1, rfl⟩
  ·
    refine j_if_eq (tgt := 9) G d9_tape_4 (by decide) (by decide) (fun h3 => absurd h3 (by decide)) (fun h3 => ?_)
    refine j_iconst G d9_tape_7 ?_
    exact j_iret G F d9_tape_8 ⟨(-1), (L 0), (L 1), it, rfl, rfl, (by exact ⟨by (simp only [tapeA]; (repeat' split) <;> omega), by first | (left; exact ⟨by unfold tapeOk; omega, by first | rfl | omega, by (unfold tapeL; (repeat' split) <;> omega), rfl⟩) | (right; exact ⟨by unfold tapeOk; omega, rfl, rfl, rfl⟩)⟩)⟩
  ·
    refine j_if_eq (tgt := 9) G d9_tape_4 (by decide) (by decide) (fun h4 => ?_) (fun h4 => absurd h4 (by decide))
    refine j_iload_n G 2 rfl d9_tape_9 ?_
    refine j_iconst G d9_tape_10 ?_
    refine j_icmp_ne (tgt := 27) G d9_tape_11 (by decide) (by omega) (by decide) (fun h5 => ?_) (fun h5 => ?_)
    ·
      refine j_iload_n G 2 rfl d9_tape_27 ?_
      refine j_if_lt (tgt := 42) G d9_tape_28 (by decide) (by omega) (fun h6 => ?_) (fun h6 => ?_)
      ·
        refine j_bipush G d9_tape_42 rfl ?_
        exact j_iret G F d9_tape_44 ⟨(-2), (L 0), (L 1), it, rfl, rfl, (by exact ⟨by (simp only [tapeA]; (repeat' split) <;> omega), by first | (left; exact ⟨by unfold tapeOk; omega, by first | rfl | omega, by (unfold tapeL; (repeat' split) <;> omega), rfl⟩) | (right; exact ⟨by unfold tapeOk; omega, rfl, rfl, rfl⟩)⟩)⟩
      ·
        refine j_iload_n G 2 rfl d9_tape_31 ?_
        refine j_iconst G d9_tape_32 ?_
        refine j_icmp_gt (tgt := 42) G d9_tape_33 (by decide) (by omega) (by decide) (fun h7 => ?_) (fun h7 => ?_)
        ·
          refine j_bipush G d9_tape_42 rfl ?_
          exact j_iret G F d9_tape_44 ⟨(-2), (L 0), (L 1), it, rfl, rfl, (by exact ⟨by (simp only [tapeA]; (repeat' split) <;> omega), by first | (left; exact ⟨by unfold tapeOk; omega, by first | rfl | omega, by (unfold tapeL; (repeat' split) <;> omega), rfl⟩) | (right; exact ⟨by unfold tapeOk; omega, rfl, rfl, rfl⟩)⟩)⟩
        ·
          refine j_iload_n G 3 rfl d9_tape_36 ?_
          refine j_bipush G d9_tape_37 rfl ?_
          refine j_icmp_le (tgt := 45) G d9_tape_39 (by decide) (by omega) (by decide) (fun h8 => ?_) (fun h8 => ?_)
          ·
            refine j_iload_n G 3 rfl d9_tape_45 ?_
            refine j_if_ge (tgt := 52) G d9_tape_46 (by decide) (by omega) (fun h9 => ?_) (fun h9 => ?_)
            ·
              refine j_aload_n G 0 rfl d9_tape_52 ?_
              refine j_get G 0 9 9 in9 fl9_39 d9_tape_53 rfl rfl (by decide) (v := .ref (xa 9)) rfl rfl ?_
              refine j_iload_n G 1 rfl d9_tape_56 ?_
              refine j_aald G 1 5 rfl rfl (by omega) d9_tape_57 (v := .ref qa) (by rw [htk]; rfl) ?_
              refine j_iload_n G 2 rfl d9_tape_58 ?_
              refine j_iload_n G 3 rfl d9_tape_59 ?_
              refine j_VM G (rm' := { frames := 1, cells := 0, slots := 0, locals := 14 }) (wc := [(qa, o6 (some qi) L), (qi, aLng E 60 it)]) (wr := [(xo, xO xa X), (xa 9, aRef E 5 6 tk)]) (k6_hold (xl Γ) E qa qi L it s n (by first | assumption | omega | (simp only [upS, reduceIte, Nat.reduceEqDiff, eq_self, List.length_cons, List.length_nil, List.length_append] <;> omega)) (by first | assumption | omega | (simp only [upS, reduceIte, Nat.reduceEqDiff, eq_self, List.length_cons, List.length_nil, List.length_append] <;> omega))) mw6_hold ml9_310 [2, 3] [0, 1] rfl rfl ⟨rfl, rfl⟩ (by decide) 2 6 rfl rfl rfl ⟨Nat.le_of_ble_eq_true rfl, Nat.le_of_ble_eq_true rfl⟩ rfl (rest := []) rfl (Nat.le_of_ble_eq_true rfl) d9_tape_60 ⟨Nat.le_of_ble_eq_true rfl, Nat.le_of_ble_eq_true rfl⟩ (fun r w1 hr => ?_)
              obtain ⟨rfl, rfl, hq10⟩ := hr
              refine j_eq (ws' := [(xo, xO xa X), (xa 9, aRef E 5 6 tk), (qa, o6 (some qi) (upS (upS L 0 s) 1 (min n 60))), (qi, aLng E 60 (fun _ => 0))]) rfl rfl rfl ?_
              refine j_iconst G d9_tape_63 ?_
              exact j_iret G F d9_tape_64 ⟨1, s, (min n 60), (fun _ => 0), rfl, rfl, (by exact ⟨by (simp only [tapeA]; (repeat' split) <;> omega), by first | (left; exact ⟨by unfold tapeOk; omega, by first | rfl | omega, by (unfold tapeL; (repeat' split) <;> omega), rfl⟩) | (right; exact ⟨by unfold tapeOk; omega, rfl, rfl, rfl⟩)⟩)⟩
            ·
              refine j_bipush G d9_tape_49 rfl ?_
              exact j_iret G F d9_tape_51 ⟨(-14), (L 0), (L 1), it, rfl, rfl, (by exact ⟨by (simp only [tapeA]; (repeat' split) <;> omega), by first | (left; exact ⟨by unfold tapeOk; omega, by first | rfl | omega, by (unfold tapeL; (repeat' split) <;> omega), rfl⟩) | (right; exact ⟨by unfold tapeOk; omega, rfl, rfl, rfl⟩)⟩)⟩
          ·
            refine j_bipush G d9_tape_42 rfl ?_
            exact j_iret G F d9_tape_44 ⟨(-2), (L 0), (L 1), it, rfl, rfl, (by exact ⟨by (simp only [tapeA]; (repeat' split) <;> omega), by first | (left; exact ⟨by unfold tapeOk; omega, by first | rfl | omega, by (unfold tapeL; (repeat' split) <;> omega), rfl⟩) | (right; exact ⟨by unfold tapeOk; omega, rfl, rfl, rfl⟩)⟩)⟩
    ·
      refine j_aload_n G 0 rfl d9_tape_14 ?_
      refine j_get G 0 9 9 in9 fl9_39 d9_tape_15 rfl rfl (by decide) (v := .ref (xa 9)) rfl rfl ?_
      refine j_iload_n G 1 rfl d9_tape_18 ?_
      refine j_aald G 1 5 rfl rfl (by omega) d9_tape_19 (v := .ref qa) (by rw [htk]; rfl) ?_
      refine j_iload_n G 2 rfl d9_tape_20 ?_
      refine j_iconst G d9_tape_21 ?_
      refine j_VM G (rm' := { frames := 1, cells := 0, slots := 0, locals := 14 }) (wc := [(qa, o6 (some qi) L), (qi, aLng E 60 it)]) (wr := [(xo, xO xa X), (xa 9, aRef E 5 6 tk)]) (k6_hold (xl Γ) E qa qi L it s 0 (by first | assumption | omega | (simp only [upS, reduceIte, Nat.reduceEqDiff, eq_self, List.length_cons, List.length_nil, List.length_append] <;> omega)) (by first | assumption | omega | (simp only [upS, reduceIte, Nat.reduceEqDiff, eq_self, List.length_cons, List.length_nil, List.length_append] <;> omega))) mw6_hold ml9_310 [2, 3] [0, 1] rfl rfl ⟨rfl, rfl⟩ (by decide) 2 6 rfl rfl rfl ⟨Nat.le_of_ble_eq_true rfl, Nat.le_of_ble_eq_true rfl⟩ rfl (rest := []) rfl (Nat.le_of_ble_eq_true rfl) d9_tape_22 ⟨Nat.le_of_ble_eq_true rfl, Nat.le_of_ble_eq_true rfl⟩ (fun r w1 hr => ?_)
      obtain ⟨rfl, rfl, hq11⟩ := hr
      refine j_eq (ws' := [(xo, xO xa X), (xa 9, aRef E 5 6 tk), (qa, o6 (some qi) (upS (upS L 0 s) 1 (min 0 60))), (qi, aLng E 60 (fun _ => 0))]) rfl rfl rfl ?_
      refine j_iconst G d9_tape_25 ?_
      exact j_iret G F d9_tape_26 ⟨1, s, (min 0 60), (fun _ => 0), rfl, rfl, (by exact ⟨by (simp only [tapeA]; (repeat' split) <;> omega), by first | (left; exact ⟨by unfold tapeOk; omega, by first | rfl | omega, by (unfold tapeL; (repeat' split) <;> omega), rfl⟩) | (right; exact ⟨by unfold tapeOk; omega, rfl, rfl, rfl⟩)⟩)⟩
theorem d9_item_9 : decode c9_item 9 = .ok (.aload_n 0, 1) := by decide +kernel
theorem d9_item_10 : decode c9_item 10 = .ok (.getfield 39, 3) := by decide +kernel
theorem d9_item_13 : decode c9_item 13 = .ok (.iload_n 1, 1) := by decide +kernel
theorem d9_item_14 : decode c9_item 14 = .ok (.aaload, 1) := by decide +kernel
theorem d9_item_15 : decode c9_item 15 = .ok (.astore 5, 2) := by decide +kernel
theorem d9_item_17 : decode c9_item 17 = .ok (.aload 5, 2) := by decide +kernel
theorem d9_item_19 : decode c9_item 19 = .ok (.invokevirtual 273, 3) := by decide +kernel
theorem d9_item_22 : decode c9_item 22 = .ok (.ifCond .eq 6, 3) := by decide +kernel
theorem d9_item_25 : decode c9_item 25 = .ok (.bipush (-11), 2) := by decide +kernel
theorem d9_item_27 : decode c9_item 27 = .ok (.ireturn, 1) := by decide +kernel
theorem d9_item_28 : decode c9_item 28 = .ok (.aload 5, 2) := by decide +kernel
theorem d9_item_30 : decode c9_item 30 = .ok (.iload_n 2, 1) := by decide +kernel
theorem d9_item_31 : decode c9_item 31 = .ok (.i2l, 1) := by decide +kernel
theorem d9_item_32 : decode c9_item 32 = .ok (.invokevirtual 314, 3) := by decide +kernel
theorem d9_item_35 : decode c9_item 35 = .ok (.ifCond .ne 6, 3) := by decide +kernel
theorem d9_item_38 : decode c9_item 38 = .ok (.bipush (-13), 2) := by decide +kernel
theorem d9_item_40 : decode c9_item 40 = .ok (.ireturn, 1) := by decide +kernel
theorem d9_item_41 : decode c9_item 41 = .ok (.aload 5, 2) := by decide +kernel
theorem d9_item_43 : decode c9_item 43 = .ok (.getfield 318, 3) := by decide +kernel
theorem d9_item_46 : decode c9_item 46 = .ok (.iload_n 2, 1) := by decide +kernel
theorem d9_item_47 : decode c9_item 47 = .ok (.aload 5, 2) := by decide +kernel
theorem d9_item_49 : decode c9_item 49 = .ok (.lload_n 3, 1) := by decide +kernel
theorem d9_item_50 : decode c9_item 50 = .ok (.invokevirtual 322, 3) := by decide +kernel
theorem d9_item_53 : decode c9_item 53 = .ok (.lastore, 1) := by decide +kernel
theorem d9_item_54 : decode c9_item 54 = .ok (.iconst 1, 1) := by decide +kernel
theorem d9_item_55 : decode c9_item 55 = .ok (.ireturn, 1) := by decide +kernel
set_option maxHeartbeats 4000000 in
set_option maxRecDepth 100000 in
theorem k9_itemc (l : Launch) (E : En) (xo : Nat) (xa : Nat → Nat) (X : Nat → Int) (tk : Nat → Option Nat) (qa : Nat) (qi : Nat) (L : Nat → Int) (it : Int → Int) (t : Int) (i : Int) (w : Int) (r_t : R32 t) (r_i : R32 i) (r_w : R64 w) (htq : 0 ≤ t ∧ t ≤ 5) (htk : tk t.toNat = some qa) (hL : (-1 ≤ L 0 ∧ L 0 ≤ 4) ∧ (0 ≤ L 1 ∧ L 1 ≤ 60) ∧ (L 0 < 0 → L 1 = 0)) : Cm l E y9_item c9_item 6 (some .int) { frames := 1, cells := 0, slots := 0, locals := 22 } [.ref xo, .int (iZ t), .int (iZ i), .long (lZ w)] [(xo, xO xa X), (xa 9, aRef E 5 6 tk), (qa, o6 (some qi) L), (qi, aLng E 60 it)] (fun r ws => ∃ (v : Int), ∃ (it1 : Int → Int), r = some (.int (iZ v)) ∧ ws = [(xo, xO xa X), (xa 9, aRef E 5 6 tk), (qa, o6 (some qi) L), (qi, aLng E 60 it1)] ∧ ((¬ L 0 < 0 ∧ (0 ≤ i ∧ i < L 1) ∧ v = 1 ∧ it1 = upI it i (nar (L 0) w)) ∨ (¬ (¬ L 0 < 0 ∧ (0 ≤ i ∧ i < L 1)) ∧ v = (if L 0 < 0 then -11 else -13) ∧ it1 = it))) := by
  refine Cm.of (by decide +kernel) (Nat.le_of_ble_eq_true rfl) (fun Γ A hl hargs hin G F => ?_)
  subst hl
  refine j_iload_n G 1 rfl d9_item_0 ?_
  refine j_SP G (k9_isNoTape (xl Γ) E t (by first | assumption | omega | (simp only [upS, reduceIte, Nat.reduceEqDiff, eq_self, List.length_cons, List.length_nil, List.length_append] <;> omega))) mw9_isNoTape ml9_270 [] rfl ⟨Nat.le_of_ble_eq_true rfl, Nat.le_of_ble_eq_true rfl⟩ rfl (rest := []) rfl (Nat.le_of_ble_eq_true rfl) d9_item_1 ⟨Nat.le_of_ble_eq_true rfl, Nat.le_of_ble_eq_true rfl⟩ (fun r hr => ?_)
  obtain ⟨v2, rfl, hq1⟩ := hr
  rcases hq1 with ⟨hq1, rfl⟩ | ⟨hq1, rfl⟩
  ·
    refine j_if_eq (tgt := 9) G d9_item_4 (by decide) (by decide) (fun h3 => absurd h3 (by decide)) (fun h3 => ?_)
    refine j_iconst G d9_item_7 ?_
    exact j_iret G F d9_item_8 ⟨(-1), it, rfl, rfl, (by first | (left; exact ⟨by omega, by omega, rfl, by rw [hlow]⟩) | (right; refine ⟨by omega, ?_, rfl⟩; (repeat' split) <;> omega))⟩
  ·
    refine j_if_eq (tgt := 9) G d9_item_4 (by decide) (by decide) (fun h4 => ?_) (fun h4 => absurd h4 (by decide))
    refine j_aload_n G 0 rfl d9_item_9 ?_
    refine j_get G 0 9 9 in9 fl9_39 d9_item_10 rfl rfl (by decide) (v := .ref (xa 9)) rfl rfl ?_
    refine j_iload_n G 1 rfl d9_item_13 ?_
    refine j_aald G 1 5 rfl rfl (by omega) d9_item_14 (v := .ref qa) (by rw [htk]; rfl) ?_
    refine j_astore G d9_item_15 (by decide) rfl ?_
    refine j_aload G 0 rfl d9_item_17 ?_
    refine j_VP G (k6_isEmpty (xl Γ) E qa qi L (by first | assumption | omega | (simp only [upS, reduceIte, Nat.reduceEqDiff, eq_self, List.length_cons, List.length_nil, List.length_append] <;> omega))) mw6_isEmpty ml9_273 [2] rfl 2 6 rfl rfl rfl ⟨Nat.le_of_ble_eq_true rfl, Nat.le_of_ble_eq_true rfl⟩ rfl (rest := []) rfl (Nat.le_of_ble_eq_true rfl) d9_item_19 ⟨Nat.le_of_ble_eq_true rfl, Nat.le_of_ble_eq_true rfl⟩ (fun r hr => ?_)
    obtain ⟨v6, rfl, hq5⟩ := hr
    rcases hq5 with ⟨hq5, rfl⟩ | ⟨hq5, rfl⟩
    ·
      refine j_if_eq (tgt := 28) G d9_item_22 (by decide) (by decide) (fun h7 => absurd h7 (by decide)) (fun h7 => ?_)
      refine j_bipush G d9_item_25 rfl ?_
      exact j_iret G F d9_item_27 ⟨(-11), it, rfl, rfl, (by first | (left; exact ⟨by omega, by omega, rfl, by rw [hlow]⟩) | (right; refine ⟨by omega, ?_, rfl⟩; (repeat' split) <;> omega))⟩
    ·
      refine j_if_eq (tgt := 28) G d9_item_22 (by decide) (by decide) (fun h8 => ?_) (fun h8 => absurd h8 (by decide))
      refine j_aload G 0 rfl d9_item_28 ?_
      refine j_iload_n G 3 rfl d9_item_30 ?_
      refine j_i2l G d9_item_31 (by omega) ?_
      refine j_VP G (k6_reaches (xl Γ) E qa qi L i (by first | assumption | omega | (simp only [upS, reduceIte, Nat.reduceEqDiff, eq_self, List.length_cons, List.length_nil, List.length_append] <;> omega)) (by first | assumption | omega | (simp only [upS, reduceIte, Nat.reduceEqDiff, eq_self, List.length_cons, List.length_nil, List.length_append] <;> omega))) mw6_reaches ml9_314 [2] rfl 2 6 rfl rfl rfl ⟨Nat.le_of_ble_eq_true rfl, Nat.le_of_ble_eq_true rfl⟩ rfl (rest := []) rfl (Nat.le_of_ble_eq_true rfl) d9_item_32 ⟨Nat.le_of_ble_eq_true rfl, Nat.le_of_ble_eq_true rfl⟩ (fun r hr => ?_)
      obtain ⟨v10, rfl, hq9⟩ := hr
      rcases hq9 with ⟨hq9, rfl⟩ | ⟨hq9, rfl⟩
      ·
        refine j_if_ne (tgt := 41) G d9_item_35 (by decide) (by decide) (fun h11 => ?_) (fun h11 => absurd h11 (by decide))
        refine j_aload G 0 rfl d9_item_41 ?_
        refine j_get G 2 6 2 in6 fl9_318 d9_item_43 rfl rfl (by decide) (v := .ref qi) rfl rfl ?_
        refine j_iload_n G 3 rfl d9_item_46 ?_
        refine j_aload G 0 rfl d9_item_47 ?_
        refine j_lload_n G 4 rfl d9_item_49 ?_
        refine j_VP G (k6_lowestOf (xl Γ) E qa qi L w (by first | assumption | omega | (simp only [upS, reduceIte, Nat.reduceEqDiff, eq_self, List.length_cons, List.length_nil, List.length_append] <;> omega)) (by first | assumption | omega | (simp only [upS, reduceIte, Nat.reduceEqDiff, eq_self, List.length_cons, List.length_nil, List.length_append] <;> omega))) mw6_lowestOf ml9_322 [2] rfl 2 6 rfl rfl rfl ⟨Nat.le_of_ble_eq_true rfl, Nat.le_of_ble_eq_true rfl⟩ rfl (rest := [.int (iZ i), .ref qi]) rfl (Nat.le_of_ble_eq_true rfl) d9_item_50 ⟨Nat.le_of_ble_eq_true rfl, Nat.le_of_ble_eq_true rfl⟩ (fun r hr => ?_)
        obtain ⟨v13, rfl, hq12⟩ := hr
        have hlow := hq12
        refine j_last G 3 rfl (by omega) d9_item_53 ?_
        refine j_iconst G d9_item_54 ?_
        exact j_iret G F d9_item_55 ⟨1, (upI it i v13), rfl, rfl, (by first | (left; exact ⟨by omega, by omega, rfl, by rw [hlow]⟩) | (right; refine ⟨by omega, ?_, rfl⟩; (repeat' split) <;> omega))⟩
      ·
        refine j_if_ne (tgt := 41) G d9_item_35 (by decide) (by decide) (fun h14 => absurd h14 (by decide)) (fun h14 => ?_)
        refine j_bipush G d9_item_38 rfl ?_
        exact j_iret G F d9_item_40 ⟨(-13), it, rfl, rfl, (by first | (left; exact ⟨by omega, by omega, rfl, by rw [hlow]⟩) | (right; refine ⟨by omega, ?_, rfl⟩; (repeat' split) <;> omega))⟩
theorem d9_read_7 : decode c9_read 7 = .ok (.aload_n 0, 1) := by decide +kernel
theorem d9_read_8 : decode c9_read 8 = .ok (.getfield 39, 3) := by decide +kernel
theorem d9_read_11 : decode c9_read 11 = .ok (.iload_n 1, 1) := by decide +kernel
theorem d9_read_12 : decode c9_read 12 = .ok (.aaload, 1) := by decide +kernel
theorem d9_read_13 : decode c9_read 13 = .ok (.iload_n 2, 1) := by decide +kernel
theorem d9_read_14 : decode c9_read 14 = .ok (.i2l, 1) := by decide +kernel
theorem d9_read_15 : decode c9_read 15 = .ok (.invokevirtual 314, 3) := by decide +kernel
theorem d9_read_18 : decode c9_read 18 = .ok (.ifCond .ne 7, 3) := by decide +kernel
theorem d9_read_25 : decode c9_read 25 = .ok (.aload_n 0, 1) := by decide +kernel
theorem d9_read_26 : decode c9_read 26 = .ok (.getfield 39, 3) := by decide +kernel
theorem d9_read_29 : decode c9_read 29 = .ok (.iload_n 1, 1) := by decide +kernel
theorem d9_read_30 : decode c9_read 30 = .ok (.aaload, 1) := by decide +kernel
theorem d9_read_31 : decode c9_read 31 = .ok (.getfield 318, 3) := by decide +kernel
theorem d9_read_34 : decode c9_read 34 = .ok (.iload_n 2, 1) := by decide +kernel
theorem d9_read_35 : decode c9_read 35 = .ok (.laload, 1) := by decide +kernel
theorem d9_read_36 : decode c9_read 36 = .ok (.lreturn, 1) := by decide +kernel
set_option maxHeartbeats 4000000 in
set_option maxRecDepth 100000 in
theorem k9_readc (l : Launch) (E : En) (xo : Nat) (xa : Nat → Nat) (X : Nat → Int) (tk : Nat → Option Nat) (qa : Nat) (qi : Nat) (L : Nat → Int) (it : Int → Int) (t : Int) (i : Int) (r_t : R32 t) (r_i : R32 i) (htq : 0 ≤ t ∧ t ≤ 5) (htk : tk t.toNat = some qa) (hL : (-1 ≤ L 0 ∧ L 0 ≤ 4) ∧ (0 ≤ L 1 ∧ L 1 ≤ 60) ∧ (L 0 < 0 → L 1 = 0)) : Cp l E y9_read c9_read 3 (some .long) 1 22 [.ref xo, .int (iZ t), .int (iZ i)] [(xo, xO xa X), (xa 9, aRef E 5 6 tk), (qa, o6 (some qi) L), (qi, aLng E 60 it)] (fun r => ∃ (v : Int), r = some (.long (lZ v)) ∧ (v = (if ¬ L 0 < 0 ∧ (0 ≤ i ∧ i < L 1) then it i else -9223372036854775808))) := by
  refine Cp.of (by decide +kernel) (Nat.le_of_ble_eq_true rfl) (fun Γ hl hargs G F => ?_)
  subst hl
  refine j_iload_n G 1 rfl d9_read_0 ?_
  refine j_SP G (k9_isNoTape (xl Γ) E t (by first | assumption | omega | (simp only [upS, reduceIte, Nat.reduceEqDiff, eq_self, List.length_cons, List.length_nil, List.length_append] <;> omega))) mw9_isNoTape ml9_270 [] rfl ⟨Nat.le_of_ble_eq_true rfl, Nat.le_of_ble_eq_true rfl⟩ rfl (rest := []) rfl (Nat.le_of_ble_eq_true rfl) d9_read_1 ⟨Nat.le_of_ble_eq_true rfl, Nat.le_of_ble_eq_true rfl⟩ (fun r hr => ?_)
  obtain ⟨v2, rfl, hq1⟩ := hr
  rcases hq1 with ⟨hq1, rfl⟩ | ⟨hq1, rfl⟩
  ·
    refine j_if_ne (tgt := 21) G d9_read_4 (by decide) (by decide) (fun h3 => ?_) (fun h3 => absurd h3 (by decide))
    refine j_ldc2 G (-9223372036854775808) ct9_149 (by decide) d9_read_21 ?_
    exact j_lret G F d9_read_24 ⟨(-9223372036854775808), rfl, (by first | (rw [if_pos (by omega)]; done) | (rw [if_neg (by omega)]; done))⟩
  ·
    refine j_if_ne (tgt := 21) G d9_read_4 (by decide) (by decide) (fun h4 => absurd h4 (by decide)) (fun h4 => ?_)
    refine j_aload_n G 0 rfl d9_read_7 ?_
    refine j_get G 0 9 9 in9 fl9_39 d9_read_8 rfl rfl (by decide) (v := .ref (xa 9)) rfl rfl ?_
    refine j_iload_n G 1 rfl d9_read_11 ?_
    refine j_aald G 1 5 rfl rfl (by omega) d9_read_12 (v := .ref qa) (by rw [htk]; rfl) ?_
    refine j_iload_n G 2 rfl d9_read_13 ?_
    refine j_i2l G d9_read_14 (by omega) ?_
    refine j_VP G (k6_reaches (xl Γ) E qa qi L i (by first | assumption | omega | (simp only [upS, reduceIte, Nat.reduceEqDiff, eq_self, List.length_cons, List.length_nil, List.length_append] <;> omega)) (by first | assumption | omega | (simp only [upS, reduceIte, Nat.reduceEqDiff, eq_self, List.length_cons, List.length_nil, List.length_append] <;> omega))) mw6_reaches ml9_314 [2] rfl 2 6 rfl rfl rfl ⟨Nat.le_of_ble_eq_true rfl, Nat.le_of_ble_eq_true rfl⟩ rfl (rest := []) rfl (Nat.le_of_ble_eq_true rfl) d9_read_15 ⟨Nat.le_of_ble_eq_true rfl, Nat.le_of_ble_eq_true rfl⟩ (fun r hr => ?_)
    obtain ⟨v6, rfl, hq5⟩ := hr
    rcases hq5 with ⟨hq5, rfl⟩ | ⟨hq5, rfl⟩
    ·
      refine j_if_ne (tgt := 25) G d9_read_18 (by decide) (by decide) (fun h7 => ?_) (fun h7 => absurd h7 (by decide))
      refine j_aload_n G 0 rfl d9_read_25 ?_
      refine j_get G 0 9 9 in9 fl9_39 d9_read_26 rfl rfl (by decide) (v := .ref (xa 9)) rfl rfl ?_
      refine j_iload_n G 1 rfl d9_read_29 ?_
      refine j_aald G 1 5 rfl rfl (by omega) d9_read_30 (v := .ref qa) (by rw [htk]; rfl) ?_
      refine j_get G 2 6 2 in6 fl9_318 d9_read_31 rfl rfl (by decide) (v := .ref qi) rfl rfl ?_
      refine j_iload_n G 2 rfl d9_read_34 ?_
      refine j_lald G 3 rfl (by omega) d9_read_35 ?_
      exact j_lret G F d9_read_36 ⟨it i, rfl, (by first | (rw [if_pos (by omega)]; done) | (rw [if_neg (by omega)]; done))⟩
    ·
      refine j_if_ne (tgt := 25) G d9_read_18 (by decide) (by decide) (fun h8 => absurd h8 (by decide)) (fun h8 => ?_)
      refine j_ldc2 G (-9223372036854775808) ct9_149 (by decide) d9_read_21 ?_
      exact j_lret G F d9_read_24 ⟨(-9223372036854775808), rfl, (by first | (rw [if_pos (by omega)]; done) | (rw [if_neg (by omega)]; done))⟩
theorem d9_shift_0 : decode c9_shift 0 = .ok (.iload_n 1, 1) := by decide +kernel
theorem d9_shift_1 : decode c9_shift 1 = .ok (.invokestatic 270, 3) := by decide +kernel
theorem d9_shift_4 : decode c9_shift 4 = .ok (.ifCond .ne 10, 3) := by decide +kernel
theorem d9_shift_7 : decode c9_shift 7 = .ok (.iload_n 3, 1) := by decide +kernel
theorem d9_shift_8 : decode c9_shift 8 = .ok (.invokestatic 270, 3) := by decide +kernel
theorem d9_shift_11 : decode c9_shift 11 = .ok (.ifCond .eq 5, 3) := by decide +kernel
theorem d9_shift_14 : decode c9_shift 14 = .ok (.iconst (-1), 1) := by decide +kernel
theorem d9_shift_15 : decode c9_shift 15 = .ok (.ireturn, 1) := by decide +kernel
theorem mw9_shift : MV y9_shift c9_shift 8 (some .int) 5 := ⟨cd9_shift, ini9, na9_shift, im9_shift, se9_shift⟩
set_option maxHeartbeats 4000000 in
set_option maxRecDepth 100000 in
theorem k9_shiftn (l : Launch) (E : En) (xo : Nat) (xa : Nat → Nat) (X : Nat → Int) (t : Int) (i : Int) (o : Int) (j : Int) (n : Int) (r_t : R32 t) (r_i : R32 i) (r_o : R32 o) (r_j : R32 j) (r_n : R32 n) (htq : ¬ ((0 ≤ t ∧ t ≤ 5) ∧ (0 ≤ o ∧ o ≤ 5))) : Cp l E y9_shift c9_shift 8 (some .int) 1 20 [.ref xo, .int (iZ t), .int (iZ i), .int (iZ o), .int (iZ j), .int (iZ n)] [(xo, xO xa X)] (fun r => ∃ (v : Int), r = some (.int (iZ v)) ∧ (v = -1)) := by
  refine Cp.of (by decide +kernel) (Nat.le_of_ble_eq_true rfl) (fun Γ hl hargs G F => ?_)
  subst hl
  refine j_iload_n G 1 rfl d9_shift_0 ?_
  refine j_SP G (k9_isNoTape (xl Γ) E t (by first | assumption | omega | (simp only [upS, reduceIte, Nat.reduceEqDiff, eq_self, List.length_cons, List.length_nil, List.length_append] <;> omega))) mw9_isNoTape ml9_270 [] rfl ⟨Nat.le_of_ble_eq_true rfl, Nat.le_of_ble_eq_true rfl⟩ rfl (rest := []) rfl (Nat.le_of_ble_eq_true rfl) d9_shift_1 ⟨Nat.le_of_ble_eq_true rfl, Nat.le_of_ble_eq_true rfl⟩ (fun r hr => ?_)
  obtain ⟨v2, rfl, hq1⟩ := hr
  rcases hq1 with ⟨hq1, rfl⟩ | ⟨hq1, rfl⟩
  ·
    refine j_if_ne (tgt := 14) G d9_shift_4 (by decide) (by decide) (fun h3 => ?_) (fun h3 => absurd h3 (by decide))
    refine j_iconst G d9_shift_14 ?_
    exact j_iret G F d9_shift_15 ⟨(-1), rfl, (by first | rfl | omega)⟩
  ·
    refine j_if_ne (tgt := 14) G d9_shift_4 (by decide) (by decide) (fun h4 => absurd h4 (by decide)) (fun h4 => ?_)
    refine j_iload_n G 3 rfl d9_shift_7 ?_
    refine j_SP G (k9_isNoTape (xl Γ) E o (by first | assumption | omega | (simp only [upS, reduceIte, Nat.reduceEqDiff, eq_self, List.length_cons, List.length_nil, List.length_append] <;> omega))) mw9_isNoTape ml9_270 [] rfl ⟨Nat.le_of_ble_eq_true rfl, Nat.le_of_ble_eq_true rfl⟩ rfl (rest := []) rfl (Nat.le_of_ble_eq_true rfl) d9_shift_8 ⟨Nat.le_of_ble_eq_true rfl, Nat.le_of_ble_eq_true rfl⟩ (fun r hr => ?_)
    obtain ⟨v6, rfl, hq5⟩ := hr
    rcases hq5 with ⟨hq5, rfl⟩ | ⟨hq5, rfl⟩
    ·
      refine j_if_eq (tgt := 16) G d9_shift_11 (by decide) (by decide) (fun h7 => absurd h7 (by decide)) (fun h7 => ?_)
      refine j_iconst G d9_shift_14 ?_
      exact j_iret G F d9_shift_15 ⟨(-1), rfl, (by first | rfl | omega)⟩
    ·
      omega
theorem d9_shift_16 : decode c9_shift 16 = .ok (.aload_n 0, 1) := by decide +kernel
theorem d9_shift_17 : decode c9_shift 17 = .ok (.getfield 39, 3) := by decide +kernel
theorem d9_shift_20 : decode c9_shift 20 = .ok (.iload_n 1, 1) := by decide +kernel
theorem d9_shift_21 : decode c9_shift 21 = .ok (.aaload, 1) := by decide +kernel
theorem d9_shift_22 : decode c9_shift 22 = .ok (.astore 6, 2) := by decide +kernel
theorem d9_shift_24 : decode c9_shift 24 = .ok (.aload_n 0, 1) := by decide +kernel
theorem d9_shift_25 : decode c9_shift 25 = .ok (.getfield 39, 3) := by decide +kernel
theorem d9_shift_28 : decode c9_shift 28 = .ok (.iload_n 3, 1) := by decide +kernel
theorem d9_shift_29 : decode c9_shift 29 = .ok (.aaload, 1) := by decide +kernel
theorem d9_shift_30 : decode c9_shift 30 = .ok (.astore 7, 2) := by decide +kernel
theorem d9_shift_32 : decode c9_shift 32 = .ok (.aload 6, 2) := by decide +kernel
theorem d9_shift_34 : decode c9_shift 34 = .ok (.invokevirtual 273, 3) := by decide +kernel
theorem d9_shift_37 : decode c9_shift 37 = .ok (.ifCond .ne 11, 3) := by decide +kernel
theorem d9_shift_40 : decode c9_shift 40 = .ok (.aload 7, 2) := by decide +kernel
theorem d9_shift_42 : decode c9_shift 42 = .ok (.invokevirtual 273, 3) := by decide +kernel
theorem d9_shift_45 : decode c9_shift 45 = .ok (.ifCond .eq 6, 3) := by decide +kernel
theorem d9_shift_48 : decode c9_shift 48 = .ok (.bipush (-11), 2) := by decide +kernel
theorem d9_shift_50 : decode c9_shift 50 = .ok (.ireturn, 1) := by decide +kernel
theorem d9_shift_51 : decode c9_shift 51 = .ok (.aload 6, 2) := by decide +kernel
theorem d9_shift_53 : decode c9_shift 53 = .ok (.getfield 277, 3) := by decide +kernel
theorem d9_shift_56 : decode c9_shift 56 = .ok (.aload 7, 2) := by decide +kernel
theorem d9_shift_58 : decode c9_shift 58 = .ok (.getfield 277, 3) := by decide +kernel
theorem d9_shift_61 : decode c9_shift 61 = .ok (.if_icmp .eq 6, 3) := by decide +kernel
theorem d9_shift_64 : decode c9_shift 64 = .ok (.bipush (-12), 2) := by decide +kernel
theorem d9_shift_66 : decode c9_shift 66 = .ok (.ireturn, 1) := by decide +kernel
theorem d9_shift_67 : decode c9_shift 67 = .ok (.aload 6, 2) := by decide +kernel
theorem d9_shift_69 : decode c9_shift 69 = .ok (.iload_n 2, 1) := by decide +kernel
theorem d9_shift_70 : decode c9_shift 70 = .ok (.iload 5, 2) := by decide +kernel
theorem d9_shift_72 : decode c9_shift 72 = .ok (.invokevirtual 326, 3) := by decide +kernel
theorem d9_shift_75 : decode c9_shift 75 = .ok (.ifCond .eq 15, 3) := by decide +kernel
theorem d9_shift_78 : decode c9_shift 78 = .ok (.aload 7, 2) := by decide +kernel
theorem d9_shift_80 : decode c9_shift 80 = .ok (.iload 4, 2) := by decide +kernel
theorem d9_shift_82 : decode c9_shift 82 = .ok (.iload 5, 2) := by decide +kernel
theorem d9_shift_84 : decode c9_shift 84 = .ok (.invokevirtual 326, 3) := by decide +kernel
theorem d9_shift_87 : decode c9_shift 87 = .ok (.ifCond .ne 6, 3) := by decide +kernel
theorem d9_shift_90 : decode c9_shift 90 = .ok (.bipush (-13), 2) := by decide +kernel
theorem d9_shift_92 : decode c9_shift 92 = .ok (.ireturn, 1) := by decide +kernel
theorem d9_shift_93 : decode c9_shift 93 = .ok (.aload 6, 2) := by decide +kernel
theorem d9_shift_95 : decode c9_shift 95 = .ok (.getfield 318, 3) := by decide +kernel
theorem d9_shift_98 : decode c9_shift 98 = .ok (.iload_n 2, 1) := by decide +kernel
theorem d9_shift_99 : decode c9_shift 99 = .ok (.aload 7, 2) := by decide +kernel
theorem d9_shift_101 : decode c9_shift 101 = .ok (.getfield 318, 3) := by decide +kernel
theorem d9_shift_104 : decode c9_shift 104 = .ok (.iload 4, 2) := by decide +kernel
theorem d9_shift_106 : decode c9_shift 106 = .ok (.iload 5, 2) := by decide +kernel
theorem d9_shift_108 : decode c9_shift 108 = .ok (.invokestatic 330, 3) := by decide +kernel
theorem d9_shift_111 : decode c9_shift 111 = .ok (.iload 5, 2) := by decide +kernel
theorem d9_shift_113 : decode c9_shift 113 = .ok (.ireturn, 1) := by decide +kernel
set_option maxHeartbeats 4000000 in
set_option maxRecDepth 100000 in
theorem k9_shifts (l : Launch) (E : En) (xo : Nat) (xa : Nat → Nat) (X : Nat → Int) (tk : Nat → Option Nat) (qa : Nat) (qi : Nat) (L : Nat → Int) (it : Int → Int) (t : Int) (i : Int) (o : Int) (j : Int) (n : Int) (r_t : R32 t) (r_i : R32 i) (r_o : R32 o) (r_j : R32 j) (r_n : R32 n) (htq : 0 ≤ t ∧ t ≤ 5) (htk : tk t.toNat = some qa) (hL : (-1 ≤ L 0 ∧ L 0 ≤ 4) ∧ (0 ≤ L 1 ∧ L 1 ≤ 60) ∧ (L 0 < 0 → L 1 = 0)) (hoq : 0 ≤ o ∧ o ≤ 5) (hto : tk o.toNat = some qa) : Cm l E y9_shift c9_shift 8 (some .int) { frames := 1, cells := 0, slots := 0, locals := 60 } [.ref xo, .int (iZ t), .int (iZ i), .int (iZ o), .int (iZ j), .int (iZ n)] [(xo, xO xa X), (xa 9, aRef E 5 6 tk), (qa, o6 (some qi) L), (qi, aLng E 60 it)] (fun r ws => ∃ (v : Int), ∃ (it1 : Int → Int), r = some (.int (iZ v)) ∧ ws = [(xo, xO xa X), (xa 9, aRef E 5 6 tk), (qa, o6 (some qi) L), (qi, aLng E 60 it1)] ∧ (((¬ L 0 < 0 ∧ ¬ L 0 < 0 ∧ L 0 = L 0 ∧ ¬ (n < 0 ∨ i < 0 ∨ j < 0 ∨ L 1 - n < i ∨ L 1 - n < j)) ∧ v = n ∧ it1 = (fun q => if j ≤ q ∧ q < j + n then it (i + (q - j)) else it q)) ∨ (¬ (¬ L 0 < 0 ∧ ¬ L 0 < 0 ∧ L 0 = L 0 ∧ ¬ (n < 0 ∨ i < 0 ∨ j < 0 ∨ L 1 - n < i ∨ L 1 - n < j)) ∧ v = (if L 0 < 0 ∨ L 0 < 0 then -11 else if ¬ L 0 = L 0 then -12 else -13) ∧ it1 = it))) := by
  refine Cm.of (by decide +kernel) (Nat.le_of_ble_eq_true rfl) (fun Γ A hl hargs hin G F => ?_)
  subst hl
  refine j_iload_n G 1 rfl d9_shift_0 ?_
  refine j_SP G (k9_isNoTape (xl Γ) E t (by first | assumption | omega | (simp only [upS, reduceIte, Nat.reduceEqDiff, eq_self, List.length_cons, List.length_nil, List.length_append] <;> omega))) mw9_isNoTape ml9_270 [] rfl ⟨Nat.le_of_ble_eq_true rfl, Nat.le_of_ble_eq_true rfl⟩ rfl (rest := []) rfl (Nat.le_of_ble_eq_true rfl) d9_shift_1 ⟨Nat.le_of_ble_eq_true rfl, Nat.le_of_ble_eq_true rfl⟩ (fun r hr => ?_)
  obtain ⟨v2, rfl, hq1⟩ := hr
  rcases hq1 with ⟨hq1, rfl⟩ | ⟨hq1, rfl⟩
  ·
    refine j_if_ne (tgt := 14) G d9_shift_4 (by decide) (by decide) (fun h3 => ?_) (fun h3 => absurd h3 (by decide))
    refine j_iconst G d9_shift_14 ?_
    exact j_iret G F d9_shift_15 ⟨(-1), it, rfl, rfl, (by first | (left; exact ⟨⟨by omega, by omega, by omega, by omega⟩, rfl, rfl⟩) | (right; refine ⟨by omega, ?_, rfl⟩; (repeat' split) <;> omega))⟩
  ·
    refine j_if_ne (tgt := 14) G d9_shift_4 (by decide) (by decide) (fun h4 => absurd h4 (by decide)) (fun h4 => ?_)
    refine j_iload_n G 3 rfl d9_shift_7 ?_
    refine j_SP G (k9_isNoTape (xl Γ) E o (by first | assumption | omega | (simp only [upS, reduceIte, Nat.reduceEqDiff, eq_self, List.length_cons, List.length_nil, List.length_append] <;> omega))) mw9_isNoTape ml9_270 [] rfl ⟨Nat.le_of_ble_eq_true rfl, Nat.le_of_ble_eq_true rfl⟩ rfl (rest := []) rfl (Nat.le_of_ble_eq_true rfl) d9_shift_8 ⟨Nat.le_of_ble_eq_true rfl, Nat.le_of_ble_eq_true rfl⟩ (fun r hr => ?_)
    obtain ⟨v6, rfl, hq5⟩ := hr
    rcases hq5 with ⟨hq5, rfl⟩ | ⟨hq5, rfl⟩
    ·
      refine j_if_eq (tgt := 16) G d9_shift_11 (by decide) (by decide) (fun h7 => absurd h7 (by decide)) (fun h7 => ?_)
      refine j_iconst G d9_shift_14 ?_
      exact j_iret G F d9_shift_15 ⟨(-1), it, rfl, rfl, (by first | (left; exact ⟨⟨by omega, by omega, by omega, by omega⟩, rfl, rfl⟩) | (right; refine ⟨by omega, ?_, rfl⟩; (repeat' split) <;> omega))⟩
    ·
      refine j_if_eq (tgt := 16) G d9_shift_11 (by decide) (by decide) (fun h8 => ?_) (fun h8 => absurd h8 (by decide))
      refine j_aload_n G 0 rfl d9_shift_16 ?_
      refine j_get G 0 9 9 in9 fl9_39 d9_shift_17 rfl rfl (by decide) (v := .ref (xa 9)) rfl rfl ?_
      refine j_iload_n G 1 rfl d9_shift_20 ?_
      refine j_aald G 1 5 rfl rfl (by omega) d9_shift_21 (v := .ref qa) (by rw [htk]; rfl) ?_
      refine j_astore G d9_shift_22 (by decide) rfl ?_
      refine j_aload_n G 1 rfl d9_shift_24 ?_
      refine j_get G 0 9 9 in9 fl9_39 d9_shift_25 rfl rfl (by decide) (v := .ref (xa 9)) rfl rfl ?_
      refine j_iload_n G 4 rfl d9_shift_28 ?_
      refine j_aald G 1 5 rfl rfl (by omega) d9_shift_29 (v := .ref qa) (by rw [hto]; rfl) ?_
      refine j_astore G d9_shift_30 (by decide) rfl ?_
      refine j_aload G 1 rfl d9_shift_32 ?_
      refine j_VP G (k6_isEmpty (xl Γ) E qa qi L (by first | assumption | omega | (simp only [upS, reduceIte, Nat.reduceEqDiff, eq_self, List.length_cons, List.length_nil, List.length_append] <;> omega))) mw6_isEmpty ml9_273 [2] rfl 2 6 rfl rfl rfl ⟨Nat.le_of_ble_eq_true rfl, Nat.le_of_ble_eq_true rfl⟩ rfl (rest := []) rfl (Nat.le_of_ble_eq_true rfl) d9_shift_34 ⟨Nat.le_of_ble_eq_true rfl, Nat.le_of_ble_eq_true rfl⟩ (fun r hr => ?_)
      obtain ⟨v10, rfl, hq9⟩ := hr
      rcases hq9 with ⟨hq9, rfl⟩ | ⟨hq9, rfl⟩
      ·
        refine j_if_ne (tgt := 48) G d9_shift_37 (by decide) (by decide) (fun h11 => ?_) (fun h11 => absurd h11 (by decide))
        refine j_bipush G d9_shift_48 rfl ?_
        exact j_iret G F d9_shift_50 ⟨(-11), it, rfl, rfl, (by first | (left; exact ⟨⟨by omega, by omega, by omega, by omega⟩, rfl, rfl⟩) | (right; refine ⟨by omega, ?_, rfl⟩; (repeat' split) <;> omega))⟩
      ·
        refine j_if_ne (tgt := 48) G d9_shift_37 (by decide) (by decide) (fun h12 => absurd h12 (by decide)) (fun h12 => ?_)
        refine j_aload G 0 rfl d9_shift_40 ?_
        refine j_VP G (k6_isEmpty (xl Γ) E qa qi L (by first | assumption | omega | (simp only [upS, reduceIte, Nat.reduceEqDiff, eq_self, List.length_cons, List.length_nil, List.length_append] <;> omega))) mw6_isEmpty ml9_273 [2] rfl 2 6 rfl rfl rfl ⟨Nat.le_of_ble_eq_true rfl, Nat.le_of_ble_eq_true rfl⟩ rfl (rest := []) rfl (Nat.le_of_ble_eq_true rfl) d9_shift_42 ⟨Nat.le_of_ble_eq_true rfl, Nat.le_of_ble_eq_true rfl⟩ (fun r hr => ?_)
        obtain ⟨v14, rfl, hq13⟩ := hr
        rcases hq13 with ⟨hq13, rfl⟩ | ⟨hq13, rfl⟩
        ·
          refine j_if_eq (tgt := 51) G d9_shift_45 (by decide) (by decide) (fun h15 => absurd h15 (by decide)) (fun h15 => ?_)
          refine j_bipush G d9_shift_48 rfl ?_
          exact j_iret G F d9_shift_50 ⟨(-11), it, rfl, rfl, (by first | (left; exact ⟨⟨by omega, by omega, by omega, by omega⟩, rfl, rfl⟩) | (right; refine ⟨by omega, ?_, rfl⟩; (repeat' split) <;> omega))⟩
        ·
          refine j_if_eq (tgt := 51) G d9_shift_45 (by decide) (by decide) (fun h16 => ?_) (fun h16 => absurd h16 (by decide))
          refine j_aload G 1 rfl d9_shift_51 ?_
          refine j_get G 2 6 0 in6 fl9_277 d9_shift_53 rfl rfl (by decide) (v := .int (iZ (L 0))) rfl rfl ?_
          refine j_aload G 0 rfl d9_shift_56 ?_
          refine j_get G 2 6 0 in6 fl9_277 d9_shift_58 rfl rfl (by decide) (v := .int (iZ (L 0))) rfl rfl ?_
          refine j_icmp_eq (tgt := 67) G d9_shift_61 (by decide) (by omega) (by omega) (fun h17 => ?_) (fun h17 => ?_)
          ·
            refine j_aload G 1 rfl d9_shift_67 ?_
            refine j_iload_n G 4 rfl d9_shift_69 ?_
            refine j_iload G 7 rfl d9_shift_70 ?_
            refine j_VP G (k6_hasStretch (xl Γ) E qa qi L i n (by first | assumption | omega | (simp only [upS, reduceIte, Nat.reduceEqDiff, eq_self, List.length_cons, List.length_nil, List.length_append] <;> omega)) (by first | assumption | omega | (simp only [upS, reduceIte, Nat.reduceEqDiff, eq_self, List.length_cons, List.length_nil, List.length_append] <;> omega)) (by first | assumption | omega | (simp only [upS, reduceIte, Nat.reduceEqDiff, eq_self, List.length_cons, List.length_nil, List.length_append] <;> omega))) mw6_hasStretch ml9_326 [2] rfl 2 6 rfl rfl rfl ⟨Nat.le_of_ble_eq_true rfl, Nat.le_of_ble_eq_true rfl⟩ rfl (rest := []) rfl (Nat.le_of_ble_eq_true rfl) d9_shift_72 ⟨Nat.le_of_ble_eq_true rfl, Nat.le_of_ble_eq_true rfl⟩ (fun r hr => ?_)
            obtain ⟨v19, rfl, hq18⟩ := hr
            rcases hq18 with ⟨hq18, rfl⟩ | ⟨hq18, rfl⟩
            ·
              refine j_if_eq (tgt := 90) G d9_shift_75 (by decide) (by decide) (fun h20 => absurd h20 (by decide)) (fun h20 => ?_)
              refine j_aload G 0 rfl d9_shift_78 ?_
              refine j_iload G 6 rfl d9_shift_80 ?_
              refine j_iload G 7 rfl d9_shift_82 ?_
              refine j_VP G (k6_hasStretch (xl Γ) E qa qi L j n (by first | assumption | omega | (simp only [upS, reduceIte, Nat.reduceEqDiff, eq_self, List.length_cons, List.length_nil, List.length_append] <;> omega)) (by first | assumption | omega | (simp only [upS, reduceIte, Nat.reduceEqDiff, eq_self, List.length_cons, List.length_nil, List.length_append] <;> omega)) (by first | assumption | omega | (simp only [upS, reduceIte, Nat.reduceEqDiff, eq_self, List.length_cons, List.length_nil, List.length_append] <;> omega))) mw6_hasStretch ml9_326 [2] rfl 2 6 rfl rfl rfl ⟨Nat.le_of_ble_eq_true rfl, Nat.le_of_ble_eq_true rfl⟩ rfl (rest := []) rfl (Nat.le_of_ble_eq_true rfl) d9_shift_84 ⟨Nat.le_of_ble_eq_true rfl, Nat.le_of_ble_eq_true rfl⟩ (fun r hr => ?_)
              obtain ⟨v22, rfl, hq21⟩ := hr
              rcases hq21 with ⟨hq21, rfl⟩ | ⟨hq21, rfl⟩
              ·
                refine j_if_ne (tgt := 93) G d9_shift_87 (by decide) (by decide) (fun h23 => ?_) (fun h23 => absurd h23 (by decide))
                refine j_aload G 1 rfl d9_shift_93 ?_
                refine j_get G 2 6 2 in6 fl9_318 d9_shift_95 rfl rfl (by decide) (v := .ref qi) rfl rfl ?_
                refine j_iload_n G 4 rfl d9_shift_98 ?_
                refine j_aload G 0 rfl d9_shift_99 ?_
                refine j_get G 2 6 2 in6 fl9_318 d9_shift_101 rfl rfl (by decide) (v := .ref qi) rfl rfl ?_
                refine j_iload G 6 rfl d9_shift_104 ?_
                refine j_iload G 7 rfl d9_shift_106 ?_
                refine j_copyL G 3 3 rfl rfl (by omega) (fun q => if j ≤ q ∧ q < j + n then it (i + (q - j)) else it q) (fun q h1 h2 => rfl) ml9_330 ⟨Nat.le_of_ble_eq_true rfl, Nat.le_of_ble_eq_true rfl⟩ d9_shift_108 ?_
                refine j_iload G 7 rfl d9_shift_111 ?_
                exact j_iret G F d9_shift_113 ⟨n, (fun q => if j ≤ q ∧ q < j + n then it (i + (q - j)) else it q), rfl, rfl, (by first | (left; exact ⟨⟨by omega, by omega, by omega, by omega⟩, rfl, rfl⟩) | (right; refine ⟨by omega, ?_, rfl⟩; (repeat' split) <;> omega))⟩
              ·
                refine j_if_ne (tgt := 93) G d9_shift_87 (by decide) (by decide) (fun h24 => absurd h24 (by decide)) (fun h24 => ?_)
                refine j_bipush G d9_shift_90 rfl ?_
                exact j_iret G F d9_shift_92 ⟨(-13), it, rfl, rfl, (by first | (left; exact ⟨⟨by omega, by omega, by omega, by omega⟩, rfl, rfl⟩) | (right; refine ⟨by omega, ?_, rfl⟩; (repeat' split) <;> omega))⟩
            ·
              refine j_if_eq (tgt := 90) G d9_shift_75 (by decide) (by decide) (fun h25 => ?_) (fun h25 => absurd h25 (by decide))
              refine j_bipush G d9_shift_90 rfl ?_
              exact j_iret G F d9_shift_92 ⟨(-13), it, rfl, rfl, (by first | (left; exact ⟨⟨by omega, by omega, by omega, by omega⟩, rfl, rfl⟩) | (right; refine ⟨by omega, ?_, rfl⟩; (repeat' split) <;> omega))⟩
          ·
            refine j_bipush G d9_shift_64 rfl ?_
            exact j_iret G F d9_shift_66 ⟨(-12), it, rfl, rfl, (by first | (left; exact ⟨⟨by omega, by omega, by omega, by omega⟩, rfl, rfl⟩) | (right; refine ⟨by omega, ?_, rfl⟩; (repeat' split) <;> omega))⟩
set_option maxHeartbeats 4000000 in
set_option maxRecDepth 100000 in
theorem k9_shiftd (l : Launch) (E : En) (xo : Nat) (xa : Nat → Nat) (X : Nat → Int) (tk : Nat → Option Nat) (qa : Nat) (qi : Nat) (L : Nat → Int) (it : Int → Int) (pb : Nat) (pj : Nat) (M : Nat → Int) (jt : Int → Int) (t : Int) (i : Int) (o : Int) (j : Int) (n : Int) (r_t : R32 t) (r_i : R32 i) (r_o : R32 o) (r_j : R32 j) (r_n : R32 n) (htq : 0 ≤ t ∧ t ≤ 5) (htk : tk t.toNat = some qa) (hL : (-1 ≤ L 0 ∧ L 0 ≤ 4) ∧ (0 ≤ L 1 ∧ L 1 ≤ 60) ∧ (L 0 < 0 → L 1 = 0)) (hoq : 0 ≤ o ∧ o ≤ 5) (hot : tk o.toNat = some pb) (hM : (-1 ≤ M 0 ∧ M 0 ≤ 4) ∧ (0 ≤ M 1 ∧ M 1 ≤ 60) ∧ (M 0 < 0 → M 1 = 0)) : Cm l E y9_shift c9_shift 8 (some .int) { frames := 1, cells := 0, slots := 0, locals := 60 } [.ref xo, .int (iZ t), .int (iZ i), .int (iZ o), .int (iZ j), .int (iZ n)] [(xo, xO xa X), (xa 9, aRef E 5 6 tk), (qa, o6 (some qi) L), (qi, aLng E 60 it), (pb, o6 (some pj) M), (pj, aLng E 60 jt)] (fun r ws => ∃ (v : Int), ∃ (it1 : Int → Int), r = some (.int (iZ v)) ∧ ws = [(xo, xO xa X), (xa 9, aRef E 5 6 tk), (qa, o6 (some qi) L), (qi, aLng E 60 it), (pb, o6 (some pj) M), (pj, aLng E 60 it1)] ∧ (((¬ L 0 < 0 ∧ ¬ M 0 < 0 ∧ L 0 = M 0 ∧ ¬ (n < 0 ∨ i < 0 ∨ j < 0 ∨ L 1 - n < i ∨ M 1 - n < j)) ∧ v = n ∧ it1 = (fun q => if j ≤ q ∧ q < j + n then it (i + (q - j)) else jt q)) ∨ (¬ (¬ L 0 < 0 ∧ ¬ M 0 < 0 ∧ L 0 = M 0 ∧ ¬ (n < 0 ∨ i < 0 ∨ j < 0 ∨ L 1 - n < i ∨ M 1 - n < j)) ∧ v = (if L 0 < 0 ∨ M 0 < 0 then -11 else if ¬ L 0 = M 0 then -12 else -13) ∧ it1 = jt))) := by
  refine Cm.of (by decide +kernel) (Nat.le_of_ble_eq_true rfl) (fun Γ A hl hargs hin G F => ?_)
  subst hl
  refine j_iload_n G 1 rfl d9_shift_0 ?_
  refine j_SP G (k9_isNoTape (xl Γ) E t (by first | assumption | omega | (simp only [upS, reduceIte, Nat.reduceEqDiff, eq_self, List.length_cons, List.length_nil, List.length_append] <;> omega))) mw9_isNoTape ml9_270 [] rfl ⟨Nat.le_of_ble_eq_true rfl, Nat.le_of_ble_eq_true rfl⟩ rfl (rest := []) rfl (Nat.le_of_ble_eq_true rfl) d9_shift_1 ⟨Nat.le_of_ble_eq_true rfl, Nat.le_of_ble_eq_true rfl⟩ (fun r hr => ?_)
  obtain ⟨v2, rfl, hq1⟩ := hr
  rcases hq1 with ⟨hq1, rfl⟩ | ⟨hq1, rfl⟩
  ·
    refine j_if_ne (tgt := 14) G d9_shift_4 (by decide) (by decide) (fun h3 => ?_) (fun h3 => absurd h3 (by decide))
    refine j_iconst G d9_shift_14 ?_
    exact j_iret G F d9_shift_15 ⟨(-1), jt, rfl, rfl, (by first | (left; exact ⟨⟨by omega, by omega, by omega, by omega⟩, rfl, rfl⟩) | (right; refine ⟨by omega, ?_, rfl⟩; (repeat' split) <;> omega))⟩
  ·
    refine j_if_ne (tgt := 14) G d9_shift_4 (by decide) (by decide) (fun h4 => absurd h4 (by decide)) (fun h4 => ?_)
    refine j_iload_n G 3 rfl d9_shift_7 ?_
    refine j_SP G (k9_isNoTape (xl Γ) E o (by first | assumption | omega | (simp only [upS, reduceIte, Nat.reduceEqDiff, eq_self, List.length_cons, List.length_nil, List.length_append] <;> omega))) mw9_isNoTape ml9_270 [] rfl ⟨Nat.le_of_ble_eq_true rfl, Nat.le_of_ble_eq_true rfl⟩ rfl (rest := []) rfl (Nat.le_of_ble_eq_true rfl) d9_shift_8 ⟨Nat.le_of_ble_eq_true rfl, Nat.le_of_ble_eq_true rfl⟩ (fun r hr => ?_)
    obtain ⟨v6, rfl, hq5⟩ := hr
    rcases hq5 with ⟨hq5, rfl⟩ | ⟨hq5, rfl⟩
    ·
      refine j_if_eq (tgt := 16) G d9_shift_11 (by decide) (by decide) (fun h7 => absurd h7 (by decide)) (fun h7 => ?_)
      refine j_iconst G d9_shift_14 ?_
      exact j_iret G F d9_shift_15 ⟨(-1), jt, rfl, rfl, (by first | (left; exact ⟨⟨by omega, by omega, by omega, by omega⟩, rfl, rfl⟩) | (right; refine ⟨by omega, ?_, rfl⟩; (repeat' split) <;> omega))⟩
    ·
      refine j_if_eq (tgt := 16) G d9_shift_11 (by decide) (by decide) (fun h8 => ?_) (fun h8 => absurd h8 (by decide))
      refine j_aload_n G 0 rfl d9_shift_16 ?_
      refine j_get G 0 9 9 in9 fl9_39 d9_shift_17 rfl rfl (by decide) (v := .ref (xa 9)) rfl rfl ?_
      refine j_iload_n G 1 rfl d9_shift_20 ?_
      refine j_aald G 1 5 rfl rfl (by omega) d9_shift_21 (v := .ref qa) (by rw [htk]; rfl) ?_
      refine j_astore G d9_shift_22 (by decide) rfl ?_
      refine j_aload_n G 1 rfl d9_shift_24 ?_
      refine j_get G 0 9 9 in9 fl9_39 d9_shift_25 rfl rfl (by decide) (v := .ref (xa 9)) rfl rfl ?_
      refine j_iload_n G 4 rfl d9_shift_28 ?_
      refine j_aald G 1 5 rfl rfl (by omega) d9_shift_29 (v := .ref pb) (by rw [hot]; rfl) ?_
      refine j_astore G d9_shift_30 (by decide) rfl ?_
      refine j_aload G 1 rfl d9_shift_32 ?_
      refine j_VP G (k6_isEmpty (xl Γ) E qa qi L (by first | assumption | omega | (simp only [upS, reduceIte, Nat.reduceEqDiff, eq_self, List.length_cons, List.length_nil, List.length_append] <;> omega))) mw6_isEmpty ml9_273 [2] rfl 2 6 rfl rfl rfl ⟨Nat.le_of_ble_eq_true rfl, Nat.le_of_ble_eq_true rfl⟩ rfl (rest := []) rfl (Nat.le_of_ble_eq_true rfl) d9_shift_34 ⟨Nat.le_of_ble_eq_true rfl, Nat.le_of_ble_eq_true rfl⟩ (fun r hr => ?_)
      obtain ⟨v10, rfl, hq9⟩ := hr
      rcases hq9 with ⟨hq9, rfl⟩ | ⟨hq9, rfl⟩
      ·
        refine j_if_ne (tgt := 48) G d9_shift_37 (by decide) (by decide) (fun h11 => ?_) (fun h11 => absurd h11 (by decide))
        refine j_bipush G d9_shift_48 rfl ?_
        exact j_iret G F d9_shift_50 ⟨(-11), jt, rfl, rfl, (by first | (left; exact ⟨⟨by omega, by omega, by omega, by omega⟩, rfl, rfl⟩) | (right; refine ⟨by omega, ?_, rfl⟩; (repeat' split) <;> omega))⟩
      ·
        refine j_if_ne (tgt := 48) G d9_shift_37 (by decide) (by decide) (fun h12 => absurd h12 (by decide)) (fun h12 => ?_)
        refine j_aload G 0 rfl d9_shift_40 ?_
        refine j_VP G (k6_isEmpty (xl Γ) E pb pj M (by first | assumption | omega | (simp only [upS, reduceIte, Nat.reduceEqDiff, eq_self, List.length_cons, List.length_nil, List.length_append] <;> omega))) mw6_isEmpty ml9_273 [4] rfl 4 6 rfl rfl rfl ⟨Nat.le_of_ble_eq_true rfl, Nat.le_of_ble_eq_true rfl⟩ rfl (rest := []) rfl (Nat.le_of_ble_eq_true rfl) d9_shift_42 ⟨Nat.le_of_ble_eq_true rfl, Nat.le_of_ble_eq_true rfl⟩ (fun r hr => ?_)
        obtain ⟨v14, rfl, hq13⟩ := hr
        rcases hq13 with ⟨hq13, rfl⟩ | ⟨hq13, rfl⟩
        ·
          refine j_if_eq (tgt := 51) G d9_shift_45 (by decide) (by decide) (fun h15 => absurd h15 (by decide)) (fun h15 => ?_)
          refine j_bipush G d9_shift_48 rfl ?_
          exact j_iret G F d9_shift_50 ⟨(-11), jt, rfl, rfl, (by first | (left; exact ⟨⟨by omega, by omega, by omega, by omega⟩, rfl, rfl⟩) | (right; refine ⟨by omega, ?_, rfl⟩; (repeat' split) <;> omega))⟩
        ·
          refine j_if_eq (tgt := 51) G d9_shift_45 (by decide) (by decide) (fun h16 => ?_) (fun h16 => absurd h16 (by decide))
          refine j_aload G 1 rfl d9_shift_51 ?_
          refine j_get G 2 6 0 in6 fl9_277 d9_shift_53 rfl rfl (by decide) (v := .int (iZ (L 0))) rfl rfl ?_
          refine j_aload G 0 rfl d9_shift_56 ?_
          refine j_get G 4 6 0 in6 fl9_277 d9_shift_58 rfl rfl (by decide) (v := .int (iZ (M 0))) rfl rfl ?_
          refine j_icmp_eq (tgt := 67) G d9_shift_61 (by decide) (by omega) (by omega) (fun h17 => ?_) (fun h17 => ?_)
          ·
            refine j_aload G 1 rfl d9_shift_67 ?_
            refine j_iload_n G 4 rfl d9_shift_69 ?_
            refine j_iload G 7 rfl d9_shift_70 ?_
            refine j_VP G (k6_hasStretch (xl Γ) E qa qi L i n (by first | assumption | omega | (simp only [upS, reduceIte, Nat.reduceEqDiff, eq_self, List.length_cons, List.length_nil, List.length_append] <;> omega)) (by first | assumption | omega | (simp only [upS, reduceIte, Nat.reduceEqDiff, eq_self, List.length_cons, List.length_nil, List.length_append] <;> omega)) (by first | assumption | omega | (simp only [upS, reduceIte, Nat.reduceEqDiff, eq_self, List.length_cons, List.length_nil, List.length_append] <;> omega))) mw6_hasStretch ml9_326 [2] rfl 2 6 rfl rfl rfl ⟨Nat.le_of_ble_eq_true rfl, Nat.le_of_ble_eq_true rfl⟩ rfl (rest := []) rfl (Nat.le_of_ble_eq_true rfl) d9_shift_72 ⟨Nat.le_of_ble_eq_true rfl, Nat.le_of_ble_eq_true rfl⟩ (fun r hr => ?_)
            obtain ⟨v19, rfl, hq18⟩ := hr
            rcases hq18 with ⟨hq18, rfl⟩ | ⟨hq18, rfl⟩
            ·
              refine j_if_eq (tgt := 90) G d9_shift_75 (by decide) (by decide) (fun h20 => absurd h20 (by decide)) (fun h20 => ?_)
              refine j_aload G 0 rfl d9_shift_78 ?_
              refine j_iload G 6 rfl d9_shift_80 ?_
              refine j_iload G 7 rfl d9_shift_82 ?_
              refine j_VP G (k6_hasStretch (xl Γ) E pb pj M j n (by first | assumption | omega | (simp only [upS, reduceIte, Nat.reduceEqDiff, eq_self, List.length_cons, List.length_nil, List.length_append] <;> omega)) (by first | assumption | omega | (simp only [upS, reduceIte, Nat.reduceEqDiff, eq_self, List.length_cons, List.length_nil, List.length_append] <;> omega)) (by first | assumption | omega | (simp only [upS, reduceIte, Nat.reduceEqDiff, eq_self, List.length_cons, List.length_nil, List.length_append] <;> omega))) mw6_hasStretch ml9_326 [4] rfl 4 6 rfl rfl rfl ⟨Nat.le_of_ble_eq_true rfl, Nat.le_of_ble_eq_true rfl⟩ rfl (rest := []) rfl (Nat.le_of_ble_eq_true rfl) d9_shift_84 ⟨Nat.le_of_ble_eq_true rfl, Nat.le_of_ble_eq_true rfl⟩ (fun r hr => ?_)
              obtain ⟨v22, rfl, hq21⟩ := hr
              rcases hq21 with ⟨hq21, rfl⟩ | ⟨hq21, rfl⟩
              ·
                refine j_if_ne (tgt := 93) G d9_shift_87 (by decide) (by decide) (fun h23 => ?_) (fun h23 => absurd h23 (by decide))
                refine j_aload G 1 rfl d9_shift_93 ?_
                refine j_get G 2 6 2 in6 fl9_318 d9_shift_95 rfl rfl (by decide) (v := .ref qi) rfl rfl ?_
                refine j_iload_n G 4 rfl d9_shift_98 ?_
                refine j_aload G 0 rfl d9_shift_99 ?_
                refine j_get G 4 6 2 in6 fl9_318 d9_shift_101 rfl rfl (by decide) (v := .ref pj) rfl rfl ?_
                refine j_iload G 6 rfl d9_shift_104 ?_
                refine j_iload G 7 rfl d9_shift_106 ?_
                refine j_copyL G 3 5 rfl rfl (by omega) (fun q => if j ≤ q ∧ q < j + n then it (i + (q - j)) else jt q) (fun q h1 h2 => rfl) ml9_330 ⟨Nat.le_of_ble_eq_true rfl, Nat.le_of_ble_eq_true rfl⟩ d9_shift_108 ?_
                refine j_iload G 7 rfl d9_shift_111 ?_
                exact j_iret G F d9_shift_113 ⟨n, (fun q => if j ≤ q ∧ q < j + n then it (i + (q - j)) else jt q), rfl, rfl, (by first | (left; exact ⟨⟨by omega, by omega, by omega, by omega⟩, rfl, rfl⟩) | (right; refine ⟨by omega, ?_, rfl⟩; (repeat' split) <;> omega))⟩
              ·
                refine j_if_ne (tgt := 93) G d9_shift_87 (by decide) (by decide) (fun h24 => absurd h24 (by decide)) (fun h24 => ?_)
                refine j_bipush G d9_shift_90 rfl ?_
                exact j_iret G F d9_shift_92 ⟨(-13), jt, rfl, rfl, (by first | (left; exact ⟨⟨by omega, by omega, by omega, by omega⟩, rfl, rfl⟩) | (right; refine ⟨by omega, ?_, rfl⟩; (repeat' split) <;> omega))⟩
            ·
              refine j_if_eq (tgt := 90) G d9_shift_75 (by decide) (by decide) (fun h25 => ?_) (fun h25 => absurd h25 (by decide))
              refine j_bipush G d9_shift_90 rfl ?_
              exact j_iret G F d9_shift_92 ⟨(-13), jt, rfl, rfl, (by first | (left; exact ⟨⟨by omega, by omega, by omega, by omega⟩, rfl, rfl⟩) | (right; refine ⟨by omega, ?_, rfl⟩; (repeat' split) <;> omega))⟩
          ·
            refine j_bipush G d9_shift_64 rfl ?_
            exact j_iret G F d9_shift_66 ⟨(-12), jt, rfl, rfl, (by first | (left; exact ⟨⟨by omega, by omega, by omega, by omega⟩, rfl, rfl⟩) | (right; refine ⟨by omega, ?_, rfl⟩; (repeat' split) <;> omega))⟩
