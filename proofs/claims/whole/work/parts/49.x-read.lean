theorem d0_peek_0 : decode c0_peek 0 = .ok (.aload_n 0, 1) := by decide +kernel
theorem d0_peek_1 : decode c0_peek 1 = .ok (.getfield 9, 3) := by decide +kernel
theorem d0_peek_4 : decode c0_peek 4 = .ok (.ifCond .ge 33, 3) := by decide +kernel
theorem d0_peek_7 : decode c0_peek 7 = .ok (.aload_n 0, 1) := by decide +kernel
theorem d0_peek_8 : decode c0_peek 8 = .ok (.getfield 36, 3) := by decide +kernel
theorem d0_peek_11 : decode c0_peek 11 = .ok (.ifCond .lt 26, 3) := by decide +kernel
theorem d0_peek_14 : decode c0_peek 14 = .ok (.aload_n 0, 1) := by decide +kernel
theorem d0_peek_15 : decode c0_peek 15 = .ok (.getfield 36, 3) := by decide +kernel
theorem d0_peek_18 : decode c0_peek 18 = .ok (.aload_n 0, 1) := by decide +kernel
theorem d0_peek_19 : decode c0_peek 19 = .ok (.getfield 25, 3) := by decide +kernel
theorem d0_peek_22 : decode c0_peek 22 = .ok (.if_icmp .ge 15, 3) := by decide +kernel
theorem d0_peek_25 : decode c0_peek 25 = .ok (.aload_n 0, 1) := by decide +kernel
theorem d0_peek_26 : decode c0_peek 26 = .ok (.getfield 15, 3) := by decide +kernel
theorem d0_peek_29 : decode c0_peek 29 = .ok (.aload_n 0, 1) := by decide +kernel
theorem d0_peek_30 : decode c0_peek 30 = .ok (.getfield 36, 3) := by decide +kernel
theorem d0_peek_33 : decode c0_peek 33 = .ok (.iaload, 1) := by decide +kernel
theorem d0_peek_34 : decode c0_peek 34 = .ok (.goto 4, 3) := by decide +kernel
theorem d0_peek_37 : decode c0_peek 37 = .ok (.iconst (-1), 1) := by decide +kernel
theorem d0_peek_38 : decode c0_peek 38 = .ok (.ireturn, 1) := by decide +kernel
theorem mw0_peek : MV y0_peek c0_peek 1 (some .int) 0 := ⟨cd0_peek, ini0, na0_peek, im0_peek, se0_peek⟩
set_option maxHeartbeats 4000000 in
set_option maxRecDepth 100000 in
theorem k0_peek (l : Launch) (E : En) (ra : Nat) (ba : Nat) (R : Nat → Int) (tb : Int → Int) (U : Int → Int) (htb : ∀ j, 0 ≤ j → j < 100 → tb j = U j % 256 ∧ -128 ≤ U j ∧ U j ≤ 127) (hln : 0 ≤ R 1 ∧ R 1 ≤ 100) (hat : 0 ≤ R 2 ∧ R 2 ≤ R 1) (hft : -1 ≤ R 3 ∧ R 3 ≤ 200) : Cp l E y0_peek c0_peek 1 (some .int) 0 0 [.ref ra] [(ra, o0 (some ba) R), (ba, aInt E 100 tb)] (fun r => ∃ (v : Int), r = some (.int (iZ v)) ∧ ((R 3 < 0 → nx U (R 1) (R 2) = v ∨ (128 ≤ v ∧ nx U (R 1) (R 2) = v - 256)) ∧ (0 ≤ R 3 → v = -1) ∧ (-1 ≤ v ∧ v ≤ 255) ∧ (-1 < v → R 2 < R 1) ∧ v = (if R 3 < 0 then (if R 2 < R 1 then tb (R 2) else -1) else -1))) := by
  refine Cp.of (by decide +kernel) (Nat.le_of_ble_eq_true rfl) (fun Γ hl hargs G F => ?_)
  subst hl
  have hbb : R 2 < R 1 → tb (R 2) = U (R 2) % 256 ∧ -128 ≤ U (R 2) ∧ U (R 2) ≤ 127 := fun h => htb (R 2) (by omega) (by omega)
  have hnx : nx U (R 1) (R 2) = if R 2 < R 1 then U (R 2) else -1 := rfl
  refine j_aload_n G 0 rfl d0_peek_0 ?_
  refine j_get G 0 0 3 in0 fl0_9 d0_peek_1 rfl rfl (by decide) (v := .int (iZ (R 3))) rfl rfl ?_
  refine j_if_ge (tgt := 37) G d0_peek_4 (by decide) (by omega) (fun h1 => ?_) (fun h1 => ?_)
  ·
    refine j_iconst G d0_peek_37 ?_
    exact j_iret G F d0_peek_38 ⟨(-1), rfl, (by (refine ⟨fun q => ?_, fun q => ?_, ⟨?_, ?_⟩, fun q => ?_, ?_⟩ <;> (try (repeat' split)) <;> omega))⟩
  ·
    refine j_aload_n G 0 rfl d0_peek_7 ?_
    refine j_get G 0 0 2 in0 fl0_36 d0_peek_8 rfl rfl (by decide) (v := .int (iZ (R 2))) rfl rfl ?_
    refine j_if_lt (tgt := 37) G d0_peek_11 (by decide) (by omega) (fun h2 => ?_) (fun h2 => ?_)
    ·
      refine j_iconst G d0_peek_37 ?_
      exact j_iret G F d0_peek_38 ⟨(-1), rfl, (by (refine ⟨fun q => ?_, fun q => ?_, ⟨?_, ?_⟩, fun q => ?_, ?_⟩ <;> (try (repeat' split)) <;> omega))⟩
    ·
      refine j_aload_n G 0 rfl d0_peek_14 ?_
      refine j_get G 0 0 2 in0 fl0_36 d0_peek_15 rfl rfl (by decide) (v := .int (iZ (R 2))) rfl rfl ?_
      refine j_aload_n G 0 rfl d0_peek_18 ?_
      refine j_get G 0 0 1 in0 fl0_25 d0_peek_19 rfl rfl (by decide) (v := .int (iZ (R 1))) rfl rfl ?_
      refine j_icmp_ge (tgt := 37) G d0_peek_22 (by decide) (by omega) (by omega) (fun h3 => ?_) (fun h3 => ?_)
      ·
        refine j_iconst G d0_peek_37 ?_
        exact j_iret G F d0_peek_38 ⟨(-1), rfl, (by (refine ⟨fun q => ?_, fun q => ?_, ⟨?_, ?_⟩, fun q => ?_, ?_⟩ <;> (try (repeat' split)) <;> omega))⟩
      ·
        refine j_aload_n G 0 rfl d0_peek_25 ?_
        refine j_get G 0 0 0 in0 fl0_15 d0_peek_26 rfl rfl (by decide) (v := .ref ba) rfl rfl ?_
        refine j_aload_n G 0 rfl d0_peek_29 ?_
        refine j_get G 0 0 2 in0 fl0_36 d0_peek_30 rfl rfl (by decide) (v := .int (iZ (R 2))) rfl rfl ?_
        refine j_iald G 1 rfl (by omega) d0_peek_33 ?_
        refine j_goto (tgt := 38) G d0_peek_34 (by decide) ?_
        exact j_iret G F d0_peek_38 ⟨tb (R 2), rfl, (by (refine ⟨fun q => ?_, fun q => ?_, ⟨?_, ?_⟩, fun q => ?_, ?_⟩ <;> (try (repeat' split)) <;> omega))⟩
theorem d0_fail_0 : decode c0_fail 0 = .ok (.aload_n 0, 1) := by decide +kernel
theorem d0_fail_1 : decode c0_fail 1 = .ok (.getfield 9, 3) := by decide +kernel
theorem d0_fail_4 : decode c0_fail 4 = .ok (.ifCond .ge 11, 3) := by decide +kernel
theorem d0_fail_7 : decode c0_fail 7 = .ok (.aload_n 0, 1) := by decide +kernel
theorem d0_fail_8 : decode c0_fail 8 = .ok (.aload_n 0, 1) := by decide +kernel
theorem d0_fail_9 : decode c0_fail 9 = .ok (.getfield 36, 3) := by decide +kernel
theorem d0_fail_12 : decode c0_fail 12 = .ok (.putfield 9, 3) := by decide +kernel
theorem d0_fail_15 : decode c0_fail 15 = .ok (.return_, 1) := by decide +kernel
theorem mw0_fail : MV y0_fail c0_fail 1 none 0 := ⟨cd0_fail, ini0, na0_fail, im0_fail, se0_fail⟩
set_option maxHeartbeats 4000000 in
set_option maxRecDepth 100000 in
theorem k0_fail (l : Launch) (E : En) (ra : Nat) (ba : Nat) (R : Nat → Int) (hft : -1 ≤ R 3 ∧ R 3 ≤ 200) (hat : 0 ≤ R 2 ∧ R 2 ≤ 100) : Cm l E y0_fail c0_fail 1 none { frames := 0, cells := 0, slots := 0, locals := 0 } [.ref ra] [(ra, o0 (some ba) R)] (fun r ws => ∃ (ft1 : Int), r = none ∧ ws = [(ra, o0 (some ba) (upS R 3 ft1))] ∧ ((R 3 < 0 → ft1 = R 2) ∧ (0 ≤ R 3 → ft1 = R 3))) := by
  refine Cm.of (by decide +kernel) (Nat.le_of_ble_eq_true rfl) (fun Γ A hl hargs hin G F => ?_)
  subst hl
  refine j_aload_n G 0 rfl d0_fail_0 ?_
  refine j_get G 0 0 3 in0 fl0_9 d0_fail_1 rfl rfl (by decide) (v := .int (iZ (R 3))) rfl rfl ?_
  refine j_if_ge (tgt := 15) G d0_fail_4 (by decide) (by omega) (fun h1 => ?_) (fun h1 => ?_)
  ·
    exact j_vret G F d0_fail_15 ⟨(R 3), rfl, rfl, (by exact ⟨fun q => by omega, fun q => by omega⟩)⟩
  ·
    refine j_aload_n G 0 rfl d0_fail_7 ?_
    refine j_aload_n G 0 rfl d0_fail_8 ?_
    refine j_get G 0 0 2 in0 fl0_36 d0_fail_9 rfl rfl (by decide) (v := .int (iZ (R 2))) rfl rfl ?_
    refine j_put G 0 0 3 in0 tyok0 nm0 fl0_9 d0_fail_12 rfl rfl (by decide) ⟨rfl, rfl⟩ rfl rfl (Nat.le_of_ble_eq_true rfl) (e := o0 (some ba) (upS R 3 (R 2))) rfl ?_
    exact j_vret G F d0_fail_15 ⟨(R 2), rfl, rfl, (by exact ⟨fun q => by omega, fun q => by omega⟩)⟩
theorem d0_takeOneOf_0 : decode c0_takeOneOf 0 = .ok (.aload_n 0, 1) := by decide +kernel
theorem d0_takeOneOf_1 : decode c0_takeOneOf 1 = .ok (.invokevirtual 32, 3) := by decide +kernel
theorem d0_takeOneOf_4 : decode c0_takeOneOf 4 = .ok (.istore 4, 2) := by decide +kernel
theorem d0_takeOneOf_6 : decode c0_takeOneOf 6 = .ok (.iload 4, 2) := by decide +kernel
theorem d0_takeOneOf_8 : decode c0_takeOneOf 8 = .ok (.iconst (-1), 1) := by decide +kernel
theorem d0_takeOneOf_9 : decode c0_takeOneOf 9 = .ok (.if_icmp .eq 34, 3) := by decide +kernel
theorem d0_takeOneOf_12 : decode c0_takeOneOf 12 = .ok (.iload 4, 2) := by decide +kernel
theorem d0_takeOneOf_14 : decode c0_takeOneOf 14 = .ok (.iload_n 1, 1) := by decide +kernel
theorem d0_takeOneOf_15 : decode c0_takeOneOf 15 = .ok (.if_icmp .eq 15, 3) := by decide +kernel
theorem d0_takeOneOf_18 : decode c0_takeOneOf 18 = .ok (.iload 4, 2) := by decide +kernel
theorem d0_takeOneOf_20 : decode c0_takeOneOf 20 = .ok (.iload_n 2, 1) := by decide +kernel
theorem d0_takeOneOf_21 : decode c0_takeOneOf 21 = .ok (.if_icmp .eq 9, 3) := by decide +kernel
theorem d0_takeOneOf_24 : decode c0_takeOneOf 24 = .ok (.iload 4, 2) := by decide +kernel
theorem d0_takeOneOf_26 : decode c0_takeOneOf 26 = .ok (.iload_n 3, 1) := by decide +kernel
theorem d0_takeOneOf_27 : decode c0_takeOneOf 27 = .ok (.if_icmp .ne 16, 3) := by decide +kernel
theorem d0_takeOneOf_30 : decode c0_takeOneOf 30 = .ok (.aload_n 0, 1) := by decide +kernel
theorem d0_takeOneOf_31 : decode c0_takeOneOf 31 = .ok (.dup, 1) := by decide +kernel
theorem d0_takeOneOf_32 : decode c0_takeOneOf 32 = .ok (.getfield 36, 3) := by decide +kernel
theorem d0_takeOneOf_35 : decode c0_takeOneOf 35 = .ok (.iconst 1, 1) := by decide +kernel
theorem d0_takeOneOf_36 : decode c0_takeOneOf 36 = .ok (.iadd, 1) := by decide +kernel
theorem d0_takeOneOf_37 : decode c0_takeOneOf 37 = .ok (.putfield 36, 3) := by decide +kernel
theorem d0_takeOneOf_40 : decode c0_takeOneOf 40 = .ok (.iload 4, 2) := by decide +kernel
theorem d0_takeOneOf_42 : decode c0_takeOneOf 42 = .ok (.ireturn, 1) := by decide +kernel
theorem d0_takeOneOf_43 : decode c0_takeOneOf 43 = .ok (.aload_n 0, 1) := by decide +kernel
theorem d0_takeOneOf_44 : decode c0_takeOneOf 44 = .ok (.invokevirtual 39, 3) := by decide +kernel
theorem d0_takeOneOf_47 : decode c0_takeOneOf 47 = .ok (.iconst (-1), 1) := by decide +kernel
theorem d0_takeOneOf_48 : decode c0_takeOneOf 48 = .ok (.ireturn, 1) := by decide +kernel
theorem mw0_takeOneOf : MV y0_takeOneOf c0_takeOneOf 5 (some .int) 3 := ⟨cd0_takeOneOf, ini0, na0_takeOneOf, im0_takeOneOf, se0_takeOneOf⟩
set_option maxHeartbeats 4000000 in
set_option maxRecDepth 100000 in
theorem k0_takeOneOf (l : Launch) (E : En) (ra : Nat) (ba : Nat) (R : Nat → Int) (tb : Int → Int) (U : Int → Int) (a : Int) (b : Int) (c : Int) (htb : ∀ j, 0 ≤ j → j < 100 → tb j = U j % 256 ∧ -128 ≤ U j ∧ U j ≤ 127) (hln : 0 ≤ R 1 ∧ R 1 ≤ 100) (hat : 0 ≤ R 2 ∧ R 2 ≤ R 1) (hft : -1 ≤ R 3 ∧ R 3 ≤ 200) (habc : (0 ≤ a ∧ a ≤ 127) ∧ (0 ≤ b ∧ b ≤ 127) ∧ (0 ≤ c ∧ c ≤ 127)) : Cm l E y0_takeOneOf c0_takeOneOf 5 (some .int) { frames := 1, cells := 0, slots := 0, locals := 20 } [.ref ra, .int (iZ a), .int (iZ b), .int (iZ c)] [(ra, o0 (some ba) R), (ba, aInt E 100 tb)] (fun r ws => ∃ (v : Int), ∃ (at1 : Int), ∃ (ft1 : Int), r = some (.int (iZ v)) ∧ ws = [(ra, o0 (some ba) (upS (upS R 2 at1) 3 ft1)), (ba, aInt E 100 tb)] ∧ (((R 3 < 0 ∧ (nx U (R 1) (R 2) = a ∨ nx U (R 1) (R 2) = b ∨ nx U (R 1) (R 2) = c) ∧ (at1 = R 2 + 1 ∧ at1 ≤ R 1) ∧ ft1 = R 3 ∧ v = nx U (R 1) (R 2)) ∨ (R 3 < 0 ∧ ¬ (nx U (R 1) (R 2) = a ∨ nx U (R 1) (R 2) = b ∨ nx U (R 1) (R 2) = c) ∧ at1 = R 2 ∧ ft1 = R 2 ∧ v = -1) ∨ (0 ≤ R 3 ∧ at1 = R 2 ∧ ft1 = R 3 ∧ v = -1)) ∧ (R 2 ≤ at1 ∧ at1 ≤ R 1) ∧ (-1 ≤ ft1 ∧ ft1 ≤ 200) ∧ (-1 ≤ v ∧ v ≤ 255))) := by
  refine Cm.of (by decide +kernel) (Nat.le_of_ble_eq_true rfl) (fun Γ A hl hargs hin G F => ?_)
  subst hl
  refine j_aload_n G 0 rfl d0_takeOneOf_0 ?_
  refine j_VP G (k0_peek (xl Γ) E ra ba R tb U (by first | assumption | omega | (simp only [upS, reduceIte, Nat.reduceEqDiff, eq_self, List.length_cons, List.length_nil, List.length_append] <;> omega)) (by first | assumption | omega | (simp only [upS, reduceIte, Nat.reduceEqDiff, eq_self, List.length_cons, List.length_nil, List.length_append] <;> omega)) (by first | assumption | omega | (simp only [upS, reduceIte, Nat.reduceEqDiff, eq_self, List.length_cons, List.length_nil, List.length_append] <;> omega)) (by first | assumption | omega | (simp only [upS, reduceIte, Nat.reduceEqDiff, eq_self, List.length_cons, List.length_nil, List.length_append] <;> omega))) mw0_peek ml0_32 [0, 1] rfl 0 0 rfl rfl rfl ⟨Nat.le_of_ble_eq_true rfl, Nat.le_of_ble_eq_true rfl⟩ rfl (rest := []) rfl (Nat.le_of_ble_eq_true rfl) d0_takeOneOf_1 ⟨Nat.le_of_ble_eq_true rfl, Nat.le_of_ble_eq_true rfl⟩ (fun r hr => ?_)
  obtain ⟨v2, rfl, ⟨hq1_0, hq1_1, hq1_2, hq1_3, hq1_4⟩⟩ := hr
  have hp0 := hq1_0
  have hp1 := hq1_1
  have hp2 := hq1_2
  have hp3 := hq1_3
  have hp4 := hq1_4
  refine j_istore G d0_takeOneOf_4 (by decide) rfl ?_
  refine j_iload G 0 rfl d0_takeOneOf_6 ?_
  refine j_iconst G d0_takeOneOf_8 ?_
  refine j_icmp_eq (tgt := 43) G d0_takeOneOf_9 (by decide) (by omega) (by decide) (fun h3 => ?_) (fun h3 => ?_)
  ·
    refine j_aload_n G 1 rfl d0_takeOneOf_43 ?_
    refine j_VM G (rm' := { frames := 0, cells := 0, slots := 0, locals := 0 }) (wc := [(ra, o0 (some ba) R)]) (wr := [(ba, aInt E 100 tb)]) (k0_fail (xl Γ) E ra ba R (by first | assumption | omega | (simp only [upS, reduceIte, Nat.reduceEqDiff, eq_self, List.length_cons, List.length_nil, List.length_append] <;> omega)) (by first | assumption | omega | (simp only [upS, reduceIte, Nat.reduceEqDiff, eq_self, List.length_cons, List.length_nil, List.length_append] <;> omega))) mw0_fail ml0_39 [0] [1] rfl rfl ⟨rfl, rfl⟩ (by decide) 0 0 rfl rfl rfl ⟨Nat.le_of_ble_eq_true rfl, Nat.le_of_ble_eq_true rfl⟩ rfl (rest := []) rfl (Nat.le_of_ble_eq_true rfl) d0_takeOneOf_44 ⟨Nat.le_of_ble_eq_true rfl, Nat.le_of_ble_eq_true rfl⟩ (fun r w1 hr => ?_)
    obtain ⟨ft1_5, rfl, rfl, ⟨hq4_0, hq4_1⟩⟩ := hr
    refine j_eq (ws' := [(ba, aInt E 100 tb), (ra, o0 (some ba) (upS R 3 ft1_5))]) rfl rfl rfl ?_
    have hf0 := hq4_0
    have hf1 := hq4_1
    refine j_iconst G d0_takeOneOf_47 ?_
    refine j_perm (ws' := [(ra, o0 (some ba) (upS R 3 ft1_5)), (ba, aInt E 100 tb)]) [1, 0] rfl rfl rfl ?_
    exact j_iret G F d0_takeOneOf_48 ⟨(-1), (R 2), ft1_5, rfl, rfl, (by exact ⟨by omega, by omega, by omega, by omega⟩)⟩
  ·
    refine j_iload G 0 rfl d0_takeOneOf_12 ?_
    refine j_iload_n G 2 rfl d0_takeOneOf_14 ?_
    refine j_icmp_eq (tgt := 30) G d0_takeOneOf_15 (by decide) (by omega) (by omega) (fun h6 => ?_) (fun h6 => ?_)
    ·
      refine j_aload_n G 1 rfl d0_takeOneOf_30 ?_
      refine j_dup G d0_takeOneOf_31 rfl ?_
      refine j_get G 0 0 2 in0 fl0_36 d0_takeOneOf_32 rfl rfl (by decide) (v := .int (iZ (R 2))) rfl rfl ?_
      refine j_iconst G d0_takeOneOf_35 ?_
      refine j_iadd G d0_takeOneOf_36 ?_
      refine j_put G 0 0 2 in0 tyok0 nm0 fl0_36 d0_takeOneOf_37 rfl rfl (by decide) ⟨rfl, rfl⟩ rfl rfl (Nat.le_of_ble_eq_true rfl) (e := o0 (some ba) (upS R 2 ((R 2) + 1))) rfl ?_
      refine j_iload G 0 rfl d0_takeOneOf_40 ?_
      exact j_iret G F d0_takeOneOf_42 ⟨v2, ((R 2) + 1), (R 3), rfl, rfl, (by exact ⟨by omega, by omega, by omega, by omega⟩)⟩
    ·
      refine j_iload G 0 rfl d0_takeOneOf_18 ?_
      refine j_iload_n G 3 rfl d0_takeOneOf_20 ?_
      refine j_icmp_eq (tgt := 30) G d0_takeOneOf_21 (by decide) (by omega) (by omega) (fun h7 => ?_) (fun h7 => ?_)
      ·
        refine j_aload_n G 1 rfl d0_takeOneOf_30 ?_
        refine j_dup G d0_takeOneOf_31 rfl ?_
        refine j_get G 0 0 2 in0 fl0_36 d0_takeOneOf_32 rfl rfl (by decide) (v := .int (iZ (R 2))) rfl rfl ?_
        refine j_iconst G d0_takeOneOf_35 ?_
        refine j_iadd G d0_takeOneOf_36 ?_
        refine j_put G 0 0 2 in0 tyok0 nm0 fl0_36 d0_takeOneOf_37 rfl rfl (by decide) ⟨rfl, rfl⟩ rfl rfl (Nat.le_of_ble_eq_true rfl) (e := o0 (some ba) (upS R 2 ((R 2) + 1))) rfl ?_
        refine j_iload G 0 rfl d0_takeOneOf_40 ?_
        exact j_iret G F d0_takeOneOf_42 ⟨v2, ((R 2) + 1), (R 3), rfl, rfl, (by exact ⟨by omega, by omega, by omega, by omega⟩)⟩
      ·
        refine j_iload G 0 rfl d0_takeOneOf_24 ?_
        refine j_iload_n G 4 rfl d0_takeOneOf_26 ?_
        refine j_icmp_ne (tgt := 43) G d0_takeOneOf_27 (by decide) (by omega) (by omega) (fun h8 => ?_) (fun h8 => ?_)
        ·
          refine j_aload_n G 1 rfl d0_takeOneOf_43 ?_
          refine j_VM G (rm' := { frames := 0, cells := 0, slots := 0, locals := 0 }) (wc := [(ra, o0 (some ba) R)]) (wr := [(ba, aInt E 100 tb)]) (k0_fail (xl Γ) E ra ba R (by first | assumption | omega | (simp only [upS, reduceIte, Nat.reduceEqDiff, eq_self, List.length_cons, List.length_nil, List.length_append] <;> omega)) (by first | assumption | omega | (simp only [upS, reduceIte, Nat.reduceEqDiff, eq_self, List.length_cons, List.length_nil, List.length_append] <;> omega))) mw0_fail ml0_39 [0] [1] rfl rfl ⟨rfl, rfl⟩ (by decide) 0 0 rfl rfl rfl ⟨Nat.le_of_ble_eq_true rfl, Nat.le_of_ble_eq_true rfl⟩ rfl (rest := []) rfl (Nat.le_of_ble_eq_true rfl) d0_takeOneOf_44 ⟨Nat.le_of_ble_eq_true rfl, Nat.le_of_ble_eq_true rfl⟩ (fun r w1 hr => ?_)
          obtain ⟨ft1_10, rfl, rfl, ⟨hq9_0, hq9_1⟩⟩ := hr
          refine j_eq (ws' := [(ba, aInt E 100 tb), (ra, o0 (some ba) (upS R 3 ft1_10))]) rfl rfl rfl ?_
          have hf0 := hq9_0
          have hf1 := hq9_1
          refine j_iconst G d0_takeOneOf_47 ?_
          refine j_perm (ws' := [(ra, o0 (some ba) (upS R 3 ft1_10)), (ba, aInt E 100 tb)]) [1, 0] rfl rfl rfl ?_
          exact j_iret G F d0_takeOneOf_48 ⟨(-1), (R 2), ft1_10, rfl, rfl, (by exact ⟨by omega, by omega, by omega, by omega⟩)⟩
        ·
          refine j_aload_n G 1 rfl d0_takeOneOf_30 ?_
          refine j_dup G d0_takeOneOf_31 rfl ?_
          refine j_get G 0 0 2 in0 fl0_36 d0_takeOneOf_32 rfl rfl (by decide) (v := .int (iZ (R 2))) rfl rfl ?_
          refine j_iconst G d0_takeOneOf_35 ?_
          refine j_iadd G d0_takeOneOf_36 ?_
          refine j_put G 0 0 2 in0 tyok0 nm0 fl0_36 d0_takeOneOf_37 rfl rfl (by decide) ⟨rfl, rfl⟩ rfl rfl (Nat.le_of_ble_eq_true rfl) (e := o0 (some ba) (upS R 2 ((R 2) + 1))) rfl ?_
          refine j_iload G 0 rfl d0_takeOneOf_40 ?_
          exact j_iret G F d0_takeOneOf_42 ⟨v2, ((R 2) + 1), (R 3), rfl, rfl, (by exact ⟨by omega, by omega, by omega, by omega⟩)⟩
theorem d0_number_0 : decode c0_number 0 = .ok (.iconst 0, 1) := by decide +kernel
theorem d0_number_1 : decode c0_number 1 = .ok (.istore_n 2, 1) := by decide +kernel
theorem d0_number_2 : decode c0_number 2 = .ok (.iconst 0, 1) := by decide +kernel
theorem d0_number_3 : decode c0_number 3 = .ok (.istore_n 3, 1) := by decide +kernel
theorem d0_number_4 : decode c0_number 4 = .ok (.iload_n 3, 1) := by decide +kernel
theorem d0_number_5 : decode c0_number 5 = .ok (.iload_n 1, 1) := by decide +kernel
theorem d0_number_6 : decode c0_number 6 = .ok (.if_icmp .ge 50, 3) := by decide +kernel
theorem d0_number_9 : decode c0_number 9 = .ok (.aload_n 0, 1) := by decide +kernel
theorem d0_number_10 : decode c0_number 10 = .ok (.invokevirtual 32, 3) := by decide +kernel
theorem d0_number_13 : decode c0_number 13 = .ok (.bipush 48, 2) := by decide +kernel
theorem d0_number_15 : decode c0_number 15 = .ok (.if_icmp .lt 41, 3) := by decide +kernel
theorem d0_number_18 : decode c0_number 18 = .ok (.aload_n 0, 1) := by decide +kernel
theorem d0_number_19 : decode c0_number 19 = .ok (.invokevirtual 32, 3) := by decide +kernel
theorem d0_number_22 : decode c0_number 22 = .ok (.bipush 57, 2) := by decide +kernel
theorem d0_number_24 : decode c0_number 24 = .ok (.if_icmp .gt 32, 3) := by decide +kernel
theorem d0_number_27 : decode c0_number 27 = .ok (.bipush 10, 2) := by decide +kernel
theorem d0_number_29 : decode c0_number 29 = .ok (.iload_n 2, 1) := by decide +kernel
theorem d0_number_30 : decode c0_number 30 = .ok (.imul, 1) := by decide +kernel
theorem d0_number_31 : decode c0_number 31 = .ok (.aload_n 0, 1) := by decide +kernel
theorem d0_number_32 : decode c0_number 32 = .ok (.invokevirtual 32, 3) := by decide +kernel
theorem d0_number_35 : decode c0_number 35 = .ok (.iadd, 1) := by decide +kernel
theorem d0_number_36 : decode c0_number 36 = .ok (.bipush 48, 2) := by decide +kernel
theorem d0_number_38 : decode c0_number 38 = .ok (.isub, 1) := by decide +kernel
theorem d0_number_39 : decode c0_number 39 = .ok (.istore_n 2, 1) := by decide +kernel
theorem d0_number_40 : decode c0_number 40 = .ok (.aload_n 0, 1) := by decide +kernel
theorem d0_number_41 : decode c0_number 41 = .ok (.dup, 1) := by decide +kernel
theorem d0_number_42 : decode c0_number 42 = .ok (.getfield 36, 3) := by decide +kernel
theorem d0_number_45 : decode c0_number 45 = .ok (.iconst 1, 1) := by decide +kernel
theorem d0_number_46 : decode c0_number 46 = .ok (.iadd, 1) := by decide +kernel
theorem d0_number_47 : decode c0_number 47 = .ok (.putfield 36, 3) := by decide +kernel
theorem d0_number_50 : decode c0_number 50 = .ok (.iinc 3 1, 3) := by decide +kernel
theorem d0_number_53 : decode c0_number 53 = .ok (.goto (-49), 3) := by decide +kernel
theorem d0_number_56 : decode c0_number 56 = .ok (.iload_n 3, 1) := by decide +kernel
theorem d0_number_57 : decode c0_number 57 = .ok (.ifCond .ne 7, 3) := by decide +kernel
theorem d0_number_60 : decode c0_number 60 = .ok (.aload_n 0, 1) := by decide +kernel
theorem d0_number_61 : decode c0_number 61 = .ok (.invokevirtual 39, 3) := by decide +kernel
theorem d0_number_64 : decode c0_number 64 = .ok (.iload_n 2, 1) := by decide +kernel
theorem d0_number_65 : decode c0_number 65 = .ok (.ireturn, 1) := by decide +kernel
theorem mw0_number : MV y0_number c0_number 4 (some .int) 1 := ⟨cd0_number, ini0, na0_number, im0_number, se0_number⟩
set_option maxHeartbeats 4000000 in
set_option maxRecDepth 100000 in
theorem k0_number (l : Launch) (E : En) (ra : Nat) (ba : Nat) (R : Nat → Int) (tb : Int → Int) (U : Int → Int) (most : Int) (htb : ∀ j, 0 ≤ j → j < 100 → tb j = U j % 256 ∧ -128 ≤ U j ∧ U j ≤ 127) (hln : 0 ≤ R 1 ∧ R 1 ≤ 100) (hat : 0 ≤ R 2 ∧ R 2 ≤ R 1) (hft : -1 ≤ R 3 ∧ R 3 ≤ 200) (hmo : 2 ≤ most ∧ most ≤ 3) : Cm l E y0_number c0_number 4 (some .int) { frames := 1, cells := 0, slots := 0, locals := 20 } [.ref ra, .int (iZ most)] [(ra, o0 (some ba) R), (ba, aInt E 100 tb)] (fun r ws => ∃ (v : Int), ∃ (at1 : Int), ∃ (ft1 : Int), r = some (.int (iZ v)) ∧ ws = [(ra, o0 (some ba) (upS (upS R 2 at1) 3 ft1)), (ba, aInt E 100 tb)] ∧ (((R 3 < 0 ∧ (48 ≤ nx U (R 1) (R 2) ∧ nx U (R 1) (R 2) ≤ 57) ∧ at1 = nbP U (R 1) most.toNat (R 2) ∧ (R 2 ≤ at1 ∧ at1 ≤ R 1) ∧ ft1 = R 3 ∧ v = nbV U (R 1) most.toNat (R 2) 0 ∧ (0 ≤ v ∧ v ≤ 999)) ∨ (R 3 < 0 ∧ ¬ (48 ≤ nx U (R 1) (R 2) ∧ nx U (R 1) (R 2) ≤ 57) ∧ at1 = R 2 ∧ ft1 = R 2 ∧ v = 0) ∨ (0 ≤ R 3 ∧ at1 = R 2 ∧ ft1 = R 3 ∧ v = 0)) ∧ (R 2 ≤ at1 ∧ at1 ≤ R 1) ∧ (-1 ≤ ft1 ∧ ft1 ≤ 200) ∧ (0 ≤ v ∧ v ≤ 999))) := by
  refine Cm.of (by decide +kernel) (Nat.le_of_ble_eq_true rfl) (fun Γ A hl hargs hin G F => ?_)
  subst hl
  refine j_iconst G d0_number_0 ?_
  refine j_istore_n G d0_number_1 (by decide) rfl ?_
  refine j_iconst G d0_number_2 ?_
  refine j_istore_n G d0_number_3 (by decide) rfl ?_
  refine j_eq (ws' := [(ra, o0 (some ba) (upS R 2 (R 2))), (ba, aInt E 100 tb)]) rfl rfl rfl ?_
  have lp4 : ∀ (fu : Nat) (vl : Int) (kk : Int) (az : Int), (most - kk).toNat < fu → (0 ≤ kk ∧ kk ≤ most) → (kk = 0 → az = R 2) → (0 ≤ vl ∧ (kk ≤ 0 → vl ≤ 0) ∧ (kk ≤ 1 → vl ≤ 9) ∧ (kk ≤ 2 → vl ≤ 99) ∧ vl ≤ 999) → (R 2 ≤ az ∧ az ≤ R 1 ∧ (0 < kk → R 2 < az ∧ R 3 < 0)) → (R 3 < 0 → nbP U (R 1) most.toNat (R 2) = nbP U (R 1) (most - kk).toNat az) → (R 3 < 0 → nbV U (R 1) most.toNat (R 2) 0 = nbV U (R 1) (most - kk).toNat az vl) → (¬ kk = 0 → (48 ≤ nx U (R 1) (R 2) ∧ nx U (R 1) (R 2) ≤ 57)) →  J E 4 Γ (some A) 0 0 [(ra, o0 (some ba) (upS R 2 az)), (ba, aInt E 100 tb)] 4 [(3, .int (iZ kk)), (2, .int (iZ vl)), (0, .ref ra), (1, .int (iZ most))] [] := by
    intro fu
    induction fu with
    | zero =>
      intro vl kk az hm
      exact absurd hm (Nat.not_lt_zero _)
    | succ fu ih4 =>
      intro vl kk az hm hk hz hvl haz hp hv hdz
      refine j_iload_n G 0 rfl d0_number_4 ?_
      refine j_iload_n G 3 rfl d0_number_5 ?_
      refine j_icmp_ge (tgt := 56) G d0_number_6 (by decide) (by omega) (by omega) (fun h1 => ?_) (fun h1 => ?_)
      ·
        have hne : R 3 < 0 → nbP U (R 1) (most - kk).toNat az = az ∧ nbV U (R 1) (most - kk).toNat az vl = vl := fun q => nb_end (by omega) (by omega)
        refine j_iload_n G 0 rfl d0_number_56 ?_
        refine j_if_ne (tgt := 64) G d0_number_57 (by decide) (by omega) (fun h2 => ?_) (fun h2 => ?_)
        ·
          refine j_iload_n G 1 rfl d0_number_64 ?_
          exact j_iret G F d0_number_65 ⟨vl, az, (R 3), rfl, rfl, (by (refine ⟨?_, by omega, by omega, by omega⟩; by_cases hl : R 3 < 0; (by_cases hz9 : kk = 0; (have e1 := hz hz9; subst e1; right; left; exact ⟨hl, by omega, by omega, by omega, by omega⟩); (left; exact ⟨hl, hdz hz9, by rw [hp hl, (hne hl).1], by omega, by omega, by rw [hv hl, (hne hl).2], by omega⟩)); (right; right; omega)))⟩
        ·
          refine j_aload_n G 2 rfl d0_number_60 ?_
          refine j_VM G (rm' := { frames := 0, cells := 0, slots := 0, locals := 0 }) (wc := [(ra, o0 (some ba) (upS R 2 az))]) (wr := [(ba, aInt E 100 tb)]) (k0_fail (xl Γ) E ra ba (upS R 2 az) (by first | assumption | omega | (simp only [upS, reduceIte, Nat.reduceEqDiff, eq_self, List.length_cons, List.length_nil, List.length_append] <;> omega)) (by first | assumption | omega | (simp only [upS, reduceIte, Nat.reduceEqDiff, eq_self, List.length_cons, List.length_nil, List.length_append] <;> omega))) mw0_fail ml0_39 [0] [1] rfl rfl ⟨rfl, rfl⟩ (by decide) 0 0 rfl rfl rfl ⟨Nat.le_of_ble_eq_true rfl, Nat.le_of_ble_eq_true rfl⟩ rfl (rest := []) rfl (Nat.le_of_ble_eq_true rfl) d0_number_61 ⟨Nat.le_of_ble_eq_true rfl, Nat.le_of_ble_eq_true rfl⟩ (fun r w1 hr => ?_)
          obtain ⟨ft1_4, rfl, rfl, ⟨hq3_0, hq3_1⟩⟩ := hr
          refine j_eq (ws' := [(ba, aInt E 100 tb), (ra, o0 (some ba) (upS (upS R 2 az) 3 ft1_4))]) rfl rfl rfl ?_
          try simp only [upS, reduceIte, Nat.reduceEqDiff, eq_self] at hq3_0 hq3_1
          have hf0 := hq3_0
          have hf1 := hq3_1
          refine j_iload_n G 1 rfl d0_number_64 ?_
          refine j_perm (ws' := [(ra, o0 (some ba) (upS (upS R 2 az) 3 ft1_4)), (ba, aInt E 100 tb)]) [1, 0] rfl rfl rfl ?_
          exact j_iret G F d0_number_65 ⟨vl, az, ft1_4, rfl, rfl, (by (refine ⟨?_, by omega, by omega, by omega⟩; by_cases hl : R 3 < 0; (by_cases hz9 : kk = 0; (have e1 := hz hz9; subst e1; right; left; exact ⟨hl, by omega, by omega, by omega, by omega⟩); (left; exact ⟨hl, hdz hz9, by rw [hp hl, (hne hl).1], by omega, by omega, by rw [hv hl, (hne hl).2], by omega⟩)); (right; right; omega)))⟩
      ·
        refine j_aload_n G 2 rfl d0_number_9 ?_
        refine j_VP G (k0_peek (xl Γ) E ra ba (upS R 2 az) tb U (by first | assumption | omega | (simp only [upS, reduceIte, Nat.reduceEqDiff, eq_self, List.length_cons, List.length_nil, List.length_append] <;> omega)) (by first | assumption | omega | (simp only [upS, reduceIte, Nat.reduceEqDiff, eq_self, List.length_cons, List.length_nil, List.length_append] <;> omega)) (by first | assumption | omega | (simp only [upS, reduceIte, Nat.reduceEqDiff, eq_self, List.length_cons, List.length_nil, List.length_append] <;> omega)) (by first | assumption | omega | (simp only [upS, reduceIte, Nat.reduceEqDiff, eq_self, List.length_cons, List.length_nil, List.length_append] <;> omega))) mw0_peek ml0_32 [0, 1] rfl 0 0 rfl rfl rfl ⟨Nat.le_of_ble_eq_true rfl, Nat.le_of_ble_eq_true rfl⟩ rfl (rest := []) rfl (Nat.le_of_ble_eq_true rfl) d0_number_10 ⟨Nat.le_of_ble_eq_true rfl, Nat.le_of_ble_eq_true rfl⟩ (fun r hr => ?_)
        obtain ⟨v6, rfl, ⟨hq5_0, hq5_1, hq5_2, hq5_3, hq5_4⟩⟩ := hr
        try simp only [upS, reduceIte, Nat.reduceEqDiff, eq_self] at hq5_0 hq5_1 hq5_2 hq5_3 hq5_4
        have hp0 := hq5_0
        have hp1 := hq5_1
        have hp2 := hq5_2
        have hp3 := hq5_3
        have hp4 := hq5_4
        refine j_bipush G d0_number_13 rfl ?_
        refine j_icmp_lt (tgt := 56) G d0_number_15 (by decide) (by omega) (by decide) (fun h7 => ?_) (fun h7 => ?_)
        ·
          have hne : R 3 < 0 → nbP U (R 1) (most - kk).toNat az = az ∧ nbV U (R 1) (most - kk).toNat az vl = vl := fun q => nb_end (by omega) (by omega)
          refine j_iload_n G 0 rfl d0_number_56 ?_
          refine j_if_ne (tgt := 64) G d0_number_57 (by decide) (by omega) (fun h8 => ?_) (fun h8 => ?_)
          ·
            refine j_iload_n G 1 rfl d0_number_64 ?_
            exact j_iret G F d0_number_65 ⟨vl, az, (R 3), rfl, rfl, (by (refine ⟨?_, by omega, by omega, by omega⟩; by_cases hl : R 3 < 0; (by_cases hz9 : kk = 0; (have e1 := hz hz9; subst e1; right; left; exact ⟨hl, by omega, by omega, by omega, by omega⟩); (left; exact ⟨hl, hdz hz9, by rw [hp hl, (hne hl).1], by omega, by omega, by rw [hv hl, (hne hl).2], by omega⟩)); (right; right; omega)))⟩
          ·
            refine j_aload_n G 2 rfl d0_number_60 ?_
            refine j_VM G (rm' := { frames := 0, cells := 0, slots := 0, locals := 0 }) (wc := [(ra, o0 (some ba) (upS R 2 az))]) (wr := [(ba, aInt E 100 tb)]) (k0_fail (xl Γ) E ra ba (upS R 2 az) (by first | assumption | omega | (simp only [upS, reduceIte, Nat.reduceEqDiff, eq_self, List.length_cons, List.length_nil, List.length_append] <;> omega)) (by first | assumption | omega | (simp only [upS, reduceIte, Nat.reduceEqDiff, eq_self, List.length_cons, List.length_nil, List.length_append] <;> omega))) mw0_fail ml0_39 [0] [1] rfl rfl ⟨rfl, rfl⟩ (by decide) 0 0 rfl rfl rfl ⟨Nat.le_of_ble_eq_true rfl, Nat.le_of_ble_eq_true rfl⟩ rfl (rest := []) rfl (Nat.le_of_ble_eq_true rfl) d0_number_61 ⟨Nat.le_of_ble_eq_true rfl, Nat.le_of_ble_eq_true rfl⟩ (fun r w1 hr => ?_)
            obtain ⟨ft1_10, rfl, rfl, ⟨hq9_0, hq9_1⟩⟩ := hr
            refine j_eq (ws' := [(ba, aInt E 100 tb), (ra, o0 (some ba) (upS (upS R 2 az) 3 ft1_10))]) rfl rfl rfl ?_
            try simp only [upS, reduceIte, Nat.reduceEqDiff, eq_self] at hq9_0 hq9_1
            have hf0 := hq9_0
            have hf1 := hq9_1
            refine j_iload_n G 1 rfl d0_number_64 ?_
            refine j_perm (ws' := [(ra, o0 (some ba) (upS (upS R 2 az) 3 ft1_10)), (ba, aInt E 100 tb)]) [1, 0] rfl rfl rfl ?_
            exact j_iret G F d0_number_65 ⟨vl, az, ft1_10, rfl, rfl, (by (refine ⟨?_, by omega, by omega, by omega⟩; by_cases hl : R 3 < 0; (by_cases hz9 : kk = 0; (have e1 := hz hz9; subst e1; right; left; exact ⟨hl, by omega, by omega, by omega, by omega⟩); (left; exact ⟨hl, hdz hz9, by rw [hp hl, (hne hl).1], by omega, by omega, by rw [hv hl, (hne hl).2], by omega⟩)); (right; right; omega)))⟩
        ·
          refine j_aload_n G 2 rfl d0_number_18 ?_
          refine j_VP G (k0_peek (xl Γ) E ra ba (upS R 2 az) tb U (by first | assumption | omega | (simp only [upS, reduceIte, Nat.reduceEqDiff, eq_self, List.length_cons, List.length_nil, List.length_append] <;> omega)) (by first | assumption | omega | (simp only [upS, reduceIte, Nat.reduceEqDiff, eq_self, List.length_cons, List.length_nil, List.length_append] <;> omega)) (by first | assumption | omega | (simp only [upS, reduceIte, Nat.reduceEqDiff, eq_self, List.length_cons, List.length_nil, List.length_append] <;> omega)) (by first | assumption | omega | (simp only [upS, reduceIte, Nat.reduceEqDiff, eq_self, List.length_cons, List.length_nil, List.length_append] <;> omega))) mw0_peek ml0_32 [0, 1] rfl 0 0 rfl rfl rfl ⟨Nat.le_of_ble_eq_true rfl, Nat.le_of_ble_eq_true rfl⟩ rfl (rest := []) rfl (Nat.le_of_ble_eq_true rfl) d0_number_19 ⟨Nat.le_of_ble_eq_true rfl, Nat.le_of_ble_eq_true rfl⟩ (fun r hr => ?_)
          obtain ⟨v12, rfl, ⟨hq11_0, hq11_1, hq11_2, hq11_3, hq11_4⟩⟩ := hr
          try simp only [upS, reduceIte, Nat.reduceEqDiff, eq_self] at hq11_0 hq11_1 hq11_2 hq11_3 hq11_4
          have hq0 := hq11_0
          have hq1 := hq11_1
          have hq4 := hq11_4
          refine j_bipush G d0_number_22 rfl ?_
          refine j_icmp_gt (tgt := 56) G d0_number_24 (by decide) (by omega) (by decide) (fun h13 => ?_) (fun h13 => ?_)
          ·
            have hne : R 3 < 0 → nbP U (R 1) (most - kk).toNat az = az ∧ nbV U (R 1) (most - kk).toNat az vl = vl := fun q => nb_end (by omega) (by omega)
            refine j_iload_n G 0 rfl d0_number_56 ?_
            refine j_if_ne (tgt := 64) G d0_number_57 (by decide) (by omega) (fun h14 => ?_) (fun h14 => ?_)
            ·
              refine j_iload_n G 1 rfl d0_number_64 ?_
              exact j_iret G F d0_number_65 ⟨vl, az, (R 3), rfl, rfl, (by (refine ⟨?_, by omega, by omega, by omega⟩; by_cases hl : R 3 < 0; (by_cases hz9 : kk = 0; (have e1 := hz hz9; subst e1; right; left; exact ⟨hl, by omega, by omega, by omega, by omega⟩); (left; exact ⟨hl, hdz hz9, by rw [hp hl, (hne hl).1], by omega, by omega, by rw [hv hl, (hne hl).2], by omega⟩)); (right; right; omega)))⟩
            ·
              refine j_aload_n G 2 rfl d0_number_60 ?_
              refine j_VM G (rm' := { frames := 0, cells := 0, slots := 0, locals := 0 }) (wc := [(ra, o0 (some ba) (upS R 2 az))]) (wr := [(ba, aInt E 100 tb)]) (k0_fail (xl Γ) E ra ba (upS R 2 az) (by first | assumption | omega | (simp only [upS, reduceIte, Nat.reduceEqDiff, eq_self, List.length_cons, List.length_nil, List.length_append] <;> omega)) (by first | assumption | omega | (simp only [upS, reduceIte, Nat.reduceEqDiff, eq_self, List.length_cons, List.length_nil, List.length_append] <;> omega))) mw0_fail ml0_39 [0] [1] rfl rfl ⟨rfl, rfl⟩ (by decide) 0 0 rfl rfl rfl ⟨Nat.le_of_ble_eq_true rfl, Nat.le_of_ble_eq_true rfl⟩ rfl (rest := []) rfl (Nat.le_of_ble_eq_true rfl) d0_number_61 ⟨Nat.le_of_ble_eq_true rfl, Nat.le_of_ble_eq_true rfl⟩ (fun r w1 hr => ?_)
              obtain ⟨ft1_16, rfl, rfl, ⟨hq15_0, hq15_1⟩⟩ := hr
              refine j_eq (ws' := [(ba, aInt E 100 tb), (ra, o0 (some ba) (upS (upS R 2 az) 3 ft1_16))]) rfl rfl rfl ?_
              try simp only [upS, reduceIte, Nat.reduceEqDiff, eq_self] at hq15_0 hq15_1
              have hf0 := hq15_0
              have hf1 := hq15_1
              refine j_iload_n G 1 rfl d0_number_64 ?_
              refine j_perm (ws' := [(ra, o0 (some ba) (upS (upS R 2 az) 3 ft1_16)), (ba, aInt E 100 tb)]) [1, 0] rfl rfl rfl ?_
              exact j_iret G F d0_number_65 ⟨vl, az, ft1_16, rfl, rfl, (by (refine ⟨?_, by omega, by omega, by omega⟩; by_cases hl : R 3 < 0; (by_cases hz9 : kk = 0; (have e1 := hz hz9; subst e1; right; left; exact ⟨hl, by omega, by omega, by omega, by omega⟩); (left; exact ⟨hl, hdz hz9, by rw [hp hl, (hne hl).1], by omega, by omega, by rw [hv hl, (hne hl).2], by omega⟩)); (right; right; omega)))⟩
          ·
            have hft0 : R 3 < 0 := by omega
            have hdd : (48 ≤ nx U (R 1) az ∧ nx U (R 1) az ≤ 57) := by omega
            refine j_bipush G d0_number_27 rfl ?_
            refine j_iload_n G 1 rfl d0_number_29 ?_
            refine j_imul G d0_number_30 ?_
            refine j_aload_n G 2 rfl d0_number_31 ?_
            refine j_VP G (k0_peek (xl Γ) E ra ba (upS R 2 az) tb U (by first | assumption | omega | (simp only [upS, reduceIte, Nat.reduceEqDiff, eq_self, List.length_cons, List.length_nil, List.length_append] <;> omega)) (by first | assumption | omega | (simp only [upS, reduceIte, Nat.reduceEqDiff, eq_self, List.length_cons, List.length_nil, List.length_append] <;> omega)) (by first | assumption | omega | (simp only [upS, reduceIte, Nat.reduceEqDiff, eq_self, List.length_cons, List.length_nil, List.length_append] <;> omega)) (by first | assumption | omega | (simp only [upS, reduceIte, Nat.reduceEqDiff, eq_self, List.length_cons, List.length_nil, List.length_append] <;> omega))) mw0_peek ml0_32 [0, 1] rfl 0 0 rfl rfl rfl ⟨Nat.le_of_ble_eq_true rfl, Nat.le_of_ble_eq_true rfl⟩ rfl (rest := [.int (iZ (10 * vl))]) rfl (Nat.le_of_ble_eq_true rfl) d0_number_32 ⟨Nat.le_of_ble_eq_true rfl, Nat.le_of_ble_eq_true rfl⟩ (fun r hr => ?_)
            obtain ⟨v18, rfl, ⟨hq17_0, hq17_1, hq17_2, hq17_3, hq17_4⟩⟩ := hr
            try simp only [upS, reduceIte, Nat.reduceEqDiff, eq_self] at hq17_0 hq17_1 hq17_2 hq17_3 hq17_4
            have hr0 := hq17_0
            have hr1 := hq17_1
            have hr4 := hq17_4
            refine j_iadd G d0_number_35 ?_
            refine j_bipush G d0_number_36 rfl ?_
            refine j_isub G d0_number_38 ?_
            refine j_istore_n G d0_number_39 (by decide) rfl ?_
            refine j_aload_n G 2 rfl d0_number_40 ?_
            refine j_dup G d0_number_41 rfl ?_
            refine j_get G 0 0 2 in0 fl0_36 d0_number_42 rfl rfl (by decide) (v := .int (iZ az)) rfl rfl ?_
            refine j_iconst G d0_number_45 ?_
            refine j_iadd G d0_number_46 ?_
            refine j_put G 0 0 2 in0 tyok0 nm0 fl0_36 d0_number_47 rfl rfl (by decide) ⟨rfl, rfl⟩ rfl rfl (Nat.le_of_ble_eq_true rfl) (e := o0 (some ba) (upS R 2 (az + 1))) rfl ?_
            refine j_iinc G d0_number_50 1 rfl (by decide) rfl ?_
            refine j_goto (tgt := 4) G d0_number_53 (by decide) ?_
            exact ih4 (((10 * vl) + v18) - 48) (kk + 1) (az + 1) (by omega) (by first | assumption | omega) (by first | assumption | omega) (by first | assumption | omega) (by first | assumption | omega) (fun q => by rw [hp q, show (most - kk).toNat = (most - (kk + 1)).toNat + 1 by omega, nbP_y hdd]) (fun q => by rw [hv q, show (most - kk).toNat = (most - (kk + 1)).toNat + 1 by omega, nbV_y hdd]; congr 1; omega) (fun _ => by by_cases q : kk = 0; (have e1 := hz q; rw [e1] at hdd; exact hdd); exact hdz q)
  exact lp4 _ 0 0 (R 2) (Nat.lt_succ_self _) (by first | assumption | omega) (by first | assumption | omega) (by first | assumption | omega) (by first | assumption | omega) (fun _ => by rw [Int.sub_zero]) (fun _ => by rw [Int.sub_zero]) (fun q => absurd rfl q)
theorem d0_wordOf_0 : decode c0_wordOf 0 = .ok (.iload_n 0, 1) := by decide +kernel
theorem d0_wordOf_1 : decode c0_wordOf 1 = .ok (.tableswitch 71 0 7 #[47, 50, 53, 56, 59, 62, 65, 68], 47) := by decide +kernel
theorem d0_wordOf_48 : decode c0_wordOf 48 = .ok (.ldc 94, 2) := by decide +kernel
theorem d0_wordOf_50 : decode c0_wordOf 50 = .ok (.areturn, 1) := by decide +kernel
theorem d0_wordOf_51 : decode c0_wordOf 51 = .ok (.ldc 96, 2) := by decide +kernel
theorem d0_wordOf_53 : decode c0_wordOf 53 = .ok (.areturn, 1) := by decide +kernel
theorem d0_wordOf_54 : decode c0_wordOf 54 = .ok (.ldc 98, 2) := by decide +kernel
theorem d0_wordOf_56 : decode c0_wordOf 56 = .ok (.areturn, 1) := by decide +kernel
theorem d0_wordOf_57 : decode c0_wordOf 57 = .ok (.ldc 100, 2) := by decide +kernel
theorem d0_wordOf_59 : decode c0_wordOf 59 = .ok (.areturn, 1) := by decide +kernel
theorem d0_wordOf_60 : decode c0_wordOf 60 = .ok (.ldc 102, 2) := by decide +kernel
theorem d0_wordOf_62 : decode c0_wordOf 62 = .ok (.areturn, 1) := by decide +kernel
theorem d0_wordOf_63 : decode c0_wordOf 63 = .ok (.ldc 104, 2) := by decide +kernel
theorem d0_wordOf_65 : decode c0_wordOf 65 = .ok (.areturn, 1) := by decide +kernel
theorem d0_wordOf_66 : decode c0_wordOf 66 = .ok (.ldc 106, 2) := by decide +kernel
theorem d0_wordOf_68 : decode c0_wordOf 68 = .ok (.areturn, 1) := by decide +kernel
theorem d0_wordOf_69 : decode c0_wordOf 69 = .ok (.ldc 108, 2) := by decide +kernel
theorem d0_wordOf_71 : decode c0_wordOf 71 = .ok (.areturn, 1) := by decide +kernel
theorem d0_wordOf_72 : decode c0_wordOf 72 = .ok (.ldc 110, 2) := by decide +kernel
theorem d0_wordOf_74 : decode c0_wordOf 74 = .ok (.areturn, 1) := by decide +kernel
theorem mw0_wordOf : MS y0_wordOf c0_wordOf 1 (some (.object "java/lang/String")) 1 := ⟨cd0_wordOf, ini0, na0_wordOf, st0_wordOf⟩
set_option maxHeartbeats 4000000 in
set_option maxRecDepth 100000 in
theorem k0_wordOf (l : Launch) (E : En) (k : Int) (hk : 0 ≤ k ∧ k ≤ 8) : Cp l E y0_wordOf c0_wordOf 1 (some (.object "java/lang/String")) 0 0 [.int (iZ k)] [] (fun r => r = some (.ref (eK E k.toNat)) ∧ True) := by
  refine Cp.of (by decide +kernel) (Nat.le_of_ble_eq_true rfl) (fun Γ hl hargs G F => ?_)
  subst hl
  refine j_iload_n G 0 rfl d0_wordOf_0 ?_
  rcases (show k = 0 ∨ k = 1 ∨ k = 2 ∨ k = 3 ∨ k = 4 ∨ k = 5 ∨ k = 6 ∨ k = 7 ∨ (k < 0 ∨ 7 < k) by omega) with h1 | h1 | h1 | h1 | h1 | h1 | h1 | h1 | h1
  ·
    refine j_tabIn (tgt := 48) G d0_wordOf_1 (by omega) 0 h1 ⟨by decide, by decide⟩ rfl (by decide) ?_
    obtain rfl : k = 0 := by omega
    refine j_ldcS G 0 (by decide) rfl rfl d0_wordOf_48 ?_
    exact j_aret G F (Or.inl ⟨_, rfl⟩) (Or.inr ⟨_, rfl⟩) d0_wordOf_50 ⟨rfl, trivial⟩
  ·
    refine j_tabIn (tgt := 51) G d0_wordOf_1 (by omega) 1 h1 ⟨by decide, by decide⟩ rfl (by decide) ?_
    obtain rfl : k = 1 := by omega
    refine j_ldcS G 1 (by decide) rfl rfl d0_wordOf_51 ?_
    exact j_aret G F (Or.inl ⟨_, rfl⟩) (Or.inr ⟨_, rfl⟩) d0_wordOf_53 ⟨rfl, trivial⟩
  ·
    refine j_tabIn (tgt := 54) G d0_wordOf_1 (by omega) 2 h1 ⟨by decide, by decide⟩ rfl (by decide) ?_
    obtain rfl : k = 2 := by omega
    refine j_ldcS G 2 (by decide) rfl rfl d0_wordOf_54 ?_
    exact j_aret G F (Or.inl ⟨_, rfl⟩) (Or.inr ⟨_, rfl⟩) d0_wordOf_56 ⟨rfl, trivial⟩
  ·
    refine j_tabIn (tgt := 57) G d0_wordOf_1 (by omega) 3 h1 ⟨by decide, by decide⟩ rfl (by decide) ?_
    obtain rfl : k = 3 := by omega
    refine j_ldcS G 3 (by decide) rfl rfl d0_wordOf_57 ?_
    exact j_aret G F (Or.inl ⟨_, rfl⟩) (Or.inr ⟨_, rfl⟩) d0_wordOf_59 ⟨rfl, trivial⟩
  ·
    refine j_tabIn (tgt := 60) G d0_wordOf_1 (by omega) 4 h1 ⟨by decide, by decide⟩ rfl (by decide) ?_
    obtain rfl : k = 4 := by omega
    refine j_ldcS G 4 (by decide) rfl rfl d0_wordOf_60 ?_
    exact j_aret G F (Or.inl ⟨_, rfl⟩) (Or.inr ⟨_, rfl⟩) d0_wordOf_62 ⟨rfl, trivial⟩
  ·
    refine j_tabIn (tgt := 63) G d0_wordOf_1 (by omega) 5 h1 ⟨by decide, by decide⟩ rfl (by decide) ?_
    obtain rfl : k = 5 := by omega
    refine j_ldcS G 5 (by decide) rfl rfl d0_wordOf_63 ?_
    exact j_aret G F (Or.inl ⟨_, rfl⟩) (Or.inr ⟨_, rfl⟩) d0_wordOf_65 ⟨rfl, trivial⟩
  ·
    refine j_tabIn (tgt := 66) G d0_wordOf_1 (by omega) 6 h1 ⟨by decide, by decide⟩ rfl (by decide) ?_
    obtain rfl : k = 6 := by omega
    refine j_ldcS G 6 (by decide) rfl rfl d0_wordOf_66 ?_
    exact j_aret G F (Or.inl ⟨_, rfl⟩) (Or.inr ⟨_, rfl⟩) d0_wordOf_68 ⟨rfl, trivial⟩
  ·
    refine j_tabIn (tgt := 69) G d0_wordOf_1 (by omega) 7 h1 ⟨by decide, by decide⟩ rfl (by decide) ?_
    obtain rfl : k = 7 := by omega
    refine j_ldcS G 7 (by decide) rfl rfl d0_wordOf_69 ?_
    exact j_aret G F (Or.inl ⟨_, rfl⟩) (Or.inr ⟨_, rfl⟩) d0_wordOf_71 ⟨rfl, trivial⟩
  ·
    refine j_tabOut (tgt := 72) G d0_wordOf_1 (by omega) h1 (by decide) ?_
    obtain rfl : k = 8 := by omega
    refine j_ldcS G 8 (by decide) rfl rfl d0_wordOf_72 ?_
    exact j_aret G F (Or.inl ⟨_, rfl⟩) (Or.inr ⟨_, rfl⟩) d0_wordOf_74 ⟨rfl, trivial⟩
