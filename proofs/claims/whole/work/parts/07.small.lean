theorem d10_in_0 : decode c10_in 0 = .ok (.iload_n 1, 1) := by decide +kernel
theorem d10_in_1 : decode c10_in 1 = .ok (.iload_n 2, 1) := by decide +kernel
theorem d10_in_2 : decode c10_in 2 = .ok (.if_icmp .lt 12, 3) := by decide +kernel
theorem d10_in_5 : decode c10_in 5 = .ok (.iload_n 1, 1) := by decide +kernel
theorem d10_in_6 : decode c10_in 6 = .ok (.iload_n 3, 1) := by decide +kernel
theorem d10_in_7 : decode c10_in 7 = .ok (.if_icmp .gt 7, 3) := by decide +kernel
theorem d10_in_10 : decode c10_in 10 = .ok (.iconst 1, 1) := by decide +kernel
theorem d10_in_11 : decode c10_in 11 = .ok (.goto 4, 3) := by decide +kernel
theorem d10_in_14 : decode c10_in 14 = .ok (.iconst 0, 1) := by decide +kernel
theorem d10_in_15 : decode c10_in 15 = .ok (.ireturn, 1) := by decide +kernel
theorem mw10_in : MV y10_in c10_in 4 (some .boolean) 3 := ⟨cd10_in, ini10, na10_in, im10_in, se10_in⟩
set_option maxHeartbeats 4000000 in
set_option maxRecDepth 100000 in
theorem k10_in (l : Launch) (E : En) (h0 : Nat) (a : Int) (lo : Int) (hi : Int) (r_a : R32 a) (r_lo : R32 lo) (r_hi : R32 hi) : Cp l E y10_in c10_in 4 (some .boolean) 0 0 [.ref h0, .int (iZ a), .int (iZ lo), .int (iZ hi)] [] (fun r => ∃ (v : Int), r = some (.int (iZ v)) ∧ (((lo ≤ a ∧ a ≤ hi) ∧ v = 1) ∨ (¬ (lo ≤ a ∧ a ≤ hi) ∧ v = 0))) := by
  refine Cp.of rfl (Nat.le_of_ble_eq_true rfl) (fun Γ hl ha G F => ?_)
  subst hl
  refine j_iload_n G 1 rfl d10_in_0 ?_
  refine j_iload_n G 2 rfl d10_in_1 ?_
  refine j_icmp_lt (tgt := 14) G d10_in_2 (by decide) (by omega) (by omega) (fun h1 => ?_) (fun h1 => ?_)
  ·
    refine j_iconst G d10_in_14 ?_
    exact j_zret G F d10_in_15 (by decide) ⟨0, rfl, (by first | (left; exact ⟨by omega, rfl⟩) | (right; exact ⟨by omega, rfl⟩))⟩
  ·
    refine j_iload_n G 1 rfl d10_in_5 ?_
    refine j_iload_n G 3 rfl d10_in_6 ?_
    refine j_icmp_gt (tgt := 14) G d10_in_7 (by decide) (by omega) (by omega) (fun h2 => ?_) (fun h2 => ?_)
    ·
      refine j_iconst G d10_in_14 ?_
      exact j_zret G F d10_in_15 (by decide) ⟨0, rfl, (by first | (left; exact ⟨by omega, rfl⟩) | (right; exact ⟨by omega, rfl⟩))⟩
    ·
      refine j_iconst G d10_in_10 ?_
      refine j_goto (tgt := 15) G d10_in_11 (by decide) ?_
      exact j_zret G F d10_in_15 (by decide) ⟨1, rfl, (by first | (left; exact ⟨by omega, rfl⟩) | (right; exact ⟨by omega, rfl⟩))⟩
theorem d10_min_0 : decode c10_min 0 = .ok (.iload_n 1, 1) := by decide +kernel
theorem d10_min_1 : decode c10_min 1 = .ok (.iload_n 2, 1) := by decide +kernel
theorem d10_min_2 : decode c10_min 2 = .ok (.if_icmp .ge 7, 3) := by decide +kernel
theorem d10_min_5 : decode c10_min 5 = .ok (.iload_n 1, 1) := by decide +kernel
theorem d10_min_6 : decode c10_min 6 = .ok (.goto 4, 3) := by decide +kernel
theorem d10_min_9 : decode c10_min 9 = .ok (.iload_n 2, 1) := by decide +kernel
theorem d10_min_10 : decode c10_min 10 = .ok (.ireturn, 1) := by decide +kernel
theorem mw10_min : MV y10_min c10_min 3 (some .int) 2 := ⟨cd10_min, ini10, na10_min, im10_min, se10_min⟩
set_option maxHeartbeats 4000000 in
set_option maxRecDepth 100000 in
theorem k10_min (l : Launch) (E : En) (h0 : Nat) (a : Int) (b : Int) (r_a : R32 a) (r_b : R32 b) : Cp l E y10_min c10_min 3 (some .int) 0 0 [.ref h0, .int (iZ a), .int (iZ b)] [] (fun r => ∃ (v : Int), r = some (.int (iZ v)) ∧ (v = min a b)) := by
  refine Cp.of rfl (Nat.le_of_ble_eq_true rfl) (fun Γ hl ha G F => ?_)
  subst hl
  refine j_iload_n G 1 rfl d10_min_0 ?_
  refine j_iload_n G 2 rfl d10_min_1 ?_
  refine j_icmp_ge (tgt := 9) G d10_min_2 (by decide) (by omega) (by omega) (fun h1 => ?_) (fun h1 => ?_)
  ·
    refine j_iload_n G 2 rfl d10_min_9 ?_
    exact j_iret G F d10_min_10 ⟨b, rfl, (by omega)⟩
  ·
    refine j_iload_n G 1 rfl d10_min_5 ?_
    refine j_goto (tgt := 10) G d10_min_6 (by decide) ?_
    exact j_iret G F d10_min_10 ⟨a, rfl, (by omega)⟩
theorem d9_isNoStep_0 : decode c9_isNoStep 0 = .ok (.iload_n 0, 1) := by decide +kernel
theorem d9_isNoStep_1 : decode c9_isNoStep 1 = .ok (.ifCond .lt 9, 3) := by decide +kernel
theorem d9_isNoStep_4 : decode c9_isNoStep 4 = .ok (.iload_n 0, 1) := by decide +kernel
theorem d9_isNoStep_5 : decode c9_isNoStep 5 = .ok (.bipush 12, 2) := by decide +kernel
theorem d9_isNoStep_7 : decode c9_isNoStep 7 = .ok (.if_icmp .lt 7, 3) := by decide +kernel
theorem d9_isNoStep_10 : decode c9_isNoStep 10 = .ok (.iconst 1, 1) := by decide +kernel
theorem d9_isNoStep_11 : decode c9_isNoStep 11 = .ok (.goto 4, 3) := by decide +kernel
theorem d9_isNoStep_14 : decode c9_isNoStep 14 = .ok (.iconst 0, 1) := by decide +kernel
theorem d9_isNoStep_15 : decode c9_isNoStep 15 = .ok (.ireturn, 1) := by decide +kernel
theorem mw9_isNoStep : MS y9_isNoStep c9_isNoStep 1 (some .boolean) 1 := ⟨cd9_isNoStep, ini9, na9_isNoStep, st9_isNoStep⟩
set_option maxHeartbeats 4000000 in
set_option maxRecDepth 100000 in
theorem k9_isNoStep (l : Launch) (E : En) (a : Int) (r_a : R32 a) : Cp l E y9_isNoStep c9_isNoStep 1 (some .boolean) 0 0 [.int (iZ a)] [] (fun r => ∃ (v : Int), r = some (.int (iZ v)) ∧ (((¬ (0 ≤ a ∧ a ≤ 11)) ∧ v = 1) ∨ (¬ (¬ (0 ≤ a ∧ a ≤ 11)) ∧ v = 0))) := by
  refine Cp.of rfl (Nat.le_of_ble_eq_true rfl) (fun Γ hl ha G F => ?_)
  subst hl
  refine j_iload_n G 0 rfl d9_isNoStep_0 ?_
  refine j_if_lt (tgt := 10) G d9_isNoStep_1 (by decide) (by omega) (fun h1 => ?_) (fun h1 => ?_)
  ·
    refine j_iconst G d9_isNoStep_10 ?_
    refine j_goto (tgt := 15) G d9_isNoStep_11 (by decide) ?_
    exact j_zret G F d9_isNoStep_15 (by decide) ⟨1, rfl, (by first | (left; exact ⟨by omega, rfl⟩) | (right; exact ⟨by omega, rfl⟩))⟩
  ·
    refine j_iload_n G 0 rfl d9_isNoStep_4 ?_
    refine j_bipush G d9_isNoStep_5 rfl ?_
    refine j_icmp_lt (tgt := 14) G d9_isNoStep_7 (by decide) (by omega) (by decide) (fun h2 => ?_) (fun h2 => ?_)
    ·
      refine j_iconst G d9_isNoStep_14 ?_
      exact j_zret G F d9_isNoStep_15 (by decide) ⟨0, rfl, (by first | (left; exact ⟨by omega, rfl⟩) | (right; exact ⟨by omega, rfl⟩))⟩
    ·
      refine j_iconst G d9_isNoStep_10 ?_
      refine j_goto (tgt := 15) G d9_isNoStep_11 (by decide) ?_
      exact j_zret G F d9_isNoStep_15 (by decide) ⟨1, rfl, (by first | (left; exact ⟨by omega, rfl⟩) | (right; exact ⟨by omega, rfl⟩))⟩
theorem d9_areNoHeads_0 : decode c9_areNoHeads 0 = .ok (.iload_n 0, 1) := by decide +kernel
theorem d9_areNoHeads_1 : decode c9_areNoHeads 1 = .ok (.ifCond .lt 9, 3) := by decide +kernel
theorem d9_areNoHeads_4 : decode c9_areNoHeads 4 = .ok (.iload_n 0, 1) := by decide +kernel
theorem d9_areNoHeads_5 : decode c9_areNoHeads 5 = .ok (.bipush 6, 2) := by decide +kernel
theorem d9_areNoHeads_7 : decode c9_areNoHeads 7 = .ok (.if_icmp .le 7, 3) := by decide +kernel
theorem d9_areNoHeads_10 : decode c9_areNoHeads 10 = .ok (.iconst 1, 1) := by decide +kernel
theorem d9_areNoHeads_11 : decode c9_areNoHeads 11 = .ok (.goto 4, 3) := by decide +kernel
theorem d9_areNoHeads_14 : decode c9_areNoHeads 14 = .ok (.iconst 0, 1) := by decide +kernel
theorem d9_areNoHeads_15 : decode c9_areNoHeads 15 = .ok (.ireturn, 1) := by decide +kernel
theorem mw9_areNoHeads : MS y9_areNoHeads c9_areNoHeads 1 (some .boolean) 1 := ⟨cd9_areNoHeads, ini9, na9_areNoHeads, st9_areNoHeads⟩
set_option maxHeartbeats 4000000 in
set_option maxRecDepth 100000 in
theorem k9_areNoHeads (l : Launch) (E : En) (a : Int) (r_a : R32 a) : Cp l E y9_areNoHeads c9_areNoHeads 1 (some .boolean) 0 0 [.int (iZ a)] [] (fun r => ∃ (v : Int), r = some (.int (iZ v)) ∧ (((¬ (0 ≤ a ∧ a ≤ 6)) ∧ v = 1) ∨ (¬ (¬ (0 ≤ a ∧ a ≤ 6)) ∧ v = 0))) := by
  refine Cp.of rfl (Nat.le_of_ble_eq_true rfl) (fun Γ hl ha G F => ?_)
  subst hl
  refine j_iload_n G 0 rfl d9_areNoHeads_0 ?_
  refine j_if_lt (tgt := 10) G d9_areNoHeads_1 (by decide) (by omega) (fun h1 => ?_) (fun h1 => ?_)
  ·
    refine j_iconst G d9_areNoHeads_10 ?_
    refine j_goto (tgt := 15) G d9_areNoHeads_11 (by decide) ?_
    exact j_zret G F d9_areNoHeads_15 (by decide) ⟨1, rfl, (by first | (left; exact ⟨by omega, rfl⟩) | (right; exact ⟨by omega, rfl⟩))⟩
  ·
    refine j_iload_n G 0 rfl d9_areNoHeads_4 ?_
    refine j_bipush G d9_areNoHeads_5 rfl ?_
    refine j_icmp_le (tgt := 14) G d9_areNoHeads_7 (by decide) (by omega) (by decide) (fun h2 => ?_) (fun h2 => ?_)
    ·
      refine j_iconst G d9_areNoHeads_14 ?_
      exact j_zret G F d9_areNoHeads_15 (by decide) ⟨0, rfl, (by first | (left; exact ⟨by omega, rfl⟩) | (right; exact ⟨by omega, rfl⟩))⟩
    ·
      refine j_iconst G d9_areNoHeads_10 ?_
      refine j_goto (tgt := 15) G d9_areNoHeads_11 (by decide) ?_
      exact j_zret G F d9_areNoHeads_15 (by decide) ⟨1, rfl, (by first | (left; exact ⟨by omega, rfl⟩) | (right; exact ⟨by omega, rfl⟩))⟩
theorem d9_areNoPints_0 : decode c9_areNoPints 0 = .ok (.iload_n 0, 1) := by decide +kernel
theorem d9_areNoPints_1 : decode c9_areNoPints 1 = .ok (.ifCond .lt 9, 3) := by decide +kernel
theorem d9_areNoPints_4 : decode c9_areNoPints 4 = .ok (.iload_n 0, 1) := by decide +kernel
theorem d9_areNoPints_5 : decode c9_areNoPints 5 = .ok (.bipush 99, 2) := by decide +kernel
theorem d9_areNoPints_7 : decode c9_areNoPints 7 = .ok (.if_icmp .le 7, 3) := by decide +kernel
theorem d9_areNoPints_10 : decode c9_areNoPints 10 = .ok (.iconst 1, 1) := by decide +kernel
theorem d9_areNoPints_11 : decode c9_areNoPints 11 = .ok (.goto 4, 3) := by decide +kernel
theorem d9_areNoPints_14 : decode c9_areNoPints 14 = .ok (.iconst 0, 1) := by decide +kernel
theorem d9_areNoPints_15 : decode c9_areNoPints 15 = .ok (.ireturn, 1) := by decide +kernel
theorem mw9_areNoPints : MS y9_areNoPints c9_areNoPints 1 (some .boolean) 1 := ⟨cd9_areNoPints, ini9, na9_areNoPints, st9_areNoPints⟩
set_option maxHeartbeats 4000000 in
set_option maxRecDepth 100000 in
theorem k9_areNoPints (l : Launch) (E : En) (a : Int) (r_a : R32 a) : Cp l E y9_areNoPints c9_areNoPints 1 (some .boolean) 0 0 [.int (iZ a)] [] (fun r => ∃ (v : Int), r = some (.int (iZ v)) ∧ (((¬ (0 ≤ a ∧ a ≤ 99)) ∧ v = 1) ∨ (¬ (¬ (0 ≤ a ∧ a ≤ 99)) ∧ v = 0))) := by
  refine Cp.of rfl (Nat.le_of_ble_eq_true rfl) (fun Γ hl ha G F => ?_)
  subst hl
  refine j_iload_n G 0 rfl d9_areNoPints_0 ?_
  refine j_if_lt (tgt := 10) G d9_areNoPints_1 (by decide) (by omega) (fun h1 => ?_) (fun h1 => ?_)
  ·
    refine j_iconst G d9_areNoPints_10 ?_
    refine j_goto (tgt := 15) G d9_areNoPints_11 (by decide) ?_
    exact j_zret G F d9_areNoPints_15 (by decide) ⟨1, rfl, (by first | (left; exact ⟨by omega, rfl⟩) | (right; exact ⟨by omega, rfl⟩))⟩
  ·
    refine j_iload_n G 0 rfl d9_areNoPints_4 ?_
    refine j_bipush G d9_areNoPints_5 rfl ?_
    refine j_icmp_le (tgt := 14) G d9_areNoPints_7 (by decide) (by omega) (by decide) (fun h2 => ?_) (fun h2 => ?_)
    ·
      refine j_iconst G d9_areNoPints_14 ?_
      exact j_zret G F d9_areNoPints_15 (by decide) ⟨0, rfl, (by first | (left; exact ⟨by omega, rfl⟩) | (right; exact ⟨by omega, rfl⟩))⟩
    ·
      refine j_iconst G d9_areNoPints_10 ?_
      refine j_goto (tgt := 15) G d9_areNoPints_11 (by decide) ?_
      exact j_zret G F d9_areNoPints_15 (by decide) ⟨1, rfl, (by first | (left; exact ⟨by omega, rfl⟩) | (right; exact ⟨by omega, rfl⟩))⟩
theorem d9_isNoCrowd_0 : decode c9_isNoCrowd 0 = .ok (.iload_n 0, 1) := by decide +kernel
theorem d9_isNoCrowd_1 : decode c9_isNoCrowd 1 = .ok (.ifCond .lt 9, 3) := by decide +kernel
theorem d9_isNoCrowd_4 : decode c9_isNoCrowd 4 = .ok (.iload_n 0, 1) := by decide +kernel
theorem d9_isNoCrowd_5 : decode c9_isNoCrowd 5 = .ok (.bipush 8, 2) := by decide +kernel
theorem d9_isNoCrowd_7 : decode c9_isNoCrowd 7 = .ok (.if_icmp .le 7, 3) := by decide +kernel
theorem d9_isNoCrowd_10 : decode c9_isNoCrowd 10 = .ok (.iconst 1, 1) := by decide +kernel
theorem d9_isNoCrowd_11 : decode c9_isNoCrowd 11 = .ok (.goto 4, 3) := by decide +kernel
theorem d9_isNoCrowd_14 : decode c9_isNoCrowd 14 = .ok (.iconst 0, 1) := by decide +kernel
theorem d9_isNoCrowd_15 : decode c9_isNoCrowd 15 = .ok (.ireturn, 1) := by decide +kernel
theorem mw9_isNoCrowd : MS y9_isNoCrowd c9_isNoCrowd 1 (some .boolean) 1 := ⟨cd9_isNoCrowd, ini9, na9_isNoCrowd, st9_isNoCrowd⟩
set_option maxHeartbeats 4000000 in
set_option maxRecDepth 100000 in
theorem k9_isNoCrowd (l : Launch) (E : En) (a : Int) (r_a : R32 a) : Cp l E y9_isNoCrowd c9_isNoCrowd 1 (some .boolean) 0 0 [.int (iZ a)] [] (fun r => ∃ (v : Int), r = some (.int (iZ v)) ∧ (((¬ (0 ≤ a ∧ a ≤ 8)) ∧ v = 1) ∨ (¬ (¬ (0 ≤ a ∧ a ≤ 8)) ∧ v = 0))) := by
  refine Cp.of rfl (Nat.le_of_ble_eq_true rfl) (fun Γ hl ha G F => ?_)
  subst hl
  refine j_iload_n G 0 rfl d9_isNoCrowd_0 ?_
  refine j_if_lt (tgt := 10) G d9_isNoCrowd_1 (by decide) (by omega) (fun h1 => ?_) (fun h1 => ?_)
  ·
    refine j_iconst G d9_isNoCrowd_10 ?_
    refine j_goto (tgt := 15) G d9_isNoCrowd_11 (by decide) ?_
    exact j_zret G F d9_isNoCrowd_15 (by decide) ⟨1, rfl, (by first | (left; exact ⟨by omega, rfl⟩) | (right; exact ⟨by omega, rfl⟩))⟩
  ·
    refine j_iload_n G 0 rfl d9_isNoCrowd_4 ?_
    refine j_bipush G d9_isNoCrowd_5 rfl ?_
    refine j_icmp_le (tgt := 14) G d9_isNoCrowd_7 (by decide) (by omega) (by decide) (fun h2 => ?_) (fun h2 => ?_)
    ·
      refine j_iconst G d9_isNoCrowd_14 ?_
      exact j_zret G F d9_isNoCrowd_15 (by decide) ⟨0, rfl, (by first | (left; exact ⟨by omega, rfl⟩) | (right; exact ⟨by omega, rfl⟩))⟩
    ·
      refine j_iconst G d9_isNoCrowd_10 ?_
      refine j_goto (tgt := 15) G d9_isNoCrowd_11 (by decide) ?_
      exact j_zret G F d9_isNoCrowd_15 (by decide) ⟨1, rfl, (by first | (left; exact ⟨by omega, rfl⟩) | (right; exact ⟨by omega, rfl⟩))⟩
theorem d9_isNoKind_0 : decode c9_isNoKind 0 = .ok (.iload_n 0, 1) := by decide +kernel
theorem d9_isNoKind_1 : decode c9_isNoKind 1 = .ok (.ifCond .lt 9, 3) := by decide +kernel
theorem d9_isNoKind_4 : decode c9_isNoKind 4 = .ok (.iload_n 0, 1) := by decide +kernel
theorem d9_isNoKind_5 : decode c9_isNoKind 5 = .ok (.bipush 6, 2) := by decide +kernel
theorem d9_isNoKind_7 : decode c9_isNoKind 7 = .ok (.if_icmp .le 7, 3) := by decide +kernel
theorem d9_isNoKind_10 : decode c9_isNoKind 10 = .ok (.iconst 1, 1) := by decide +kernel
theorem d9_isNoKind_11 : decode c9_isNoKind 11 = .ok (.goto 4, 3) := by decide +kernel
theorem d9_isNoKind_14 : decode c9_isNoKind 14 = .ok (.iconst 0, 1) := by decide +kernel
theorem d9_isNoKind_15 : decode c9_isNoKind 15 = .ok (.ireturn, 1) := by decide +kernel
theorem mw9_isNoKind : MS y9_isNoKind c9_isNoKind 1 (some .boolean) 1 := ⟨cd9_isNoKind, ini9, na9_isNoKind, st9_isNoKind⟩
set_option maxHeartbeats 4000000 in
set_option maxRecDepth 100000 in
theorem k9_isNoKind (l : Launch) (E : En) (a : Int) (r_a : R32 a) : Cp l E y9_isNoKind c9_isNoKind 1 (some .boolean) 0 0 [.int (iZ a)] [] (fun r => ∃ (v : Int), r = some (.int (iZ v)) ∧ (((¬ (0 ≤ a ∧ a ≤ 6)) ∧ v = 1) ∨ (¬ (¬ (0 ≤ a ∧ a ≤ 6)) ∧ v = 0))) := by
  refine Cp.of rfl (Nat.le_of_ble_eq_true rfl) (fun Γ hl ha G F => ?_)
  subst hl
  refine j_iload_n G 0 rfl d9_isNoKind_0 ?_
  refine j_if_lt (tgt := 10) G d9_isNoKind_1 (by decide) (by omega) (fun h1 => ?_) (fun h1 => ?_)
  ·
    refine j_iconst G d9_isNoKind_10 ?_
    refine j_goto (tgt := 15) G d9_isNoKind_11 (by decide) ?_
    exact j_zret G F d9_isNoKind_15 (by decide) ⟨1, rfl, (by first | (left; exact ⟨by omega, rfl⟩) | (right; exact ⟨by omega, rfl⟩))⟩
  ·
    refine j_iload_n G 0 rfl d9_isNoKind_4 ?_
    refine j_bipush G d9_isNoKind_5 rfl ?_
    refine j_icmp_le (tgt := 14) G d9_isNoKind_7 (by decide) (by omega) (by decide) (fun h2 => ?_) (fun h2 => ?_)
    ·
      refine j_iconst G d9_isNoKind_14 ?_
      exact j_zret G F d9_isNoKind_15 (by decide) ⟨0, rfl, (by first | (left; exact ⟨by omega, rfl⟩) | (right; exact ⟨by omega, rfl⟩))⟩
    ·
      refine j_iconst G d9_isNoKind_10 ?_
      refine j_goto (tgt := 15) G d9_isNoKind_11 (by decide) ?_
      exact j_zret G F d9_isNoKind_15 (by decide) ⟨1, rfl, (by first | (left; exact ⟨by omega, rfl⟩) | (right; exact ⟨by omega, rfl⟩))⟩
theorem d9_isNoTape_0 : decode c9_isNoTape 0 = .ok (.iload_n 0, 1) := by decide +kernel
theorem d9_isNoTape_1 : decode c9_isNoTape 1 = .ok (.ifCond .lt 9, 3) := by decide +kernel
theorem d9_isNoTape_4 : decode c9_isNoTape 4 = .ok (.iload_n 0, 1) := by decide +kernel
theorem d9_isNoTape_5 : decode c9_isNoTape 5 = .ok (.bipush 6, 2) := by decide +kernel
theorem d9_isNoTape_7 : decode c9_isNoTape 7 = .ok (.if_icmp .lt 7, 3) := by decide +kernel
theorem d9_isNoTape_10 : decode c9_isNoTape 10 = .ok (.iconst 1, 1) := by decide +kernel
theorem d9_isNoTape_11 : decode c9_isNoTape 11 = .ok (.goto 4, 3) := by decide +kernel
theorem d9_isNoTape_14 : decode c9_isNoTape 14 = .ok (.iconst 0, 1) := by decide +kernel
theorem d9_isNoTape_15 : decode c9_isNoTape 15 = .ok (.ireturn, 1) := by decide +kernel
theorem mw9_isNoTape : MS y9_isNoTape c9_isNoTape 1 (some .boolean) 1 := ⟨cd9_isNoTape, ini9, na9_isNoTape, st9_isNoTape⟩
set_option maxHeartbeats 4000000 in
set_option maxRecDepth 100000 in
theorem k9_isNoTape (l : Launch) (E : En) (a : Int) (r_a : R32 a) : Cp l E y9_isNoTape c9_isNoTape 1 (some .boolean) 0 0 [.int (iZ a)] [] (fun r => ∃ (v : Int), r = some (.int (iZ v)) ∧ (((¬ (0 ≤ a ∧ a ≤ 5)) ∧ v = 1) ∨ (¬ (¬ (0 ≤ a ∧ a ≤ 5)) ∧ v = 0))) := by
  refine Cp.of rfl (Nat.le_of_ble_eq_true rfl) (fun Γ hl ha G F => ?_)
  subst hl
  refine j_iload_n G 0 rfl d9_isNoTape_0 ?_
  refine j_if_lt (tgt := 10) G d9_isNoTape_1 (by decide) (by omega) (fun h1 => ?_) (fun h1 => ?_)
  ·
    refine j_iconst G d9_isNoTape_10 ?_
    refine j_goto (tgt := 15) G d9_isNoTape_11 (by decide) ?_
    exact j_zret G F d9_isNoTape_15 (by decide) ⟨1, rfl, (by first | (left; exact ⟨by omega, rfl⟩) | (right; exact ⟨by omega, rfl⟩))⟩
  ·
    refine j_iload_n G 0 rfl d9_isNoTape_4 ?_
    refine j_bipush G d9_isNoTape_5 rfl ?_
    refine j_icmp_lt (tgt := 14) G d9_isNoTape_7 (by decide) (by omega) (by decide) (fun h2 => ?_) (fun h2 => ?_)
    ·
      refine j_iconst G d9_isNoTape_14 ?_
      exact j_zret G F d9_isNoTape_15 (by decide) ⟨0, rfl, (by first | (left; exact ⟨by omega, rfl⟩) | (right; exact ⟨by omega, rfl⟩))⟩
    ·
      refine j_iconst G d9_isNoTape_10 ?_
      refine j_goto (tgt := 15) G d9_isNoTape_11 (by decide) ?_
      exact j_zret G F d9_isNoTape_15 (by decide) ⟨1, rfl, (by first | (left; exact ⟨by omega, rfl⟩) | (right; exact ⟨by omega, rfl⟩))⟩
