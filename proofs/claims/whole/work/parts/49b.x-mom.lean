theorem d0_momentsWith_0 : decode c0_momentsWith 0 = .ok (.iconst 0, 1) := by decide +kernel
theorem d0_momentsWith_1 : decode c0_momentsWith 1 = .ok (.istore_n 3, 1) := by decide +kernel
theorem d0_momentsWith_2 : decode c0_momentsWith 2 = .ok (.iconst 0, 1) := by decide +kernel
theorem d0_momentsWith_3 : decode c0_momentsWith 3 = .ok (.istore 4, 2) := by decide +kernel
theorem d0_momentsWith_5 : decode c0_momentsWith 5 = .ok (.iload 4, 2) := by decide +kernel
theorem d0_momentsWith_7 : decode c0_momentsWith 7 = .ok (.bipush 24, 2) := by decide +kernel
theorem d0_momentsWith_9 : decode c0_momentsWith 9 = .ok (.if_icmp .ge 95, 3) := by decide +kernel
theorem d0_momentsWith_12 : decode c0_momentsWith 12 = .ok (.iload_n 0, 1) := by decide +kernel
theorem d0_momentsWith_13 : decode c0_momentsWith 13 = .ok (.bipush 115, 2) := by decide +kernel
theorem d0_momentsWith_15 : decode c0_momentsWith 15 = .ok (.if_icmp .ne 11, 3) := by decide +kernel
theorem d0_momentsWith_18 : decode c0_momentsWith 18 = .ok (.iload 4, 2) := by decide +kernel
theorem d0_momentsWith_20 : decode c0_momentsWith 20 = .ok (.bipush 12, 2) := by decide +kernel
theorem d0_momentsWith_22 : decode c0_momentsWith 22 = .ok (.irem, 1) := by decide +kernel
theorem d0_momentsWith_23 : decode c0_momentsWith 23 = .ok (.goto 8, 3) := by decide +kernel
theorem d0_momentsWith_26 : decode c0_momentsWith 26 = .ok (.iload 4, 2) := by decide +kernel
theorem d0_momentsWith_28 : decode c0_momentsWith 28 = .ok (.bipush 12, 2) := by decide +kernel
theorem d0_momentsWith_30 : decode c0_momentsWith 30 = .ok (.idiv, 1) := by decide +kernel
theorem d0_momentsWith_31 : decode c0_momentsWith 31 = .ok (.istore 5, 2) := by decide +kernel
theorem d0_momentsWith_33 : decode c0_momentsWith 33 = .ok (.iload_n 1, 1) := by decide +kernel
theorem d0_momentsWith_34 : decode c0_momentsWith 34 = .ok (.bipush 60, 2) := by decide +kernel
theorem d0_momentsWith_36 : decode c0_momentsWith 36 = .ok (.if_icmp .ne 17, 3) := by decide +kernel
theorem d0_momentsWith_39 : decode c0_momentsWith 39 = .ok (.iload 5, 2) := by decide +kernel
theorem d0_momentsWith_41 : decode c0_momentsWith 41 = .ok (.iload_n 2, 1) := by decide +kernel
theorem d0_momentsWith_42 : decode c0_momentsWith 42 = .ok (.if_icmp .ge 7, 3) := by decide +kernel
theorem d0_momentsWith_45 : decode c0_momentsWith 45 = .ok (.iconst 1, 1) := by decide +kernel
theorem d0_momentsWith_46 : decode c0_momentsWith 46 = .ok (.goto 38, 3) := by decide +kernel
theorem d0_momentsWith_49 : decode c0_momentsWith 49 = .ok (.iconst 0, 1) := by decide +kernel
theorem d0_momentsWith_50 : decode c0_momentsWith 50 = .ok (.goto 34, 3) := by decide +kernel
theorem d0_momentsWith_53 : decode c0_momentsWith 53 = .ok (.iload_n 1, 1) := by decide +kernel
theorem d0_momentsWith_54 : decode c0_momentsWith 54 = .ok (.bipush 62, 2) := by decide +kernel
theorem d0_momentsWith_56 : decode c0_momentsWith 56 = .ok (.if_icmp .ne 17, 3) := by decide +kernel
theorem d0_momentsWith_59 : decode c0_momentsWith 59 = .ok (.iload 5, 2) := by decide +kernel
theorem d0_momentsWith_61 : decode c0_momentsWith 61 = .ok (.iload_n 2, 1) := by decide +kernel
theorem d0_momentsWith_62 : decode c0_momentsWith 62 = .ok (.if_icmp .le 7, 3) := by decide +kernel
theorem d0_momentsWith_65 : decode c0_momentsWith 65 = .ok (.iconst 1, 1) := by decide +kernel
theorem d0_momentsWith_66 : decode c0_momentsWith 66 = .ok (.goto 18, 3) := by decide +kernel
theorem d0_momentsWith_69 : decode c0_momentsWith 69 = .ok (.iconst 0, 1) := by decide +kernel
theorem d0_momentsWith_70 : decode c0_momentsWith 70 = .ok (.goto 14, 3) := by decide +kernel
theorem d0_momentsWith_73 : decode c0_momentsWith 73 = .ok (.iload 5, 2) := by decide +kernel
theorem d0_momentsWith_75 : decode c0_momentsWith 75 = .ok (.iload_n 2, 1) := by decide +kernel
theorem d0_momentsWith_76 : decode c0_momentsWith 76 = .ok (.if_icmp .ne 7, 3) := by decide +kernel
theorem d0_momentsWith_79 : decode c0_momentsWith 79 = .ok (.iconst 1, 1) := by decide +kernel
theorem d0_momentsWith_80 : decode c0_momentsWith 80 = .ok (.goto 4, 3) := by decide +kernel
theorem d0_momentsWith_83 : decode c0_momentsWith 83 = .ok (.iconst 0, 1) := by decide +kernel
theorem d0_momentsWith_84 : decode c0_momentsWith 84 = .ok (.istore 6, 2) := by decide +kernel
theorem d0_momentsWith_86 : decode c0_momentsWith 86 = .ok (.iload 6, 2) := by decide +kernel
theorem d0_momentsWith_88 : decode c0_momentsWith 88 = .ok (.ifCond .eq 10, 3) := by decide +kernel
theorem d0_momentsWith_91 : decode c0_momentsWith 91 = .ok (.iload_n 3, 1) := by decide +kernel
theorem d0_momentsWith_92 : decode c0_momentsWith 92 = .ok (.iconst 1, 1) := by decide +kernel
theorem d0_momentsWith_93 : decode c0_momentsWith 93 = .ok (.iload 4, 2) := by decide +kernel
theorem d0_momentsWith_95 : decode c0_momentsWith 95 = .ok (.ishl, 1) := by decide +kernel
theorem d0_momentsWith_96 : decode c0_momentsWith 96 = .ok (.ior, 1) := by decide +kernel
theorem d0_momentsWith_97 : decode c0_momentsWith 97 = .ok (.istore_n 3, 1) := by decide +kernel
theorem d0_momentsWith_98 : decode c0_momentsWith 98 = .ok (.iinc 4 1, 3) := by decide +kernel
theorem d0_momentsWith_101 : decode c0_momentsWith 101 = .ok (.goto (-96), 3) := by decide +kernel
theorem d0_momentsWith_104 : decode c0_momentsWith 104 = .ok (.iload_n 3, 1) := by decide +kernel
theorem d0_momentsWith_105 : decode c0_momentsWith 105 = .ok (.ireturn, 1) := by decide +kernel
theorem mw0_momentsWith : MS y0_momentsWith c0_momentsWith 7 (some .int) 3 := ⟨cd0_momentsWith, ini0, na0_momentsWith, st0_momentsWith⟩
set_option maxHeartbeats 4000000 in
set_option maxRecDepth 100000 in
theorem k0_momentsWith (l : Launch) (E : En) (sb : Int) (rl : Int) (n : Int) (r_sb : R32 sb) (r_rl : R32 rl) (hn : 0 ≤ n ∧ n ≤ 999) : Cp l E y0_momentsWith c0_momentsWith 7 (some .int) 0 0 [.int (iZ sb), .int (iZ rl), .int (iZ n)] [] (fun r => ∃ (v : Int), r = some (.int (iZ v)) ∧ ((sb = 115 ∨ sb = 119 → 60 ≤ rl ∧ rl ≤ 62 → n ≤ 99 → mb v (fun s q => tstV ((if sb = 115 then 0 else 10000) + 100 * (rl - 60) + n) s q)) ∧ R32 v)) := by
  refine Cp.of (by decide +kernel) (Nat.le_of_ble_eq_true rfl) (fun Γ hl hargs G F => ?_)
  subst hl
  refine j_iconst G d0_momentsWith_0 ?_
  refine j_istore_n G d0_momentsWith_1 (by decide) rfl ?_
  refine j_iconst G d0_momentsWith_2 ?_
  refine j_istore G d0_momentsWith_3 (by decide) rfl ?_
  have lp5 : ∀ (fu : Nat) (m : Int) (k : Int), (24 - k).toNat < fu → (0 ≤ k ∧ k ≤ 24) → (R32 m) → (((sb = 115 ∨ sb = 119) ∧ (60 ≤ rl ∧ rl ≤ 62) ∧ n ≤ 99) → mbk m (fun s q => tstV ((if sb = 115 then 0 else 10000) + 100 * (rl - 60) + n) s q) k) →  J E 7 Γ none 0 0 [] 5 [(4, .int (iZ k)), (3, .int (iZ m)), (0, .int (iZ sb)), (1, .int (iZ rl)), (2, .int (iZ n))] [] := by
    intro fu
    induction fu with
    | zero =>
      intro m k hm
      exact absurd hm (Nat.not_lt_zero _)
    | succ fu ih5 =>
      intro m k hm hk hmr hm
      refine j_iload G 0 rfl d0_momentsWith_5 ?_
      refine j_bipush G d0_momentsWith_7 rfl ?_
      refine j_icmp_ge (tgt := 104) G d0_momentsWith_9 (by decide) (by omega) (by decide) (fun h1 => ?_) (fun h1 => ?_)
      ·
        refine j_iload_n G 1 rfl d0_momentsWith_104 ?_
        exact j_iret G F d0_momentsWith_105 ⟨m, rfl, (by exact ⟨fun q1 q2 q3 => mbk_e (by have h := hm ⟨q1, q2, q3⟩; rw [show k = 24 by omega] at h; exact h), hmr⟩)⟩
      ·
        refine j_iload_n G 2 rfl d0_momentsWith_12 ?_
        refine j_bipush G d0_momentsWith_13 rfl ?_
        have mg15 : ∀ x2 : Int, x2 = (if sb ≠ 115 then (k / 12) else (k % 12)) → J E 7 Γ none 0 0 [] 31 [(4, .int (iZ k)), (3, .int (iZ m)), (0, .int (iZ sb)), (1, .int (iZ rl)), (2, .int (iZ n))] ([.int (iZ x2)]) := by
          intro x2 ex2
          have hvx : x2 = if sb = 115 then k % 12 else k / 12 := by rw [ex2]; (repeat' split) <;> omega
          have htv : ((sb = 115 ∨ sb = 119) ∧ (60 ≤ rl ∧ rl ≤ 62) ∧ n ≤ 99) → tstV ((if sb = 115 then 0 else 10000) + 100 * (rl - 60) + n) (k % 12) (k / 12) = if rl = 60 then (if x2 < n then 1 else 0) else if rl = 62 then (if n < x2 then 1 else 0) else (if x2 = n then 1 else 0) := fun q => by rw [hvx]; exact tst_e q.1 q.2.1 ⟨hn.1, q.2.2⟩
          refine j_istore G d0_momentsWith_31 (by decide) rfl ?_
          refine j_iload_n G 4 rfl d0_momentsWith_33 ?_
          refine j_bipush G d0_momentsWith_34 rfl ?_
          refine j_icmp_ne (tgt := 53) G d0_momentsWith_36 (by decide) (by omega) (by decide) (fun h3 => ?_) (fun h3 => ?_)
          ·
            refine j_iload_n G 4 rfl d0_momentsWith_53 ?_
            refine j_bipush G d0_momentsWith_54 rfl ?_
            refine j_icmp_ne (tgt := 73) G d0_momentsWith_56 (by decide) (by omega) (by decide) (fun h4 => ?_) (fun h4 => ?_)
            ·
              refine j_iload G 0 rfl d0_momentsWith_73 ?_
              refine j_iload_n G 5 rfl d0_momentsWith_75 ?_
              refine j_icmp_ne (tgt := 83) G d0_momentsWith_76 (by decide) (by omega) (by omega) (fun h5 => ?_) (fun h5 => ?_)
              ·
                refine j_iconst G d0_momentsWith_83 ?_
                refine j_istore G d0_momentsWith_84 (by decide) rfl ?_
                refine j_iload G 0 rfl d0_momentsWith_86 ?_
                refine j_if_eq (tgt := 98) G d0_momentsWith_88 (by decide) (by decide) (fun h6 => ?_) (fun h6 => absurd h6 (by decide))
                refine j_iinc G d0_momentsWith_98 2 rfl (by decide) rfl ?_
                refine j_goto (tgt := 5) G d0_momentsWith_101 (by decide) ?_
                refine j_locs (ls' := [(4, .int (iZ (k + 1))), (3, .int (iZ m)), (0, .int (iZ sb)), (1, .int (iZ rl)), (2, .int (iZ n))]) [0, 3, 4, 5, 6] rfl ?_
                exact ih5 m (k + 1) (by omega) (by first | assumption | omega) (by first | exact hmY2 | exact hmr) (by first | exact hmY | exact fun q => mbk_no (hm q) hk.1 (by show tstV ((if sb = 115 then 0 else 10000) + 100 * (rl - 60) + n) (k % 12) (k / 12) = 0; rw [htv q]; omega))
              ·
                refine j_iconst G d0_momentsWith_79 ?_
                refine j_goto (tgt := 84) G d0_momentsWith_80 (by decide) ?_
                refine j_istore G d0_momentsWith_84 (by decide) rfl ?_
                refine j_iload G 0 rfl d0_momentsWith_86 ?_
                refine j_if_eq (tgt := 98) G d0_momentsWith_88 (by decide) (by decide) (fun h7 => absurd h7 (by decide)) (fun h7 => ?_)
                have hmY := fun q : ((sb = 115 ∨ sb = 119) ∧ (60 ≤ rl ∧ rl ≤ 62) ∧ n ≤ 99) => mbk_up (hm q) hk.1 (by omega) (by show ¬ tstV ((if sb = 115 then 0 else 10000) + 100 * (rl - 60) + n) (k % 12) (k / 12) = 0; rw [htv q]; omega)
                have hmY2 := iZ_r (iZ m ||| iZ ((iZ 1 <<< (iZ k &&& 31)).toInt))
                refine j_iload_n G 3 rfl d0_momentsWith_91 ?_
                refine j_iconst G d0_momentsWith_92 ?_
                refine j_iload G 2 rfl d0_momentsWith_93 ?_
                refine r_ishl G d0_momentsWith_95 ?_
                refine j_top (y := iZ (((iZ 1) <<< ((iZ k) &&& 31)).toInt)) (iZ_of _).symm ?_
                refine r_ior G d0_momentsWith_96 ?_
                refine j_top (y := iZ (((iZ m) ||| (iZ (((iZ 1) <<< ((iZ k) &&& 31)).toInt))).toInt)) (iZ_of _).symm ?_
                refine j_istore_n G d0_momentsWith_97 (by decide) rfl ?_
                refine j_iinc G d0_momentsWith_98 3 rfl (by decide) rfl ?_
                refine j_goto (tgt := 5) G d0_momentsWith_101 (by decide) ?_
                refine j_locs (ls' := [(4, .int (iZ (k + 1))), (3, .int (iZ (((iZ m) ||| (iZ (((iZ 1) <<< ((iZ k) &&& 31)).toInt))).toInt))), (0, .int (iZ sb)), (1, .int (iZ rl)), (2, .int (iZ n))]) [0, 1, 4, 5, 6] rfl ?_
                exact ih5 (((iZ m) ||| (iZ (((iZ 1) <<< ((iZ k) &&& 31)).toInt))).toInt) (k + 1) (by omega) (by first | assumption | omega) (by first | exact hmY2 | exact hmr) (by first | exact hmY | exact fun q => mbk_no (hm q) hk.1 (by show tstV ((if sb = 115 then 0 else 10000) + 100 * (rl - 60) + n) (k % 12) (k / 12) = 0; rw [htv q]; omega))
            ·
              refine j_iload G 0 rfl d0_momentsWith_59 ?_
              refine j_iload_n G 5 rfl d0_momentsWith_61 ?_
              refine j_icmp_le (tgt := 69) G d0_momentsWith_62 (by decide) (by omega) (by omega) (fun h8 => ?_) (fun h8 => ?_)
              ·
                refine j_iconst G d0_momentsWith_69 ?_
                refine j_goto (tgt := 84) G d0_momentsWith_70 (by decide) ?_
                refine j_istore G d0_momentsWith_84 (by decide) rfl ?_
                refine j_iload G 0 rfl d0_momentsWith_86 ?_
                refine j_if_eq (tgt := 98) G d0_momentsWith_88 (by decide) (by decide) (fun h9 => ?_) (fun h9 => absurd h9 (by decide))
                refine j_iinc G d0_momentsWith_98 2 rfl (by decide) rfl ?_
                refine j_goto (tgt := 5) G d0_momentsWith_101 (by decide) ?_
                refine j_locs (ls' := [(4, .int (iZ (k + 1))), (3, .int (iZ m)), (0, .int (iZ sb)), (1, .int (iZ rl)), (2, .int (iZ n))]) [0, 3, 4, 5, 6] rfl ?_
                exact ih5 m (k + 1) (by omega) (by first | assumption | omega) (by first | exact hmY2 | exact hmr) (by first | exact hmY | exact fun q => mbk_no (hm q) hk.1 (by show tstV ((if sb = 115 then 0 else 10000) + 100 * (rl - 60) + n) (k % 12) (k / 12) = 0; rw [htv q]; omega))
              ·
                refine j_iconst G d0_momentsWith_65 ?_
                refine j_goto (tgt := 84) G d0_momentsWith_66 (by decide) ?_
                refine j_istore G d0_momentsWith_84 (by decide) rfl ?_
                refine j_iload G 0 rfl d0_momentsWith_86 ?_
                refine j_if_eq (tgt := 98) G d0_momentsWith_88 (by decide) (by decide) (fun h10 => absurd h10 (by decide)) (fun h10 => ?_)
                have hmY := fun q : ((sb = 115 ∨ sb = 119) ∧ (60 ≤ rl ∧ rl ≤ 62) ∧ n ≤ 99) => mbk_up (hm q) hk.1 (by omega) (by show ¬ tstV ((if sb = 115 then 0 else 10000) + 100 * (rl - 60) + n) (k % 12) (k / 12) = 0; rw [htv q]; omega)
                have hmY2 := iZ_r (iZ m ||| iZ ((iZ 1 <<< (iZ k &&& 31)).toInt))
                refine j_iload_n G 3 rfl d0_momentsWith_91 ?_
                refine j_iconst G d0_momentsWith_92 ?_
                refine j_iload G 2 rfl d0_momentsWith_93 ?_
                refine r_ishl G d0_momentsWith_95 ?_
                refine j_top (y := iZ (((iZ 1) <<< ((iZ k) &&& 31)).toInt)) (iZ_of _).symm ?_
                refine r_ior G d0_momentsWith_96 ?_
                refine j_top (y := iZ (((iZ m) ||| (iZ (((iZ 1) <<< ((iZ k) &&& 31)).toInt))).toInt)) (iZ_of _).symm ?_
                refine j_istore_n G d0_momentsWith_97 (by decide) rfl ?_
                refine j_iinc G d0_momentsWith_98 3 rfl (by decide) rfl ?_
                refine j_goto (tgt := 5) G d0_momentsWith_101 (by decide) ?_
                refine j_locs (ls' := [(4, .int (iZ (k + 1))), (3, .int (iZ (((iZ m) ||| (iZ (((iZ 1) <<< ((iZ k) &&& 31)).toInt))).toInt))), (0, .int (iZ sb)), (1, .int (iZ rl)), (2, .int (iZ n))]) [0, 1, 4, 5, 6] rfl ?_
                exact ih5 (((iZ m) ||| (iZ (((iZ 1) <<< ((iZ k) &&& 31)).toInt))).toInt) (k + 1) (by omega) (by first | assumption | omega) (by first | exact hmY2 | exact hmr) (by first | exact hmY | exact fun q => mbk_no (hm q) hk.1 (by show tstV ((if sb = 115 then 0 else 10000) + 100 * (rl - 60) + n) (k % 12) (k / 12) = 0; rw [htv q]; omega))
          ·
            refine j_iload G 0 rfl d0_momentsWith_39 ?_
            refine j_iload_n G 5 rfl d0_momentsWith_41 ?_
            refine j_icmp_ge (tgt := 49) G d0_momentsWith_42 (by decide) (by omega) (by omega) (fun h11 => ?_) (fun h11 => ?_)
            ·
              refine j_iconst G d0_momentsWith_49 ?_
              refine j_goto (tgt := 84) G d0_momentsWith_50 (by decide) ?_
              refine j_istore G d0_momentsWith_84 (by decide) rfl ?_
              refine j_iload G 0 rfl d0_momentsWith_86 ?_
              refine j_if_eq (tgt := 98) G d0_momentsWith_88 (by decide) (by decide) (fun h12 => ?_) (fun h12 => absurd h12 (by decide))
              refine j_iinc G d0_momentsWith_98 2 rfl (by decide) rfl ?_
              refine j_goto (tgt := 5) G d0_momentsWith_101 (by decide) ?_
              refine j_locs (ls' := [(4, .int (iZ (k + 1))), (3, .int (iZ m)), (0, .int (iZ sb)), (1, .int (iZ rl)), (2, .int (iZ n))]) [0, 3, 4, 5, 6] rfl ?_
              exact ih5 m (k + 1) (by omega) (by first | assumption | omega) (by first | exact hmY2 | exact hmr) (by first | exact hmY | exact fun q => mbk_no (hm q) hk.1 (by show tstV ((if sb = 115 then 0 else 10000) + 100 * (rl - 60) + n) (k % 12) (k / 12) = 0; rw [htv q]; omega))
            ·
              refine j_iconst G d0_momentsWith_45 ?_
              refine j_goto (tgt := 84) G d0_momentsWith_46 (by decide) ?_
              refine j_istore G d0_momentsWith_84 (by decide) rfl ?_
              refine j_iload G 0 rfl d0_momentsWith_86 ?_
              refine j_if_eq (tgt := 98) G d0_momentsWith_88 (by decide) (by decide) (fun h13 => absurd h13 (by decide)) (fun h13 => ?_)
              have hmY := fun q : ((sb = 115 ∨ sb = 119) ∧ (60 ≤ rl ∧ rl ≤ 62) ∧ n ≤ 99) => mbk_up (hm q) hk.1 (by omega) (by show ¬ tstV ((if sb = 115 then 0 else 10000) + 100 * (rl - 60) + n) (k % 12) (k / 12) = 0; rw [htv q]; omega)
              have hmY2 := iZ_r (iZ m ||| iZ ((iZ 1 <<< (iZ k &&& 31)).toInt))
              refine j_iload_n G 3 rfl d0_momentsWith_91 ?_
              refine j_iconst G d0_momentsWith_92 ?_
              refine j_iload G 2 rfl d0_momentsWith_93 ?_
              refine r_ishl G d0_momentsWith_95 ?_
              refine j_top (y := iZ (((iZ 1) <<< ((iZ k) &&& 31)).toInt)) (iZ_of _).symm ?_
              refine r_ior G d0_momentsWith_96 ?_
              refine j_top (y := iZ (((iZ m) ||| (iZ (((iZ 1) <<< ((iZ k) &&& 31)).toInt))).toInt)) (iZ_of _).symm ?_
              refine j_istore_n G d0_momentsWith_97 (by decide) rfl ?_
              refine j_iinc G d0_momentsWith_98 3 rfl (by decide) rfl ?_
              refine j_goto (tgt := 5) G d0_momentsWith_101 (by decide) ?_
              refine j_locs (ls' := [(4, .int (iZ (k + 1))), (3, .int (iZ (((iZ m) ||| (iZ (((iZ 1) <<< ((iZ k) &&& 31)).toInt))).toInt))), (0, .int (iZ sb)), (1, .int (iZ rl)), (2, .int (iZ n))]) [0, 1, 4, 5, 6] rfl ?_
              exact ih5 (((iZ m) ||| (iZ (((iZ 1) <<< ((iZ k) &&& 31)).toInt))).toInt) (k + 1) (by omega) (by first | assumption | omega) (by first | exact hmY2 | exact hmr) (by first | exact hmY | exact fun q => mbk_no (hm q) hk.1 (by show tstV ((if sb = 115 then 0 else 10000) + 100 * (rl - 60) + n) (k % 12) (k / 12) = 0; rw [htv q]; omega))
        refine j_icmp_ne (tgt := 26) G d0_momentsWith_15 (by decide) (by omega) (by decide) (fun h14 => ?_) (fun h14 => ?_)
        ·
          refine j_iload G 0 rfl d0_momentsWith_26 ?_
          refine j_bipush G d0_momentsWith_28 rfl ?_
          refine j_idiv G d0_momentsWith_30 (by omega) ?_
          refine j_eq (ws' := []) (ls' := [(4, .int (iZ k)), (3, .int (iZ m)), (0, .int (iZ sb)), (1, .int (iZ rl)), (2, .int (iZ n))]) rfl rfl rfl ?_
          exact mg15 _ (by first | rfl | (simp only [*, if_true, if_false, ite_true, ite_false]; done) | (split <;> first | rfl | omega | (split <;> first | rfl | omega | (split <;> first | rfl | omega))))
        ·
          refine j_iload G 0 rfl d0_momentsWith_18 ?_
          refine j_bipush G d0_momentsWith_20 rfl ?_
          refine j_irem G d0_momentsWith_22 (by omega) ?_
          refine j_goto (tgt := 31) G d0_momentsWith_23 (by decide) ?_
          refine j_eq (ws' := []) (ls' := [(4, .int (iZ k)), (3, .int (iZ m)), (0, .int (iZ sb)), (1, .int (iZ rl)), (2, .int (iZ n))]) rfl rfl rfl ?_
          exact mg15 _ (by first | rfl | (simp only [*, if_true, if_false, ite_true, ite_false]; done) | (split <;> first | rfl | omega | (split <;> first | rfl | omega | (split <;> first | rfl | omega))))
  exact lp5 _ 0 0 (Nat.lt_succ_self _) (by first | assumption | omega) (by decide) (fun _ => mbk_0)
