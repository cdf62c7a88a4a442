theorem d0_word_0 : decode c0_word 0 = .ok (.iconst 0, 1) := by decide +kernel
theorem d0_word_1 : decode c0_word 1 = .ok (.istore_n 1, 1) := by decide +kernel
theorem d0_word_2 : decode c0_word 2 = .ok (.iconst 0, 1) := by decide +kernel
theorem d0_word_3 : decode c0_word 3 = .ok (.istore_n 2, 1) := by decide +kernel
theorem d0_word_4 : decode c0_word 4 = .ok (.iload_n 2, 1) := by decide +kernel
theorem d0_word_5 : decode c0_word 5 = .ok (.bipush 9, 2) := by decide +kernel
theorem d0_word_7 : decode c0_word 7 = .ok (.if_icmp .ge 96, 3) := by decide +kernel
theorem d0_word_10 : decode c0_word 10 = .ok (.iload_n 2, 1) := by decide +kernel
theorem d0_word_11 : decode c0_word 11 = .ok (.invokestatic 79, 3) := by decide +kernel
theorem d0_word_14 : decode c0_word 14 = .ok (.astore_n 3, 1) := by decide +kernel
theorem d0_word_15 : decode c0_word 15 = .ok (.iconst 0, 1) := by decide +kernel
theorem d0_word_16 : decode c0_word 16 = .ok (.istore 4, 2) := by decide +kernel
theorem d0_word_18 : decode c0_word 18 = .ok (.iload 4, 2) := by decide +kernel
theorem d0_word_20 : decode c0_word 20 = .ok (.aload_n 3, 1) := by decide +kernel
theorem d0_word_21 : decode c0_word 21 = .ok (.invokevirtual 83, 3) := by decide +kernel
theorem d0_word_24 : decode c0_word 24 = .ok (.if_icmp .ge 44, 3) := by decide +kernel
theorem d0_word_27 : decode c0_word 27 = .ok (.aload_n 0, 1) := by decide +kernel
theorem d0_word_28 : decode c0_word 28 = .ok (.getfield 36, 3) := by decide +kernel
theorem d0_word_31 : decode c0_word 31 = .ok (.iload 4, 2) := by decide +kernel
theorem d0_word_33 : decode c0_word 33 = .ok (.iadd, 1) := by decide +kernel
theorem d0_word_34 : decode c0_word 34 = .ok (.aload_n 0, 1) := by decide +kernel
theorem d0_word_35 : decode c0_word 35 = .ok (.getfield 25, 3) := by decide +kernel
theorem d0_word_38 : decode c0_word 38 = .ok (.if_icmp .ge 30, 3) := by decide +kernel
theorem d0_word_41 : decode c0_word 41 = .ok (.aload_n 0, 1) := by decide +kernel
theorem d0_word_42 : decode c0_word 42 = .ok (.getfield 15, 3) := by decide +kernel
theorem d0_word_45 : decode c0_word 45 = .ok (.aload_n 0, 1) := by decide +kernel
theorem d0_word_46 : decode c0_word 46 = .ok (.getfield 36, 3) := by decide +kernel
theorem d0_word_49 : decode c0_word 49 = .ok (.iload 4, 2) := by decide +kernel
theorem d0_word_51 : decode c0_word 51 = .ok (.iadd, 1) := by decide +kernel
theorem d0_word_52 : decode c0_word 52 = .ok (.iaload, 1) := by decide +kernel
theorem d0_word_53 : decode c0_word 53 = .ok (.aload_n 3, 1) := by decide +kernel
theorem d0_word_54 : decode c0_word 54 = .ok (.iload 4, 2) := by decide +kernel
theorem d0_word_56 : decode c0_word 56 = .ok (.invokevirtual 87, 3) := by decide +kernel
theorem d0_word_59 : decode c0_word 59 = .ok (.if_icmp .ne 9, 3) := by decide +kernel
theorem d0_word_62 : decode c0_word 62 = .ok (.iinc 4 1, 3) := by decide +kernel
theorem d0_word_65 : decode c0_word 65 = .ok (.goto (-47), 3) := by decide +kernel
theorem d0_word_68 : decode c0_word 68 = .ok (.iload 4, 2) := by decide +kernel
theorem d0_word_70 : decode c0_word 70 = .ok (.aload_n 3, 1) := by decide +kernel
theorem d0_word_71 : decode c0_word 71 = .ok (.invokevirtual 83, 3) := by decide +kernel
theorem d0_word_74 : decode c0_word 74 = .ok (.if_icmp .ne 16, 3) := by decide +kernel
theorem d0_word_77 : decode c0_word 77 = .ok (.aload_n 0, 1) := by decide +kernel
theorem d0_word_78 : decode c0_word 78 = .ok (.dup, 1) := by decide +kernel
theorem d0_word_79 : decode c0_word 79 = .ok (.getfield 36, 3) := by decide +kernel
theorem d0_word_82 : decode c0_word 82 = .ok (.iload 4, 2) := by decide +kernel
theorem d0_word_84 : decode c0_word 84 = .ok (.iadd, 1) := by decide +kernel
theorem d0_word_85 : decode c0_word 85 = .ok (.putfield 36, 3) := by decide +kernel
theorem d0_word_88 : decode c0_word 88 = .ok (.iload_n 2, 1) := by decide +kernel
theorem d0_word_89 : decode c0_word 89 = .ok (.ireturn, 1) := by decide +kernel
theorem d0_word_90 : decode c0_word 90 = .ok (.iload_n 1, 1) := by decide +kernel
theorem d0_word_91 : decode c0_word 91 = .ok (.iload 4, 2) := by decide +kernel
theorem d0_word_93 : decode c0_word 93 = .ok (.invokestatic 91, 3) := by decide +kernel
theorem d0_word_96 : decode c0_word 96 = .ok (.istore_n 1, 1) := by decide +kernel
theorem d0_word_97 : decode c0_word 97 = .ok (.iinc 2 1, 3) := by decide +kernel
theorem d0_word_100 : decode c0_word 100 = .ok (.goto (-96), 3) := by decide +kernel
theorem d0_word_103 : decode c0_word 103 = .ok (.aload_n 0, 1) := by decide +kernel
theorem d0_word_104 : decode c0_word 104 = .ok (.dup, 1) := by decide +kernel
theorem d0_word_105 : decode c0_word 105 = .ok (.getfield 36, 3) := by decide +kernel
theorem d0_word_108 : decode c0_word 108 = .ok (.iload_n 1, 1) := by decide +kernel
theorem d0_word_109 : decode c0_word 109 = .ok (.iadd, 1) := by decide +kernel
theorem d0_word_110 : decode c0_word 110 = .ok (.putfield 36, 3) := by decide +kernel
theorem d0_word_113 : decode c0_word 113 = .ok (.aload_n 0, 1) := by decide +kernel
theorem d0_word_114 : decode c0_word 114 = .ok (.invokevirtual 39, 3) := by decide +kernel
theorem d0_word_117 : decode c0_word 117 = .ok (.iconst (-1), 1) := by decide +kernel
theorem d0_word_118 : decode c0_word 118 = .ok (.ireturn, 1) := by decide +kernel
theorem mw0_word : MV y0_word c0_word 5 (some .int) 0 := ⟨cd0_word, ini0, na0_word, im0_word, se0_word⟩
set_option maxHeartbeats 4000000 in
set_option maxRecDepth 100000 in
theorem k0_word (l : Launch) (E : En) (ra : Nat) (ba : Nat) (R : Nat → Int) (tb : Int → Int) (U : Int → Int) (htb : ∀ j, 0 ≤ j → j < 100 → tb j = U j % 256 ∧ -128 ≤ U j ∧ U j ≤ 127) (hln : 0 ≤ R 1 ∧ R 1 ≤ 100) (hat : 0 ≤ R 2 ∧ R 2 ≤ R 1) (hft : -1 ≤ R 3 ∧ R 3 ≤ 200) (hlv : R 3 < 0) : Cm l E y0_word c0_word 5 (some .int) { frames := 4, cells := 0, slots := 0, locals := 85 } [.ref ra] [(ra, o0 (some ba) R), (ba, aInt E 100 tb)] (fun r ws => ∃ (v : Int), ∃ (at1 : Int), ∃ (ft1 : Int), r = some (.int (iZ v)) ∧ ws = [(ra, o0 (some ba) (upS (upS R 2 at1) 3 ft1)), (ba, aInt E 100 tb)] ∧ ((mt U (R 1) (R 2) (hdK U (R 1) (R 2)) = wl (hdK U (R 1) (R 2)) ∧ at1 = R 2 + wl (hdK U (R 1) (R 2)) ∧ ft1 = R 3 ∧ v = (hdK U (R 1) (R 2)) ∧ at1 ≤ R 1) ∨ (¬ mt U (R 1) (R 2) (hdK U (R 1) (R 2)) = wl (hdK U (R 1) (R 2)) ∧ at1 = R 2 + mt U (R 1) (R 2) (hdK U (R 1) (R 2)) ∧ ft1 = at1 ∧ v = -1 ∧ (R 2 ≤ at1 ∧ at1 ≤ R 1)))) := by
  refine Cm.of (by decide +kernel) (Nat.le_of_ble_eq_true rfl) (fun Γ A hl hargs hin G F => ?_)
  subst hl
  have hkr := hdK_r U (R 1) (R 2)
  have hmr := mt_r U (R 1) (R 2) (hdK U (R 1) (R 2))
  have hmi := mt_in (U := U) (n := R 1) (p := R 2) hkr hat.2
  refine j_iconst G d0_word_0 ?_
  refine j_istore_n G d0_word_1 (by decide) rfl ?_
  refine j_iconst G d0_word_2 ?_
  refine j_istore_n G d0_word_3 (by decide) rfl ?_
  have lp4 : ∀ (fu : Nat) (fw : Int) (k : Int), (9 - k).toNat < fu → (0 ≤ k ∧ k ≤ 9) → (0 ≤ fw ∧ fw ≤ mt U (R 1) (R 2) (hdK U (R 1) (R 2))) → ((hdK U (R 1) (R 2)) < k → mt U (R 1) (R 2) (hdK U (R 1) (R 2)) ≤ fw) → ((hdK U (R 1) (R 2)) < k → ¬ mt U (R 1) (R 2) (hdK U (R 1) (R 2)) = wl (hdK U (R 1) (R 2))) →  J E 5 Γ (some A) 0 0 [(ra, o0 (some ba) R), (ba, aInt E 100 tb)] 4 [(2, .int (iZ k)), (1, .int (iZ fw)), (0, .ref ra)] [] := by
    intro fu
    induction fu with
    | zero =>
      intro fw k hm
      exact absurd hm (Nat.not_lt_zero _)
    | succ fu ih4 =>
      intro fw k hm hk hfu hfk hno
      refine j_iload_n G 0 rfl d0_word_4 ?_
      refine j_bipush G d0_word_5 rfl ?_
      refine j_icmp_ge (tgt := 103) G d0_word_7 (by decide) (by omega) (by decide) (fun h1 => ?_) (fun h1 => ?_)
      ·
        refine j_aload_n G 2 rfl d0_word_103 ?_
        refine j_dup G d0_word_104 rfl ?_
        refine j_get G 0 0 2 in0 fl0_36 d0_word_105 rfl rfl (by decide) (v := .int (iZ (R 2))) rfl rfl ?_
        refine j_iload_n G 1 rfl d0_word_108 ?_
        refine j_iadd G d0_word_109 ?_
        refine j_put G 0 0 2 in0 tyok0 nm0 fl0_36 d0_word_110 rfl rfl (by decide) ⟨rfl, rfl⟩ rfl rfl (Nat.le_of_ble_eq_true rfl) (e := o0 (some ba) (upS R 2 ((R 2) + fw))) rfl ?_
        refine j_aload_n G 2 rfl d0_word_113 ?_
        refine j_VM G (rm' := { frames := 0, cells := 0, slots := 0, locals := 0 }) (wc := [(ra, o0 (some ba) (upS R 2 ((R 2) + fw)))]) (wr := [(ba, aInt E 100 tb)]) (k0_fail (xl Γ) E ra ba (upS R 2 ((R 2) + fw)) (by first | assumption | omega | (simp only [upS, reduceIte, Nat.reduceEqDiff, eq_self, List.length_cons, List.length_nil, List.length_append] <;> omega)) (by first | assumption | omega | (simp only [upS, reduceIte, Nat.reduceEqDiff, eq_self, List.length_cons, List.length_nil, List.length_append] <;> omega))) mw0_fail ml0_39 [0] [1] rfl rfl ⟨rfl, rfl⟩ (by decide) 0 0 rfl rfl rfl ⟨Nat.le_of_ble_eq_true rfl, Nat.le_of_ble_eq_true rfl⟩ rfl (rest := []) rfl (Nat.le_of_ble_eq_true rfl) d0_word_114 ⟨Nat.le_of_ble_eq_true rfl, Nat.le_of_ble_eq_true rfl⟩ (fun r w1 hr => ?_)
        obtain ⟨ft1_3, rfl, rfl, ⟨hq2_0, hq2_1⟩⟩ := hr
        refine j_eq (ws' := [(ba, aInt E 100 tb), (ra, o0 (some ba) (upS (upS R 2 ((R 2) + fw)) 3 ft1_3))]) rfl rfl rfl ?_
        try simp only [upS, reduceIte, Nat.reduceEqDiff, eq_self] at hq2_0 hq2_1
        have hf0 := hq2_0
        have hf1 := hq2_1
        refine j_iconst G d0_word_117 ?_
        refine j_perm (ws' := [(ra, o0 (some ba) (upS (upS R 2 ((R 2) + fw)) 3 ft1_3)), (ba, aInt E 100 tb)]) [1, 0] rfl rfl rfl ?_
        exact j_iret G F d0_word_118 ⟨(-1), ((R 2) + fw), ft1_3, rfl, rfl, (by (right; exact ⟨hno (by omega), by omega, by omega, rfl, by omega⟩))⟩
      ·
        have hkk : ((k.toNat : Nat) : Int) = k := by omega
        have hwk : wl (k.toNat : Int) = wl k := by rw [hkk]
        have hwr := wl_r k
        have hbest := mt_best (U := U) (n := R 1) (p := R 2) (k := k) (by omega)
        refine j_iload_n G 0 rfl d0_word_10 ?_
        refine j_SP G (k0_wordOf (xl Γ) E k (by first | assumption | omega | (simp only [upS, reduceIte, Nat.reduceEqDiff, eq_self, List.length_cons, List.length_nil, List.length_append] <;> omega))) mw0_wordOf ml0_79 [] rfl ⟨Nat.le_of_ble_eq_true rfl, Nat.le_of_ble_eq_true rfl⟩ rfl (rest := []) rfl (Nat.le_of_ble_eq_true rfl) d0_word_11 ⟨Nat.le_of_ble_eq_true rfl, Nat.le_of_ble_eq_true rfl⟩ (fun r hr => ?_)
        obtain ⟨rfl, hq4⟩ := hr
        refine j_astore_n G d0_word_14 (by decide) rfl ?_
        refine j_iconst G d0_word_15 ?_
        refine j_istore G d0_word_16 (by decide) rfl ?_
        have lp18 : ∀ (fu : Nat) (q : Int), (wl k - q).toNat < fu → (0 ≤ q ∧ q ≤ wl k ∧ R 2 + q ≤ R 1) → (mt U (R 1) (R 2) k = mtF U (R 1) (R 2) k (wl k - q).toNat q) →  J E 5 Γ (some A) 0 0 [(ra, o0 (some ba) R), (ba, aInt E 100 tb)] 18 [(4, .int (iZ q)), (3, .ref (eK E k.toNat)), (2, .int (iZ k)), (1, .int (iZ fw)), (0, .ref ra)] [] := by
          intro fu
          induction fu with
          | zero =>
            intro q hm
            exact absurd hm (Nat.not_lt_zero _)
          | succ fu ih18 =>
            intro q hm hq hm
            refine j_iload G 0 rfl d0_word_18 ?_
            refine j_aload_n G 1 rfl d0_word_20 ?_
            have hwb : q < wl k → 97 ≤ wb k q ∧ wb k q ≤ 122 := fun h => wb_r' (k := k) (j := q) (by omega) hq.1 h
            have hwbk : wb (k.toNat : Int) q = wb k q := by rw [hkk]
            refine j_VPS G (kS_length (xl Γ) E k.toNat (by first | assumption | omega | (simp only [upS, reduceIte, Nat.reduceEqDiff, eq_self, List.length_cons, List.length_nil, List.length_append] <;> omega))) mwS_length ml0_83 k.toNat (by omega) rfl ⟨Nat.le_of_ble_eq_true rfl, Nat.le_of_ble_eq_true rfl⟩ rfl (rest := [.int (iZ q)]) rfl (Nat.le_of_ble_eq_true rfl) d0_word_21 ⟨Nat.le_of_ble_eq_true rfl, Nat.le_of_ble_eq_true rfl⟩ (fun r hr => ?_)
            obtain ⟨_, rfl, rfl⟩ := hr
            refine j_icmp_ge (tgt := 68) G d0_word_24 (by decide) (by omega) (by omega) (fun h6 => ?_) (fun h6 => ?_)
            ·
              have hmq : mt U (R 1) (R 2) k = q := by by_cases hq9 : q = wl k; (exact mt_s hm (by omega)); (rw [hm, show (wl k - q).toNat = (wl k - q - 1).toNat + 1 by omega]; exact mtF_n (by unfold nx; split <;> omega))
              refine j_iload G 0 rfl d0_word_68 ?_
              refine j_aload_n G 1 rfl d0_word_70 ?_
              refine j_VPS G (kS_length (xl Γ) E k.toNat (by first | assumption | omega | (simp only [upS, reduceIte, Nat.reduceEqDiff, eq_self, List.length_cons, List.length_nil, List.length_append] <;> omega))) mwS_length ml0_83 k.toNat (by omega) rfl ⟨Nat.le_of_ble_eq_true rfl, Nat.le_of_ble_eq_true rfl⟩ rfl (rest := [.int (iZ q)]) rfl (Nat.le_of_ble_eq_true rfl) d0_word_71 ⟨Nat.le_of_ble_eq_true rfl, Nat.le_of_ble_eq_true rfl⟩ (fun r hr => ?_)
              obtain ⟨_, rfl, rfl⟩ := hr
              refine j_icmp_ne (tgt := 90) G d0_word_74 (by decide) (by omega) (by omega) (fun h8 => ?_) (fun h8 => ?_)
              ·
                have hKk : (hdK U (R 1) (R 2)) = k → mt U (R 1) (R 2) (hdK U (R 1) (R 2)) = q := fun e => by rw [e]; exact hmq
                have hKw : (hdK U (R 1) (R 2)) = k → wl (hdK U (R 1) (R 2)) = wl k := fun e => by rw [e]
                have hbl := hbest.1
                refine j_iload_n G 3 rfl d0_word_90 ?_
                refine j_iload G 0 rfl d0_word_91 ?_
                refine j_mmax G ml0_91 (by omega) (by omega) ⟨Nat.le_of_ble_eq_true rfl, Nat.le_of_ble_eq_true rfl⟩ ⟨Nat.le_of_ble_eq_true rfl, Nat.le_of_ble_eq_true rfl⟩ d0_word_93 ?_
                refine j_istore_n G d0_word_96 (by decide) rfl ?_
                refine j_iinc G d0_word_97 3 rfl (by decide) rfl ?_
                refine j_goto (tgt := 4) G d0_word_100 (by decide) ?_
                refine j_locs (ls' := [(2, .int (iZ (k + 1))), (1, .int (iZ (max fw q))), (0, .ref ra)]) [0, 1, 4] rfl ?_
                exact ih4 (max fw q) (k + 1) (by omega) (by first | assumption | omega) (by first | assumption | omega) (by first | assumption | omega) (by first | assumption | omega)
              ·
                have hke : k = (hdK U (R 1) (R 2)) := hbest.2 (by omega)
                refine j_aload_n G 4 rfl d0_word_77 ?_
                refine j_dup G d0_word_78 rfl ?_
                refine j_get G 0 0 2 in0 fl0_36 d0_word_79 rfl rfl (by decide) (v := .int (iZ (R 2))) rfl rfl ?_
                refine j_iload G 0 rfl d0_word_82 ?_
                refine j_iadd G d0_word_84 ?_
                refine j_put G 0 0 2 in0 tyok0 nm0 fl0_36 d0_word_85 rfl rfl (by decide) ⟨rfl, rfl⟩ rfl rfl (Nat.le_of_ble_eq_true rfl) (e := o0 (some ba) (upS R 2 ((R 2) + q))) rfl ?_
                refine j_iload_n G 2 rfl d0_word_88 ?_
                exact j_iret G F d0_word_89 ⟨k, ((R 2) + q), (R 3), rfl, rfl, (by (left; rw [← hke]; exact ⟨by omega, by omega, rfl, rfl, by omega⟩))⟩
            ·
              refine j_aload_n G 4 rfl d0_word_27 ?_
              refine j_get G 0 0 2 in0 fl0_36 d0_word_28 rfl rfl (by decide) (v := .int (iZ (R 2))) rfl rfl ?_
              refine j_iload G 0 rfl d0_word_31 ?_
              refine j_iadd G d0_word_33 ?_
              refine j_aload_n G 4 rfl d0_word_34 ?_
              refine j_get G 0 0 1 in0 fl0_25 d0_word_35 rfl rfl (by decide) (v := .int (iZ (R 1))) rfl rfl ?_
              refine j_icmp_ge (tgt := 68) G d0_word_38 (by decide) (by omega) (by omega) (fun h9 => ?_) (fun h9 => ?_)
              ·
                have hmq : mt U (R 1) (R 2) k = q := by by_cases hq9 : q = wl k; (exact mt_s hm (by omega)); (rw [hm, show (wl k - q).toNat = (wl k - q - 1).toNat + 1 by omega]; exact mtF_n (by unfold nx; split <;> omega))
                refine j_iload G 0 rfl d0_word_68 ?_
                refine j_aload_n G 1 rfl d0_word_70 ?_
                refine j_VPS G (kS_length (xl Γ) E k.toNat (by first | assumption | omega | (simp only [upS, reduceIte, Nat.reduceEqDiff, eq_self, List.length_cons, List.length_nil, List.length_append] <;> omega))) mwS_length ml0_83 k.toNat (by omega) rfl ⟨Nat.le_of_ble_eq_true rfl, Nat.le_of_ble_eq_true rfl⟩ rfl (rest := [.int (iZ q)]) rfl (Nat.le_of_ble_eq_true rfl) d0_word_71 ⟨Nat.le_of_ble_eq_true rfl, Nat.le_of_ble_eq_true rfl⟩ (fun r hr => ?_)
                obtain ⟨_, rfl, rfl⟩ := hr
                refine j_icmp_ne (tgt := 90) G d0_word_74 (by decide) (by omega) (by omega) (fun h11 => ?_) (fun h11 => ?_)
                ·
                  have hKk : (hdK U (R 1) (R 2)) = k → mt U (R 1) (R 2) (hdK U (R 1) (R 2)) = q := fun e => by rw [e]; exact hmq
                  have hKw : (hdK U (R 1) (R 2)) = k → wl (hdK U (R 1) (R 2)) = wl k := fun e => by rw [e]
                  have hbl := hbest.1
                  refine j_iload_n G 3 rfl d0_word_90 ?_
                  refine j_iload G 0 rfl d0_word_91 ?_
                  refine j_mmax G ml0_91 (by omega) (by omega) ⟨Nat.le_of_ble_eq_true rfl, Nat.le_of_ble_eq_true rfl⟩ ⟨Nat.le_of_ble_eq_true rfl, Nat.le_of_ble_eq_true rfl⟩ d0_word_93 ?_
                  refine j_istore_n G d0_word_96 (by decide) rfl ?_
                  refine j_iinc G d0_word_97 3 rfl (by decide) rfl ?_
                  refine j_goto (tgt := 4) G d0_word_100 (by decide) ?_
                  refine j_locs (ls' := [(2, .int (iZ (k + 1))), (1, .int (iZ (max fw q))), (0, .ref ra)]) [0, 1, 4] rfl ?_
                  exact ih4 (max fw q) (k + 1) (by omega) (by first | assumption | omega) (by first | assumption | omega) (by first | assumption | omega) (by first | assumption | omega)
                ·
                  have hke : k = (hdK U (R 1) (R 2)) := hbest.2 (by omega)
                  refine j_aload_n G 4 rfl d0_word_77 ?_
                  refine j_dup G d0_word_78 rfl ?_
                  refine j_get G 0 0 2 in0 fl0_36 d0_word_79 rfl rfl (by decide) (v := .int (iZ (R 2))) rfl rfl ?_
                  refine j_iload G 0 rfl d0_word_82 ?_
                  refine j_iadd G d0_word_84 ?_
                  refine j_put G 0 0 2 in0 tyok0 nm0 fl0_36 d0_word_85 rfl rfl (by decide) ⟨rfl, rfl⟩ rfl rfl (Nat.le_of_ble_eq_true rfl) (e := o0 (some ba) (upS R 2 ((R 2) + q))) rfl ?_
                  refine j_iload_n G 2 rfl d0_word_88 ?_
                  exact j_iret G F d0_word_89 ⟨k, ((R 2) + q), (R 3), rfl, rfl, (by (left; rw [← hke]; exact ⟨by omega, by omega, rfl, rfl, by omega⟩))⟩
              ·
                have htq := htb (R 2 + q) (by omega) (by omega)
                refine j_aload_n G 4 rfl d0_word_41 ?_
                refine j_get G 0 0 0 in0 fl0_15 d0_word_42 rfl rfl (by decide) (v := .ref ba) rfl rfl ?_
                refine j_aload_n G 4 rfl d0_word_45 ?_
                refine j_get G 0 0 2 in0 fl0_36 d0_word_46 rfl rfl (by decide) (v := .int (iZ (R 2))) rfl rfl ?_
                refine j_iload G 0 rfl d0_word_49 ?_
                refine j_iadd G d0_word_51 ?_
                refine j_iald G 1 rfl (by omega) d0_word_52 ?_
                refine j_aload_n G 1 rfl d0_word_53 ?_
                refine j_iload G 0 rfl d0_word_54 ?_
                refine j_VPS G (kS_charAt (xl Γ) E k.toNat q (by first | assumption | omega | (simp only [upS, reduceIte, Nat.reduceEqDiff, eq_self, List.length_cons, List.length_nil, List.length_append] <;> omega)) (by first | assumption | omega | (simp only [upS, reduceIte, Nat.reduceEqDiff, eq_self, List.length_cons, List.length_nil, List.length_append] <;> omega))) mwS_charAt ml0_87 k.toNat (by omega) rfl ⟨Nat.le_of_ble_eq_true rfl, Nat.le_of_ble_eq_true rfl⟩ rfl (rest := [.int (iZ (tb ((R 2) + q)))]) rfl (Nat.le_of_ble_eq_true rfl) d0_word_56 ⟨Nat.le_of_ble_eq_true rfl, Nat.le_of_ble_eq_true rfl⟩ (fun r hr => ?_)
                obtain ⟨_, rfl, rfl⟩ := hr
                refine j_icmp_ne (tgt := 68) G d0_word_59 (by decide) (by omega) (by omega) (fun h13 => ?_) (fun h13 => ?_)
                ·
                  have hmq : mt U (R 1) (R 2) k = q := by by_cases hq9 : q = wl k; (exact mt_s hm (by omega)); (rw [hm, show (wl k - q).toNat = (wl k - q - 1).toNat + 1 by omega]; exact mtF_n (by unfold nx; split <;> omega))
                  refine j_iload G 0 rfl d0_word_68 ?_
                  refine j_aload_n G 1 rfl d0_word_70 ?_
                  refine j_VPS G (kS_length (xl Γ) E k.toNat (by first | assumption | omega | (simp only [upS, reduceIte, Nat.reduceEqDiff, eq_self, List.length_cons, List.length_nil, List.length_append] <;> omega))) mwS_length ml0_83 k.toNat (by omega) rfl ⟨Nat.le_of_ble_eq_true rfl, Nat.le_of_ble_eq_true rfl⟩ rfl (rest := [.int (iZ q)]) rfl (Nat.le_of_ble_eq_true rfl) d0_word_71 ⟨Nat.le_of_ble_eq_true rfl, Nat.le_of_ble_eq_true rfl⟩ (fun r hr => ?_)
                  obtain ⟨_, rfl, rfl⟩ := hr
                  refine j_icmp_ne (tgt := 90) G d0_word_74 (by decide) (by omega) (by omega) (fun h15 => ?_) (fun h15 => ?_)
                  ·
                    have hKk : (hdK U (R 1) (R 2)) = k → mt U (R 1) (R 2) (hdK U (R 1) (R 2)) = q := fun e => by rw [e]; exact hmq
                    have hKw : (hdK U (R 1) (R 2)) = k → wl (hdK U (R 1) (R 2)) = wl k := fun e => by rw [e]
                    have hbl := hbest.1
                    refine j_iload_n G 3 rfl d0_word_90 ?_
                    refine j_iload G 0 rfl d0_word_91 ?_
                    refine j_mmax G ml0_91 (by omega) (by omega) ⟨Nat.le_of_ble_eq_true rfl, Nat.le_of_ble_eq_true rfl⟩ ⟨Nat.le_of_ble_eq_true rfl, Nat.le_of_ble_eq_true rfl⟩ d0_word_93 ?_
                    refine j_istore_n G d0_word_96 (by decide) rfl ?_
                    refine j_iinc G d0_word_97 3 rfl (by decide) rfl ?_
                    refine j_goto (tgt := 4) G d0_word_100 (by decide) ?_
                    refine j_locs (ls' := [(2, .int (iZ (k + 1))), (1, .int (iZ (max fw q))), (0, .ref ra)]) [0, 1, 4] rfl ?_
                    exact ih4 (max fw q) (k + 1) (by omega) (by first | assumption | omega) (by first | assumption | omega) (by first | assumption | omega) (by first | assumption | omega)
                  ·
                    have hke : k = (hdK U (R 1) (R 2)) := hbest.2 (by omega)
                    refine j_aload_n G 4 rfl d0_word_77 ?_
                    refine j_dup G d0_word_78 rfl ?_
                    refine j_get G 0 0 2 in0 fl0_36 d0_word_79 rfl rfl (by decide) (v := .int (iZ (R 2))) rfl rfl ?_
                    refine j_iload G 0 rfl d0_word_82 ?_
                    refine j_iadd G d0_word_84 ?_
                    refine j_put G 0 0 2 in0 tyok0 nm0 fl0_36 d0_word_85 rfl rfl (by decide) ⟨rfl, rfl⟩ rfl rfl (Nat.le_of_ble_eq_true rfl) (e := o0 (some ba) (upS R 2 ((R 2) + q))) rfl ?_
                    refine j_iload_n G 2 rfl d0_word_88 ?_
                    exact j_iret G F d0_word_89 ⟨k, ((R 2) + q), (R 3), rfl, rfl, (by (left; rw [← hke]; exact ⟨by omega, by omega, rfl, rfl, by omega⟩))⟩
                ·
                  refine j_iinc G d0_word_62 0 rfl (by decide) rfl ?_
                  refine j_goto (tgt := 18) G d0_word_65 (by decide) ?_
                  exact ih18 (q + 1) (by omega) (by first | assumption | omega) (by rw [hm, show (wl k - q).toNat = (wl k - (q + 1)).toNat + 1 by omega, mtF_y (by unfold nx; rw [if_pos (by omega)]; omega)])
        exact lp18 _ 0 (Nat.lt_succ_self _) (by first | assumption | omega) (by rw [Int.sub_zero]; rfl)
  exact lp4 _ 0 0 (Nat.lt_succ_self _) (by first | assumption | omega) (by first | assumption | omega) (by first | assumption | omega) (by first | assumption | omega)
