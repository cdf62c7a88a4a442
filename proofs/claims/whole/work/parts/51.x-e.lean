theorem r32_pk {v : Int} (h : -1 ≤ v ∧ v ≤ 255) : R32 v := ⟨by omega, by omega⟩
theorem pk_of {x f v : Int} (h0 : f < 0 → x = v ∨ (128 ≤ v ∧ x = v - 256)) (h1 : 0 ≤ f → v = -1) (hv : -1 ≤ v ∧ v ≤ 255) : ∀ c : Int, 0 ≤ c → c ≤ 127 → (v = c ↔ f < 0 ∧ x = c) := fun c a b => ⟨fun q => by by_cases z : f < 0; (have := h0 z; exact ⟨z, by omega⟩); (have := h1 (by omega); omega), fun q => by have := h0 q.1; have := q.2; omega⟩
theorem sg_tst4 {U : Int → Int} {n dp p ft w tn az q1 f1 c q2 f2 r q3 f3 nn mo : Int} (h : NtI U n dp p ft w tn az) (haz : 0 ≤ az) (hw : w ≤ 4) (h33 : ft < 0 → nx U n az = 33 → 4 ≤ w) (h40 : ft < 0 → nx U n az = 40 → 4 ≤ w) (t1 : TkR U n 115 119 119 az ft q1 f1 c) (t2 : TkR U n 60 61 62 q1 f1 q2 f2 r)
    (t3 : NmR U n (Int.toNat 2) q2 f2 q3 f3 nn)
    (hmo : c = 115 ∨ c = 119 → 60 ≤ r ∧ r ≤ 62 → nn ≤ 99 → mb mo (fun s q => tstV ((if c = 115 then 0 else 10000) + 100 * (r - 60) + nn) s q)) : ∀ m' : Int, ((tn = 0 → m' = mo) ∧ (¬ tn = 0 → m' = mN mo)) → ExS U n 1 dp p ft q3 f3 m' := fun m' hm' => by
  by_cases hf : ft < 0
  · exact sg_tst h hf haz hw (h33 hf) (h40 hf) t1 t2 t3 hmo hm'
  · refine Or.inl ?_
    have a1 : q1 = az ∧ f1 = ft := by rcases t1 with z | z | z <;> omega
    have a2 : q2 = q1 ∧ f2 = f1 := by rcases t2 with z | z | z <;> omega
    have a3 : q3 = q2 ∧ f3 = f2 := by rcases t3 with z | z | z <;> omega
    rcases h with h | h
    · omega
    · omega
theorem d0_single_0 : decode c0_single 0 = .ok (.iload_n 1, 1) := by decide +kernel
theorem d0_single_1 : decode c0_single 1 = .ok (.istore_n 2, 1) := by decide +kernel
theorem d0_single_2 : decode c0_single 2 = .ok (.iconst 0, 1) := by decide +kernel
theorem d0_single_3 : decode c0_single 3 = .ok (.istore_n 3, 1) := by decide +kernel
theorem d0_single_4 : decode c0_single 4 = .ok (.aload_n 0, 1) := by decide +kernel
theorem d0_single_5 : decode c0_single 5 = .ok (.invokevirtual 32, 3) := by decide +kernel
theorem d0_single_8 : decode c0_single 8 = .ok (.bipush 33, 2) := by decide +kernel
theorem d0_single_10 : decode c0_single 10 = .ok (.if_icmp .ne 34, 3) := by decide +kernel
theorem d0_single_13 : decode c0_single 13 = .ok (.iload_n 2, 1) := by decide +kernel
theorem d0_single_14 : decode c0_single 14 = .ok (.iconst 4, 1) := by decide +kernel
theorem d0_single_15 : decode c0_single 15 = .ok (.if_icmp .ge 29, 3) := by decide +kernel
theorem d0_single_18 : decode c0_single 18 = .ok (.aload_n 0, 1) := by decide +kernel
theorem d0_single_19 : decode c0_single 19 = .ok (.dup, 1) := by decide +kernel
theorem d0_single_20 : decode c0_single 20 = .ok (.getfield 36, 3) := by decide +kernel
theorem d0_single_23 : decode c0_single 23 = .ok (.iconst 1, 1) := by decide +kernel
theorem d0_single_24 : decode c0_single 24 = .ok (.iadd, 1) := by decide +kernel
theorem d0_single_25 : decode c0_single 25 = .ok (.putfield 36, 3) := by decide +kernel
theorem d0_single_28 : decode c0_single 28 = .ok (.iinc 2 1, 3) := by decide +kernel
theorem d0_single_31 : decode c0_single 31 = .ok (.iload_n 3, 1) := by decide +kernel
theorem d0_single_32 : decode c0_single 32 = .ok (.ifCond .ne 7, 3) := by decide +kernel
theorem d0_single_35 : decode c0_single 35 = .ok (.iconst 1, 1) := by decide +kernel
theorem d0_single_36 : decode c0_single 36 = .ok (.goto 4, 3) := by decide +kernel
theorem d0_single_39 : decode c0_single 39 = .ok (.iconst 0, 1) := by decide +kernel
theorem d0_single_40 : decode c0_single 40 = .ok (.istore_n 3, 1) := by decide +kernel
theorem d0_single_41 : decode c0_single 41 = .ok (.goto (-37), 3) := by decide +kernel
theorem d0_single_44 : decode c0_single 44 = .ok (.aload_n 0, 1) := by decide +kernel
theorem d0_single_45 : decode c0_single 45 = .ok (.invokevirtual 32, 3) := by decide +kernel
theorem d0_single_48 : decode c0_single 48 = .ok (.bipush 40, 2) := by decide +kernel
theorem d0_single_50 : decode c0_single 50 = .ok (.if_icmp .ne 41, 3) := by decide +kernel
theorem d0_single_53 : decode c0_single 53 = .ok (.iload_n 2, 1) := by decide +kernel
theorem d0_single_54 : decode c0_single 54 = .ok (.iconst 4, 1) := by decide +kernel
theorem d0_single_55 : decode c0_single 55 = .ok (.if_icmp .ge 36, 3) := by decide +kernel
theorem d0_single_91 : decode c0_single 91 = .ok (.aload_n 0, 1) := by decide +kernel
theorem d0_single_92 : decode c0_single 92 = .ok (.bipush 115, 2) := by decide +kernel
theorem d0_single_94 : decode c0_single 94 = .ok (.bipush 119, 2) := by decide +kernel
theorem d0_single_96 : decode c0_single 96 = .ok (.bipush 119, 2) := by decide +kernel
theorem d0_single_98 : decode c0_single 98 = .ok (.invokevirtual 54, 3) := by decide +kernel
theorem d0_single_101 : decode c0_single 101 = .ok (.istore 5, 2) := by decide +kernel
theorem d0_single_103 : decode c0_single 103 = .ok (.aload_n 0, 1) := by decide +kernel
theorem d0_single_104 : decode c0_single 104 = .ok (.bipush 60, 2) := by decide +kernel
theorem d0_single_106 : decode c0_single 106 = .ok (.bipush 61, 2) := by decide +kernel
theorem d0_single_108 : decode c0_single 108 = .ok (.bipush 62, 2) := by decide +kernel
theorem d0_single_110 : decode c0_single 110 = .ok (.invokevirtual 54, 3) := by decide +kernel
theorem d0_single_113 : decode c0_single 113 = .ok (.istore 6, 2) := by decide +kernel
theorem d0_single_115 : decode c0_single 115 = .ok (.iload 5, 2) := by decide +kernel
theorem d0_single_117 : decode c0_single 117 = .ok (.iload 6, 2) := by decide +kernel
theorem d0_single_119 : decode c0_single 119 = .ok (.aload_n 0, 1) := by decide +kernel
theorem d0_single_120 : decode c0_single 120 = .ok (.iconst 2, 1) := by decide +kernel
theorem d0_single_121 : decode c0_single 121 = .ok (.invokevirtual 58, 3) := by decide +kernel
theorem d0_single_124 : decode c0_single 124 = .ok (.invokestatic 118, 3) := by decide +kernel
theorem d0_single_127 : decode c0_single 127 = .ok (.istore 4, 2) := by decide +kernel
theorem d0_single_129 : decode c0_single 129 = .ok (.iload_n 3, 1) := by decide +kernel
theorem d0_single_130 : decode c0_single 130 = .ok (.ifCond .eq 13, 3) := by decide +kernel
theorem d0_single_133 : decode c0_single 133 = .ok (.ldc 121, 2) := by decide +kernel
theorem d0_single_135 : decode c0_single 135 = .ok (.iload 4, 2) := by decide +kernel
theorem d0_single_137 : decode c0_single 137 = .ok (.iconst (-1), 1) := by decide +kernel
theorem d0_single_138 : decode c0_single 138 = .ok (.ixor, 1) := by decide +kernel
theorem d0_single_139 : decode c0_single 139 = .ok (.iand, 1) := by decide +kernel
theorem d0_single_140 : decode c0_single 140 = .ok (.goto 5, 3) := by decide +kernel
theorem d0_single_143 : decode c0_single 143 = .ok (.iload 4, 2) := by decide +kernel
theorem d0_single_145 : decode c0_single 145 = .ok (.ireturn, 1) := by decide +kernel
theorem mw0_single : MV y0_single c0_single 7 (some .int) 1 := ⟨cd0_single, ini0, na0_single, im0_single, se0_single⟩
set_option maxHeartbeats 4000000 in
set_option maxRecDepth 100000 in
theorem k0_single_4 (l : Launch) (E : En) (ra : Nat) (ba : Nat) (R : Nat → Int) (tb : Int → Int) (U : Int → Int) (dp : Int) (htb : ∀ j, 0 ≤ j → j < 100 → tb j = U j % 256 ∧ -128 ≤ U j ∧ U j ≤ 127) (hln : 0 ≤ R 1 ∧ R 1 ≤ 100) (hat : 0 ≤ R 2 ∧ R 2 ≤ R 1) (hft : -1 ≤ R 3 ∧ R 3 ≤ 200) (hdp : 4 ≤ dp ∧ dp ≤ 4) : Cm l E y0_single c0_single 7 (some .int) { frames := 2, cells := 0, slots := 0, locals := 44 } [.ref ra, .int (iZ dp)] [(ra, o0 (some ba) R), (ba, aInt E 100 tb)] (fun r ws => ∃ (v : Int), ∃ (at1 : Int), ∃ (ft1 : Int), r = some (.int (iZ v)) ∧ ws = [(ra, o0 (some ba) (upS (upS R 2 at1) 3 ft1)), (ba, aInt E 100 tb)] ∧ (ExS U (R 1) 1 dp (R 2) (R 3) at1 ft1 v ∧ (R 2 ≤ at1 ∧ at1 ≤ R 1) ∧ (-1 ≤ ft1 ∧ ft1 ≤ 200))) := by
  refine Cm.of (by decide +kernel) (Nat.le_of_ble_eq_true rfl) (fun Γ A hl hargs hin G F => ?_)
  subst hl
  refine j_iload_n G 1 rfl d0_single_0 ?_
  refine j_istore_n G d0_single_1 (by decide) rfl ?_
  refine j_iconst G d0_single_2 ?_
  refine j_istore_n G d0_single_3 (by decide) rfl ?_
  refine j_eq (ws' := [(ra, o0 (some ba) (upS R 2 (R 2))), (ba, aInt E 100 tb)]) rfl rfl rfl ?_
  have lp4 : ∀ (fu : Nat) (w : Int) (tn : Int) (az : Int), (4 - w).toNat < fu → (dp ≤ w ∧ w ≤ 4) → (tn = 0 ∨ tn = 1) → (R 2 ≤ az ∧ az ≤ R 1) → (NtI U (R 1) dp (R 2) (R 3) w tn az) →  J E 7 Γ (some A) 0 0 [(ra, o0 (some ba) (upS R 2 az)), (ba, aInt E 100 tb)] 4 [(3, .int (iZ tn)), (2, .int (iZ w)), (0, .ref ra), (1, .int (iZ dp))] [] := by
    intro fu
    induction fu with
    | zero =>
      intro w tn az hm
      exact absurd hm (Nat.not_lt_zero _)
    | succ fu ih4 =>
      intro w tn az hm hw htn haz hI
      have hwR : R32 w := ⟨by omega, by omega⟩
      have htR : R32 tn := ⟨by omega, by omega⟩
      refine j_aload_n G 2 rfl d0_single_4 ?_
      refine j_VP G (k0_peek (xl Γ) E ra ba (upS R 2 az) tb U (by first | assumption | omega | (simp only [upS, reduceIte, Nat.reduceEqDiff, eq_self, List.length_cons, List.length_nil, List.length_append] <;> omega)) (by first | assumption | omega | (simp only [upS, reduceIte, Nat.reduceEqDiff, eq_self, List.length_cons, List.length_nil, List.length_append] <;> omega)) (by first | assumption | omega | (simp only [upS, reduceIte, Nat.reduceEqDiff, eq_self, List.length_cons, List.length_nil, List.length_append] <;> omega)) (by first | assumption | omega | (simp only [upS, reduceIte, Nat.reduceEqDiff, eq_self, List.length_cons, List.length_nil, List.length_append] <;> omega))) mw0_peek ml0_32 [0, 1] rfl 0 0 rfl rfl rfl ⟨Nat.le_of_ble_eq_true rfl, Nat.le_of_ble_eq_true rfl⟩ rfl (rest := []) rfl (Nat.le_of_ble_eq_true rfl) d0_single_5 ⟨Nat.le_of_ble_eq_true rfl, Nat.le_of_ble_eq_true rfl⟩ (fun r hr => ?_)
      obtain ⟨v2, rfl, ⟨hq1_0, hq1_1, hq1_2, hq1_3, hq1_4⟩⟩ := hr
      try simp only [upS, reduceIte, Nat.reduceEqDiff, eq_self] at hq1_0 hq1_1 hq1_2 hq1_3 hq1_4
      have hpC := pk_of hq1_0 hq1_1 hq1_2
      have hp2 := hq1_2
      have hp3 := hq1_3
      clear hq1_0 hq1_1 hq1_3 hq1_4
      refine j_bipush G d0_single_8 rfl ?_
      refine j_icmp_ne (tgt := 44) G d0_single_10 (by decide) (r32_pk hp2) (by decide) (fun h3 => ?_) (fun h3 => ?_)
      ·
        refine j_aload_n G 2 rfl d0_single_44 ?_
        refine j_VP G (k0_peek (xl Γ) E ra ba (upS R 2 az) tb U (by first | assumption | omega | (simp only [upS, reduceIte, Nat.reduceEqDiff, eq_self, List.length_cons, List.length_nil, List.length_append] <;> omega)) (by first | assumption | omega | (simp only [upS, reduceIte, Nat.reduceEqDiff, eq_self, List.length_cons, List.length_nil, List.length_append] <;> omega)) (by first | assumption | omega | (simp only [upS, reduceIte, Nat.reduceEqDiff, eq_self, List.length_cons, List.length_nil, List.length_append] <;> omega)) (by first | assumption | omega | (simp only [upS, reduceIte, Nat.reduceEqDiff, eq_self, List.length_cons, List.length_nil, List.length_append] <;> omega))) mw0_peek ml0_32 [0, 1] rfl 0 0 rfl rfl rfl ⟨Nat.le_of_ble_eq_true rfl, Nat.le_of_ble_eq_true rfl⟩ rfl (rest := []) rfl (Nat.le_of_ble_eq_true rfl) d0_single_45 ⟨Nat.le_of_ble_eq_true rfl, Nat.le_of_ble_eq_true rfl⟩ (fun r hr => ?_)
        obtain ⟨v5, rfl, ⟨hq4_0, hq4_1, hq4_2, hq4_3, hq4_4⟩⟩ := hr
        try simp only [upS, reduceIte, Nat.reduceEqDiff, eq_self] at hq4_0 hq4_1 hq4_2 hq4_3 hq4_4
        have hgC := pk_of hq4_0 hq4_1 hq4_2
        have hg2 := hq4_2
        have hg3 := hq4_3
        clear hq4_0 hq4_1 hq4_3 hq4_4
        refine j_bipush G d0_single_48 rfl ?_
        refine j_icmp_ne (tgt := 91) G d0_single_50 (by decide) (r32_pk hg2) (by decide) (fun h6 => ?_) (fun h6 => ?_)
        ·
          have h33 : R 3 < 0 → nx U (R 1) az = 33 → 4 ≤ w := fun q1 q2 => by have z := (hpC 33 (by decide) (by decide)).2 ⟨q1, q2⟩; omega
          have h40 : R 3 < 0 → nx U (R 1) az = 40 → 4 ≤ w := fun q1 q2 => by have z := (hgC 40 (by decide) (by decide)).2 ⟨q1, q2⟩; omega
          refine j_aload_n G 2 rfl d0_single_91 ?_
          refine j_bipush G d0_single_92 rfl ?_
          refine j_bipush G d0_single_94 rfl ?_
          refine j_bipush G d0_single_96 rfl ?_
          refine j_VM G (rm' := { frames := 1, cells := 0, slots := 0, locals := 20 }) (wc := [(ra, o0 (some ba) (upS R 2 az)), (ba, aInt E 100 tb)]) (wr := []) (k0_takeOneOf (xl Γ) E ra ba (upS R 2 az) tb U 115 119 119 (by first | assumption | omega | (simp only [upS, reduceIte, Nat.reduceEqDiff, eq_self, List.length_cons, List.length_nil, List.length_append] <;> omega)) (by first | assumption | omega | (simp only [upS, reduceIte, Nat.reduceEqDiff, eq_self, List.length_cons, List.length_nil, List.length_append] <;> omega)) (by first | assumption | omega | (simp only [upS, reduceIte, Nat.reduceEqDiff, eq_self, List.length_cons, List.length_nil, List.length_append] <;> omega)) (by first | assumption | omega | (simp only [upS, reduceIte, Nat.reduceEqDiff, eq_self, List.length_cons, List.length_nil, List.length_append] <;> omega)) (by first | assumption | omega | (simp only [upS, reduceIte, Nat.reduceEqDiff, eq_self, List.length_cons, List.length_nil, List.length_append] <;> omega))) mw0_takeOneOf ml0_54 [0, 1] [] rfl rfl ⟨rfl, rfl⟩ (by decide) 0 0 rfl rfl rfl ⟨Nat.le_of_ble_eq_true rfl, Nat.le_of_ble_eq_true rfl⟩ rfl (rest := []) rfl (Nat.le_of_ble_eq_true rfl) d0_single_98 ⟨Nat.le_of_ble_eq_true rfl, Nat.le_of_ble_eq_true rfl⟩ (fun r w1 hr => ?_)
          obtain ⟨v8, at1_9, ft1_10, rfl, rfl, ⟨hq7_0, hq7_1, hq7_2, hq7_3⟩⟩ := hr
          refine j_eq (ws' := [(ra, o0 (some ba) (upS (upS R 2 at1_9) 3 ft1_10)), (ba, aInt E 100 tb)]) rfl rfl rfl ?_
          try simp only [upS, reduceIte, Nat.reduceEqDiff, eq_self] at hq7_0 hq7_1 hq7_2 hq7_3
          have hA := tk_of hq7_0
          have hAr := hq7_1
          have hAs := hq7_2
          have hAv := hq7_3
          clear hq7_0
          refine j_istore G d0_single_101 (by decide) rfl ?_
          refine j_aload_n G 3 rfl d0_single_103 ?_
          refine j_bipush G d0_single_104 rfl ?_
          refine j_bipush G d0_single_106 rfl ?_
          refine j_bipush G d0_single_108 rfl ?_
          refine j_VM G (rm' := { frames := 1, cells := 0, slots := 0, locals := 20 }) (wc := [(ra, o0 (some ba) (upS (upS R 2 at1_9) 3 ft1_10)), (ba, aInt E 100 tb)]) (wr := []) (k0_takeOneOf (xl Γ) E ra ba (upS (upS R 2 at1_9) 3 ft1_10) tb U 60 61 62 (by first | assumption | omega | (simp only [upS, reduceIte, Nat.reduceEqDiff, eq_self, List.length_cons, List.length_nil, List.length_append] <;> omega)) (by first | assumption | omega | (simp only [upS, reduceIte, Nat.reduceEqDiff, eq_self, List.length_cons, List.length_nil, List.length_append] <;> omega)) (by first | assumption | omega | (simp only [upS, reduceIte, Nat.reduceEqDiff, eq_self, List.length_cons, List.length_nil, List.length_append] <;> omega)) (by first | assumption | omega | (simp only [upS, reduceIte, Nat.reduceEqDiff, eq_self, List.length_cons, List.length_nil, List.length_append] <;> omega)) (by first | assumption | omega | (simp only [upS, reduceIte, Nat.reduceEqDiff, eq_self, List.length_cons, List.length_nil, List.length_append] <;> omega))) mw0_takeOneOf ml0_54 [0, 1] [] rfl rfl ⟨rfl, rfl⟩ (by decide) 0 0 rfl rfl rfl ⟨Nat.le_of_ble_eq_true rfl, Nat.le_of_ble_eq_true rfl⟩ rfl (rest := []) rfl (Nat.le_of_ble_eq_true rfl) d0_single_110 ⟨Nat.le_of_ble_eq_true rfl, Nat.le_of_ble_eq_true rfl⟩ (fun r w1 hr => ?_)
          obtain ⟨v12, at1_13, ft1_14, rfl, rfl, ⟨hq11_0, hq11_1, hq11_2, hq11_3⟩⟩ := hr
          refine j_eq (ws' := [(ra, o0 (some ba) (upS (upS R 2 at1_13) 3 ft1_14)), (ba, aInt E 100 tb)]) rfl rfl rfl ?_
          try simp only [upS, reduceIte, Nat.reduceEqDiff, eq_self] at hq11_0 hq11_1 hq11_2 hq11_3
          have hBq := tk_of hq11_0
          have hBr := hq11_1
          have hBs := hq11_2
          have hBv := hq11_3
          clear hq11_0
          refine j_istore G d0_single_113 (by decide) rfl ?_
          refine j_iload G 1 rfl d0_single_115 ?_
          refine j_iload G 0 rfl d0_single_117 ?_
          refine j_aload_n G 4 rfl d0_single_119 ?_
          refine j_iconst G d0_single_120 ?_
          refine j_VM G (rm' := { frames := 1, cells := 0, slots := 0, locals := 20 }) (wc := [(ra, o0 (some ba) (upS (upS R 2 at1_13) 3 ft1_14)), (ba, aInt E 100 tb)]) (wr := []) (k0_number (xl Γ) E ra ba (upS (upS R 2 at1_13) 3 ft1_14) tb U 2 (by first | assumption | omega | (simp only [upS, reduceIte, Nat.reduceEqDiff, eq_self, List.length_cons, List.length_nil, List.length_append] <;> omega)) (by first | assumption | omega | (simp only [upS, reduceIte, Nat.reduceEqDiff, eq_self, List.length_cons, List.length_nil, List.length_append] <;> omega)) (by first | assumption | omega | (simp only [upS, reduceIte, Nat.reduceEqDiff, eq_self, List.length_cons, List.length_nil, List.length_append] <;> omega)) (by first | assumption | omega | (simp only [upS, reduceIte, Nat.reduceEqDiff, eq_self, List.length_cons, List.length_nil, List.length_append] <;> omega)) (by first | assumption | omega | (simp only [upS, reduceIte, Nat.reduceEqDiff, eq_self, List.length_cons, List.length_nil, List.length_append] <;> omega))) mw0_number ml0_58 [0, 1] [] rfl rfl ⟨rfl, rfl⟩ (by decide) 0 0 rfl rfl rfl ⟨Nat.le_of_ble_eq_true rfl, Nat.le_of_ble_eq_true rfl⟩ rfl (rest := [.int (iZ v12), .int (iZ v8)]) rfl (Nat.le_of_ble_eq_true rfl) d0_single_121 ⟨Nat.le_of_ble_eq_true rfl, Nat.le_of_ble_eq_true rfl⟩ (fun r w1 hr => ?_)
          obtain ⟨v16, at1_17, ft1_18, rfl, rfl, ⟨hq15_0, hq15_1, hq15_2, hq15_3⟩⟩ := hr
          refine j_eq (ws' := [(ra, o0 (some ba) (upS (upS R 2 at1_17) 3 ft1_18)), (ba, aInt E 100 tb)]) rfl rfl rfl ?_
          try simp only [upS, reduceIte, Nat.reduceEqDiff, eq_self] at hq15_0 hq15_1 hq15_2 hq15_3
          have hC := nm_of hq15_0
          have hCr := hq15_1
          have hCs := hq15_2
          have hCv := hq15_3
          clear hq15_0
          refine j_SP G (k0_momentsWith (xl Γ) E v8 v12 v16 (by first | assumption | omega | (simp only [upS, reduceIte, Nat.reduceEqDiff, eq_self, List.length_cons, List.length_nil, List.length_append] <;> omega)) (by first | assumption | omega | (simp only [upS, reduceIte, Nat.reduceEqDiff, eq_self, List.length_cons, List.length_nil, List.length_append] <;> omega)) (by first | assumption | omega | (simp only [upS, reduceIte, Nat.reduceEqDiff, eq_self, List.length_cons, List.length_nil, List.length_append] <;> omega))) mw0_momentsWith ml0_118 [] rfl ⟨Nat.le_of_ble_eq_true rfl, Nat.le_of_ble_eq_true rfl⟩ rfl (rest := []) rfl (Nat.le_of_ble_eq_true rfl) d0_single_124 ⟨Nat.le_of_ble_eq_true rfl, Nat.le_of_ble_eq_true rfl⟩ (fun r hr => ?_)
          obtain ⟨v20, rfl, ⟨hq19_0, hq19_1⟩⟩ := hr
          have hM := hq19_0
          have hMr := hq19_1
          have htst := sg_tst4 hI (by omega) hw.2 h33 h40 hA hBq hC hM
          refine j_istore G d0_single_127 (by decide) rfl ?_
          refine j_iload_n G 3 rfl d0_single_129 ?_
          refine j_if_eq (tgt := 143) G d0_single_130 (by decide) htR (fun h21 => ?_) (fun h21 => ?_)
          ·
            refine j_iload G 0 rfl d0_single_143 ?_
            exact j_iret G F d0_single_145 ⟨v20, at1_17, ft1_18, rfl, rfl, (by first | exact ⟨sg_par hI hlv2 (by omega) hc40 (by omega) he3 (by omega) hT ⟨fun q => by first | rfl | (exfalso; omega), fun q => by first | rfl | (exfalso; omega)⟩, by omega, by omega⟩ | exact ⟨htst _ ⟨fun q => by first | rfl | (exfalso; omega), fun q => by first | rfl | (exfalso; omega)⟩, by omega, by omega⟩)⟩
          ·
            refine j_ldc G 16777215 ct0_121 (by decide) d0_single_133 ?_
            refine j_iload G 0 rfl d0_single_135 ?_
            refine j_iconst G d0_single_137 ?_
            refine r_ixor G d0_single_138 ?_
            refine j_top (y := iZ (((iZ v20) ^^^ (iZ (-1))).toInt)) (iZ_of _).symm ?_
            refine r_iand G d0_single_139 ?_
            refine j_top (y := iZ (((iZ 16777215) &&& (iZ (((iZ v20) ^^^ (iZ (-1))).toInt))).toInt)) (iZ_of _).symm ?_
            refine j_goto (tgt := 145) G d0_single_140 (by decide) ?_
            exact j_iret G F d0_single_145 ⟨((iZ 16777215) &&& (iZ (((iZ v20) ^^^ (iZ (-1))).toInt))).toInt, at1_17, ft1_18, rfl, rfl, (by first | exact ⟨sg_par hI hlv2 (by omega) hc40 (by omega) he3 (by omega) hT ⟨fun q => by first | rfl | (exfalso; omega), fun q => by first | rfl | (exfalso; omega)⟩, by omega, by omega⟩ | exact ⟨htst _ ⟨fun q => by first | rfl | (exfalso; omega), fun q => by first | rfl | (exfalso; omega)⟩, by omega, by omega⟩)⟩
        ·
          refine j_iload_n G 1 rfl d0_single_53 ?_
          refine j_iconst G d0_single_54 ?_
          refine j_icmp_ge (tgt := 91) G d0_single_55 (by decide) hwR (by decide) (fun h22 => ?_) (fun h22 => ?_)
          ·
            have h33 : R 3 < 0 → nx U (R 1) az = 33 → 4 ≤ w := fun q1 q2 => by have z := (hpC 33 (by decide) (by decide)).2 ⟨q1, q2⟩; omega
            have h40 : R 3 < 0 → nx U (R 1) az = 40 → 4 ≤ w := fun q1 q2 => by have z := (hgC 40 (by decide) (by decide)).2 ⟨q1, q2⟩; omega
            refine j_aload_n G 2 rfl d0_single_91 ?_
            refine j_bipush G d0_single_92 rfl ?_
            refine j_bipush G d0_single_94 rfl ?_
            refine j_bipush G d0_single_96 rfl ?_
            refine j_VM G (rm' := { frames := 1, cells := 0, slots := 0, locals := 20 }) (wc := [(ra, o0 (some ba) (upS R 2 az)), (ba, aInt E 100 tb)]) (wr := []) (k0_takeOneOf (xl Γ) E ra ba (upS R 2 az) tb U 115 119 119 (by first | assumption | omega | (simp only [upS, reduceIte, Nat.reduceEqDiff, eq_self, List.length_cons, List.length_nil, List.length_append] <;> omega)) (by first | assumption | omega | (simp only [upS, reduceIte, Nat.reduceEqDiff, eq_self, List.length_cons, List.length_nil, List.length_append] <;> omega)) (by first | assumption | omega | (simp only [upS, reduceIte, Nat.reduceEqDiff, eq_self, List.length_cons, List.length_nil, List.length_append] <;> omega)) (by first | assumption | omega | (simp only [upS, reduceIte, Nat.reduceEqDiff, eq_self, List.length_cons, List.length_nil, List.length_append] <;> omega)) (by first | assumption | omega | (simp only [upS, reduceIte, Nat.reduceEqDiff, eq_self, List.length_cons, List.length_nil, List.length_append] <;> omega))) mw0_takeOneOf ml0_54 [0, 1] [] rfl rfl ⟨rfl, rfl⟩ (by decide) 0 0 rfl rfl rfl ⟨Nat.le_of_ble_eq_true rfl, Nat.le_of_ble_eq_true rfl⟩ rfl (rest := []) rfl (Nat.le_of_ble_eq_true rfl) d0_single_98 ⟨Nat.le_of_ble_eq_true rfl, Nat.le_of_ble_eq_true rfl⟩ (fun r w1 hr => ?_)
            obtain ⟨v24, at1_25, ft1_26, rfl, rfl, ⟨hq23_0, hq23_1, hq23_2, hq23_3⟩⟩ := hr
            refine j_eq (ws' := [(ra, o0 (some ba) (upS (upS R 2 at1_25) 3 ft1_26)), (ba, aInt E 100 tb)]) rfl rfl rfl ?_
            try simp only [upS, reduceIte, Nat.reduceEqDiff, eq_self] at hq23_0 hq23_1 hq23_2 hq23_3
            have hA := tk_of hq23_0
            have hAr := hq23_1
            have hAs := hq23_2
            have hAv := hq23_3
            clear hq23_0
            refine j_istore G d0_single_101 (by decide) rfl ?_
            refine j_aload_n G 3 rfl d0_single_103 ?_
            refine j_bipush G d0_single_104 rfl ?_
            refine j_bipush G d0_single_106 rfl ?_
            refine j_bipush G d0_single_108 rfl ?_
            refine j_VM G (rm' := { frames := 1, cells := 0, slots := 0, locals := 20 }) (wc := [(ra, o0 (some ba) (upS (upS R 2 at1_25) 3 ft1_26)), (ba, aInt E 100 tb)]) (wr := []) (k0_takeOneOf (xl Γ) E ra ba (upS (upS R 2 at1_25) 3 ft1_26) tb U 60 61 62 (by first | assumption | omega | (simp only [upS, reduceIte, Nat.reduceEqDiff, eq_self, List.length_cons, List.length_nil, List.length_append] <;> omega)) (by first | assumption | omega | (simp only [upS, reduceIte, Nat.reduceEqDiff, eq_self, List.length_cons, List.length_nil, List.length_append] <;> omega)) (by first | assumption | omega | (simp only [upS, reduceIte, Nat.reduceEqDiff, eq_self, List.length_cons, List.length_nil, List.length_append] <;> omega)) (by first | assumption | omega | (simp only [upS, reduceIte, Nat.reduceEqDiff, eq_self, List.length_cons, List.length_nil, List.length_append] <;> omega)) (by first | assumption | omega | (simp only [upS, reduceIte, Nat.reduceEqDiff, eq_self, List.length_cons, List.length_nil, List.length_append] <;> omega))) mw0_takeOneOf ml0_54 [0, 1] [] rfl rfl ⟨rfl, rfl⟩ (by decide) 0 0 rfl rfl rfl ⟨Nat.le_of_ble_eq_true rfl, Nat.le_of_ble_eq_true rfl⟩ rfl (rest := []) rfl (Nat.le_of_ble_eq_true rfl) d0_single_110 ⟨Nat.le_of_ble_eq_true rfl, Nat.le_of_ble_eq_true rfl⟩ (fun r w1 hr => ?_)
            obtain ⟨v28, at1_29, ft1_30, rfl, rfl, ⟨hq27_0, hq27_1, hq27_2, hq27_3⟩⟩ := hr
            refine j_eq (ws' := [(ra, o0 (some ba) (upS (upS R 2 at1_29) 3 ft1_30)), (ba, aInt E 100 tb)]) rfl rfl rfl ?_
            try simp only [upS, reduceIte, Nat.reduceEqDiff, eq_self] at hq27_0 hq27_1 hq27_2 hq27_3
            have hBq := tk_of hq27_0
            have hBr := hq27_1
            have hBs := hq27_2
            have hBv := hq27_3
            clear hq27_0
            refine j_istore G d0_single_113 (by decide) rfl ?_
            refine j_iload G 1 rfl d0_single_115 ?_
            refine j_iload G 0 rfl d0_single_117 ?_
            refine j_aload_n G 4 rfl d0_single_119 ?_
            refine j_iconst G d0_single_120 ?_
            refine j_VM G (rm' := { frames := 1, cells := 0, slots := 0, locals := 20 }) (wc := [(ra, o0 (some ba) (upS (upS R 2 at1_29) 3 ft1_30)), (ba, aInt E 100 tb)]) (wr := []) (k0_number (xl Γ) E ra ba (upS (upS R 2 at1_29) 3 ft1_30) tb U 2 (by first | assumption | omega | (simp only [upS, reduceIte, Nat.reduceEqDiff, eq_self, List.length_cons, List.length_nil, List.length_append] <;> omega)) (by first | assumption | omega | (simp only [upS, reduceIte, Nat.reduceEqDiff, eq_self, List.length_cons, List.length_nil, List.length_append] <;> omega)) (by first | assumption | omega | (simp only [upS, reduceIte, Nat.reduceEqDiff, eq_self, List.length_cons, List.length_nil, List.length_append] <;> omega)) (by first | assumption | omega | (simp only [upS, reduceIte, Nat.reduceEqDiff, eq_self, List.length_cons, List.length_nil, List.length_append] <;> omega)) (by first | assumption | omega | (simp only [upS, reduceIte, Nat.reduceEqDiff, eq_self, List.length_cons, List.length_nil, List.length_append] <;> omega))) mw0_number ml0_58 [0, 1] [] rfl rfl ⟨rfl, rfl⟩ (by decide) 0 0 rfl rfl rfl ⟨Nat.le_of_ble_eq_true rfl, Nat.le_of_ble_eq_true rfl⟩ rfl (rest := [.int (iZ v28), .int (iZ v24)]) rfl (Nat.le_of_ble_eq_true rfl) d0_single_121 ⟨Nat.le_of_ble_eq_true rfl, Nat.le_of_ble_eq_true rfl⟩ (fun r w1 hr => ?_)
            obtain ⟨v32, at1_33, ft1_34, rfl, rfl, ⟨hq31_0, hq31_1, hq31_2, hq31_3⟩⟩ := hr
            refine j_eq (ws' := [(ra, o0 (some ba) (upS (upS R 2 at1_33) 3 ft1_34)), (ba, aInt E 100 tb)]) rfl rfl rfl ?_
            try simp only [upS, reduceIte, Nat.reduceEqDiff, eq_self] at hq31_0 hq31_1 hq31_2 hq31_3
            have hC := nm_of hq31_0
            have hCr := hq31_1
            have hCs := hq31_2
            have hCv := hq31_3
            clear hq31_0
            refine j_SP G (k0_momentsWith (xl Γ) E v24 v28 v32 (by first | assumption | omega | (simp only [upS, reduceIte, Nat.reduceEqDiff, eq_self, List.length_cons, List.length_nil, List.length_append] <;> omega)) (by first | assumption | omega | (simp only [upS, reduceIte, Nat.reduceEqDiff, eq_self, List.length_cons, List.length_nil, List.length_append] <;> omega)) (by first | assumption | omega | (simp only [upS, reduceIte, Nat.reduceEqDiff, eq_self, List.length_cons, List.length_nil, List.length_append] <;> omega))) mw0_momentsWith ml0_118 [] rfl ⟨Nat.le_of_ble_eq_true rfl, Nat.le_of_ble_eq_true rfl⟩ rfl (rest := []) rfl (Nat.le_of_ble_eq_true rfl) d0_single_124 ⟨Nat.le_of_ble_eq_true rfl, Nat.le_of_ble_eq_true rfl⟩ (fun r hr => ?_)
            obtain ⟨v36, rfl, ⟨hq35_0, hq35_1⟩⟩ := hr
            have hM := hq35_0
            have hMr := hq35_1
            have htst := sg_tst4 hI (by omega) hw.2 h33 h40 hA hBq hC hM
            refine j_istore G d0_single_127 (by decide) rfl ?_
            refine j_iload_n G 3 rfl d0_single_129 ?_
            refine j_if_eq (tgt := 143) G d0_single_130 (by decide) htR (fun h37 => ?_) (fun h37 => ?_)
            ·
              refine j_iload G 0 rfl d0_single_143 ?_
              exact j_iret G F d0_single_145 ⟨v36, at1_33, ft1_34, rfl, rfl, (by first | exact ⟨sg_par hI hlv2 (by omega) hc40 (by omega) he3 (by omega) hT ⟨fun q => by first | rfl | (exfalso; omega), fun q => by first | rfl | (exfalso; omega)⟩, by omega, by omega⟩ | exact ⟨htst _ ⟨fun q => by first | rfl | (exfalso; omega), fun q => by first | rfl | (exfalso; omega)⟩, by omega, by omega⟩)⟩
            ·
              refine j_ldc G 16777215 ct0_121 (by decide) d0_single_133 ?_
              refine j_iload G 0 rfl d0_single_135 ?_
              refine j_iconst G d0_single_137 ?_
              refine r_ixor G d0_single_138 ?_
              refine j_top (y := iZ (((iZ v36) ^^^ (iZ (-1))).toInt)) (iZ_of _).symm ?_
              refine r_iand G d0_single_139 ?_
              refine j_top (y := iZ (((iZ 16777215) &&& (iZ (((iZ v36) ^^^ (iZ (-1))).toInt))).toInt)) (iZ_of _).symm ?_
              refine j_goto (tgt := 145) G d0_single_140 (by decide) ?_
              exact j_iret G F d0_single_145 ⟨((iZ 16777215) &&& (iZ (((iZ v36) ^^^ (iZ (-1))).toInt))).toInt, at1_33, ft1_34, rfl, rfl, (by first | exact ⟨sg_par hI hlv2 (by omega) hc40 (by omega) he3 (by omega) hT ⟨fun q => by first | rfl | (exfalso; omega), fun q => by first | rfl | (exfalso; omega)⟩, by omega, by omega⟩ | exact ⟨htst _ ⟨fun q => by first | rfl | (exfalso; omega), fun q => by first | rfl | (exfalso; omega)⟩, by omega, by omega⟩)⟩
          ·
            exact absurd h22 (by omega)
      ·
        refine j_iload_n G 1 rfl d0_single_13 ?_
        refine j_iconst G d0_single_14 ?_
        refine j_icmp_ge (tgt := 44) G d0_single_15 (by decide) hwR (by decide) (fun h38 => ?_) (fun h38 => ?_)
        ·
          refine j_aload_n G 2 rfl d0_single_44 ?_
          refine j_VP G (k0_peek (xl Γ) E ra ba (upS R 2 az) tb U (by first | assumption | omega | (simp only [upS, reduceIte, Nat.reduceEqDiff, eq_self, List.length_cons, List.length_nil, List.length_append] <;> omega)) (by first | assumption | omega | (simp only [upS, reduceIte, Nat.reduceEqDiff, eq_self, List.length_cons, List.length_nil, List.length_append] <;> omega)) (by first | assumption | omega | (simp only [upS, reduceIte, Nat.reduceEqDiff, eq_self, List.length_cons, List.length_nil, List.length_append] <;> omega)) (by first | assumption | omega | (simp only [upS, reduceIte, Nat.reduceEqDiff, eq_self, List.length_cons, List.length_nil, List.length_append] <;> omega))) mw0_peek ml0_32 [0, 1] rfl 0 0 rfl rfl rfl ⟨Nat.le_of_ble_eq_true rfl, Nat.le_of_ble_eq_true rfl⟩ rfl (rest := []) rfl (Nat.le_of_ble_eq_true rfl) d0_single_45 ⟨Nat.le_of_ble_eq_true rfl, Nat.le_of_ble_eq_true rfl⟩ (fun r hr => ?_)
          obtain ⟨v40, rfl, ⟨hq39_0, hq39_1, hq39_2, hq39_3, hq39_4⟩⟩ := hr
          try simp only [upS, reduceIte, Nat.reduceEqDiff, eq_self] at hq39_0 hq39_1 hq39_2 hq39_3 hq39_4
          have hgC := pk_of hq39_0 hq39_1 hq39_2
          have hg2 := hq39_2
          have hg3 := hq39_3
          clear hq39_0 hq39_1 hq39_3 hq39_4
          refine j_bipush G d0_single_48 rfl ?_
          refine j_icmp_ne (tgt := 91) G d0_single_50 (by decide) (r32_pk hg2) (by decide) (fun h41 => ?_) (fun h41 => ?_)
          ·
            have h33 : R 3 < 0 → nx U (R 1) az = 33 → 4 ≤ w := fun q1 q2 => by have z := (hpC 33 (by decide) (by decide)).2 ⟨q1, q2⟩; omega
            have h40 : R 3 < 0 → nx U (R 1) az = 40 → 4 ≤ w := fun q1 q2 => by have z := (hgC 40 (by decide) (by decide)).2 ⟨q1, q2⟩; omega
            refine j_aload_n G 2 rfl d0_single_91 ?_
            refine j_bipush G d0_single_92 rfl ?_
            refine j_bipush G d0_single_94 rfl ?_
            refine j_bipush G d0_single_96 rfl ?_
            refine j_VM G (rm' := { frames := 1, cells := 0, slots := 0, locals := 20 }) (wc := [(ra, o0 (some ba) (upS R 2 az)), (ba, aInt E 100 tb)]) (wr := []) (k0_takeOneOf (xl Γ) E ra ba (upS R 2 az) tb U 115 119 119 (by first | assumption | omega | (simp only [upS, reduceIte, Nat.reduceEqDiff, eq_self, List.length_cons, List.length_nil, List.length_append] <;> omega)) (by first | assumption | omega | (simp only [upS, reduceIte, Nat.reduceEqDiff, eq_self, List.length_cons, List.length_nil, List.length_append] <;> omega)) (by first | assumption | omega | (simp only [upS, reduceIte, Nat.reduceEqDiff, eq_self, List.length_cons, List.length_nil, List.length_append] <;> omega)) (by first | assumption | omega | (simp only [upS, reduceIte, Nat.reduceEqDiff, eq_self, List.length_cons, List.length_nil, List.length_append] <;> omega)) (by first | assumption | omega | (simp only [upS, reduceIte, Nat.reduceEqDiff, eq_self, List.length_cons, List.length_nil, List.length_append] <;> omega))) mw0_takeOneOf ml0_54 [0, 1] [] rfl rfl ⟨rfl, rfl⟩ (by decide) 0 0 rfl rfl rfl ⟨Nat.le_of_ble_eq_true rfl, Nat.le_of_ble_eq_true rfl⟩ rfl (rest := []) rfl (Nat.le_of_ble_eq_true rfl) d0_single_98 ⟨Nat.le_of_ble_eq_true rfl, Nat.le_of_ble_eq_true rfl⟩ (fun r w1 hr => ?_)
            obtain ⟨v43, at1_44, ft1_45, rfl, rfl, ⟨hq42_0, hq42_1, hq42_2, hq42_3⟩⟩ := hr
            refine j_eq (ws' := [(ra, o0 (some ba) (upS (upS R 2 at1_44) 3 ft1_45)), (ba, aInt E 100 tb)]) rfl rfl rfl ?_
            try simp only [upS, reduceIte, Nat.reduceEqDiff, eq_self] at hq42_0 hq42_1 hq42_2 hq42_3
            have hA := tk_of hq42_0
            have hAr := hq42_1
            have hAs := hq42_2
            have hAv := hq42_3
            clear hq42_0
            refine j_istore G d0_single_101 (by decide) rfl ?_
            refine j_aload_n G 3 rfl d0_single_103 ?_
            refine j_bipush G d0_single_104 rfl ?_
            refine j_bipush G d0_single_106 rfl ?_
            refine j_bipush G d0_single_108 rfl ?_
            refine j_VM G (rm' := { frames := 1, cells := 0, slots := 0, locals := 20 }) (wc := [(ra, o0 (some ba) (upS (upS R 2 at1_44) 3 ft1_45)), (ba, aInt E 100 tb)]) (wr := []) (k0_takeOneOf (xl Γ) E ra ba (upS (upS R 2 at1_44) 3 ft1_45) tb U 60 61 62 (by first | assumption | omega | (simp only [upS, reduceIte, Nat.reduceEqDiff, eq_self, List.length_cons, List.length_nil, List.length_append] <;> omega)) (by first | assumption | omega | (simp only [upS, reduceIte, Nat.reduceEqDiff, eq_self, List.length_cons, List.length_nil, List.length_append] <;> omega)) (by first | assumption | omega | (simp only [upS, reduceIte, Nat.reduceEqDiff, eq_self, List.length_cons, List.length_nil, List.length_append] <;> omega)) (by first | assumption | omega | (simp only [upS, reduceIte, Nat.reduceEqDiff, eq_self, List.length_cons, List.length_nil, List.length_append] <;> omega)) (by first | assumption | omega | (simp only [upS, reduceIte, Nat.reduceEqDiff, eq_self, List.length_cons, List.length_nil, List.length_append] <;> omega))) mw0_takeOneOf ml0_54 [0, 1] [] rfl rfl ⟨rfl, rfl⟩ (by decide) 0 0 rfl rfl rfl ⟨Nat.le_of_ble_eq_true rfl, Nat.le_of_ble_eq_true rfl⟩ rfl (rest := []) rfl (Nat.le_of_ble_eq_true rfl) d0_single_110 ⟨Nat.le_of_ble_eq_true rfl, Nat.le_of_ble_eq_true rfl⟩ (fun r w1 hr => ?_)
            obtain ⟨v47, at1_48, ft1_49, rfl, rfl, ⟨hq46_0, hq46_1, hq46_2, hq46_3⟩⟩ := hr
            refine j_eq (ws' := [(ra, o0 (some ba) (upS (upS R 2 at1_48) 3 ft1_49)), (ba, aInt E 100 tb)]) rfl rfl rfl ?_
            try simp only [upS, reduceIte, Nat.reduceEqDiff, eq_self] at hq46_0 hq46_1 hq46_2 hq46_3
            have hBq := tk_of hq46_0
            have hBr := hq46_1
            have hBs := hq46_2
            have hBv := hq46_3
            clear hq46_0
            refine j_istore G d0_single_113 (by decide) rfl ?_
            refine j_iload G 1 rfl d0_single_115 ?_
            refine j_iload G 0 rfl d0_single_117 ?_
            refine j_aload_n G 4 rfl d0_single_119 ?_
            refine j_iconst G d0_single_120 ?_
            refine j_VM G (rm' := { frames := 1, cells := 0, slots := 0, locals := 20 }) (wc := [(ra, o0 (some ba) (upS (upS R 2 at1_48) 3 ft1_49)), (ba, aInt E 100 tb)]) (wr := []) (k0_number (xl Γ) E ra ba (upS (upS R 2 at1_48) 3 ft1_49) tb U 2 (by first | assumption | omega | (simp only [upS, reduceIte, Nat.reduceEqDiff, eq_self, List.length_cons, List.length_nil, List.length_append] <;> omega)) (by first | assumption | omega | (simp only [upS, reduceIte, Nat.reduceEqDiff, eq_self, List.length_cons, List.length_nil, List.length_append] <;> omega)) (by first | assumption | omega | (simp only [upS, reduceIte, Nat.reduceEqDiff, eq_self, List.length_cons, List.length_nil, List.length_append] <;> omega)) (by first | assumption | omega | (simp only [upS, reduceIte, Nat.reduceEqDiff, eq_self, List.length_cons, List.length_nil, List.length_append] <;> omega)) (by first | assumption | omega | (simp only [upS, reduceIte, Nat.reduceEqDiff, eq_self, List.length_cons, List.length_nil, List.length_append] <;> omega))) mw0_number ml0_58 [0, 1] [] rfl rfl ⟨rfl, rfl⟩ (by decide) 0 0 rfl rfl rfl ⟨Nat.le_of_ble_eq_true rfl, Nat.le_of_ble_eq_true rfl⟩ rfl (rest := [.int (iZ v47), .int (iZ v43)]) rfl (Nat.le_of_ble_eq_true rfl) d0_single_121 ⟨Nat.le_of_ble_eq_true rfl, Nat.le_of_ble_eq_true rfl⟩ (fun r w1 hr => ?_)
            obtain ⟨v51, at1_52, ft1_53, rfl, rfl, ⟨hq50_0, hq50_1, hq50_2, hq50_3⟩⟩ := hr
            refine j_eq (ws' := [(ra, o0 (some ba) (upS (upS R 2 at1_52) 3 ft1_53)), (ba, aInt E 100 tb)]) rfl rfl rfl ?_
            try simp only [upS, reduceIte, Nat.reduceEqDiff, eq_self] at hq50_0 hq50_1 hq50_2 hq50_3
            have hC := nm_of hq50_0
            have hCr := hq50_1
            have hCs := hq50_2
            have hCv := hq50_3
            clear hq50_0
            refine j_SP G (k0_momentsWith (xl Γ) E v43 v47 v51 (by first | assumption | omega | (simp only [upS, reduceIte, Nat.reduceEqDiff, eq_self, List.length_cons, List.length_nil, List.length_append] <;> omega)) (by first | assumption | omega | (simp only [upS, reduceIte, Nat.reduceEqDiff, eq_self, List.length_cons, List.length_nil, List.length_append] <;> omega)) (by first | assumption | omega | (simp only [upS, reduceIte, Nat.reduceEqDiff, eq_self, List.length_cons, List.length_nil, List.length_append] <;> omega))) mw0_momentsWith ml0_118 [] rfl ⟨Nat.le_of_ble_eq_true rfl, Nat.le_of_ble_eq_true rfl⟩ rfl (rest := []) rfl (Nat.le_of_ble_eq_true rfl) d0_single_124 ⟨Nat.le_of_ble_eq_true rfl, Nat.le_of_ble_eq_true rfl⟩ (fun r hr => ?_)
            obtain ⟨v55, rfl, ⟨hq54_0, hq54_1⟩⟩ := hr
            have hM := hq54_0
            have hMr := hq54_1
            have htst := sg_tst4 hI (by omega) hw.2 h33 h40 hA hBq hC hM
            refine j_istore G d0_single_127 (by decide) rfl ?_
            refine j_iload_n G 3 rfl d0_single_129 ?_
            refine j_if_eq (tgt := 143) G d0_single_130 (by decide) htR (fun h56 => ?_) (fun h56 => ?_)
            ·
              refine j_iload G 0 rfl d0_single_143 ?_
              exact j_iret G F d0_single_145 ⟨v55, at1_52, ft1_53, rfl, rfl, (by first | exact ⟨sg_par hI hlv2 (by omega) hc40 (by omega) he3 (by omega) hT ⟨fun q => by first | rfl | (exfalso; omega), fun q => by first | rfl | (exfalso; omega)⟩, by omega, by omega⟩ | exact ⟨htst _ ⟨fun q => by first | rfl | (exfalso; omega), fun q => by first | rfl | (exfalso; omega)⟩, by omega, by omega⟩)⟩
            ·
              refine j_ldc G 16777215 ct0_121 (by decide) d0_single_133 ?_
              refine j_iload G 0 rfl d0_single_135 ?_
              refine j_iconst G d0_single_137 ?_
              refine r_ixor G d0_single_138 ?_
              refine j_top (y := iZ (((iZ v55) ^^^ (iZ (-1))).toInt)) (iZ_of _).symm ?_
              refine r_iand G d0_single_139 ?_
              refine j_top (y := iZ (((iZ 16777215) &&& (iZ (((iZ v55) ^^^ (iZ (-1))).toInt))).toInt)) (iZ_of _).symm ?_
              refine j_goto (tgt := 145) G d0_single_140 (by decide) ?_
              exact j_iret G F d0_single_145 ⟨((iZ 16777215) &&& (iZ (((iZ v55) ^^^ (iZ (-1))).toInt))).toInt, at1_52, ft1_53, rfl, rfl, (by first | exact ⟨sg_par hI hlv2 (by omega) hc40 (by omega) he3 (by omega) hT ⟨fun q => by first | rfl | (exfalso; omega), fun q => by first | rfl | (exfalso; omega)⟩, by omega, by omega⟩ | exact ⟨htst _ ⟨fun q => by first | rfl | (exfalso; omega), fun q => by first | rfl | (exfalso; omega)⟩, by omega, by omega⟩)⟩
          ·
            refine j_iload_n G 1 rfl d0_single_53 ?_
            refine j_iconst G d0_single_54 ?_
            refine j_icmp_ge (tgt := 91) G d0_single_55 (by decide) hwR (by decide) (fun h57 => ?_) (fun h57 => ?_)
            ·
              have h33 : R 3 < 0 → nx U (R 1) az = 33 → 4 ≤ w := fun q1 q2 => by have z := (hpC 33 (by decide) (by decide)).2 ⟨q1, q2⟩; omega
              have h40 : R 3 < 0 → nx U (R 1) az = 40 → 4 ≤ w := fun q1 q2 => by have z := (hgC 40 (by decide) (by decide)).2 ⟨q1, q2⟩; omega
              refine j_aload_n G 2 rfl d0_single_91 ?_
              refine j_bipush G d0_single_92 rfl ?_
              refine j_bipush G d0_single_94 rfl ?_
              refine j_bipush G d0_single_96 rfl ?_
              refine j_VM G (rm' := { frames := 1, cells := 0, slots := 0, locals := 20 }) (wc := [(ra, o0 (some ba) (upS R 2 az)), (ba, aInt E 100 tb)]) (wr := []) (k0_takeOneOf (xl Γ) E ra ba (upS R 2 az) tb U 115 119 119 (by first | assumption | omega | (simp only [upS, reduceIte, Nat.reduceEqDiff, eq_self, List.length_cons, List.length_nil, List.length_append] <;> omega)) (by first | assumption | omega | (simp only [upS, reduceIte, Nat.reduceEqDiff, eq_self, List.length_cons, List.length_nil, List.length_append] <;> omega)) (by first | assumption | omega | (simp only [upS, reduceIte, Nat.reduceEqDiff, eq_self, List.length_cons, List.length_nil, List.length_append] <;> omega)) (by first | assumption | omega | (simp only [upS, reduceIte, Nat.reduceEqDiff, eq_self, List.length_cons, List.length_nil, List.length_append] <;> omega)) (by first | assumption | omega | (simp only [upS, reduceIte, Nat.reduceEqDiff, eq_self, List.length_cons, List.length_nil, List.length_append] <;> omega))) mw0_takeOneOf ml0_54 [0, 1] [] rfl rfl ⟨rfl, rfl⟩ (by decide) 0 0 rfl rfl rfl ⟨Nat.le_of_ble_eq_true rfl, Nat.le_of_ble_eq_true rfl⟩ rfl (rest := []) rfl (Nat.le_of_ble_eq_true rfl) d0_single_98 ⟨Nat.le_of_ble_eq_true rfl, Nat.le_of_ble_eq_true rfl⟩ (fun r w1 hr => ?_)
              obtain ⟨v59, at1_60, ft1_61, rfl, rfl, ⟨hq58_0, hq58_1, hq58_2, hq58_3⟩⟩ := hr
              refine j_eq (ws' := [(ra, o0 (some ba) (upS (upS R 2 at1_60) 3 ft1_61)), (ba, aInt E 100 tb)]) rfl rfl rfl ?_
              try simp only [upS, reduceIte, Nat.reduceEqDiff, eq_self] at hq58_0 hq58_1 hq58_2 hq58_3
              have hA := tk_of hq58_0
              have hAr := hq58_1
              have hAs := hq58_2
              have hAv := hq58_3
              clear hq58_0
              refine j_istore G d0_single_101 (by decide) rfl ?_
              refine j_aload_n G 3 rfl d0_single_103 ?_
              refine j_bipush G d0_single_104 rfl ?_
              refine j_bipush G d0_single_106 rfl ?_
              refine j_bipush G d0_single_108 rfl ?_
              refine j_VM G (rm' := { frames := 1, cells := 0, slots := 0, locals := 20 }) (wc := [(ra, o0 (some ba) (upS (upS R 2 at1_60) 3 ft1_61)), (ba, aInt E 100 tb)]) (wr := []) (k0_takeOneOf (xl Γ) E ra ba (upS (upS R 2 at1_60) 3 ft1_61) tb U 60 61 62 (by first | assumption | omega | (simp only [upS, reduceIte, Nat.reduceEqDiff, eq_self, List.length_cons, List.length_nil, List.length_append] <;> omega)) (by first | assumption | omega | (simp only [upS, reduceIte, Nat.reduceEqDiff, eq_self, List.length_cons, List.length_nil, List.length_append] <;> omega)) (by first | assumption | omega | (simp only [upS, reduceIte, Nat.reduceEqDiff, eq_self, List.length_cons, List.length_nil, List.length_append] <;> omega)) (by first | assumption | omega | (simp only [upS, reduceIte, Nat.reduceEqDiff, eq_self, List.length_cons, List.length_nil, List.length_append] <;> omega)) (by first | assumption | omega | (simp only [upS, reduceIte, Nat.reduceEqDiff, eq_self, List.length_cons, List.length_nil, List.length_append] <;> omega))) mw0_takeOneOf ml0_54 [0, 1] [] rfl rfl ⟨rfl, rfl⟩ (by decide) 0 0 rfl rfl rfl ⟨Nat.le_of_ble_eq_true rfl, Nat.le_of_ble_eq_true rfl⟩ rfl (rest := []) rfl (Nat.le_of_ble_eq_true rfl) d0_single_110 ⟨Nat.le_of_ble_eq_true rfl, Nat.le_of_ble_eq_true rfl⟩ (fun r w1 hr => ?_)
              obtain ⟨v63, at1_64, ft1_65, rfl, rfl, ⟨hq62_0, hq62_1, hq62_2, hq62_3⟩⟩ := hr
              refine j_eq (ws' := [(ra, o0 (some ba) (upS (upS R 2 at1_64) 3 ft1_65)), (ba, aInt E 100 tb)]) rfl rfl rfl ?_
              try simp only [upS, reduceIte, Nat.reduceEqDiff, eq_self] at hq62_0 hq62_1 hq62_2 hq62_3
              have hBq := tk_of hq62_0
              have hBr := hq62_1
              have hBs := hq62_2
              have hBv := hq62_3
              clear hq62_0
              refine j_istore G d0_single_113 (by decide) rfl ?_
              refine j_iload G 1 rfl d0_single_115 ?_
              refine j_iload G 0 rfl d0_single_117 ?_
              refine j_aload_n G 4 rfl d0_single_119 ?_
              refine j_iconst G d0_single_120 ?_
              refine j_VM G (rm' := { frames := 1, cells := 0, slots := 0, locals := 20 }) (wc := [(ra, o0 (some ba) (upS (upS R 2 at1_64) 3 ft1_65)), (ba, aInt E 100 tb)]) (wr := []) (k0_number (xl Γ) E ra ba (upS (upS R 2 at1_64) 3 ft1_65) tb U 2 (by first | assumption | omega | (simp only [upS, reduceIte, Nat.reduceEqDiff, eq_self, List.length_cons, List.length_nil, List.length_append] <;> omega)) (by first | assumption | omega | (simp only [upS, reduceIte, Nat.reduceEqDiff, eq_self, List.length_cons, List.length_nil, List.length_append] <;> omega)) (by first | assumption | omega | (simp only [upS, reduceIte, Nat.reduceEqDiff, eq_self, List.length_cons, List.length_nil, List.length_append] <;> omega)) (by first | assumption | omega | (simp only [upS, reduceIte, Nat.reduceEqDiff, eq_self, List.length_cons, List.length_nil, List.length_append] <;> omega)) (by first | assumption | omega | (simp only [upS, reduceIte, Nat.reduceEqDiff, eq_self, List.length_cons, List.length_nil, List.length_append] <;> omega))) mw0_number ml0_58 [0, 1] [] rfl rfl ⟨rfl, rfl⟩ (by decide) 0 0 rfl rfl rfl ⟨Nat.le_of_ble_eq_true rfl, Nat.le_of_ble_eq_true rfl⟩ rfl (rest := [.int (iZ v63), .int (iZ v59)]) rfl (Nat.le_of_ble_eq_true rfl) d0_single_121 ⟨Nat.le_of_ble_eq_true rfl, Nat.le_of_ble_eq_true rfl⟩ (fun r w1 hr => ?_)
              obtain ⟨v67, at1_68, ft1_69, rfl, rfl, ⟨hq66_0, hq66_1, hq66_2, hq66_3⟩⟩ := hr
              refine j_eq (ws' := [(ra, o0 (some ba) (upS (upS R 2 at1_68) 3 ft1_69)), (ba, aInt E 100 tb)]) rfl rfl rfl ?_
              try simp only [upS, reduceIte, Nat.reduceEqDiff, eq_self] at hq66_0 hq66_1 hq66_2 hq66_3
              have hC := nm_of hq66_0
              have hCr := hq66_1
              have hCs := hq66_2
              have hCv := hq66_3
              clear hq66_0
              refine j_SP G (k0_momentsWith (xl Γ) E v59 v63 v67 (by first | assumption | omega | (simp only [upS, reduceIte, Nat.reduceEqDiff, eq_self, List.length_cons, List.length_nil, List.length_append] <;> omega)) (by first | assumption | omega | (simp only [upS, reduceIte, Nat.reduceEqDiff, eq_self, List.length_cons, List.length_nil, List.length_append] <;> omega)) (by first | assumption | omega | (simp only [upS, reduceIte, Nat.reduceEqDiff, eq_self, List.length_cons, List.length_nil, List.length_append] <;> omega))) mw0_momentsWith ml0_118 [] rfl ⟨Nat.le_of_ble_eq_true rfl, Nat.le_of_ble_eq_true rfl⟩ rfl (rest := []) rfl (Nat.le_of_ble_eq_true rfl) d0_single_124 ⟨Nat.le_of_ble_eq_true rfl, Nat.le_of_ble_eq_true rfl⟩ (fun r hr => ?_)
              obtain ⟨v71, rfl, ⟨hq70_0, hq70_1⟩⟩ := hr
              have hM := hq70_0
              have hMr := hq70_1
              have htst := sg_tst4 hI (by omega) hw.2 h33 h40 hA hBq hC hM
              refine j_istore G d0_single_127 (by decide) rfl ?_
              refine j_iload_n G 3 rfl d0_single_129 ?_
              refine j_if_eq (tgt := 143) G d0_single_130 (by decide) htR (fun h72 => ?_) (fun h72 => ?_)
              ·
                refine j_iload G 0 rfl d0_single_143 ?_
                exact j_iret G F d0_single_145 ⟨v71, at1_68, ft1_69, rfl, rfl, (by first | exact ⟨sg_par hI hlv2 (by omega) hc40 (by omega) he3 (by omega) hT ⟨fun q => by first | rfl | (exfalso; omega), fun q => by first | rfl | (exfalso; omega)⟩, by omega, by omega⟩ | exact ⟨htst _ ⟨fun q => by first | rfl | (exfalso; omega), fun q => by first | rfl | (exfalso; omega)⟩, by omega, by omega⟩)⟩
              ·
                refine j_ldc G 16777215 ct0_121 (by decide) d0_single_133 ?_
                refine j_iload G 0 rfl d0_single_135 ?_
                refine j_iconst G d0_single_137 ?_
                refine r_ixor G d0_single_138 ?_
                refine j_top (y := iZ (((iZ v71) ^^^ (iZ (-1))).toInt)) (iZ_of _).symm ?_
                refine r_iand G d0_single_139 ?_
                refine j_top (y := iZ (((iZ 16777215) &&& (iZ (((iZ v71) ^^^ (iZ (-1))).toInt))).toInt)) (iZ_of _).symm ?_
                refine j_goto (tgt := 145) G d0_single_140 (by decide) ?_
                exact j_iret G F d0_single_145 ⟨((iZ 16777215) &&& (iZ (((iZ v71) ^^^ (iZ (-1))).toInt))).toInt, at1_68, ft1_69, rfl, rfl, (by first | exact ⟨sg_par hI hlv2 (by omega) hc40 (by omega) he3 (by omega) hT ⟨fun q => by first | rfl | (exfalso; omega), fun q => by first | rfl | (exfalso; omega)⟩, by omega, by omega⟩ | exact ⟨htst _ ⟨fun q => by first | rfl | (exfalso; omega), fun q => by first | rfl | (exfalso; omega)⟩, by omega, by omega⟩)⟩
            ·
              exact absurd h57 (by omega)
        ·
          have hlive : R 3 < 0 := ((hpC 33 (by decide) (by decide)).1 (by omega)).1
          have hnc : nx U (R 1) az = 33 := ((hpC 33 (by decide) (by decide)).1 (by omega)).2
          refine j_aload_n G 2 rfl d0_single_18 ?_
          refine j_dup G d0_single_19 rfl ?_
          refine j_get G 0 0 2 in0 fl0_36 d0_single_20 rfl rfl (by decide) (v := .int (iZ az)) rfl rfl ?_
          refine j_iconst G d0_single_23 ?_
          refine j_iadd G d0_single_24 ?_
          refine j_put G 0 0 2 in0 tyok0 nm0 fl0_36 d0_single_25 rfl rfl (by decide) ⟨rfl, rfl⟩ rfl rfl (Nat.le_of_ble_eq_true rfl) (e := o0 (some ba) (upS R 2 (az + 1))) rfl ?_
          refine j_iinc G d0_single_28 1 rfl (by decide) rfl ?_
          refine j_iload_n G 1 rfl d0_single_31 ?_
          have mg32 : ∀ x73 : Int, x73 = (if tn ≠ 0 then 0 else 1) → J E 7 Γ (some A) 0 0 [(ra, o0 (some ba) (upS R 2 (az + 1))), (ba, aInt E 100 tb)] 40 [(2, .int (iZ (w + 1))), (3, .int (iZ tn)), (0, .ref ra), (1, .int (iZ dp))] ([.int (iZ x73)]) := by
            intro x73 ex73
            have hxt : x73 = if tn = 0 then 1 else 0 := by rw [ex73]; (repeat' split) <;> omega
            refine j_istore_n G d0_single_40 (by decide) rfl ?_
            refine j_goto (tgt := 4) G d0_single_41 (by decide) ?_
            exact ih4 (w + 1) x73 (az + 1) (by omega) (by first | assumption | omega) (by first | assumption | omega) (by first | assumption | omega) (by have q := nt_s hI hlive hnc (by omega); rw [← hxt] at q; exact q)
          refine j_if_ne (tgt := 39) G d0_single_32 (by decide) htR (fun h74 => ?_) (fun h74 => ?_)
          ·
            refine j_iconst G d0_single_39 ?_
            refine j_eq (ws' := [(ra, o0 (some ba) (upS R 2 (az + 1))), (ba, aInt E 100 tb)]) (ls' := [(2, .int (iZ (w + 1))), (3, .int (iZ tn)), (0, .ref ra), (1, .int (iZ dp))]) rfl rfl rfl ?_
            exact mg32 _ (by first | rfl | (simp only [*, if_true, if_false, ite_true, ite_false]; done) | (split <;> first | rfl | omega | (split <;> first | rfl | omega | (split <;> first | rfl | omega))))
          ·
            refine j_iconst G d0_single_35 ?_
            refine j_goto (tgt := 40) G d0_single_36 (by decide) ?_
            refine j_eq (ws' := [(ra, o0 (some ba) (upS R 2 (az + 1))), (ba, aInt E 100 tb)]) (ls' := [(2, .int (iZ (w + 1))), (3, .int (iZ tn)), (0, .ref ra), (1, .int (iZ dp))]) rfl rfl rfl ?_
            exact mg32 _ (by first | rfl | (simp only [*, if_true, if_false, ite_true, ite_false]; done) | (split <;> first | rfl | omega | (split <;> first | rfl | omega | (split <;> first | rfl | omega))))
  exact lp4 _ dp 0 (R 2) (Nat.lt_succ_self _) (by first | assumption | omega) (by first | assumption | omega) (by first | assumption | omega) (nt_0 hft.1)
theorem d0_both_0 : decode c0_both 0 = .ok (.aload_n 0, 1) := by decide +kernel
theorem d0_both_1 : decode c0_both 1 = .ok (.iload_n 1, 1) := by decide +kernel
theorem d0_both_2 : decode c0_both 2 = .ok (.invokevirtual 115, 3) := by decide +kernel
theorem d0_both_5 : decode c0_both 5 = .ok (.istore_n 2, 1) := by decide +kernel
theorem d0_both_6 : decode c0_both 6 = .ok (.aload_n 0, 1) := by decide +kernel
theorem d0_both_7 : decode c0_both 7 = .ok (.getfield 36, 3) := by decide +kernel
theorem d0_both_10 : decode c0_both 10 = .ok (.aload_n 0, 1) := by decide +kernel
theorem d0_both_11 : decode c0_both 11 = .ok (.getfield 25, 3) := by decide +kernel
theorem d0_both_14 : decode c0_both 14 = .ok (.if_icmp .ge 33, 3) := by decide +kernel
theorem d0_both_17 : decode c0_both 17 = .ok (.aload_n 0, 1) := by decide +kernel
theorem d0_both_18 : decode c0_both 18 = .ok (.invokevirtual 32, 3) := by decide +kernel
theorem d0_both_21 : decode c0_both 21 = .ok (.bipush 38, 2) := by decide +kernel
theorem d0_both_23 : decode c0_both 23 = .ok (.if_icmp .ne 24, 3) := by decide +kernel
theorem d0_both_26 : decode c0_both 26 = .ok (.aload_n 0, 1) := by decide +kernel
theorem d0_both_27 : decode c0_both 27 = .ok (.dup, 1) := by decide +kernel
theorem d0_both_28 : decode c0_both 28 = .ok (.getfield 36, 3) := by decide +kernel
theorem d0_both_31 : decode c0_both 31 = .ok (.iconst 1, 1) := by decide +kernel
theorem d0_both_32 : decode c0_both 32 = .ok (.iadd, 1) := by decide +kernel
theorem d0_both_33 : decode c0_both 33 = .ok (.putfield 36, 3) := by decide +kernel
theorem d0_both_36 : decode c0_both 36 = .ok (.iload_n 2, 1) := by decide +kernel
theorem d0_both_37 : decode c0_both 37 = .ok (.aload_n 0, 1) := by decide +kernel
theorem d0_both_38 : decode c0_both 38 = .ok (.iload_n 1, 1) := by decide +kernel
theorem d0_both_39 : decode c0_both 39 = .ok (.invokevirtual 115, 3) := by decide +kernel
theorem d0_both_42 : decode c0_both 42 = .ok (.iand, 1) := by decide +kernel
theorem d0_both_43 : decode c0_both 43 = .ok (.istore_n 2, 1) := by decide +kernel
theorem d0_both_44 : decode c0_both 44 = .ok (.goto (-38), 3) := by decide +kernel
theorem d0_both_47 : decode c0_both 47 = .ok (.iload_n 2, 1) := by decide +kernel
theorem d0_both_48 : decode c0_both 48 = .ok (.ireturn, 1) := by decide +kernel
theorem mw0_both : MV y0_both c0_both 3 (some .int) 1 := ⟨cd0_both, ini0, na0_both, im0_both, se0_both⟩
set_option maxHeartbeats 4000000 in
set_option maxRecDepth 100000 in
theorem k0_both_4 (l : Launch) (E : En) (ra : Nat) (ba : Nat) (R : Nat → Int) (tb : Int → Int) (U : Int → Int) (dp : Int) (htb : ∀ j, 0 ≤ j → j < 100 → tb j = U j % 256 ∧ -128 ≤ U j ∧ U j ≤ 127) (hln : 0 ≤ R 1 ∧ R 1 ≤ 100) (hat : 0 ≤ R 2 ∧ R 2 ≤ R 1) (hft : -1 ≤ R 3 ∧ R 3 ≤ 200) (hdp : 4 ≤ dp ∧ dp ≤ 4) : Cm l E y0_both c0_both 3 (some .int) { frames := 3, cells := 0, slots := 0, locals := 70 } [.ref ra, .int (iZ dp)] [(ra, o0 (some ba) R), (ba, aInt E 100 tb)] (fun r ws => ∃ (v : Int), ∃ (at1 : Int), ∃ (ft1 : Int), r = some (.int (iZ v)) ∧ ws = [(ra, o0 (some ba) (upS (upS R 2 at1) 3 ft1)), (ba, aInt E 100 tb)] ∧ (ExS U (R 1) 2 dp (R 2) (R 3) at1 ft1 v ∧ (R 2 ≤ at1 ∧ at1 ≤ R 1) ∧ (-1 ≤ ft1 ∧ ft1 ≤ 200))) := by
  refine Cm.of (by decide +kernel) (Nat.le_of_ble_eq_true rfl) (fun Γ A hl hargs hin G F => ?_)
  subst hl
  refine j_aload_n G 0 rfl d0_both_0 ?_
  refine j_iload_n G 1 rfl d0_both_1 ?_
  refine j_VM G (rm' := { frames := 2, cells := 0, slots := 0, locals := 44 }) (wc := [(ra, o0 (some ba) R), (ba, aInt E 100 tb)]) (wr := []) (k0_single_4 (xl Γ) E ra ba R tb U dp (by first | assumption | omega | (simp only [upS, reduceIte, Nat.reduceEqDiff, eq_self, List.length_cons, List.length_nil, List.length_append] <;> omega)) (by first | assumption | omega | (simp only [upS, reduceIte, Nat.reduceEqDiff, eq_self, List.length_cons, List.length_nil, List.length_append] <;> omega)) (by first | assumption | omega | (simp only [upS, reduceIte, Nat.reduceEqDiff, eq_self, List.length_cons, List.length_nil, List.length_append] <;> omega)) (by first | assumption | omega | (simp only [upS, reduceIte, Nat.reduceEqDiff, eq_self, List.length_cons, List.length_nil, List.length_append] <;> omega)) (by first | assumption | omega | (simp only [upS, reduceIte, Nat.reduceEqDiff, eq_self, List.length_cons, List.length_nil, List.length_append] <;> omega))) mw0_single ml0_115 [0, 1] [] rfl rfl ⟨rfl, rfl⟩ (by decide) 0 0 rfl rfl rfl ⟨Nat.le_of_ble_eq_true rfl, Nat.le_of_ble_eq_true rfl⟩ rfl (rest := []) rfl (Nat.le_of_ble_eq_true rfl) d0_both_2 ⟨Nat.le_of_ble_eq_true rfl, Nat.le_of_ble_eq_true rfl⟩ (fun r w1 hr => ?_)
  obtain ⟨v2, at1_3, ft1_4, rfl, rfl, ⟨hq1_0, hq1_1, hq1_2⟩⟩ := hr
  refine j_eq (ws' := [(ra, o0 (some ba) (upS (upS R 2 at1_3) 3 ft1_4)), (ba, aInt E 100 tb)]) rfl rfl rfl ?_
  have he0 := hq1_0
  have hr0 := hq1_1
  have hx0 := hq1_2
  refine j_istore_n G d0_both_5 (by decide) rfl ?_
  have lp6 : ∀ (fu : Nat) (m : Int) (az : Int) (f : Int), (R 1 - az).toNat < fu → (R 2 ≤ az ∧ az ≤ R 1) → (-1 ≤ f ∧ f ≤ 200) → (LpS U (R 1) 2 dp (R 2) (R 3) az f m) →  J E 3 Γ (some A) 0 0 [(ra, o0 (some ba) (upS (upS R 2 az) 3 f)), (ba, aInt E 100 tb)] 6 [(2, .int (iZ m)), (0, .ref ra), (1, .int (iZ dp))] [] := by
    intro fu
    induction fu with
    | zero =>
      intro m az f hm
      exact absurd hm (Nat.not_lt_zero _)
    | succ fu ih6 =>
      intro m az f hm haz hf hI
      refine j_aload_n G 1 rfl d0_both_6 ?_
      refine j_get G 0 0 2 in0 fl0_36 d0_both_7 rfl rfl (by decide) (v := .int (iZ az)) rfl rfl ?_
      refine j_aload_n G 1 rfl d0_both_10 ?_
      refine j_get G 0 0 1 in0 fl0_25 d0_both_11 rfl rfl (by decide) (v := .int (iZ (R 1))) rfl rfl ?_
      refine j_icmp_ge (tgt := 47) G d0_both_14 (by decide) (by omega) (by omega) (fun h5 => ?_) (fun h5 => ?_)
      ·
        have hend := lp_e hI (fun q => ⟨fun _ => by first | (refine fun z => absurd ((hpC 38 (by decide) (by decide)).2 ⟨q, z⟩) ?_; omega) | (unfold nx; rw [if_neg (by omega)]; decide), fun e => absurd e (by decide)⟩) (by decide)
        refine j_iload_n G 0 rfl d0_both_47 ?_
        exact j_iret G F d0_both_48 ⟨m, az, f, rfl, rfl, (by exact ⟨hend, by omega, by omega⟩)⟩
      ·
        refine j_aload_n G 1 rfl d0_both_17 ?_
        refine j_VP G (k0_peek (xl Γ) E ra ba (upS (upS R 2 az) 3 f) tb U (by first | assumption | omega | (simp only [upS, reduceIte, Nat.reduceEqDiff, eq_self, List.length_cons, List.length_nil, List.length_append] <;> omega)) (by first | assumption | omega | (simp only [upS, reduceIte, Nat.reduceEqDiff, eq_self, List.length_cons, List.length_nil, List.length_append] <;> omega)) (by first | assumption | omega | (simp only [upS, reduceIte, Nat.reduceEqDiff, eq_self, List.length_cons, List.length_nil, List.length_append] <;> omega)) (by first | assumption | omega | (simp only [upS, reduceIte, Nat.reduceEqDiff, eq_self, List.length_cons, List.length_nil, List.length_append] <;> omega))) mw0_peek ml0_32 [0, 1] rfl 0 0 rfl rfl rfl ⟨Nat.le_of_ble_eq_true rfl, Nat.le_of_ble_eq_true rfl⟩ rfl (rest := []) rfl (Nat.le_of_ble_eq_true rfl) d0_both_18 ⟨Nat.le_of_ble_eq_true rfl, Nat.le_of_ble_eq_true rfl⟩ (fun r hr => ?_)
        obtain ⟨v7, rfl, ⟨hq6_0, hq6_1, hq6_2, hq6_3, hq6_4⟩⟩ := hr
        try simp only [upS, reduceIte, Nat.reduceEqDiff, eq_self] at hq6_0 hq6_1 hq6_2 hq6_3 hq6_4
        have hpC := pk_of hq6_0 hq6_1 hq6_2
        have hp2 := hq6_2
        clear hq6_0 hq6_1 hq6_3 hq6_4
        refine j_bipush G d0_both_21 rfl ?_
        refine j_icmp_ne (tgt := 47) G d0_both_23 (by decide) (r32_pk hp2) (by decide) (fun h8 => ?_) (fun h8 => ?_)
        ·
          have hend := lp_e hI (fun q => ⟨fun _ => by first | (refine fun z => absurd ((hpC 38 (by decide) (by decide)).2 ⟨q, z⟩) ?_; omega) | (unfold nx; rw [if_neg (by omega)]; decide), fun e => absurd e (by decide)⟩) (by decide)
          refine j_iload_n G 0 rfl d0_both_47 ?_
          exact j_iret G F d0_both_48 ⟨m, az, f, rfl, rfl, (by exact ⟨hend, by omega, by omega⟩)⟩
        ·
          have hlive : f < 0 := ((hpC 38 (by decide) (by decide)).1 (by omega)).1
          have hnc : nx U (R 1) az = 38 := ((hpC 38 (by decide) (by decide)).1 (by omega)).2
          refine j_aload_n G 1 rfl d0_both_26 ?_
          refine j_dup G d0_both_27 rfl ?_
          refine j_get G 0 0 2 in0 fl0_36 d0_both_28 rfl rfl (by decide) (v := .int (iZ az)) rfl rfl ?_
          refine j_iconst G d0_both_31 ?_
          refine j_iadd G d0_both_32 ?_
          refine j_put G 0 0 2 in0 tyok0 nm0 fl0_36 d0_both_33 rfl rfl (by decide) ⟨rfl, rfl⟩ rfl rfl (Nat.le_of_ble_eq_true rfl) (e := o0 (some ba) (upS (upS R 3 f) 2 (az + 1))) rfl ?_
          refine j_iload_n G 0 rfl d0_both_36 ?_
          refine j_aload_n G 1 rfl d0_both_37 ?_
          refine j_iload_n G 2 rfl d0_both_38 ?_
          refine j_VM G (rm' := { frames := 2, cells := 0, slots := 0, locals := 44 }) (wc := [(ra, o0 (some ba) (upS (upS R 3 f) 2 (az + 1))), (ba, aInt E 100 tb)]) (wr := []) (k0_single_4 (xl Γ) E ra ba (upS (upS R 3 f) 2 (az + 1)) tb U dp (by first | assumption | omega | (simp only [upS, reduceIte, Nat.reduceEqDiff, eq_self, List.length_cons, List.length_nil, List.length_append] <;> omega)) (by first | assumption | omega | (simp only [upS, reduceIte, Nat.reduceEqDiff, eq_self, List.length_cons, List.length_nil, List.length_append] <;> omega)) (by first | assumption | omega | (simp only [upS, reduceIte, Nat.reduceEqDiff, eq_self, List.length_cons, List.length_nil, List.length_append] <;> omega)) (by first | assumption | omega | (simp only [upS, reduceIte, Nat.reduceEqDiff, eq_self, List.length_cons, List.length_nil, List.length_append] <;> omega)) (by first | assumption | omega | (simp only [upS, reduceIte, Nat.reduceEqDiff, eq_self, List.length_cons, List.length_nil, List.length_append] <;> omega))) mw0_single ml0_115 [0, 1] [] rfl rfl ⟨rfl, rfl⟩ (by decide) 0 0 rfl rfl rfl ⟨Nat.le_of_ble_eq_true rfl, Nat.le_of_ble_eq_true rfl⟩ rfl (rest := [.int (iZ m)]) rfl (Nat.le_of_ble_eq_true rfl) d0_both_39 ⟨Nat.le_of_ble_eq_true rfl, Nat.le_of_ble_eq_true rfl⟩ (fun r w1 hr => ?_)
          obtain ⟨v10, at1_11, ft1_12, rfl, rfl, ⟨hq9_0, hq9_1, hq9_2⟩⟩ := hr
          refine j_eq (ws' := [(ra, o0 (some ba) (upS (upS R 2 at1_11) 3 ft1_12)), (ba, aInt E 100 tb)]) rfl rfl rfl ?_
          try simp only [upS, reduceIte, Nat.reduceEqDiff, eq_self] at hq9_0 hq9_1 hq9_2
          have he1 := hq9_0
          have hr1 := hq9_1
          have hx1 := hq9_2
          refine r_iand G d0_both_42 ?_
          refine j_top (y := iZ (((iZ m) &&& (iZ v10)).toInt)) (iZ_of _).symm ?_
          refine j_istore_n G d0_both_43 (by decide) rfl ?_
          refine j_goto (tgt := 6) G d0_both_44 (by decide) ?_
          exact ih6 (((iZ m) &&& (iZ v10)).toInt) at1_11 ft1_12 (by omega) (by first | assumption | omega) (by first | assumption | omega) (lp_and hI hlive hnc he1)
  exact lp6 _ v2 at1_3 ft1_4 (Nat.lt_succ_self _) (by first | assumption | omega) (by first | assumption | omega) (lp_0 (by decide) he0)
theorem d0_either_0 : decode c0_either 0 = .ok (.aload_n 0, 1) := by decide +kernel
theorem d0_either_1 : decode c0_either 1 = .ok (.iload_n 1, 1) := by decide +kernel
theorem d0_either_2 : decode c0_either 2 = .ok (.invokevirtual 112, 3) := by decide +kernel
theorem d0_either_5 : decode c0_either 5 = .ok (.istore_n 2, 1) := by decide +kernel
theorem d0_either_6 : decode c0_either 6 = .ok (.aload_n 0, 1) := by decide +kernel
theorem d0_either_7 : decode c0_either 7 = .ok (.getfield 36, 3) := by decide +kernel
theorem d0_either_10 : decode c0_either 10 = .ok (.aload_n 0, 1) := by decide +kernel
theorem d0_either_11 : decode c0_either 11 = .ok (.getfield 25, 3) := by decide +kernel
theorem d0_either_14 : decode c0_either 14 = .ok (.if_icmp .ge 33, 3) := by decide +kernel
theorem d0_either_17 : decode c0_either 17 = .ok (.aload_n 0, 1) := by decide +kernel
theorem d0_either_18 : decode c0_either 18 = .ok (.invokevirtual 32, 3) := by decide +kernel
theorem d0_either_21 : decode c0_either 21 = .ok (.bipush 124, 2) := by decide +kernel
theorem d0_either_23 : decode c0_either 23 = .ok (.if_icmp .ne 24, 3) := by decide +kernel
theorem d0_either_26 : decode c0_either 26 = .ok (.aload_n 0, 1) := by decide +kernel
theorem d0_either_27 : decode c0_either 27 = .ok (.dup, 1) := by decide +kernel
theorem d0_either_28 : decode c0_either 28 = .ok (.getfield 36, 3) := by decide +kernel
theorem d0_either_31 : decode c0_either 31 = .ok (.iconst 1, 1) := by decide +kernel
theorem d0_either_32 : decode c0_either 32 = .ok (.iadd, 1) := by decide +kernel
theorem d0_either_33 : decode c0_either 33 = .ok (.putfield 36, 3) := by decide +kernel
theorem d0_either_36 : decode c0_either 36 = .ok (.iload_n 2, 1) := by decide +kernel
theorem d0_either_37 : decode c0_either 37 = .ok (.aload_n 0, 1) := by decide +kernel
theorem d0_either_38 : decode c0_either 38 = .ok (.iload_n 1, 1) := by decide +kernel
theorem d0_either_39 : decode c0_either 39 = .ok (.invokevirtual 112, 3) := by decide +kernel
theorem d0_either_42 : decode c0_either 42 = .ok (.ior, 1) := by decide +kernel
theorem d0_either_43 : decode c0_either 43 = .ok (.istore_n 2, 1) := by decide +kernel
theorem d0_either_44 : decode c0_either 44 = .ok (.goto (-38), 3) := by decide +kernel
theorem d0_either_47 : decode c0_either 47 = .ok (.iload_n 2, 1) := by decide +kernel
theorem d0_either_48 : decode c0_either 48 = .ok (.ireturn, 1) := by decide +kernel
theorem mw0_either : MV y0_either c0_either 3 (some .int) 1 := ⟨cd0_either, ini0, na0_either, im0_either, se0_either⟩
set_option maxHeartbeats 4000000 in
set_option maxRecDepth 100000 in
theorem k0_either_4 (l : Launch) (E : En) (ra : Nat) (ba : Nat) (R : Nat → Int) (tb : Int → Int) (U : Int → Int) (dp : Int) (htb : ∀ j, 0 ≤ j → j < 100 → tb j = U j % 256 ∧ -128 ≤ U j ∧ U j ≤ 127) (hln : 0 ≤ R 1 ∧ R 1 ≤ 100) (hat : 0 ≤ R 2 ∧ R 2 ≤ R 1) (hft : -1 ≤ R 3 ∧ R 3 ≤ 200) (hdp : 4 ≤ dp ∧ dp ≤ 4) : Cm l E y0_either c0_either 3 (some .int) { frames := 4, cells := 0, slots := 0, locals := 92 } [.ref ra, .int (iZ dp)] [(ra, o0 (some ba) R), (ba, aInt E 100 tb)] (fun r ws => ∃ (v : Int), ∃ (at1 : Int), ∃ (ft1 : Int), r = some (.int (iZ v)) ∧ ws = [(ra, o0 (some ba) (upS (upS R 2 at1) 3 ft1)), (ba, aInt E 100 tb)] ∧ (ExS U (R 1) 3 dp (R 2) (R 3) at1 ft1 v ∧ (R 2 ≤ at1 ∧ at1 ≤ R 1) ∧ (-1 ≤ ft1 ∧ ft1 ≤ 200))) := by
  refine Cm.of (by decide +kernel) (Nat.le_of_ble_eq_true rfl) (fun Γ A hl hargs hin G F => ?_)
  subst hl
  refine j_aload_n G 0 rfl d0_either_0 ?_
  refine j_iload_n G 1 rfl d0_either_1 ?_
  refine j_VM G (rm' := { frames := 3, cells := 0, slots := 0, locals := 70 }) (wc := [(ra, o0 (some ba) R), (ba, aInt E 100 tb)]) (wr := []) (k0_both_4 (xl Γ) E ra ba R tb U dp (by first | assumption | omega | (simp only [upS, reduceIte, Nat.reduceEqDiff, eq_self, List.length_cons, List.length_nil, List.length_append] <;> omega)) (by first | assumption | omega | (simp only [upS, reduceIte, Nat.reduceEqDiff, eq_self, List.length_cons, List.length_nil, List.length_append] <;> omega)) (by first | assumption | omega | (simp only [upS, reduceIte, Nat.reduceEqDiff, eq_self, List.length_cons, List.length_nil, List.length_append] <;> omega)) (by first | assumption | omega | (simp only [upS, reduceIte, Nat.reduceEqDiff, eq_self, List.length_cons, List.length_nil, List.length_append] <;> omega)) (by first | assumption | omega | (simp only [upS, reduceIte, Nat.reduceEqDiff, eq_self, List.length_cons, List.length_nil, List.length_append] <;> omega))) mw0_both ml0_112 [0, 1] [] rfl rfl ⟨rfl, rfl⟩ (by decide) 0 0 rfl rfl rfl ⟨Nat.le_of_ble_eq_true rfl, Nat.le_of_ble_eq_true rfl⟩ rfl (rest := []) rfl (Nat.le_of_ble_eq_true rfl) d0_either_2 ⟨Nat.le_of_ble_eq_true rfl, Nat.le_of_ble_eq_true rfl⟩ (fun r w1 hr => ?_)
  obtain ⟨v2, at1_3, ft1_4, rfl, rfl, ⟨hq1_0, hq1_1, hq1_2⟩⟩ := hr
  refine j_eq (ws' := [(ra, o0 (some ba) (upS (upS R 2 at1_3) 3 ft1_4)), (ba, aInt E 100 tb)]) rfl rfl rfl ?_
  have he0 := hq1_0
  have hr0 := hq1_1
  have hx0 := hq1_2
  refine j_istore_n G d0_either_5 (by decide) rfl ?_
  have lp6 : ∀ (fu : Nat) (m : Int) (az : Int) (f : Int), (R 1 - az).toNat < fu → (R 2 ≤ az ∧ az ≤ R 1) → (-1 ≤ f ∧ f ≤ 200) → (LpS U (R 1) 3 dp (R 2) (R 3) az f m) →  J E 3 Γ (some A) 0 0 [(ra, o0 (some ba) (upS (upS R 2 az) 3 f)), (ba, aInt E 100 tb)] 6 [(2, .int (iZ m)), (0, .ref ra), (1, .int (iZ dp))] [] := by
    intro fu
    induction fu with
    | zero =>
      intro m az f hm
      exact absurd hm (Nat.not_lt_zero _)
    | succ fu ih6 =>
      intro m az f hm haz hf hI
      refine j_aload_n G 1 rfl d0_either_6 ?_
      refine j_get G 0 0 2 in0 fl0_36 d0_either_7 rfl rfl (by decide) (v := .int (iZ az)) rfl rfl ?_
      refine j_aload_n G 1 rfl d0_either_10 ?_
      refine j_get G 0 0 1 in0 fl0_25 d0_either_11 rfl rfl (by decide) (v := .int (iZ (R 1))) rfl rfl ?_
      refine j_icmp_ge (tgt := 47) G d0_either_14 (by decide) (by omega) (by omega) (fun h5 => ?_) (fun h5 => ?_)
      ·
        have hend := lp_e hI (fun q => ⟨fun e => absurd e (by decide), fun _ => by first | (refine fun z => absurd ((hpC 124 (by decide) (by decide)).2 ⟨q, z⟩) ?_; omega) | (unfold nx; rw [if_neg (by omega)]; decide)⟩) (by decide)
        refine j_iload_n G 0 rfl d0_either_47 ?_
        exact j_iret G F d0_either_48 ⟨m, az, f, rfl, rfl, (by exact ⟨hend, by omega, by omega⟩)⟩
      ·
        refine j_aload_n G 1 rfl d0_either_17 ?_
        refine j_VP G (k0_peek (xl Γ) E ra ba (upS (upS R 2 az) 3 f) tb U (by first | assumption | omega | (simp only [upS, reduceIte, Nat.reduceEqDiff, eq_self, List.length_cons, List.length_nil, List.length_append] <;> omega)) (by first | assumption | omega | (simp only [upS, reduceIte, Nat.reduceEqDiff, eq_self, List.length_cons, List.length_nil, List.length_append] <;> omega)) (by first | assumption | omega | (simp only [upS, reduceIte, Nat.reduceEqDiff, eq_self, List.length_cons, List.length_nil, List.length_append] <;> omega)) (by first | assumption | omega | (simp only [upS, reduceIte, Nat.reduceEqDiff, eq_self, List.length_cons, List.length_nil, List.length_append] <;> omega))) mw0_peek ml0_32 [0, 1] rfl 0 0 rfl rfl rfl ⟨Nat.le_of_ble_eq_true rfl, Nat.le_of_ble_eq_true rfl⟩ rfl (rest := []) rfl (Nat.le_of_ble_eq_true rfl) d0_either_18 ⟨Nat.le_of_ble_eq_true rfl, Nat.le_of_ble_eq_true rfl⟩ (fun r hr => ?_)
        obtain ⟨v7, rfl, ⟨hq6_0, hq6_1, hq6_2, hq6_3, hq6_4⟩⟩ := hr
        try simp only [upS, reduceIte, Nat.reduceEqDiff, eq_self] at hq6_0 hq6_1 hq6_2 hq6_3 hq6_4
        have hpC := pk_of hq6_0 hq6_1 hq6_2
        have hp2 := hq6_2
        clear hq6_0 hq6_1 hq6_3 hq6_4
        refine j_bipush G d0_either_21 rfl ?_
        refine j_icmp_ne (tgt := 47) G d0_either_23 (by decide) (r32_pk hp2) (by decide) (fun h8 => ?_) (fun h8 => ?_)
        ·
          have hend := lp_e hI (fun q => ⟨fun e => absurd e (by decide), fun _ => by first | (refine fun z => absurd ((hpC 124 (by decide) (by decide)).2 ⟨q, z⟩) ?_; omega) | (unfold nx; rw [if_neg (by omega)]; decide)⟩) (by decide)
          refine j_iload_n G 0 rfl d0_either_47 ?_
          exact j_iret G F d0_either_48 ⟨m, az, f, rfl, rfl, (by exact ⟨hend, by omega, by omega⟩)⟩
        ·
          have hlive : f < 0 := ((hpC 124 (by decide) (by decide)).1 (by omega)).1
          have hnc : nx U (R 1) az = 124 := ((hpC 124 (by decide) (by decide)).1 (by omega)).2
          refine j_aload_n G 1 rfl d0_either_26 ?_
          refine j_dup G d0_either_27 rfl ?_
          refine j_get G 0 0 2 in0 fl0_36 d0_either_28 rfl rfl (by decide) (v := .int (iZ az)) rfl rfl ?_
          refine j_iconst G d0_either_31 ?_
          refine j_iadd G d0_either_32 ?_
          refine j_put G 0 0 2 in0 tyok0 nm0 fl0_36 d0_either_33 rfl rfl (by decide) ⟨rfl, rfl⟩ rfl rfl (Nat.le_of_ble_eq_true rfl) (e := o0 (some ba) (upS (upS R 3 f) 2 (az + 1))) rfl ?_
          refine j_iload_n G 0 rfl d0_either_36 ?_
          refine j_aload_n G 1 rfl d0_either_37 ?_
          refine j_iload_n G 2 rfl d0_either_38 ?_
          refine j_VM G (rm' := { frames := 3, cells := 0, slots := 0, locals := 70 }) (wc := [(ra, o0 (some ba) (upS (upS R 3 f) 2 (az + 1))), (ba, aInt E 100 tb)]) (wr := []) (k0_both_4 (xl Γ) E ra ba (upS (upS R 3 f) 2 (az + 1)) tb U dp (by first | assumption | omega | (simp only [upS, reduceIte, Nat.reduceEqDiff, eq_self, List.length_cons, List.length_nil, List.length_append] <;> omega)) (by first | assumption | omega | (simp only [upS, reduceIte, Nat.reduceEqDiff, eq_self, List.length_cons, List.length_nil, List.length_append] <;> omega)) (by first | assumption | omega | (simp only [upS, reduceIte, Nat.reduceEqDiff, eq_self, List.length_cons, List.length_nil, List.length_append] <;> omega)) (by first | assumption | omega | (simp only [upS, reduceIte, Nat.reduceEqDiff, eq_self, List.length_cons, List.length_nil, List.length_append] <;> omega)) (by first | assumption | omega | (simp only [upS, reduceIte, Nat.reduceEqDiff, eq_self, List.length_cons, List.length_nil, List.length_append] <;> omega))) mw0_both ml0_112 [0, 1] [] rfl rfl ⟨rfl, rfl⟩ (by decide) 0 0 rfl rfl rfl ⟨Nat.le_of_ble_eq_true rfl, Nat.le_of_ble_eq_true rfl⟩ rfl (rest := [.int (iZ m)]) rfl (Nat.le_of_ble_eq_true rfl) d0_either_39 ⟨Nat.le_of_ble_eq_true rfl, Nat.le_of_ble_eq_true rfl⟩ (fun r w1 hr => ?_)
          obtain ⟨v10, at1_11, ft1_12, rfl, rfl, ⟨hq9_0, hq9_1, hq9_2⟩⟩ := hr
          refine j_eq (ws' := [(ra, o0 (some ba) (upS (upS R 2 at1_11) 3 ft1_12)), (ba, aInt E 100 tb)]) rfl rfl rfl ?_
          try simp only [upS, reduceIte, Nat.reduceEqDiff, eq_self] at hq9_0 hq9_1 hq9_2
          have he1 := hq9_0
          have hr1 := hq9_1
          have hx1 := hq9_2
          refine r_ior G d0_either_42 ?_
          refine j_top (y := iZ (((iZ m) ||| (iZ v10)).toInt)) (iZ_of _).symm ?_
          refine j_istore_n G d0_either_43 (by decide) rfl ?_
          refine j_goto (tgt := 6) G d0_either_44 (by decide) ?_
          exact ih6 (((iZ m) ||| (iZ v10)).toInt) at1_11 ft1_12 (by omega) (by first | assumption | omega) (by first | assumption | omega) (lp_or hI hlive hnc he1)
  exact lp6 _ v2 at1_3 ft1_4 (Nat.lt_succ_self _) (by first | assumption | omega) (by first | assumption | omega) (lp_0 (by decide) he0)
theorem d0_single_58 : decode c0_single 58 = .ok (.aload_n 0, 1) := by decide +kernel
theorem d0_single_59 : decode c0_single 59 = .ok (.dup, 1) := by decide +kernel
theorem d0_single_60 : decode c0_single 60 = .ok (.getfield 36, 3) := by decide +kernel
theorem d0_single_63 : decode c0_single 63 = .ok (.iconst 1, 1) := by decide +kernel
theorem d0_single_64 : decode c0_single 64 = .ok (.iadd, 1) := by decide +kernel
theorem d0_single_65 : decode c0_single 65 = .ok (.putfield 36, 3) := by decide +kernel
theorem d0_single_68 : decode c0_single 68 = .ok (.aload_n 0, 1) := by decide +kernel
theorem d0_single_69 : decode c0_single 69 = .ok (.iload_n 2, 1) := by decide +kernel
theorem d0_single_70 : decode c0_single 70 = .ok (.iconst 1, 1) := by decide +kernel
theorem d0_single_71 : decode c0_single 71 = .ok (.iadd, 1) := by decide +kernel
theorem d0_single_72 : decode c0_single 72 = .ok (.invokevirtual 68, 3) := by decide +kernel
theorem d0_single_75 : decode c0_single 75 = .ok (.istore 4, 2) := by decide +kernel
theorem d0_single_77 : decode c0_single 77 = .ok (.aload_n 0, 1) := by decide +kernel
theorem d0_single_78 : decode c0_single 78 = .ok (.bipush 41, 2) := by decide +kernel
theorem d0_single_80 : decode c0_single 80 = .ok (.bipush 41, 2) := by decide +kernel
theorem d0_single_82 : decode c0_single 82 = .ok (.bipush 41, 2) := by decide +kernel
theorem d0_single_84 : decode c0_single 84 = .ok (.invokevirtual 54, 3) := by decide +kernel
theorem d0_single_87 : decode c0_single 87 = .ok (.pop, 1) := by decide +kernel
theorem d0_single_88 : decode c0_single 88 = .ok (.goto 41, 3) := by decide +kernel
set_option maxHeartbeats 4000000 in
set_option maxRecDepth 100000 in
theorem k0_single_3 (l : Launch) (E : En) (ra : Nat) (ba : Nat) (R : Nat → Int) (tb : Int → Int) (U : Int → Int) (dp : Int) (htb : ∀ j, 0 ≤ j → j < 100 → tb j = U j % 256 ∧ -128 ≤ U j ∧ U j ≤ 127) (hln : 0 ≤ R 1 ∧ R 1 ≤ 100) (hat : 0 ≤ R 2 ∧ R 2 ≤ R 1) (hft : -1 ≤ R 3 ∧ R 3 ≤ 200) (hdp : 3 ≤ dp ∧ dp ≤ 4) : Cm l E y0_single c0_single 7 (some .int) { frames := 5, cells := 0, slots := 0, locals := 114 } [.ref ra, .int (iZ dp)] [(ra, o0 (some ba) R), (ba, aInt E 100 tb)] (fun r ws => ∃ (v : Int), ∃ (at1 : Int), ∃ (ft1 : Int), r = some (.int (iZ v)) ∧ ws = [(ra, o0 (some ba) (upS (upS R 2 at1) 3 ft1)), (ba, aInt E 100 tb)] ∧ (ExS U (R 1) 1 dp (R 2) (R 3) at1 ft1 v ∧ (R 2 ≤ at1 ∧ at1 ≤ R 1) ∧ (-1 ≤ ft1 ∧ ft1 ≤ 200))) := by
  refine Cm.of (by decide +kernel) (Nat.le_of_ble_eq_true rfl) (fun Γ A hl hargs hin G F => ?_)
  subst hl
  refine j_iload_n G 1 rfl d0_single_0 ?_
  refine j_istore_n G d0_single_1 (by decide) rfl ?_
  refine j_iconst G d0_single_2 ?_
  refine j_istore_n G d0_single_3 (by decide) rfl ?_
  refine j_eq (ws' := [(ra, o0 (some ba) (upS R 2 (R 2))), (ba, aInt E 100 tb)]) rfl rfl rfl ?_
  have lp4 : ∀ (fu : Nat) (w : Int) (tn : Int) (az : Int), (4 - w).toNat < fu → (dp ≤ w ∧ w ≤ 4) → (tn = 0 ∨ tn = 1) → (R 2 ≤ az ∧ az ≤ R 1) → (NtI U (R 1) dp (R 2) (R 3) w tn az) →  J E 7 Γ (some A) 0 0 [(ra, o0 (some ba) (upS R 2 az)), (ba, aInt E 100 tb)] 4 [(3, .int (iZ tn)), (2, .int (iZ w)), (0, .ref ra), (1, .int (iZ dp))] [] := by
    intro fu
    induction fu with
    | zero =>
      intro w tn az hm
      exact absurd hm (Nat.not_lt_zero _)
    | succ fu ih4 =>
      intro w tn az hm hw htn haz hI
      have hwR : R32 w := ⟨by omega, by omega⟩
      have htR : R32 tn := ⟨by omega, by omega⟩
      refine j_aload_n G 2 rfl d0_single_4 ?_
      refine j_VP G (k0_peek (xl Γ) E ra ba (upS R 2 az) tb U (by first | assumption | omega | (simp only [upS, reduceIte, Nat.reduceEqDiff, eq_self, List.length_cons, List.length_nil, List.length_append] <;> omega)) (by first | assumption | omega | (simp only [upS, reduceIte, Nat.reduceEqDiff, eq_self, List.length_cons, List.length_nil, List.length_append] <;> omega)) (by first | assumption | omega | (simp only [upS, reduceIte, Nat.reduceEqDiff, eq_self, List.length_cons, List.length_nil, List.length_append] <;> omega)) (by first | assumption | omega | (simp only [upS, reduceIte, Nat.reduceEqDiff, eq_self, List.length_cons, List.length_nil, List.length_append] <;> omega))) mw0_peek ml0_32 [0, 1] rfl 0 0 rfl rfl rfl ⟨Nat.le_of_ble_eq_true rfl, Nat.le_of_ble_eq_true rfl⟩ rfl (rest := []) rfl (Nat.le_of_ble_eq_true rfl) d0_single_5 ⟨Nat.le_of_ble_eq_true rfl, Nat.le_of_ble_eq_true rfl⟩ (fun r hr => ?_)
      obtain ⟨v2, rfl, ⟨hq1_0, hq1_1, hq1_2, hq1_3, hq1_4⟩⟩ := hr
      try simp only [upS, reduceIte, Nat.reduceEqDiff, eq_self] at hq1_0 hq1_1 hq1_2 hq1_3 hq1_4
      have hpC := pk_of hq1_0 hq1_1 hq1_2
      have hp2 := hq1_2
      have hp3 := hq1_3
      clear hq1_0 hq1_1 hq1_3 hq1_4
      refine j_bipush G d0_single_8 rfl ?_
      refine j_icmp_ne (tgt := 44) G d0_single_10 (by decide) (r32_pk hp2) (by decide) (fun h3 => ?_) (fun h3 => ?_)
      ·
        refine j_aload_n G 2 rfl d0_single_44 ?_
        refine j_VP G (k0_peek (xl Γ) E ra ba (upS R 2 az) tb U (by first | assumption | omega | (simp only [upS, reduceIte, Nat.reduceEqDiff, eq_self, List.length_cons, List.length_nil, List.length_append] <;> omega)) (by first | assumption | omega | (simp only [upS, reduceIte, Nat.reduceEqDiff, eq_self, List.length_cons, List.length_nil, List.length_append] <;> omega)) (by first | assumption | omega | (simp only [upS, reduceIte, Nat.reduceEqDiff, eq_self, List.length_cons, List.length_nil, List.length_append] <;> omega)) (by first | assumption | omega | (simp only [upS, reduceIte, Nat.reduceEqDiff, eq_self, List.length_cons, List.length_nil, List.length_append] <;> omega))) mw0_peek ml0_32 [0, 1] rfl 0 0 rfl rfl rfl ⟨Nat.le_of_ble_eq_true rfl, Nat.le_of_ble_eq_true rfl⟩ rfl (rest := []) rfl (Nat.le_of_ble_eq_true rfl) d0_single_45 ⟨Nat.le_of_ble_eq_true rfl, Nat.le_of_ble_eq_true rfl⟩ (fun r hr => ?_)
        obtain ⟨v5, rfl, ⟨hq4_0, hq4_1, hq4_2, hq4_3, hq4_4⟩⟩ := hr
        try simp only [upS, reduceIte, Nat.reduceEqDiff, eq_self] at hq4_0 hq4_1 hq4_2 hq4_3 hq4_4
        have hgC := pk_of hq4_0 hq4_1 hq4_2
        have hg2 := hq4_2
        have hg3 := hq4_3
        clear hq4_0 hq4_1 hq4_3 hq4_4
        refine j_bipush G d0_single_48 rfl ?_
        refine j_icmp_ne (tgt := 91) G d0_single_50 (by decide) (r32_pk hg2) (by decide) (fun h6 => ?_) (fun h6 => ?_)
        ·
          have h33 : R 3 < 0 → nx U (R 1) az = 33 → 4 ≤ w := fun q1 q2 => by have z := (hpC 33 (by decide) (by decide)).2 ⟨q1, q2⟩; omega
          have h40 : R 3 < 0 → nx U (R 1) az = 40 → 4 ≤ w := fun q1 q2 => by have z := (hgC 40 (by decide) (by decide)).2 ⟨q1, q2⟩; omega
          refine j_aload_n G 2 rfl d0_single_91 ?_
          refine j_bipush G d0_single_92 rfl ?_
          refine j_bipush G d0_single_94 rfl ?_
          refine j_bipush G d0_single_96 rfl ?_
          refine j_VM G (rm' := { frames := 1, cells := 0, slots := 0, locals := 20 }) (wc := [(ra, o0 (some ba) (upS R 2 az)), (ba, aInt E 100 tb)]) (wr := []) (k0_takeOneOf (xl Γ) E ra ba (upS R 2 az) tb U 115 119 119 (by first | assumption | omega | (simp only [upS, reduceIte, Nat.reduceEqDiff, eq_self, List.length_cons, List.length_nil, List.length_append] <;> omega)) (by first | assumption | omega | (simp only [upS, reduceIte, Nat.reduceEqDiff, eq_self, List.length_cons, List.length_nil, List.length_append] <;> omega)) (by first | assumption | omega | (simp only [upS, reduceIte, Nat.reduceEqDiff, eq_self, List.length_cons, List.length_nil, List.length_append] <;> omega)) (by first | assumption | omega | (simp only [upS, reduceIte, Nat.reduceEqDiff, eq_self, List.length_cons, List.length_nil, List.length_append] <;> omega)) (by first | assumption | omega | (simp only [upS, reduceIte, Nat.reduceEqDiff, eq_self, List.length_cons, List.length_nil, List.length_append] <;> omega))) mw0_takeOneOf ml0_54 [0, 1] [] rfl rfl ⟨rfl, rfl⟩ (by decide) 0 0 rfl rfl rfl ⟨Nat.le_of_ble_eq_true rfl, Nat.le_of_ble_eq_true rfl⟩ rfl (rest := []) rfl (Nat.le_of_ble_eq_true rfl) d0_single_98 ⟨Nat.le_of_ble_eq_true rfl, Nat.le_of_ble_eq_true rfl⟩ (fun r w1 hr => ?_)
          obtain ⟨v8, at1_9, ft1_10, rfl, rfl, ⟨hq7_0, hq7_1, hq7_2, hq7_3⟩⟩ := hr
          refine j_eq (ws' := [(ra, o0 (some ba) (upS (upS R 2 at1_9) 3 ft1_10)), (ba, aInt E 100 tb)]) rfl rfl rfl ?_
          try simp only [upS, reduceIte, Nat.reduceEqDiff, eq_self] at hq7_0 hq7_1 hq7_2 hq7_3
          have hA := tk_of hq7_0
          have hAr := hq7_1
          have hAs := hq7_2
          have hAv := hq7_3
          clear hq7_0
          refine j_istore G d0_single_101 (by decide) rfl ?_
          refine j_aload_n G 3 rfl d0_single_103 ?_
          refine j_bipush G d0_single_104 rfl ?_
          refine j_bipush G d0_single_106 rfl ?_
          refine j_bipush G d0_single_108 rfl ?_
          refine j_VM G (rm' := { frames := 1, cells := 0, slots := 0, locals := 20 }) (wc := [(ra, o0 (some ba) (upS (upS R 2 at1_9) 3 ft1_10)), (ba, aInt E 100 tb)]) (wr := []) (k0_takeOneOf (xl Γ) E ra ba (upS (upS R 2 at1_9) 3 ft1_10) tb U 60 61 62 (by first | assumption | omega | (simp only [upS, reduceIte, Nat.reduceEqDiff, eq_self, List.length_cons, List.length_nil, List.length_append] <;> omega)) (by first | assumption | omega | (simp only [upS, reduceIte, Nat.reduceEqDiff, eq_self, List.length_cons, List.length_nil, List.length_append] <;> omega)) (by first | assumption | omega | (simp only [upS, reduceIte, Nat.reduceEqDiff, eq_self, List.length_cons, List.length_nil, List.length_append] <;> omega)) (by first | assumption | omega | (simp only [upS, reduceIte, Nat.reduceEqDiff, eq_self, List.length_cons, List.length_nil, List.length_append] <;> omega)) (by first | assumption | omega | (simp only [upS, reduceIte, Nat.reduceEqDiff, eq_self, List.length_cons, List.length_nil, List.length_append] <;> omega))) mw0_takeOneOf ml0_54 [0, 1] [] rfl rfl ⟨rfl, rfl⟩ (by decide) 0 0 rfl rfl rfl ⟨Nat.le_of_ble_eq_true rfl, Nat.le_of_ble_eq_true rfl⟩ rfl (rest := []) rfl (Nat.le_of_ble_eq_true rfl) d0_single_110 ⟨Nat.le_of_ble_eq_true rfl, Nat.le_of_ble_eq_true rfl⟩ (fun r w1 hr => ?_)
          obtain ⟨v12, at1_13, ft1_14, rfl, rfl, ⟨hq11_0, hq11_1, hq11_2, hq11_3⟩⟩ := hr
          refine j_eq (ws' := [(ra, o0 (some ba) (upS (upS R 2 at1_13) 3 ft1_14)), (ba, aInt E 100 tb)]) rfl rfl rfl ?_
          try simp only [upS, reduceIte, Nat.reduceEqDiff, eq_self] at hq11_0 hq11_1 hq11_2 hq11_3
          have hBq := tk_of hq11_0
          have hBr := hq11_1
          have hBs := hq11_2
          have hBv := hq11_3
          clear hq11_0
          refine j_istore G d0_single_113 (by decide) rfl ?_
          refine j_iload G 1 rfl d0_single_115 ?_
          refine j_iload G 0 rfl d0_single_117 ?_
          refine j_aload_n G 4 rfl d0_single_119 ?_
          refine j_iconst G d0_single_120 ?_
          refine j_VM G (rm' := { frames := 1, cells := 0, slots := 0, locals := 20 }) (wc := [(ra, o0 (some ba) (upS (upS R 2 at1_13) 3 ft1_14)), (ba, aInt E 100 tb)]) (wr := []) (k0_number (xl Γ) E ra ba (upS (upS R 2 at1_13) 3 ft1_14) tb U 2 (by first | assumption | omega | (simp only [upS, reduceIte, Nat.reduceEqDiff, eq_self, List.length_cons, List.length_nil, List.length_append] <;> omega)) (by first | assumption | omega | (simp only [upS, reduceIte, Nat.reduceEqDiff, eq_self, List.length_cons, List.length_nil, List.length_append] <;> omega)) (by first | assumption | omega | (simp only [upS, reduceIte, Nat.reduceEqDiff, eq_self, List.length_cons, List.length_nil, List.length_append] <;> omega)) (by first | assumption | omega | (simp only [upS, reduceIte, Nat.reduceEqDiff, eq_self, List.length_cons, List.length_nil, List.length_append] <;> omega)) (by first | assumption | omega | (simp only [upS, reduceIte, Nat.reduceEqDiff, eq_self, List.length_cons, List.length_nil, List.length_append] <;> omega))) mw0_number ml0_58 [0, 1] [] rfl rfl ⟨rfl, rfl⟩ (by decide) 0 0 rfl rfl rfl ⟨Nat.le_of_ble_eq_true rfl, Nat.le_of_ble_eq_true rfl⟩ rfl (rest := [.int (iZ v12), .int (iZ v8)]) rfl (Nat.le_of_ble_eq_true rfl) d0_single_121 ⟨Nat.le_of_ble_eq_true rfl, Nat.le_of_ble_eq_true rfl⟩ (fun r w1 hr => ?_)
          obtain ⟨v16, at1_17, ft1_18, rfl, rfl, ⟨hq15_0, hq15_1, hq15_2, hq15_3⟩⟩ := hr
          refine j_eq (ws' := [(ra, o0 (some ba) (upS (upS R 2 at1_17) 3 ft1_18)), (ba, aInt E 100 tb)]) rfl rfl rfl ?_
          try simp only [upS, reduceIte, Nat.reduceEqDiff, eq_self] at hq15_0 hq15_1 hq15_2 hq15_3
          have hC := nm_of hq15_0
          have hCr := hq15_1
          have hCs := hq15_2
          have hCv := hq15_3
          clear hq15_0
          refine j_SP G (k0_momentsWith (xl Γ) E v8 v12 v16 (by first | assumption | omega | (simp only [upS, reduceIte, Nat.reduceEqDiff, eq_self, List.length_cons, List.length_nil, List.length_append] <;> omega)) (by first | assumption | omega | (simp only [upS, reduceIte, Nat.reduceEqDiff, eq_self, List.length_cons, List.length_nil, List.length_append] <;> omega)) (by first | assumption | omega | (simp only [upS, reduceIte, Nat.reduceEqDiff, eq_self, List.length_cons, List.length_nil, List.length_append] <;> omega))) mw0_momentsWith ml0_118 [] rfl ⟨Nat.le_of_ble_eq_true rfl, Nat.le_of_ble_eq_true rfl⟩ rfl (rest := []) rfl (Nat.le_of_ble_eq_true rfl) d0_single_124 ⟨Nat.le_of_ble_eq_true rfl, Nat.le_of_ble_eq_true rfl⟩ (fun r hr => ?_)
          obtain ⟨v20, rfl, ⟨hq19_0, hq19_1⟩⟩ := hr
          have hM := hq19_0
          have hMr := hq19_1
          have htst := sg_tst4 hI (by omega) hw.2 h33 h40 hA hBq hC hM
          refine j_istore G d0_single_127 (by decide) rfl ?_
          refine j_iload_n G 3 rfl d0_single_129 ?_
          refine j_if_eq (tgt := 143) G d0_single_130 (by decide) htR (fun h21 => ?_) (fun h21 => ?_)
          ·
            refine j_iload G 0 rfl d0_single_143 ?_
            exact j_iret G F d0_single_145 ⟨v20, at1_17, ft1_18, rfl, rfl, (by first | exact ⟨sg_par hI hlv2 (by omega) hc40 (by omega) he3 (by omega) hT ⟨fun q => by first | rfl | (exfalso; omega), fun q => by first | rfl | (exfalso; omega)⟩, by omega, by omega⟩ | exact ⟨htst _ ⟨fun q => by first | rfl | (exfalso; omega), fun q => by first | rfl | (exfalso; omega)⟩, by omega, by omega⟩)⟩
          ·
            refine j_ldc G 16777215 ct0_121 (by decide) d0_single_133 ?_
            refine j_iload G 0 rfl d0_single_135 ?_
            refine j_iconst G d0_single_137 ?_
            refine r_ixor G d0_single_138 ?_
            refine j_top (y := iZ (((iZ v20) ^^^ (iZ (-1))).toInt)) (iZ_of _).symm ?_
            refine r_iand G d0_single_139 ?_
            refine j_top (y := iZ (((iZ 16777215) &&& (iZ (((iZ v20) ^^^ (iZ (-1))).toInt))).toInt)) (iZ_of _).symm ?_
            refine j_goto (tgt := 145) G d0_single_140 (by decide) ?_
            exact j_iret G F d0_single_145 ⟨((iZ 16777215) &&& (iZ (((iZ v20) ^^^ (iZ (-1))).toInt))).toInt, at1_17, ft1_18, rfl, rfl, (by first | exact ⟨sg_par hI hlv2 (by omega) hc40 (by omega) he3 (by omega) hT ⟨fun q => by first | rfl | (exfalso; omega), fun q => by first | rfl | (exfalso; omega)⟩, by omega, by omega⟩ | exact ⟨htst _ ⟨fun q => by first | rfl | (exfalso; omega), fun q => by first | rfl | (exfalso; omega)⟩, by omega, by omega⟩)⟩
        ·
          refine j_iload_n G 1 rfl d0_single_53 ?_
          refine j_iconst G d0_single_54 ?_
          refine j_icmp_ge (tgt := 91) G d0_single_55 (by decide) hwR (by decide) (fun h22 => ?_) (fun h22 => ?_)
          ·
            have h33 : R 3 < 0 → nx U (R 1) az = 33 → 4 ≤ w := fun q1 q2 => by have z := (hpC 33 (by decide) (by decide)).2 ⟨q1, q2⟩; omega
            have h40 : R 3 < 0 → nx U (R 1) az = 40 → 4 ≤ w := fun q1 q2 => by have z := (hgC 40 (by decide) (by decide)).2 ⟨q1, q2⟩; omega
            refine j_aload_n G 2 rfl d0_single_91 ?_
            refine j_bipush G d0_single_92 rfl ?_
            refine j_bipush G d0_single_94 rfl ?_
            refine j_bipush G d0_single_96 rfl ?_
            refine j_VM G (rm' := { frames := 1, cells := 0, slots := 0, locals := 20 }) (wc := [(ra, o0 (some ba) (upS R 2 az)), (ba, aInt E 100 tb)]) (wr := []) (k0_takeOneOf (xl Γ) E ra ba (upS R 2 az) tb U 115 119 119 (by first | assumption | omega | (simp only [upS, reduceIte, Nat.reduceEqDiff, eq_self, List.length_cons, List.length_nil, List.length_append] <;> omega)) (by first | assumption | omega | (simp only [upS, reduceIte, Nat.reduceEqDiff, eq_self, List.length_cons, List.length_nil, List.length_append] <;> omega)) (by first | assumption | omega | (simp only [upS, reduceIte, Nat.reduceEqDiff, eq_self, List.length_cons, List.length_nil, List.length_append] <;> omega)) (by first | assumption | omega | (simp only [upS, reduceIte, Nat.reduceEqDiff, eq_self, List.length_cons, List.length_nil, List.length_append] <;> omega)) (by first | assumption | omega | (simp only [upS, reduceIte, Nat.reduceEqDiff, eq_self, List.length_cons, List.length_nil, List.length_append] <;> omega))) mw0_takeOneOf ml0_54 [0, 1] [] rfl rfl ⟨rfl, rfl⟩ (by decide) 0 0 rfl rfl rfl ⟨Nat.le_of_ble_eq_true rfl, Nat.le_of_ble_eq_true rfl⟩ rfl (rest := []) rfl (Nat.le_of_ble_eq_true rfl) d0_single_98 ⟨Nat.le_of_ble_eq_true rfl, Nat.le_of_ble_eq_true rfl⟩ (fun r w1 hr => ?_)
            obtain ⟨v24, at1_25, ft1_26, rfl, rfl, ⟨hq23_0, hq23_1, hq23_2, hq23_3⟩⟩ := hr
            refine j_eq (ws' := [(ra, o0 (some ba) (upS (upS R 2 at1_25) 3 ft1_26)), (ba, aInt E 100 tb)]) rfl rfl rfl ?_
            try simp only [upS, reduceIte, Nat.reduceEqDiff, eq_self] at hq23_0 hq23_1 hq23_2 hq23_3
            have hA := tk_of hq23_0
            have hAr := hq23_1
            have hAs := hq23_2
            have hAv := hq23_3
            clear hq23_0
            refine j_istore G d0_single_101 (by decide) rfl ?_
            refine j_aload_n G 3 rfl d0_single_103 ?_
            refine j_bipush G d0_single_104 rfl ?_
            refine j_bipush G d0_single_106 rfl ?_
            refine j_bipush G d0_single_108 rfl ?_
            refine j_VM G (rm' := { frames := 1, cells := 0, slots := 0, locals := 20 }) (wc := [(ra, o0 (some ba) (upS (upS R 2 at1_25) 3 ft1_26)), (ba, aInt E 100 tb)]) (wr := []) (k0_takeOneOf (xl Γ) E ra ba (upS (upS R 2 at1_25) 3 ft1_26) tb U 60 61 62 (by first | assumption | omega | (simp only [upS, reduceIte, Nat.reduceEqDiff, eq_self, List.length_cons, List.length_nil, List.length_append] <;> omega)) (by first | assumption | omega | (simp only [upS, reduceIte, Nat.reduceEqDiff, eq_self, List.length_cons, List.length_nil, List.length_append] <;> omega)) (by first | assumption | omega | (simp only [upS, reduceIte, Nat.reduceEqDiff, eq_self, List.length_cons, List.length_nil, List.length_append] <;> omega)) (by first | assumption | omega | (simp only [upS, reduceIte, Nat.reduceEqDiff, eq_self, List.length_cons, List.length_nil, List.length_append] <;> omega)) (by first | assumption | omega | (simp only [upS, reduceIte, Nat.reduceEqDiff, eq_self, List.length_cons, List.length_nil, List.length_append] <;> omega))) mw0_takeOneOf ml0_54 [0, 1] [] rfl rfl ⟨rfl, rfl⟩ (by decide) 0 0 rfl rfl rfl ⟨Nat.le_of_ble_eq_true rfl, Nat.le_of_ble_eq_true rfl⟩ rfl (rest := []) rfl (Nat.le_of_ble_eq_true rfl) d0_single_110 ⟨Nat.le_of_ble_eq_true rfl, Nat.le_of_ble_eq_true rfl⟩ (fun r w1 hr => ?_)
            obtain ⟨v28, at1_29, ft1_30, rfl, rfl, ⟨hq27_0, hq27_1, hq27_2, hq27_3⟩⟩ := hr
            refine j_eq (ws' := [(ra, o0 (some ba) (upS (upS R 2 at1_29) 3 ft1_30)), (ba, aInt E 100 tb)]) rfl rfl rfl ?_
            try simp only [upS, reduceIte, Nat.reduceEqDiff, eq_self] at hq27_0 hq27_1 hq27_2 hq27_3
            have hBq := tk_of hq27_0
            have hBr := hq27_1
            have hBs := hq27_2
            have hBv := hq27_3
            clear hq27_0
            refine j_istore G d0_single_113 (by decide) rfl ?_
            refine j_iload G 1 rfl d0_single_115 ?_
            refine j_iload G 0 rfl d0_single_117 ?_
            refine j_aload_n G 4 rfl d0_single_119 ?_
            refine j_iconst G d0_single_120 ?_
            refine j_VM G (rm' := { frames := 1, cells := 0, slots := 0, locals := 20 }) (wc := [(ra, o0 (some ba) (upS (upS R 2 at1_29) 3 ft1_30)), (ba, aInt E 100 tb)]) (wr := []) (k0_number (xl Γ) E ra ba (upS (upS R 2 at1_29) 3 ft1_30) tb U 2 (by first | assumption | omega | (simp only [upS, reduceIte, Nat.reduceEqDiff, eq_self, List.length_cons, List.length_nil, List.length_append] <;> omega)) (by first | assumption | omega | (simp only [upS, reduceIte, Nat.reduceEqDiff, eq_self, List.length_cons, List.length_nil, List.length_append] <;> omega)) (by first | assumption | omega | (simp only [upS, reduceIte, Nat.reduceEqDiff, eq_self, List.length_cons, List.length_nil, List.length_append] <;> omega)) (by first | assumption | omega | (simp only [upS, reduceIte, Nat.reduceEqDiff, eq_self, List.length_cons, List.length_nil, List.length_append] <;> omega)) (by first | assumption | omega | (simp only [upS, reduceIte, Nat.reduceEqDiff, eq_self, List.length_cons, List.length_nil, List.length_append] <;> omega))) mw0_number ml0_58 [0, 1] [] rfl rfl ⟨rfl, rfl⟩ (by decide) 0 0 rfl rfl rfl ⟨Nat.le_of_ble_eq_true rfl, Nat.le_of_ble_eq_true rfl⟩ rfl (rest := [.int (iZ v28), .int (iZ v24)]) rfl (Nat.le_of_ble_eq_true rfl) d0_single_121 ⟨Nat.le_of_ble_eq_true rfl, Nat.le_of_ble_eq_true rfl⟩ (fun r w1 hr => ?_)
            obtain ⟨v32, at1_33, ft1_34, rfl, rfl, ⟨hq31_0, hq31_1, hq31_2, hq31_3⟩⟩ := hr
            refine j_eq (ws' := [(ra, o0 (some ba) (upS (upS R 2 at1_33) 3 ft1_34)), (ba, aInt E 100 tb)]) rfl rfl rfl ?_
            try simp only [upS, reduceIte, Nat.reduceEqDiff, eq_self] at hq31_0 hq31_1 hq31_2 hq31_3
            have hC := nm_of hq31_0
            have hCr := hq31_1
            have hCs := hq31_2
            have hCv := hq31_3
            clear hq31_0
            refine j_SP G (k0_momentsWith (xl Γ) E v24 v28 v32 (by first | assumption | omega | (simp only [upS, reduceIte, Nat.reduceEqDiff, eq_self, List.length_cons, List.length_nil, List.length_append] <;> omega)) (by first | assumption | omega | (simp only [upS, reduceIte, Nat.reduceEqDiff, eq_self, List.length_cons, List.length_nil, List.length_append] <;> omega)) (by first | assumption | omega | (simp only [upS, reduceIte, Nat.reduceEqDiff, eq_self, List.length_cons, List.length_nil, List.length_append] <;> omega))) mw0_momentsWith ml0_118 [] rfl ⟨Nat.le_of_ble_eq_true rfl, Nat.le_of_ble_eq_true rfl⟩ rfl (rest := []) rfl (Nat.le_of_ble_eq_true rfl) d0_single_124 ⟨Nat.le_of_ble_eq_true rfl, Nat.le_of_ble_eq_true rfl⟩ (fun r hr => ?_)
            obtain ⟨v36, rfl, ⟨hq35_0, hq35_1⟩⟩ := hr
            have hM := hq35_0
            have hMr := hq35_1
            have htst := sg_tst4 hI (by omega) hw.2 h33 h40 hA hBq hC hM
            refine j_istore G d0_single_127 (by decide) rfl ?_
            refine j_iload_n G 3 rfl d0_single_129 ?_
            refine j_if_eq (tgt := 143) G d0_single_130 (by decide) htR (fun h37 => ?_) (fun h37 => ?_)
            ·
              refine j_iload G 0 rfl d0_single_143 ?_
              exact j_iret G F d0_single_145 ⟨v36, at1_33, ft1_34, rfl, rfl, (by first | exact ⟨sg_par hI hlv2 (by omega) hc40 (by omega) he3 (by omega) hT ⟨fun q => by first | rfl | (exfalso; omega), fun q => by first | rfl | (exfalso; omega)⟩, by omega, by omega⟩ | exact ⟨htst _ ⟨fun q => by first | rfl | (exfalso; omega), fun q => by first | rfl | (exfalso; omega)⟩, by omega, by omega⟩)⟩
            ·
              refine j_ldc G 16777215 ct0_121 (by decide) d0_single_133 ?_
              refine j_iload G 0 rfl d0_single_135 ?_
              refine j_iconst G d0_single_137 ?_
              refine r_ixor G d0_single_138 ?_
              refine j_top (y := iZ (((iZ v36) ^^^ (iZ (-1))).toInt)) (iZ_of _).symm ?_
              refine r_iand G d0_single_139 ?_
              refine j_top (y := iZ (((iZ 16777215) &&& (iZ (((iZ v36) ^^^ (iZ (-1))).toInt))).toInt)) (iZ_of _).symm ?_
              refine j_goto (tgt := 145) G d0_single_140 (by decide) ?_
              exact j_iret G F d0_single_145 ⟨((iZ 16777215) &&& (iZ (((iZ v36) ^^^ (iZ (-1))).toInt))).toInt, at1_33, ft1_34, rfl, rfl, (by first | exact ⟨sg_par hI hlv2 (by omega) hc40 (by omega) he3 (by omega) hT ⟨fun q => by first | rfl | (exfalso; omega), fun q => by first | rfl | (exfalso; omega)⟩, by omega, by omega⟩ | exact ⟨htst _ ⟨fun q => by first | rfl | (exfalso; omega), fun q => by first | rfl | (exfalso; omega)⟩, by omega, by omega⟩)⟩
          ·
            have hlv2 : R 3 < 0 := ((hgC 40 (by decide) (by decide)).1 (by omega)).1
            have hc40 : nx U (R 1) az = 40 := ((hgC 40 (by decide) (by decide)).1 (by omega)).2
            refine j_aload_n G 2 rfl d0_single_58 ?_
            refine j_dup G d0_single_59 rfl ?_
            refine j_get G 0 0 2 in0 fl0_36 d0_single_60 rfl rfl (by decide) (v := .int (iZ az)) rfl rfl ?_
            refine j_iconst G d0_single_63 ?_
            refine j_iadd G d0_single_64 ?_
            refine j_put G 0 0 2 in0 tyok0 nm0 fl0_36 d0_single_65 rfl rfl (by decide) ⟨rfl, rfl⟩ rfl rfl (Nat.le_of_ble_eq_true rfl) (e := o0 (some ba) (upS R 2 (az + 1))) rfl ?_
            refine j_aload_n G 2 rfl d0_single_68 ?_
            refine j_iload_n G 1 rfl d0_single_69 ?_
            refine j_iconst G d0_single_70 ?_
            refine j_iadd G d0_single_71 ?_
            refine j_VM G (rm' := { frames := 4, cells := 0, slots := 0, locals := 92 }) (wc := [(ra, o0 (some ba) (upS R 2 (az + 1))), (ba, aInt E 100 tb)]) (wr := []) (k0_either_4 (xl Γ) E ra ba (upS R 2 (az + 1)) tb U (w + 1) (by first | assumption | omega | (simp only [upS, reduceIte, Nat.reduceEqDiff, eq_self, List.length_cons, List.length_nil, List.length_append] <;> omega)) (by first | assumption | omega | (simp only [upS, reduceIte, Nat.reduceEqDiff, eq_self, List.length_cons, List.length_nil, List.length_append] <;> omega)) (by first | assumption | omega | (simp only [upS, reduceIte, Nat.reduceEqDiff, eq_self, List.length_cons, List.length_nil, List.length_append] <;> omega)) (by first | assumption | omega | (simp only [upS, reduceIte, Nat.reduceEqDiff, eq_self, List.length_cons, List.length_nil, List.length_append] <;> omega)) (by first | assumption | omega | (simp only [upS, reduceIte, Nat.reduceEqDiff, eq_self, List.length_cons, List.length_nil, List.length_append] <;> omega))) mw0_either ml0_68 [0, 1] [] rfl rfl ⟨rfl, rfl⟩ (by decide) 0 0 rfl rfl rfl ⟨Nat.le_of_ble_eq_true rfl, Nat.le_of_ble_eq_true rfl⟩ rfl (rest := []) rfl (Nat.le_of_ble_eq_true rfl) d0_single_72 ⟨Nat.le_of_ble_eq_true rfl, Nat.le_of_ble_eq_true rfl⟩ (fun r w1 hr => ?_)
            obtain ⟨v39, at1_40, ft1_41, rfl, rfl, ⟨hq38_0, hq38_1, hq38_2⟩⟩ := hr
            refine j_eq (ws' := [(ra, o0 (some ba) (upS (upS R 2 at1_40) 3 ft1_41)), (ba, aInt E 100 tb)]) rfl rfl rfl ?_
            try simp only [upS, reduceIte, Nat.reduceEqDiff, eq_self] at hq38_0 hq38_1 hq38_2
            have he3 := hq38_0
            have hr3 := hq38_1
            have hx3 := hq38_2
            refine j_istore G d0_single_75 (by decide) rfl ?_
            refine j_aload_n G 3 rfl d0_single_77 ?_
            refine j_bipush G d0_single_78 rfl ?_
            refine j_bipush G d0_single_80 rfl ?_
            refine j_bipush G d0_single_82 rfl ?_
            refine j_VM G (rm' := { frames := 1, cells := 0, slots := 0, locals := 20 }) (wc := [(ra, o0 (some ba) (upS (upS R 2 at1_40) 3 ft1_41)), (ba, aInt E 100 tb)]) (wr := []) (k0_takeOneOf (xl Γ) E ra ba (upS (upS R 2 at1_40) 3 ft1_41) tb U 41 41 41 (by first | assumption | omega | (simp only [upS, reduceIte, Nat.reduceEqDiff, eq_self, List.length_cons, List.length_nil, List.length_append] <;> omega)) (by first | assumption | omega | (simp only [upS, reduceIte, Nat.reduceEqDiff, eq_self, List.length_cons, List.length_nil, List.length_append] <;> omega)) (by first | assumption | omega | (simp only [upS, reduceIte, Nat.reduceEqDiff, eq_self, List.length_cons, List.length_nil, List.length_append] <;> omega)) (by first | assumption | omega | (simp only [upS, reduceIte, Nat.reduceEqDiff, eq_self, List.length_cons, List.length_nil, List.length_append] <;> omega)) (by first | assumption | omega | (simp only [upS, reduceIte, Nat.reduceEqDiff, eq_self, List.length_cons, List.length_nil, List.length_append] <;> omega))) mw0_takeOneOf ml0_54 [0, 1] [] rfl rfl ⟨rfl, rfl⟩ (by decide) 0 0 rfl rfl rfl ⟨Nat.le_of_ble_eq_true rfl, Nat.le_of_ble_eq_true rfl⟩ rfl (rest := []) rfl (Nat.le_of_ble_eq_true rfl) d0_single_84 ⟨Nat.le_of_ble_eq_true rfl, Nat.le_of_ble_eq_true rfl⟩ (fun r w1 hr => ?_)
            obtain ⟨v43, at1_44, ft1_45, rfl, rfl, ⟨hq42_0, hq42_1, hq42_2, hq42_3⟩⟩ := hr
            refine j_eq (ws' := [(ra, o0 (some ba) (upS (upS R 2 at1_44) 3 ft1_45)), (ba, aInt E 100 tb)]) rfl rfl rfl ?_
            try simp only [upS, reduceIte, Nat.reduceEqDiff, eq_self] at hq42_0 hq42_1 hq42_2 hq42_3
            have hT := tk_of hq42_0
            have hTr := hq42_1
            have hTs := hq42_2
            clear hq42_0
            refine j_pop G d0_single_87 rfl ?_
            refine j_goto (tgt := 129) G d0_single_88 (by decide) ?_
            refine j_iload_n G 1 rfl d0_single_129 ?_
            refine j_if_eq (tgt := 143) G d0_single_130 (by decide) htR (fun h46 => ?_) (fun h46 => ?_)
            ·
              refine j_iload G 0 rfl d0_single_143 ?_
              exact j_iret G F d0_single_145 ⟨v39, at1_44, ft1_45, rfl, rfl, (by first | exact ⟨sg_par hI hlv2 (by omega) hc40 (by omega) he3 (by omega) hT ⟨fun q => by first | rfl | (exfalso; omega), fun q => by first | rfl | (exfalso; omega)⟩, by omega, by omega⟩ | exact ⟨htst _ ⟨fun q => by first | rfl | (exfalso; omega), fun q => by first | rfl | (exfalso; omega)⟩, by omega, by omega⟩)⟩
            ·
              refine j_ldc G 16777215 ct0_121 (by decide) d0_single_133 ?_
              refine j_iload G 0 rfl d0_single_135 ?_
              refine j_iconst G d0_single_137 ?_
              refine r_ixor G d0_single_138 ?_
              refine j_top (y := iZ (((iZ v39) ^^^ (iZ (-1))).toInt)) (iZ_of _).symm ?_
              refine r_iand G d0_single_139 ?_
              refine j_top (y := iZ (((iZ 16777215) &&& (iZ (((iZ v39) ^^^ (iZ (-1))).toInt))).toInt)) (iZ_of _).symm ?_
              refine j_goto (tgt := 145) G d0_single_140 (by decide) ?_
              exact j_iret G F d0_single_145 ⟨((iZ 16777215) &&& (iZ (((iZ v39) ^^^ (iZ (-1))).toInt))).toInt, at1_44, ft1_45, rfl, rfl, (by first | exact ⟨sg_par hI hlv2 (by omega) hc40 (by omega) he3 (by omega) hT ⟨fun q => by first | rfl | (exfalso; omega), fun q => by first | rfl | (exfalso; omega)⟩, by omega, by omega⟩ | exact ⟨htst _ ⟨fun q => by first | rfl | (exfalso; omega), fun q => by first | rfl | (exfalso; omega)⟩, by omega, by omega⟩)⟩
      ·
        refine j_iload_n G 1 rfl d0_single_13 ?_
        refine j_iconst G d0_single_14 ?_
        refine j_icmp_ge (tgt := 44) G d0_single_15 (by decide) hwR (by decide) (fun h47 => ?_) (fun h47 => ?_)
        ·
          refine j_aload_n G 2 rfl d0_single_44 ?_
          refine j_VP G (k0_peek (xl Γ) E ra ba (upS R 2 az) tb U (by first | assumption | omega | (simp only [upS, reduceIte, Nat.reduceEqDiff, eq_self, List.length_cons, List.length_nil, List.length_append] <;> omega)) (by first | assumption | omega | (simp only [upS, reduceIte, Nat.reduceEqDiff, eq_self, List.length_cons, List.length_nil, List.length_append] <;> omega)) (by first | assumption | omega | (simp only [upS, reduceIte, Nat.reduceEqDiff, eq_self, List.length_cons, List.length_nil, List.length_append] <;> omega)) (by first | assumption | omega | (simp only [upS, reduceIte, Nat.reduceEqDiff, eq_self, List.length_cons, List.length_nil, List.length_append] <;> omega))) mw0_peek ml0_32 [0, 1] rfl 0 0 rfl rfl rfl ⟨Nat.le_of_ble_eq_true rfl, Nat.le_of_ble_eq_true rfl⟩ rfl (rest := []) rfl (Nat.le_of_ble_eq_true rfl) d0_single_45 ⟨Nat.le_of_ble_eq_true rfl, Nat.le_of_ble_eq_true rfl⟩ (fun r hr => ?_)
          obtain ⟨v49, rfl, ⟨hq48_0, hq48_1, hq48_2, hq48_3, hq48_4⟩⟩ := hr
          try simp only [upS, reduceIte, Nat.reduceEqDiff, eq_self] at hq48_0 hq48_1 hq48_2 hq48_3 hq48_4
          have hgC := pk_of hq48_0 hq48_1 hq48_2
          have hg2 := hq48_2
          have hg3 := hq48_3
          clear hq48_0 hq48_1 hq48_3 hq48_4
          refine j_bipush G d0_single_48 rfl ?_
          refine j_icmp_ne (tgt := 91) G d0_single_50 (by decide) (r32_pk hg2) (by decide) (fun h50 => ?_) (fun h50 => ?_)
          ·
            have h33 : R 3 < 0 → nx U (R 1) az = 33 → 4 ≤ w := fun q1 q2 => by have z := (hpC 33 (by decide) (by decide)).2 ⟨q1, q2⟩; omega
            have h40 : R 3 < 0 → nx U (R 1) az = 40 → 4 ≤ w := fun q1 q2 => by have z := (hgC 40 (by decide) (by decide)).2 ⟨q1, q2⟩; omega
            refine j_aload_n G 2 rfl d0_single_91 ?_
            refine j_bipush G d0_single_92 rfl ?_
            refine j_bipush G d0_single_94 rfl ?_
            refine j_bipush G d0_single_96 rfl ?_
            refine j_VM G (rm' := { frames := 1, cells := 0, slots := 0, locals := 20 }) (wc := [(ra, o0 (some ba) (upS R 2 az)), (ba, aInt E 100 tb)]) (wr := []) (k0_takeOneOf (xl Γ) E ra ba (upS R 2 az) tb U 115 119 119 (by first | assumption | omega | (simp only [upS, reduceIte, Nat.reduceEqDiff, eq_self, List.length_cons, List.length_nil, List.length_append] <;> omega)) (by first | assumption | omega | (simp only [upS, reduceIte, Nat.reduceEqDiff, eq_self, List.length_cons, List.length_nil, List.length_append] <;> omega)) (by first | assumption | omega | (simp only [upS, reduceIte, Nat.reduceEqDiff, eq_self, List.length_cons, List.length_nil, List.length_append] <;> omega)) (by first | assumption | omega | (simp only [upS, reduceIte, Nat.reduceEqDiff, eq_self, List.length_cons, List.length_nil, List.length_append] <;> omega)) (by first | assumption | omega | (simp only [upS, reduceIte, Nat.reduceEqDiff, eq_self, List.length_cons, List.length_nil, List.length_append] <;> omega))) mw0_takeOneOf ml0_54 [0, 1] [] rfl rfl ⟨rfl, rfl⟩ (by decide) 0 0 rfl rfl rfl ⟨Nat.le_of_ble_eq_true rfl, Nat.le_of_ble_eq_true rfl⟩ rfl (rest := []) rfl (Nat.le_of_ble_eq_true rfl) d0_single_98 ⟨Nat.le_of_ble_eq_true rfl, Nat.le_of_ble_eq_true rfl⟩ (fun r w1 hr => ?_)
            obtain ⟨v52, at1_53, ft1_54, rfl, rfl, ⟨hq51_0, hq51_1, hq51_2, hq51_3⟩⟩ := hr
            refine j_eq (ws' := [(ra, o0 (some ba) (upS (upS R 2 at1_53) 3 ft1_54)), (ba, aInt E 100 tb)]) rfl rfl rfl ?_
            try simp only [upS, reduceIte, Nat.reduceEqDiff, eq_self] at hq51_0 hq51_1 hq51_2 hq51_3
            have hA := tk_of hq51_0
            have hAr := hq51_1
            have hAs := hq51_2
            have hAv := hq51_3
            clear hq51_0
            refine j_istore G d0_single_101 (by decide) rfl ?_
            refine j_aload_n G 3 rfl d0_single_103 ?_
            refine j_bipush G d0_single_104 rfl ?_
            refine j_bipush G d0_single_106 rfl ?_
            refine j_bipush G d0_single_108 rfl ?_
            refine j_VM G (rm' := { frames := 1, cells := 0, slots := 0, locals := 20 }) (wc := [(ra, o0 (some ba) (upS (upS R 2 at1_53) 3 ft1_54)), (ba, aInt E 100 tb)]) (wr := []) (k0_takeOneOf (xl Γ) E ra ba (upS (upS R 2 at1_53) 3 ft1_54) tb U 60 61 62 (by first | assumption | omega | (simp only [upS, reduceIte, Nat.reduceEqDiff, eq_self, List.length_cons, List.length_nil, List.length_append] <;> omega)) (by first | assumption | omega | (simp only [upS, reduceIte, Nat.reduceEqDiff, eq_self, List.length_cons, List.length_nil, List.length_append] <;> omega)) (by first | assumption | omega | (simp only [upS, reduceIte, Nat.reduceEqDiff, eq_self, List.length_cons, List.length_nil, List.length_append] <;> omega)) (by first | assumption | omega | (simp only [upS, reduceIte, Nat.reduceEqDiff, eq_self, List.length_cons, List.length_nil, List.length_append] <;> omega)) (by first | assumption | omega | (simp only [upS, reduceIte, Nat.reduceEqDiff, eq_self, List.length_cons, List.length_nil, List.length_append] <;> omega))) mw0_takeOneOf ml0_54 [0, 1] [] rfl rfl ⟨rfl, rfl⟩ (by decide) 0 0 rfl rfl rfl ⟨Nat.le_of_ble_eq_true rfl, Nat.le_of_ble_eq_true rfl⟩ rfl (rest := []) rfl (Nat.le_of_ble_eq_true rfl) d0_single_110 ⟨Nat.le_of_ble_eq_true rfl, Nat.le_of_ble_eq_true rfl⟩ (fun r w1 hr => ?_)
            obtain ⟨v56, at1_57, ft1_58, rfl, rfl, ⟨hq55_0, hq55_1, hq55_2, hq55_3⟩⟩ := hr
            refine j_eq (ws' := [(ra, o0 (some ba) (upS (upS R 2 at1_57) 3 ft1_58)), (ba, aInt E 100 tb)]) rfl rfl rfl ?_
            try simp only [upS, reduceIte, Nat.reduceEqDiff, eq_self] at hq55_0 hq55_1 hq55_2 hq55_3
            have hBq := tk_of hq55_0
            have hBr := hq55_1
            have hBs := hq55_2
            have hBv := hq55_3
            clear hq55_0
            refine j_istore G d0_single_113 (by decide) rfl ?_
            refine j_iload G 1 rfl d0_single_115 ?_
            refine j_iload G 0 rfl d0_single_117 ?_
            refine j_aload_n G 4 rfl d0_single_119 ?_
            refine j_iconst G d0_single_120 ?_
            refine j_VM G (rm' := { frames := 1, cells := 0, slots := 0, locals := 20 }) (wc := [(ra, o0 (some ba) (upS (upS R 2 at1_57) 3 ft1_58)), (ba, aInt E 100 tb)]) (wr := []) (k0_number (xl Γ) E ra ba (upS (upS R 2 at1_57) 3 ft1_58) tb U 2 (by first | assumption | omega | (simp only [upS, reduceIte, Nat.reduceEqDiff, eq_self, List.length_cons, List.length_nil, List.length_append] <;> omega)) (by first | assumption | omega | (simp only [upS, reduceIte, Nat.reduceEqDiff, eq_self, List.length_cons, List.length_nil, List.length_append] <;> omega)) (by first | assumption | omega | (simp only [upS, reduceIte, Nat.reduceEqDiff, eq_self, List.length_cons, List.length_nil, List.length_append] <;> omega)) (by first | assumption | omega | (simp only [upS, reduceIte, Nat.reduceEqDiff, eq_self, List.length_cons, List.length_nil, List.length_append] <;> omega)) (by first | assumption | omega | (simp only [upS, reduceIte, Nat.reduceEqDiff, eq_self, List.length_cons, List.length_nil, List.length_append] <;> omega))) mw0_number ml0_58 [0, 1] [] rfl rfl ⟨rfl, rfl⟩ (by decide) 0 0 rfl rfl rfl ⟨Nat.le_of_ble_eq_true rfl, Nat.le_of_ble_eq_true rfl⟩ rfl (rest := [.int (iZ v56), .int (iZ v52)]) rfl (Nat.le_of_ble_eq_true rfl) d0_single_121 ⟨Nat.le_of_ble_eq_true rfl, Nat.le_of_ble_eq_true rfl⟩ (fun r w1 hr => ?_)
            obtain ⟨v60, at1_61, ft1_62, rfl, rfl, ⟨hq59_0, hq59_1, hq59_2, hq59_3⟩⟩ := hr
            refine j_eq (ws' := [(ra, o0 (some ba) (upS (upS R 2 at1_61) 3 ft1_62)), (ba, aInt E 100 tb)]) rfl rfl rfl ?_
            try simp only [upS, reduceIte, Nat.reduceEqDiff, eq_self] at hq59_0 hq59_1 hq59_2 hq59_3
            have hC := nm_of hq59_0
            have hCr := hq59_1
            have hCs := hq59_2
            have hCv := hq59_3
            clear hq59_0
            refine j_SP G (k0_momentsWith (xl Γ) E v52 v56 v60 (by first | assumption | omega | (simp only [upS, reduceIte, Nat.reduceEqDiff, eq_self, List.length_cons, List.length_nil, List.length_append] <;> omega)) (by first | assumption | omega | (simp only [upS, reduceIte, Nat.reduceEqDiff, eq_self, List.length_cons, List.length_nil, List.length_append] <;> omega)) (by first | assumption | omega | (simp only [upS, reduceIte, Nat.reduceEqDiff, eq_self, List.length_cons, List.length_nil, List.length_append] <;> omega))) mw0_momentsWith ml0_118 [] rfl ⟨Nat.le_of_ble_eq_true rfl, Nat.le_of_ble_eq_true rfl⟩ rfl (rest := []) rfl (Nat.le_of_ble_eq_true rfl) d0_single_124 ⟨Nat.le_of_ble_eq_true rfl, Nat.le_of_ble_eq_true rfl⟩ (fun r hr => ?_)
            obtain ⟨v64, rfl, ⟨hq63_0, hq63_1⟩⟩ := hr
            have hM := hq63_0
            have hMr := hq63_1
            have htst := sg_tst4 hI (by omega) hw.2 h33 h40 hA hBq hC hM
            refine j_istore G d0_single_127 (by decide) rfl ?_
            refine j_iload_n G 3 rfl d0_single_129 ?_
            refine j_if_eq (tgt := 143) G d0_single_130 (by decide) htR (fun h65 => ?_) (fun h65 => ?_)
            ·
              refine j_iload G 0 rfl d0_single_143 ?_
              exact j_iret G F d0_single_145 ⟨v64, at1_61, ft1_62, rfl, rfl, (by first | exact ⟨sg_par hI hlv2 (by omega) hc40 (by omega) he3 (by omega) hT ⟨fun q => by first | rfl | (exfalso; omega), fun q => by first | rfl | (exfalso; omega)⟩, by omega, by omega⟩ | exact ⟨htst _ ⟨fun q => by first | rfl | (exfalso; omega), fun q => by first | rfl | (exfalso; omega)⟩, by omega, by omega⟩)⟩
            ·
              refine j_ldc G 16777215 ct0_121 (by decide) d0_single_133 ?_
              refine j_iload G 0 rfl d0_single_135 ?_
              refine j_iconst G d0_single_137 ?_
              refine r_ixor G d0_single_138 ?_
              refine j_top (y := iZ (((iZ v64) ^^^ (iZ (-1))).toInt)) (iZ_of _).symm ?_
              refine r_iand G d0_single_139 ?_
              refine j_top (y := iZ (((iZ 16777215) &&& (iZ (((iZ v64) ^^^ (iZ (-1))).toInt))).toInt)) (iZ_of _).symm ?_
              refine j_goto (tgt := 145) G d0_single_140 (by decide) ?_
              exact j_iret G F d0_single_145 ⟨((iZ 16777215) &&& (iZ (((iZ v64) ^^^ (iZ (-1))).toInt))).toInt, at1_61, ft1_62, rfl, rfl, (by first | exact ⟨sg_par hI hlv2 (by omega) hc40 (by omega) he3 (by omega) hT ⟨fun q => by first | rfl | (exfalso; omega), fun q => by first | rfl | (exfalso; omega)⟩, by omega, by omega⟩ | exact ⟨htst _ ⟨fun q => by first | rfl | (exfalso; omega), fun q => by first | rfl | (exfalso; omega)⟩, by omega, by omega⟩)⟩
          ·
            refine j_iload_n G 1 rfl d0_single_53 ?_
            refine j_iconst G d0_single_54 ?_
            refine j_icmp_ge (tgt := 91) G d0_single_55 (by decide) hwR (by decide) (fun h66 => ?_) (fun h66 => ?_)
            ·
              have h33 : R 3 < 0 → nx U (R 1) az = 33 → 4 ≤ w := fun q1 q2 => by have z := (hpC 33 (by decide) (by decide)).2 ⟨q1, q2⟩; omega
              have h40 : R 3 < 0 → nx U (R 1) az = 40 → 4 ≤ w := fun q1 q2 => by have z := (hgC 40 (by decide) (by decide)).2 ⟨q1, q2⟩; omega
              refine j_aload_n G 2 rfl d0_single_91 ?_
              refine j_bipush G d0_single_92 rfl ?_
              refine j_bipush G d0_single_94 rfl ?_
              refine j_bipush G d0_single_96 rfl ?_
              refine j_VM G (rm' := { frames := 1, cells := 0, slots := 0, locals := 20 }) (wc := [(ra, o0 (some ba) (upS R 2 az)), (ba, aInt E 100 tb)]) (wr := []) (k0_takeOneOf (xl Γ) E ra ba (upS R 2 az) tb U 115 119 119 (by first | assumption | omega | (simp only [upS, reduceIte, Nat.reduceEqDiff, eq_self, List.length_cons, List.length_nil, List.length_append] <;> omega)) (by first | assumption | omega | (simp only [upS, reduceIte, Nat.reduceEqDiff, eq_self, List.length_cons, List.length_nil, List.length_append] <;> omega)) (by first | assumption | omega | (simp only [upS, reduceIte, Nat.reduceEqDiff, eq_self, List.length_cons, List.length_nil, List.length_append] <;> omega)) (by first | assumption | omega | (simp only [upS, reduceIte, Nat.reduceEqDiff, eq_self, List.length_cons, List.length_nil, List.length_append] <;> omega)) (by first | assumption | omega | (simp only [upS, reduceIte, Nat.reduceEqDiff, eq_self, List.length_cons, List.length_nil, List.length_append] <;> omega))) mw0_takeOneOf ml0_54 [0, 1] [] rfl rfl ⟨rfl, rfl⟩ (by decide) 0 0 rfl rfl rfl ⟨Nat.le_of_ble_eq_true rfl, Nat.le_of_ble_eq_true rfl⟩ rfl (rest := []) rfl (Nat.le_of_ble_eq_true rfl) d0_single_98 ⟨Nat.le_of_ble_eq_true rfl, Nat.le_of_ble_eq_true rfl⟩ (fun r w1 hr => ?_)
              obtain ⟨v68, at1_69, ft1_70, rfl, rfl, ⟨hq67_0, hq67_1, hq67_2, hq67_3⟩⟩ := hr
              refine j_eq (ws' := [(ra, o0 (some ba) (upS (upS R 2 at1_69) 3 ft1_70)), (ba, aInt E 100 tb)]) rfl rfl rfl ?_
              try simp only [upS, reduceIte, Nat.reduceEqDiff, eq_self] at hq67_0 hq67_1 hq67_2 hq67_3
              have hA := tk_of hq67_0
              have hAr := hq67_1
              have hAs := hq67_2
              have hAv := hq67_3
              clear hq67_0
              refine j_istore G d0_single_101 (by decide) rfl ?_
              refine j_aload_n G 3 rfl d0_single_103 ?_
              refine j_bipush G d0_single_104 rfl ?_
              refine j_bipush G d0_single_106 rfl ?_
              refine j_bipush G d0_single_108 rfl ?_
              refine j_VM G (rm' := { frames := 1, cells := 0, slots := 0, locals := 20 }) (wc := [(ra, o0 (some ba) (upS (upS R 2 at1_69) 3 ft1_70)), (ba, aInt E 100 tb)]) (wr := []) (k0_takeOneOf (xl Γ) E ra ba (upS (upS R 2 at1_69) 3 ft1_70) tb U 60 61 62 (by first | assumption | omega | (simp only [upS, reduceIte, Nat.reduceEqDiff, eq_self, List.length_cons, List.length_nil, List.length_append] <;> omega)) (by first | assumption | omega | (simp only [upS, reduceIte, Nat.reduceEqDiff, eq_self, List.length_cons, List.length_nil, List.length_append] <;> omega)) (by first | assumption | omega | (simp only [upS, reduceIte, Nat.reduceEqDiff, eq_self, List.length_cons, List.length_nil, List.length_append] <;> omega)) (by first | assumption | omega | (simp only [upS, reduceIte, Nat.reduceEqDiff, eq_self, List.length_cons, List.length_nil, List.length_append] <;> omega)) (by first | assumption | omega | (simp only [upS, reduceIte, Nat.reduceEqDiff, eq_self, List.length_cons, List.length_nil, List.length_append] <;> omega))) mw0_takeOneOf ml0_54 [0, 1] [] rfl rfl ⟨rfl, rfl⟩ (by decide) 0 0 rfl rfl rfl ⟨Nat.le_of_ble_eq_true rfl, Nat.le_of_ble_eq_true rfl⟩ rfl (rest := []) rfl (Nat.le_of_ble_eq_true rfl) d0_single_110 ⟨Nat.le_of_ble_eq_true rfl, Nat.le_of_ble_eq_true rfl⟩ (fun r w1 hr => ?_)
              obtain ⟨v72, at1_73, ft1_74, rfl, rfl, ⟨hq71_0, hq71_1, hq71_2, hq71_3⟩⟩ := hr
              refine j_eq (ws' := [(ra, o0 (some ba) (upS (upS R 2 at1_73) 3 ft1_74)), (ba, aInt E 100 tb)]) rfl rfl rfl ?_
              try simp only [upS, reduceIte, Nat.reduceEqDiff, eq_self] at hq71_0 hq71_1 hq71_2 hq71_3
              have hBq := tk_of hq71_0
              have hBr := hq71_1
              have hBs := hq71_2
              have hBv := hq71_3
              clear hq71_0
              refine j_istore G d0_single_113 (by decide) rfl ?_
              refine j_iload G 1 rfl d0_single_115 ?_
              refine j_iload G 0 rfl d0_single_117 ?_
              refine j_aload_n G 4 rfl d0_single_119 ?_
              refine j_iconst G d0_single_120 ?_
              refine j_VM G (rm' := { frames := 1, cells := 0, slots := 0, locals := 20 }) (wc := [(ra, o0 (some ba) (upS (upS R 2 at1_73) 3 ft1_74)), (ba, aInt E 100 tb)]) (wr := []) (k0_number (xl Γ) E ra ba (upS (upS R 2 at1_73) 3 ft1_74) tb U 2 (by first | assumption | omega | (simp only [upS, reduceIte, Nat.reduceEqDiff, eq_self, List.length_cons, List.length_nil, List.length_append] <;> omega)) (by first | assumption | omega | (simp only [upS, reduceIte, Nat.reduceEqDiff, eq_self, List.length_cons, List.length_nil, List.length_append] <;> omega)) (by first | assumption | omega | (simp only [upS, reduceIte, Nat.reduceEqDiff, eq_self, List.length_cons, List.length_nil, List.length_append] <;> omega)) (by first | assumption | omega | (simp only [upS, reduceIte, Nat.reduceEqDiff, eq_self, List.length_cons, List.length_nil, List.length_append] <;> omega)) (by first | assumption | omega | (simp only [upS, reduceIte, Nat.reduceEqDiff, eq_self, List.length_cons, List.length_nil, List.length_append] <;> omega))) mw0_number ml0_58 [0, 1] [] rfl rfl ⟨rfl, rfl⟩ (by decide) 0 0 rfl rfl rfl ⟨Nat.le_of_ble_eq_true rfl, Nat.le_of_ble_eq_true rfl⟩ rfl (rest := [.int (iZ v72), .int (iZ v68)]) rfl (Nat.le_of_ble_eq_true rfl) d0_single_121 ⟨Nat.le_of_ble_eq_true rfl, Nat.le_of_ble_eq_true rfl⟩ (fun r w1 hr => ?_)
              obtain ⟨v76, at1_77, ft1_78, rfl, rfl, ⟨hq75_0, hq75_1, hq75_2, hq75_3⟩⟩ := hr
              refine j_eq (ws' := [(ra, o0 (some ba) (upS (upS R 2 at1_77) 3 ft1_78)), (ba, aInt E 100 tb)]) rfl rfl rfl ?_
              try simp only [upS, reduceIte, Nat.reduceEqDiff, eq_self] at hq75_0 hq75_1 hq75_2 hq75_3
              have hC := nm_of hq75_0
              have hCr := hq75_1
              have hCs := hq75_2
              have hCv := hq75_3
              clear hq75_0
              refine j_SP G (k0_momentsWith (xl Γ) E v68 v72 v76 (by first | assumption | omega | (simp only [upS, reduceIte, Nat.reduceEqDiff, eq_self, List.length_cons, List.length_nil, List.length_append] <;> omega)) (by first | assumption | omega | (simp only [upS, reduceIte, Nat.reduceEqDiff, eq_self, List.length_cons, List.length_nil, List.length_append] <;> omega)) (by first | assumption | omega | (simp only [upS, reduceIte, Nat.reduceEqDiff, eq_self, List.length_cons, List.length_nil, List.length_append] <;> omega))) mw0_momentsWith ml0_118 [] rfl ⟨Nat.le_of_ble_eq_true rfl, Nat.le_of_ble_eq_true rfl⟩ rfl (rest := []) rfl (Nat.le_of_ble_eq_true rfl) d0_single_124 ⟨Nat.le_of_ble_eq_true rfl, Nat.le_of_ble_eq_true rfl⟩ (fun r hr => ?_)
              obtain ⟨v80, rfl, ⟨hq79_0, hq79_1⟩⟩ := hr
              have hM := hq79_0
              have hMr := hq79_1
              have htst := sg_tst4 hI (by omega) hw.2 h33 h40 hA hBq hC hM
              refine j_istore G d0_single_127 (by decide) rfl ?_
              refine j_iload_n G 3 rfl d0_single_129 ?_
              refine j_if_eq (tgt := 143) G d0_single_130 (by decide) htR (fun h81 => ?_) (fun h81 => ?_)
              ·
                refine j_iload G 0 rfl d0_single_143 ?_
                exact j_iret G F d0_single_145 ⟨v80, at1_77, ft1_78, rfl, rfl, (by first | exact ⟨sg_par hI hlv2 (by omega) hc40 (by omega) he3 (by omega) hT ⟨fun q => by first | rfl | (exfalso; omega), fun q => by first | rfl | (exfalso; omega)⟩, by omega, by omega⟩ | exact ⟨htst _ ⟨fun q => by first | rfl | (exfalso; omega), fun q => by first | rfl | (exfalso; omega)⟩, by omega, by omega⟩)⟩
              ·
                refine j_ldc G 16777215 ct0_121 (by decide) d0_single_133 ?_
                refine j_iload G 0 rfl d0_single_135 ?_
                refine j_iconst G d0_single_137 ?_
                refine r_ixor G d0_single_138 ?_
                refine j_top (y := iZ (((iZ v80) ^^^ (iZ (-1))).toInt)) (iZ_of _).symm ?_
                refine r_iand G d0_single_139 ?_
                refine j_top (y := iZ (((iZ 16777215) &&& (iZ (((iZ v80) ^^^ (iZ (-1))).toInt))).toInt)) (iZ_of _).symm ?_
                refine j_goto (tgt := 145) G d0_single_140 (by decide) ?_
                exact j_iret G F d0_single_145 ⟨((iZ 16777215) &&& (iZ (((iZ v80) ^^^ (iZ (-1))).toInt))).toInt, at1_77, ft1_78, rfl, rfl, (by first | exact ⟨sg_par hI hlv2 (by omega) hc40 (by omega) he3 (by omega) hT ⟨fun q => by first | rfl | (exfalso; omega), fun q => by first | rfl | (exfalso; omega)⟩, by omega, by omega⟩ | exact ⟨htst _ ⟨fun q => by first | rfl | (exfalso; omega), fun q => by first | rfl | (exfalso; omega)⟩, by omega, by omega⟩)⟩
            ·
              have hlv2 : R 3 < 0 := ((hgC 40 (by decide) (by decide)).1 (by omega)).1
              have hc40 : nx U (R 1) az = 40 := ((hgC 40 (by decide) (by decide)).1 (by omega)).2
              refine j_aload_n G 2 rfl d0_single_58 ?_
              refine j_dup G d0_single_59 rfl ?_
              refine j_get G 0 0 2 in0 fl0_36 d0_single_60 rfl rfl (by decide) (v := .int (iZ az)) rfl rfl ?_
              refine j_iconst G d0_single_63 ?_
              refine j_iadd G d0_single_64 ?_
              refine j_put G 0 0 2 in0 tyok0 nm0 fl0_36 d0_single_65 rfl rfl (by decide) ⟨rfl, rfl⟩ rfl rfl (Nat.le_of_ble_eq_true rfl) (e := o0 (some ba) (upS R 2 (az + 1))) rfl ?_
              refine j_aload_n G 2 rfl d0_single_68 ?_
              refine j_iload_n G 1 rfl d0_single_69 ?_
              refine j_iconst G d0_single_70 ?_
              refine j_iadd G d0_single_71 ?_
              refine j_VM G (rm' := { frames := 4, cells := 0, slots := 0, locals := 92 }) (wc := [(ra, o0 (some ba) (upS R 2 (az + 1))), (ba, aInt E 100 tb)]) (wr := []) (k0_either_4 (xl Γ) E ra ba (upS R 2 (az + 1)) tb U (w + 1) (by first | assumption | omega | (simp only [upS, reduceIte, Nat.reduceEqDiff, eq_self, List.length_cons, List.length_nil, List.length_append] <;> omega)) (by first | assumption | omega | (simp only [upS, reduceIte, Nat.reduceEqDiff, eq_self, List.length_cons, List.length_nil, List.length_append] <;> omega)) (by first | assumption | omega | (simp only [upS, reduceIte, Nat.reduceEqDiff, eq_self, List.length_cons, List.length_nil, List.length_append] <;> omega)) (by first | assumption | omega | (simp only [upS, reduceIte, Nat.reduceEqDiff, eq_self, List.length_cons, List.length_nil, List.length_append] <;> omega)) (by first | assumption | omega | (simp only [upS, reduceIte, Nat.reduceEqDiff, eq_self, List.length_cons, List.length_nil, List.length_append] <;> omega))) mw0_either ml0_68 [0, 1] [] rfl rfl ⟨rfl, rfl⟩ (by decide) 0 0 rfl rfl rfl ⟨Nat.le_of_ble_eq_true rfl, Nat.le_of_ble_eq_true rfl⟩ rfl (rest := []) rfl (Nat.le_of_ble_eq_true rfl) d0_single_72 ⟨Nat.le_of_ble_eq_true rfl, Nat.le_of_ble_eq_true rfl⟩ (fun r w1 hr => ?_)
              obtain ⟨v83, at1_84, ft1_85, rfl, rfl, ⟨hq82_0, hq82_1, hq82_2⟩⟩ := hr
              refine j_eq (ws' := [(ra, o0 (some ba) (upS (upS R 2 at1_84) 3 ft1_85)), (ba, aInt E 100 tb)]) rfl rfl rfl ?_
              try simp only [upS, reduceIte, Nat.reduceEqDiff, eq_self] at hq82_0 hq82_1 hq82_2
              have he3 := hq82_0
              have hr3 := hq82_1
              have hx3 := hq82_2
              refine j_istore G d0_single_75 (by decide) rfl ?_
              refine j_aload_n G 3 rfl d0_single_77 ?_
              refine j_bipush G d0_single_78 rfl ?_
              refine j_bipush G d0_single_80 rfl ?_
              refine j_bipush G d0_single_82 rfl ?_
              refine j_VM G (rm' := { frames := 1, cells := 0, slots := 0, locals := 20 }) (wc := [(ra, o0 (some ba) (upS (upS R 2 at1_84) 3 ft1_85)), (ba, aInt E 100 tb)]) (wr := []) (k0_takeOneOf (xl Γ) E ra ba (upS (upS R 2 at1_84) 3 ft1_85) tb U 41 41 41 (by first | assumption | omega | (simp only [upS, reduceIte, Nat.reduceEqDiff, eq_self, List.length_cons, List.length_nil, List.length_append] <;> omega)) (by first | assumption | omega | (simp only [upS, reduceIte, Nat.reduceEqDiff, eq_self, List.length_cons, List.length_nil, List.length_append] <;> omega)) (by first | assumption | omega | (simp only [upS, reduceIte, Nat.reduceEqDiff, eq_self, List.length_cons, List.length_nil, List.length_append] <;> omega)) (by first | assumption | omega | (simp only [upS, reduceIte, Nat.reduceEqDiff, eq_self, List.length_cons, List.length_nil, List.length_append] <;> omega)) (by first | assumption | omega | (simp only [upS, reduceIte, Nat.reduceEqDiff, eq_self, List.length_cons, List.length_nil, List.length_append] <;> omega))) mw0_takeOneOf ml0_54 [0, 1] [] rfl rfl ⟨rfl, rfl⟩ (by decide) 0 0 rfl rfl rfl ⟨Nat.le_of_ble_eq_true rfl, Nat.le_of_ble_eq_true rfl⟩ rfl (rest := []) rfl (Nat.le_of_ble_eq_true rfl) d0_single_84 ⟨Nat.le_of_ble_eq_true rfl, Nat.le_of_ble_eq_true rfl⟩ (fun r w1 hr => ?_)
              obtain ⟨v87, at1_88, ft1_89, rfl, rfl, ⟨hq86_0, hq86_1, hq86_2, hq86_3⟩⟩ := hr
              refine j_eq (ws' := [(ra, o0 (some ba) (upS (upS R 2 at1_88) 3 ft1_89)), (ba, aInt E 100 tb)]) rfl rfl rfl ?_
              try simp only [upS, reduceIte, Nat.reduceEqDiff, eq_self] at hq86_0 hq86_1 hq86_2 hq86_3
              have hT := tk_of hq86_0
              have hTr := hq86_1
              have hTs := hq86_2
              clear hq86_0
              refine j_pop G d0_single_87 rfl ?_
              refine j_goto (tgt := 129) G d0_single_88 (by decide) ?_
              refine j_iload_n G 1 rfl d0_single_129 ?_
              refine j_if_eq (tgt := 143) G d0_single_130 (by decide) htR (fun h90 => ?_) (fun h90 => ?_)
              ·
                refine j_iload G 0 rfl d0_single_143 ?_
                exact j_iret G F d0_single_145 ⟨v83, at1_88, ft1_89, rfl, rfl, (by first | exact ⟨sg_par hI hlv2 (by omega) hc40 (by omega) he3 (by omega) hT ⟨fun q => by first | rfl | (exfalso; omega), fun q => by first | rfl | (exfalso; omega)⟩, by omega, by omega⟩ | exact ⟨htst _ ⟨fun q => by first | rfl | (exfalso; omega), fun q => by first | rfl | (exfalso; omega)⟩, by omega, by omega⟩)⟩
              ·
                refine j_ldc G 16777215 ct0_121 (by decide) d0_single_133 ?_
                refine j_iload G 0 rfl d0_single_135 ?_
                refine j_iconst G d0_single_137 ?_
                refine r_ixor G d0_single_138 ?_
                refine j_top (y := iZ (((iZ v83) ^^^ (iZ (-1))).toInt)) (iZ_of _).symm ?_
                refine r_iand G d0_single_139 ?_
                refine j_top (y := iZ (((iZ 16777215) &&& (iZ (((iZ v83) ^^^ (iZ (-1))).toInt))).toInt)) (iZ_of _).symm ?_
                refine j_goto (tgt := 145) G d0_single_140 (by decide) ?_
                exact j_iret G F d0_single_145 ⟨((iZ 16777215) &&& (iZ (((iZ v83) ^^^ (iZ (-1))).toInt))).toInt, at1_88, ft1_89, rfl, rfl, (by first | exact ⟨sg_par hI hlv2 (by omega) hc40 (by omega) he3 (by omega) hT ⟨fun q => by first | rfl | (exfalso; omega), fun q => by first | rfl | (exfalso; omega)⟩, by omega, by omega⟩ | exact ⟨htst _ ⟨fun q => by first | rfl | (exfalso; omega), fun q => by first | rfl | (exfalso; omega)⟩, by omega, by omega⟩)⟩
        ·
          have hlive : R 3 < 0 := ((hpC 33 (by decide) (by decide)).1 (by omega)).1
          have hnc : nx U (R 1) az = 33 := ((hpC 33 (by decide) (by decide)).1 (by omega)).2
          refine j_aload_n G 2 rfl d0_single_18 ?_
          refine j_dup G d0_single_19 rfl ?_
          refine j_get G 0 0 2 in0 fl0_36 d0_single_20 rfl rfl (by decide) (v := .int (iZ az)) rfl rfl ?_
          refine j_iconst G d0_single_23 ?_
          refine j_iadd G d0_single_24 ?_
          refine j_put G 0 0 2 in0 tyok0 nm0 fl0_36 d0_single_25 rfl rfl (by decide) ⟨rfl, rfl⟩ rfl rfl (Nat.le_of_ble_eq_true rfl) (e := o0 (some ba) (upS R 2 (az + 1))) rfl ?_
          refine j_iinc G d0_single_28 1 rfl (by decide) rfl ?_
          refine j_iload_n G 1 rfl d0_single_31 ?_
          have mg32 : ∀ x91 : Int, x91 = (if tn ≠ 0 then 0 else 1) → J E 7 Γ (some A) 0 0 [(ra, o0 (some ba) (upS R 2 (az + 1))), (ba, aInt E 100 tb)] 40 [(2, .int (iZ (w + 1))), (3, .int (iZ tn)), (0, .ref ra), (1, .int (iZ dp))] ([.int (iZ x91)]) := by
            intro x91 ex91
            have hxt : x91 = if tn = 0 then 1 else 0 := by rw [ex91]; (repeat' split) <;> omega
            refine j_istore_n G d0_single_40 (by decide) rfl ?_
            refine j_goto (tgt := 4) G d0_single_41 (by decide) ?_
            exact ih4 (w + 1) x91 (az + 1) (by omega) (by first | assumption | omega) (by first | assumption | omega) (by first | assumption | omega) (by have q := nt_s hI hlive hnc (by omega); rw [← hxt] at q; exact q)
          refine j_if_ne (tgt := 39) G d0_single_32 (by decide) htR (fun h92 => ?_) (fun h92 => ?_)
          ·
            refine j_iconst G d0_single_39 ?_
            refine j_eq (ws' := [(ra, o0 (some ba) (upS R 2 (az + 1))), (ba, aInt E 100 tb)]) (ls' := [(2, .int (iZ (w + 1))), (3, .int (iZ tn)), (0, .ref ra), (1, .int (iZ dp))]) rfl rfl rfl ?_
            exact mg32 _ (by first | rfl | (simp only [*, if_true, if_false, ite_true, ite_false]; done) | (split <;> first | rfl | omega | (split <;> first | rfl | omega | (split <;> first | rfl | omega))))
          ·
            refine j_iconst G d0_single_35 ?_
            refine j_goto (tgt := 40) G d0_single_36 (by decide) ?_
            refine j_eq (ws' := [(ra, o0 (some ba) (upS R 2 (az + 1))), (ba, aInt E 100 tb)]) (ls' := [(2, .int (iZ (w + 1))), (3, .int (iZ tn)), (0, .ref ra), (1, .int (iZ dp))]) rfl rfl rfl ?_
            exact mg32 _ (by first | rfl | (simp only [*, if_true, if_false, ite_true, ite_false]; done) | (split <;> first | rfl | omega | (split <;> first | rfl | omega | (split <;> first | rfl | omega))))
  exact lp4 _ dp 0 (R 2) (Nat.lt_succ_self _) (by first | assumption | omega) (by first | assumption | omega) (by first | assumption | omega) (nt_0 hft.1)
set_option maxHeartbeats 4000000 in
set_option maxRecDepth 100000 in
theorem k0_both_3 (l : Launch) (E : En) (ra : Nat) (ba : Nat) (R : Nat → Int) (tb : Int → Int) (U : Int → Int) (dp : Int) (htb : ∀ j, 0 ≤ j → j < 100 → tb j = U j % 256 ∧ -128 ≤ U j ∧ U j ≤ 127) (hln : 0 ≤ R 1 ∧ R 1 ≤ 100) (hat : 0 ≤ R 2 ∧ R 2 ≤ R 1) (hft : -1 ≤ R 3 ∧ R 3 ≤ 200) (hdp : 3 ≤ dp ∧ dp ≤ 4) : Cm l E y0_both c0_both 3 (some .int) { frames := 6, cells := 0, slots := 0, locals := 140 } [.ref ra, .int (iZ dp)] [(ra, o0 (some ba) R), (ba, aInt E 100 tb)] (fun r ws => ∃ (v : Int), ∃ (at1 : Int), ∃ (ft1 : Int), r = some (.int (iZ v)) ∧ ws = [(ra, o0 (some ba) (upS (upS R 2 at1) 3 ft1)), (ba, aInt E 100 tb)] ∧ (ExS U (R 1) 2 dp (R 2) (R 3) at1 ft1 v ∧ (R 2 ≤ at1 ∧ at1 ≤ R 1) ∧ (-1 ≤ ft1 ∧ ft1 ≤ 200))) := by
  refine Cm.of (by decide +kernel) (Nat.le_of_ble_eq_true rfl) (fun Γ A hl hargs hin G F => ?_)
  subst hl
  refine j_aload_n G 0 rfl d0_both_0 ?_
  refine j_iload_n G 1 rfl d0_both_1 ?_
  refine j_VM G (rm' := { frames := 5, cells := 0, slots := 0, locals := 114 }) (wc := [(ra, o0 (some ba) R), (ba, aInt E 100 tb)]) (wr := []) (k0_single_3 (xl Γ) E ra ba R tb U dp (by first | assumption | omega | (simp only [upS, reduceIte, Nat.reduceEqDiff, eq_self, List.length_cons, List.length_nil, List.length_append] <;> omega)) (by first | assumption | omega | (simp only [upS, reduceIte, Nat.reduceEqDiff, eq_self, List.length_cons, List.length_nil, List.length_append] <;> omega)) (by first | assumption | omega | (simp only [upS, reduceIte, Nat.reduceEqDiff, eq_self, List.length_cons, List.length_nil, List.length_append] <;> omega)) (by first | assumption | omega | (simp only [upS, reduceIte, Nat.reduceEqDiff, eq_self, List.length_cons, List.length_nil, List.length_append] <;> omega)) (by first | assumption | omega | (simp only [upS, reduceIte, Nat.reduceEqDiff, eq_self, List.length_cons, List.length_nil, List.length_append] <;> omega))) mw0_single ml0_115 [0, 1] [] rfl rfl ⟨rfl, rfl⟩ (by decide) 0 0 rfl rfl rfl ⟨Nat.le_of_ble_eq_true rfl, Nat.le_of_ble_eq_true rfl⟩ rfl (rest := []) rfl (Nat.le_of_ble_eq_true rfl) d0_both_2 ⟨Nat.le_of_ble_eq_true rfl, Nat.le_of_ble_eq_true rfl⟩ (fun r w1 hr => ?_)
  obtain ⟨v2, at1_3, ft1_4, rfl, rfl, ⟨hq1_0, hq1_1, hq1_2⟩⟩ := hr
  refine j_eq (ws' := [(ra, o0 (some ba) (upS (upS R 2 at1_3) 3 ft1_4)), (ba, aInt E 100 tb)]) rfl rfl rfl ?_
  have he0 := hq1_0
  have hr0 := hq1_1
  have hx0 := hq1_2
  refine j_istore_n G d0_both_5 (by decide) rfl ?_
  have lp6 : ∀ (fu : Nat) (m : Int) (az : Int) (f : Int), (R 1 - az).toNat < fu → (R 2 ≤ az ∧ az ≤ R 1) → (-1 ≤ f ∧ f ≤ 200) → (LpS U (R 1) 2 dp (R 2) (R 3) az f m) →  J E 3 Γ (some A) 0 0 [(ra, o0 (some ba) (upS (upS R 2 az) 3 f)), (ba, aInt E 100 tb)] 6 [(2, .int (iZ m)), (0, .ref ra), (1, .int (iZ dp))] [] := by
    intro fu
    induction fu with
    | zero =>
      intro m az f hm
      exact absurd hm (Nat.not_lt_zero _)
    | succ fu ih6 =>
      intro m az f hm haz hf hI
      refine j_aload_n G 1 rfl d0_both_6 ?_
      refine j_get G 0 0 2 in0 fl0_36 d0_both_7 rfl rfl (by decide) (v := .int (iZ az)) rfl rfl ?_
      refine j_aload_n G 1 rfl d0_both_10 ?_
      refine j_get G 0 0 1 in0 fl0_25 d0_both_11 rfl rfl (by decide) (v := .int (iZ (R 1))) rfl rfl ?_
      refine j_icmp_ge (tgt := 47) G d0_both_14 (by decide) (by omega) (by omega) (fun h5 => ?_) (fun h5 => ?_)
      ·
        have hend := lp_e hI (fun q => ⟨fun _ => by first | (refine fun z => absurd ((hpC 38 (by decide) (by decide)).2 ⟨q, z⟩) ?_; omega) | (unfold nx; rw [if_neg (by omega)]; decide), fun e => absurd e (by decide)⟩) (by decide)
        refine j_iload_n G 0 rfl d0_both_47 ?_
        exact j_iret G F d0_both_48 ⟨m, az, f, rfl, rfl, (by exact ⟨hend, by omega, by omega⟩)⟩
      ·
        refine j_aload_n G 1 rfl d0_both_17 ?_
        refine j_VP G (k0_peek (xl Γ) E ra ba (upS (upS R 2 az) 3 f) tb U (by first | assumption | omega | (simp only [upS, reduceIte, Nat.reduceEqDiff, eq_self, List.length_cons, List.length_nil, List.length_append] <;> omega)) (by first | assumption | omega | (simp only [upS, reduceIte, Nat.reduceEqDiff, eq_self, List.length_cons, List.length_nil, List.length_append] <;> omega)) (by first | assumption | omega | (simp only [upS, reduceIte, Nat.reduceEqDiff, eq_self, List.length_cons, List.length_nil, List.length_append] <;> omega)) (by first | assumption | omega | (simp only [upS, reduceIte, Nat.reduceEqDiff, eq_self, List.length_cons, List.length_nil, List.length_append] <;> omega))) mw0_peek ml0_32 [0, 1] rfl 0 0 rfl rfl rfl ⟨Nat.le_of_ble_eq_true rfl, Nat.le_of_ble_eq_true rfl⟩ rfl (rest := []) rfl (Nat.le_of_ble_eq_true rfl) d0_both_18 ⟨Nat.le_of_ble_eq_true rfl, Nat.le_of_ble_eq_true rfl⟩ (fun r hr => ?_)
        obtain ⟨v7, rfl, ⟨hq6_0, hq6_1, hq6_2, hq6_3, hq6_4⟩⟩ := hr
        try simp only [upS, reduceIte, Nat.reduceEqDiff, eq_self] at hq6_0 hq6_1 hq6_2 hq6_3 hq6_4
        have hpC := pk_of hq6_0 hq6_1 hq6_2
        have hp2 := hq6_2
        clear hq6_0 hq6_1 hq6_3 hq6_4
        refine j_bipush G d0_both_21 rfl ?_
        refine j_icmp_ne (tgt := 47) G d0_both_23 (by decide) (r32_pk hp2) (by decide) (fun h8 => ?_) (fun h8 => ?_)
        ·
          have hend := lp_e hI (fun q => ⟨fun _ => by first | (refine fun z => absurd ((hpC 38 (by decide) (by decide)).2 ⟨q, z⟩) ?_; omega) | (unfold nx; rw [if_neg (by omega)]; decide), fun e => absurd e (by decide)⟩) (by decide)
          refine j_iload_n G 0 rfl d0_both_47 ?_
          exact j_iret G F d0_both_48 ⟨m, az, f, rfl, rfl, (by exact ⟨hend, by omega, by omega⟩)⟩
        ·
          have hlive : f < 0 := ((hpC 38 (by decide) (by decide)).1 (by omega)).1
          have hnc : nx U (R 1) az = 38 := ((hpC 38 (by decide) (by decide)).1 (by omega)).2
          refine j_aload_n G 1 rfl d0_both_26 ?_
          refine j_dup G d0_both_27 rfl ?_
          refine j_get G 0 0 2 in0 fl0_36 d0_both_28 rfl rfl (by decide) (v := .int (iZ az)) rfl rfl ?_
          refine j_iconst G d0_both_31 ?_
          refine j_iadd G d0_both_32 ?_
          refine j_put G 0 0 2 in0 tyok0 nm0 fl0_36 d0_both_33 rfl rfl (by decide) ⟨rfl, rfl⟩ rfl rfl (Nat.le_of_ble_eq_true rfl) (e := o0 (some ba) (upS (upS R 3 f) 2 (az + 1))) rfl ?_
          refine j_iload_n G 0 rfl d0_both_36 ?_
          refine j_aload_n G 1 rfl d0_both_37 ?_
          refine j_iload_n G 2 rfl d0_both_38 ?_
          refine j_VM G (rm' := { frames := 5, cells := 0, slots := 0, locals := 114 }) (wc := [(ra, o0 (some ba) (upS (upS R 3 f) 2 (az + 1))), (ba, aInt E 100 tb)]) (wr := []) (k0_single_3 (xl Γ) E ra ba (upS (upS R 3 f) 2 (az + 1)) tb U dp (by first | assumption | omega | (simp only [upS, reduceIte, Nat.reduceEqDiff, eq_self, List.length_cons, List.length_nil, List.length_append] <;> omega)) (by first | assumption | omega | (simp only [upS, reduceIte, Nat.reduceEqDiff, eq_self, List.length_cons, List.length_nil, List.length_append] <;> omega)) (by first | assumption | omega | (simp only [upS, reduceIte, Nat.reduceEqDiff, eq_self, List.length_cons, List.length_nil, List.length_append] <;> omega)) (by first | assumption | omega | (simp only [upS, reduceIte, Nat.reduceEqDiff, eq_self, List.length_cons, List.length_nil, List.length_append] <;> omega)) (by first | assumption | omega | (simp only [upS, reduceIte, Nat.reduceEqDiff, eq_self, List.length_cons, List.length_nil, List.length_append] <;> omega))) mw0_single ml0_115 [0, 1] [] rfl rfl ⟨rfl, rfl⟩ (by decide) 0 0 rfl rfl rfl ⟨Nat.le_of_ble_eq_true rfl, Nat.le_of_ble_eq_true rfl⟩ rfl (rest := [.int (iZ m)]) rfl (Nat.le_of_ble_eq_true rfl) d0_both_39 ⟨Nat.le_of_ble_eq_true rfl, Nat.le_of_ble_eq_true rfl⟩ (fun r w1 hr => ?_)
          obtain ⟨v10, at1_11, ft1_12, rfl, rfl, ⟨hq9_0, hq9_1, hq9_2⟩⟩ := hr
          refine j_eq (ws' := [(ra, o0 (some ba) (upS (upS R 2 at1_11) 3 ft1_12)), (ba, aInt E 100 tb)]) rfl rfl rfl ?_
          try simp only [upS, reduceIte, Nat.reduceEqDiff, eq_self] at hq9_0 hq9_1 hq9_2
          have he1 := hq9_0
          have hr1 := hq9_1
          have hx1 := hq9_2
          refine r_iand G d0_both_42 ?_
          refine j_top (y := iZ (((iZ m) &&& (iZ v10)).toInt)) (iZ_of _).symm ?_
          refine j_istore_n G d0_both_43 (by decide) rfl ?_
          refine j_goto (tgt := 6) G d0_both_44 (by decide) ?_
          exact ih6 (((iZ m) &&& (iZ v10)).toInt) at1_11 ft1_12 (by omega) (by first | assumption | omega) (by first | assumption | omega) (lp_and hI hlive hnc he1)
  exact lp6 _ v2 at1_3 ft1_4 (Nat.lt_succ_self _) (by first | assumption | omega) (by first | assumption | omega) (lp_0 (by decide) he0)
set_option maxHeartbeats 4000000 in
set_option maxRecDepth 100000 in
theorem k0_either_3 (l : Launch) (E : En) (ra : Nat) (ba : Nat) (R : Nat → Int) (tb : Int → Int) (U : Int → Int) (dp : Int) (htb : ∀ j, 0 ≤ j → j < 100 → tb j = U j % 256 ∧ -128 ≤ U j ∧ U j ≤ 127) (hln : 0 ≤ R 1 ∧ R 1 ≤ 100) (hat : 0 ≤ R 2 ∧ R 2 ≤ R 1) (hft : -1 ≤ R 3 ∧ R 3 ≤ 200) (hdp : 3 ≤ dp ∧ dp ≤ 4) : Cm l E y0_either c0_either 3 (some .int) { frames := 7, cells := 0, slots := 0, locals := 162 } [.ref ra, .int (iZ dp)] [(ra, o0 (some ba) R), (ba, aInt E 100 tb)] (fun r ws => ∃ (v : Int), ∃ (at1 : Int), ∃ (ft1 : Int), r = some (.int (iZ v)) ∧ ws = [(ra, o0 (some ba) (upS (upS R 2 at1) 3 ft1)), (ba, aInt E 100 tb)] ∧ (ExS U (R 1) 3 dp (R 2) (R 3) at1 ft1 v ∧ (R 2 ≤ at1 ∧ at1 ≤ R 1) ∧ (-1 ≤ ft1 ∧ ft1 ≤ 200))) := by
  refine Cm.of (by decide +kernel) (Nat.le_of_ble_eq_true rfl) (fun Γ A hl hargs hin G F => ?_)
  subst hl
  refine j_aload_n G 0 rfl d0_either_0 ?_
  refine j_iload_n G 1 rfl d0_either_1 ?_
  refine j_VM G (rm' := { frames := 6, cells := 0, slots := 0, locals := 140 }) (wc := [(ra, o0 (some ba) R), (ba, aInt E 100 tb)]) (wr := []) (k0_both_3 (xl Γ) E ra ba R tb U dp (by first | assumption | omega | (simp only [upS, reduceIte, Nat.reduceEqDiff, eq_self, List.length_cons, List.length_nil, List.length_append] <;> omega)) (by first | assumption | omega | (simp only [upS, reduceIte, Nat.reduceEqDiff, eq_self, List.length_cons, List.length_nil, List.length_append] <;> omega)) (by first | assumption | omega | (simp only [upS, reduceIte, Nat.reduceEqDiff, eq_self, List.length_cons, List.length_nil, List.length_append] <;> omega)) (by first | assumption | omega | (simp only [upS, reduceIte, Nat.reduceEqDiff, eq_self, List.length_cons, List.length_nil, List.length_append] <;> omega)) (by first | assumption | omega | (simp only [upS, reduceIte, Nat.reduceEqDiff, eq_self, List.length_cons, List.length_nil, List.length_append] <;> omega))) mw0_both ml0_112 [0, 1] [] rfl rfl ⟨rfl, rfl⟩ (by decide) 0 0 rfl rfl rfl ⟨Nat.le_of_ble_eq_true rfl, Nat.le_of_ble_eq_true rfl⟩ rfl (rest := []) rfl (Nat.le_of_ble_eq_true rfl) d0_either_2 ⟨Nat.le_of_ble_eq_true rfl, Nat.le_of_ble_eq_true rfl⟩ (fun r w1 hr => ?_)
  obtain ⟨v2, at1_3, ft1_4, rfl, rfl, ⟨hq1_0, hq1_1, hq1_2⟩⟩ := hr
  refine j_eq (ws' := [(ra, o0 (some ba) (upS (upS R 2 at1_3) 3 ft1_4)), (ba, aInt E 100 tb)]) rfl rfl rfl ?_
  have he0 := hq1_0
  have hr0 := hq1_1
  have hx0 := hq1_2
  refine j_istore_n G d0_either_5 (by decide) rfl ?_
  have lp6 : ∀ (fu : Nat) (m : Int) (az : Int) (f : Int), (R 1 - az).toNat < fu → (R 2 ≤ az ∧ az ≤ R 1) → (-1 ≤ f ∧ f ≤ 200) → (LpS U (R 1) 3 dp (R 2) (R 3) az f m) →  J E 3 Γ (some A) 0 0 [(ra, o0 (some ba) (upS (upS R 2 az) 3 f)), (ba, aInt E 100 tb)] 6 [(2, .int (iZ m)), (0, .ref ra), (1, .int (iZ dp))] [] := by
    intro fu
    induction fu with
    | zero =>
      intro m az f hm
      exact absurd hm (Nat.not_lt_zero _)
    | succ fu ih6 =>
      intro m az f hm haz hf hI
      refine j_aload_n G 1 rfl d0_either_6 ?_
      refine j_get G 0 0 2 in0 fl0_36 d0_either_7 rfl rfl (by decide) (v := .int (iZ az)) rfl rfl ?_
      refine j_aload_n G 1 rfl d0_either_10 ?_
      refine j_get G 0 0 1 in0 fl0_25 d0_either_11 rfl rfl (by decide) (v := .int (iZ (R 1))) rfl rfl ?_
      refine j_icmp_ge (tgt := 47) G d0_either_14 (by decide) (by omega) (by omega) (fun h5 => ?_) (fun h5 => ?_)
      ·
        have hend := lp_e hI (fun q => ⟨fun e => absurd e (by decide), fun _ => by first | (refine fun z => absurd ((hpC 124 (by decide) (by decide)).2 ⟨q, z⟩) ?_; omega) | (unfold nx; rw [if_neg (by omega)]; decide)⟩) (by decide)
        refine j_iload_n G 0 rfl d0_either_47 ?_
        exact j_iret G F d0_either_48 ⟨m, az, f, rfl, rfl, (by exact ⟨hend, by omega, by omega⟩)⟩
      ·
        refine j_aload_n G 1 rfl d0_either_17 ?_
        refine j_VP G (k0_peek (xl Γ) E ra ba (upS (upS R 2 az) 3 f) tb U (by first | assumption | omega | (simp only [upS, reduceIte, Nat.reduceEqDiff, eq_self, List.length_cons, List.length_nil, List.length_append] <;> omega)) (by first | assumption | omega | (simp only [upS, reduceIte, Nat.reduceEqDiff, eq_self, List.length_cons, List.length_nil, List.length_append] <;> omega)) (by first | assumption | omega | (simp only [upS, reduceIte, Nat.reduceEqDiff, eq_self, List.length_cons, List.length_nil, List.length_append] <;> omega)) (by first | assumption | omega | (simp only [upS, reduceIte, Nat.reduceEqDiff, eq_self, List.length_cons, List.length_nil, List.length_append] <;> omega))) mw0_peek ml0_32 [0, 1] rfl 0 0 rfl rfl rfl ⟨Nat.le_of_ble_eq_true rfl, Nat.le_of_ble_eq_true rfl⟩ rfl (rest := []) rfl (Nat.le_of_ble_eq_true rfl) d0_either_18 ⟨Nat.le_of_ble_eq_true rfl, Nat.le_of_ble_eq_true rfl⟩ (fun r hr => ?_)
        obtain ⟨v7, rfl, ⟨hq6_0, hq6_1, hq6_2, hq6_3, hq6_4⟩⟩ := hr
        try simp only [upS, reduceIte, Nat.reduceEqDiff, eq_self] at hq6_0 hq6_1 hq6_2 hq6_3 hq6_4
        have hpC := pk_of hq6_0 hq6_1 hq6_2
        have hp2 := hq6_2
        clear hq6_0 hq6_1 hq6_3 hq6_4
        refine j_bipush G d0_either_21 rfl ?_
        refine j_icmp_ne (tgt := 47) G d0_either_23 (by decide) (r32_pk hp2) (by decide) (fun h8 => ?_) (fun h8 => ?_)
        ·
          have hend := lp_e hI (fun q => ⟨fun e => absurd e (by decide), fun _ => by first | (refine fun z => absurd ((hpC 124 (by decide) (by decide)).2 ⟨q, z⟩) ?_; omega) | (unfold nx; rw [if_neg (by omega)]; decide)⟩) (by decide)
          refine j_iload_n G 0 rfl d0_either_47 ?_
          exact j_iret G F d0_either_48 ⟨m, az, f, rfl, rfl, (by exact ⟨hend, by omega, by omega⟩)⟩
        ·
          have hlive : f < 0 := ((hpC 124 (by decide) (by decide)).1 (by omega)).1
          have hnc : nx U (R 1) az = 124 := ((hpC 124 (by decide) (by decide)).1 (by omega)).2
          refine j_aload_n G 1 rfl d0_either_26 ?_
          refine j_dup G d0_either_27 rfl ?_
          refine j_get G 0 0 2 in0 fl0_36 d0_either_28 rfl rfl (by decide) (v := .int (iZ az)) rfl rfl ?_
          refine j_iconst G d0_either_31 ?_
          refine j_iadd G d0_either_32 ?_
          refine j_put G 0 0 2 in0 tyok0 nm0 fl0_36 d0_either_33 rfl rfl (by decide) ⟨rfl, rfl⟩ rfl rfl (Nat.le_of_ble_eq_true rfl) (e := o0 (some ba) (upS (upS R 3 f) 2 (az + 1))) rfl ?_
          refine j_iload_n G 0 rfl d0_either_36 ?_
          refine j_aload_n G 1 rfl d0_either_37 ?_
          refine j_iload_n G 2 rfl d0_either_38 ?_
          refine j_VM G (rm' := { frames := 6, cells := 0, slots := 0, locals := 140 }) (wc := [(ra, o0 (some ba) (upS (upS R 3 f) 2 (az + 1))), (ba, aInt E 100 tb)]) (wr := []) (k0_both_3 (xl Γ) E ra ba (upS (upS R 3 f) 2 (az + 1)) tb U dp (by first | assumption | omega | (simp only [upS, reduceIte, Nat.reduceEqDiff, eq_self, List.length_cons, List.length_nil, List.length_append] <;> omega)) (by first | assumption | omega | (simp only [upS, reduceIte, Nat.reduceEqDiff, eq_self, List.length_cons, List.length_nil, List.length_append] <;> omega)) (by first | assumption | omega | (simp only [upS, reduceIte, Nat.reduceEqDiff, eq_self, List.length_cons, List.length_nil, List.length_append] <;> omega)) (by first | assumption | omega | (simp only [upS, reduceIte, Nat.reduceEqDiff, eq_self, List.length_cons, List.length_nil, List.length_append] <;> omega)) (by first | assumption | omega | (simp only [upS, reduceIte, Nat.reduceEqDiff, eq_self, List.length_cons, List.length_nil, List.length_append] <;> omega))) mw0_both ml0_112 [0, 1] [] rfl rfl ⟨rfl, rfl⟩ (by decide) 0 0 rfl rfl rfl ⟨Nat.le_of_ble_eq_true rfl, Nat.le_of_ble_eq_true rfl⟩ rfl (rest := [.int (iZ m)]) rfl (Nat.le_of_ble_eq_true rfl) d0_either_39 ⟨Nat.le_of_ble_eq_true rfl, Nat.le_of_ble_eq_true rfl⟩ (fun r w1 hr => ?_)
          obtain ⟨v10, at1_11, ft1_12, rfl, rfl, ⟨hq9_0, hq9_1, hq9_2⟩⟩ := hr
          refine j_eq (ws' := [(ra, o0 (some ba) (upS (upS R 2 at1_11) 3 ft1_12)), (ba, aInt E 100 tb)]) rfl rfl rfl ?_
          try simp only [upS, reduceIte, Nat.reduceEqDiff, eq_self] at hq9_0 hq9_1 hq9_2
          have he1 := hq9_0
          have hr1 := hq9_1
          have hx1 := hq9_2
          refine r_ior G d0_either_42 ?_
          refine j_top (y := iZ (((iZ m) ||| (iZ v10)).toInt)) (iZ_of _).symm ?_
          refine j_istore_n G d0_either_43 (by decide) rfl ?_
          refine j_goto (tgt := 6) G d0_either_44 (by decide) ?_
          exact ih6 (((iZ m) ||| (iZ v10)).toInt) at1_11 ft1_12 (by omega) (by first | assumption | omega) (by first | assumption | omega) (lp_or hI hlive hnc he1)
  exact lp6 _ v2 at1_3 ft1_4 (Nat.lt_succ_self _) (by first | assumption | omega) (by first | assumption | omega) (lp_0 (by decide) he0)
set_option maxHeartbeats 4000000 in
set_option maxRecDepth 100000 in
theorem k0_single_2 (l : Launch) (E : En) (ra : Nat) (ba : Nat) (R : Nat → Int) (tb : Int → Int) (U : Int → Int) (dp : Int) (htb : ∀ j, 0 ≤ j → j < 100 → tb j = U j % 256 ∧ -128 ≤ U j ∧ U j ≤ 127) (hln : 0 ≤ R 1 ∧ R 1 ≤ 100) (hat : 0 ≤ R 2 ∧ R 2 ≤ R 1) (hft : -1 ≤ R 3 ∧ R 3 ≤ 200) (hdp : 2 ≤ dp ∧ dp ≤ 4) : Cm l E y0_single c0_single 7 (some .int) { frames := 8, cells := 0, slots := 0, locals := 184 } [.ref ra, .int (iZ dp)] [(ra, o0 (some ba) R), (ba, aInt E 100 tb)] (fun r ws => ∃ (v : Int), ∃ (at1 : Int), ∃ (ft1 : Int), r = some (.int (iZ v)) ∧ ws = [(ra, o0 (some ba) (upS (upS R 2 at1) 3 ft1)), (ba, aInt E 100 tb)] ∧ (ExS U (R 1) 1 dp (R 2) (R 3) at1 ft1 v ∧ (R 2 ≤ at1 ∧ at1 ≤ R 1) ∧ (-1 ≤ ft1 ∧ ft1 ≤ 200))) := by
  refine Cm.of (by decide +kernel) (Nat.le_of_ble_eq_true rfl) (fun Γ A hl hargs hin G F => ?_)
  subst hl
  refine j_iload_n G 1 rfl d0_single_0 ?_
  refine j_istore_n G d0_single_1 (by decide) rfl ?_
  refine j_iconst G d0_single_2 ?_
  refine j_istore_n G d0_single_3 (by decide) rfl ?_
  refine j_eq (ws' := [(ra, o0 (some ba) (upS R 2 (R 2))), (ba, aInt E 100 tb)]) rfl rfl rfl ?_
  have lp4 : ∀ (fu : Nat) (w : Int) (tn : Int) (az : Int), (4 - w).toNat < fu → (dp ≤ w ∧ w ≤ 4) → (tn = 0 ∨ tn = 1) → (R 2 ≤ az ∧ az ≤ R 1) → (NtI U (R 1) dp (R 2) (R 3) w tn az) →  J E 7 Γ (some A) 0 0 [(ra, o0 (some ba) (upS R 2 az)), (ba, aInt E 100 tb)] 4 [(3, .int (iZ tn)), (2, .int (iZ w)), (0, .ref ra), (1, .int (iZ dp))] [] := by
    intro fu
    induction fu with
    | zero =>
      intro w tn az hm
      exact absurd hm (Nat.not_lt_zero _)
    | succ fu ih4 =>
      intro w tn az hm hw htn haz hI
      have hwR : R32 w := ⟨by omega, by omega⟩
      have htR : R32 tn := ⟨by omega, by omega⟩
      refine j_aload_n G 2 rfl d0_single_4 ?_
      refine j_VP G (k0_peek (xl Γ) E ra ba (upS R 2 az) tb U (by first | assumption | omega | (simp only [upS, reduceIte, Nat.reduceEqDiff, eq_self, List.length_cons, List.length_nil, List.length_append] <;> omega)) (by first | assumption | omega | (simp only [upS, reduceIte, Nat.reduceEqDiff, eq_self, List.length_cons, List.length_nil, List.length_append] <;> omega)) (by first | assumption | omega | (simp only [upS, reduceIte, Nat.reduceEqDiff, eq_self, List.length_cons, List.length_nil, List.length_append] <;> omega)) (by first | assumption | omega | (simp only [upS, reduceIte, Nat.reduceEqDiff, eq_self, List.length_cons, List.length_nil, List.length_append] <;> omega))) mw0_peek ml0_32 [0, 1] rfl 0 0 rfl rfl rfl ⟨Nat.le_of_ble_eq_true rfl, Nat.le_of_ble_eq_true rfl⟩ rfl (rest := []) rfl (Nat.le_of_ble_eq_true rfl) d0_single_5 ⟨Nat.le_of_ble_eq_true rfl, Nat.le_of_ble_eq_true rfl⟩ (fun r hr => ?_)
      obtain ⟨v2, rfl, ⟨hq1_0, hq1_1, hq1_2, hq1_3, hq1_4⟩⟩ := hr
      try simp only [upS, reduceIte, Nat.reduceEqDiff, eq_self] at hq1_0 hq1_1 hq1_2 hq1_3 hq1_4
      have hpC := pk_of hq1_0 hq1_1 hq1_2
      have hp2 := hq1_2
      have hp3 := hq1_3
      clear hq1_0 hq1_1 hq1_3 hq1_4
      refine j_bipush G d0_single_8 rfl ?_
      refine j_icmp_ne (tgt := 44) G d0_single_10 (by decide) (r32_pk hp2) (by decide) (fun h3 => ?_) (fun h3 => ?_)
      ·
        refine j_aload_n G 2 rfl d0_single_44 ?_
        refine j_VP G (k0_peek (xl Γ) E ra ba (upS R 2 az) tb U (by first | assumption | omega | (simp only [upS, reduceIte, Nat.reduceEqDiff, eq_self, List.length_cons, List.length_nil, List.length_append] <;> omega)) (by first | assumption | omega | (simp only [upS, reduceIte, Nat.reduceEqDiff, eq_self, List.length_cons, List.length_nil, List.length_append] <;> omega)) (by first | assumption | omega | (simp only [upS, reduceIte, Nat.reduceEqDiff, eq_self, List.length_cons, List.length_nil, List.length_append] <;> omega)) (by first | assumption | omega | (simp only [upS, reduceIte, Nat.reduceEqDiff, eq_self, List.length_cons, List.length_nil, List.length_append] <;> omega))) mw0_peek ml0_32 [0, 1] rfl 0 0 rfl rfl rfl ⟨Nat.le_of_ble_eq_true rfl, Nat.le_of_ble_eq_true rfl⟩ rfl (rest := []) rfl (Nat.le_of_ble_eq_true rfl) d0_single_45 ⟨Nat.le_of_ble_eq_true rfl, Nat.le_of_ble_eq_true rfl⟩ (fun r hr => ?_)
        obtain ⟨v5, rfl, ⟨hq4_0, hq4_1, hq4_2, hq4_3, hq4_4⟩⟩ := hr
        try simp only [upS, reduceIte, Nat.reduceEqDiff, eq_self] at hq4_0 hq4_1 hq4_2 hq4_3 hq4_4
        have hgC := pk_of hq4_0 hq4_1 hq4_2
        have hg2 := hq4_2
        have hg3 := hq4_3
        clear hq4_0 hq4_1 hq4_3 hq4_4
        refine j_bipush G d0_single_48 rfl ?_
        refine j_icmp_ne (tgt := 91) G d0_single_50 (by decide) (r32_pk hg2) (by decide) (fun h6 => ?_) (fun h6 => ?_)
        ·
          have h33 : R 3 < 0 → nx U (R 1) az = 33 → 4 ≤ w := fun q1 q2 => by have z := (hpC 33 (by decide) (by decide)).2 ⟨q1, q2⟩; omega
          have h40 : R 3 < 0 → nx U (R 1) az = 40 → 4 ≤ w := fun q1 q2 => by have z := (hgC 40 (by decide) (by decide)).2 ⟨q1, q2⟩; omega
          refine j_aload_n G 2 rfl d0_single_91 ?_
          refine j_bipush G d0_single_92 rfl ?_
          refine j_bipush G d0_single_94 rfl ?_
          refine j_bipush G d0_single_96 rfl ?_
          refine j_VM G (rm' := { frames := 1, cells := 0, slots := 0, locals := 20 }) (wc := [(ra, o0 (some ba) (upS R 2 az)), (ba, aInt E 100 tb)]) (wr := []) (k0_takeOneOf (xl Γ) E ra ba (upS R 2 az) tb U 115 119 119 (by first | assumption | omega | (simp only [upS, reduceIte, Nat.reduceEqDiff, eq_self, List.length_cons, List.length_nil, List.length_append] <;> omega)) (by first | assumption | omega | (simp only [upS, reduceIte, Nat.reduceEqDiff, eq_self, List.length_cons, List.length_nil, List.length_append] <;> omega)) (by first | assumption | omega | (simp only [upS, reduceIte, Nat.reduceEqDiff, eq_self, List.length_cons, List.length_nil, List.length_append] <;> omega)) (by first | assumption | omega | (simp only [upS, reduceIte, Nat.reduceEqDiff, eq_self, List.length_cons, List.length_nil, List.length_append] <;> omega)) (by first | assumption | omega | (simp only [upS, reduceIte, Nat.reduceEqDiff, eq_self, List.length_cons, List.length_nil, List.length_append] <;> omega))) mw0_takeOneOf ml0_54 [0, 1] [] rfl rfl ⟨rfl, rfl⟩ (by decide) 0 0 rfl rfl rfl ⟨Nat.le_of_ble_eq_true rfl, Nat.le_of_ble_eq_true rfl⟩ rfl (rest := []) rfl (Nat.le_of_ble_eq_true rfl) d0_single_98 ⟨Nat.le_of_ble_eq_true rfl, Nat.le_of_ble_eq_true rfl⟩ (fun r w1 hr => ?_)
          obtain ⟨v8, at1_9, ft1_10, rfl, rfl, ⟨hq7_0, hq7_1, hq7_2, hq7_3⟩⟩ := hr
          refine j_eq (ws' := [(ra, o0 (some ba) (upS (upS R 2 at1_9) 3 ft1_10)), (ba, aInt E 100 tb)]) rfl rfl rfl ?_
          try simp only [upS, reduceIte, Nat.reduceEqDiff, eq_self] at hq7_0 hq7_1 hq7_2 hq7_3
          have hA := tk_of hq7_0
          have hAr := hq7_1
          have hAs := hq7_2
          have hAv := hq7_3
          clear hq7_0
          refine j_istore G d0_single_101 (by decide) rfl ?_
          refine j_aload_n G 3 rfl d0_single_103 ?_
          refine j_bipush G d0_single_104 rfl ?_
          refine j_bipush G d0_single_106 rfl ?_
          refine j_bipush G d0_single_108 rfl ?_
          refine j_VM G (rm' := { frames := 1, cells := 0, slots := 0, locals := 20 }) (wc := [(ra, o0 (some ba) (upS (upS R 2 at1_9) 3 ft1_10)), (ba, aInt E 100 tb)]) (wr := []) (k0_takeOneOf (xl Γ) E ra ba (upS (upS R 2 at1_9) 3 ft1_10) tb U 60 61 62 (by first | assumption | omega | (simp only [upS, reduceIte, Nat.reduceEqDiff, eq_self, List.length_cons, List.length_nil, List.length_append] <;> omega)) (by first | assumption | omega | (simp only [upS, reduceIte, Nat.reduceEqDiff, eq_self, List.length_cons, List.length_nil, List.length_append] <;> omega)) (by first | assumption | omega | (simp only [upS, reduceIte, Nat.reduceEqDiff, eq_self, List.length_cons, List.length_nil, List.length_append] <;> omega)) (by first | assumption | omega | (simp only [upS, reduceIte, Nat.reduceEqDiff, eq_self, List.length_cons, List.length_nil, List.length_append] <;> omega)) (by first | assumption | omega | (simp only [upS, reduceIte, Nat.reduceEqDiff, eq_self, List.length_cons, List.length_nil, List.length_append] <;> omega))) mw0_takeOneOf ml0_54 [0, 1] [] rfl rfl ⟨rfl, rfl⟩ (by decide) 0 0 rfl rfl rfl ⟨Nat.le_of_ble_eq_true rfl, Nat.le_of_ble_eq_true rfl⟩ rfl (rest := []) rfl (Nat.le_of_ble_eq_true rfl) d0_single_110 ⟨Nat.le_of_ble_eq_true rfl, Nat.le_of_ble_eq_true rfl⟩ (fun r w1 hr => ?_)
          obtain ⟨v12, at1_13, ft1_14, rfl, rfl, ⟨hq11_0, hq11_1, hq11_2, hq11_3⟩⟩ := hr
          refine j_eq (ws' := [(ra, o0 (some ba) (upS (upS R 2 at1_13) 3 ft1_14)), (ba, aInt E 100 tb)]) rfl rfl rfl ?_
          try simp only [upS, reduceIte, Nat.reduceEqDiff, eq_self] at hq11_0 hq11_1 hq11_2 hq11_3
          have hBq := tk_of hq11_0
          have hBr := hq11_1
          have hBs := hq11_2
          have hBv := hq11_3
          clear hq11_0
          refine j_istore G d0_single_113 (by decide) rfl ?_
          refine j_iload G 1 rfl d0_single_115 ?_
          refine j_iload G 0 rfl d0_single_117 ?_
          refine j_aload_n G 4 rfl d0_single_119 ?_
          refine j_iconst G d0_single_120 ?_
          refine j_VM G (rm' := { frames := 1, cells := 0, slots := 0, locals := 20 }) (wc := [(ra, o0 (some ba) (upS (upS R 2 at1_13) 3 ft1_14)), (ba, aInt E 100 tb)]) (wr := []) (k0_number (xl Γ) E ra ba (upS (upS R 2 at1_13) 3 ft1_14) tb U 2 (by first | assumption | omega | (simp only [upS, reduceIte, Nat.reduceEqDiff, eq_self, List.length_cons, List.length_nil, List.length_append] <;> omega)) (by first | assumption | omega | (simp only [upS, reduceIte, Nat.reduceEqDiff, eq_self, List.length_cons, List.length_nil, List.length_append] <;> omega)) (by first | assumption | omega | (simp only [upS, reduceIte, Nat.reduceEqDiff, eq_self, List.length_cons, List.length_nil, List.length_append] <;> omega)) (by first | assumption | omega | (simp only [upS, reduceIte, Nat.reduceEqDiff, eq_self, List.length_cons, List.length_nil, List.length_append] <;> omega)) (by first | assumption | omega | (simp only [upS, reduceIte, Nat.reduceEqDiff, eq_self, List.length_cons, List.length_nil, List.length_append] <;> omega))) mw0_number ml0_58 [0, 1] [] rfl rfl ⟨rfl, rfl⟩ (by decide) 0 0 rfl rfl rfl ⟨Nat.le_of_ble_eq_true rfl, Nat.le_of_ble_eq_true rfl⟩ rfl (rest := [.int (iZ v12), .int (iZ v8)]) rfl (Nat.le_of_ble_eq_true rfl) d0_single_121 ⟨Nat.le_of_ble_eq_true rfl, Nat.le_of_ble_eq_true rfl⟩ (fun r w1 hr => ?_)
          obtain ⟨v16, at1_17, ft1_18, rfl, rfl, ⟨hq15_0, hq15_1, hq15_2, hq15_3⟩⟩ := hr
          refine j_eq (ws' := [(ra, o0 (some ba) (upS (upS R 2 at1_17) 3 ft1_18)), (ba, aInt E 100 tb)]) rfl rfl rfl ?_
          try simp only [upS, reduceIte, Nat.reduceEqDiff, eq_self] at hq15_0 hq15_1 hq15_2 hq15_3
          have hC := nm_of hq15_0
          have hCr := hq15_1
          have hCs := hq15_2
          have hCv := hq15_3
          clear hq15_0
          refine j_SP G (k0_momentsWith (xl Γ) E v8 v12 v16 (by first | assumption | omega | (simp only [upS, reduceIte, Nat.reduceEqDiff, eq_self, List.length_cons, List.length_nil, List.length_append] <;> omega)) (by first | assumption | omega | (simp only [upS, reduceIte, Nat.reduceEqDiff, eq_self, List.length_cons, List.length_nil, List.length_append] <;> omega)) (by first | assumption | omega | (simp only [upS, reduceIte, Nat.reduceEqDiff, eq_self, List.length_cons, List.length_nil, List.length_append] <;> omega))) mw0_momentsWith ml0_118 [] rfl ⟨Nat.le_of_ble_eq_true rfl, Nat.le_of_ble_eq_true rfl⟩ rfl (rest := []) rfl (Nat.le_of_ble_eq_true rfl) d0_single_124 ⟨Nat.le_of_ble_eq_true rfl, Nat.le_of_ble_eq_true rfl⟩ (fun r hr => ?_)
          obtain ⟨v20, rfl, ⟨hq19_0, hq19_1⟩⟩ := hr
          have hM := hq19_0
          have hMr := hq19_1
          have htst := sg_tst4 hI (by omega) hw.2 h33 h40 hA hBq hC hM
          refine j_istore G d0_single_127 (by decide) rfl ?_
          refine j_iload_n G 3 rfl d0_single_129 ?_
          refine j_if_eq (tgt := 143) G d0_single_130 (by decide) htR (fun h21 => ?_) (fun h21 => ?_)
          ·
            refine j_iload G 0 rfl d0_single_143 ?_
            exact j_iret G F d0_single_145 ⟨v20, at1_17, ft1_18, rfl, rfl, (by first | exact ⟨sg_par hI hlv2 (by omega) hc40 (by omega) he3 (by omega) hT ⟨fun q => by first | rfl | (exfalso; omega), fun q => by first | rfl | (exfalso; omega)⟩, by omega, by omega⟩ | exact ⟨htst _ ⟨fun q => by first | rfl | (exfalso; omega), fun q => by first | rfl | (exfalso; omega)⟩, by omega, by omega⟩)⟩
          ·
            refine j_ldc G 16777215 ct0_121 (by decide) d0_single_133 ?_
            refine j_iload G 0 rfl d0_single_135 ?_
            refine j_iconst G d0_single_137 ?_
            refine r_ixor G d0_single_138 ?_
            refine j_top (y := iZ (((iZ v20) ^^^ (iZ (-1))).toInt)) (iZ_of _).symm ?_
            refine r_iand G d0_single_139 ?_
            refine j_top (y := iZ (((iZ 16777215) &&& (iZ (((iZ v20) ^^^ (iZ (-1))).toInt))).toInt)) (iZ_of _).symm ?_
            refine j_goto (tgt := 145) G d0_single_140 (by decide) ?_
            exact j_iret G F d0_single_145 ⟨((iZ 16777215) &&& (iZ (((iZ v20) ^^^ (iZ (-1))).toInt))).toInt, at1_17, ft1_18, rfl, rfl, (by first | exact ⟨sg_par hI hlv2 (by omega) hc40 (by omega) he3 (by omega) hT ⟨fun q => by first | rfl | (exfalso; omega), fun q => by first | rfl | (exfalso; omega)⟩, by omega, by omega⟩ | exact ⟨htst _ ⟨fun q => by first | rfl | (exfalso; omega), fun q => by first | rfl | (exfalso; omega)⟩, by omega, by omega⟩)⟩
        ·
          refine j_iload_n G 1 rfl d0_single_53 ?_
          refine j_iconst G d0_single_54 ?_
          refine j_icmp_ge (tgt := 91) G d0_single_55 (by decide) hwR (by decide) (fun h22 => ?_) (fun h22 => ?_)
          ·
            have h33 : R 3 < 0 → nx U (R 1) az = 33 → 4 ≤ w := fun q1 q2 => by have z := (hpC 33 (by decide) (by decide)).2 ⟨q1, q2⟩; omega
            have h40 : R 3 < 0 → nx U (R 1) az = 40 → 4 ≤ w := fun q1 q2 => by have z := (hgC 40 (by decide) (by decide)).2 ⟨q1, q2⟩; omega
            refine j_aload_n G 2 rfl d0_single_91 ?_
            refine j_bipush G d0_single_92 rfl ?_
            refine j_bipush G d0_single_94 rfl ?_
            refine j_bipush G d0_single_96 rfl ?_
            refine j_VM G (rm' := { frames := 1, cells := 0, slots := 0, locals := 20 }) (wc := [(ra, o0 (some ba) (upS R 2 az)), (ba, aInt E 100 tb)]) (wr := []) (k0_takeOneOf (xl Γ) E ra ba (upS R 2 az) tb U 115 119 119 (by first | assumption | omega | (simp only [upS, reduceIte, Nat.reduceEqDiff, eq_self, List.length_cons, List.length_nil, List.length_append] <;> omega)) (by first | assumption | omega | (simp only [upS, reduceIte, Nat.reduceEqDiff, eq_self, List.length_cons, List.length_nil, List.length_append] <;> omega)) (by first | assumption | omega | (simp only [upS, reduceIte, Nat.reduceEqDiff, eq_self, List.length_cons, List.length_nil, List.length_append] <;> omega)) (by first | assumption | omega | (simp only [upS, reduceIte, Nat.reduceEqDiff, eq_self, List.length_cons, List.length_nil, List.length_append] <;> omega)) (by first | assumption | omega | (simp only [upS, reduceIte, Nat.reduceEqDiff, eq_self, List.length_cons, List.length_nil, List.length_append] <;> omega))) mw0_takeOneOf ml0_54 [0, 1] [] rfl rfl ⟨rfl, rfl⟩ (by decide) 0 0 rfl rfl rfl ⟨Nat.le_of_ble_eq_true rfl, Nat.le_of_ble_eq_true rfl⟩ rfl (rest := []) rfl (Nat.le_of_ble_eq_true rfl) d0_single_98 ⟨Nat.le_of_ble_eq_true rfl, Nat.le_of_ble_eq_true rfl⟩ (fun r w1 hr => ?_)
            obtain ⟨v24, at1_25, ft1_26, rfl, rfl, ⟨hq23_0, hq23_1, hq23_2, hq23_3⟩⟩ := hr
            refine j_eq (ws' := [(ra, o0 (some ba) (upS (upS R 2 at1_25) 3 ft1_26)), (ba, aInt E 100 tb)]) rfl rfl rfl ?_
            try simp only [upS, reduceIte, Nat.reduceEqDiff, eq_self] at hq23_0 hq23_1 hq23_2 hq23_3
            have hA := tk_of hq23_0
            have hAr := hq23_1
            have hAs := hq23_2
            have hAv := hq23_3
            clear hq23_0
            refine j_istore G d0_single_101 (by decide) rfl ?_
            refine j_aload_n G 3 rfl d0_single_103 ?_
            refine j_bipush G d0_single_104 rfl ?_
            refine j_bipush G d0_single_106 rfl ?_
            refine j_bipush G d0_single_108 rfl ?_
            refine j_VM G (rm' := { frames := 1, cells := 0, slots := 0, locals := 20 }) (wc := [(ra, o0 (some ba) (upS (upS R 2 at1_25) 3 ft1_26)), (ba, aInt E 100 tb)]) (wr := []) (k0_takeOneOf (xl Γ) E ra ba (upS (upS R 2 at1_25) 3 ft1_26) tb U 60 61 62 (by first | assumption | omega | (simp only [upS, reduceIte, Nat.reduceEqDiff, eq_self, List.length_cons, List.length_nil, List.length_append] <;> omega)) (by first | assumption | omega | (simp only [upS, reduceIte, Nat.reduceEqDiff, eq_self, List.length_cons, List.length_nil, List.length_append] <;> omega)) (by first | assumption | omega | (simp only [upS, reduceIte, Nat.reduceEqDiff, eq_self, List.length_cons, List.length_nil, List.length_append] <;> omega)) (by first | assumption | omega | (simp only [upS, reduceIte, Nat.reduceEqDiff, eq_self, List.length_cons, List.length_nil, List.length_append] <;> omega)) (by first | assumption | omega | (simp only [upS, reduceIte, Nat.reduceEqDiff, eq_self, List.length_cons, List.length_nil, List.length_append] <;> omega))) mw0_takeOneOf ml0_54 [0, 1] [] rfl rfl ⟨rfl, rfl⟩ (by decide) 0 0 rfl rfl rfl ⟨Nat.le_of_ble_eq_true rfl, Nat.le_of_ble_eq_true rfl⟩ rfl (rest := []) rfl (Nat.le_of_ble_eq_true rfl) d0_single_110 ⟨Nat.le_of_ble_eq_true rfl, Nat.le_of_ble_eq_true rfl⟩ (fun r w1 hr => ?_)
            obtain ⟨v28, at1_29, ft1_30, rfl, rfl, ⟨hq27_0, hq27_1, hq27_2, hq27_3⟩⟩ := hr
            refine j_eq (ws' := [(ra, o0 (some ba) (upS (upS R 2 at1_29) 3 ft1_30)), (ba, aInt E 100 tb)]) rfl rfl rfl ?_
            try simp only [upS, reduceIte, Nat.reduceEqDiff, eq_self] at hq27_0 hq27_1 hq27_2 hq27_3
            have hBq := tk_of hq27_0
            have hBr := hq27_1
            have hBs := hq27_2
            have hBv := hq27_3
            clear hq27_0
            refine j_istore G d0_single_113 (by decide) rfl ?_
            refine j_iload G 1 rfl d0_single_115 ?_
            refine j_iload G 0 rfl d0_single_117 ?_
            refine j_aload_n G 4 rfl d0_single_119 ?_
            refine j_iconst G d0_single_120 ?_
            refine j_VM G (rm' := { frames := 1, cells := 0, slots := 0, locals := 20 }) (wc := [(ra, o0 (some ba) (upS (upS R 2 at1_29) 3 ft1_30)), (ba, aInt E 100 tb)]) (wr := []) (k0_number (xl Γ) E ra ba (upS (upS R 2 at1_29) 3 ft1_30) tb U 2 (by first | assumption | omega | (simp only [upS, reduceIte, Nat.reduceEqDiff, eq_self, List.length_cons, List.length_nil, List.length_append] <;> omega)) (by first | assumption | omega | (simp only [upS, reduceIte, Nat.reduceEqDiff, eq_self, List.length_cons, List.length_nil, List.length_append] <;> omega)) (by first | assumption | omega | (simp only [upS, reduceIte, Nat.reduceEqDiff, eq_self, List.length_cons, List.length_nil, List.length_append] <;> omega)) (by first | assumption | omega | (simp only [upS, reduceIte, Nat.reduceEqDiff, eq_self, List.length_cons, List.length_nil, List.length_append] <;> omega)) (by first | assumption | omega | (simp only [upS, reduceIte, Nat.reduceEqDiff, eq_self, List.length_cons, List.length_nil, List.length_append] <;> omega))) mw0_number ml0_58 [0, 1] [] rfl rfl ⟨rfl, rfl⟩ (by decide) 0 0 rfl rfl rfl ⟨Nat.le_of_ble_eq_true rfl, Nat.le_of_ble_eq_true rfl⟩ rfl (rest := [.int (iZ v28), .int (iZ v24)]) rfl (Nat.le_of_ble_eq_true rfl) d0_single_121 ⟨Nat.le_of_ble_eq_true rfl, Nat.le_of_ble_eq_true rfl⟩ (fun r w1 hr => ?_)
            obtain ⟨v32, at1_33, ft1_34, rfl, rfl, ⟨hq31_0, hq31_1, hq31_2, hq31_3⟩⟩ := hr
            refine j_eq (ws' := [(ra, o0 (some ba) (upS (upS R 2 at1_33) 3 ft1_34)), (ba, aInt E 100 tb)]) rfl rfl rfl ?_
            try simp only [upS, reduceIte, Nat.reduceEqDiff, eq_self] at hq31_0 hq31_1 hq31_2 hq31_3
            have hC := nm_of hq31_0
            have hCr := hq31_1
            have hCs := hq31_2
            have hCv := hq31_3
            clear hq31_0
            refine j_SP G (k0_momentsWith (xl Γ) E v24 v28 v32 (by first | assumption | omega | (simp only [upS, reduceIte, Nat.reduceEqDiff, eq_self, List.length_cons, List.length_nil, List.length_append] <;> omega)) (by first | assumption | omega | (simp only [upS, reduceIte, Nat.reduceEqDiff, eq_self, List.length_cons, List.length_nil, List.length_append] <;> omega)) (by first | assumption | omega | (simp only [upS, reduceIte, Nat.reduceEqDiff, eq_self, List.length_cons, List.length_nil, List.length_append] <;> omega))) mw0_momentsWith ml0_118 [] rfl ⟨Nat.le_of_ble_eq_true rfl, Nat.le_of_ble_eq_true rfl⟩ rfl (rest := []) rfl (Nat.le_of_ble_eq_true rfl) d0_single_124 ⟨Nat.le_of_ble_eq_true rfl, Nat.le_of_ble_eq_true rfl⟩ (fun r hr => ?_)
            obtain ⟨v36, rfl, ⟨hq35_0, hq35_1⟩⟩ := hr
            have hM := hq35_0
            have hMr := hq35_1
            have htst := sg_tst4 hI (by omega) hw.2 h33 h40 hA hBq hC hM
            refine j_istore G d0_single_127 (by decide) rfl ?_
            refine j_iload_n G 3 rfl d0_single_129 ?_
            refine j_if_eq (tgt := 143) G d0_single_130 (by decide) htR (fun h37 => ?_) (fun h37 => ?_)
            ·
              refine j_iload G 0 rfl d0_single_143 ?_
              exact j_iret G F d0_single_145 ⟨v36, at1_33, ft1_34, rfl, rfl, (by first | exact ⟨sg_par hI hlv2 (by omega) hc40 (by omega) he3 (by omega) hT ⟨fun q => by first | rfl | (exfalso; omega), fun q => by first | rfl | (exfalso; omega)⟩, by omega, by omega⟩ | exact ⟨htst _ ⟨fun q => by first | rfl | (exfalso; omega), fun q => by first | rfl | (exfalso; omega)⟩, by omega, by omega⟩)⟩
            ·
              refine j_ldc G 16777215 ct0_121 (by decide) d0_single_133 ?_
              refine j_iload G 0 rfl d0_single_135 ?_
              refine j_iconst G d0_single_137 ?_
              refine r_ixor G d0_single_138 ?_
              refine j_top (y := iZ (((iZ v36) ^^^ (iZ (-1))).toInt)) (iZ_of _).symm ?_
              refine r_iand G d0_single_139 ?_
              refine j_top (y := iZ (((iZ 16777215) &&& (iZ (((iZ v36) ^^^ (iZ (-1))).toInt))).toInt)) (iZ_of _).symm ?_
              refine j_goto (tgt := 145) G d0_single_140 (by decide) ?_
              exact j_iret G F d0_single_145 ⟨((iZ 16777215) &&& (iZ (((iZ v36) ^^^ (iZ (-1))).toInt))).toInt, at1_33, ft1_34, rfl, rfl, (by first | exact ⟨sg_par hI hlv2 (by omega) hc40 (by omega) he3 (by omega) hT ⟨fun q => by first | rfl | (exfalso; omega), fun q => by first | rfl | (exfalso; omega)⟩, by omega, by omega⟩ | exact ⟨htst _ ⟨fun q => by first | rfl | (exfalso; omega), fun q => by first | rfl | (exfalso; omega)⟩, by omega, by omega⟩)⟩
          ·
            have hlv2 : R 3 < 0 := ((hgC 40 (by decide) (by decide)).1 (by omega)).1
            have hc40 : nx U (R 1) az = 40 := ((hgC 40 (by decide) (by decide)).1 (by omega)).2
            refine j_aload_n G 2 rfl d0_single_58 ?_
            refine j_dup G d0_single_59 rfl ?_
            refine j_get G 0 0 2 in0 fl0_36 d0_single_60 rfl rfl (by decide) (v := .int (iZ az)) rfl rfl ?_
            refine j_iconst G d0_single_63 ?_
            refine j_iadd G d0_single_64 ?_
            refine j_put G 0 0 2 in0 tyok0 nm0 fl0_36 d0_single_65 rfl rfl (by decide) ⟨rfl, rfl⟩ rfl rfl (Nat.le_of_ble_eq_true rfl) (e := o0 (some ba) (upS R 2 (az + 1))) rfl ?_
            refine j_aload_n G 2 rfl d0_single_68 ?_
            refine j_iload_n G 1 rfl d0_single_69 ?_
            refine j_iconst G d0_single_70 ?_
            refine j_iadd G d0_single_71 ?_
            refine j_VM G (rm' := { frames := 7, cells := 0, slots := 0, locals := 162 }) (wc := [(ra, o0 (some ba) (upS R 2 (az + 1))), (ba, aInt E 100 tb)]) (wr := []) (k0_either_3 (xl Γ) E ra ba (upS R 2 (az + 1)) tb U (w + 1) (by first | assumption | omega | (simp only [upS, reduceIte, Nat.reduceEqDiff, eq_self, List.length_cons, List.length_nil, List.length_append] <;> omega)) (by first | assumption | omega | (simp only [upS, reduceIte, Nat.reduceEqDiff, eq_self, List.length_cons, List.length_nil, List.length_append] <;> omega)) (by first | assumption | omega | (simp only [upS, reduceIte, Nat.reduceEqDiff, eq_self, List.length_cons, List.length_nil, List.length_append] <;> omega)) (by first | assumption | omega | (simp only [upS, reduceIte, Nat.reduceEqDiff, eq_self, List.length_cons, List.length_nil, List.length_append] <;> omega)) (by first | assumption | omega | (simp only [upS, reduceIte, Nat.reduceEqDiff, eq_self, List.length_cons, List.length_nil, List.length_append] <;> omega))) mw0_either ml0_68 [0, 1] [] rfl rfl ⟨rfl, rfl⟩ (by decide) 0 0 rfl rfl rfl ⟨Nat.le_of_ble_eq_true rfl, Nat.le_of_ble_eq_true rfl⟩ rfl (rest := []) rfl (Nat.le_of_ble_eq_true rfl) d0_single_72 ⟨Nat.le_of_ble_eq_true rfl, Nat.le_of_ble_eq_true rfl⟩ (fun r w1 hr => ?_)
            obtain ⟨v39, at1_40, ft1_41, rfl, rfl, ⟨hq38_0, hq38_1, hq38_2⟩⟩ := hr
            refine j_eq (ws' := [(ra, o0 (some ba) (upS (upS R 2 at1_40) 3 ft1_41)), (ba, aInt E 100 tb)]) rfl rfl rfl ?_
            try simp only [upS, reduceIte, Nat.reduceEqDiff, eq_self] at hq38_0 hq38_1 hq38_2
            have he3 := hq38_0
            have hr3 := hq38_1
            have hx3 := hq38_2
            refine j_istore G d0_single_75 (by decide) rfl ?_
            refine j_aload_n G 3 rfl d0_single_77 ?_
            refine j_bipush G d0_single_78 rfl ?_
            refine j_bipush G d0_single_80 rfl ?_
            refine j_bipush G d0_single_82 rfl ?_
            refine j_VM G (rm' := { frames := 1, cells := 0, slots := 0, locals := 20 }) (wc := [(ra, o0 (some ba) (upS (upS R 2 at1_40) 3 ft1_41)), (ba, aInt E 100 tb)]) (wr := []) (k0_takeOneOf (xl Γ) E ra ba (upS (upS R 2 at1_40) 3 ft1_41) tb U 41 41 41 (by first | assumption | omega | (simp only [upS, reduceIte, Nat.reduceEqDiff, eq_self, List.length_cons, List.length_nil, List.length_append] <;> omega)) (by first | assumption | omega | (simp only [upS, reduceIte, Nat.reduceEqDiff, eq_self, List.length_cons, List.length_nil, List.length_append] <;> omega)) (by first | assumption | omega | (simp only [upS, reduceIte, Nat.reduceEqDiff, eq_self, List.length_cons, List.length_nil, List.length_append] <;> omega)) (by first | assumption | omega | (simp only [upS, reduceIte, Nat.reduceEqDiff, eq_self, List.length_cons, List.length_nil, List.length_append] <;> omega)) (by first | assumption | omega | (simp only [upS, reduceIte, Nat.reduceEqDiff, eq_self, List.length_cons, List.length_nil, List.length_append] <;> omega))) mw0_takeOneOf ml0_54 [0, 1] [] rfl rfl ⟨rfl, rfl⟩ (by decide) 0 0 rfl rfl rfl ⟨Nat.le_of_ble_eq_true rfl, Nat.le_of_ble_eq_true rfl⟩ rfl (rest := []) rfl (Nat.le_of_ble_eq_true rfl) d0_single_84 ⟨Nat.le_of_ble_eq_true rfl, Nat.le_of_ble_eq_true rfl⟩ (fun r w1 hr => ?_)
            obtain ⟨v43, at1_44, ft1_45, rfl, rfl, ⟨hq42_0, hq42_1, hq42_2, hq42_3⟩⟩ := hr
            refine j_eq (ws' := [(ra, o0 (some ba) (upS (upS R 2 at1_44) 3 ft1_45)), (ba, aInt E 100 tb)]) rfl rfl rfl ?_
            try simp only [upS, reduceIte, Nat.reduceEqDiff, eq_self] at hq42_0 hq42_1 hq42_2 hq42_3
            have hT := tk_of hq42_0
            have hTr := hq42_1
            have hTs := hq42_2
            clear hq42_0
            refine j_pop G d0_single_87 rfl ?_
            refine j_goto (tgt := 129) G d0_single_88 (by decide) ?_
            refine j_iload_n G 1 rfl d0_single_129 ?_
            refine j_if_eq (tgt := 143) G d0_single_130 (by decide) htR (fun h46 => ?_) (fun h46 => ?_)
            ·
              refine j_iload G 0 rfl d0_single_143 ?_
              exact j_iret G F d0_single_145 ⟨v39, at1_44, ft1_45, rfl, rfl, (by first | exact ⟨sg_par hI hlv2 (by omega) hc40 (by omega) he3 (by omega) hT ⟨fun q => by first | rfl | (exfalso; omega), fun q => by first | rfl | (exfalso; omega)⟩, by omega, by omega⟩ | exact ⟨htst _ ⟨fun q => by first | rfl | (exfalso; omega), fun q => by first | rfl | (exfalso; omega)⟩, by omega, by omega⟩)⟩
            ·
              refine j_ldc G 16777215 ct0_121 (by decide) d0_single_133 ?_
              refine j_iload G 0 rfl d0_single_135 ?_
              refine j_iconst G d0_single_137 ?_
              refine r_ixor G d0_single_138 ?_
              refine j_top (y := iZ (((iZ v39) ^^^ (iZ (-1))).toInt)) (iZ_of _).symm ?_
              refine r_iand G d0_single_139 ?_
              refine j_top (y := iZ (((iZ 16777215) &&& (iZ (((iZ v39) ^^^ (iZ (-1))).toInt))).toInt)) (iZ_of _).symm ?_
              refine j_goto (tgt := 145) G d0_single_140 (by decide) ?_
              exact j_iret G F d0_single_145 ⟨((iZ 16777215) &&& (iZ (((iZ v39) ^^^ (iZ (-1))).toInt))).toInt, at1_44, ft1_45, rfl, rfl, (by first | exact ⟨sg_par hI hlv2 (by omega) hc40 (by omega) he3 (by omega) hT ⟨fun q => by first | rfl | (exfalso; omega), fun q => by first | rfl | (exfalso; omega)⟩, by omega, by omega⟩ | exact ⟨htst _ ⟨fun q => by first | rfl | (exfalso; omega), fun q => by first | rfl | (exfalso; omega)⟩, by omega, by omega⟩)⟩
      ·
        refine j_iload_n G 1 rfl d0_single_13 ?_
        refine j_iconst G d0_single_14 ?_
        refine j_icmp_ge (tgt := 44) G d0_single_15 (by decide) hwR (by decide) (fun h47 => ?_) (fun h47 => ?_)
        ·
          refine j_aload_n G 2 rfl d0_single_44 ?_
          refine j_VP G (k0_peek (xl Γ) E ra ba (upS R 2 az) tb U (by first | assumption | omega | (simp only [upS, reduceIte, Nat.reduceEqDiff, eq_self, List.length_cons, List.length_nil, List.length_append] <;> omega)) (by first | assumption | omega | (simp only [upS, reduceIte, Nat.reduceEqDiff, eq_self, List.length_cons, List.length_nil, List.length_append] <;> omega)) (by first | assumption | omega | (simp only [upS, reduceIte, Nat.reduceEqDiff, eq_self, List.length_cons, List.length_nil, List.length_append] <;> omega)) (by first | assumption | omega | (simp only [upS, reduceIte, Nat.reduceEqDiff, eq_self, List.length_cons, List.length_nil, List.length_append] <;> omega))) mw0_peek ml0_32 [0, 1] rfl 0 0 rfl rfl rfl ⟨Nat.le_of_ble_eq_true rfl, Nat.le_of_ble_eq_true rfl⟩ rfl (rest := []) rfl (Nat.le_of_ble_eq_true rfl) d0_single_45 ⟨Nat.le_of_ble_eq_true rfl, Nat.le_of_ble_eq_true rfl⟩ (fun r hr => ?_)
          obtain ⟨v49, rfl, ⟨hq48_0, hq48_1, hq48_2, hq48_3, hq48_4⟩⟩ := hr
          try simp only [upS, reduceIte, Nat.reduceEqDiff, eq_self] at hq48_0 hq48_1 hq48_2 hq48_3 hq48_4
          have hgC := pk_of hq48_0 hq48_1 hq48_2
          have hg2 := hq48_2
          have hg3 := hq48_3
          clear hq48_0 hq48_1 hq48_3 hq48_4
          refine j_bipush G d0_single_48 rfl ?_
          refine j_icmp_ne (tgt := 91) G d0_single_50 (by decide) (r32_pk hg2) (by decide) (fun h50 => ?_) (fun h50 => ?_)
          ·
            have h33 : R 3 < 0 → nx U (R 1) az = 33 → 4 ≤ w := fun q1 q2 => by have z := (hpC 33 (by decide) (by decide)).2 ⟨q1, q2⟩; omega
            have h40 : R 3 < 0 → nx U (R 1) az = 40 → 4 ≤ w := fun q1 q2 => by have z := (hgC 40 (by decide) (by decide)).2 ⟨q1, q2⟩; omega
            refine j_aload_n G 2 rfl d0_single_91 ?_
            refine j_bipush G d0_single_92 rfl ?_
            refine j_bipush G d0_single_94 rfl ?_
            refine j_bipush G d0_single_96 rfl ?_
            refine j_VM G (rm' := { frames := 1, cells := 0, slots := 0, locals := 20 }) (wc := [(ra, o0 (some ba) (upS R 2 az)), (ba, aInt E 100 tb)]) (wr := []) (k0_takeOneOf (xl Γ) E ra ba (upS R 2 az) tb U 115 119 119 (by first | assumption | omega | (simp only [upS, reduceIte, Nat.reduceEqDiff, eq_self, List.length_cons, List.length_nil, List.length_append] <;> omega)) (by first | assumption | omega | (simp only [upS, reduceIte, Nat.reduceEqDiff, eq_self, List.length_cons, List.length_nil, List.length_append] <;> omega)) (by first | assumption | omega | (simp only [upS, reduceIte, Nat.reduceEqDiff, eq_self, List.length_cons, List.length_nil, List.length_append] <;> omega)) (by first | assumption | omega | (simp only [upS, reduceIte, Nat.reduceEqDiff, eq_self, List.length_cons, List.length_nil, List.length_append] <;> omega)) (by first | assumption | omega | (simp only [upS, reduceIte, Nat.reduceEqDiff, eq_self, List.length_cons, List.length_nil, List.length_append] <;> omega))) mw0_takeOneOf ml0_54 [0, 1] [] rfl rfl ⟨rfl, rfl⟩ (by decide) 0 0 rfl rfl rfl ⟨Nat.le_of_ble_eq_true rfl, Nat.le_of_ble_eq_true rfl⟩ rfl (rest := []) rfl (Nat.le_of_ble_eq_true rfl) d0_single_98 ⟨Nat.le_of_ble_eq_true rfl, Nat.le_of_ble_eq_true rfl⟩ (fun r w1 hr => ?_)
            obtain ⟨v52, at1_53, ft1_54, rfl, rfl, ⟨hq51_0, hq51_1, hq51_2, hq51_3⟩⟩ := hr
            refine j_eq (ws' := [(ra, o0 (some ba) (upS (upS R 2 at1_53) 3 ft1_54)), (ba, aInt E 100 tb)]) rfl rfl rfl ?_
            try simp only [upS, reduceIte, Nat.reduceEqDiff, eq_self] at hq51_0 hq51_1 hq51_2 hq51_3
            have hA := tk_of hq51_0
            have hAr := hq51_1
            have hAs := hq51_2
            have hAv := hq51_3
            clear hq51_0
            refine j_istore G d0_single_101 (by decide) rfl ?_
            refine j_aload_n G 3 rfl d0_single_103 ?_
            refine j_bipush G d0_single_104 rfl ?_
            refine j_bipush G d0_single_106 rfl ?_
            refine j_bipush G d0_single_108 rfl ?_
            refine j_VM G (rm' := { frames := 1, cells := 0, slots := 0, locals := 20 }) (wc := [(ra, o0 (some ba) (upS (upS R 2 at1_53) 3 ft1_54)), (ba, aInt E 100 tb)]) (wr := []) (k0_takeOneOf (xl Γ) E ra ba (upS (upS R 2 at1_53) 3 ft1_54) tb U 60 61 62 (by first | assumption | omega | (simp only [upS, reduceIte, Nat.reduceEqDiff, eq_self, List.length_cons, List.length_nil, List.length_append] <;> omega)) (by first | assumption | omega | (simp only [upS, reduceIte, Nat.reduceEqDiff, eq_self, List.length_cons, List.length_nil, List.length_append] <;> omega)) (by first | assumption | omega | (simp only [upS, reduceIte, Nat.reduceEqDiff, eq_self, List.length_cons, List.length_nil, List.length_append] <;> omega)) (by first | assumption | omega | (simp only [upS, reduceIte, Nat.reduceEqDiff, eq_self, List.length_cons, List.length_nil, List.length_append] <;> omega)) (by first | assumption | omega | (simp only [upS, reduceIte, Nat.reduceEqDiff, eq_self, List.length_cons, List.length_nil, List.length_append] <;> omega))) mw0_takeOneOf ml0_54 [0, 1] [] rfl rfl ⟨rfl, rfl⟩ (by decide) 0 0 rfl rfl rfl ⟨Nat.le_of_ble_eq_true rfl, Nat.le_of_ble_eq_true rfl⟩ rfl (rest := []) rfl (Nat.le_of_ble_eq_true rfl) d0_single_110 ⟨Nat.le_of_ble_eq_true rfl, Nat.le_of_ble_eq_true rfl⟩ (fun r w1 hr => ?_)
            obtain ⟨v56, at1_57, ft1_58, rfl, rfl, ⟨hq55_0, hq55_1, hq55_2, hq55_3⟩⟩ := hr
            refine j_eq (ws' := [(ra, o0 (some ba) (upS (upS R 2 at1_57) 3 ft1_58)), (ba, aInt E 100 tb)]) rfl rfl rfl ?_
            try simp only [upS, reduceIte, Nat.reduceEqDiff, eq_self] at hq55_0 hq55_1 hq55_2 hq55_3
            have hBq := tk_of hq55_0
            have hBr := hq55_1
            have hBs := hq55_2
            have hBv := hq55_3
            clear hq55_0
            refine j_istore G d0_single_113 (by decide) rfl ?_
            refine j_iload G 1 rfl d0_single_115 ?_
            refine j_iload G 0 rfl d0_single_117 ?_
            refine j_aload_n G 4 rfl d0_single_119 ?_
            refine j_iconst G d0_single_120 ?_
            refine j_VM G (rm' := { frames := 1, cells := 0, slots := 0, locals := 20 }) (wc := [(ra, o0 (some ba) (upS (upS R 2 at1_57) 3 ft1_58)), (ba, aInt E 100 tb)]) (wr := []) (k0_number (xl Γ) E ra ba (upS (upS R 2 at1_57) 3 ft1_58) tb U 2 (by first | assumption | omega | (simp only [upS, reduceIte, Nat.reduceEqDiff, eq_self, List.length_cons, List.length_nil, List.length_append] <;> omega)) (by first | assumption | omega | (simp only [upS, reduceIte, Nat.reduceEqDiff, eq_self, List.length_cons, List.length_nil, List.length_append] <;> omega)) (by first | assumption | omega | (simp only [upS, reduceIte, Nat.reduceEqDiff, eq_self, List.length_cons, List.length_nil, List.length_append] <;> omega)) (by first | assumption | omega | (simp only [upS, reduceIte, Nat.reduceEqDiff, eq_self, List.length_cons, List.length_nil, List.length_append] <;> omega)) (by first | assumption | omega | (simp only [upS, reduceIte, Nat.reduceEqDiff, eq_self, List.length_cons, List.length_nil, List.length_append] <;> omega))) mw0_number ml0_58 [0, 1] [] rfl rfl ⟨rfl, rfl⟩ (by decide) 0 0 rfl rfl rfl ⟨Nat.le_of_ble_eq_true rfl, Nat.le_of_ble_eq_true rfl⟩ rfl (rest := [.int (iZ v56), .int (iZ v52)]) rfl (Nat.le_of_ble_eq_true rfl) d0_single_121 ⟨Nat.le_of_ble_eq_true rfl, Nat.le_of_ble_eq_true rfl⟩ (fun r w1 hr => ?_)
            obtain ⟨v60, at1_61, ft1_62, rfl, rfl, ⟨hq59_0, hq59_1, hq59_2, hq59_3⟩⟩ := hr
            refine j_eq (ws' := [(ra, o0 (some ba) (upS (upS R 2 at1_61) 3 ft1_62)), (ba, aInt E 100 tb)]) rfl rfl rfl ?_
            try simp only [upS, reduceIte, Nat.reduceEqDiff, eq_self] at hq59_0 hq59_1 hq59_2 hq59_3
            have hC := nm_of hq59_0
            have hCr := hq59_1
            have hCs := hq59_2
            have hCv := hq59_3
            clear hq59_0
            refine j_SP G (k0_momentsWith (xl Γ) E v52 v56 v60 (by first | assumption | omega | (simp only [upS, reduceIte, Nat.reduceEqDiff, eq_self, List.length_cons, List.length_nil, List.length_append] <;> omega)) (by first | assumption | omega | (simp only [upS, reduceIte, Nat.reduceEqDiff, eq_self, List.length_cons, List.length_nil, List.length_append] <;> omega)) (by first | assumption | omega | (simp only [upS, reduceIte, Nat.reduceEqDiff, eq_self, List.length_cons, List.length_nil, List.length_append] <;> omega))) mw0_momentsWith ml0_118 [] rfl ⟨Nat.le_of_ble_eq_true rfl, Nat.le_of_ble_eq_true rfl⟩ rfl (rest := []) rfl (Nat.le_of_ble_eq_true rfl) d0_single_124 ⟨Nat.le_of_ble_eq_true rfl, Nat.le_of_ble_eq_true rfl⟩ (fun r hr => ?_)
            obtain ⟨v64, rfl, ⟨hq63_0, hq63_1⟩⟩ := hr
            have hM := hq63_0
            have hMr := hq63_1
            have htst := sg_tst4 hI (by omega) hw.2 h33 h40 hA hBq hC hM
            refine j_istore G d0_single_127 (by decide) rfl ?_
            refine j_iload_n G 3 rfl d0_single_129 ?_
            refine j_if_eq (tgt := 143) G d0_single_130 (by decide) htR (fun h65 => ?_) (fun h65 => ?_)
            ·
              refine j_iload G 0 rfl d0_single_143 ?_
              exact j_iret G F d0_single_145 ⟨v64, at1_61, ft1_62, rfl, rfl, (by first | exact ⟨sg_par hI hlv2 (by omega) hc40 (by omega) he3 (by omega) hT ⟨fun q => by first | rfl | (exfalso; omega), fun q => by first | rfl | (exfalso; omega)⟩, by omega, by omega⟩ | exact ⟨htst _ ⟨fun q => by first | rfl | (exfalso; omega), fun q => by first | rfl | (exfalso; omega)⟩, by omega, by omega⟩)⟩
            ·
              refine j_ldc G 16777215 ct0_121 (by decide) d0_single_133 ?_
              refine j_iload G 0 rfl d0_single_135 ?_
              refine j_iconst G d0_single_137 ?_
              refine r_ixor G d0_single_138 ?_
              refine j_top (y := iZ (((iZ v64) ^^^ (iZ (-1))).toInt)) (iZ_of _).symm ?_
              refine r_iand G d0_single_139 ?_
              refine j_top (y := iZ (((iZ 16777215) &&& (iZ (((iZ v64) ^^^ (iZ (-1))).toInt))).toInt)) (iZ_of _).symm ?_
              refine j_goto (tgt := 145) G d0_single_140 (by decide) ?_
              exact j_iret G F d0_single_145 ⟨((iZ 16777215) &&& (iZ (((iZ v64) ^^^ (iZ (-1))).toInt))).toInt, at1_61, ft1_62, rfl, rfl, (by first | exact ⟨sg_par hI hlv2 (by omega) hc40 (by omega) he3 (by omega) hT ⟨fun q => by first | rfl | (exfalso; omega), fun q => by first | rfl | (exfalso; omega)⟩, by omega, by omega⟩ | exact ⟨htst _ ⟨fun q => by first | rfl | (exfalso; omega), fun q => by first | rfl | (exfalso; omega)⟩, by omega, by omega⟩)⟩
          ·
            refine j_iload_n G 1 rfl d0_single_53 ?_
            refine j_iconst G d0_single_54 ?_
            refine j_icmp_ge (tgt := 91) G d0_single_55 (by decide) hwR (by decide) (fun h66 => ?_) (fun h66 => ?_)
            ·
              have h33 : R 3 < 0 → nx U (R 1) az = 33 → 4 ≤ w := fun q1 q2 => by have z := (hpC 33 (by decide) (by decide)).2 ⟨q1, q2⟩; omega
              have h40 : R 3 < 0 → nx U (R 1) az = 40 → 4 ≤ w := fun q1 q2 => by have z := (hgC 40 (by decide) (by decide)).2 ⟨q1, q2⟩; omega
              refine j_aload_n G 2 rfl d0_single_91 ?_
              refine j_bipush G d0_single_92 rfl ?_
              refine j_bipush G d0_single_94 rfl ?_
              refine j_bipush G d0_single_96 rfl ?_
              refine j_VM G (rm' := { frames := 1, cells := 0, slots := 0, locals := 20 }) (wc := [(ra, o0 (some ba) (upS R 2 az)), (ba, aInt E 100 tb)]) (wr := []) (k0_takeOneOf (xl Γ) E ra ba (upS R 2 az) tb U 115 119 119 (by first | assumption | omega | (simp only [upS, reduceIte, Nat.reduceEqDiff, eq_self, List.length_cons, List.length_nil, List.length_append] <;> omega)) (by first | assumption | omega | (simp only [upS, reduceIte, Nat.reduceEqDiff, eq_self, List.length_cons, List.length_nil, List.length_append] <;> omega)) (by first | assumption | omega | (simp only [upS, reduceIte, Nat.reduceEqDiff, eq_self, List.length_cons, List.length_nil, List.length_append] <;> omega)) (by first | assumption | omega | (simp only [upS, reduceIte, Nat.reduceEqDiff, eq_self, List.length_cons, List.length_nil, List.length_append] <;> omega)) (by first | assumption | omega | (simp only [upS, reduceIte, Nat.reduceEqDiff, eq_self, List.length_cons, List.length_nil, List.length_append] <;> omega))) mw0_takeOneOf ml0_54 [0, 1] [] rfl rfl ⟨rfl, rfl⟩ (by decide) 0 0 rfl rfl rfl ⟨Nat.le_of_ble_eq_true rfl, Nat.le_of_ble_eq_true rfl⟩ rfl (rest := []) rfl (Nat.le_of_ble_eq_true rfl) d0_single_98 ⟨Nat.le_of_ble_eq_true rfl, Nat.le_of_ble_eq_true rfl⟩ (fun r w1 hr => ?_)
              obtain ⟨v68, at1_69, ft1_70, rfl, rfl, ⟨hq67_0, hq67_1, hq67_2, hq67_3⟩⟩ := hr
              refine j_eq (ws' := [(ra, o0 (some ba) (upS (upS R 2 at1_69) 3 ft1_70)), (ba, aInt E 100 tb)]) rfl rfl rfl ?_
              try simp only [upS, reduceIte, Nat.reduceEqDiff, eq_self] at hq67_0 hq67_1 hq67_2 hq67_3
              have hA := tk_of hq67_0
              have hAr := hq67_1
              have hAs := hq67_2
              have hAv := hq67_3
              clear hq67_0
              refine j_istore G d0_single_101 (by decide) rfl ?_
              refine j_aload_n G 3 rfl d0_single_103 ?_
              refine j_bipush G d0_single_104 rfl ?_
              refine j_bipush G d0_single_106 rfl ?_
              refine j_bipush G d0_single_108 rfl ?_
              refine j_VM G (rm' := { frames := 1, cells := 0, slots := 0, locals := 20 }) (wc := [(ra, o0 (some ba) (upS (upS R 2 at1_69) 3 ft1_70)), (ba, aInt E 100 tb)]) (wr := []) (k0_takeOneOf (xl Γ) E ra ba (upS (upS R 2 at1_69) 3 ft1_70) tb U 60 61 62 (by first | assumption | omega | (simp only [upS, reduceIte, Nat.reduceEqDiff, eq_self, List.length_cons, List.length_nil, List.length_append] <;> omega)) (by first | assumption | omega | (simp only [upS, reduceIte, Nat.reduceEqDiff, eq_self, List.length_cons, List.length_nil, List.length_append] <;> omega)) (by first | assumption | omega | (simp only [upS, reduceIte, Nat.reduceEqDiff, eq_self, List.length_cons, List.length_nil, List.length_append] <;> omega)) (by first | assumption | omega | (simp only [upS, reduceIte, Nat.reduceEqDiff, eq_self, List.length_cons, List.length_nil, List.length_append] <;> omega)) (by first | assumption | omega | (simp only [upS, reduceIte, Nat.reduceEqDiff, eq_self, List.length_cons, List.length_nil, List.length_append] <;> omega))) mw0_takeOneOf ml0_54 [0, 1] [] rfl rfl ⟨rfl, rfl⟩ (by decide) 0 0 rfl rfl rfl ⟨Nat.le_of_ble_eq_true rfl, Nat.le_of_ble_eq_true rfl⟩ rfl (rest := []) rfl (Nat.le_of_ble_eq_true rfl) d0_single_110 ⟨Nat.le_of_ble_eq_true rfl, Nat.le_of_ble_eq_true rfl⟩ (fun r w1 hr => ?_)
              obtain ⟨v72, at1_73, ft1_74, rfl, rfl, ⟨hq71_0, hq71_1, hq71_2, hq71_3⟩⟩ := hr
              refine j_eq (ws' := [(ra, o0 (some ba) (upS (upS R 2 at1_73) 3 ft1_74)), (ba, aInt E 100 tb)]) rfl rfl rfl ?_
              try simp only [upS, reduceIte, Nat.reduceEqDiff, eq_self] at hq71_0 hq71_1 hq71_2 hq71_3
              have hBq := tk_of hq71_0
              have hBr := hq71_1
              have hBs := hq71_2
              have hBv := hq71_3
              clear hq71_0
              refine j_istore G d0_single_113 (by decide) rfl ?_
              refine j_iload G 1 rfl d0_single_115 ?_
              refine j_iload G 0 rfl d0_single_117 ?_
              refine j_aload_n G 4 rfl d0_single_119 ?_
              refine j_iconst G d0_single_120 ?_
              refine j_VM G (rm' := { frames := 1, cells := 0, slots := 0, locals := 20 }) (wc := [(ra, o0 (some ba) (upS (upS R 2 at1_73) 3 ft1_74)), (ba, aInt E 100 tb)]) (wr := []) (k0_number (xl Γ) E ra ba (upS (upS R 2 at1_73) 3 ft1_74) tb U 2 (by first | assumption | omega | (simp only [upS, reduceIte, Nat.reduceEqDiff, eq_self, List.length_cons, List.length_nil, List.length_append] <;> omega)) (by first | assumption | omega | (simp only [upS, reduceIte, Nat.reduceEqDiff, eq_self, List.length_cons, List.length_nil, List.length_append] <;> omega)) (by first | assumption | omega | (simp only [upS, reduceIte, Nat.reduceEqDiff, eq_self, List.length_cons, List.length_nil, List.length_append] <;> omega)) (by first | assumption | omega | (simp only [upS, reduceIte, Nat.reduceEqDiff, eq_self, List.length_cons, List.length_nil, List.length_append] <;> omega)) (by first | assumption | omega | (simp only [upS, reduceIte, Nat.reduceEqDiff, eq_self, List.length_cons, List.length_nil, List.length_append] <;> omega))) mw0_number ml0_58 [0, 1] [] rfl rfl ⟨rfl, rfl⟩ (by decide) 0 0 rfl rfl rfl ⟨Nat.le_of_ble_eq_true rfl, Nat.le_of_ble_eq_true rfl⟩ rfl (rest := [.int (iZ v72), .int (iZ v68)]) rfl (Nat.le_of_ble_eq_true rfl) d0_single_121 ⟨Nat.le_of_ble_eq_true rfl, Nat.le_of_ble_eq_true rfl⟩ (fun r w1 hr => ?_)
              obtain ⟨v76, at1_77, ft1_78, rfl, rfl, ⟨hq75_0, hq75_1, hq75_2, hq75_3⟩⟩ := hr
              refine j_eq (ws' := [(ra, o0 (some ba) (upS (upS R 2 at1_77) 3 ft1_78)), (ba, aInt E 100 tb)]) rfl rfl rfl ?_
              try simp only [upS, reduceIte, Nat.reduceEqDiff, eq_self] at hq75_0 hq75_1 hq75_2 hq75_3
              have hC := nm_of hq75_0
              have hCr := hq75_1
              have hCs := hq75_2
              have hCv := hq75_3
              clear hq75_0
              refine j_SP G (k0_momentsWith (xl Γ) E v68 v72 v76 (by first | assumption | omega | (simp only [upS, reduceIte, Nat.reduceEqDiff, eq_self, List.length_cons, List.length_nil, List.length_append] <;> omega)) (by first | assumption | omega | (simp only [upS, reduceIte, Nat.reduceEqDiff, eq_self, List.length_cons, List.length_nil, List.length_append] <;> omega)) (by first | assumption | omega | (simp only [upS, reduceIte, Nat.reduceEqDiff, eq_self, List.length_cons, List.length_nil, List.length_append] <;> omega))) mw0_momentsWith ml0_118 [] rfl ⟨Nat.le_of_ble_eq_true rfl, Nat.le_of_ble_eq_true rfl⟩ rfl (rest := []) rfl (Nat.le_of_ble_eq_true rfl) d0_single_124 ⟨Nat.le_of_ble_eq_true rfl, Nat.le_of_ble_eq_true rfl⟩ (fun r hr => ?_)
              obtain ⟨v80, rfl, ⟨hq79_0, hq79_1⟩⟩ := hr
              have hM := hq79_0
              have hMr := hq79_1
              have htst := sg_tst4 hI (by omega) hw.2 h33 h40 hA hBq hC hM
              refine j_istore G d0_single_127 (by decide) rfl ?_
              refine j_iload_n G 3 rfl d0_single_129 ?_
              refine j_if_eq (tgt := 143) G d0_single_130 (by decide) htR (fun h81 => ?_) (fun h81 => ?_)
              ·
                refine j_iload G 0 rfl d0_single_143 ?_
                exact j_iret G F d0_single_145 ⟨v80, at1_77, ft1_78, rfl, rfl, (by first | exact ⟨sg_par hI hlv2 (by omega) hc40 (by omega) he3 (by omega) hT ⟨fun q => by first | rfl | (exfalso; omega), fun q => by first | rfl | (exfalso; omega)⟩, by omega, by omega⟩ | exact ⟨htst _ ⟨fun q => by first | rfl | (exfalso; omega), fun q => by first | rfl | (exfalso; omega)⟩, by omega, by omega⟩)⟩
              ·
                refine j_ldc G 16777215 ct0_121 (by decide) d0_single_133 ?_
                refine j_iload G 0 rfl d0_single_135 ?_
                refine j_iconst G d0_single_137 ?_
                refine r_ixor G d0_single_138 ?_
                refine j_top (y := iZ (((iZ v80) ^^^ (iZ (-1))).toInt)) (iZ_of _).symm ?_
                refine r_iand G d0_single_139 ?_
                refine j_top (y := iZ (((iZ 16777215) &&& (iZ (((iZ v80) ^^^ (iZ (-1))).toInt))).toInt)) (iZ_of _).symm ?_
                refine j_goto (tgt := 145) G d0_single_140 (by decide) ?_
                exact j_iret G F d0_single_145 ⟨((iZ 16777215) &&& (iZ (((iZ v80) ^^^ (iZ (-1))).toInt))).toInt, at1_77, ft1_78, rfl, rfl, (by first | exact ⟨sg_par hI hlv2 (by omega) hc40 (by omega) he3 (by omega) hT ⟨fun q => by first | rfl | (exfalso; omega), fun q => by first | rfl | (exfalso; omega)⟩, by omega, by omega⟩ | exact ⟨htst _ ⟨fun q => by first | rfl | (exfalso; omega), fun q => by first | rfl | (exfalso; omega)⟩, by omega, by omega⟩)⟩
            ·
              have hlv2 : R 3 < 0 := ((hgC 40 (by decide) (by decide)).1 (by omega)).1
              have hc40 : nx U (R 1) az = 40 := ((hgC 40 (by decide) (by decide)).1 (by omega)).2
              refine j_aload_n G 2 rfl d0_single_58 ?_
              refine j_dup G d0_single_59 rfl ?_
              refine j_get G 0 0 2 in0 fl0_36 d0_single_60 rfl rfl (by decide) (v := .int (iZ az)) rfl rfl ?_
              refine j_iconst G d0_single_63 ?_
              refine j_iadd G d0_single_64 ?_
              refine j_put G 0 0 2 in0 tyok0 nm0 fl0_36 d0_single_65 rfl rfl (by decide) ⟨rfl, rfl⟩ rfl rfl (Nat.le_of_ble_eq_true rfl) (e := o0 (some ba) (upS R 2 (az + 1))) rfl ?_
              refine j_aload_n G 2 rfl d0_single_68 ?_
              refine j_iload_n G 1 rfl d0_single_69 ?_
              refine j_iconst G d0_single_70 ?_
              refine j_iadd G d0_single_71 ?_
              refine j_VM G (rm' := { frames := 7, cells := 0, slots := 0, locals := 162 }) (wc := [(ra, o0 (some ba) (upS R 2 (az + 1))), (ba, aInt E 100 tb)]) (wr := []) (k0_either_3 (xl Γ) E ra ba (upS R 2 (az + 1)) tb U (w + 1) (by first | assumption | omega | (simp only [upS, reduceIte, Nat.reduceEqDiff, eq_self, List.length_cons, List.length_nil, List.length_append] <;> omega)) (by first | assumption | omega | (simp only [upS, reduceIte, Nat.reduceEqDiff, eq_self, List.length_cons, List.length_nil, List.length_append] <;> omega)) (by first | assumption | omega | (simp only [upS, reduceIte, Nat.reduceEqDiff, eq_self, List.length_cons, List.length_nil, List.length_append] <;> omega)) (by first | assumption | omega | (simp only [upS, reduceIte, Nat.reduceEqDiff, eq_self, List.length_cons, List.length_nil, List.length_append] <;> omega)) (by first | assumption | omega | (simp only [upS, reduceIte, Nat.reduceEqDiff, eq_self, List.length_cons, List.length_nil, List.length_append] <;> omega))) mw0_either ml0_68 [0, 1] [] rfl rfl ⟨rfl, rfl⟩ (by decide) 0 0 rfl rfl rfl ⟨Nat.le_of_ble_eq_true rfl, Nat.le_of_ble_eq_true rfl⟩ rfl (rest := []) rfl (Nat.le_of_ble_eq_true rfl) d0_single_72 ⟨Nat.le_of_ble_eq_true rfl, Nat.le_of_ble_eq_true rfl⟩ (fun r w1 hr => ?_)
              obtain ⟨v83, at1_84, ft1_85, rfl, rfl, ⟨hq82_0, hq82_1, hq82_2⟩⟩ := hr
              refine j_eq (ws' := [(ra, o0 (some ba) (upS (upS R 2 at1_84) 3 ft1_85)), (ba, aInt E 100 tb)]) rfl rfl rfl ?_
              try simp only [upS, reduceIte, Nat.reduceEqDiff, eq_self] at hq82_0 hq82_1 hq82_2
              have he3 := hq82_0
              have hr3 := hq82_1
              have hx3 := hq82_2
              refine j_istore G d0_single_75 (by decide) rfl ?_
              refine j_aload_n G 3 rfl d0_single_77 ?_
              refine j_bipush G d0_single_78 rfl ?_
              refine j_bipush G d0_single_80 rfl ?_
              refine j_bipush G d0_single_82 rfl ?_
              refine j_VM G (rm' := { frames := 1, cells := 0, slots := 0, locals := 20 }) (wc := [(ra, o0 (some ba) (upS (upS R 2 at1_84) 3 ft1_85)), (ba, aInt E 100 tb)]) (wr := []) (k0_takeOneOf (xl Γ) E ra ba (upS (upS R 2 at1_84) 3 ft1_85) tb U 41 41 41 (by first | assumption | omega | (simp only [upS, reduceIte, Nat.reduceEqDiff, eq_self, List.length_cons, List.length_nil, List.length_append] <;> omega)) (by first | assumption | omega | (simp only [upS, reduceIte, Nat.reduceEqDiff, eq_self, List.length_cons, List.length_nil, List.length_append] <;> omega)) (by first | assumption | omega | (simp only [upS, reduceIte, Nat.reduceEqDiff, eq_self, List.length_cons, List.length_nil, List.length_append] <;> omega)) (by first | assumption | omega | (simp only [upS, reduceIte, Nat.reduceEqDiff, eq_self, List.length_cons, List.length_nil, List.length_append] <;> omega)) (by first | assumption | omega | (simp only [upS, reduceIte, Nat.reduceEqDiff, eq_self, List.length_cons, List.length_nil, List.length_append] <;> omega))) mw0_takeOneOf ml0_54 [0, 1] [] rfl rfl ⟨rfl, rfl⟩ (by decide) 0 0 rfl rfl rfl ⟨Nat.le_of_ble_eq_true rfl, Nat.le_of_ble_eq_true rfl⟩ rfl (rest := []) rfl (Nat.le_of_ble_eq_true rfl) d0_single_84 ⟨Nat.le_of_ble_eq_true rfl, Nat.le_of_ble_eq_true rfl⟩ (fun r w1 hr => ?_)
              obtain ⟨v87, at1_88, ft1_89, rfl, rfl, ⟨hq86_0, hq86_1, hq86_2, hq86_3⟩⟩ := hr
              refine j_eq (ws' := [(ra, o0 (some ba) (upS (upS R 2 at1_88) 3 ft1_89)), (ba, aInt E 100 tb)]) rfl rfl rfl ?_
              try simp only [upS, reduceIte, Nat.reduceEqDiff, eq_self] at hq86_0 hq86_1 hq86_2 hq86_3
              have hT := tk_of hq86_0
              have hTr := hq86_1
              have hTs := hq86_2
              clear hq86_0
              refine j_pop G d0_single_87 rfl ?_
              refine j_goto (tgt := 129) G d0_single_88 (by decide) ?_
              refine j_iload_n G 1 rfl d0_single_129 ?_
              refine j_if_eq (tgt := 143) G d0_single_130 (by decide) htR (fun h90 => ?_) (fun h90 => ?_)
              ·
                refine j_iload G 0 rfl d0_single_143 ?_
                exact j_iret G F d0_single_145 ⟨v83, at1_88, ft1_89, rfl, rfl, (by first | exact ⟨sg_par hI hlv2 (by omega) hc40 (by omega) he3 (by omega) hT ⟨fun q => by first | rfl | (exfalso; omega), fun q => by first | rfl | (exfalso; omega)⟩, by omega, by omega⟩ | exact ⟨htst _ ⟨fun q => by first | rfl | (exfalso; omega), fun q => by first | rfl | (exfalso; omega)⟩, by omega, by omega⟩)⟩
              ·
                refine j_ldc G 16777215 ct0_121 (by decide) d0_single_133 ?_
                refine j_iload G 0 rfl d0_single_135 ?_
                refine j_iconst G d0_single_137 ?_
                refine r_ixor G d0_single_138 ?_
                refine j_top (y := iZ (((iZ v83) ^^^ (iZ (-1))).toInt)) (iZ_of _).symm ?_
                refine r_iand G d0_single_139 ?_
                refine j_top (y := iZ (((iZ 16777215) &&& (iZ (((iZ v83) ^^^ (iZ (-1))).toInt))).toInt)) (iZ_of _).symm ?_
                refine j_goto (tgt := 145) G d0_single_140 (by decide) ?_
                exact j_iret G F d0_single_145 ⟨((iZ 16777215) &&& (iZ (((iZ v83) ^^^ (iZ (-1))).toInt))).toInt, at1_88, ft1_89, rfl, rfl, (by first | exact ⟨sg_par hI hlv2 (by omega) hc40 (by omega) he3 (by omega) hT ⟨fun q => by first | rfl | (exfalso; omega), fun q => by first | rfl | (exfalso; omega)⟩, by omega, by omega⟩ | exact ⟨htst _ ⟨fun q => by first | rfl | (exfalso; omega), fun q => by first | rfl | (exfalso; omega)⟩, by omega, by omega⟩)⟩
        ·
          have hlive : R 3 < 0 := ((hpC 33 (by decide) (by decide)).1 (by omega)).1
          have hnc : nx U (R 1) az = 33 := ((hpC 33 (by decide) (by decide)).1 (by omega)).2
          refine j_aload_n G 2 rfl d0_single_18 ?_
          refine j_dup G d0_single_19 rfl ?_
          refine j_get G 0 0 2 in0 fl0_36 d0_single_20 rfl rfl (by decide) (v := .int (iZ az)) rfl rfl ?_
          refine j_iconst G d0_single_23 ?_
          refine j_iadd G d0_single_24 ?_
          refine j_put G 0 0 2 in0 tyok0 nm0 fl0_36 d0_single_25 rfl rfl (by decide) ⟨rfl, rfl⟩ rfl rfl (Nat.le_of_ble_eq_true rfl) (e := o0 (some ba) (upS R 2 (az + 1))) rfl ?_
          refine j_iinc G d0_single_28 1 rfl (by decide) rfl ?_
          refine j_iload_n G 1 rfl d0_single_31 ?_
          have mg32 : ∀ x91 : Int, x91 = (if tn ≠ 0 then 0 else 1) → J E 7 Γ (some A) 0 0 [(ra, o0 (some ba) (upS R 2 (az + 1))), (ba, aInt E 100 tb)] 40 [(2, .int (iZ (w + 1))), (3, .int (iZ tn)), (0, .ref ra), (1, .int (iZ dp))] ([.int (iZ x91)]) := by
            intro x91 ex91
            have hxt : x91 = if tn = 0 then 1 else 0 := by rw [ex91]; (repeat' split) <;> omega
            refine j_istore_n G d0_single_40 (by decide) rfl ?_
            refine j_goto (tgt := 4) G d0_single_41 (by decide) ?_
            exact ih4 (w + 1) x91 (az + 1) (by omega) (by first | assumption | omega) (by first | assumption | omega) (by first | assumption | omega) (by have q := nt_s hI hlive hnc (by omega); rw [← hxt] at q; exact q)
          refine j_if_ne (tgt := 39) G d0_single_32 (by decide) htR (fun h92 => ?_) (fun h92 => ?_)
          ·
            refine j_iconst G d0_single_39 ?_
            refine j_eq (ws' := [(ra, o0 (some ba) (upS R 2 (az + 1))), (ba, aInt E 100 tb)]) (ls' := [(2, .int (iZ (w + 1))), (3, .int (iZ tn)), (0, .ref ra), (1, .int (iZ dp))]) rfl rfl rfl ?_
            exact mg32 _ (by first | rfl | (simp only [*, if_true, if_false, ite_true, ite_false]; done) | (split <;> first | rfl | omega | (split <;> first | rfl | omega | (split <;> first | rfl | omega))))
          ·
            refine j_iconst G d0_single_35 ?_
            refine j_goto (tgt := 40) G d0_single_36 (by decide) ?_
            refine j_eq (ws' := [(ra, o0 (some ba) (upS R 2 (az + 1))), (ba, aInt E 100 tb)]) (ls' := [(2, .int (iZ (w + 1))), (3, .int (iZ tn)), (0, .ref ra), (1, .int (iZ dp))]) rfl rfl rfl ?_
            exact mg32 _ (by first | rfl | (simp only [*, if_true, if_false, ite_true, ite_false]; done) | (split <;> first | rfl | omega | (split <;> first | rfl | omega | (split <;> first | rfl | omega))))
  exact lp4 _ dp 0 (R 2) (Nat.lt_succ_self _) (by first | assumption | omega) (by first | assumption | omega) (by first | assumption | omega) (nt_0 hft.1)
set_option maxHeartbeats 4000000 in
set_option maxRecDepth 100000 in
theorem k0_both_2 (l : Launch) (E : En) (ra : Nat) (ba : Nat) (R : Nat → Int) (tb : Int → Int) (U : Int → Int) (dp : Int) (htb : ∀ j, 0 ≤ j → j < 100 → tb j = U j % 256 ∧ -128 ≤ U j ∧ U j ≤ 127) (hln : 0 ≤ R 1 ∧ R 1 ≤ 100) (hat : 0 ≤ R 2 ∧ R 2 ≤ R 1) (hft : -1 ≤ R 3 ∧ R 3 ≤ 200) (hdp : 2 ≤ dp ∧ dp ≤ 4) : Cm l E y0_both c0_both 3 (some .int) { frames := 9, cells := 0, slots := 0, locals := 210 } [.ref ra, .int (iZ dp)] [(ra, o0 (some ba) R), (ba, aInt E 100 tb)] (fun r ws => ∃ (v : Int), ∃ (at1 : Int), ∃ (ft1 : Int), r = some (.int (iZ v)) ∧ ws = [(ra, o0 (some ba) (upS (upS R 2 at1) 3 ft1)), (ba, aInt E 100 tb)] ∧ (ExS U (R 1) 2 dp (R 2) (R 3) at1 ft1 v ∧ (R 2 ≤ at1 ∧ at1 ≤ R 1) ∧ (-1 ≤ ft1 ∧ ft1 ≤ 200))) := by
  refine Cm.of (by decide +kernel) (Nat.le_of_ble_eq_true rfl) (fun Γ A hl hargs hin G F => ?_)
  subst hl
  refine j_aload_n G 0 rfl d0_both_0 ?_
  refine j_iload_n G 1 rfl d0_both_1 ?_
  refine j_VM G (rm' := { frames := 8, cells := 0, slots := 0, locals := 184 }) (wc := [(ra, o0 (some ba) R), (ba, aInt E 100 tb)]) (wr := []) (k0_single_2 (xl Γ) E ra ba R tb U dp (by first | assumption | omega | (simp only [upS, reduceIte, Nat.reduceEqDiff, eq_self, List.length_cons, List.length_nil, List.length_append] <;> omega)) (by first | assumption | omega | (simp only [upS, reduceIte, Nat.reduceEqDiff, eq_self, List.length_cons, List.length_nil, List.length_append] <;> omega)) (by first | assumption | omega | (simp only [upS, reduceIte, Nat.reduceEqDiff, eq_self, List.length_cons, List.length_nil, List.length_append] <;> omega)) (by first | assumption | omega | (simp only [upS, reduceIte, Nat.reduceEqDiff, eq_self, List.length_cons, List.length_nil, List.length_append] <;> omega)) (by first | assumption | omega | (simp only [upS, reduceIte, Nat.reduceEqDiff, eq_self, List.length_cons, List.length_nil, List.length_append] <;> omega))) mw0_single ml0_115 [0, 1] [] rfl rfl ⟨rfl, rfl⟩ (by decide) 0 0 rfl rfl rfl ⟨Nat.le_of_ble_eq_true rfl, Nat.le_of_ble_eq_true rfl⟩ rfl (rest := []) rfl (Nat.le_of_ble_eq_true rfl) d0_both_2 ⟨Nat.le_of_ble_eq_true rfl, Nat.le_of_ble_eq_true rfl⟩ (fun r w1 hr => ?_)
  obtain ⟨v2, at1_3, ft1_4, rfl, rfl, ⟨hq1_0, hq1_1, hq1_2⟩⟩ := hr
  refine j_eq (ws' := [(ra, o0 (some ba) (upS (upS R 2 at1_3) 3 ft1_4)), (ba, aInt E 100 tb)]) rfl rfl rfl ?_
  have he0 := hq1_0
  have hr0 := hq1_1
  have hx0 := hq1_2
  refine j_istore_n G d0_both_5 (by decide) rfl ?_
  have lp6 : ∀ (fu : Nat) (m : Int) (az : Int) (f : Int), (R 1 - az).toNat < fu → (R 2 ≤ az ∧ az ≤ R 1) → (-1 ≤ f ∧ f ≤ 200) → (LpS U (R 1) 2 dp (R 2) (R 3) az f m) →  J E 3 Γ (some A) 0 0 [(ra, o0 (some ba) (upS (upS R 2 az) 3 f)), (ba, aInt E 100 tb)] 6 [(2, .int (iZ m)), (0, .ref ra), (1, .int (iZ dp))] [] := by
    intro fu
    induction fu with
    | zero =>
      intro m az f hm
      exact absurd hm (Nat.not_lt_zero _)
    | succ fu ih6 =>
      intro m az f hm haz hf hI
      refine j_aload_n G 1 rfl d0_both_6 ?_
      refine j_get G 0 0 2 in0 fl0_36 d0_both_7 rfl rfl (by decide) (v := .int (iZ az)) rfl rfl ?_
      refine j_aload_n G 1 rfl d0_both_10 ?_
      refine j_get G 0 0 1 in0 fl0_25 d0_both_11 rfl rfl (by decide) (v := .int (iZ (R 1))) rfl rfl ?_
      refine j_icmp_ge (tgt := 47) G d0_both_14 (by decide) (by omega) (by omega) (fun h5 => ?_) (fun h5 => ?_)
      ·
        have hend := lp_e hI (fun q => ⟨fun _ => by first | (refine fun z => absurd ((hpC 38 (by decide) (by decide)).2 ⟨q, z⟩) ?_; omega) | (unfold nx; rw [if_neg (by omega)]; decide), fun e => absurd e (by decide)⟩) (by decide)
        refine j_iload_n G 0 rfl d0_both_47 ?_
        exact j_iret G F d0_both_48 ⟨m, az, f, rfl, rfl, (by exact ⟨hend, by omega, by omega⟩)⟩
      ·
        refine j_aload_n G 1 rfl d0_both_17 ?_
        refine j_VP G (k0_peek (xl Γ) E ra ba (upS (upS R 2 az) 3 f) tb U (by first | assumption | omega | (simp only [upS, reduceIte, Nat.reduceEqDiff, eq_self, List.length_cons, List.length_nil, List.length_append] <;> omega)) (by first | assumption | omega | (simp only [upS, reduceIte, Nat.reduceEqDiff, eq_self, List.length_cons, List.length_nil, List.length_append] <;> omega)) (by first | assumption | omega | (simp only [upS, reduceIte, Nat.reduceEqDiff, eq_self, List.length_cons, List.length_nil, List.length_append] <;> omega)) (by first | assumption | omega | (simp only [upS, reduceIte, Nat.reduceEqDiff, eq_self, List.length_cons, List.length_nil, List.length_append] <;> omega))) mw0_peek ml0_32 [0, 1] rfl 0 0 rfl rfl rfl ⟨Nat.le_of_ble_eq_true rfl, Nat.le_of_ble_eq_true rfl⟩ rfl (rest := []) rfl (Nat.le_of_ble_eq_true rfl) d0_both_18 ⟨Nat.le_of_ble_eq_true rfl, Nat.le_of_ble_eq_true rfl⟩ (fun r hr => ?_)
        obtain ⟨v7, rfl, ⟨hq6_0, hq6_1, hq6_2, hq6_3, hq6_4⟩⟩ := hr
        try simp only [upS, reduceIte, Nat.reduceEqDiff, eq_self] at hq6_0 hq6_1 hq6_2 hq6_3 hq6_4
        have hpC := pk_of hq6_0 hq6_1 hq6_2
        have hp2 := hq6_2
        clear hq6_0 hq6_1 hq6_3 hq6_4
        refine j_bipush G d0_both_21 rfl ?_
        refine j_icmp_ne (tgt := 47) G d0_both_23 (by decide) (r32_pk hp2) (by decide) (fun h8 => ?_) (fun h8 => ?_)
        ·
          have hend := lp_e hI (fun q => ⟨fun _ => by first | (refine fun z => absurd ((hpC 38 (by decide) (by decide)).2 ⟨q, z⟩) ?_; omega) | (unfold nx; rw [if_neg (by omega)]; decide), fun e => absurd e (by decide)⟩) (by decide)
          refine j_iload_n G 0 rfl d0_both_47 ?_
          exact j_iret G F d0_both_48 ⟨m, az, f, rfl, rfl, (by exact ⟨hend, by omega, by omega⟩)⟩
        ·
          have hlive : f < 0 := ((hpC 38 (by decide) (by decide)).1 (by omega)).1
          have hnc : nx U (R 1) az = 38 := ((hpC 38 (by decide) (by decide)).1 (by omega)).2
          refine j_aload_n G 1 rfl d0_both_26 ?_
          refine j_dup G d0_both_27 rfl ?_
          refine j_get G 0 0 2 in0 fl0_36 d0_both_28 rfl rfl (by decide) (v := .int (iZ az)) rfl rfl ?_
          refine j_iconst G d0_both_31 ?_
          refine j_iadd G d0_both_32 ?_
          refine j_put G 0 0 2 in0 tyok0 nm0 fl0_36 d0_both_33 rfl rfl (by decide) ⟨rfl, rfl⟩ rfl rfl (Nat.le_of_ble_eq_true rfl) (e := o0 (some ba) (upS (upS R 3 f) 2 (az + 1))) rfl ?_
          refine j_iload_n G 0 rfl d0_both_36 ?_
          refine j_aload_n G 1 rfl d0_both_37 ?_
          refine j_iload_n G 2 rfl d0_both_38 ?_
          refine j_VM G (rm' := { frames := 8, cells := 0, slots := 0, locals := 184 }) (wc := [(ra, o0 (some ba) (upS (upS R 3 f) 2 (az + 1))), (ba, aInt E 100 tb)]) (wr := []) (k0_single_2 (xl Γ) E ra ba (upS (upS R 3 f) 2 (az + 1)) tb U dp (by first | assumption | omega | (simp only [upS, reduceIte, Nat.reduceEqDiff, eq_self, List.length_cons, List.length_nil, List.length_append] <;> omega)) (by first | assumption | omega | (simp only [upS, reduceIte, Nat.reduceEqDiff, eq_self, List.length_cons, List.length_nil, List.length_append] <;> omega)) (by first | assumption | omega | (simp only [upS, reduceIte, Nat.reduceEqDiff, eq_self, List.length_cons, List.length_nil, List.length_append] <;> omega)) (by first | assumption | omega | (simp only [upS, reduceIte, Nat.reduceEqDiff, eq_self, List.length_cons, List.length_nil, List.length_append] <;> omega)) (by first | assumption | omega | (simp only [upS, reduceIte, Nat.reduceEqDiff, eq_self, List.length_cons, List.length_nil, List.length_append] <;> omega))) mw0_single ml0_115 [0, 1] [] rfl rfl ⟨rfl, rfl⟩ (by decide) 0 0 rfl rfl rfl ⟨Nat.le_of_ble_eq_true rfl, Nat.le_of_ble_eq_true rfl⟩ rfl (rest := [.int (iZ m)]) rfl (Nat.le_of_ble_eq_true rfl) d0_both_39 ⟨Nat.le_of_ble_eq_true rfl, Nat.le_of_ble_eq_true rfl⟩ (fun r w1 hr => ?_)
          obtain ⟨v10, at1_11, ft1_12, rfl, rfl, ⟨hq9_0, hq9_1, hq9_2⟩⟩ := hr
          refine j_eq (ws' := [(ra, o0 (some ba) (upS (upS R 2 at1_11) 3 ft1_12)), (ba, aInt E 100 tb)]) rfl rfl rfl ?_
          try simp only [upS, reduceIte, Nat.reduceEqDiff, eq_self] at hq9_0 hq9_1 hq9_2
          have he1 := hq9_0
          have hr1 := hq9_1
          have hx1 := hq9_2
          refine r_iand G d0_both_42 ?_
          refine j_top (y := iZ (((iZ m) &&& (iZ v10)).toInt)) (iZ_of _).symm ?_
          refine j_istore_n G d0_both_43 (by decide) rfl ?_
          refine j_goto (tgt := 6) G d0_both_44 (by decide) ?_
          exact ih6 (((iZ m) &&& (iZ v10)).toInt) at1_11 ft1_12 (by omega) (by first | assumption | omega) (by first | assumption | omega) (lp_and hI hlive hnc he1)
  exact lp6 _ v2 at1_3 ft1_4 (Nat.lt_succ_self _) (by first | assumption | omega) (by first | assumption | omega) (lp_0 (by decide) he0)
set_option maxHeartbeats 4000000 in
set_option maxRecDepth 100000 in
theorem k0_either_2 (l : Launch) (E : En) (ra : Nat) (ba : Nat) (R : Nat → Int) (tb : Int → Int) (U : Int → Int) (dp : Int) (htb : ∀ j, 0 ≤ j → j < 100 → tb j = U j % 256 ∧ -128 ≤ U j ∧ U j ≤ 127) (hln : 0 ≤ R 1 ∧ R 1 ≤ 100) (hat : 0 ≤ R 2 ∧ R 2 ≤ R 1) (hft : -1 ≤ R 3 ∧ R 3 ≤ 200) (hdp : 2 ≤ dp ∧ dp ≤ 4) : Cm l E y0_either c0_either 3 (some .int) { frames := 10, cells := 0, slots := 0, locals := 232 } [.ref ra, .int (iZ dp)] [(ra, o0 (some ba) R), (ba, aInt E 100 tb)] (fun r ws => ∃ (v : Int), ∃ (at1 : Int), ∃ (ft1 : Int), r = some (.int (iZ v)) ∧ ws = [(ra, o0 (some ba) (upS (upS R 2 at1) 3 ft1)), (ba, aInt E 100 tb)] ∧ (ExS U (R 1) 3 dp (R 2) (R 3) at1 ft1 v ∧ (R 2 ≤ at1 ∧ at1 ≤ R 1) ∧ (-1 ≤ ft1 ∧ ft1 ≤ 200))) := by
  refine Cm.of (by decide +kernel) (Nat.le_of_ble_eq_true rfl) (fun Γ A hl hargs hin G F => ?_)
  subst hl
  refine j_aload_n G 0 rfl d0_either_0 ?_
  refine j_iload_n G 1 rfl d0_either_1 ?_
  refine j_VM G (rm' := { frames := 9, cells := 0, slots := 0, locals := 210 }) (wc := [(ra, o0 (some ba) R), (ba, aInt E 100 tb)]) (wr := []) (k0_both_2 (xl Γ) E ra ba R tb U dp (by first | assumption | omega | (simp only [upS, reduceIte, Nat.reduceEqDiff, eq_self, List.length_cons, List.length_nil, List.length_append] <;> omega)) (by first | assumption | omega | (simp only [upS, reduceIte, Nat.reduceEqDiff, eq_self, List.length_cons, List.length_nil, List.length_append] <;> omega)) (by first | assumption | omega | (simp only [upS, reduceIte, Nat.reduceEqDiff, eq_self, List.length_cons, List.length_nil, List.length_append] <;> omega)) (by first | assumption | omega | (simp only [upS, reduceIte, Nat.reduceEqDiff, eq_self, List.length_cons, List.length_nil, List.length_append] <;> omega)) (by first | assumption | omega | (simp only [upS, reduceIte, Nat.reduceEqDiff, eq_self, List.length_cons, List.length_nil, List.length_append] <;> omega))) mw0_both ml0_112 [0, 1] [] rfl rfl ⟨rfl, rfl⟩ (by decide) 0 0 rfl rfl rfl ⟨Nat.le_of_ble_eq_true rfl, Nat.le_of_ble_eq_true rfl⟩ rfl (rest := []) rfl (Nat.le_of_ble_eq_true rfl) d0_either_2 ⟨Nat.le_of_ble_eq_true rfl, Nat.le_of_ble_eq_true rfl⟩ (fun r w1 hr => ?_)
  obtain ⟨v2, at1_3, ft1_4, rfl, rfl, ⟨hq1_0, hq1_1, hq1_2⟩⟩ := hr
  refine j_eq (ws' := [(ra, o0 (some ba) (upS (upS R 2 at1_3) 3 ft1_4)), (ba, aInt E 100 tb)]) rfl rfl rfl ?_
  have he0 := hq1_0
  have hr0 := hq1_1
  have hx0 := hq1_2
  refine j_istore_n G d0_either_5 (by decide) rfl ?_
  have lp6 : ∀ (fu : Nat) (m : Int) (az : Int) (f : Int), (R 1 - az).toNat < fu → (R 2 ≤ az ∧ az ≤ R 1) → (-1 ≤ f ∧ f ≤ 200) → (LpS U (R 1) 3 dp (R 2) (R 3) az f m) →  J E 3 Γ (some A) 0 0 [(ra, o0 (some ba) (upS (upS R 2 az) 3 f)), (ba, aInt E 100 tb)] 6 [(2, .int (iZ m)), (0, .ref ra), (1, .int (iZ dp))] [] := by
    intro fu
    induction fu with
    | zero =>
      intro m az f hm
      exact absurd hm (Nat.not_lt_zero _)
    | succ fu ih6 =>
      intro m az f hm haz hf hI
      refine j_aload_n G 1 rfl d0_either_6 ?_
      refine j_get G 0 0 2 in0 fl0_36 d0_either_7 rfl rfl (by decide) (v := .int (iZ az)) rfl rfl ?_
      refine j_aload_n G 1 rfl d0_either_10 ?_
      refine j_get G 0 0 1 in0 fl0_25 d0_either_11 rfl rfl (by decide) (v := .int (iZ (R 1))) rfl rfl ?_
      refine j_icmp_ge (tgt := 47) G d0_either_14 (by decide) (by omega) (by omega) (fun h5 => ?_) (fun h5 => ?_)
      ·
        have hend := lp_e hI (fun q => ⟨fun e => absurd e (by decide), fun _ => by first | (refine fun z => absurd ((hpC 124 (by decide) (by decide)).2 ⟨q, z⟩) ?_; omega) | (unfold nx; rw [if_neg (by omega)]; decide)⟩) (by decide)
        refine j_iload_n G 0 rfl d0_either_47 ?_
        exact j_iret G F d0_either_48 ⟨m, az, f, rfl, rfl, (by exact ⟨hend, by omega, by omega⟩)⟩
      ·
        refine j_aload_n G 1 rfl d0_either_17 ?_
        refine j_VP G (k0_peek (xl Γ) E ra ba (upS (upS R 2 az) 3 f) tb U (by first | assumption | omega | (simp only [upS, reduceIte, Nat.reduceEqDiff, eq_self, List.length_cons, List.length_nil, List.length_append] <;> omega)) (by first | assumption | omega | (simp only [upS, reduceIte, Nat.reduceEqDiff, eq_self, List.length_cons, List.length_nil, List.length_append] <;> omega)) (by first | assumption | omega | (simp only [upS, reduceIte, Nat.reduceEqDiff, eq_self, List.length_cons, List.length_nil, List.length_append] <;> omega)) (by first | assumption | omega | (simp only [upS, reduceIte, Nat.reduceEqDiff, eq_self, List.length_cons, List.length_nil, List.length_append] <;> omega))) mw0_peek ml0_32 [0, 1] rfl 0 0 rfl rfl rfl ⟨Nat.le_of_ble_eq_true rfl, Nat.le_of_ble_eq_true rfl⟩ rfl (rest := []) rfl (Nat.le_of_ble_eq_true rfl) d0_either_18 ⟨Nat.le_of_ble_eq_true rfl, Nat.le_of_ble_eq_true rfl⟩ (fun r hr => ?_)
        obtain ⟨v7, rfl, ⟨hq6_0, hq6_1, hq6_2, hq6_3, hq6_4⟩⟩ := hr
        try simp only [upS, reduceIte, Nat.reduceEqDiff, eq_self] at hq6_0 hq6_1 hq6_2 hq6_3 hq6_4
        have hpC := pk_of hq6_0 hq6_1 hq6_2
        have hp2 := hq6_2
        clear hq6_0 hq6_1 hq6_3 hq6_4
        refine j_bipush G d0_either_21 rfl ?_
        refine j_icmp_ne (tgt := 47) G d0_either_23 (by decide) (r32_pk hp2) (by decide) (fun h8 => ?_) (fun h8 => ?_)
        ·
          have hend := lp_e hI (fun q => ⟨fun e => absurd e (by decide), fun _ => by first | (refine fun z => absurd ((hpC 124 (by decide) (by decide)).2 ⟨q, z⟩) ?_; omega) | (unfold nx; rw [if_neg (by omega)]; decide)⟩) (by decide)
          refine j_iload_n G 0 rfl d0_either_47 ?_
          exact j_iret G F d0_either_48 ⟨m, az, f, rfl, rfl, (by exact ⟨hend, by omega, by omega⟩)⟩
        ·
          have hlive : f < 0 := ((hpC 124 (by decide) (by decide)).1 (by omega)).1
          have hnc : nx U (R 1) az = 124 := ((hpC 124 (by decide) (by decide)).1 (by omega)).2
          refine j_aload_n G 1 rfl d0_either_26 ?_
          refine j_dup G d0_either_27 rfl ?_
          refine j_get G 0 0 2 in0 fl0_36 d0_either_28 rfl rfl (by decide) (v := .int (iZ az)) rfl rfl ?_
          refine j_iconst G d0_either_31 ?_
          refine j_iadd G d0_either_32 ?_
          refine j_put G 0 0 2 in0 tyok0 nm0 fl0_36 d0_either_33 rfl rfl (by decide) ⟨rfl, rfl⟩ rfl rfl (Nat.le_of_ble_eq_true rfl) (e := o0 (some ba) (upS (upS R 3 f) 2 (az + 1))) rfl ?_
          refine j_iload_n G 0 rfl d0_either_36 ?_
          refine j_aload_n G 1 rfl d0_either_37 ?_
          refine j_iload_n G 2 rfl d0_either_38 ?_
          refine j_VM G (rm' := { frames := 9, cells := 0, slots := 0, locals := 210 }) (wc := [(ra, o0 (some ba) (upS (upS R 3 f) 2 (az + 1))), (ba, aInt E 100 tb)]) (wr := []) (k0_both_2 (xl Γ) E ra ba (upS (upS R 3 f) 2 (az + 1)) tb U dp (by first | assumption | omega | (simp only [upS, reduceIte, Nat.reduceEqDiff, eq_self, List.length_cons, List.length_nil, List.length_append] <;> omega)) (by first | assumption | omega | (simp only [upS, reduceIte, Nat.reduceEqDiff, eq_self, List.length_cons, List.length_nil, List.length_append] <;> omega)) (by first | assumption | omega | (simp only [upS, reduceIte, Nat.reduceEqDiff, eq_self, List.length_cons, List.length_nil, List.length_append] <;> omega)) (by first | assumption | omega | (simp only [upS, reduceIte, Nat.reduceEqDiff, eq_self, List.length_cons, List.length_nil, List.length_append] <;> omega)) (by first | assumption | omega | (simp only [upS, reduceIte, Nat.reduceEqDiff, eq_self, List.length_cons, List.length_nil, List.length_append] <;> omega))) mw0_both ml0_112 [0, 1] [] rfl rfl ⟨rfl, rfl⟩ (by decide) 0 0 rfl rfl rfl ⟨Nat.le_of_ble_eq_true rfl, Nat.le_of_ble_eq_true rfl⟩ rfl (rest := [.int (iZ m)]) rfl (Nat.le_of_ble_eq_true rfl) d0_either_39 ⟨Nat.le_of_ble_eq_true rfl, Nat.le_of_ble_eq_true rfl⟩ (fun r w1 hr => ?_)
          obtain ⟨v10, at1_11, ft1_12, rfl, rfl, ⟨hq9_0, hq9_1, hq9_2⟩⟩ := hr
          refine j_eq (ws' := [(ra, o0 (some ba) (upS (upS R 2 at1_11) 3 ft1_12)), (ba, aInt E 100 tb)]) rfl rfl rfl ?_
          try simp only [upS, reduceIte, Nat.reduceEqDiff, eq_self] at hq9_0 hq9_1 hq9_2
          have he1 := hq9_0
          have hr1 := hq9_1
          have hx1 := hq9_2
          refine r_ior G d0_either_42 ?_
          refine j_top (y := iZ (((iZ m) ||| (iZ v10)).toInt)) (iZ_of _).symm ?_
          refine j_istore_n G d0_either_43 (by decide) rfl ?_
          refine j_goto (tgt := 6) G d0_either_44 (by decide) ?_
          exact ih6 (((iZ m) ||| (iZ v10)).toInt) at1_11 ft1_12 (by omega) (by first | assumption | omega) (by first | assumption | omega) (lp_or hI hlive hnc he1)
  exact lp6 _ v2 at1_3 ft1_4 (Nat.lt_succ_self _) (by first | assumption | omega) (by first | assumption | omega) (lp_0 (by decide) he0)
set_option maxHeartbeats 4000000 in
set_option maxRecDepth 100000 in
theorem k0_single_1 (l : Launch) (E : En) (ra : Nat) (ba : Nat) (R : Nat → Int) (tb : Int → Int) (U : Int → Int) (dp : Int) (htb : ∀ j, 0 ≤ j → j < 100 → tb j = U j % 256 ∧ -128 ≤ U j ∧ U j ≤ 127) (hln : 0 ≤ R 1 ∧ R 1 ≤ 100) (hat : 0 ≤ R 2 ∧ R 2 ≤ R 1) (hft : -1 ≤ R 3 ∧ R 3 ≤ 200) (hdp : 1 ≤ dp ∧ dp ≤ 4) : Cm l E y0_single c0_single 7 (some .int) { frames := 11, cells := 0, slots := 0, locals := 254 } [.ref ra, .int (iZ dp)] [(ra, o0 (some ba) R), (ba, aInt E 100 tb)] (fun r ws => ∃ (v : Int), ∃ (at1 : Int), ∃ (ft1 : Int), r = some (.int (iZ v)) ∧ ws = [(ra, o0 (some ba) (upS (upS R 2 at1) 3 ft1)), (ba, aInt E 100 tb)] ∧ (ExS U (R 1) 1 dp (R 2) (R 3) at1 ft1 v ∧ (R 2 ≤ at1 ∧ at1 ≤ R 1) ∧ (-1 ≤ ft1 ∧ ft1 ≤ 200))) := by
  refine Cm.of (by decide +kernel) (Nat.le_of_ble_eq_true rfl) (fun Γ A hl hargs hin G F => ?_)
  subst hl
  refine j_iload_n G 1 rfl d0_single_0 ?_
  refine j_istore_n G d0_single_1 (by decide) rfl ?_
  refine j_iconst G d0_single_2 ?_
  refine j_istore_n G d0_single_3 (by decide) rfl ?_
  refine j_eq (ws' := [(ra, o0 (some ba) (upS R 2 (R 2))), (ba, aInt E 100 tb)]) rfl rfl rfl ?_
  have lp4 : ∀ (fu : Nat) (w : Int) (tn : Int) (az : Int), (4 - w).toNat < fu → (dp ≤ w ∧ w ≤ 4) → (tn = 0 ∨ tn = 1) → (R 2 ≤ az ∧ az ≤ R 1) → (NtI U (R 1) dp (R 2) (R 3) w tn az) →  J E 7 Γ (some A) 0 0 [(ra, o0 (some ba) (upS R 2 az)), (ba, aInt E 100 tb)] 4 [(3, .int (iZ tn)), (2, .int (iZ w)), (0, .ref ra), (1, .int (iZ dp))] [] := by
    intro fu
    induction fu with
    | zero =>
      intro w tn az hm
      exact absurd hm (Nat.not_lt_zero _)
    | succ fu ih4 =>
      intro w tn az hm hw htn haz hI
      have hwR : R32 w := ⟨by omega, by omega⟩
      have htR : R32 tn := ⟨by omega, by omega⟩
      refine j_aload_n G 2 rfl d0_single_4 ?_
      refine j_VP G (k0_peek (xl Γ) E ra ba (upS R 2 az) tb U (by first | assumption | omega | (simp only [upS, reduceIte, Nat.reduceEqDiff, eq_self, List.length_cons, List.length_nil, List.length_append] <;> omega)) (by first | assumption | omega | (simp only [upS, reduceIte, Nat.reduceEqDiff, eq_self, List.length_cons, List.length_nil, List.length_append] <;> omega)) (by first | assumption | omega | (simp only [upS, reduceIte, Nat.reduceEqDiff, eq_self, List.length_cons, List.length_nil, List.length_append] <;> omega)) (by first | assumption | omega | (simp only [upS, reduceIte, Nat.reduceEqDiff, eq_self, List.length_cons, List.length_nil, List.length_append] <;> omega))) mw0_peek ml0_32 [0, 1] rfl 0 0 rfl rfl rfl ⟨Nat.le_of_ble_eq_true rfl, Nat.le_of_ble_eq_true rfl⟩ rfl (rest := []) rfl (Nat.le_of_ble_eq_true rfl) d0_single_5 ⟨Nat.le_of_ble_eq_true rfl, Nat.le_of_ble_eq_true rfl⟩ (fun r hr => ?_)
      obtain ⟨v2, rfl, ⟨hq1_0, hq1_1, hq1_2, hq1_3, hq1_4⟩⟩ := hr
      try simp only [upS, reduceIte, Nat.reduceEqDiff, eq_self] at hq1_0 hq1_1 hq1_2 hq1_3 hq1_4
      have hpC := pk_of hq1_0 hq1_1 hq1_2
      have hp2 := hq1_2
      have hp3 := hq1_3
      clear hq1_0 hq1_1 hq1_3 hq1_4
      refine j_bipush G d0_single_8 rfl ?_
      refine j_icmp_ne (tgt := 44) G d0_single_10 (by decide) (r32_pk hp2) (by decide) (fun h3 => ?_) (fun h3 => ?_)
      ·
        refine j_aload_n G 2 rfl d0_single_44 ?_
        refine j_VP G (k0_peek (xl Γ) E ra ba (upS R 2 az) tb U (by first | assumption | omega | (simp only [upS, reduceIte, Nat.reduceEqDiff, eq_self, List.length_cons, List.length_nil, List.length_append] <;> omega)) (by first | assumption | omega | (simp only [upS, reduceIte, Nat.reduceEqDiff, eq_self, List.length_cons, List.length_nil, List.length_append] <;> omega)) (by first | assumption | omega | (simp only [upS, reduceIte, Nat.reduceEqDiff, eq_self, List.length_cons, List.length_nil, List.length_append] <;> omega)) (by first | assumption | omega | (simp only [upS, reduceIte, Nat.reduceEqDiff, eq_self, List.length_cons, List.length_nil, List.length_append] <;> omega))) mw0_peek ml0_32 [0, 1] rfl 0 0 rfl rfl rfl ⟨Nat.le_of_ble_eq_true rfl, Nat.le_of_ble_eq_true rfl⟩ rfl (rest := []) rfl (Nat.le_of_ble_eq_true rfl) d0_single_45 ⟨Nat.le_of_ble_eq_true rfl, Nat.le_of_ble_eq_true rfl⟩ (fun r hr => ?_)
        obtain ⟨v5, rfl, ⟨hq4_0, hq4_1, hq4_2, hq4_3, hq4_4⟩⟩ := hr
        try simp only [upS, reduceIte, Nat.reduceEqDiff, eq_self] at hq4_0 hq4_1 hq4_2 hq4_3 hq4_4
        have hgC := pk_of hq4_0 hq4_1 hq4_2
        have hg2 := hq4_2
        have hg3 := hq4_3
        clear hq4_0 hq4_1 hq4_3 hq4_4
        refine j_bipush G d0_single_48 rfl ?_
        refine j_icmp_ne (tgt := 91) G d0_single_50 (by decide) (r32_pk hg2) (by decide) (fun h6 => ?_) (fun h6 => ?_)
        ·
          have h33 : R 3 < 0 → nx U (R 1) az = 33 → 4 ≤ w := fun q1 q2 => by have z := (hpC 33 (by decide) (by decide)).2 ⟨q1, q2⟩; omega
          have h40 : R 3 < 0 → nx U (R 1) az = 40 → 4 ≤ w := fun q1 q2 => by have z := (hgC 40 (by decide) (by decide)).2 ⟨q1, q2⟩; omega
          refine j_aload_n G 2 rfl d0_single_91 ?_
          refine j_bipush G d0_single_92 rfl ?_
          refine j_bipush G d0_single_94 rfl ?_
          refine j_bipush G d0_single_96 rfl ?_
          refine j_VM G (rm' := { frames := 1, cells := 0, slots := 0, locals := 20 }) (wc := [(ra, o0 (some ba) (upS R 2 az)), (ba, aInt E 100 tb)]) (wr := []) (k0_takeOneOf (xl Γ) E ra ba (upS R 2 az) tb U 115 119 119 (by first | assumption | omega | (simp only [upS, reduceIte, Nat.reduceEqDiff, eq_self, List.length_cons, List.length_nil, List.length_append] <;> omega)) (by first | assumption | omega | (simp only [upS, reduceIte, Nat.reduceEqDiff, eq_self, List.length_cons, List.length_nil, List.length_append] <;> omega)) (by first | assumption | omega | (simp only [upS, reduceIte, Nat.reduceEqDiff, eq_self, List.length_cons, List.length_nil, List.length_append] <;> omega)) (by first | assumption | omega | (simp only [upS, reduceIte, Nat.reduceEqDiff, eq_self, List.length_cons, List.length_nil, List.length_append] <;> omega)) (by first | assumption | omega | (simp only [upS, reduceIte, Nat.reduceEqDiff, eq_self, List.length_cons, List.length_nil, List.length_append] <;> omega))) mw0_takeOneOf ml0_54 [0, 1] [] rfl rfl ⟨rfl, rfl⟩ (by decide) 0 0 rfl rfl rfl ⟨Nat.le_of_ble_eq_true rfl, Nat.le_of_ble_eq_true rfl⟩ rfl (rest := []) rfl (Nat.le_of_ble_eq_true rfl) d0_single_98 ⟨Nat.le_of_ble_eq_true rfl, Nat.le_of_ble_eq_true rfl⟩ (fun r w1 hr => ?_)
          obtain ⟨v8, at1_9, ft1_10, rfl, rfl, ⟨hq7_0, hq7_1, hq7_2, hq7_3⟩⟩ := hr
          refine j_eq (ws' := [(ra, o0 (some ba) (upS (upS R 2 at1_9) 3 ft1_10)), (ba, aInt E 100 tb)]) rfl rfl rfl ?_
          try simp only [upS, reduceIte, Nat.reduceEqDiff, eq_self] at hq7_0 hq7_1 hq7_2 hq7_3
          have hA := tk_of hq7_0
          have hAr := hq7_1
          have hAs := hq7_2
          have hAv := hq7_3
          clear hq7_0
          refine j_istore G d0_single_101 (by decide) rfl ?_
          refine j_aload_n G 3 rfl d0_single_103 ?_
          refine j_bipush G d0_single_104 rfl ?_
          refine j_bipush G d0_single_106 rfl ?_
          refine j_bipush G d0_single_108 rfl ?_
          refine j_VM G (rm' := { frames := 1, cells := 0, slots := 0, locals := 20 }) (wc := [(ra, o0 (some ba) (upS (upS R 2 at1_9) 3 ft1_10)), (ba, aInt E 100 tb)]) (wr := []) (k0_takeOneOf (xl Γ) E ra ba (upS (upS R 2 at1_9) 3 ft1_10) tb U 60 61 62 (by first | assumption | omega | (simp only [upS, reduceIte, Nat.reduceEqDiff, eq_self, List.length_cons, List.length_nil, List.length_append] <;> omega)) (by first | assumption | omega | (simp only [upS, reduceIte, Nat.reduceEqDiff, eq_self, List.length_cons, List.length_nil, List.length_append] <;> omega)) (by first | assumption | omega | (simp only [upS, reduceIte, Nat.reduceEqDiff, eq_self, List.length_cons, List.length_nil, List.length_append] <;> omega)) (by first | assumption | omega | (simp only [upS, reduceIte, Nat.reduceEqDiff, eq_self, List.length_cons, List.length_nil, List.length_append] <;> omega)) (by first | assumption | omega | (simp only [upS, reduceIte, Nat.reduceEqDiff, eq_self, List.length_cons, List.length_nil, List.length_append] <;> omega))) mw0_takeOneOf ml0_54 [0, 1] [] rfl rfl ⟨rfl, rfl⟩ (by decide) 0 0 rfl rfl rfl ⟨Nat.le_of_ble_eq_true rfl, Nat.le_of_ble_eq_true rfl⟩ rfl (rest := []) rfl (Nat.le_of_ble_eq_true rfl) d0_single_110 ⟨Nat.le_of_ble_eq_true rfl, Nat.le_of_ble_eq_true rfl⟩ (fun r w1 hr => ?_)
          obtain ⟨v12, at1_13, ft1_14, rfl, rfl, ⟨hq11_0, hq11_1, hq11_2, hq11_3⟩⟩ := hr
          refine j_eq (ws' := [(ra, o0 (some ba) (upS (upS R 2 at1_13) 3 ft1_14)), (ba, aInt E 100 tb)]) rfl rfl rfl ?_
          try simp only [upS, reduceIte, Nat.reduceEqDiff, eq_self] at hq11_0 hq11_1 hq11_2 hq11_3
          have hBq := tk_of hq11_0
          have hBr := hq11_1
          have hBs := hq11_2
          have hBv := hq11_3
          clear hq11_0
          refine j_istore G d0_single_113 (by decide) rfl ?_
          refine j_iload G 1 rfl d0_single_115 ?_
          refine j_iload G 0 rfl d0_single_117 ?_
          refine j_aload_n G 4 rfl d0_single_119 ?_
          refine j_iconst G d0_single_120 ?_
          refine j_VM G (rm' := { frames := 1, cells := 0, slots := 0, locals := 20 }) (wc := [(ra, o0 (some ba) (upS (upS R 2 at1_13) 3 ft1_14)), (ba, aInt E 100 tb)]) (wr := []) (k0_number (xl Γ) E ra ba (upS (upS R 2 at1_13) 3 ft1_14) tb U 2 (by first | assumption | omega | (simp only [upS, reduceIte, Nat.reduceEqDiff, eq_self, List.length_cons, List.length_nil, List.length_append] <;> omega)) (by first | assumption | omega | (simp only [upS, reduceIte, Nat.reduceEqDiff, eq_self, List.length_cons, List.length_nil, List.length_append] <;> omega)) (by first | assumption | omega | (simp only [upS, reduceIte, Nat.reduceEqDiff, eq_self, List.length_cons, List.length_nil, List.length_append] <;> omega)) (by first | assumption | omega | (simp only [upS, reduceIte, Nat.reduceEqDiff, eq_self, List.length_cons, List.length_nil, List.length_append] <;> omega)) (by first | assumption | omega | (simp only [upS, reduceIte, Nat.reduceEqDiff, eq_self, List.length_cons, List.length_nil, List.length_append] <;> omega))) mw0_number ml0_58 [0, 1] [] rfl rfl ⟨rfl, rfl⟩ (by decide) 0 0 rfl rfl rfl ⟨Nat.le_of_ble_eq_true rfl, Nat.le_of_ble_eq_true rfl⟩ rfl (rest := [.int (iZ v12), .int (iZ v8)]) rfl (Nat.le_of_ble_eq_true rfl) d0_single_121 ⟨Nat.le_of_ble_eq_true rfl, Nat.le_of_ble_eq_true rfl⟩ (fun r w1 hr => ?_)
          obtain ⟨v16, at1_17, ft1_18, rfl, rfl, ⟨hq15_0, hq15_1, hq15_2, hq15_3⟩⟩ := hr
          refine j_eq (ws' := [(ra, o0 (some ba) (upS (upS R 2 at1_17) 3 ft1_18)), (ba, aInt E 100 tb)]) rfl rfl rfl ?_
          try simp only [upS, reduceIte, Nat.reduceEqDiff, eq_self] at hq15_0 hq15_1 hq15_2 hq15_3
          have hC := nm_of hq15_0
          have hCr := hq15_1
          have hCs := hq15_2
          have hCv := hq15_3
          clear hq15_0
          refine j_SP G (k0_momentsWith (xl Γ) E v8 v12 v16 (by first | assumption | omega | (simp only [upS, reduceIte, Nat.reduceEqDiff, eq_self, List.length_cons, List.length_nil, List.length_append] <;> omega)) (by first | assumption | omega | (simp only [upS, reduceIte, Nat.reduceEqDiff, eq_self, List.length_cons, List.length_nil, List.length_append] <;> omega)) (by first | assumption | omega | (simp only [upS, reduceIte, Nat.reduceEqDiff, eq_self, List.length_cons, List.length_nil, List.length_append] <;> omega))) mw0_momentsWith ml0_118 [] rfl ⟨Nat.le_of_ble_eq_true rfl, Nat.le_of_ble_eq_true rfl⟩ rfl (rest := []) rfl (Nat.le_of_ble_eq_true rfl) d0_single_124 ⟨Nat.le_of_ble_eq_true rfl, Nat.le_of_ble_eq_true rfl⟩ (fun r hr => ?_)
          obtain ⟨v20, rfl, ⟨hq19_0, hq19_1⟩⟩ := hr
          have hM := hq19_0
          have hMr := hq19_1
          have htst := sg_tst4 hI (by omega) hw.2 h33 h40 hA hBq hC hM
          refine j_istore G d0_single_127 (by decide) rfl ?_
          refine j_iload_n G 3 rfl d0_single_129 ?_
          refine j_if_eq (tgt := 143) G d0_single_130 (by decide) htR (fun h21 => ?_) (fun h21 => ?_)
          ·
            refine j_iload G 0 rfl d0_single_143 ?_
            exact j_iret G F d0_single_145 ⟨v20, at1_17, ft1_18, rfl, rfl, (by first | exact ⟨sg_par hI hlv2 (by omega) hc40 (by omega) he3 (by omega) hT ⟨fun q => by first | rfl | (exfalso; omega), fun q => by first | rfl | (exfalso; omega)⟩, by omega, by omega⟩ | exact ⟨htst _ ⟨fun q => by first | rfl | (exfalso; omega), fun q => by first | rfl | (exfalso; omega)⟩, by omega, by omega⟩)⟩
          ·
            refine j_ldc G 16777215 ct0_121 (by decide) d0_single_133 ?_
            refine j_iload G 0 rfl d0_single_135 ?_
            refine j_iconst G d0_single_137 ?_
            refine r_ixor G d0_single_138 ?_
            refine j_top (y := iZ (((iZ v20) ^^^ (iZ (-1))).toInt)) (iZ_of _).symm ?_
            refine r_iand G d0_single_139 ?_
            refine j_top (y := iZ (((iZ 16777215) &&& (iZ (((iZ v20) ^^^ (iZ (-1))).toInt))).toInt)) (iZ_of _).symm ?_
            refine j_goto (tgt := 145) G d0_single_140 (by decide) ?_
            exact j_iret G F d0_single_145 ⟨((iZ 16777215) &&& (iZ (((iZ v20) ^^^ (iZ (-1))).toInt))).toInt, at1_17, ft1_18, rfl, rfl, (by first | exact ⟨sg_par hI hlv2 (by omega) hc40 (by omega) he3 (by omega) hT ⟨fun q => by first | rfl | (exfalso; omega), fun q => by first | rfl | (exfalso; omega)⟩, by omega, by omega⟩ | exact ⟨htst _ ⟨fun q => by first | rfl | (exfalso; omega), fun q => by first | rfl | (exfalso; omega)⟩, by omega, by omega⟩)⟩
        ·
          refine j_iload_n G 1 rfl d0_single_53 ?_
          refine j_iconst G d0_single_54 ?_
          refine j_icmp_ge (tgt := 91) G d0_single_55 (by decide) hwR (by decide) (fun h22 => ?_) (fun h22 => ?_)
          ·
            have h33 : R 3 < 0 → nx U (R 1) az = 33 → 4 ≤ w := fun q1 q2 => by have z := (hpC 33 (by decide) (by decide)).2 ⟨q1, q2⟩; omega
            have h40 : R 3 < 0 → nx U (R 1) az = 40 → 4 ≤ w := fun q1 q2 => by have z := (hgC 40 (by decide) (by decide)).2 ⟨q1, q2⟩; omega
            refine j_aload_n G 2 rfl d0_single_91 ?_
            refine j_bipush G d0_single_92 rfl ?_
            refine j_bipush G d0_single_94 rfl ?_
            refine j_bipush G d0_single_96 rfl ?_
            refine j_VM G (rm' := { frames := 1, cells := 0, slots := 0, locals := 20 }) (wc := [(ra, o0 (some ba) (upS R 2 az)), (ba, aInt E 100 tb)]) (wr := []) (k0_takeOneOf (xl Γ) E ra ba (upS R 2 az) tb U 115 119 119 (by first | assumption | omega | (simp only [upS, reduceIte, Nat.reduceEqDiff, eq_self, List.length_cons, List.length_nil, List.length_append] <;> omega)) (by first | assumption | omega | (simp only [upS, reduceIte, Nat.reduceEqDiff, eq_self, List.length_cons, List.length_nil, List.length_append] <;> omega)) (by first | assumption | omega | (simp only [upS, reduceIte, Nat.reduceEqDiff, eq_self, List.length_cons, List.length_nil, List.length_append] <;> omega)) (by first | assumption | omega | (simp only [upS, reduceIte, Nat.reduceEqDiff, eq_self, List.length_cons, List.length_nil, List.length_append] <;> omega)) (by first | assumption | omega | (simp only [upS, reduceIte, Nat.reduceEqDiff, eq_self, List.length_cons, List.length_nil, List.length_append] <;> omega))) mw0_takeOneOf ml0_54 [0, 1] [] rfl rfl ⟨rfl, rfl⟩ (by decide) 0 0 rfl rfl rfl ⟨Nat.le_of_ble_eq_true rfl, Nat.le_of_ble_eq_true rfl⟩ rfl (rest := []) rfl (Nat.le_of_ble_eq_true rfl) d0_single_98 ⟨Nat.le_of_ble_eq_true rfl, Nat.le_of_ble_eq_true rfl⟩ (fun r w1 hr => ?_)
            obtain ⟨v24, at1_25, ft1_26, rfl, rfl, ⟨hq23_0, hq23_1, hq23_2, hq23_3⟩⟩ := hr
            refine j_eq (ws' := [(ra, o0 (some ba) (upS (upS R 2 at1_25) 3 ft1_26)), (ba, aInt E 100 tb)]) rfl rfl rfl ?_
            try simp only [upS, reduceIte, Nat.reduceEqDiff, eq_self] at hq23_0 hq23_1 hq23_2 hq23_3
            have hA := tk_of hq23_0
            have hAr := hq23_1
            have hAs := hq23_2
            have hAv := hq23_3
            clear hq23_0
            refine j_istore G d0_single_101 (by decide) rfl ?_
            refine j_aload_n G 3 rfl d0_single_103 ?_
            refine j_bipush G d0_single_104 rfl ?_
            refine j_bipush G d0_single_106 rfl ?_
            refine j_bipush G d0_single_108 rfl ?_
            refine j_VM G (rm' := { frames := 1, cells := 0, slots := 0, locals := 20 }) (wc := [(ra, o0 (some ba) (upS (upS R 2 at1_25) 3 ft1_26)), (ba, aInt E 100 tb)]) (wr := []) (k0_takeOneOf (xl Γ) E ra ba (upS (upS R 2 at1_25) 3 ft1_26) tb U 60 61 62 (by first | assumption | omega | (simp only [upS, reduceIte, Nat.reduceEqDiff, eq_self, List.length_cons, List.length_nil, List.length_append] <;> omega)) (by first | assumption | omega | (simp only [upS, reduceIte, Nat.reduceEqDiff, eq_self, List.length_cons, List.length_nil, List.length_append] <;> omega)) (by first | assumption | omega | (simp only [upS, reduceIte, Nat.reduceEqDiff, eq_self, List.length_cons, List.length_nil, List.length_append] <;> omega)) (by first | assumption | omega | (simp only [upS, reduceIte, Nat.reduceEqDiff, eq_self, List.length_cons, List.length_nil, List.length_append] <;> omega)) (by first | assumption | omega | (simp only [upS, reduceIte, Nat.reduceEqDiff, eq_self, List.length_cons, List.length_nil, List.length_append] <;> omega))) mw0_takeOneOf ml0_54 [0, 1] [] rfl rfl ⟨rfl, rfl⟩ (by decide) 0 0 rfl rfl rfl ⟨Nat.le_of_ble_eq_true rfl, Nat.le_of_ble_eq_true rfl⟩ rfl (rest := []) rfl (Nat.le_of_ble_eq_true rfl) d0_single_110 ⟨Nat.le_of_ble_eq_true rfl, Nat.le_of_ble_eq_true rfl⟩ (fun r w1 hr => ?_)
            obtain ⟨v28, at1_29, ft1_30, rfl, rfl, ⟨hq27_0, hq27_1, hq27_2, hq27_3⟩⟩ := hr
            refine j_eq (ws' := [(ra, o0 (some ba) (upS (upS R 2 at1_29) 3 ft1_30)), (ba, aInt E 100 tb)]) rfl rfl rfl ?_
            try simp only [upS, reduceIte, Nat.reduceEqDiff, eq_self] at hq27_0 hq27_1 hq27_2 hq27_3
            have hBq := tk_of hq27_0
            have hBr := hq27_1
            have hBs := hq27_2
            have hBv := hq27_3
            clear hq27_0
            refine j_istore G d0_single_113 (by decide) rfl ?_
            refine j_iload G 1 rfl d0_single_115 ?_
            refine j_iload G 0 rfl d0_single_117 ?_
            refine j_aload_n G 4 rfl d0_single_119 ?_
            refine j_iconst G d0_single_120 ?_
            refine j_VM G (rm' := { frames := 1, cells := 0, slots := 0, locals := 20 }) (wc := [(ra, o0 (some ba) (upS (upS R 2 at1_29) 3 ft1_30)), (ba, aInt E 100 tb)]) (wr := []) (k0_number (xl Γ) E ra ba (upS (upS R 2 at1_29) 3 ft1_30) tb U 2 (by first | assumption | omega | (simp only [upS, reduceIte, Nat.reduceEqDiff, eq_self, List.length_cons, List.length_nil, List.length_append] <;> omega)) (by first | assumption | omega | (simp only [upS, reduceIte, Nat.reduceEqDiff, eq_self, List.length_cons, List.length_nil, List.length_append] <;> omega)) (by first | assumption | omega | (simp only [upS, reduceIte, Nat.reduceEqDiff, eq_self, List.length_cons, List.length_nil, List.length_append] <;> omega)) (by first | assumption | omega | (simp only [upS, reduceIte, Nat.reduceEqDiff, eq_self, List.length_cons, List.length_nil, List.length_append] <;> omega)) (by first | assumption | omega | (simp only [upS, reduceIte, Nat.reduceEqDiff, eq_self, List.length_cons, List.length_nil, List.length_append] <;> omega))) mw0_number ml0_58 [0, 1] [] rfl rfl ⟨rfl, rfl⟩ (by decide) 0 0 rfl rfl rfl ⟨Nat.le_of_ble_eq_true rfl, Nat.le_of_ble_eq_true rfl⟩ rfl (rest := [.int (iZ v28), .int (iZ v24)]) rfl (Nat.le_of_ble_eq_true rfl) d0_single_121 ⟨Nat.le_of_ble_eq_true rfl, Nat.le_of_ble_eq_true rfl⟩ (fun r w1 hr => ?_)
            obtain ⟨v32, at1_33, ft1_34, rfl, rfl, ⟨hq31_0, hq31_1, hq31_2, hq31_3⟩⟩ := hr
            refine j_eq (ws' := [(ra, o0 (some ba) (upS (upS R 2 at1_33) 3 ft1_34)), (ba, aInt E 100 tb)]) rfl rfl rfl ?_
            try simp only [upS, reduceIte, Nat.reduceEqDiff, eq_self] at hq31_0 hq31_1 hq31_2 hq31_3
            have hC := nm_of hq31_0
            have hCr := hq31_1
            have hCs := hq31_2
            have hCv := hq31_3
            clear hq31_0
            refine j_SP G (k0_momentsWith (xl Γ) E v24 v28 v32 (by first | assumption | omega | (simp only [upS, reduceIte, Nat.reduceEqDiff, eq_self, List.length_cons, List.length_nil, List.length_append] <;> omega)) (by first | assumption | omega | (simp only [upS, reduceIte, Nat.reduceEqDiff, eq_self, List.length_cons, List.length_nil, List.length_append] <;> omega)) (by first | assumption | omega | (simp only [upS, reduceIte, Nat.reduceEqDiff, eq_self, List.length_cons, List.length_nil, List.length_append] <;> omega))) mw0_momentsWith ml0_118 [] rfl ⟨Nat.le_of_ble_eq_true rfl, Nat.le_of_ble_eq_true rfl⟩ rfl (rest := []) rfl (Nat.le_of_ble_eq_true rfl) d0_single_124 ⟨Nat.le_of_ble_eq_true rfl, Nat.le_of_ble_eq_true rfl⟩ (fun r hr => ?_)
            obtain ⟨v36, rfl, ⟨hq35_0, hq35_1⟩⟩ := hr
            have hM := hq35_0
            have hMr := hq35_1
            have htst := sg_tst4 hI (by omega) hw.2 h33 h40 hA hBq hC hM
            refine j_istore G d0_single_127 (by decide) rfl ?_
            refine j_iload_n G 3 rfl d0_single_129 ?_
            refine j_if_eq (tgt := 143) G d0_single_130 (by decide) htR (fun h37 => ?_) (fun h37 => ?_)
            ·
              refine j_iload G 0 rfl d0_single_143 ?_
              exact j_iret G F d0_single_145 ⟨v36, at1_33, ft1_34, rfl, rfl, (by first | exact ⟨sg_par hI hlv2 (by omega) hc40 (by omega) he3 (by omega) hT ⟨fun q => by first | rfl | (exfalso; omega), fun q => by first | rfl | (exfalso; omega)⟩, by omega, by omega⟩ | exact ⟨htst _ ⟨fun q => by first | rfl | (exfalso; omega), fun q => by first | rfl | (exfalso; omega)⟩, by omega, by omega⟩)⟩
            ·
              refine j_ldc G 16777215 ct0_121 (by decide) d0_single_133 ?_
              refine j_iload G 0 rfl d0_single_135 ?_
              refine j_iconst G d0_single_137 ?_
              refine r_ixor G d0_single_138 ?_
              refine j_top (y := iZ (((iZ v36) ^^^ (iZ (-1))).toInt)) (iZ_of _).symm ?_
              refine r_iand G d0_single_139 ?_
              refine j_top (y := iZ (((iZ 16777215) &&& (iZ (((iZ v36) ^^^ (iZ (-1))).toInt))).toInt)) (iZ_of _).symm ?_
              refine j_goto (tgt := 145) G d0_single_140 (by decide) ?_
              exact j_iret G F d0_single_145 ⟨((iZ 16777215) &&& (iZ (((iZ v36) ^^^ (iZ (-1))).toInt))).toInt, at1_33, ft1_34, rfl, rfl, (by first | exact ⟨sg_par hI hlv2 (by omega) hc40 (by omega) he3 (by omega) hT ⟨fun q => by first | rfl | (exfalso; omega), fun q => by first | rfl | (exfalso; omega)⟩, by omega, by omega⟩ | exact ⟨htst _ ⟨fun q => by first | rfl | (exfalso; omega), fun q => by first | rfl | (exfalso; omega)⟩, by omega, by omega⟩)⟩
          ·
            have hlv2 : R 3 < 0 := ((hgC 40 (by decide) (by decide)).1 (by omega)).1
            have hc40 : nx U (R 1) az = 40 := ((hgC 40 (by decide) (by decide)).1 (by omega)).2
            refine j_aload_n G 2 rfl d0_single_58 ?_
            refine j_dup G d0_single_59 rfl ?_
            refine j_get G 0 0 2 in0 fl0_36 d0_single_60 rfl rfl (by decide) (v := .int (iZ az)) rfl rfl ?_
            refine j_iconst G d0_single_63 ?_
            refine j_iadd G d0_single_64 ?_
            refine j_put G 0 0 2 in0 tyok0 nm0 fl0_36 d0_single_65 rfl rfl (by decide) ⟨rfl, rfl⟩ rfl rfl (Nat.le_of_ble_eq_true rfl) (e := o0 (some ba) (upS R 2 (az + 1))) rfl ?_
            refine j_aload_n G 2 rfl d0_single_68 ?_
            refine j_iload_n G 1 rfl d0_single_69 ?_
            refine j_iconst G d0_single_70 ?_
            refine j_iadd G d0_single_71 ?_
            refine j_VM G (rm' := { frames := 10, cells := 0, slots := 0, locals := 232 }) (wc := [(ra, o0 (some ba) (upS R 2 (az + 1))), (ba, aInt E 100 tb)]) (wr := []) (k0_either_2 (xl Γ) E ra ba (upS R 2 (az + 1)) tb U (w + 1) (by first | assumption | omega | (simp only [upS, reduceIte, Nat.reduceEqDiff, eq_self, List.length_cons, List.length_nil, List.length_append] <;> omega)) (by first | assumption | omega | (simp only [upS, reduceIte, Nat.reduceEqDiff, eq_self, List.length_cons, List.length_nil, List.length_append] <;> omega)) (by first | assumption | omega | (simp only [upS, reduceIte, Nat.reduceEqDiff, eq_self, List.length_cons, List.length_nil, List.length_append] <;> omega)) (by first | assumption | omega | (simp only [upS, reduceIte, Nat.reduceEqDiff, eq_self, List.length_cons, List.length_nil, List.length_append] <;> omega)) (by first | assumption | omega | (simp only [upS, reduceIte, Nat.reduceEqDiff, eq_self, List.length_cons, List.length_nil, List.length_append] <;> omega))) mw0_either ml0_68 [0, 1] [] rfl rfl ⟨rfl, rfl⟩ (by decide) 0 0 rfl rfl rfl ⟨Nat.le_of_ble_eq_true rfl, Nat.le_of_ble_eq_true rfl⟩ rfl (rest := []) rfl (Nat.le_of_ble_eq_true rfl) d0_single_72 ⟨Nat.le_of_ble_eq_true rfl, Nat.le_of_ble_eq_true rfl⟩ (fun r w1 hr => ?_)
            obtain ⟨v39, at1_40, ft1_41, rfl, rfl, ⟨hq38_0, hq38_1, hq38_2⟩⟩ := hr
            refine j_eq (ws' := [(ra, o0 (some ba) (upS (upS R 2 at1_40) 3 ft1_41)), (ba, aInt E 100 tb)]) rfl rfl rfl ?_
            try simp only [upS, reduceIte, Nat.reduceEqDiff, eq_self] at hq38_0 hq38_1 hq38_2
            have he3 := hq38_0
            have hr3 := hq38_1
            have hx3 := hq38_2
            refine j_istore G d0_single_75 (by decide) rfl ?_
            refine j_aload_n G 3 rfl d0_single_77 ?_
            refine j_bipush G d0_single_78 rfl ?_
            refine j_bipush G d0_single_80 rfl ?_
            refine j_bipush G d0_single_82 rfl ?_
            refine j_VM G (rm' := { frames := 1, cells := 0, slots := 0, locals := 20 }) (wc := [(ra, o0 (some ba) (upS (upS R 2 at1_40) 3 ft1_41)), (ba, aInt E 100 tb)]) (wr := []) (k0_takeOneOf (xl Γ) E ra ba (upS (upS R 2 at1_40) 3 ft1_41) tb U 41 41 41 (by first | assumption | omega | (simp only [upS, reduceIte, Nat.reduceEqDiff, eq_self, List.length_cons, List.length_nil, List.length_append] <;> omega)) (by first | assumption | omega | (simp only [upS, reduceIte, Nat.reduceEqDiff, eq_self, List.length_cons, List.length_nil, List.length_append] <;> omega)) (by first | assumption | omega | (simp only [upS, reduceIte, Nat.reduceEqDiff, eq_self, List.length_cons, List.length_nil, List.length_append] <;> omega)) (by first | assumption | omega | (simp only [upS, reduceIte, Nat.reduceEqDiff, eq_self, List.length_cons, List.length_nil, List.length_append] <;> omega)) (by first | assumption | omega | (simp only [upS, reduceIte, Nat.reduceEqDiff, eq_self, List.length_cons, List.length_nil, List.length_append] <;> omega))) mw0_takeOneOf ml0_54 [0, 1] [] rfl rfl ⟨rfl, rfl⟩ (by decide) 0 0 rfl rfl rfl ⟨Nat.le_of_ble_eq_true rfl, Nat.le_of_ble_eq_true rfl⟩ rfl (rest := []) rfl (Nat.le_of_ble_eq_true rfl) d0_single_84 ⟨Nat.le_of_ble_eq_true rfl, Nat.le_of_ble_eq_true rfl⟩ (fun r w1 hr => ?_)
            obtain ⟨v43, at1_44, ft1_45, rfl, rfl, ⟨hq42_0, hq42_1, hq42_2, hq42_3⟩⟩ := hr
            refine j_eq (ws' := [(ra, o0 (some ba) (upS (upS R 2 at1_44) 3 ft1_45)), (ba, aInt E 100 tb)]) rfl rfl rfl ?_
            try simp only [upS, reduceIte, Nat.reduceEqDiff, eq_self] at hq42_0 hq42_1 hq42_2 hq42_3
            have hT := tk_of hq42_0
            have hTr := hq42_1
            have hTs := hq42_2
            clear hq42_0
            refine j_pop G d0_single_87 rfl ?_
            refine j_goto (tgt := 129) G d0_single_88 (by decide) ?_
            refine j_iload_n G 1 rfl d0_single_129 ?_
            refine j_if_eq (tgt := 143) G d0_single_130 (by decide) htR (fun h46 => ?_) (fun h46 => ?_)
            ·
              refine j_iload G 0 rfl d0_single_143 ?_
              exact j_iret G F d0_single_145 ⟨v39, at1_44, ft1_45, rfl, rfl, (by first | exact ⟨sg_par hI hlv2 (by omega) hc40 (by omega) he3 (by omega) hT ⟨fun q => by first | rfl | (exfalso; omega), fun q => by first | rfl | (exfalso; omega)⟩, by omega, by omega⟩ | exact ⟨htst _ ⟨fun q => by first | rfl | (exfalso; omega), fun q => by first | rfl | (exfalso; omega)⟩, by omega, by omega⟩)⟩
            ·
              refine j_ldc G 16777215 ct0_121 (by decide) d0_single_133 ?_
              refine j_iload G 0 rfl d0_single_135 ?_
              refine j_iconst G d0_single_137 ?_
              refine r_ixor G d0_single_138 ?_
              refine j_top (y := iZ (((iZ v39) ^^^ (iZ (-1))).toInt)) (iZ_of _).symm ?_
              refine r_iand G d0_single_139 ?_
              refine j_top (y := iZ (((iZ 16777215) &&& (iZ (((iZ v39) ^^^ (iZ (-1))).toInt))).toInt)) (iZ_of _).symm ?_
              refine j_goto (tgt := 145) G d0_single_140 (by decide) ?_
              exact j_iret G F d0_single_145 ⟨((iZ 16777215) &&& (iZ (((iZ v39) ^^^ (iZ (-1))).toInt))).toInt, at1_44, ft1_45, rfl, rfl, (by first | exact ⟨sg_par hI hlv2 (by omega) hc40 (by omega) he3 (by omega) hT ⟨fun q => by first | rfl | (exfalso; omega), fun q => by first | rfl | (exfalso; omega)⟩, by omega, by omega⟩ | exact ⟨htst _ ⟨fun q => by first | rfl | (exfalso; omega), fun q => by first | rfl | (exfalso; omega)⟩, by omega, by omega⟩)⟩
      ·
        refine j_iload_n G 1 rfl d0_single_13 ?_
        refine j_iconst G d0_single_14 ?_
        refine j_icmp_ge (tgt := 44) G d0_single_15 (by decide) hwR (by decide) (fun h47 => ?_) (fun h47 => ?_)
        ·
          refine j_aload_n G 2 rfl d0_single_44 ?_
          refine j_VP G (k0_peek (xl Γ) E ra ba (upS R 2 az) tb U (by first | assumption | omega | (simp only [upS, reduceIte, Nat.reduceEqDiff, eq_self, List.length_cons, List.length_nil, List.length_append] <;> omega)) (by first | assumption | omega | (simp only [upS, reduceIte, Nat.reduceEqDiff, eq_self, List.length_cons, List.length_nil, List.length_append] <;> omega)) (by first | assumption | omega | (simp only [upS, reduceIte, Nat.reduceEqDiff, eq_self, List.length_cons, List.length_nil, List.length_append] <;> omega)) (by first | assumption | omega | (simp only [upS, reduceIte, Nat.reduceEqDiff, eq_self, List.length_cons, List.length_nil, List.length_append] <;> omega))) mw0_peek ml0_32 [0, 1] rfl 0 0 rfl rfl rfl ⟨Nat.le_of_ble_eq_true rfl, Nat.le_of_ble_eq_true rfl⟩ rfl (rest := []) rfl (Nat.le_of_ble_eq_true rfl) d0_single_45 ⟨Nat.le_of_ble_eq_true rfl, Nat.le_of_ble_eq_true rfl⟩ (fun r hr => ?_)
          obtain ⟨v49, rfl, ⟨hq48_0, hq48_1, hq48_2, hq48_3, hq48_4⟩⟩ := hr
          try simp only [upS, reduceIte, Nat.reduceEqDiff, eq_self] at hq48_0 hq48_1 hq48_2 hq48_3 hq48_4
          have hgC := pk_of hq48_0 hq48_1 hq48_2
          have hg2 := hq48_2
          have hg3 := hq48_3
          clear hq48_0 hq48_1 hq48_3 hq48_4
          refine j_bipush G d0_single_48 rfl ?_
          refine j_icmp_ne (tgt := 91) G d0_single_50 (by decide) (r32_pk hg2) (by decide) (fun h50 => ?_) (fun h50 => ?_)
          ·
            have h33 : R 3 < 0 → nx U (R 1) az = 33 → 4 ≤ w := fun q1 q2 => by have z := (hpC 33 (by decide) (by decide)).2 ⟨q1, q2⟩; omega
            have h40 : R 3 < 0 → nx U (R 1) az = 40 → 4 ≤ w := fun q1 q2 => by have z := (hgC 40 (by decide) (by decide)).2 ⟨q1, q2⟩; omega
            refine j_aload_n G 2 rfl d0_single_91 ?_
            refine j_bipush G d0_single_92 rfl ?_
            refine j_bipush G d0_single_94 rfl ?_
            refine j_bipush G d0_single_96 rfl ?_
            refine j_VM G (rm' := { frames := 1, cells := 0, slots := 0, locals := 20 }) (wc := [(ra, o0 (some ba) (upS R 2 az)), (ba, aInt E 100 tb)]) (wr := []) (k0_takeOneOf (xl Γ) E ra ba (upS R 2 az) tb U 115 119 119 (by first | assumption | omega | (simp only [upS, reduceIte, Nat.reduceEqDiff, eq_self, List.length_cons, List.length_nil, List.length_append] <;> omega)) (by first | assumption | omega | (simp only [upS, reduceIte, Nat.reduceEqDiff, eq_self, List.length_cons, List.length_nil, List.length_append] <;> omega)) (by first | assumption | omega | (simp only [upS, reduceIte, Nat.reduceEqDiff, eq_self, List.length_cons, List.length_nil, List.length_append] <;> omega)) (by first | assumption | omega | (simp only [upS, reduceIte, Nat.reduceEqDiff, eq_self, List.length_cons, List.length_nil, List.length_append] <;> omega)) (by first | assumption | omega | (simp only [upS, reduceIte, Nat.reduceEqDiff, eq_self, List.length_cons, List.length_nil, List.length_append] <;> omega))) mw0_takeOneOf ml0_54 [0, 1] [] rfl rfl ⟨rfl, rfl⟩ (by decide) 0 0 rfl rfl rfl ⟨Nat.le_of_ble_eq_true rfl, Nat.le_of_ble_eq_true rfl⟩ rfl (rest := []) rfl (Nat.le_of_ble_eq_true rfl) d0_single_98 ⟨Nat.le_of_ble_eq_true rfl, Nat.le_of_ble_eq_true rfl⟩ (fun r w1 hr => ?_)
            obtain ⟨v52, at1_53, ft1_54, rfl, rfl, ⟨hq51_0, hq51_1, hq51_2, hq51_3⟩⟩ := hr
            refine j_eq (ws' := [(ra, o0 (some ba) (upS (upS R 2 at1_53) 3 ft1_54)), (ba, aInt E 100 tb)]) rfl rfl rfl ?_
            try simp only [upS, reduceIte, Nat.reduceEqDiff, eq_self] at hq51_0 hq51_1 hq51_2 hq51_3
            have hA := tk_of hq51_0
            have hAr := hq51_1
            have hAs := hq51_2
            have hAv := hq51_3
            clear hq51_0
            refine j_istore G d0_single_101 (by decide) rfl ?_
            refine j_aload_n G 3 rfl d0_single_103 ?_
            refine j_bipush G d0_single_104 rfl ?_
            refine j_bipush G d0_single_106 rfl ?_
            refine j_bipush G d0_single_108 rfl ?_
            refine j_VM G (rm' := { frames := 1, cells := 0, slots := 0, locals := 20 }) (wc := [(ra, o0 (some ba) (upS (upS R 2 at1_53) 3 ft1_54)), (ba, aInt E 100 tb)]) (wr := []) (k0_takeOneOf (xl Γ) E ra ba (upS (upS R 2 at1_53) 3 ft1_54) tb U 60 61 62 (by first | assumption | omega | (simp only [upS, reduceIte, Nat.reduceEqDiff, eq_self, List.length_cons, List.length_nil, List.length_append] <;> omega)) (by first | assumption | omega | (simp only [upS, reduceIte, Nat.reduceEqDiff, eq_self, List.length_cons, List.length_nil, List.length_append] <;> omega)) (by first | assumption | omega | (simp only [upS, reduceIte, Nat.reduceEqDiff, eq_self, List.length_cons, List.length_nil, List.length_append] <;> omega)) (by first | assumption | omega | (simp only [upS, reduceIte, Nat.reduceEqDiff, eq_self, List.length_cons, List.length_nil, List.length_append] <;> omega)) (by first | assumption | omega | (simp only [upS, reduceIte, Nat.reduceEqDiff, eq_self, List.length_cons, List.length_nil, List.length_append] <;> omega))) mw0_takeOneOf ml0_54 [0, 1] [] rfl rfl ⟨rfl, rfl⟩ (by decide) 0 0 rfl rfl rfl ⟨Nat.le_of_ble_eq_true rfl, Nat.le_of_ble_eq_true rfl⟩ rfl (rest := []) rfl (Nat.le_of_ble_eq_true rfl) d0_single_110 ⟨Nat.le_of_ble_eq_true rfl, Nat.le_of_ble_eq_true rfl⟩ (fun r w1 hr => ?_)
            obtain ⟨v56, at1_57, ft1_58, rfl, rfl, ⟨hq55_0, hq55_1, hq55_2, hq55_3⟩⟩ := hr
            refine j_eq (ws' := [(ra, o0 (some ba) (upS (upS R 2 at1_57) 3 ft1_58)), (ba, aInt E 100 tb)]) rfl rfl rfl ?_
            try simp only [upS, reduceIte, Nat.reduceEqDiff, eq_self] at hq55_0 hq55_1 hq55_2 hq55_3
            have hBq := tk_of hq55_0
            have hBr := hq55_1
            have hBs := hq55_2
            have hBv := hq55_3
            clear hq55_0
            refine j_istore G d0_single_113 (by decide) rfl ?_
            refine j_iload G 1 rfl d0_single_115 ?_
            refine j_iload G 0 rfl d0_single_117 ?_
            refine j_aload_n G 4 rfl d0_single_119 ?_
            refine j_iconst G d0_single_120 ?_
            refine j_VM G (rm' := { frames := 1, cells := 0, slots := 0, locals := 20 }) (wc := [(ra, o0 (some ba) (upS (upS R 2 at1_57) 3 ft1_58)), (ba, aInt E 100 tb)]) (wr := []) (k0_number (xl Γ) E ra ba (upS (upS R 2 at1_57) 3 ft1_58) tb U 2 (by first | assumption | omega | (simp only [upS, reduceIte, Nat.reduceEqDiff, eq_self, List.length_cons, List.length_nil, List.length_append] <;> omega)) (by first | assumption | omega | (simp only [upS, reduceIte, Nat.reduceEqDiff, eq_self, List.length_cons, List.length_nil, List.length_append] <;> omega)) (by first | assumption | omega | (simp only [upS, reduceIte, Nat.reduceEqDiff, eq_self, List.length_cons, List.length_nil, List.length_append] <;> omega)) (by first | assumption | omega | (simp only [upS, reduceIte, Nat.reduceEqDiff, eq_self, List.length_cons, List.length_nil, List.length_append] <;> omega)) (by first | assumption | omega | (simp only [upS, reduceIte, Nat.reduceEqDiff, eq_self, List.length_cons, List.length_nil, List.length_append] <;> omega))) mw0_number ml0_58 [0, 1] [] rfl rfl ⟨rfl, rfl⟩ (by decide) 0 0 rfl rfl rfl ⟨Nat.le_of_ble_eq_true rfl, Nat.le_of_ble_eq_true rfl⟩ rfl (rest := [.int (iZ v56), .int (iZ v52)]) rfl (Nat.le_of_ble_eq_true rfl) d0_single_121 ⟨Nat.le_of_ble_eq_true rfl, Nat.le_of_ble_eq_true rfl⟩ (fun r w1 hr => ?_)
            obtain ⟨v60, at1_61, ft1_62, rfl, rfl, ⟨hq59_0, hq59_1, hq59_2, hq59_3⟩⟩ := hr
            refine j_eq (ws' := [(ra, o0 (some ba) (upS (upS R 2 at1_61) 3 ft1_62)), (ba, aInt E 100 tb)]) rfl rfl rfl ?_
            try simp only [upS, reduceIte, Nat.reduceEqDiff, eq_self] at hq59_0 hq59_1 hq59_2 hq59_3
            have hC := nm_of hq59_0
            have hCr := hq59_1
            have hCs := hq59_2
            have hCv := hq59_3
            clear hq59_0
            refine j_SP G (k0_momentsWith (xl Γ) E v52 v56 v60 (by first | assumption | omega | (simp only [upS, reduceIte, Nat.reduceEqDiff, eq_self, List.length_cons, List.length_nil, List.length_append] <;> omega)) (by first | assumption | omega | (simp only [upS, reduceIte, Nat.reduceEqDiff, eq_self, List.length_cons, List.length_nil, List.length_append] <;> omega)) (by first | assumption | omega | (simp only [upS, reduceIte, Nat.reduceEqDiff, eq_self, List.length_cons, List.length_nil, List.length_append] <;> omega))) mw0_momentsWith ml0_118 [] rfl ⟨Nat.le_of_ble_eq_true rfl, Nat.le_of_ble_eq_true rfl⟩ rfl (rest := []) rfl (Nat.le_of_ble_eq_true rfl) d0_single_124 ⟨Nat.le_of_ble_eq_true rfl, Nat.le_of_ble_eq_true rfl⟩ (fun r hr => ?_)
            obtain ⟨v64, rfl, ⟨hq63_0, hq63_1⟩⟩ := hr
            have hM := hq63_0
            have hMr := hq63_1
            have htst := sg_tst4 hI (by omega) hw.2 h33 h40 hA hBq hC hM
            refine j_istore G d0_single_127 (by decide) rfl ?_
            refine j_iload_n G 3 rfl d0_single_129 ?_
            refine j_if_eq (tgt := 143) G d0_single_130 (by decide) htR (fun h65 => ?_) (fun h65 => ?_)
            ·
              refine j_iload G 0 rfl d0_single_143 ?_
              exact j_iret G F d0_single_145 ⟨v64, at1_61, ft1_62, rfl, rfl, (by first | exact ⟨sg_par hI hlv2 (by omega) hc40 (by omega) he3 (by omega) hT ⟨fun q => by first | rfl | (exfalso; omega), fun q => by first | rfl | (exfalso; omega)⟩, by omega, by omega⟩ | exact ⟨htst _ ⟨fun q => by first | rfl | (exfalso; omega), fun q => by first | rfl | (exfalso; omega)⟩, by omega, by omega⟩)⟩
            ·
              refine j_ldc G 16777215 ct0_121 (by decide) d0_single_133 ?_
              refine j_iload G 0 rfl d0_single_135 ?_
              refine j_iconst G d0_single_137 ?_
              refine r_ixor G d0_single_138 ?_
              refine j_top (y := iZ (((iZ v64) ^^^ (iZ (-1))).toInt)) (iZ_of _).symm ?_
              refine r_iand G d0_single_139 ?_
              refine j_top (y := iZ (((iZ 16777215) &&& (iZ (((iZ v64) ^^^ (iZ (-1))).toInt))).toInt)) (iZ_of _).symm ?_
              refine j_goto (tgt := 145) G d0_single_140 (by decide) ?_
              exact j_iret G F d0_single_145 ⟨((iZ 16777215) &&& (iZ (((iZ v64) ^^^ (iZ (-1))).toInt))).toInt, at1_61, ft1_62, rfl, rfl, (by first | exact ⟨sg_par hI hlv2 (by omega) hc40 (by omega) he3 (by omega) hT ⟨fun q => by first | rfl | (exfalso; omega), fun q => by first | rfl | (exfalso; omega)⟩, by omega, by omega⟩ | exact ⟨htst _ ⟨fun q => by first | rfl | (exfalso; omega), fun q => by first | rfl | (exfalso; omega)⟩, by omega, by omega⟩)⟩
          ·
            refine j_iload_n G 1 rfl d0_single_53 ?_
            refine j_iconst G d0_single_54 ?_
            refine j_icmp_ge (tgt := 91) G d0_single_55 (by decide) hwR (by decide) (fun h66 => ?_) (fun h66 => ?_)
            ·
              have h33 : R 3 < 0 → nx U (R 1) az = 33 → 4 ≤ w := fun q1 q2 => by have z := (hpC 33 (by decide) (by decide)).2 ⟨q1, q2⟩; omega
              have h40 : R 3 < 0 → nx U (R 1) az = 40 → 4 ≤ w := fun q1 q2 => by have z := (hgC 40 (by decide) (by decide)).2 ⟨q1, q2⟩; omega
              refine j_aload_n G 2 rfl d0_single_91 ?_
              refine j_bipush G d0_single_92 rfl ?_
              refine j_bipush G d0_single_94 rfl ?_
              refine j_bipush G d0_single_96 rfl ?_
              refine j_VM G (rm' := { frames := 1, cells := 0, slots := 0, locals := 20 }) (wc := [(ra, o0 (some ba) (upS R 2 az)), (ba, aInt E 100 tb)]) (wr := []) (k0_takeOneOf (xl Γ) E ra ba (upS R 2 az) tb U 115 119 119 (by first | assumption | omega | (simp only [upS, reduceIte, Nat.reduceEqDiff, eq_self, List.length_cons, List.length_nil, List.length_append] <;> omega)) (by first | assumption | omega | (simp only [upS, reduceIte, Nat.reduceEqDiff, eq_self, List.length_cons, List.length_nil, List.length_append] <;> omega)) (by first | assumption | omega | (simp only [upS, reduceIte, Nat.reduceEqDiff, eq_self, List.length_cons, List.length_nil, List.length_append] <;> omega)) (by first | assumption | omega | (simp only [upS, reduceIte, Nat.reduceEqDiff, eq_self, List.length_cons, List.length_nil, List.length_append] <;> omega)) (by first | assumption | omega | (simp only [upS, reduceIte, Nat.reduceEqDiff, eq_self, List.length_cons, List.length_nil, List.length_append] <;> omega))) mw0_takeOneOf ml0_54 [0, 1] [] rfl rfl ⟨rfl, rfl⟩ (by decide) 0 0 rfl rfl rfl ⟨Nat.le_of_ble_eq_true rfl, Nat.le_of_ble_eq_true rfl⟩ rfl (rest := []) rfl (Nat.le_of_ble_eq_true rfl) d0_single_98 ⟨Nat.le_of_ble_eq_true rfl, Nat.le_of_ble_eq_true rfl⟩ (fun r w1 hr => ?_)
              obtain ⟨v68, at1_69, ft1_70, rfl, rfl, ⟨hq67_0, hq67_1, hq67_2, hq67_3⟩⟩ := hr
              refine j_eq (ws' := [(ra, o0 (some ba) (upS (upS R 2 at1_69) 3 ft1_70)), (ba, aInt E 100 tb)]) rfl rfl rfl ?_
              try simp only [upS, reduceIte, Nat.reduceEqDiff, eq_self] at hq67_0 hq67_1 hq67_2 hq67_3
              have hA := tk_of hq67_0
              have hAr := hq67_1
              have hAs := hq67_2
              have hAv := hq67_3
              clear hq67_0
              refine j_istore G d0_single_101 (by decide) rfl ?_
              refine j_aload_n G 3 rfl d0_single_103 ?_
              refine j_bipush G d0_single_104 rfl ?_
              refine j_bipush G d0_single_106 rfl ?_
              refine j_bipush G d0_single_108 rfl ?_
              refine j_VM G (rm' := { frames := 1, cells := 0, slots := 0, locals := 20 }) (wc := [(ra, o0 (some ba) (upS (upS R 2 at1_69) 3 ft1_70)), (ba, aInt E 100 tb)]) (wr := []) (k0_takeOneOf (xl Γ) E ra ba (upS (upS R 2 at1_69) 3 ft1_70) tb U 60 61 62 (by first | assumption | omega | (simp only [upS, reduceIte, Nat.reduceEqDiff, eq_self, List.length_cons, List.length_nil, List.length_append] <;> omega)) (by first | assumption | omega | (simp only [upS, reduceIte, Nat.reduceEqDiff, eq_self, List.length_cons, List.length_nil, List.length_append] <;> omega)) (by first | assumption | omega | (simp only [upS, reduceIte, Nat.reduceEqDiff, eq_self, List.length_cons, List.length_nil, List.length_append] <;> omega)) (by first | assumption | omega | (simp only [upS, reduceIte, Nat.reduceEqDiff, eq_self, List.length_cons, List.length_nil, List.length_append] <;> omega)) (by first | assumption | omega | (simp only [upS, reduceIte, Nat.reduceEqDiff, eq_self, List.length_cons, List.length_nil, List.length_append] <;> omega))) mw0_takeOneOf ml0_54 [0, 1] [] rfl rfl ⟨rfl, rfl⟩ (by decide) 0 0 rfl rfl rfl ⟨Nat.le_of_ble_eq_true rfl, Nat.le_of_ble_eq_true rfl⟩ rfl (rest := []) rfl (Nat.le_of_ble_eq_true rfl) d0_single_110 ⟨Nat.le_of_ble_eq_true rfl, Nat.le_of_ble_eq_true rfl⟩ (fun r w1 hr => ?_)
              obtain ⟨v72, at1_73, ft1_74, rfl, rfl, ⟨hq71_0, hq71_1, hq71_2, hq71_3⟩⟩ := hr
              refine j_eq (ws' := [(ra, o0 (some ba) (upS (upS R 2 at1_73) 3 ft1_74)), (ba, aInt E 100 tb)]) rfl rfl rfl ?_
              try simp only [upS, reduceIte, Nat.reduceEqDiff, eq_self] at hq71_0 hq71_1 hq71_2 hq71_3
              have hBq := tk_of hq71_0
              have hBr := hq71_1
              have hBs := hq71_2
              have hBv := hq71_3
              clear hq71_0
              refine j_istore G d0_single_113 (by decide) rfl ?_
              refine j_iload G 1 rfl d0_single_115 ?_
              refine j_iload G 0 rfl d0_single_117 ?_
              refine j_aload_n G 4 rfl d0_single_119 ?_
              refine j_iconst G d0_single_120 ?_
              refine j_VM G (rm' := { frames := 1, cells := 0, slots := 0, locals := 20 }) (wc := [(ra, o0 (some ba) (upS (upS R 2 at1_73) 3 ft1_74)), (ba, aInt E 100 tb)]) (wr := []) (k0_number (xl Γ) E ra ba (upS (upS R 2 at1_73) 3 ft1_74) tb U 2 (by first | assumption | omega | (simp only [upS, reduceIte, Nat.reduceEqDiff, eq_self, List.length_cons, List.length_nil, List.length_append] <;> omega)) (by first | assumption | omega | (simp only [upS, reduceIte, Nat.reduceEqDiff, eq_self, List.length_cons, List.length_nil, List.length_append] <;> omega)) (by first | assumption | omega | (simp only [upS, reduceIte, Nat.reduceEqDiff, eq_self, List.length_cons, List.length_nil, List.length_append] <;> omega)) (by first | assumption | omega | (simp only [upS, reduceIte, Nat.reduceEqDiff, eq_self, List.length_cons, List.length_nil, List.length_append] <;> omega)) (by first | assumption | omega | (simp only [upS, reduceIte, Nat.reduceEqDiff, eq_self, List.length_cons, List.length_nil, List.length_append] <;> omega))) mw0_number ml0_58 [0, 1] [] rfl rfl ⟨rfl, rfl⟩ (by decide) 0 0 rfl rfl rfl ⟨Nat.le_of_ble_eq_true rfl, Nat.le_of_ble_eq_true rfl⟩ rfl (rest := [.int (iZ v72), .int (iZ v68)]) rfl (Nat.le_of_ble_eq_true rfl) d0_single_121 ⟨Nat.le_of_ble_eq_true rfl, Nat.le_of_ble_eq_true rfl⟩ (fun r w1 hr => ?_)
              obtain ⟨v76, at1_77, ft1_78, rfl, rfl, ⟨hq75_0, hq75_1, hq75_2, hq75_3⟩⟩ := hr
              refine j_eq (ws' := [(ra, o0 (some ba) (upS (upS R 2 at1_77) 3 ft1_78)), (ba, aInt E 100 tb)]) rfl rfl rfl ?_
              try simp only [upS, reduceIte, Nat.reduceEqDiff, eq_self] at hq75_0 hq75_1 hq75_2 hq75_3
              have hC := nm_of hq75_0
              have hCr := hq75_1
              have hCs := hq75_2
              have hCv := hq75_3
              clear hq75_0
              refine j_SP G (k0_momentsWith (xl Γ) E v68 v72 v76 (by first | assumption | omega | (simp only [upS, reduceIte, Nat.reduceEqDiff, eq_self, List.length_cons, List.length_nil, List.length_append] <;> omega)) (by first | assumption | omega | (simp only [upS, reduceIte, Nat.reduceEqDiff, eq_self, List.length_cons, List.length_nil, List.length_append] <;> omega)) (by first | assumption | omega | (simp only [upS, reduceIte, Nat.reduceEqDiff, eq_self, List.length_cons, List.length_nil, List.length_append] <;> omega))) mw0_momentsWith ml0_118 [] rfl ⟨Nat.le_of_ble_eq_true rfl, Nat.le_of_ble_eq_true rfl⟩ rfl (rest := []) rfl (Nat.le_of_ble_eq_true rfl) d0_single_124 ⟨Nat.le_of_ble_eq_true rfl, Nat.le_of_ble_eq_true rfl⟩ (fun r hr => ?_)
              obtain ⟨v80, rfl, ⟨hq79_0, hq79_1⟩⟩ := hr
              have hM := hq79_0
              have hMr := hq79_1
              have htst := sg_tst4 hI (by omega) hw.2 h33 h40 hA hBq hC hM
              refine j_istore G d0_single_127 (by decide) rfl ?_
              refine j_iload_n G 3 rfl d0_single_129 ?_
              refine j_if_eq (tgt := 143) G d0_single_130 (by decide) htR (fun h81 => ?_) (fun h81 => ?_)
              ·
                refine j_iload G 0 rfl d0_single_143 ?_
                exact j_iret G F d0_single_145 ⟨v80, at1_77, ft1_78, rfl, rfl, (by first | exact ⟨sg_par hI hlv2 (by omega) hc40 (by omega) he3 (by omega) hT ⟨fun q => by first | rfl | (exfalso; omega), fun q => by first | rfl | (exfalso; omega)⟩, by omega, by omega⟩ | exact ⟨htst _ ⟨fun q => by first | rfl | (exfalso; omega), fun q => by first | rfl | (exfalso; omega)⟩, by omega, by omega⟩)⟩
              ·
                refine j_ldc G 16777215 ct0_121 (by decide) d0_single_133 ?_
                refine j_iload G 0 rfl d0_single_135 ?_
                refine j_iconst G d0_single_137 ?_
                refine r_ixor G d0_single_138 ?_
                refine j_top (y := iZ (((iZ v80) ^^^ (iZ (-1))).toInt)) (iZ_of _).symm ?_
                refine r_iand G d0_single_139 ?_
                refine j_top (y := iZ (((iZ 16777215) &&& (iZ (((iZ v80) ^^^ (iZ (-1))).toInt))).toInt)) (iZ_of _).symm ?_
                refine j_goto (tgt := 145) G d0_single_140 (by decide) ?_
                exact j_iret G F d0_single_145 ⟨((iZ 16777215) &&& (iZ (((iZ v80) ^^^ (iZ (-1))).toInt))).toInt, at1_77, ft1_78, rfl, rfl, (by first | exact ⟨sg_par hI hlv2 (by omega) hc40 (by omega) he3 (by omega) hT ⟨fun q => by first | rfl | (exfalso; omega), fun q => by first | rfl | (exfalso; omega)⟩, by omega, by omega⟩ | exact ⟨htst _ ⟨fun q => by first | rfl | (exfalso; omega), fun q => by first | rfl | (exfalso; omega)⟩, by omega, by omega⟩)⟩
            ·
              have hlv2 : R 3 < 0 := ((hgC 40 (by decide) (by decide)).1 (by omega)).1
              have hc40 : nx U (R 1) az = 40 := ((hgC 40 (by decide) (by decide)).1 (by omega)).2
              refine j_aload_n G 2 rfl d0_single_58 ?_
              refine j_dup G d0_single_59 rfl ?_
              refine j_get G 0 0 2 in0 fl0_36 d0_single_60 rfl rfl (by decide) (v := .int (iZ az)) rfl rfl ?_
              refine j_iconst G d0_single_63 ?_
              refine j_iadd G d0_single_64 ?_
              refine j_put G 0 0 2 in0 tyok0 nm0 fl0_36 d0_single_65 rfl rfl (by decide) ⟨rfl, rfl⟩ rfl rfl (Nat.le_of_ble_eq_true rfl) (e := o0 (some ba) (upS R 2 (az + 1))) rfl ?_
              refine j_aload_n G 2 rfl d0_single_68 ?_
              refine j_iload_n G 1 rfl d0_single_69 ?_
              refine j_iconst G d0_single_70 ?_
              refine j_iadd G d0_single_71 ?_
              refine j_VM G (rm' := { frames := 10, cells := 0, slots := 0, locals := 232 }) (wc := [(ra, o0 (some ba) (upS R 2 (az + 1))), (ba, aInt E 100 tb)]) (wr := []) (k0_either_2 (xl Γ) E ra ba (upS R 2 (az + 1)) tb U (w + 1) (by first | assumption | omega | (simp only [upS, reduceIte, Nat.reduceEqDiff, eq_self, List.length_cons, List.length_nil, List.length_append] <;> omega)) (by first | assumption | omega | (simp only [upS, reduceIte, Nat.reduceEqDiff, eq_self, List.length_cons, List.length_nil, List.length_append] <;> omega)) (by first | assumption | omega | (simp only [upS, reduceIte, Nat.reduceEqDiff, eq_self, List.length_cons, List.length_nil, List.length_append] <;> omega)) (by first | assumption | omega | (simp only [upS, reduceIte, Nat.reduceEqDiff, eq_self, List.length_cons, List.length_nil, List.length_append] <;> omega)) (by first | assumption | omega | (simp only [upS, reduceIte, Nat.reduceEqDiff, eq_self, List.length_cons, List.length_nil, List.length_append] <;> omega))) mw0_either ml0_68 [0, 1] [] rfl rfl ⟨rfl, rfl⟩ (by decide) 0 0 rfl rfl rfl ⟨Nat.le_of_ble_eq_true rfl, Nat.le_of_ble_eq_true rfl⟩ rfl (rest := []) rfl (Nat.le_of_ble_eq_true rfl) d0_single_72 ⟨Nat.le_of_ble_eq_true rfl, Nat.le_of_ble_eq_true rfl⟩ (fun r w1 hr => ?_)
              obtain ⟨v83, at1_84, ft1_85, rfl, rfl, ⟨hq82_0, hq82_1, hq82_2⟩⟩ := hr
              refine j_eq (ws' := [(ra, o0 (some ba) (upS (upS R 2 at1_84) 3 ft1_85)), (ba, aInt E 100 tb)]) rfl rfl rfl ?_
              try simp only [upS, reduceIte, Nat.reduceEqDiff, eq_self] at hq82_0 hq82_1 hq82_2
              have he3 := hq82_0
              have hr3 := hq82_1
              have hx3 := hq82_2
              refine j_istore G d0_single_75 (by decide) rfl ?_
              refine j_aload_n G 3 rfl d0_single_77 ?_
              refine j_bipush G d0_single_78 rfl ?_
              refine j_bipush G d0_single_80 rfl ?_
              refine j_bipush G d0_single_82 rfl ?_
              refine j_VM G (rm' := { frames := 1, cells := 0, slots := 0, locals := 20 }) (wc := [(ra, o0 (some ba) (upS (upS R 2 at1_84) 3 ft1_85)), (ba, aInt E 100 tb)]) (wr := []) (k0_takeOneOf (xl Γ) E ra ba (upS (upS R 2 at1_84) 3 ft1_85) tb U 41 41 41 (by first | assumption | omega | (simp only [upS, reduceIte, Nat.reduceEqDiff, eq_self, List.length_cons, List.length_nil, List.length_append] <;> omega)) (by first | assumption | omega | (simp only [upS, reduceIte, Nat.reduceEqDiff, eq_self, List.length_cons, List.length_nil, List.length_append] <;> omega)) (by first | assumption | omega | (simp only [upS, reduceIte, Nat.reduceEqDiff, eq_self, List.length_cons, List.length_nil, List.length_append] <;> omega)) (by first | assumption | omega | (simp only [upS, reduceIte, Nat.reduceEqDiff, eq_self, List.length_cons, List.length_nil, List.length_append] <;> omega)) (by first | assumption | omega | (simp only [upS, reduceIte, Nat.reduceEqDiff, eq_self, List.length_cons, List.length_nil, List.length_append] <;> omega))) mw0_takeOneOf ml0_54 [0, 1] [] rfl rfl ⟨rfl, rfl⟩ (by decide) 0 0 rfl rfl rfl ⟨Nat.le_of_ble_eq_true rfl, Nat.le_of_ble_eq_true rfl⟩ rfl (rest := []) rfl (Nat.le_of_ble_eq_true rfl) d0_single_84 ⟨Nat.le_of_ble_eq_true rfl, Nat.le_of_ble_eq_true rfl⟩ (fun r w1 hr => ?_)
              obtain ⟨v87, at1_88, ft1_89, rfl, rfl, ⟨hq86_0, hq86_1, hq86_2, hq86_3⟩⟩ := hr
              refine j_eq (ws' := [(ra, o0 (some ba) (upS (upS R 2 at1_88) 3 ft1_89)), (ba, aInt E 100 tb)]) rfl rfl rfl ?_
              try simp only [upS, reduceIte, Nat.reduceEqDiff, eq_self] at hq86_0 hq86_1 hq86_2 hq86_3
              have hT := tk_of hq86_0
              have hTr := hq86_1
              have hTs := hq86_2
              clear hq86_0
              refine j_pop G d0_single_87 rfl ?_
              refine j_goto (tgt := 129) G d0_single_88 (by decide) ?_
              refine j_iload_n G 1 rfl d0_single_129 ?_
              refine j_if_eq (tgt := 143) G d0_single_130 (by decide) htR (fun h90 => ?_) (fun h90 => ?_)
              ·
                refine j_iload G 0 rfl d0_single_143 ?_
                exact j_iret G F d0_single_145 ⟨v83, at1_88, ft1_89, rfl, rfl, (by first | exact ⟨sg_par hI hlv2 (by omega) hc40 (by omega) he3 (by omega) hT ⟨fun q => by first | rfl | (exfalso; omega), fun q => by first | rfl | (exfalso; omega)⟩, by omega, by omega⟩ | exact ⟨htst _ ⟨fun q => by first | rfl | (exfalso; omega), fun q => by first | rfl | (exfalso; omega)⟩, by omega, by omega⟩)⟩
              ·
                refine j_ldc G 16777215 ct0_121 (by decide) d0_single_133 ?_
                refine j_iload G 0 rfl d0_single_135 ?_
                refine j_iconst G d0_single_137 ?_
                refine r_ixor G d0_single_138 ?_
                refine j_top (y := iZ (((iZ v83) ^^^ (iZ (-1))).toInt)) (iZ_of _).symm ?_
                refine r_iand G d0_single_139 ?_
                refine j_top (y := iZ (((iZ 16777215) &&& (iZ (((iZ v83) ^^^ (iZ (-1))).toInt))).toInt)) (iZ_of _).symm ?_
                refine j_goto (tgt := 145) G d0_single_140 (by decide) ?_
                exact j_iret G F d0_single_145 ⟨((iZ 16777215) &&& (iZ (((iZ v83) ^^^ (iZ (-1))).toInt))).toInt, at1_88, ft1_89, rfl, rfl, (by first | exact ⟨sg_par hI hlv2 (by omega) hc40 (by omega) he3 (by omega) hT ⟨fun q => by first | rfl | (exfalso; omega), fun q => by first | rfl | (exfalso; omega)⟩, by omega, by omega⟩ | exact ⟨htst _ ⟨fun q => by first | rfl | (exfalso; omega), fun q => by first | rfl | (exfalso; omega)⟩, by omega, by omega⟩)⟩
        ·
          have hlive : R 3 < 0 := ((hpC 33 (by decide) (by decide)).1 (by omega)).1
          have hnc : nx U (R 1) az = 33 := ((hpC 33 (by decide) (by decide)).1 (by omega)).2
          refine j_aload_n G 2 rfl d0_single_18 ?_
          refine j_dup G d0_single_19 rfl ?_
          refine j_get G 0 0 2 in0 fl0_36 d0_single_20 rfl rfl (by decide) (v := .int (iZ az)) rfl rfl ?_
          refine j_iconst G d0_single_23 ?_
          refine j_iadd G d0_single_24 ?_
          refine j_put G 0 0 2 in0 tyok0 nm0 fl0_36 d0_single_25 rfl rfl (by decide) ⟨rfl, rfl⟩ rfl rfl (Nat.le_of_ble_eq_true rfl) (e := o0 (some ba) (upS R 2 (az + 1))) rfl ?_
          refine j_iinc G d0_single_28 1 rfl (by decide) rfl ?_
          refine j_iload_n G 1 rfl d0_single_31 ?_
          have mg32 : ∀ x91 : Int, x91 = (if tn ≠ 0 then 0 else 1) → J E 7 Γ (some A) 0 0 [(ra, o0 (some ba) (upS R 2 (az + 1))), (ba, aInt E 100 tb)] 40 [(2, .int (iZ (w + 1))), (3, .int (iZ tn)), (0, .ref ra), (1, .int (iZ dp))] ([.int (iZ x91)]) := by
            intro x91 ex91
            have hxt : x91 = if tn = 0 then 1 else 0 := by rw [ex91]; (repeat' split) <;> omega
            refine j_istore_n G d0_single_40 (by decide) rfl ?_
            refine j_goto (tgt := 4) G d0_single_41 (by decide) ?_
            exact ih4 (w + 1) x91 (az + 1) (by omega) (by first | assumption | omega) (by first | assumption | omega) (by first | assumption | omega) (by have q := nt_s hI hlive hnc (by omega); rw [← hxt] at q; exact q)
          refine j_if_ne (tgt := 39) G d0_single_32 (by decide) htR (fun h92 => ?_) (fun h92 => ?_)
          ·
            refine j_iconst G d0_single_39 ?_
            refine j_eq (ws' := [(ra, o0 (some ba) (upS R 2 (az + 1))), (ba, aInt E 100 tb)]) (ls' := [(2, .int (iZ (w + 1))), (3, .int (iZ tn)), (0, .ref ra), (1, .int (iZ dp))]) rfl rfl rfl ?_
            exact mg32 _ (by first | rfl | (simp only [*, if_true, if_false, ite_true, ite_false]; done) | (split <;> first | rfl | omega | (split <;> first | rfl | omega | (split <;> first | rfl | omega))))
          ·
            refine j_iconst G d0_single_35 ?_
            refine j_goto (tgt := 40) G d0_single_36 (by decide) ?_
            refine j_eq (ws' := [(ra, o0 (some ba) (upS R 2 (az + 1))), (ba, aInt E 100 tb)]) (ls' := [(2, .int (iZ (w + 1))), (3, .int (iZ tn)), (0, .ref ra), (1, .int (iZ dp))]) rfl rfl rfl ?_
            exact mg32 _ (by first | rfl | (simp only [*, if_true, if_false, ite_true, ite_false]; done) | (split <;> first | rfl | omega | (split <;> first | rfl | omega | (split <;> first | rfl | omega))))
  exact lp4 _ dp 0 (R 2) (Nat.lt_succ_self _) (by first | assumption | omega) (by first | assumption | omega) (by first | assumption | omega) (nt_0 hft.1)
set_option maxHeartbeats 4000000 in
set_option maxRecDepth 100000 in
theorem k0_both_1 (l : Launch) (E : En) (ra : Nat) (ba : Nat) (R : Nat → Int) (tb : Int → Int) (U : Int → Int) (dp : Int) (htb : ∀ j, 0 ≤ j → j < 100 → tb j = U j % 256 ∧ -128 ≤ U j ∧ U j ≤ 127) (hln : 0 ≤ R 1 ∧ R 1 ≤ 100) (hat : 0 ≤ R 2 ∧ R 2 ≤ R 1) (hft : -1 ≤ R 3 ∧ R 3 ≤ 200) (hdp : 1 ≤ dp ∧ dp ≤ 4) : Cm l E y0_both c0_both 3 (some .int) { frames := 12, cells := 0, slots := 0, locals := 280 } [.ref ra, .int (iZ dp)] [(ra, o0 (some ba) R), (ba, aInt E 100 tb)] (fun r ws => ∃ (v : Int), ∃ (at1 : Int), ∃ (ft1 : Int), r = some (.int (iZ v)) ∧ ws = [(ra, o0 (some ba) (upS (upS R 2 at1) 3 ft1)), (ba, aInt E 100 tb)] ∧ (ExS U (R 1) 2 dp (R 2) (R 3) at1 ft1 v ∧ (R 2 ≤ at1 ∧ at1 ≤ R 1) ∧ (-1 ≤ ft1 ∧ ft1 ≤ 200))) := by
  refine Cm.of (by decide +kernel) (Nat.le_of_ble_eq_true rfl) (fun Γ A hl hargs hin G F => ?_)
  subst hl
  refine j_aload_n G 0 rfl d0_both_0 ?_
  refine j_iload_n G 1 rfl d0_both_1 ?_
  refine j_VM G (rm' := { frames := 11, cells := 0, slots := 0, locals := 254 }) (wc := [(ra, o0 (some ba) R), (ba, aInt E 100 tb)]) (wr := []) (k0_single_1 (xl Γ) E ra ba R tb U dp (by first | assumption | omega | (simp only [upS, reduceIte, Nat.reduceEqDiff, eq_self, List.length_cons, List.length_nil, List.length_append] <;> omega)) (by first | assumption | omega | (simp only [upS, reduceIte, Nat.reduceEqDiff, eq_self, List.length_cons, List.length_nil, List.length_append] <;> omega)) (by first | assumption | omega | (simp only [upS, reduceIte, Nat.reduceEqDiff, eq_self, List.length_cons, List.length_nil, List.length_append] <;> omega)) (by first | assumption | omega | (simp only [upS, reduceIte, Nat.reduceEqDiff, eq_self, List.length_cons, List.length_nil, List.length_append] <;> omega)) (by first | assumption | omega | (simp only [upS, reduceIte, Nat.reduceEqDiff, eq_self, List.length_cons, List.length_nil, List.length_append] <;> omega))) mw0_single ml0_115 [0, 1] [] rfl rfl ⟨rfl, rfl⟩ (by decide) 0 0 rfl rfl rfl ⟨Nat.le_of_ble_eq_true rfl, Nat.le_of_ble_eq_true rfl⟩ rfl (rest := []) rfl (Nat.le_of_ble_eq_true rfl) d0_both_2 ⟨Nat.le_of_ble_eq_true rfl, Nat.le_of_ble_eq_true rfl⟩ (fun r w1 hr => ?_)
  obtain ⟨v2, at1_3, ft1_4, rfl, rfl, ⟨hq1_0, hq1_1, hq1_2⟩⟩ := hr
  refine j_eq (ws' := [(ra, o0 (some ba) (upS (upS R 2 at1_3) 3 ft1_4)), (ba, aInt E 100 tb)]) rfl rfl rfl ?_
  have he0 := hq1_0
  have hr0 := hq1_1
  have hx0 := hq1_2
  refine j_istore_n G d0_both_5 (by decide) rfl ?_
  have lp6 : ∀ (fu : Nat) (m : Int) (az : Int) (f : Int), (R 1 - az).toNat < fu → (R 2 ≤ az ∧ az ≤ R 1) → (-1 ≤ f ∧ f ≤ 200) → (LpS U (R 1) 2 dp (R 2) (R 3) az f m) →  J E 3 Γ (some A) 0 0 [(ra, o0 (some ba) (upS (upS R 2 az) 3 f)), (ba, aInt E 100 tb)] 6 [(2, .int (iZ m)), (0, .ref ra), (1, .int (iZ dp))] [] := by
    intro fu
    induction fu with
    | zero =>
      intro m az f hm
      exact absurd hm (Nat.not_lt_zero _)
    | succ fu ih6 =>
      intro m az f hm haz hf hI
      refine j_aload_n G 1 rfl d0_both_6 ?_
      refine j_get G 0 0 2 in0 fl0_36 d0_both_7 rfl rfl (by decide) (v := .int (iZ az)) rfl rfl ?_
      refine j_aload_n G 1 rfl d0_both_10 ?_
      refine j_get G 0 0 1 in0 fl0_25 d0_both_11 rfl rfl (by decide) (v := .int (iZ (R 1))) rfl rfl ?_
      refine j_icmp_ge (tgt := 47) G d0_both_14 (by decide) (by omega) (by omega) (fun h5 => ?_) (fun h5 => ?_)
      ·
        have hend := lp_e hI (fun q => ⟨fun _ => by first | (refine fun z => absurd ((hpC 38 (by decide) (by decide)).2 ⟨q, z⟩) ?_; omega) | (unfold nx; rw [if_neg (by omega)]; decide), fun e => absurd e (by decide)⟩) (by decide)
        refine j_iload_n G 0 rfl d0_both_47 ?_
        exact j_iret G F d0_both_48 ⟨m, az, f, rfl, rfl, (by exact ⟨hend, by omega, by omega⟩)⟩
      ·
        refine j_aload_n G 1 rfl d0_both_17 ?_
        refine j_VP G (k0_peek (xl Γ) E ra ba (upS (upS R 2 az) 3 f) tb U (by first | assumption | omega | (simp only [upS, reduceIte, Nat.reduceEqDiff, eq_self, List.length_cons, List.length_nil, List.length_append] <;> omega)) (by first | assumption | omega | (simp only [upS, reduceIte, Nat.reduceEqDiff, eq_self, List.length_cons, List.length_nil, List.length_append] <;> omega)) (by first | assumption | omega | (simp only [upS, reduceIte, Nat.reduceEqDiff, eq_self, List.length_cons, List.length_nil, List.length_append] <;> omega)) (by first | assumption | omega | (simp only [upS, reduceIte, Nat.reduceEqDiff, eq_self, List.length_cons, List.length_nil, List.length_append] <;> omega))) mw0_peek ml0_32 [0, 1] rfl 0 0 rfl rfl rfl ⟨Nat.le_of_ble_eq_true rfl, Nat.le_of_ble_eq_true rfl⟩ rfl (rest := []) rfl (Nat.le_of_ble_eq_true rfl) d0_both_18 ⟨Nat.le_of_ble_eq_true rfl, Nat.le_of_ble_eq_true rfl⟩ (fun r hr => ?_)
        obtain ⟨v7, rfl, ⟨hq6_0, hq6_1, hq6_2, hq6_3, hq6_4⟩⟩ := hr
        try simp only [upS, reduceIte, Nat.reduceEqDiff, eq_self] at hq6_0 hq6_1 hq6_2 hq6_3 hq6_4
        have hpC := pk_of hq6_0 hq6_1 hq6_2
        have hp2 := hq6_2
        clear hq6_0 hq6_1 hq6_3 hq6_4
        refine j_bipush G d0_both_21 rfl ?_
        refine j_icmp_ne (tgt := 47) G d0_both_23 (by decide) (r32_pk hp2) (by decide) (fun h8 => ?_) (fun h8 => ?_)
        ·
          have hend := lp_e hI (fun q => ⟨fun _ => by first | (refine fun z => absurd ((hpC 38 (by decide) (by decide)).2 ⟨q, z⟩) ?_; omega) | (unfold nx; rw [if_neg (by omega)]; decide), fun e => absurd e (by decide)⟩) (by decide)
          refine j_iload_n G 0 rfl d0_both_47 ?_
          exact j_iret G F d0_both_48 ⟨m, az, f, rfl, rfl, (by exact ⟨hend, by omega, by omega⟩)⟩
        ·
          have hlive : f < 0 := ((hpC 38 (by decide) (by decide)).1 (by omega)).1
          have hnc : nx U (R 1) az = 38 := ((hpC 38 (by decide) (by decide)).1 (by omega)).2
          refine j_aload_n G 1 rfl d0_both_26 ?_
          refine j_dup G d0_both_27 rfl ?_
          refine j_get G 0 0 2 in0 fl0_36 d0_both_28 rfl rfl (by decide) (v := .int (iZ az)) rfl rfl ?_
          refine j_iconst G d0_both_31 ?_
          refine j_iadd G d0_both_32 ?_
          refine j_put G 0 0 2 in0 tyok0 nm0 fl0_36 d0_both_33 rfl rfl (by decide) ⟨rfl, rfl⟩ rfl rfl (Nat.le_of_ble_eq_true rfl) (e := o0 (some ba) (upS (upS R 3 f) 2 (az + 1))) rfl ?_
          refine j_iload_n G 0 rfl d0_both_36 ?_
          refine j_aload_n G 1 rfl d0_both_37 ?_
          refine j_iload_n G 2 rfl d0_both_38 ?_
          refine j_VM G (rm' := { frames := 11, cells := 0, slots := 0, locals := 254 }) (wc := [(ra, o0 (some ba) (upS (upS R 3 f) 2 (az + 1))), (ba, aInt E 100 tb)]) (wr := []) (k0_single_1 (xl Γ) E ra ba (upS (upS R 3 f) 2 (az + 1)) tb U dp (by first | assumption | omega | (simp only [upS, reduceIte, Nat.reduceEqDiff, eq_self, List.length_cons, List.length_nil, List.length_append] <;> omega)) (by first | assumption | omega | (simp only [upS, reduceIte, Nat.reduceEqDiff, eq_self, List.length_cons, List.length_nil, List.length_append] <;> omega)) (by first | assumption | omega | (simp only [upS, reduceIte, Nat.reduceEqDiff, eq_self, List.length_cons, List.length_nil, List.length_append] <;> omega)) (by first | assumption | omega | (simp only [upS, reduceIte, Nat.reduceEqDiff, eq_self, List.length_cons, List.length_nil, List.length_append] <;> omega)) (by first | assumption | omega | (simp only [upS, reduceIte, Nat.reduceEqDiff, eq_self, List.length_cons, List.length_nil, List.length_append] <;> omega))) mw0_single ml0_115 [0, 1] [] rfl rfl ⟨rfl, rfl⟩ (by decide) 0 0 rfl rfl rfl ⟨Nat.le_of_ble_eq_true rfl, Nat.le_of_ble_eq_true rfl⟩ rfl (rest := [.int (iZ m)]) rfl (Nat.le_of_ble_eq_true rfl) d0_both_39 ⟨Nat.le_of_ble_eq_true rfl, Nat.le_of_ble_eq_true rfl⟩ (fun r w1 hr => ?_)
          obtain ⟨v10, at1_11, ft1_12, rfl, rfl, ⟨hq9_0, hq9_1, hq9_2⟩⟩ := hr
          refine j_eq (ws' := [(ra, o0 (some ba) (upS (upS R 2 at1_11) 3 ft1_12)), (ba, aInt E 100 tb)]) rfl rfl rfl ?_
          try simp only [upS, reduceIte, Nat.reduceEqDiff, eq_self] at hq9_0 hq9_1 hq9_2
          have he1 := hq9_0
          have hr1 := hq9_1
          have hx1 := hq9_2
          refine r_iand G d0_both_42 ?_
          refine j_top (y := iZ (((iZ m) &&& (iZ v10)).toInt)) (iZ_of _).symm ?_
          refine j_istore_n G d0_both_43 (by decide) rfl ?_
          refine j_goto (tgt := 6) G d0_both_44 (by decide) ?_
          exact ih6 (((iZ m) &&& (iZ v10)).toInt) at1_11 ft1_12 (by omega) (by first | assumption | omega) (by first | assumption | omega) (lp_and hI hlive hnc he1)
  exact lp6 _ v2 at1_3 ft1_4 (Nat.lt_succ_self _) (by first | assumption | omega) (by first | assumption | omega) (lp_0 (by decide) he0)
set_option maxHeartbeats 4000000 in
set_option maxRecDepth 100000 in
theorem k0_either_1 (l : Launch) (E : En) (ra : Nat) (ba : Nat) (R : Nat → Int) (tb : Int → Int) (U : Int → Int) (dp : Int) (htb : ∀ j, 0 ≤ j → j < 100 → tb j = U j % 256 ∧ -128 ≤ U j ∧ U j ≤ 127) (hln : 0 ≤ R 1 ∧ R 1 ≤ 100) (hat : 0 ≤ R 2 ∧ R 2 ≤ R 1) (hft : -1 ≤ R 3 ∧ R 3 ≤ 200) (hdp : 1 ≤ dp ∧ dp ≤ 4) : Cm l E y0_either c0_either 3 (some .int) { frames := 13, cells := 0, slots := 0, locals := 302 } [.ref ra, .int (iZ dp)] [(ra, o0 (some ba) R), (ba, aInt E 100 tb)] (fun r ws => ∃ (v : Int), ∃ (at1 : Int), ∃ (ft1 : Int), r = some (.int (iZ v)) ∧ ws = [(ra, o0 (some ba) (upS (upS R 2 at1) 3 ft1)), (ba, aInt E 100 tb)] ∧ (ExS U (R 1) 3 dp (R 2) (R 3) at1 ft1 v ∧ (R 2 ≤ at1 ∧ at1 ≤ R 1) ∧ (-1 ≤ ft1 ∧ ft1 ≤ 200))) := by
  refine Cm.of (by decide +kernel) (Nat.le_of_ble_eq_true rfl) (fun Γ A hl hargs hin G F => ?_)
  subst hl
  refine j_aload_n G 0 rfl d0_either_0 ?_
  refine j_iload_n G 1 rfl d0_either_1 ?_
  refine j_VM G (rm' := { frames := 12, cells := 0, slots := 0, locals := 280 }) (wc := [(ra, o0 (some ba) R), (ba, aInt E 100 tb)]) (wr := []) (k0_both_1 (xl Γ) E ra ba R tb U dp (by first | assumption | omega | (simp only [upS, reduceIte, Nat.reduceEqDiff, eq_self, List.length_cons, List.length_nil, List.length_append] <;> omega)) (by first | assumption | omega | (simp only [upS, reduceIte, Nat.reduceEqDiff, eq_self, List.length_cons, List.length_nil, List.length_append] <;> omega)) (by first | assumption | omega | (simp only [upS, reduceIte, Nat.reduceEqDiff, eq_self, List.length_cons, List.length_nil, List.length_append] <;> omega)) (by first | assumption | omega | (simp only [upS, reduceIte, Nat.reduceEqDiff, eq_self, List.length_cons, List.length_nil, List.length_append] <;> omega)) (by first | assumption | omega | (simp only [upS, reduceIte, Nat.reduceEqDiff, eq_self, List.length_cons, List.length_nil, List.length_append] <;> omega))) mw0_both ml0_112 [0, 1] [] rfl rfl ⟨rfl, rfl⟩ (by decide) 0 0 rfl rfl rfl ⟨Nat.le_of_ble_eq_true rfl, Nat.le_of_ble_eq_true rfl⟩ rfl (rest := []) rfl (Nat.le_of_ble_eq_true rfl) d0_either_2 ⟨Nat.le_of_ble_eq_true rfl, Nat.le_of_ble_eq_true rfl⟩ (fun r w1 hr => ?_)
  obtain ⟨v2, at1_3, ft1_4, rfl, rfl, ⟨hq1_0, hq1_1, hq1_2⟩⟩ := hr
  refine j_eq (ws' := [(ra, o0 (some ba) (upS (upS R 2 at1_3) 3 ft1_4)), (ba, aInt E 100 tb)]) rfl rfl rfl ?_
  have he0 := hq1_0
  have hr0 := hq1_1
  have hx0 := hq1_2
  refine j_istore_n G d0_either_5 (by decide) rfl ?_
  have lp6 : ∀ (fu : Nat) (m : Int) (az : Int) (f : Int), (R 1 - az).toNat < fu → (R 2 ≤ az ∧ az ≤ R 1) → (-1 ≤ f ∧ f ≤ 200) → (LpS U (R 1) 3 dp (R 2) (R 3) az f m) →  J E 3 Γ (some A) 0 0 [(ra, o0 (some ba) (upS (upS R 2 az) 3 f)), (ba, aInt E 100 tb)] 6 [(2, .int (iZ m)), (0, .ref ra), (1, .int (iZ dp))] [] := by
    intro fu
    induction fu with
    | zero =>
      intro m az f hm
      exact absurd hm (Nat.not_lt_zero _)
    | succ fu ih6 =>
      intro m az f hm haz hf hI
      refine j_aload_n G 1 rfl d0_either_6 ?_
      refine j_get G 0 0 2 in0 fl0_36 d0_either_7 rfl rfl (by decide) (v := .int (iZ az)) rfl rfl ?_
      refine j_aload_n G 1 rfl d0_either_10 ?_
      refine j_get G 0 0 1 in0 fl0_25 d0_either_11 rfl rfl (by decide) (v := .int (iZ (R 1))) rfl rfl ?_
      refine j_icmp_ge (tgt := 47) G d0_either_14 (by decide) (by omega) (by omega) (fun h5 => ?_) (fun h5 => ?_)
      ·
        have hend := lp_e hI (fun q => ⟨fun e => absurd e (by decide), fun _ => by first | (refine fun z => absurd ((hpC 124 (by decide) (by decide)).2 ⟨q, z⟩) ?_; omega) | (unfold nx; rw [if_neg (by omega)]; decide)⟩) (by decide)
        refine j_iload_n G 0 rfl d0_either_47 ?_
        exact j_iret G F d0_either_48 ⟨m, az, f, rfl, rfl, (by exact ⟨hend, by omega, by omega⟩)⟩
      ·
        refine j_aload_n G 1 rfl d0_either_17 ?_
        refine j_VP G (k0_peek (xl Γ) E ra ba (upS (upS R 2 az) 3 f) tb U (by first | assumption | omega | (simp only [upS, reduceIte, Nat.reduceEqDiff, eq_self, List.length_cons, List.length_nil, List.length_append] <;> omega)) (by first | assumption | omega | (simp only [upS, reduceIte, Nat.reduceEqDiff, eq_self, List.length_cons, List.length_nil, List.length_append] <;> omega)) (by first | assumption | omega | (simp only [upS, reduceIte, Nat.reduceEqDiff, eq_self, List.length_cons, List.length_nil, List.length_append] <;> omega)) (by first | assumption | omega | (simp only [upS, reduceIte, Nat.reduceEqDiff, eq_self, List.length_cons, List.length_nil, List.length_append] <;> omega))) mw0_peek ml0_32 [0, 1] rfl 0 0 rfl rfl rfl ⟨Nat.le_of_ble_eq_true rfl, Nat.le_of_ble_eq_true rfl⟩ rfl (rest := []) rfl (Nat.le_of_ble_eq_true rfl) d0_either_18 ⟨Nat.le_of_ble_eq_true rfl, Nat.le_of_ble_eq_true rfl⟩ (fun r hr => ?_)
        obtain ⟨v7, rfl, ⟨hq6_0, hq6_1, hq6_2, hq6_3, hq6_4⟩⟩ := hr
        try simp only [upS, reduceIte, Nat.reduceEqDiff, eq_self] at hq6_0 hq6_1 hq6_2 hq6_3 hq6_4
        have hpC := pk_of hq6_0 hq6_1 hq6_2
        have hp2 := hq6_2
        clear hq6_0 hq6_1 hq6_3 hq6_4
        refine j_bipush G d0_either_21 rfl ?_
        refine j_icmp_ne (tgt := 47) G d0_either_23 (by decide) (r32_pk hp2) (by decide) (fun h8 => ?_) (fun h8 => ?_)
        ·
          have hend := lp_e hI (fun q => ⟨fun e => absurd e (by decide), fun _ => by first | (refine fun z => absurd ((hpC 124 (by decide) (by decide)).2 ⟨q, z⟩) ?_; omega) | (unfold nx; rw [if_neg (by omega)]; decide)⟩) (by decide)
          refine j_iload_n G 0 rfl d0_either_47 ?_
          exact j_iret G F d0_either_48 ⟨m, az, f, rfl, rfl, (by exact ⟨hend, by omega, by omega⟩)⟩
        ·
          have hlive : f < 0 := ((hpC 124 (by decide) (by decide)).1 (by omega)).1
          have hnc : nx U (R 1) az = 124 := ((hpC 124 (by decide) (by decide)).1 (by omega)).2
          refine j_aload_n G 1 rfl d0_either_26 ?_
          refine j_dup G d0_either_27 rfl ?_
          refine j_get G 0 0 2 in0 fl0_36 d0_either_28 rfl rfl (by decide) (v := .int (iZ az)) rfl rfl ?_
          refine j_iconst G d0_either_31 ?_
          refine j_iadd G d0_either_32 ?_
          refine j_put G 0 0 2 in0 tyok0 nm0 fl0_36 d0_either_33 rfl rfl (by decide) ⟨rfl, rfl⟩ rfl rfl (Nat.le_of_ble_eq_true rfl) (e := o0 (some ba) (upS (upS R 3 f) 2 (az + 1))) rfl ?_
          refine j_iload_n G 0 rfl d0_either_36 ?_
          refine j_aload_n G 1 rfl d0_either_37 ?_
          refine j_iload_n G 2 rfl d0_either_38 ?_
          refine j_VM G (rm' := { frames := 12, cells := 0, slots := 0, locals := 280 }) (wc := [(ra, o0 (some ba) (upS (upS R 3 f) 2 (az + 1))), (ba, aInt E 100 tb)]) (wr := []) (k0_both_1 (xl Γ) E ra ba (upS (upS R 3 f) 2 (az + 1)) tb U dp (by first | assumption | omega | (simp only [upS, reduceIte, Nat.reduceEqDiff, eq_self, List.length_cons, List.length_nil, List.length_append] <;> omega)) (by first | assumption | omega | (simp only [upS, reduceIte, Nat.reduceEqDiff, eq_self, List.length_cons, List.length_nil, List.length_append] <;> omega)) (by first | assumption | omega | (simp only [upS, reduceIte, Nat.reduceEqDiff, eq_self, List.length_cons, List.length_nil, List.length_append] <;> omega)) (by first | assumption | omega | (simp only [upS, reduceIte, Nat.reduceEqDiff, eq_self, List.length_cons, List.length_nil, List.length_append] <;> omega)) (by first | assumption | omega | (simp only [upS, reduceIte, Nat.reduceEqDiff, eq_self, List.length_cons, List.length_nil, List.length_append] <;> omega))) mw0_both ml0_112 [0, 1] [] rfl rfl ⟨rfl, rfl⟩ (by decide) 0 0 rfl rfl rfl ⟨Nat.le_of_ble_eq_true rfl, Nat.le_of_ble_eq_true rfl⟩ rfl (rest := [.int (iZ m)]) rfl (Nat.le_of_ble_eq_true rfl) d0_either_39 ⟨Nat.le_of_ble_eq_true rfl, Nat.le_of_ble_eq_true rfl⟩ (fun r w1 hr => ?_)
          obtain ⟨v10, at1_11, ft1_12, rfl, rfl, ⟨hq9_0, hq9_1, hq9_2⟩⟩ := hr
          refine j_eq (ws' := [(ra, o0 (some ba) (upS (upS R 2 at1_11) 3 ft1_12)), (ba, aInt E 100 tb)]) rfl rfl rfl ?_
          try simp only [upS, reduceIte, Nat.reduceEqDiff, eq_self] at hq9_0 hq9_1 hq9_2
          have he1 := hq9_0
          have hr1 := hq9_1
          have hx1 := hq9_2
          refine r_ior G d0_either_42 ?_
          refine j_top (y := iZ (((iZ m) ||| (iZ v10)).toInt)) (iZ_of _).symm ?_
          refine j_istore_n G d0_either_43 (by decide) rfl ?_
          refine j_goto (tgt := 6) G d0_either_44 (by decide) ?_
          exact ih6 (((iZ m) ||| (iZ v10)).toInt) at1_11 ft1_12 (by omega) (by first | assumption | omega) (by first | assumption | omega) (lp_or hI hlive hnc he1)
  exact lp6 _ v2 at1_3 ft1_4 (Nat.lt_succ_self _) (by first | assumption | omega) (by first | assumption | omega) (lp_0 (by decide) he0)
set_option maxHeartbeats 4000000 in
set_option maxRecDepth 100000 in
theorem k0_single_0 (l : Launch) (E : En) (ra : Nat) (ba : Nat) (R : Nat → Int) (tb : Int → Int) (U : Int → Int) (dp : Int) (htb : ∀ j, 0 ≤ j → j < 100 → tb j = U j % 256 ∧ -128 ≤ U j ∧ U j ≤ 127) (hln : 0 ≤ R 1 ∧ R 1 ≤ 100) (hat : 0 ≤ R 2 ∧ R 2 ≤ R 1) (hft : -1 ≤ R 3 ∧ R 3 ≤ 200) (hdp : 0 ≤ dp ∧ dp ≤ 4) : Cm l E y0_single c0_single 7 (some .int) { frames := 14, cells := 0, slots := 0, locals := 324 } [.ref ra, .int (iZ dp)] [(ra, o0 (some ba) R), (ba, aInt E 100 tb)] (fun r ws => ∃ (v : Int), ∃ (at1 : Int), ∃ (ft1 : Int), r = some (.int (iZ v)) ∧ ws = [(ra, o0 (some ba) (upS (upS R 2 at1) 3 ft1)), (ba, aInt E 100 tb)] ∧ (ExS U (R 1) 1 dp (R 2) (R 3) at1 ft1 v ∧ (R 2 ≤ at1 ∧ at1 ≤ R 1) ∧ (-1 ≤ ft1 ∧ ft1 ≤ 200))) := by
  refine Cm.of (by decide +kernel) (Nat.le_of_ble_eq_true rfl) (fun Γ A hl hargs hin G F => ?_)
  subst hl
  refine j_iload_n G 1 rfl d0_single_0 ?_
  refine j_istore_n G d0_single_1 (by decide) rfl ?_
  refine j_iconst G d0_single_2 ?_
  refine j_istore_n G d0_single_3 (by decide) rfl ?_
  refine j_eq (ws' := [(ra, o0 (some ba) (upS R 2 (R 2))), (ba, aInt E 100 tb)]) rfl rfl rfl ?_
  have lp4 : ∀ (fu : Nat) (w : Int) (tn : Int) (az : Int), (4 - w).toNat < fu → (dp ≤ w ∧ w ≤ 4) → (tn = 0 ∨ tn = 1) → (R 2 ≤ az ∧ az ≤ R 1) → (NtI U (R 1) dp (R 2) (R 3) w tn az) →  J E 7 Γ (some A) 0 0 [(ra, o0 (some ba) (upS R 2 az)), (ba, aInt E 100 tb)] 4 [(3, .int (iZ tn)), (2, .int (iZ w)), (0, .ref ra), (1, .int (iZ dp))] [] := by
    intro fu
    induction fu with
    | zero =>
      intro w tn az hm
      exact absurd hm (Nat.not_lt_zero _)
    | succ fu ih4 =>
      intro w tn az hm hw htn haz hI
      have hwR : R32 w := ⟨by omega, by omega⟩
      have htR : R32 tn := ⟨by omega, by omega⟩
      refine j_aload_n G 2 rfl d0_single_4 ?_
      refine j_VP G (k0_peek (xl Γ) E ra ba (upS R 2 az) tb U (by first | assumption | omega | (simp only [upS, reduceIte, Nat.reduceEqDiff, eq_self, List.length_cons, List.length_nil, List.length_append] <;> omega)) (by first | assumption | omega | (simp only [upS, reduceIte, Nat.reduceEqDiff, eq_self, List.length_cons, List.length_nil, List.length_append] <;> omega)) (by first | assumption | omega | (simp only [upS, reduceIte, Nat.reduceEqDiff, eq_self, List.length_cons, List.length_nil, List.length_append] <;> omega)) (by first | assumption | omega | (simp only [upS, reduceIte, Nat.reduceEqDiff, eq_self, List.length_cons, List.length_nil, List.length_append] <;> omega))) mw0_peek ml0_32 [0, 1] rfl 0 0 rfl rfl rfl ⟨Nat.le_of_ble_eq_true rfl, Nat.le_of_ble_eq_true rfl⟩ rfl (rest := []) rfl (Nat.le_of_ble_eq_true rfl) d0_single_5 ⟨Nat.le_of_ble_eq_true rfl, Nat.le_of_ble_eq_true rfl⟩ (fun r hr => ?_)
      obtain ⟨v2, rfl, ⟨hq1_0, hq1_1, hq1_2, hq1_3, hq1_4⟩⟩ := hr
      try simp only [upS, reduceIte, Nat.reduceEqDiff, eq_self] at hq1_0 hq1_1 hq1_2 hq1_3 hq1_4
      have hpC := pk_of hq1_0 hq1_1 hq1_2
      have hp2 := hq1_2
      have hp3 := hq1_3
      clear hq1_0 hq1_1 hq1_3 hq1_4
      refine j_bipush G d0_single_8 rfl ?_
      refine j_icmp_ne (tgt := 44) G d0_single_10 (by decide) (r32_pk hp2) (by decide) (fun h3 => ?_) (fun h3 => ?_)
      ·
        refine j_aload_n G 2 rfl d0_single_44 ?_
        refine j_VP G (k0_peek (xl Γ) E ra ba (upS R 2 az) tb U (by first | assumption | omega | (simp only [upS, reduceIte, Nat.reduceEqDiff, eq_self, List.length_cons, List.length_nil, List.length_append] <;> omega)) (by first | assumption | omega | (simp only [upS, reduceIte, Nat.reduceEqDiff, eq_self, List.length_cons, List.length_nil, List.length_append] <;> omega)) (by first | assumption | omega | (simp only [upS, reduceIte, Nat.reduceEqDiff, eq_self, List.length_cons, List.length_nil, List.length_append] <;> omega)) (by first | assumption | omega | (simp only [upS, reduceIte, Nat.reduceEqDiff, eq_self, List.length_cons, List.length_nil, List.length_append] <;> omega))) mw0_peek ml0_32 [0, 1] rfl 0 0 rfl rfl rfl ⟨Nat.le_of_ble_eq_true rfl, Nat.le_of_ble_eq_true rfl⟩ rfl (rest := []) rfl (Nat.le_of_ble_eq_true rfl) d0_single_45 ⟨Nat.le_of_ble_eq_true rfl, Nat.le_of_ble_eq_true rfl⟩ (fun r hr => ?_)
        obtain ⟨v5, rfl, ⟨hq4_0, hq4_1, hq4_2, hq4_3, hq4_4⟩⟩ := hr
        try simp only [upS, reduceIte, Nat.reduceEqDiff, eq_self] at hq4_0 hq4_1 hq4_2 hq4_3 hq4_4
        have hgC := pk_of hq4_0 hq4_1 hq4_2
        have hg2 := hq4_2
        have hg3 := hq4_3
        clear hq4_0 hq4_1 hq4_3 hq4_4
        refine j_bipush G d0_single_48 rfl ?_
        refine j_icmp_ne (tgt := 91) G d0_single_50 (by decide) (r32_pk hg2) (by decide) (fun h6 => ?_) (fun h6 => ?_)
        ·
          have h33 : R 3 < 0 → nx U (R 1) az = 33 → 4 ≤ w := fun q1 q2 => by have z := (hpC 33 (by decide) (by decide)).2 ⟨q1, q2⟩; omega
          have h40 : R 3 < 0 → nx U (R 1) az = 40 → 4 ≤ w := fun q1 q2 => by have z := (hgC 40 (by decide) (by decide)).2 ⟨q1, q2⟩; omega
          refine j_aload_n G 2 rfl d0_single_91 ?_
          refine j_bipush G d0_single_92 rfl ?_
          refine j_bipush G d0_single_94 rfl ?_
          refine j_bipush G d0_single_96 rfl ?_
          refine j_VM G (rm' := { frames := 1, cells := 0, slots := 0, locals := 20 }) (wc := [(ra, o0 (some ba) (upS R 2 az)), (ba, aInt E 100 tb)]) (wr := []) (k0_takeOneOf (xl Γ) E ra ba (upS R 2 az) tb U 115 119 119 (by first | assumption | omega | (simp only [upS, reduceIte, Nat.reduceEqDiff, eq_self, List.length_cons, List.length_nil, List.length_append] <;> omega)) (by first | assumption | omega | (simp only [upS, reduceIte, Nat.reduceEqDiff, eq_self, List.length_cons, List.length_nil, List.length_append] <;> omega)) (by first | assumption | omega | (simp only [upS, reduceIte, Nat.reduceEqDiff, eq_self, List.length_cons, List.length_nil, List.length_append] <;> omega)) (by first | assumption | omega | (simp only [upS, reduceIte, Nat.reduceEqDiff, eq_self, List.length_cons, List.length_nil, List.length_append] <;> omega)) (by first | assumption | omega | (simp only [upS, reduceIte, Nat.reduceEqDiff, eq_self, List.length_cons, List.length_nil, List.length_append] <;> omega))) mw0_takeOneOf ml0_54 [0, 1] [] rfl rfl ⟨rfl, rfl⟩ (by decide) 0 0 rfl rfl rfl ⟨Nat.le_of_ble_eq_true rfl, Nat.le_of_ble_eq_true rfl⟩ rfl (rest := []) rfl (Nat.le_of_ble_eq_true rfl) d0_single_98 ⟨Nat.le_of_ble_eq_true rfl, Nat.le_of_ble_eq_true rfl⟩ (fun r w1 hr => ?_)
          obtain ⟨v8, at1_9, ft1_10, rfl, rfl, ⟨hq7_0, hq7_1, hq7_2, hq7_3⟩⟩ := hr
          refine j_eq (ws' := [(ra, o0 (some ba) (upS (upS R 2 at1_9) 3 ft1_10)), (ba, aInt E 100 tb)]) rfl rfl rfl ?_
          try simp only [upS, reduceIte, Nat.reduceEqDiff, eq_self] at hq7_0 hq7_1 hq7_2 hq7_3
          have hA := tk_of hq7_0
          have hAr := hq7_1
          have hAs := hq7_2
          have hAv := hq7_3
          clear hq7_0
          refine j_istore G d0_single_101 (by decide) rfl ?_
          refine j_aload_n G 3 rfl d0_single_103 ?_
          refine j_bipush G d0_single_104 rfl ?_
          refine j_bipush G d0_single_106 rfl ?_
          refine j_bipush G d0_single_108 rfl ?_
          refine j_VM G (rm' := { frames := 1, cells := 0, slots := 0, locals := 20 }) (wc := [(ra, o0 (some ba) (upS (upS R 2 at1_9) 3 ft1_10)), (ba, aInt E 100 tb)]) (wr := []) (k0_takeOneOf (xl Γ) E ra ba (upS (upS R 2 at1_9) 3 ft1_10) tb U 60 61 62 (by first | assumption | omega | (simp only [upS, reduceIte, Nat.reduceEqDiff, eq_self, List.length_cons, List.length_nil, List.length_append] <;> omega)) (by first | assumption | omega | (simp only [upS, reduceIte, Nat.reduceEqDiff, eq_self, List.length_cons, List.length_nil, List.length_append] <;> omega)) (by first | assumption | omega | (simp only [upS, reduceIte, Nat.reduceEqDiff, eq_self, List.length_cons, List.length_nil, List.length_append] <;> omega)) (by first | assumption | omega | (simp only [upS, reduceIte, Nat.reduceEqDiff, eq_self, List.length_cons, List.length_nil, List.length_append] <;> omega)) (by first | assumption | omega | (simp only [upS, reduceIte, Nat.reduceEqDiff, eq_self, List.length_cons, List.length_nil, List.length_append] <;> omega))) mw0_takeOneOf ml0_54 [0, 1] [] rfl rfl ⟨rfl, rfl⟩ (by decide) 0 0 rfl rfl rfl ⟨Nat.le_of_ble_eq_true rfl, Nat.le_of_ble_eq_true rfl⟩ rfl (rest := []) rfl (Nat.le_of_ble_eq_true rfl) d0_single_110 ⟨Nat.le_of_ble_eq_true rfl, Nat.le_of_ble_eq_true rfl⟩ (fun r w1 hr => ?_)
          obtain ⟨v12, at1_13, ft1_14, rfl, rfl, ⟨hq11_0, hq11_1, hq11_2, hq11_3⟩⟩ := hr
          refine j_eq (ws' := [(ra, o0 (some ba) (upS (upS R 2 at1_13) 3 ft1_14)), (ba, aInt E 100 tb)]) rfl rfl rfl ?_
          try simp only [upS, reduceIte, Nat.reduceEqDiff, eq_self] at hq11_0 hq11_1 hq11_2 hq11_3
          have hBq := tk_of hq11_0
          have hBr := hq11_1
          have hBs := hq11_2
          have hBv := hq11_3
          clear hq11_0
          refine j_istore G d0_single_113 (by decide) rfl ?_
          refine j_iload G 1 rfl d0_single_115 ?_
          refine j_iload G 0 rfl d0_single_117 ?_
          refine j_aload_n G 4 rfl d0_single_119 ?_
          refine j_iconst G d0_single_120 ?_
          refine j_VM G (rm' := { frames := 1, cells := 0, slots := 0, locals := 20 }) (wc := [(ra, o0 (some ba) (upS (upS R 2 at1_13) 3 ft1_14)), (ba, aInt E 100 tb)]) (wr := []) (k0_number (xl Γ) E ra ba (upS (upS R 2 at1_13) 3 ft1_14) tb U 2 (by first | assumption | omega | (simp only [upS, reduceIte, Nat.reduceEqDiff, eq_self, List.length_cons, List.length_nil, List.length_append] <;> omega)) (by first | assumption | omega | (simp only [upS, reduceIte, Nat.reduceEqDiff, eq_self, List.length_cons, List.length_nil, List.length_append] <;> omega)) (by first | assumption | omega | (simp only [upS, reduceIte, Nat.reduceEqDiff, eq_self, List.length_cons, List.length_nil, List.length_append] <;> omega)) (by first | assumption | omega | (simp only [upS, reduceIte, Nat.reduceEqDiff, eq_self, List.length_cons, List.length_nil, List.length_append] <;> omega)) (by first | assumption | omega | (simp only [upS, reduceIte, Nat.reduceEqDiff, eq_self, List.length_cons, List.length_nil, List.length_append] <;> omega))) mw0_number ml0_58 [0, 1] [] rfl rfl ⟨rfl, rfl⟩ (by decide) 0 0 rfl rfl rfl ⟨Nat.le_of_ble_eq_true rfl, Nat.le_of_ble_eq_true rfl⟩ rfl (rest := [.int (iZ v12), .int (iZ v8)]) rfl (Nat.le_of_ble_eq_true rfl) d0_single_121 ⟨Nat.le_of_ble_eq_true rfl, Nat.le_of_ble_eq_true rfl⟩ (fun r w1 hr => ?_)
          obtain ⟨v16, at1_17, ft1_18, rfl, rfl, ⟨hq15_0, hq15_1, hq15_2, hq15_3⟩⟩ := hr
          refine j_eq (ws' := [(ra, o0 (some ba) (upS (upS R 2 at1_17) 3 ft1_18)), (ba, aInt E 100 tb)]) rfl rfl rfl ?_
          try simp only [upS, reduceIte, Nat.reduceEqDiff, eq_self] at hq15_0 hq15_1 hq15_2 hq15_3
          have hC := nm_of hq15_0
          have hCr := hq15_1
          have hCs := hq15_2
          have hCv := hq15_3
          clear hq15_0
          refine j_SP G (k0_momentsWith (xl Γ) E v8 v12 v16 (by first | assumption | omega | (simp only [upS, reduceIte, Nat.reduceEqDiff, eq_self, List.length_cons, List.length_nil, List.length_append] <;> omega)) (by first | assumption | omega | (simp only [upS, reduceIte, Nat.reduceEqDiff, eq_self, List.length_cons, List.length_nil, List.length_append] <;> omega)) (by first | assumption | omega | (simp only [upS, reduceIte, Nat.reduceEqDiff, eq_self, List.length_cons, List.length_nil, List.length_append] <;> omega))) mw0_momentsWith ml0_118 [] rfl ⟨Nat.le_of_ble_eq_true rfl, Nat.le_of_ble_eq_true rfl⟩ rfl (rest := []) rfl (Nat.le_of_ble_eq_true rfl) d0_single_124 ⟨Nat.le_of_ble_eq_true rfl, Nat.le_of_ble_eq_true rfl⟩ (fun r hr => ?_)
          obtain ⟨v20, rfl, ⟨hq19_0, hq19_1⟩⟩ := hr
          have hM := hq19_0
          have hMr := hq19_1
          have htst := sg_tst4 hI (by omega) hw.2 h33 h40 hA hBq hC hM
          refine j_istore G d0_single_127 (by decide) rfl ?_
          refine j_iload_n G 3 rfl d0_single_129 ?_
          refine j_if_eq (tgt := 143) G d0_single_130 (by decide) htR (fun h21 => ?_) (fun h21 => ?_)
          ·
            refine j_iload G 0 rfl d0_single_143 ?_
            exact j_iret G F d0_single_145 ⟨v20, at1_17, ft1_18, rfl, rfl, (by first | exact ⟨sg_par hI hlv2 (by omega) hc40 (by omega) he3 (by omega) hT ⟨fun q => by first | rfl | (exfalso; omega), fun q => by first | rfl | (exfalso; omega)⟩, by omega, by omega⟩ | exact ⟨htst _ ⟨fun q => by first | rfl | (exfalso; omega), fun q => by first | rfl | (exfalso; omega)⟩, by omega, by omega⟩)⟩
          ·
            refine j_ldc G 16777215 ct0_121 (by decide) d0_single_133 ?_
            refine j_iload G 0 rfl d0_single_135 ?_
            refine j_iconst G d0_single_137 ?_
            refine r_ixor G d0_single_138 ?_
            refine j_top (y := iZ (((iZ v20) ^^^ (iZ (-1))).toInt)) (iZ_of _).symm ?_
            refine r_iand G d0_single_139 ?_
            refine j_top (y := iZ (((iZ 16777215) &&& (iZ (((iZ v20) ^^^ (iZ (-1))).toInt))).toInt)) (iZ_of _).symm ?_
            refine j_goto (tgt := 145) G d0_single_140 (by decide) ?_
            exact j_iret G F d0_single_145 ⟨((iZ 16777215) &&& (iZ (((iZ v20) ^^^ (iZ (-1))).toInt))).toInt, at1_17, ft1_18, rfl, rfl, (by first | exact ⟨sg_par hI hlv2 (by omega) hc40 (by omega) he3 (by omega) hT ⟨fun q => by first | rfl | (exfalso; omega), fun q => by first | rfl | (exfalso; omega)⟩, by omega, by omega⟩ | exact ⟨htst _ ⟨fun q => by first | rfl | (exfalso; omega), fun q => by first | rfl | (exfalso; omega)⟩, by omega, by omega⟩)⟩
        ·
          refine j_iload_n G 1 rfl d0_single_53 ?_
          refine j_iconst G d0_single_54 ?_
          refine j_icmp_ge (tgt := 91) G d0_single_55 (by decide) hwR (by decide) (fun h22 => ?_) (fun h22 => ?_)
          ·
            have h33 : R 3 < 0 → nx U (R 1) az = 33 → 4 ≤ w := fun q1 q2 => by have z := (hpC 33 (by decide) (by decide)).2 ⟨q1, q2⟩; omega
            have h40 : R 3 < 0 → nx U (R 1) az = 40 → 4 ≤ w := fun q1 q2 => by have z := (hgC 40 (by decide) (by decide)).2 ⟨q1, q2⟩; omega
            refine j_aload_n G 2 rfl d0_single_91 ?_
            refine j_bipush G d0_single_92 rfl ?_
            refine j_bipush G d0_single_94 rfl ?_
            refine j_bipush G d0_single_96 rfl ?_
            refine j_VM G (rm' := { frames := 1, cells := 0, slots := 0, locals := 20 }) (wc := [(ra, o0 (some ba) (upS R 2 az)), (ba, aInt E 100 tb)]) (wr := []) (k0_takeOneOf (xl Γ) E ra ba (upS R 2 az) tb U 115 119 119 (by first | assumption | omega | (simp only [upS, reduceIte, Nat.reduceEqDiff, eq_self, List.length_cons, List.length_nil, List.length_append] <;> omega)) (by first | assumption | omega | (simp only [upS, reduceIte, Nat.reduceEqDiff, eq_self, List.length_cons, List.length_nil, List.length_append] <;> omega)) (by first | assumption | omega | (simp only [upS, reduceIte, Nat.reduceEqDiff, eq_self, List.length_cons, List.length_nil, List.length_append] <;> omega)) (by first | assumption | omega | (simp only [upS, reduceIte, Nat.reduceEqDiff, eq_self, List.length_cons, List.length_nil, List.length_append] <;> omega)) (by first | assumption | omega | (simp only [upS, reduceIte, Nat.reduceEqDiff, eq_self, List.length_cons, List.length_nil, List.length_append] <;> omega))) mw0_takeOneOf ml0_54 [0, 1] [] rfl rfl ⟨rfl, rfl⟩ (by decide) 0 0 rfl rfl rfl ⟨Nat.le_of_ble_eq_true rfl, Nat.le_of_ble_eq_true rfl⟩ rfl (rest := []) rfl (Nat.le_of_ble_eq_true rfl) d0_single_98 ⟨Nat.le_of_ble_eq_true rfl, Nat.le_of_ble_eq_true rfl⟩ (fun r w1 hr => ?_)
            obtain ⟨v24, at1_25, ft1_26, rfl, rfl, ⟨hq23_0, hq23_1, hq23_2, hq23_3⟩⟩ := hr
            refine j_eq (ws' := [(ra, o0 (some ba) (upS (upS R 2 at1_25) 3 ft1_26)), (ba, aInt E 100 tb)]) rfl rfl rfl ?_
            try simp only [upS, reduceIte, Nat.reduceEqDiff, eq_self] at hq23_0 hq23_1 hq23_2 hq23_3
            have hA := tk_of hq23_0
            have hAr := hq23_1
            have hAs := hq23_2
            have hAv := hq23_3
            clear hq23_0
            refine j_istore G d0_single_101 (by decide) rfl ?_
            refine j_aload_n G 3 rfl d0_single_103 ?_
            refine j_bipush G d0_single_104 rfl ?_
            refine j_bipush G d0_single_106 rfl ?_
            refine j_bipush G d0_single_108 rfl ?_
            refine j_VM G (rm' := { frames := 1, cells := 0, slots := 0, locals := 20 }) (wc := [(ra, o0 (some ba) (upS (upS R 2 at1_25) 3 ft1_26)), (ba, aInt E 100 tb)]) (wr := []) (k0_takeOneOf (xl Γ) E ra ba (upS (upS R 2 at1_25) 3 ft1_26) tb U 60 61 62 (by first | assumption | omega | (simp only [upS, reduceIte, Nat.reduceEqDiff, eq_self, List.length_cons, List.length_nil, List.length_append] <;> omega)) (by first | assumption | omega | (simp only [upS, reduceIte, Nat.reduceEqDiff, eq_self, List.length_cons, List.length_nil, List.length_append] <;> omega)) (by first | assumption | omega | (simp only [upS, reduceIte, Nat.reduceEqDiff, eq_self, List.length_cons, List.length_nil, List.length_append] <;> omega)) (by first | assumption | omega | (simp only [upS, reduceIte, Nat.reduceEqDiff, eq_self, List.length_cons, List.length_nil, List.length_append] <;> omega)) (by first | assumption | omega | (simp only [upS, reduceIte, Nat.reduceEqDiff, eq_self, List.length_cons, List.length_nil, List.length_append] <;> omega))) mw0_takeOneOf ml0_54 [0, 1] [] rfl rfl ⟨rfl, rfl⟩ (by decide) 0 0 rfl rfl rfl ⟨Nat.le_of_ble_eq_true rfl, Nat.le_of_ble_eq_true rfl⟩ rfl (rest := []) rfl (Nat.le_of_ble_eq_true rfl) d0_single_110 ⟨Nat.le_of_ble_eq_true rfl, Nat.le_of_ble_eq_true rfl⟩ (fun r w1 hr => ?_)
            obtain ⟨v28, at1_29, ft1_30, rfl, rfl, ⟨hq27_0, hq27_1, hq27_2, hq27_3⟩⟩ := hr
            refine j_eq (ws' := [(ra, o0 (some ba) (upS (upS R 2 at1_29) 3 ft1_30)), (ba, aInt E 100 tb)]) rfl rfl rfl ?_
            try simp only [upS, reduceIte, Nat.reduceEqDiff, eq_self] at hq27_0 hq27_1 hq27_2 hq27_3
            have hBq := tk_of hq27_0
            have hBr := hq27_1
            have hBs := hq27_2
            have hBv := hq27_3
            clear hq27_0
            refine j_istore G d0_single_113 (by decide) rfl ?_
            refine j_iload G 1 rfl d0_single_115 ?_
            refine j_iload G 0 rfl d0_single_117 ?_
            refine j_aload_n G 4 rfl d0_single_119 ?_
            refine j_iconst G d0_single_120 ?_
            refine j_VM G (rm' := { frames := 1, cells := 0, slots := 0, locals := 20 }) (wc := [(ra, o0 (some ba) (upS (upS R 2 at1_29) 3 ft1_30)), (ba, aInt E 100 tb)]) (wr := []) (k0_number (xl Γ) E ra ba (upS (upS R 2 at1_29) 3 ft1_30) tb U 2 (by first | assumption | omega | (simp only [upS, reduceIte, Nat.reduceEqDiff, eq_self, List.length_cons, List.length_nil, List.length_append] <;> omega)) (by first | assumption | omega | (simp only [upS, reduceIte, Nat.reduceEqDiff, eq_self, List.length_cons, List.length_nil, List.length_append] <;> omega)) (by first | assumption | omega | (simp only [upS, reduceIte, Nat.reduceEqDiff, eq_self, List.length_cons, List.length_nil, List.length_append] <;> omega)) (by first | assumption | omega | (simp only [upS, reduceIte, Nat.reduceEqDiff, eq_self, List.length_cons, List.length_nil, List.length_append] <;> omega)) (by first | assumption | omega | (simp only [upS, reduceIte, Nat.reduceEqDiff, eq_self, List.length_cons, List.length_nil, List.length_append] <;> omega))) mw0_number ml0_58 [0, 1] [] rfl rfl ⟨rfl, rfl⟩ (by decide) 0 0 rfl rfl rfl ⟨Nat.le_of_ble_eq_true rfl, Nat.le_of_ble_eq_true rfl⟩ rfl (rest := [.int (iZ v28), .int (iZ v24)]) rfl (Nat.le_of_ble_eq_true rfl) d0_single_121 ⟨Nat.le_of_ble_eq_true rfl, Nat.le_of_ble_eq_true rfl⟩ (fun r w1 hr => ?_)
            obtain ⟨v32, at1_33, ft1_34, rfl, rfl, ⟨hq31_0, hq31_1, hq31_2, hq31_3⟩⟩ := hr
            refine j_eq (ws' := [(ra, o0 (some ba) (upS (upS R 2 at1_33) 3 ft1_34)), (ba, aInt E 100 tb)]) rfl rfl rfl ?_
            try simp only [upS, reduceIte, Nat.reduceEqDiff, eq_self] at hq31_0 hq31_1 hq31_2 hq31_3
            have hC := nm_of hq31_0
            have hCr := hq31_1
            have hCs := hq31_2
            have hCv := hq31_3
            clear hq31_0
            refine j_SP G (k0_momentsWith (xl Γ) E v24 v28 v32 (by first | assumption | omega | (simp only [upS, reduceIte, Nat.reduceEqDiff, eq_self, List.length_cons, List.length_nil, List.length_append] <;> omega)) (by first | assumption | omega | (simp only [upS, reduceIte, Nat.reduceEqDiff, eq_self, List.length_cons, List.length_nil, List.length_append] <;> omega)) (by first | assumption | omega | (simp only [upS, reduceIte, Nat.reduceEqDiff, eq_self, List.length_cons, List.length_nil, List.length_append] <;> omega))) mw0_momentsWith ml0_118 [] rfl ⟨Nat.le_of_ble_eq_true rfl, Nat.le_of_ble_eq_true rfl⟩ rfl (rest := []) rfl (Nat.le_of_ble_eq_true rfl) d0_single_124 ⟨Nat.le_of_ble_eq_true rfl, Nat.le_of_ble_eq_true rfl⟩ (fun r hr => ?_)
            obtain ⟨v36, rfl, ⟨hq35_0, hq35_1⟩⟩ := hr
            have hM := hq35_0
            have hMr := hq35_1
            have htst := sg_tst4 hI (by omega) hw.2 h33 h40 hA hBq hC hM
            refine j_istore G d0_single_127 (by decide) rfl ?_
            refine j_iload_n G 3 rfl d0_single_129 ?_
            refine j_if_eq (tgt := 143) G d0_single_130 (by decide) htR (fun h37 => ?_) (fun h37 => ?_)
            ·
              refine j_iload G 0 rfl d0_single_143 ?_
              exact j_iret G F d0_single_145 ⟨v36, at1_33, ft1_34, rfl, rfl, (by first | exact ⟨sg_par hI hlv2 (by omega) hc40 (by omega) he3 (by omega) hT ⟨fun q => by first | rfl | (exfalso; omega), fun q => by first | rfl | (exfalso; omega)⟩, by omega, by omega⟩ | exact ⟨htst _ ⟨fun q => by first | rfl | (exfalso; omega), fun q => by first | rfl | (exfalso; omega)⟩, by omega, by omega⟩)⟩
            ·
              refine j_ldc G 16777215 ct0_121 (by decide) d0_single_133 ?_
              refine j_iload G 0 rfl d0_single_135 ?_
              refine j_iconst G d0_single_137 ?_
              refine r_ixor G d0_single_138 ?_
              refine j_top (y := iZ (((iZ v36) ^^^ (iZ (-1))).toInt)) (iZ_of _).symm ?_
              refine r_iand G d0_single_139 ?_
              refine j_top (y := iZ (((iZ 16777215) &&& (iZ (((iZ v36) ^^^ (iZ (-1))).toInt))).toInt)) (iZ_of _).symm ?_
              refine j_goto (tgt := 145) G d0_single_140 (by decide) ?_
              exact j_iret G F d0_single_145 ⟨((iZ 16777215) &&& (iZ (((iZ v36) ^^^ (iZ (-1))).toInt))).toInt, at1_33, ft1_34, rfl, rfl, (by first | exact ⟨sg_par hI hlv2 (by omega) hc40 (by omega) he3 (by omega) hT ⟨fun q => by first | rfl | (exfalso; omega), fun q => by first | rfl | (exfalso; omega)⟩, by omega, by omega⟩ | exact ⟨htst _ ⟨fun q => by first | rfl | (exfalso; omega), fun q => by first | rfl | (exfalso; omega)⟩, by omega, by omega⟩)⟩
          ·
            have hlv2 : R 3 < 0 := ((hgC 40 (by decide) (by decide)).1 (by omega)).1
            have hc40 : nx U (R 1) az = 40 := ((hgC 40 (by decide) (by decide)).1 (by omega)).2
            refine j_aload_n G 2 rfl d0_single_58 ?_
            refine j_dup G d0_single_59 rfl ?_
            refine j_get G 0 0 2 in0 fl0_36 d0_single_60 rfl rfl (by decide) (v := .int (iZ az)) rfl rfl ?_
            refine j_iconst G d0_single_63 ?_
            refine j_iadd G d0_single_64 ?_
            refine j_put G 0 0 2 in0 tyok0 nm0 fl0_36 d0_single_65 rfl rfl (by decide) ⟨rfl, rfl⟩ rfl rfl (Nat.le_of_ble_eq_true rfl) (e := o0 (some ba) (upS R 2 (az + 1))) rfl ?_
            refine j_aload_n G 2 rfl d0_single_68 ?_
            refine j_iload_n G 1 rfl d0_single_69 ?_
            refine j_iconst G d0_single_70 ?_
            refine j_iadd G d0_single_71 ?_
            refine j_VM G (rm' := { frames := 13, cells := 0, slots := 0, locals := 302 }) (wc := [(ra, o0 (some ba) (upS R 2 (az + 1))), (ba, aInt E 100 tb)]) (wr := []) (k0_either_1 (xl Γ) E ra ba (upS R 2 (az + 1)) tb U (w + 1) (by first | assumption | omega | (simp only [upS, reduceIte, Nat.reduceEqDiff, eq_self, List.length_cons, List.length_nil, List.length_append] <;> omega)) (by first | assumption | omega | (simp only [upS, reduceIte, Nat.reduceEqDiff, eq_self, List.length_cons, List.length_nil, List.length_append] <;> omega)) (by first | assumption | omega | (simp only [upS, reduceIte, Nat.reduceEqDiff, eq_self, List.length_cons, List.length_nil, List.length_append] <;> omega)) (by first | assumption | omega | (simp only [upS, reduceIte, Nat.reduceEqDiff, eq_self, List.length_cons, List.length_nil, List.length_append] <;> omega)) (by first | assumption | omega | (simp only [upS, reduceIte, Nat.reduceEqDiff, eq_self, List.length_cons, List.length_nil, List.length_append] <;> omega))) mw0_either ml0_68 [0, 1] [] rfl rfl ⟨rfl, rfl⟩ (by decide) 0 0 rfl rfl rfl ⟨Nat.le_of_ble_eq_true rfl, Nat.le_of_ble_eq_true rfl⟩ rfl (rest := []) rfl (Nat.le_of_ble_eq_true rfl) d0_single_72 ⟨Nat.le_of_ble_eq_true rfl, Nat.le_of_ble_eq_true rfl⟩ (fun r w1 hr => ?_)
            obtain ⟨v39, at1_40, ft1_41, rfl, rfl, ⟨hq38_0, hq38_1, hq38_2⟩⟩ := hr
            refine j_eq (ws' := [(ra, o0 (some ba) (upS (upS R 2 at1_40) 3 ft1_41)), (ba, aInt E 100 tb)]) rfl rfl rfl ?_
            try simp only [upS, reduceIte, Nat.reduceEqDiff, eq_self] at hq38_0 hq38_1 hq38_2
            have he3 := hq38_0
            have hr3 := hq38_1
            have hx3 := hq38_2
            refine j_istore G d0_single_75 (by decide) rfl ?_
            refine j_aload_n G 3 rfl d0_single_77 ?_
            refine j_bipush G d0_single_78 rfl ?_
            refine j_bipush G d0_single_80 rfl ?_
            refine j_bipush G d0_single_82 rfl ?_
            refine j_VM G (rm' := { frames := 1, cells := 0, slots := 0, locals := 20 }) (wc := [(ra, o0 (some ba) (upS (upS R 2 at1_40) 3 ft1_41)), (ba, aInt E 100 tb)]) (wr := []) (k0_takeOneOf (xl Γ) E ra ba (upS (upS R 2 at1_40) 3 ft1_41) tb U 41 41 41 (by first | assumption | omega | (simp only [upS, reduceIte, Nat.reduceEqDiff, eq_self, List.length_cons, List.length_nil, List.length_append] <;> omega)) (by first | assumption | omega | (simp only [upS, reduceIte, Nat.reduceEqDiff, eq_self, List.length_cons, List.length_nil, List.length_append] <;> omega)) (by first | assumption | omega | (simp only [upS, reduceIte, Nat.reduceEqDiff, eq_self, List.length_cons, List.length_nil, List.length_append] <;> omega)) (by first | assumption | omega | (simp only [upS, reduceIte, Nat.reduceEqDiff, eq_self, List.length_cons, List.length_nil, List.length_append] <;> omega)) (by first | assumption | omega | (simp only [upS, reduceIte, Nat.reduceEqDiff, eq_self, List.length_cons, List.length_nil, List.length_append] <;> omega))) mw0_takeOneOf ml0_54 [0, 1] [] rfl rfl ⟨rfl, rfl⟩ (by decide) 0 0 rfl rfl rfl ⟨Nat.le_of_ble_eq_true rfl, Nat.le_of_ble_eq_true rfl⟩ rfl (rest := []) rfl (Nat.le_of_ble_eq_true rfl) d0_single_84 ⟨Nat.le_of_ble_eq_true rfl, Nat.le_of_ble_eq_true rfl⟩ (fun r w1 hr => ?_)
            obtain ⟨v43, at1_44, ft1_45, rfl, rfl, ⟨hq42_0, hq42_1, hq42_2, hq42_3⟩⟩ := hr
            refine j_eq (ws' := [(ra, o0 (some ba) (upS (upS R 2 at1_44) 3 ft1_45)), (ba, aInt E 100 tb)]) rfl rfl rfl ?_
            try simp only [upS, reduceIte, Nat.reduceEqDiff, eq_self] at hq42_0 hq42_1 hq42_2 hq42_3
            have hT := tk_of hq42_0
            have hTr := hq42_1
            have hTs := hq42_2
            clear hq42_0
            refine j_pop G d0_single_87 rfl ?_
            refine j_goto (tgt := 129) G d0_single_88 (by decide) ?_
            refine j_iload_n G 1 rfl d0_single_129 ?_
            refine j_if_eq (tgt := 143) G d0_single_130 (by decide) htR (fun h46 => ?_) (fun h46 => ?_)
            ·
              refine j_iload G 0 rfl d0_single_143 ?_
              exact j_iret G F d0_single_145 ⟨v39, at1_44, ft1_45, rfl, rfl, (by first | exact ⟨sg_par hI hlv2 (by omega) hc40 (by omega) he3 (by omega) hT ⟨fun q => by first | rfl | (exfalso; omega), fun q => by first | rfl | (exfalso; omega)⟩, by omega, by omega⟩ | exact ⟨htst _ ⟨fun q => by first | rfl | (exfalso; omega), fun q => by first | rfl | (exfalso; omega)⟩, by omega, by omega⟩)⟩
            ·
              refine j_ldc G 16777215 ct0_121 (by decide) d0_single_133 ?_
              refine j_iload G 0 rfl d0_single_135 ?_
              refine j_iconst G d0_single_137 ?_
              refine r_ixor G d0_single_138 ?_
              refine j_top (y := iZ (((iZ v39) ^^^ (iZ (-1))).toInt)) (iZ_of _).symm ?_
              refine r_iand G d0_single_139 ?_
              refine j_top (y := iZ (((iZ 16777215) &&& (iZ (((iZ v39) ^^^ (iZ (-1))).toInt))).toInt)) (iZ_of _).symm ?_
              refine j_goto (tgt := 145) G d0_single_140 (by decide) ?_
              exact j_iret G F d0_single_145 ⟨((iZ 16777215) &&& (iZ (((iZ v39) ^^^ (iZ (-1))).toInt))).toInt, at1_44, ft1_45, rfl, rfl, (by first | exact ⟨sg_par hI hlv2 (by omega) hc40 (by omega) he3 (by omega) hT ⟨fun q => by first | rfl | (exfalso; omega), fun q => by first | rfl | (exfalso; omega)⟩, by omega, by omega⟩ | exact ⟨htst _ ⟨fun q => by first | rfl | (exfalso; omega), fun q => by first | rfl | (exfalso; omega)⟩, by omega, by omega⟩)⟩
      ·
        refine j_iload_n G 1 rfl d0_single_13 ?_
        refine j_iconst G d0_single_14 ?_
        refine j_icmp_ge (tgt := 44) G d0_single_15 (by decide) hwR (by decide) (fun h47 => ?_) (fun h47 => ?_)
        ·
          refine j_aload_n G 2 rfl d0_single_44 ?_
          refine j_VP G (k0_peek (xl Γ) E ra ba (upS R 2 az) tb U (by first | assumption | omega | (simp only [upS, reduceIte, Nat.reduceEqDiff, eq_self, List.length_cons, List.length_nil, List.length_append] <;> omega)) (by first | assumption | omega | (simp only [upS, reduceIte, Nat.reduceEqDiff, eq_self, List.length_cons, List.length_nil, List.length_append] <;> omega)) (by first | assumption | omega | (simp only [upS, reduceIte, Nat.reduceEqDiff, eq_self, List.length_cons, List.length_nil, List.length_append] <;> omega)) (by first | assumption | omega | (simp only [upS, reduceIte, Nat.reduceEqDiff, eq_self, List.length_cons, List.length_nil, List.length_append] <;> omega))) mw0_peek ml0_32 [0, 1] rfl 0 0 rfl rfl rfl ⟨Nat.le_of_ble_eq_true rfl, Nat.le_of_ble_eq_true rfl⟩ rfl (rest := []) rfl (Nat.le_of_ble_eq_true rfl) d0_single_45 ⟨Nat.le_of_ble_eq_true rfl, Nat.le_of_ble_eq_true rfl⟩ (fun r hr => ?_)
          obtain ⟨v49, rfl, ⟨hq48_0, hq48_1, hq48_2, hq48_3, hq48_4⟩⟩ := hr
          try simp only [upS, reduceIte, Nat.reduceEqDiff, eq_self] at hq48_0 hq48_1 hq48_2 hq48_3 hq48_4
          have hgC := pk_of hq48_0 hq48_1 hq48_2
          have hg2 := hq48_2
          have hg3 := hq48_3
          clear hq48_0 hq48_1 hq48_3 hq48_4
          refine j_bipush G d0_single_48 rfl ?_
          refine j_icmp_ne (tgt := 91) G d0_single_50 (by decide) (r32_pk hg2) (by decide) (fun h50 => ?_) (fun h50 => ?_)
          ·
            have h33 : R 3 < 0 → nx U (R 1) az = 33 → 4 ≤ w := fun q1 q2 => by have z := (hpC 33 (by decide) (by decide)).2 ⟨q1, q2⟩; omega
            have h40 : R 3 < 0 → nx U (R 1) az = 40 → 4 ≤ w := fun q1 q2 => by have z := (hgC 40 (by decide) (by decide)).2 ⟨q1, q2⟩; omega
            refine j_aload_n G 2 rfl d0_single_91 ?_
            refine j_bipush G d0_single_92 rfl ?_
            refine j_bipush G d0_single_94 rfl ?_
            refine j_bipush G d0_single_96 rfl ?_
            refine j_VM G (rm' := { frames := 1, cells := 0, slots := 0, locals := 20 }) (wc := [(ra, o0 (some ba) (upS R 2 az)), (ba, aInt E 100 tb)]) (wr := []) (k0_takeOneOf (xl Γ) E ra ba (upS R 2 az) tb U 115 119 119 (by first | assumption | omega | (simp only [upS, reduceIte, Nat.reduceEqDiff, eq_self, List.length_cons, List.length_nil, List.length_append] <;> omega)) (by first | assumption | omega | (simp only [upS, reduceIte, Nat.reduceEqDiff, eq_self, List.length_cons, List.length_nil, List.length_append] <;> omega)) (by first | assumption | omega | (simp only [upS, reduceIte, Nat.reduceEqDiff, eq_self, List.length_cons, List.length_nil, List.length_append] <;> omega)) (by first | assumption | omega | (simp only [upS, reduceIte, Nat.reduceEqDiff, eq_self, List.length_cons, List.length_nil, List.length_append] <;> omega)) (by first | assumption | omega | (simp only [upS, reduceIte, Nat.reduceEqDiff, eq_self, List.length_cons, List.length_nil, List.length_append] <;> omega))) mw0_takeOneOf ml0_54 [0, 1] [] rfl rfl ⟨rfl, rfl⟩ (by decide) 0 0 rfl rfl rfl ⟨Nat.le_of_ble_eq_true rfl, Nat.le_of_ble_eq_true rfl⟩ rfl (rest := []) rfl (Nat.le_of_ble_eq_true rfl) d0_single_98 ⟨Nat.le_of_ble_eq_true rfl, Nat.le_of_ble_eq_true rfl⟩ (fun r w1 hr => ?_)
            obtain ⟨v52, at1_53, ft1_54, rfl, rfl, ⟨hq51_0, hq51_1, hq51_2, hq51_3⟩⟩ := hr
            refine j_eq (ws' := [(ra, o0 (some ba) (upS (upS R 2 at1_53) 3 ft1_54)), (ba, aInt E 100 tb)]) rfl rfl rfl ?_
            try simp only [upS, reduceIte, Nat.reduceEqDiff, eq_self] at hq51_0 hq51_1 hq51_2 hq51_3
            have hA := tk_of hq51_0
            have hAr := hq51_1
            have hAs := hq51_2
            have hAv := hq51_3
            clear hq51_0
            refine j_istore G d0_single_101 (by decide) rfl ?_
            refine j_aload_n G 3 rfl d0_single_103 ?_
            refine j_bipush G d0_single_104 rfl ?_
            refine j_bipush G d0_single_106 rfl ?_
            refine j_bipush G d0_single_108 rfl ?_
            refine j_VM G (rm' := { frames := 1, cells := 0, slots := 0, locals := 20 }) (wc := [(ra, o0 (some ba) (upS (upS R 2 at1_53) 3 ft1_54)), (ba, aInt E 100 tb)]) (wr := []) (k0_takeOneOf (xl Γ) E ra ba (upS (upS R 2 at1_53) 3 ft1_54) tb U 60 61 62 (by first | assumption | omega | (simp only [upS, reduceIte, Nat.reduceEqDiff, eq_self, List.length_cons, List.length_nil, List.length_append] <;> omega)) (by first | assumption | omega | (simp only [upS, reduceIte, Nat.reduceEqDiff, eq_self, List.length_cons, List.length_nil, List.length_append] <;> omega)) (by first | assumption | omega | (simp only [upS, reduceIte, Nat.reduceEqDiff, eq_self, List.length_cons, List.length_nil, List.length_append] <;> omega)) (by first | assumption | omega | (simp only [upS, reduceIte, Nat.reduceEqDiff, eq_self, List.length_cons, List.length_nil, List.length_append] <;> omega)) (by first | assumption | omega | (simp only [upS, reduceIte, Nat.reduceEqDiff, eq_self, List.length_cons, List.length_nil, List.length_append] <;> omega))) mw0_takeOneOf ml0_54 [0, 1] [] rfl rfl ⟨rfl, rfl⟩ (by decide) 0 0 rfl rfl rfl ⟨Nat.le_of_ble_eq_true rfl, Nat.le_of_ble_eq_true rfl⟩ rfl (rest := []) rfl (Nat.le_of_ble_eq_true rfl) d0_single_110 ⟨Nat.le_of_ble_eq_true rfl, Nat.le_of_ble_eq_true rfl⟩ (fun r w1 hr => ?_)
            obtain ⟨v56, at1_57, ft1_58, rfl, rfl, ⟨hq55_0, hq55_1, hq55_2, hq55_3⟩⟩ := hr
            refine j_eq (ws' := [(ra, o0 (some ba) (upS (upS R 2 at1_57) 3 ft1_58)), (ba, aInt E 100 tb)]) rfl rfl rfl ?_
            try simp only [upS, reduceIte, Nat.reduceEqDiff, eq_self] at hq55_0 hq55_1 hq55_2 hq55_3
            have hBq := tk_of hq55_0
            have hBr := hq55_1
            have hBs := hq55_2
            have hBv := hq55_3
            clear hq55_0
            refine j_istore G d0_single_113 (by decide) rfl ?_
            refine j_iload G 1 rfl d0_single_115 ?_
            refine j_iload G 0 rfl d0_single_117 ?_
            refine j_aload_n G 4 rfl d0_single_119 ?_
            refine j_iconst G d0_single_120 ?_
            refine j_VM G (rm' := { frames := 1, cells := 0, slots := 0, locals := 20 }) (wc := [(ra, o0 (some ba) (upS (upS R 2 at1_57) 3 ft1_58)), (ba, aInt E 100 tb)]) (wr := []) (k0_number (xl Γ) E ra ba (upS (upS R 2 at1_57) 3 ft1_58) tb U 2 (by first | assumption | omega | (simp only [upS, reduceIte, Nat.reduceEqDiff, eq_self, List.length_cons, List.length_nil, List.length_append] <;> omega)) (by first | assumption | omega | (simp only [upS, reduceIte, Nat.reduceEqDiff, eq_self, List.length_cons, List.length_nil, List.length_append] <;> omega)) (by first | assumption | omega | (simp only [upS, reduceIte, Nat.reduceEqDiff, eq_self, List.length_cons, List.length_nil, List.length_append] <;> omega)) (by first | assumption | omega | (simp only [upS, reduceIte, Nat.reduceEqDiff, eq_self, List.length_cons, List.length_nil, List.length_append] <;> omega)) (by first | assumption | omega | (simp only [upS, reduceIte, Nat.reduceEqDiff, eq_self, List.length_cons, List.length_nil, List.length_append] <;> omega))) mw0_number ml0_58 [0, 1] [] rfl rfl ⟨rfl, rfl⟩ (by decide) 0 0 rfl rfl rfl ⟨Nat.le_of_ble_eq_true rfl, Nat.le_of_ble_eq_true rfl⟩ rfl (rest := [.int (iZ v56), .int (iZ v52)]) rfl (Nat.le_of_ble_eq_true rfl) d0_single_121 ⟨Nat.le_of_ble_eq_true rfl, Nat.le_of_ble_eq_true rfl⟩ (fun r w1 hr => ?_)
            obtain ⟨v60, at1_61, ft1_62, rfl, rfl, ⟨hq59_0, hq59_1, hq59_2, hq59_3⟩⟩ := hr
            refine j_eq (ws' := [(ra, o0 (some ba) (upS (upS R 2 at1_61) 3 ft1_62)), (ba, aInt E 100 tb)]) rfl rfl rfl ?_
            try simp only [upS, reduceIte, Nat.reduceEqDiff, eq_self] at hq59_0 hq59_1 hq59_2 hq59_3
            have hC := nm_of hq59_0
            have hCr := hq59_1
            have hCs := hq59_2
            have hCv := hq59_3
            clear hq59_0
            refine j_SP G (k0_momentsWith (xl Γ) E v52 v56 v60 (by first | assumption | omega | (simp only [upS, reduceIte, Nat.reduceEqDiff, eq_self, List.length_cons, List.length_nil, List.length_append] <;> omega)) (by first | assumption | omega | (simp only [upS, reduceIte, Nat.reduceEqDiff, eq_self, List.length_cons, List.length_nil, List.length_append] <;> omega)) (by first | assumption | omega | (simp only [upS, reduceIte, Nat.reduceEqDiff, eq_self, List.length_cons, List.length_nil, List.length_append] <;> omega))) mw0_momentsWith ml0_118 [] rfl ⟨Nat.le_of_ble_eq_true rfl, Nat.le_of_ble_eq_true rfl⟩ rfl (rest := []) rfl (Nat.le_of_ble_eq_true rfl) d0_single_124 ⟨Nat.le_of_ble_eq_true rfl, Nat.le_of_ble_eq_true rfl⟩ (fun r hr => ?_)
            obtain ⟨v64, rfl, ⟨hq63_0, hq63_1⟩⟩ := hr
            have hM := hq63_0
            have hMr := hq63_1
            have htst := sg_tst4 hI (by omega) hw.2 h33 h40 hA hBq hC hM
            refine j_istore G d0_single_127 (by decide) rfl ?_
            refine j_iload_n G 3 rfl d0_single_129 ?_
            refine j_if_eq (tgt := 143) G d0_single_130 (by decide) htR (fun h65 => ?_) (fun h65 => ?_)
            ·
              refine j_iload G 0 rfl d0_single_143 ?_
              exact j_iret G F d0_single_145 ⟨v64, at1_61, ft1_62, rfl, rfl, (by first | exact ⟨sg_par hI hlv2 (by omega) hc40 (by omega) he3 (by omega) hT ⟨fun q => by first | rfl | (exfalso; omega), fun q => by first | rfl | (exfalso; omega)⟩, by omega, by omega⟩ | exact ⟨htst _ ⟨fun q => by first | rfl | (exfalso; omega), fun q => by first | rfl | (exfalso; omega)⟩, by omega, by omega⟩)⟩
            ·
              refine j_ldc G 16777215 ct0_121 (by decide) d0_single_133 ?_
              refine j_iload G 0 rfl d0_single_135 ?_
              refine j_iconst G d0_single_137 ?_
              refine r_ixor G d0_single_138 ?_
              refine j_top (y := iZ (((iZ v64) ^^^ (iZ (-1))).toInt)) (iZ_of _).symm ?_
              refine r_iand G d0_single_139 ?_
              refine j_top (y := iZ (((iZ 16777215) &&& (iZ (((iZ v64) ^^^ (iZ (-1))).toInt))).toInt)) (iZ_of _).symm ?_
              refine j_goto (tgt := 145) G d0_single_140 (by decide) ?_
              exact j_iret G F d0_single_145 ⟨((iZ 16777215) &&& (iZ (((iZ v64) ^^^ (iZ (-1))).toInt))).toInt, at1_61, ft1_62, rfl, rfl, (by first | exact ⟨sg_par hI hlv2 (by omega) hc40 (by omega) he3 (by omega) hT ⟨fun q => by first | rfl | (exfalso; omega), fun q => by first | rfl | (exfalso; omega)⟩, by omega, by omega⟩ | exact ⟨htst _ ⟨fun q => by first | rfl | (exfalso; omega), fun q => by first | rfl | (exfalso; omega)⟩, by omega, by omega⟩)⟩
          ·
            refine j_iload_n G 1 rfl d0_single_53 ?_
            refine j_iconst G d0_single_54 ?_
            refine j_icmp_ge (tgt := 91) G d0_single_55 (by decide) hwR (by decide) (fun h66 => ?_) (fun h66 => ?_)
            ·
              have h33 : R 3 < 0 → nx U (R 1) az = 33 → 4 ≤ w := fun q1 q2 => by have z := (hpC 33 (by decide) (by decide)).2 ⟨q1, q2⟩; omega
              have h40 : R 3 < 0 → nx U (R 1) az = 40 → 4 ≤ w := fun q1 q2 => by have z := (hgC 40 (by decide) (by decide)).2 ⟨q1, q2⟩; omega
              refine j_aload_n G 2 rfl d0_single_91 ?_
              refine j_bipush G d0_single_92 rfl ?_
              refine j_bipush G d0_single_94 rfl ?_
              refine j_bipush G d0_single_96 rfl ?_
              refine j_VM G (rm' := { frames := 1, cells := 0, slots := 0, locals := 20 }) (wc := [(ra, o0 (some ba) (upS R 2 az)), (ba, aInt E 100 tb)]) (wr := []) (k0_takeOneOf (xl Γ) E ra ba (upS R 2 az) tb U 115 119 119 (by first | assumption | omega | (simp only [upS, reduceIte, Nat.reduceEqDiff, eq_self, List.length_cons, List.length_nil, List.length_append] <;> omega)) (by first | assumption | omega | (simp only [upS, reduceIte, Nat.reduceEqDiff, eq_self, List.length_cons, List.length_nil, List.length_append] <;> omega)) (by first | assumption | omega | (simp only [upS, reduceIte, Nat.reduceEqDiff, eq_self, List.length_cons, List.length_nil, List.length_append] <;> omega)) (by first | assumption | omega | (simp only [upS, reduceIte, Nat.reduceEqDiff, eq_self, List.length_cons, List.length_nil, List.length_append] <;> omega)) (by first | assumption | omega | (simp only [upS, reduceIte, Nat.reduceEqDiff, eq_self, List.length_cons, List.length_nil, List.length_append] <;> omega))) mw0_takeOneOf ml0_54 [0, 1] [] rfl rfl ⟨rfl, rfl⟩ (by decide) 0 0 rfl rfl rfl ⟨Nat.le_of_ble_eq_true rfl, Nat.le_of_ble_eq_true rfl⟩ rfl (rest := []) rfl (Nat.le_of_ble_eq_true rfl) d0_single_98 ⟨Nat.le_of_ble_eq_true rfl, Nat.le_of_ble_eq_true rfl⟩ (fun r w1 hr => ?_)
              obtain ⟨v68, at1_69, ft1_70, rfl, rfl, ⟨hq67_0, hq67_1, hq67_2, hq67_3⟩⟩ := hr
              refine j_eq (ws' := [(ra, o0 (some ba) (upS (upS R 2 at1_69) 3 ft1_70)), (ba, aInt E 100 tb)]) rfl rfl rfl ?_
              try simp only [upS, reduceIte, Nat.reduceEqDiff, eq_self] at hq67_0 hq67_1 hq67_2 hq67_3
              have hA := tk_of hq67_0
              have hAr := hq67_1
              have hAs := hq67_2
              have hAv := hq67_3
              clear hq67_0
              refine j_istore G d0_single_101 (by decide) rfl ?_
              refine j_aload_n G 3 rfl d0_single_103 ?_
              refine j_bipush G d0_single_104 rfl ?_
              refine j_bipush G d0_single_106 rfl ?_
              refine j_bipush G d0_single_108 rfl ?_
              refine j_VM G (rm' := { frames := 1, cells := 0, slots := 0, locals := 20 }) (wc := [(ra, o0 (some ba) (upS (upS R 2 at1_69) 3 ft1_70)), (ba, aInt E 100 tb)]) (wr := []) (k0_takeOneOf (xl Γ) E ra ba (upS (upS R 2 at1_69) 3 ft1_70) tb U 60 61 62 (by first | assumption | omega | (simp only [upS, reduceIte, Nat.reduceEqDiff, eq_self, List.length_cons, List.length_nil, List.length_append] <;> omega)) (by first | assumption | omega | (simp only [upS, reduceIte, Nat.reduceEqDiff, eq_self, List.length_cons, List.length_nil, List.length_append] <;> omega)) (by first | assumption | omega | (simp only [upS, reduceIte, Nat.reduceEqDiff, eq_self, List.length_cons, List.length_nil, List.length_append] <;> omega)) (by first | assumption | omega | (simp only [upS, reduceIte, Nat.reduceEqDiff, eq_self, List.length_cons, List.length_nil, List.length_append] <;> omega)) (by first | assumption | omega | (simp only [upS, reduceIte, Nat.reduceEqDiff, eq_self, List.length_cons, List.length_nil, List.length_append] <;> omega))) mw0_takeOneOf ml0_54 [0, 1] [] rfl rfl ⟨rfl, rfl⟩ (by decide) 0 0 rfl rfl rfl ⟨Nat.le_of_ble_eq_true rfl, Nat.le_of_ble_eq_true rfl⟩ rfl (rest := []) rfl (Nat.le_of_ble_eq_true rfl) d0_single_110 ⟨Nat.le_of_ble_eq_true rfl, Nat.le_of_ble_eq_true rfl⟩ (fun r w1 hr => ?_)
              obtain ⟨v72, at1_73, ft1_74, rfl, rfl, ⟨hq71_0, hq71_1, hq71_2, hq71_3⟩⟩ := hr
              refine j_eq (ws' := [(ra, o0 (some ba) (upS (upS R 2 at1_73) 3 ft1_74)), (ba, aInt E 100 tb)]) rfl rfl rfl ?_
              try simp only [upS, reduceIte, Nat.reduceEqDiff, eq_self] at hq71_0 hq71_1 hq71_2 hq71_3
              have hBq := tk_of hq71_0
              have hBr := hq71_1
              have hBs := hq71_2
              have hBv := hq71_3
              clear hq71_0
              refine j_istore G d0_single_113 (by decide) rfl ?_
              refine j_iload G 1 rfl d0_single_115 ?_
              refine j_iload G 0 rfl d0_single_117 ?_
              refine j_aload_n G 4 rfl d0_single_119 ?_
              refine j_iconst G d0_single_120 ?_
              refine j_VM G (rm' := { frames := 1, cells := 0, slots := 0, locals := 20 }) (wc := [(ra, o0 (some ba) (upS (upS R 2 at1_73) 3 ft1_74)), (ba, aInt E 100 tb)]) (wr := []) (k0_number (xl Γ) E ra ba (upS (upS R 2 at1_73) 3 ft1_74) tb U 2 (by first | assumption | omega | (simp only [upS, reduceIte, Nat.reduceEqDiff, eq_self, List.length_cons, List.length_nil, List.length_append] <;> omega)) (by first | assumption | omega | (simp only [upS, reduceIte, Nat.reduceEqDiff, eq_self, List.length_cons, List.length_nil, List.length_append] <;> omega)) (by first | assumption | omega | (simp only [upS, reduceIte, Nat.reduceEqDiff, eq_self, List.length_cons, List.length_nil, List.length_append] <;> omega)) (by first | assumption | omega | (simp only [upS, reduceIte, Nat.reduceEqDiff, eq_self, List.length_cons, List.length_nil, List.length_append] <;> omega)) (by first | assumption | omega | (simp only [upS, reduceIte, Nat.reduceEqDiff, eq_self, List.length_cons, List.length_nil, List.length_append] <;> omega))) mw0_number ml0_58 [0, 1] [] rfl rfl ⟨rfl, rfl⟩ (by decide) 0 0 rfl rfl rfl ⟨Nat.le_of_ble_eq_true rfl, Nat.le_of_ble_eq_true rfl⟩ rfl (rest := [.int (iZ v72), .int (iZ v68)]) rfl (Nat.le_of_ble_eq_true rfl) d0_single_121 ⟨Nat.le_of_ble_eq_true rfl, Nat.le_of_ble_eq_true rfl⟩ (fun r w1 hr => ?_)
              obtain ⟨v76, at1_77, ft1_78, rfl, rfl, ⟨hq75_0, hq75_1, hq75_2, hq75_3⟩⟩ := hr
              refine j_eq (ws' := [(ra, o0 (some ba) (upS (upS R 2 at1_77) 3 ft1_78)), (ba, aInt E 100 tb)]) rfl rfl rfl ?_
              try simp only [upS, reduceIte, Nat.reduceEqDiff, eq_self] at hq75_0 hq75_1 hq75_2 hq75_3
              have hC := nm_of hq75_0
              have hCr := hq75_1
              have hCs := hq75_2
              have hCv := hq75_3
              clear hq75_0
              refine j_SP G (k0_momentsWith (xl Γ) E v68 v72 v76 (by first | assumption | omega | (simp only [upS, reduceIte, Nat.reduceEqDiff, eq_self, List.length_cons, List.length_nil, List.length_append] <;> omega)) (by first | assumption | omega | (simp only [upS, reduceIte, Nat.reduceEqDiff, eq_self, List.length_cons, List.length_nil, List.length_append] <;> omega)) (by first | assumption | omega | (simp only [upS, reduceIte, Nat.reduceEqDiff, eq_self, List.length_cons, List.length_nil, List.length_append] <;> omega))) mw0_momentsWith ml0_118 [] rfl ⟨Nat.le_of_ble_eq_true rfl, Nat.le_of_ble_eq_true rfl⟩ rfl (rest := []) rfl (Nat.le_of_ble_eq_true rfl) d0_single_124 ⟨Nat.le_of_ble_eq_true rfl, Nat.le_of_ble_eq_true rfl⟩ (fun r hr => ?_)
              obtain ⟨v80, rfl, ⟨hq79_0, hq79_1⟩⟩ := hr
              have hM := hq79_0
              have hMr := hq79_1
              have htst := sg_tst4 hI (by omega) hw.2 h33 h40 hA hBq hC hM
              refine j_istore G d0_single_127 (by decide) rfl ?_
              refine j_iload_n G 3 rfl d0_single_129 ?_
              refine j_if_eq (tgt := 143) G d0_single_130 (by decide) htR (fun h81 => ?_) (fun h81 => ?_)
              ·
                refine j_iload G 0 rfl d0_single_143 ?_
                exact j_iret G F d0_single_145 ⟨v80, at1_77, ft1_78, rfl, rfl, (by first | exact ⟨sg_par hI hlv2 (by omega) hc40 (by omega) he3 (by omega) hT ⟨fun q => by first | rfl | (exfalso; omega), fun q => by first | rfl | (exfalso; omega)⟩, by omega, by omega⟩ | exact ⟨htst _ ⟨fun q => by first | rfl | (exfalso; omega), fun q => by first | rfl | (exfalso; omega)⟩, by omega, by omega⟩)⟩
              ·
                refine j_ldc G 16777215 ct0_121 (by decide) d0_single_133 ?_
                refine j_iload G 0 rfl d0_single_135 ?_
                refine j_iconst G d0_single_137 ?_
                refine r_ixor G d0_single_138 ?_
                refine j_top (y := iZ (((iZ v80) ^^^ (iZ (-1))).toInt)) (iZ_of _).symm ?_
                refine r_iand G d0_single_139 ?_
                refine j_top (y := iZ (((iZ 16777215) &&& (iZ (((iZ v80) ^^^ (iZ (-1))).toInt))).toInt)) (iZ_of _).symm ?_
                refine j_goto (tgt := 145) G d0_single_140 (by decide) ?_
                exact j_iret G F d0_single_145 ⟨((iZ 16777215) &&& (iZ (((iZ v80) ^^^ (iZ (-1))).toInt))).toInt, at1_77, ft1_78, rfl, rfl, (by first | exact ⟨sg_par hI hlv2 (by omega) hc40 (by omega) he3 (by omega) hT ⟨fun q => by first | rfl | (exfalso; omega), fun q => by first | rfl | (exfalso; omega)⟩, by omega, by omega⟩ | exact ⟨htst _ ⟨fun q => by first | rfl | (exfalso; omega), fun q => by first | rfl | (exfalso; omega)⟩, by omega, by omega⟩)⟩
            ·
              have hlv2 : R 3 < 0 := ((hgC 40 (by decide) (by decide)).1 (by omega)).1
              have hc40 : nx U (R 1) az = 40 := ((hgC 40 (by decide) (by decide)).1 (by omega)).2
              refine j_aload_n G 2 rfl d0_single_58 ?_
              refine j_dup G d0_single_59 rfl ?_
              refine j_get G 0 0 2 in0 fl0_36 d0_single_60 rfl rfl (by decide) (v := .int (iZ az)) rfl rfl ?_
              refine j_iconst G d0_single_63 ?_
              refine j_iadd G d0_single_64 ?_
              refine j_put G 0 0 2 in0 tyok0 nm0 fl0_36 d0_single_65 rfl rfl (by decide) ⟨rfl, rfl⟩ rfl rfl (Nat.le_of_ble_eq_true rfl) (e := o0 (some ba) (upS R 2 (az + 1))) rfl ?_
              refine j_aload_n G 2 rfl d0_single_68 ?_
              refine j_iload_n G 1 rfl d0_single_69 ?_
              refine j_iconst G d0_single_70 ?_
              refine j_iadd G d0_single_71 ?_
              refine j_VM G (rm' := { frames := 13, cells := 0, slots := 0, locals := 302 }) (wc := [(ra, o0 (some ba) (upS R 2 (az + 1))), (ba, aInt E 100 tb)]) (wr := []) (k0_either_1 (xl Γ) E ra ba (upS R 2 (az + 1)) tb U (w + 1) (by first | assumption | omega | (simp only [upS, reduceIte, Nat.reduceEqDiff, eq_self, List.length_cons, List.length_nil, List.length_append] <;> omega)) (by first | assumption | omega | (simp only [upS, reduceIte, Nat.reduceEqDiff, eq_self, List.length_cons, List.length_nil, List.length_append] <;> omega)) (by first | assumption | omega | (simp only [upS, reduceIte, Nat.reduceEqDiff, eq_self, List.length_cons, List.length_nil, List.length_append] <;> omega)) (by first | assumption | omega | (simp only [upS, reduceIte, Nat.reduceEqDiff, eq_self, List.length_cons, List.length_nil, List.length_append] <;> omega)) (by first | assumption | omega | (simp only [upS, reduceIte, Nat.reduceEqDiff, eq_self, List.length_cons, List.length_nil, List.length_append] <;> omega))) mw0_either ml0_68 [0, 1] [] rfl rfl ⟨rfl, rfl⟩ (by decide) 0 0 rfl rfl rfl ⟨Nat.le_of_ble_eq_true rfl, Nat.le_of_ble_eq_true rfl⟩ rfl (rest := []) rfl (Nat.le_of_ble_eq_true rfl) d0_single_72 ⟨Nat.le_of_ble_eq_true rfl, Nat.le_of_ble_eq_true rfl⟩ (fun r w1 hr => ?_)
              obtain ⟨v83, at1_84, ft1_85, rfl, rfl, ⟨hq82_0, hq82_1, hq82_2⟩⟩ := hr
              refine j_eq (ws' := [(ra, o0 (some ba) (upS (upS R 2 at1_84) 3 ft1_85)), (ba, aInt E 100 tb)]) rfl rfl rfl ?_
              try simp only [upS, reduceIte, Nat.reduceEqDiff, eq_self] at hq82_0 hq82_1 hq82_2
              have he3 := hq82_0
              have hr3 := hq82_1
              have hx3 := hq82_2
              refine j_istore G d0_single_75 (by decide) rfl ?_
              refine j_aload_n G 3 rfl d0_single_77 ?_
              refine j_bipush G d0_single_78 rfl ?_
              refine j_bipush G d0_single_80 rfl ?_
              refine j_bipush G d0_single_82 rfl ?_
              refine j_VM G (rm' := { frames := 1, cells := 0, slots := 0, locals := 20 }) (wc := [(ra, o0 (some ba) (upS (upS R 2 at1_84) 3 ft1_85)), (ba, aInt E 100 tb)]) (wr := []) (k0_takeOneOf (xl Γ) E ra ba (upS (upS R 2 at1_84) 3 ft1_85) tb U 41 41 41 (by first | assumption | omega | (simp only [upS, reduceIte, Nat.reduceEqDiff, eq_self, List.length_cons, List.length_nil, List.length_append] <;> omega)) (by first | assumption | omega | (simp only [upS, reduceIte, Nat.reduceEqDiff, eq_self, List.length_cons, List.length_nil, List.length_append] <;> omega)) (by first | assumption | omega | (simp only [upS, reduceIte, Nat.reduceEqDiff, eq_self, List.length_cons, List.length_nil, List.length_append] <;> omega)) (by first | assumption | omega | (simp only [upS, reduceIte, Nat.reduceEqDiff, eq_self, List.length_cons, List.length_nil, List.length_append] <;> omega)) (by first | assumption | omega | (simp only [upS, reduceIte, Nat.reduceEqDiff, eq_self, List.length_cons, List.length_nil, List.length_append] <;> omega))) mw0_takeOneOf ml0_54 [0, 1] [] rfl rfl ⟨rfl, rfl⟩ (by decide) 0 0 rfl rfl rfl ⟨Nat.le_of_ble_eq_true rfl, Nat.le_of_ble_eq_true rfl⟩ rfl (rest := []) rfl (Nat.le_of_ble_eq_true rfl) d0_single_84 ⟨Nat.le_of_ble_eq_true rfl, Nat.le_of_ble_eq_true rfl⟩ (fun r w1 hr => ?_)
              obtain ⟨v87, at1_88, ft1_89, rfl, rfl, ⟨hq86_0, hq86_1, hq86_2, hq86_3⟩⟩ := hr
              refine j_eq (ws' := [(ra, o0 (some ba) (upS (upS R 2 at1_88) 3 ft1_89)), (ba, aInt E 100 tb)]) rfl rfl rfl ?_
              try simp only [upS, reduceIte, Nat.reduceEqDiff, eq_self] at hq86_0 hq86_1 hq86_2 hq86_3
              have hT := tk_of hq86_0
              have hTr := hq86_1
              have hTs := hq86_2
              clear hq86_0
              refine j_pop G d0_single_87 rfl ?_
              refine j_goto (tgt := 129) G d0_single_88 (by decide) ?_
              refine j_iload_n G 1 rfl d0_single_129 ?_
              refine j_if_eq (tgt := 143) G d0_single_130 (by decide) htR (fun h90 => ?_) (fun h90 => ?_)
              ·
                refine j_iload G 0 rfl d0_single_143 ?_
                exact j_iret G F d0_single_145 ⟨v83, at1_88, ft1_89, rfl, rfl, (by first | exact ⟨sg_par hI hlv2 (by omega) hc40 (by omega) he3 (by omega) hT ⟨fun q => by first | rfl | (exfalso; omega), fun q => by first | rfl | (exfalso; omega)⟩, by omega, by omega⟩ | exact ⟨htst _ ⟨fun q => by first | rfl | (exfalso; omega), fun q => by first | rfl | (exfalso; omega)⟩, by omega, by omega⟩)⟩
              ·
                refine j_ldc G 16777215 ct0_121 (by decide) d0_single_133 ?_
                refine j_iload G 0 rfl d0_single_135 ?_
                refine j_iconst G d0_single_137 ?_
                refine r_ixor G d0_single_138 ?_
                refine j_top (y := iZ (((iZ v83) ^^^ (iZ (-1))).toInt)) (iZ_of _).symm ?_
                refine r_iand G d0_single_139 ?_
                refine j_top (y := iZ (((iZ 16777215) &&& (iZ (((iZ v83) ^^^ (iZ (-1))).toInt))).toInt)) (iZ_of _).symm ?_
                refine j_goto (tgt := 145) G d0_single_140 (by decide) ?_
                exact j_iret G F d0_single_145 ⟨((iZ 16777215) &&& (iZ (((iZ v83) ^^^ (iZ (-1))).toInt))).toInt, at1_88, ft1_89, rfl, rfl, (by first | exact ⟨sg_par hI hlv2 (by omega) hc40 (by omega) he3 (by omega) hT ⟨fun q => by first | rfl | (exfalso; omega), fun q => by first | rfl | (exfalso; omega)⟩, by omega, by omega⟩ | exact ⟨htst _ ⟨fun q => by first | rfl | (exfalso; omega), fun q => by first | rfl | (exfalso; omega)⟩, by omega, by omega⟩)⟩
        ·
          have hlive : R 3 < 0 := ((hpC 33 (by decide) (by decide)).1 (by omega)).1
          have hnc : nx U (R 1) az = 33 := ((hpC 33 (by decide) (by decide)).1 (by omega)).2
          refine j_aload_n G 2 rfl d0_single_18 ?_
          refine j_dup G d0_single_19 rfl ?_
          refine j_get G 0 0 2 in0 fl0_36 d0_single_20 rfl rfl (by decide) (v := .int (iZ az)) rfl rfl ?_
          refine j_iconst G d0_single_23 ?_
          refine j_iadd G d0_single_24 ?_
          refine j_put G 0 0 2 in0 tyok0 nm0 fl0_36 d0_single_25 rfl rfl (by decide) ⟨rfl, rfl⟩ rfl rfl (Nat.le_of_ble_eq_true rfl) (e := o0 (some ba) (upS R 2 (az + 1))) rfl ?_
          refine j_iinc G d0_single_28 1 rfl (by decide) rfl ?_
          refine j_iload_n G 1 rfl d0_single_31 ?_
          have mg32 : ∀ x91 : Int, x91 = (if tn ≠ 0 then 0 else 1) → J E 7 Γ (some A) 0 0 [(ra, o0 (some ba) (upS R 2 (az + 1))), (ba, aInt E 100 tb)] 40 [(2, .int (iZ (w + 1))), (3, .int (iZ tn)), (0, .ref ra), (1, .int (iZ dp))] ([.int (iZ x91)]) := by
            intro x91 ex91
            have hxt : x91 = if tn = 0 then 1 else 0 := by rw [ex91]; (repeat' split) <;> omega
            refine j_istore_n G d0_single_40 (by decide) rfl ?_
            refine j_goto (tgt := 4) G d0_single_41 (by decide) ?_
            exact ih4 (w + 1) x91 (az + 1) (by omega) (by first | assumption | omega) (by first | assumption | omega) (by first | assumption | omega) (by have q := nt_s hI hlive hnc (by omega); rw [← hxt] at q; exact q)
          refine j_if_ne (tgt := 39) G d0_single_32 (by decide) htR (fun h92 => ?_) (fun h92 => ?_)
          ·
            refine j_iconst G d0_single_39 ?_
            refine j_eq (ws' := [(ra, o0 (some ba) (upS R 2 (az + 1))), (ba, aInt E 100 tb)]) (ls' := [(2, .int (iZ (w + 1))), (3, .int (iZ tn)), (0, .ref ra), (1, .int (iZ dp))]) rfl rfl rfl ?_
            exact mg32 _ (by first | rfl | (simp only [*, if_true, if_false, ite_true, ite_false]; done) | (split <;> first | rfl | omega | (split <;> first | rfl | omega | (split <;> first | rfl | omega))))
          ·
            refine j_iconst G d0_single_35 ?_
            refine j_goto (tgt := 40) G d0_single_36 (by decide) ?_
            refine j_eq (ws' := [(ra, o0 (some ba) (upS R 2 (az + 1))), (ba, aInt E 100 tb)]) (ls' := [(2, .int (iZ (w + 1))), (3, .int (iZ tn)), (0, .ref ra), (1, .int (iZ dp))]) rfl rfl rfl ?_
            exact mg32 _ (by first | rfl | (simp only [*, if_true, if_false, ite_true, ite_false]; done) | (split <;> first | rfl | omega | (split <;> first | rfl | omega | (split <;> first | rfl | omega))))
  exact lp4 _ dp 0 (R 2) (Nat.lt_succ_self _) (by first | assumption | omega) (by first | assumption | omega) (by first | assumption | omega) (nt_0 hft.1)
set_option maxHeartbeats 4000000 in
set_option maxRecDepth 100000 in
theorem k0_both_0 (l : Launch) (E : En) (ra : Nat) (ba : Nat) (R : Nat → Int) (tb : Int → Int) (U : Int → Int) (dp : Int) (htb : ∀ j, 0 ≤ j → j < 100 → tb j = U j % 256 ∧ -128 ≤ U j ∧ U j ≤ 127) (hln : 0 ≤ R 1 ∧ R 1 ≤ 100) (hat : 0 ≤ R 2 ∧ R 2 ≤ R 1) (hft : -1 ≤ R 3 ∧ R 3 ≤ 200) (hdp : 0 ≤ dp ∧ dp ≤ 4) : Cm l E y0_both c0_both 3 (some .int) { frames := 15, cells := 0, slots := 0, locals := 350 } [.ref ra, .int (iZ dp)] [(ra, o0 (some ba) R), (ba, aInt E 100 tb)] (fun r ws => ∃ (v : Int), ∃ (at1 : Int), ∃ (ft1 : Int), r = some (.int (iZ v)) ∧ ws = [(ra, o0 (some ba) (upS (upS R 2 at1) 3 ft1)), (ba, aInt E 100 tb)] ∧ (ExS U (R 1) 2 dp (R 2) (R 3) at1 ft1 v ∧ (R 2 ≤ at1 ∧ at1 ≤ R 1) ∧ (-1 ≤ ft1 ∧ ft1 ≤ 200))) := by
  refine Cm.of (by decide +kernel) (Nat.le_of_ble_eq_true rfl) (fun Γ A hl hargs hin G F => ?_)
  subst hl
  refine j_aload_n G 0 rfl d0_both_0 ?_
  refine j_iload_n G 1 rfl d0_both_1 ?_
  refine j_VM G (rm' := { frames := 14, cells := 0, slots := 0, locals := 324 }) (wc := [(ra, o0 (some ba) R), (ba, aInt E 100 tb)]) (wr := []) (k0_single_0 (xl Γ) E ra ba R tb U dp (by first | assumption | omega | (simp only [upS, reduceIte, Nat.reduceEqDiff, eq_self, List.length_cons, List.length_nil, List.length_append] <;> omega)) (by first | assumption | omega | (simp only [upS, reduceIte, Nat.reduceEqDiff, eq_self, List.length_cons, List.length_nil, List.length_append] <;> omega)) (by first | assumption | omega | (simp only [upS, reduceIte, Nat.reduceEqDiff, eq_self, List.length_cons, List.length_nil, List.length_append] <;> omega)) (by first | assumption | omega | (simp only [upS, reduceIte, Nat.reduceEqDiff, eq_self, List.length_cons, List.length_nil, List.length_append] <;> omega)) (by first | assumption | omega | (simp only [upS, reduceIte, Nat.reduceEqDiff, eq_self, List.length_cons, List.length_nil, List.length_append] <;> omega))) mw0_single ml0_115 [0, 1] [] rfl rfl ⟨rfl, rfl⟩ (by decide) 0 0 rfl rfl rfl ⟨Nat.le_of_ble_eq_true rfl, Nat.le_of_ble_eq_true rfl⟩ rfl (rest := []) rfl (Nat.le_of_ble_eq_true rfl) d0_both_2 ⟨Nat.le_of_ble_eq_true rfl, Nat.le_of_ble_eq_true rfl⟩ (fun r w1 hr => ?_)
  obtain ⟨v2, at1_3, ft1_4, rfl, rfl, ⟨hq1_0, hq1_1, hq1_2⟩⟩ := hr
  refine j_eq (ws' := [(ra, o0 (some ba) (upS (upS R 2 at1_3) 3 ft1_4)), (ba, aInt E 100 tb)]) rfl rfl rfl ?_
  have he0 := hq1_0
  have hr0 := hq1_1
  have hx0 := hq1_2
  refine j_istore_n G d0_both_5 (by decide) rfl ?_
  have lp6 : ∀ (fu : Nat) (m : Int) (az : Int) (f : Int), (R 1 - az).toNat < fu → (R 2 ≤ az ∧ az ≤ R 1) → (-1 ≤ f ∧ f ≤ 200) → (LpS U (R 1) 2 dp (R 2) (R 3) az f m) →  J E 3 Γ (some A) 0 0 [(ra, o0 (some ba) (upS (upS R 2 az) 3 f)), (ba, aInt E 100 tb)] 6 [(2, .int (iZ m)), (0, .ref ra), (1, .int (iZ dp))] [] := by
    intro fu
    induction fu with
    | zero =>
      intro m az f hm
      exact absurd hm (Nat.not_lt_zero _)
    | succ fu ih6 =>
      intro m az f hm haz hf hI
      refine j_aload_n G 1 rfl d0_both_6 ?_
      refine j_get G 0 0 2 in0 fl0_36 d0_both_7 rfl rfl (by decide) (v := .int (iZ az)) rfl rfl ?_
      refine j_aload_n G 1 rfl d0_both_10 ?_
      refine j_get G 0 0 1 in0 fl0_25 d0_both_11 rfl rfl (by decide) (v := .int (iZ (R 1))) rfl rfl ?_
      refine j_icmp_ge (tgt := 47) G d0_both_14 (by decide) (by omega) (by omega) (fun h5 => ?_) (fun h5 => ?_)
      ·
        have hend := lp_e hI (fun q => ⟨fun _ => by first | (refine fun z => absurd ((hpC 38 (by decide) (by decide)).2 ⟨q, z⟩) ?_; omega) | (unfold nx; rw [if_neg (by omega)]; decide), fun e => absurd e (by decide)⟩) (by decide)
        refine j_iload_n G 0 rfl d0_both_47 ?_
        exact j_iret G F d0_both_48 ⟨m, az, f, rfl, rfl, (by exact ⟨hend, by omega, by omega⟩)⟩
      ·
        refine j_aload_n G 1 rfl d0_both_17 ?_
        refine j_VP G (k0_peek (xl Γ) E ra ba (upS (upS R 2 az) 3 f) tb U (by first | assumption | omega | (simp only [upS, reduceIte, Nat.reduceEqDiff, eq_self, List.length_cons, List.length_nil, List.length_append] <;> omega)) (by first | assumption | omega | (simp only [upS, reduceIte, Nat.reduceEqDiff, eq_self, List.length_cons, List.length_nil, List.length_append] <;> omega)) (by first | assumption | omega | (simp only [upS, reduceIte, Nat.reduceEqDiff, eq_self, List.length_cons, List.length_nil, List.length_append] <;> omega)) (by first | assumption | omega | (simp only [upS, reduceIte, Nat.reduceEqDiff, eq_self, List.length_cons, List.length_nil, List.length_append] <;> omega))) mw0_peek ml0_32 [0, 1] rfl 0 0 rfl rfl rfl ⟨Nat.le_of_ble_eq_true rfl, Nat.le_of_ble_eq_true rfl⟩ rfl (rest := []) rfl (Nat.le_of_ble_eq_true rfl) d0_both_18 ⟨Nat.le_of_ble_eq_true rfl, Nat.le_of_ble_eq_true rfl⟩ (fun r hr => ?_)
        obtain ⟨v7, rfl, ⟨hq6_0, hq6_1, hq6_2, hq6_3, hq6_4⟩⟩ := hr
        try simp only [upS, reduceIte, Nat.reduceEqDiff, eq_self] at hq6_0 hq6_1 hq6_2 hq6_3 hq6_4
        have hpC := pk_of hq6_0 hq6_1 hq6_2
        have hp2 := hq6_2
        clear hq6_0 hq6_1 hq6_3 hq6_4
        refine j_bipush G d0_both_21 rfl ?_
        refine j_icmp_ne (tgt := 47) G d0_both_23 (by decide) (r32_pk hp2) (by decide) (fun h8 => ?_) (fun h8 => ?_)
        ·
          have hend := lp_e hI (fun q => ⟨fun _ => by first | (refine fun z => absurd ((hpC 38 (by decide) (by decide)).2 ⟨q, z⟩) ?_; omega) | (unfold nx; rw [if_neg (by omega)]; decide), fun e => absurd e (by decide)⟩) (by decide)
          refine j_iload_n G 0 rfl d0_both_47 ?_
          exact j_iret G F d0_both_48 ⟨m, az, f, rfl, rfl, (by exact ⟨hend, by omega, by omega⟩)⟩
        ·
          have hlive : f < 0 := ((hpC 38 (by decide) (by decide)).1 (by omega)).1
          have hnc : nx U (R 1) az = 38 := ((hpC 38 (by decide) (by decide)).1 (by omega)).2
          refine j_aload_n G 1 rfl d0_both_26 ?_
          refine j_dup G d0_both_27 rfl ?_
          refine j_get G 0 0 2 in0 fl0_36 d0_both_28 rfl rfl (by decide) (v := .int (iZ az)) rfl rfl ?_
          refine j_iconst G d0_both_31 ?_
          refine j_iadd G d0_both_32 ?_
          refine j_put G 0 0 2 in0 tyok0 nm0 fl0_36 d0_both_33 rfl rfl (by decide) ⟨rfl, rfl⟩ rfl rfl (Nat.le_of_ble_eq_true rfl) (e := o0 (some ba) (upS (upS R 3 f) 2 (az + 1))) rfl ?_
          refine j_iload_n G 0 rfl d0_both_36 ?_
          refine j_aload_n G 1 rfl d0_both_37 ?_
          refine j_iload_n G 2 rfl d0_both_38 ?_
          refine j_VM G (rm' := { frames := 14, cells := 0, slots := 0, locals := 324 }) (wc := [(ra, o0 (some ba) (upS (upS R 3 f) 2 (az + 1))), (ba, aInt E 100 tb)]) (wr := []) (k0_single_0 (xl Γ) E ra ba (upS (upS R 3 f) 2 (az + 1)) tb U dp (by first | assumption | omega | (simp only [upS, reduceIte, Nat.reduceEqDiff, eq_self, List.length_cons, List.length_nil, List.length_append] <;> omega)) (by first | assumption | omega | (simp only [upS, reduceIte, Nat.reduceEqDiff, eq_self, List.length_cons, List.length_nil, List.length_append] <;> omega)) (by first | assumption | omega | (simp only [upS, reduceIte, Nat.reduceEqDiff, eq_self, List.length_cons, List.length_nil, List.length_append] <;> omega)) (by first | assumption | omega | (simp only [upS, reduceIte, Nat.reduceEqDiff, eq_self, List.length_cons, List.length_nil, List.length_append] <;> omega)) (by first | assumption | omega | (simp only [upS, reduceIte, Nat.reduceEqDiff, eq_self, List.length_cons, List.length_nil, List.length_append] <;> omega))) mw0_single ml0_115 [0, 1] [] rfl rfl ⟨rfl, rfl⟩ (by decide) 0 0 rfl rfl rfl ⟨Nat.le_of_ble_eq_true rfl, Nat.le_of_ble_eq_true rfl⟩ rfl (rest := [.int (iZ m)]) rfl (Nat.le_of_ble_eq_true rfl) d0_both_39 ⟨Nat.le_of_ble_eq_true rfl, Nat.le_of_ble_eq_true rfl⟩ (fun r w1 hr => ?_)
          obtain ⟨v10, at1_11, ft1_12, rfl, rfl, ⟨hq9_0, hq9_1, hq9_2⟩⟩ := hr
          refine j_eq (ws' := [(ra, o0 (some ba) (upS (upS R 2 at1_11) 3 ft1_12)), (ba, aInt E 100 tb)]) rfl rfl rfl ?_
          try simp only [upS, reduceIte, Nat.reduceEqDiff, eq_self] at hq9_0 hq9_1 hq9_2
          have he1 := hq9_0
          have hr1 := hq9_1
          have hx1 := hq9_2
          refine r_iand G d0_both_42 ?_
          refine j_top (y := iZ (((iZ m) &&& (iZ v10)).toInt)) (iZ_of _).symm ?_
          refine j_istore_n G d0_both_43 (by decide) rfl ?_
          refine j_goto (tgt := 6) G d0_both_44 (by decide) ?_
          exact ih6 (((iZ m) &&& (iZ v10)).toInt) at1_11 ft1_12 (by omega) (by first | assumption | omega) (by first | assumption | omega) (lp_and hI hlive hnc he1)
  exact lp6 _ v2 at1_3 ft1_4 (Nat.lt_succ_self _) (by first | assumption | omega) (by first | assumption | omega) (lp_0 (by decide) he0)
set_option maxHeartbeats 4000000 in
set_option maxRecDepth 100000 in
theorem k0_either_0 (l : Launch) (E : En) (ra : Nat) (ba : Nat) (R : Nat → Int) (tb : Int → Int) (U : Int → Int) (dp : Int) (htb : ∀ j, 0 ≤ j → j < 100 → tb j = U j % 256 ∧ -128 ≤ U j ∧ U j ≤ 127) (hln : 0 ≤ R 1 ∧ R 1 ≤ 100) (hat : 0 ≤ R 2 ∧ R 2 ≤ R 1) (hft : -1 ≤ R 3 ∧ R 3 ≤ 200) (hdp : 0 ≤ dp ∧ dp ≤ 4) : Cm l E y0_either c0_either 3 (some .int) { frames := 16, cells := 0, slots := 0, locals := 372 } [.ref ra, .int (iZ dp)] [(ra, o0 (some ba) R), (ba, aInt E 100 tb)] (fun r ws => ∃ (v : Int), ∃ (at1 : Int), ∃ (ft1 : Int), r = some (.int (iZ v)) ∧ ws = [(ra, o0 (some ba) (upS (upS R 2 at1) 3 ft1)), (ba, aInt E 100 tb)] ∧ (ExS U (R 1) 3 dp (R 2) (R 3) at1 ft1 v ∧ (R 2 ≤ at1 ∧ at1 ≤ R 1) ∧ (-1 ≤ ft1 ∧ ft1 ≤ 200))) := by
  refine Cm.of (by decide +kernel) (Nat.le_of_ble_eq_true rfl) (fun Γ A hl hargs hin G F => ?_)
  subst hl
  refine j_aload_n G 0 rfl d0_either_0 ?_
  refine j_iload_n G 1 rfl d0_either_1 ?_
  refine j_VM G (rm' := { frames := 15, cells := 0, slots := 0, locals := 350 }) (wc := [(ra, o0 (some ba) R), (ba, aInt E 100 tb)]) (wr := []) (k0_both_0 (xl Γ) E ra ba R tb U dp (by first | assumption | omega | (simp only [upS, reduceIte, Nat.reduceEqDiff, eq_self, List.length_cons, List.length_nil, List.length_append] <;> omega)) (by first | assumption | omega | (simp only [upS, reduceIte, Nat.reduceEqDiff, eq_self, List.length_cons, List.length_nil, List.length_append] <;> omega)) (by first | assumption | omega | (simp only [upS, reduceIte, Nat.reduceEqDiff, eq_self, List.length_cons, List.length_nil, List.length_append] <;> omega)) (by first | assumption | omega | (simp only [upS, reduceIte, Nat.reduceEqDiff, eq_self, List.length_cons, List.length_nil, List.length_append] <;> omega)) (by first | assumption | omega | (simp only [upS, reduceIte, Nat.reduceEqDiff, eq_self, List.length_cons, List.length_nil, List.length_append] <;> omega))) mw0_both ml0_112 [0, 1] [] rfl rfl ⟨rfl, rfl⟩ (by decide) 0 0 rfl rfl rfl ⟨Nat.le_of_ble_eq_true rfl, Nat.le_of_ble_eq_true rfl⟩ rfl (rest := []) rfl (Nat.le_of_ble_eq_true rfl) d0_either_2 ⟨Nat.le_of_ble_eq_true rfl, Nat.le_of_ble_eq_true rfl⟩ (fun r w1 hr => ?_)
  obtain ⟨v2, at1_3, ft1_4, rfl, rfl, ⟨hq1_0, hq1_1, hq1_2⟩⟩ := hr
  refine j_eq (ws' := [(ra, o0 (some ba) (upS (upS R 2 at1_3) 3 ft1_4)), (ba, aInt E 100 tb)]) rfl rfl rfl ?_
  have he0 := hq1_0
  have hr0 := hq1_1
  have hx0 := hq1_2
  refine j_istore_n G d0_either_5 (by decide) rfl ?_
  have lp6 : ∀ (fu : Nat) (m : Int) (az : Int) (f : Int), (R 1 - az).toNat < fu → (R 2 ≤ az ∧ az ≤ R 1) → (-1 ≤ f ∧ f ≤ 200) → (LpS U (R 1) 3 dp (R 2) (R 3) az f m) →  J E 3 Γ (some A) 0 0 [(ra, o0 (some ba) (upS (upS R 2 az) 3 f)), (ba, aInt E 100 tb)] 6 [(2, .int (iZ m)), (0, .ref ra), (1, .int (iZ dp))] [] := by
    intro fu
    induction fu with
    | zero =>
      intro m az f hm
      exact absurd hm (Nat.not_lt_zero _)
    | succ fu ih6 =>
      intro m az f hm haz hf hI
      refine j_aload_n G 1 rfl d0_either_6 ?_
      refine j_get G 0 0 2 in0 fl0_36 d0_either_7 rfl rfl (by decide) (v := .int (iZ az)) rfl rfl ?_
      refine j_aload_n G 1 rfl d0_either_10 ?_
      refine j_get G 0 0 1 in0 fl0_25 d0_either_11 rfl rfl (by decide) (v := .int (iZ (R 1))) rfl rfl ?_
      refine j_icmp_ge (tgt := 47) G d0_either_14 (by decide) (by omega) (by omega) (fun h5 => ?_) (fun h5 => ?_)
      ·
        have hend := lp_e hI (fun q => ⟨fun e => absurd e (by decide), fun _ => by first | (refine fun z => absurd ((hpC 124 (by decide) (by decide)).2 ⟨q, z⟩) ?_; omega) | (unfold nx; rw [if_neg (by omega)]; decide)⟩) (by decide)
        refine j_iload_n G 0 rfl d0_either_47 ?_
        exact j_iret G F d0_either_48 ⟨m, az, f, rfl, rfl, (by exact ⟨hend, by omega, by omega⟩)⟩
      ·
        refine j_aload_n G 1 rfl d0_either_17 ?_
        refine j_VP G (k0_peek (xl Γ) E ra ba (upS (upS R 2 az) 3 f) tb U (by first | assumption | omega | (simp only [upS, reduceIte, Nat.reduceEqDiff, eq_self, List.length_cons, List.length_nil, List.length_append] <;> omega)) (by first | assumption | omega | (simp only [upS, reduceIte, Nat.reduceEqDiff, eq_self, List.length_cons, List.length_nil, List.length_append] <;> omega)) (by first | assumption | omega | (simp only [upS, reduceIte, Nat.reduceEqDiff, eq_self, List.length_cons, List.length_nil, List.length_append] <;> omega)) (by first | assumption | omega | (simp only [upS, reduceIte, Nat.reduceEqDiff, eq_self, List.length_cons, List.length_nil, List.length_append] <;> omega))) mw0_peek ml0_32 [0, 1] rfl 0 0 rfl rfl rfl ⟨Nat.le_of_ble_eq_true rfl, Nat.le_of_ble_eq_true rfl⟩ rfl (rest := []) rfl (Nat.le_of_ble_eq_true rfl) d0_either_18 ⟨Nat.le_of_ble_eq_true rfl, Nat.le_of_ble_eq_true rfl⟩ (fun r hr => ?_)
        obtain ⟨v7, rfl, ⟨hq6_0, hq6_1, hq6_2, hq6_3, hq6_4⟩⟩ := hr
        try simp only [upS, reduceIte, Nat.reduceEqDiff, eq_self] at hq6_0 hq6_1 hq6_2 hq6_3 hq6_4
        have hpC := pk_of hq6_0 hq6_1 hq6_2
        have hp2 := hq6_2
        clear hq6_0 hq6_1 hq6_3 hq6_4
        refine j_bipush G d0_either_21 rfl ?_
        refine j_icmp_ne (tgt := 47) G d0_either_23 (by decide) (r32_pk hp2) (by decide) (fun h8 => ?_) (fun h8 => ?_)
        ·
          have hend := lp_e hI (fun q => ⟨fun e => absurd e (by decide), fun _ => by first | (refine fun z => absurd ((hpC 124 (by decide) (by decide)).2 ⟨q, z⟩) ?_; omega) | (unfold nx; rw [if_neg (by omega)]; decide)⟩) (by decide)
          refine j_iload_n G 0 rfl d0_either_47 ?_
          exact j_iret G F d0_either_48 ⟨m, az, f, rfl, rfl, (by exact ⟨hend, by omega, by omega⟩)⟩
        ·
          have hlive : f < 0 := ((hpC 124 (by decide) (by decide)).1 (by omega)).1
          have hnc : nx U (R 1) az = 124 := ((hpC 124 (by decide) (by decide)).1 (by omega)).2
          refine j_aload_n G 1 rfl d0_either_26 ?_
          refine j_dup G d0_either_27 rfl ?_
          refine j_get G 0 0 2 in0 fl0_36 d0_either_28 rfl rfl (by decide) (v := .int (iZ az)) rfl rfl ?_
          refine j_iconst G d0_either_31 ?_
          refine j_iadd G d0_either_32 ?_
          refine j_put G 0 0 2 in0 tyok0 nm0 fl0_36 d0_either_33 rfl rfl (by decide) ⟨rfl, rfl⟩ rfl rfl (Nat.le_of_ble_eq_true rfl) (e := o0 (some ba) (upS (upS R 3 f) 2 (az + 1))) rfl ?_
          refine j_iload_n G 0 rfl d0_either_36 ?_
          refine j_aload_n G 1 rfl d0_either_37 ?_
          refine j_iload_n G 2 rfl d0_either_38 ?_
          refine j_VM G (rm' := { frames := 15, cells := 0, slots := 0, locals := 350 }) (wc := [(ra, o0 (some ba) (upS (upS R 3 f) 2 (az + 1))), (ba, aInt E 100 tb)]) (wr := []) (k0_both_0 (xl Γ) E ra ba (upS (upS R 3 f) 2 (az + 1)) tb U dp (by first | assumption | omega | (simp only [upS, reduceIte, Nat.reduceEqDiff, eq_self, List.length_cons, List.length_nil, List.length_append] <;> omega)) (by first | assumption | omega | (simp only [upS, reduceIte, Nat.reduceEqDiff, eq_self, List.length_cons, List.length_nil, List.length_append] <;> omega)) (by first | assumption | omega | (simp only [upS, reduceIte, Nat.reduceEqDiff, eq_self, List.length_cons, List.length_nil, List.length_append] <;> omega)) (by first | assumption | omega | (simp only [upS, reduceIte, Nat.reduceEqDiff, eq_self, List.length_cons, List.length_nil, List.length_append] <;> omega)) (by first | assumption | omega | (simp only [upS, reduceIte, Nat.reduceEqDiff, eq_self, List.length_cons, List.length_nil, List.length_append] <;> omega))) mw0_both ml0_112 [0, 1] [] rfl rfl ⟨rfl, rfl⟩ (by decide) 0 0 rfl rfl rfl ⟨Nat.le_of_ble_eq_true rfl, Nat.le_of_ble_eq_true rfl⟩ rfl (rest := [.int (iZ m)]) rfl (Nat.le_of_ble_eq_true rfl) d0_either_39 ⟨Nat.le_of_ble_eq_true rfl, Nat.le_of_ble_eq_true rfl⟩ (fun r w1 hr => ?_)
          obtain ⟨v10, at1_11, ft1_12, rfl, rfl, ⟨hq9_0, hq9_1, hq9_2⟩⟩ := hr
          refine j_eq (ws' := [(ra, o0 (some ba) (upS (upS R 2 at1_11) 3 ft1_12)), (ba, aInt E 100 tb)]) rfl rfl rfl ?_
          try simp only [upS, reduceIte, Nat.reduceEqDiff, eq_self] at hq9_0 hq9_1 hq9_2
          have he1 := hq9_0
          have hr1 := hq9_1
          have hx1 := hq9_2
          refine r_ior G d0_either_42 ?_
          refine j_top (y := iZ (((iZ m) ||| (iZ v10)).toInt)) (iZ_of _).symm ?_
          refine j_istore_n G d0_either_43 (by decide) rfl ?_
          refine j_goto (tgt := 6) G d0_either_44 (by decide) ?_
          exact ih6 (((iZ m) ||| (iZ v10)).toInt) at1_11 ft1_12 (by omega) (by first | assumption | omega) (by first | assumption | omega) (lp_or hI hlive hnc he1)
  exact lp6 _ v2 at1_3 ft1_4 (Nat.lt_succ_self _) (by first | assumption | omega) (by first | assumption | omega) (lp_0 (by decide) he0)
