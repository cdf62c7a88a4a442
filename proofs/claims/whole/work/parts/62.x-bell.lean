theorem d9_bell_0 : decode c9_bell 0 = .ok (.aload_n 0, 1) := by decide +kernel
theorem d9_bell_1 : decode c9_bell 1 = .ok (.invokevirtual 107, 3) := by decide +kernel
theorem d9_bell_4 : decode c9_bell 4 = .ok (.astore_n 1, 1) := by decide +kernel
theorem d9_bell_5 : decode c9_bell 5 = .ok (.aload_n 1, 1) := by decide +kernel
theorem d9_bell_6 : decode c9_bell 6 = .ok (.ifnonnull 5, 3) := by decide +kernel
theorem d9_bell_9 : decode c9_bell 9 = .ok (.iconst (-1), 1) := by decide +kernel
theorem d9_bell_10 : decode c9_bell 10 = .ok (.ireturn, 1) := by decide +kernel
theorem mw9_bell : MV y9_bell c9_bell 5 (some .int) 0 := ⟨cd9_bell, ini9, na9_bell, im9_bell, se9_bell⟩
set_option maxHeartbeats 4000000 in
set_option maxRecDepth 100000 in
theorem k9_belln (l : Launch) (E : En) (xo : Nat) (xa : Nat → Nat) (X : Nat → Int) (U : Nat → Int) (hu3 : U 3 < 0) (hu4 : -100 ≤ U 3) : Cp l E y9_bell c9_bell 5 (some .int) 1 21 [.ref xo] [(xo, xO xa X), (xa 6, o5 (some (xa 20)) (some (xa 21)) (some (xa 22)) (some (xa 23)) U)] (fun r => ∃ (v : Int), r = some (.int (iZ v)) ∧ (v = -1)) := by
  refine Cp.of (by decide +kernel) (Nat.le_of_ble_eq_true rfl) (fun Γ hl hargs G F => ?_)
  subst hl
  refine j_aload_n G 0 rfl d9_bell_0 ?_
  refine j_VP G (k9_theCliffn (xl Γ) E xo xa X U (by first | assumption | omega | (simp only [upS, reduceIte, Nat.reduceEqDiff, eq_self, List.length_cons, List.length_nil, List.length_append] <;> omega)) (by first | assumption | omega | (simp only [upS, reduceIte, Nat.reduceEqDiff, eq_self, List.length_cons, List.length_nil, List.length_append] <;> omega))) mw9_theCliff ml9_107 [0, 1] rfl 0 9 rfl rfl rfl ⟨Nat.le_of_ble_eq_true rfl, Nat.le_of_ble_eq_true rfl⟩ rfl (rest := []) rfl (Nat.le_of_ble_eq_true rfl) d9_bell_1 ⟨Nat.le_of_ble_eq_true rfl, Nat.le_of_ble_eq_true rfl⟩ (fun r hr => ?_)
  obtain ⟨rfl, hq1⟩ := hr
  refine j_astore_nN G d9_bell_4 (by decide) rfl ?_
  refine j_aload_nN G 0 rfl d9_bell_5 ?_
  refine j_ifnonnullN G d9_bell_6 ?_
  refine j_iconst G d9_bell_9 ?_
  exact j_iret G F d9_bell_10 ⟨(-1), rfl, (by first | rfl | omega)⟩
theorem d9_bell_11 : decode c9_bell 11 = .ok (.aload_n 0, 1) := by decide +kernel
theorem d9_bell_12 : decode c9_bell 12 = .ok (.getfield 60, 3) := by decide +kernel
theorem d9_bell_15 : decode c9_bell 15 = .ok (.aload_n 1, 1) := by decide +kernel
theorem d9_bell_16 : decode c9_bell 16 = .ok (.aload_n 0, 1) := by decide +kernel
theorem d9_bell_17 : decode c9_bell 17 = .ok (.getfield 30, 3) := by decide +kernel
theorem d9_bell_20 : decode c9_bell 20 = .ok (.invokevirtual 197, 3) := by decide +kernel
theorem d9_bell_23 : decode c9_bell 23 = .ok (.iconst (-1), 1) := by decide +kernel
theorem d9_bell_24 : decode c9_bell 24 = .ok (.istore_n 2, 1) := by decide +kernel
theorem d9_bell_25 : decode c9_bell 25 = .ok (.iconst 0, 1) := by decide +kernel
theorem d9_bell_26 : decode c9_bell 26 = .ok (.istore_n 3, 1) := by decide +kernel
theorem d9_bell_27 : decode c9_bell 27 = .ok (.iconst 0, 1) := by decide +kernel
theorem d9_bell_28 : decode c9_bell 28 = .ok (.istore 4, 2) := by decide +kernel
theorem d9_bell_30 : decode c9_bell 30 = .ok (.iload 4, 2) := by decide +kernel
theorem d9_bell_32 : decode c9_bell 32 = .ok (.bipush 11, 2) := by decide +kernel
theorem d9_bell_34 : decode c9_bell 34 = .ok (.if_icmp .gt 61, 3) := by decide +kernel
theorem d9_bell_37 : decode c9_bell 37 = .ok (.aload_n 0, 1) := by decide +kernel
theorem d9_bell_38 : decode c9_bell 38 = .ok (.getfield 78, 3) := by decide +kernel
theorem d9_bell_41 : decode c9_bell 41 = .ok (.new 21, 3) := by decide +kernel
theorem d9_bell_44 : decode c9_bell 44 = .ok (.dup, 1) := by decide +kernel
theorem d9_bell_45 : decode c9_bell 45 = .ok (.iconst 2, 1) := by decide +kernel
theorem d9_bell_46 : decode c9_bell 46 = .ok (.iload 4, 2) := by decide +kernel
theorem d9_bell_48 : decode c9_bell 48 = .ok (.iconst 0, 1) := by decide +kernel
theorem d9_bell_49 : decode c9_bell 49 = .ok (.invokespecial 50, 3) := by decide +kernel
theorem d9_bell_52 : decode c9_bell 52 = .ok (.aload_n 0, 1) := by decide +kernel
theorem d9_bell_53 : decode c9_bell 53 = .ok (.getfield 30, 3) := by decide +kernel
theorem d9_bell_56 : decode c9_bell 56 = .ok (.getfield 175, 3) := by decide +kernel
theorem d9_bell_59 : decode c9_bell 59 = .ok (.invokevirtual 201, 3) := by decide +kernel
theorem d9_bell_62 : decode c9_bell 62 = .ok (.iload_n 2, 1) := by decide +kernel
theorem d9_bell_63 : decode c9_bell 63 = .ok (.iconst (-1), 1) := by decide +kernel
theorem d9_bell_64 : decode c9_bell 64 = .ok (.if_icmp .eq 14, 3) := by decide +kernel
theorem d9_bell_67 : decode c9_bell 67 = .ok (.aload_n 0, 1) := by decide +kernel
theorem d9_bell_68 : decode c9_bell 68 = .ok (.getfield 78, 3) := by decide +kernel
theorem d9_bell_71 : decode c9_bell 71 = .ok (.invokevirtual 241, 3) := by decide +kernel
theorem d9_bell_74 : decode c9_bell 74 = .ok (.iload_n 3, 1) := by decide +kernel
theorem d9_bell_75 : decode c9_bell 75 = .ok (.if_icmp .le 14, 3) := by decide +kernel
theorem d9_bell_78 : decode c9_bell 78 = .ok (.iload 4, 2) := by decide +kernel
theorem d9_bell_80 : decode c9_bell 80 = .ok (.istore_n 2, 1) := by decide +kernel
theorem d9_bell_81 : decode c9_bell 81 = .ok (.aload_n 0, 1) := by decide +kernel
theorem d9_bell_82 : decode c9_bell 82 = .ok (.getfield 78, 3) := by decide +kernel
theorem d9_bell_85 : decode c9_bell 85 = .ok (.invokevirtual 241, 3) := by decide +kernel
theorem d9_bell_88 : decode c9_bell 88 = .ok (.istore_n 3, 1) := by decide +kernel
theorem d9_bell_89 : decode c9_bell 89 = .ok (.iinc 4 1, 3) := by decide +kernel
theorem d9_bell_92 : decode c9_bell 92 = .ok (.goto (-62), 3) := by decide +kernel
theorem d9_bell_95 : decode c9_bell 95 = .ok (.iload_n 2, 1) := by decide +kernel
theorem d9_bell_96 : decode c9_bell 96 = .ok (.ireturn, 1) := by decide +kernel
set_option maxHeartbeats 4000000 in
set_option maxRecDepth 100000 in
theorem k9_bellc (l : Launch) (E : En) (xo : Nat) (xa : Nat → Nat) (X : Nat → Int) (U : Nat → Int) (ck : Nat → Option Nat) (ca : Nat) (pa : Nat) (da : Nat) (sa : Nat) (C : Nat → Int) (P : Int → Int) (dr : Int → Int) (sr : Int → Int) (r0 : Option Nat) (T : Nat → Int) (Q : Nat → Int) (Y : Nat → Int) (cx : Int → Int) (kn : Int → Int) (pn : Int → Int) (co : Int → Int) (D : Int → Int) (W : Int → Int) (hu3 : 0 ≤ U 3 ∧ U 3 < X 3 ∧ X 3 ≤ 4) (hck : ck (U 3).toNat = some ca) (hwf : wfC C P) (hU1 : U 1 = 0 ∨ U 1 = 1) (hdr : ∀ j, 0 ≤ j → j < 24 → (0 ≤ dr j ∧ dr j ≤ 11988)) (hco : ∀ j, 0 ≤ j → j < 24 → 0 ≤ co j ∧ co j ≤ 6) (hDW : ∀ s, 0 ≤ s → s ≤ 11 → dr (12 * U 1 + s) = D s ∧ sr (12 * U 1 + s) = W s ∧ (0 ≤ D s ∧ D s ≤ 11988) ∧ (0 ≤ W s ∧ W s ≤ 11988)) (hkb : KnB (Q 2) kn) (hed : Q 2 < 90000000) (hu2 : 0 ≤ U 2 ∧ U 2 ≤ 40) : Cm l E y9_bell c9_bell 5 (some .int) { frames := 29, cells := 24, slots := 60, locals := 802 } [.ref xo] [(xo, xO xa X), (xa 6, o5 (some (xa 20)) (some (xa 21)) (some (xa 22)) (some (xa 23)) U), (xa 2, aRef E 3 4 ck), (ca, o1 (some pa) (some da) (some sa) C), (pa, aInt E 5 P), (da, aInt E 24 dr), (sa, aInt E 24 sr), (xa 20, aInt E 24 co), (xa 12, o7 r0 (some (xa 30)) T), (xa 30, aInt E 24 cx), (xa 13, o3 (some (xa 12)) (some (xa 31)) Q), (xa 31, aLng E 39852 kn), (xa 14, o2 (some (xa 12)) (some (xa 13)) (some (xa 32)) Y), (xa 32, aInt E 12 pn)] (fun r ws => ∃ (v : Int), ∃ (T1 : Nat → Int), ∃ (r1 : Option Nat), ∃ (Y1 : Nat → Int), ∃ (cx1 : Int → Int), ∃ (kn1 : Int → Int), ∃ (pn1 : Int → Int), ∃ (q1 : Int), ∃ (q2 : Int), r = some (.int (iZ v)) ∧ ws = [(xo, xO xa X), (xa 6, o5 (some (xa 20)) (some (xa 21)) (some (xa 22)) (some (xa 23)) U), (xa 2, aRef E 3 4 ck), (ca, o1 (some pa) (some da) (some sa) C), (pa, aInt E 5 P), (da, aInt E 24 dr), (sa, aInt E 24 sr), (xa 20, aInt E 24 co), (xa 12, o7 r1 (some (xa 30)) T1), (xa 30, aInt E 24 cx1), (xa 13, o3 (some (xa 12)) (some (xa 31)) (upS (upS Q 1 q1) 2 q2)), (xa 31, aLng E 39852 kn1), (xa 14, o2 (some (xa 12)) (some (xa 13)) (some (xa 32)) Y1), (xa 32, aInt E 12 pn1)] ∧ (v = beF (kB C P D W co 1) (81 * U 2) 12 0 0 (-1) ∧ (KnB q2 kn1 ∧ q2 ≤ Q 2 + 20))) := by
  refine Cm.of (by decide +kernel) (Nat.le_of_ble_eq_true rfl) (fun Γ A hl hargs hin G F => ?_)
  subst hl
  have hw5 := hwf.2.2.2.2.2.1
  have hw6 := hwf.2.2.2.2.2.2.1
  have hw7 := hwf.2.2.2.2.2.2.2
  refine j_aload_n G 0 rfl d9_bell_0 ?_
  refine j_VP G (k9_theCliffc (xl Γ) E xo xa X U ck ca (by first | assumption | omega | (simp only [upS, reduceIte, Nat.reduceEqDiff, eq_self, List.length_cons, List.length_nil, List.length_append] <;> omega)) (by first | assumption | omega | (simp only [upS, reduceIte, Nat.reduceEqDiff, eq_self, List.length_cons, List.length_nil, List.length_append] <;> omega))) mw9_theCliff ml9_107 [0, 1, 2] rfl 0 9 rfl rfl rfl ⟨Nat.le_of_ble_eq_true rfl, Nat.le_of_ble_eq_true rfl⟩ rfl (rest := []) rfl (Nat.le_of_ble_eq_true rfl) d9_bell_1 ⟨Nat.le_of_ble_eq_true rfl, Nat.le_of_ble_eq_true rfl⟩ (fun r hr => ?_)
  obtain ⟨rfl, hq1⟩ := hr
  refine j_astore_n G d9_bell_4 (by decide) rfl ?_
  refine j_aload_n G 0 rfl d9_bell_5 ?_
  refine j_ifnonnull (tgt := 11) G d9_bell_6 (by decide) ?_
  refine j_aload_n G 1 rfl d9_bell_11 ?_
  refine j_get G 0 9 12 in9 fl9_60 d9_bell_12 rfl rfl (by decide) (v := .ref (xa 12)) rfl rfl ?_
  refine j_aload_n G 0 rfl d9_bell_15 ?_
  refine j_aload_n G 1 rfl d9_bell_16 ?_
  refine j_get G 0 9 6 in9 fl9_30 d9_bell_17 rfl rfl (by decide) (v := .ref (xa 6)) rfl rfl ?_
  refine j_VM G (rm' := { frames := 1, cells := 0, slots := 0, locals := 60 }) (wc := [(xa 12, o7 r0 (some (xa 30)) T), (xa 30, aInt E 24 cx), (ca, o1 (some pa) (some da) (some sa) C), (pa, aInt E 5 P), (xa 6, o5 (some (xa 20)) (some (xa 21)) (some (xa 22)) (some (xa 23)) U), (xa 20, aInt E 24 co)]) (wr := [(xo, xO xa X), (xa 2, aRef E 3 4 ck), (da, aInt E 24 dr), (sa, aInt E 24 sr), (xa 13, o3 (some (xa 12)) (some (xa 31)) Q), (xa 31, aLng E 39852 kn), (xa 14, o2 (some (xa 12)) (some (xa 13)) (some (xa 32)) Y), (xa 32, aInt E 12 pn)]) (k7_setTo (xl Γ) E (xa 12) (xa 30) r0 T ca pa da sa C P (xa 6) (xa 20) (xa 21) (xa 22) (xa 23) U co cx (by first | assumption | omega | (simp only [upS, reduceIte, Nat.reduceEqDiff, eq_self, List.length_cons, List.length_nil, List.length_append] <;> omega))) mw7_setTo ml9_197 [8, 9, 3, 4, 1, 7] [0, 2, 5, 6, 10, 11, 12, 13] rfl rfl ⟨rfl, rfl⟩ (by decide) 8 7 rfl rfl rfl ⟨Nat.le_of_ble_eq_true rfl, Nat.le_of_ble_eq_true rfl⟩ rfl (rest := []) rfl (Nat.le_of_ble_eq_true rfl) d9_bell_20 ⟨Nat.le_of_ble_eq_true rfl, Nat.le_of_ble_eq_true rfl⟩ (fun r w1 hr => ?_)
  obtain ⟨t1_3, rfl, rfl, hq2⟩ := hr
  refine j_eq (ws' := [(xo, xO xa X), (xa 2, aRef E 3 4 ck), (da, aInt E 24 dr), (sa, aInt E 24 sr), (xa 13, o3 (some (xa 12)) (some (xa 31)) Q), (xa 31, aLng E 39852 kn), (xa 14, o2 (some (xa 12)) (some (xa 13)) (some (xa 32)) Y), (xa 32, aInt E 12 pn), (xa 12, o7 (some ca) (some (xa 30)) (upS (upS (upS (upS (upS T 1 t1_3) 3 (C 5)) 4 (C 6)) 5 (C 7)) 6 0)), (xa 30, aInt E 24 co), (ca, o1 (some pa) (some da) (some sa) C), (pa, aInt E 5 P), (xa 6, o5 (some (xa 20)) (some (xa 21)) (some (xa 22)) (some (xa 23)) U), (xa 20, aInt E 24 co)]) rfl rfl rfl ?_
  have ht1 := hq2
  refine j_iconst G d9_bell_23 ?_
  refine j_istore_n G d9_bell_24 (by decide) rfl ?_
  refine j_iconst G d9_bell_25 ?_
  refine j_istore_n G d9_bell_26 (by decide) rfl ?_
  refine j_iconst G d9_bell_27 ?_
  refine j_istore G d9_bell_28 (by decide) rfl ?_
  have lpB12 : ∀ (bst : Int) (w0 : Int) (Y2 : Nat → Int) (kn2 : Int → Int) (pn2 : Int → Int) (q1 : Int) (q2 : Int), ((0 ≤ bst ∧ bst ≤ 11) ∧ (0 ≤ w0 ∧ w0 ≤ 8000)) → (KnB q2 kn2 ∧ q2 ≤ Q 2 + 12 ∧ Q 2 ≤ q2) → (beF (kB C P D W co 1) (81 * U 2) 12 0 0 (-1) = beF (kB C P D W co 1) (81 * U 2) 0 12 bst w0) →  J E 5 Γ (some A) 24 60 [(xo, xO xa X), (xa 2, aRef E 3 4 ck), (da, aInt E 24 dr), (sa, aInt E 24 sr), (xa 13, o3 (some (xa 12)) (some (xa 31)) (upS (upS Q 1 q1) 2 q2)), (xa 31, aLng E 39852 kn2), (xa 14, o2 (some (xa 12)) (some (xa 13)) (some (xa 32)) Y2), (xa 32, aInt E 12 pn2), (xa 12, o7 (some ca) (some (xa 30)) (upS (upS (upS (upS (upS T 1 t1_3) 3 (C 5)) 4 (C 6)) 5 (C 7)) 6 0)), (xa 30, aInt E 24 co), (ca, o1 (some pa) (some da) (some sa) C), (pa, aInt E 5 P), (xa 6, o5 (some (xa 20)) (some (xa 21)) (some (xa 22)) (some (xa 23)) U), (xa 20, aInt E 24 co)] 30 [(4, .int (iZ 12)), (3, .int (iZ w0)), (2, .int (iZ bst)), (1, .ref ca), (0, .ref xo)] [] := by
    intro bst w0 Y2 kn2 pn2 q1 q2 hw0 hkn2 hw
    refine j_iload G 0 rfl d9_bell_30 ?_
    refine j_bipush G d9_bell_32 rfl ?_
    refine j_icmp_gt (tgt := 95) G d9_bell_34 (by decide) (by decide) (by decide) (fun h4 => ?_) (fun h4 => absurd h4 (by decide))
    refine j_iload_n G 2 rfl d9_bell_95 ?_
    refine j_perm (ws' := [(xo, xO xa X), (xa 6, o5 (some (xa 20)) (some (xa 21)) (some (xa 22)) (some (xa 23)) U), (xa 2, aRef E 3 4 ck), (ca, o1 (some pa) (some da) (some sa) C), (pa, aInt E 5 P), (da, aInt E 24 dr), (sa, aInt E 24 sr), (xa 20, aInt E 24 co), (xa 12, o7 (some ca) (some (xa 30)) (upS (upS (upS (upS (upS T 1 t1_3) 3 (C 5)) 4 (C 6)) 5 (C 7)) 6 0)), (xa 30, aInt E 24 co), (xa 13, o3 (some (xa 12)) (some (xa 31)) (upS (upS Q 1 q1) 2 q2)), (xa 31, aLng E 39852 kn2), (xa 14, o2 (some (xa 12)) (some (xa 13)) (some (xa 32)) Y2), (xa 32, aInt E 12 pn2)]) [0, 12, 1, 10, 11, 2, 3, 13, 8, 9, 4, 5, 6, 7] rfl rfl rfl ?_
    refine j_widen (k' := 24) (n' := 60) ⟨Nat.le_of_ble_eq_true rfl, Nat.le_of_ble_eq_true rfl⟩ ?_
    exact j_iret G F d9_bell_96 ⟨bst, (upS (upS (upS (upS (upS T 1 t1_3) 3 (C 5)) 4 (C 6)) 5 (C 7)) 6 0), (some ca), Y2, co, kn2, pn2, q1, q2, rfl, rfl, (by exact ⟨hw.symm, hkn2.1, by omega⟩)⟩
  have lpB11 : ∀ (bst : Int) (w0 : Int) (Y2 : Nat → Int) (kn2 : Int → Int) (pn2 : Int → Int) (q1 : Int) (q2 : Int), ((0 ≤ bst ∧ bst ≤ 11) ∧ (0 ≤ w0 ∧ w0 ≤ 8000)) → (KnB q2 kn2 ∧ q2 ≤ Q 2 + 11 ∧ Q 2 ≤ q2) → (beF (kB C P D W co 1) (81 * U 2) 12 0 0 (-1) = beF (kB C P D W co 1) (81 * U 2) 1 11 bst w0) →  J E 5 Γ (some A) 22 55 [(xo, xO xa X), (xa 2, aRef E 3 4 ck), (da, aInt E 24 dr), (sa, aInt E 24 sr), (xa 13, o3 (some (xa 12)) (some (xa 31)) (upS (upS Q 1 q1) 2 q2)), (xa 31, aLng E 39852 kn2), (xa 14, o2 (some (xa 12)) (some (xa 13)) (some (xa 32)) Y2), (xa 32, aInt E 12 pn2), (xa 12, o7 (some ca) (some (xa 30)) (upS (upS (upS (upS (upS T 1 t1_3) 3 (C 5)) 4 (C 6)) 5 (C 7)) 6 0)), (xa 30, aInt E 24 co), (ca, o1 (some pa) (some da) (some sa) C), (pa, aInt E 5 P), (xa 6, o5 (some (xa 20)) (some (xa 21)) (some (xa 22)) (some (xa 23)) U), (xa 20, aInt E 24 co)] 30 [(4, .int (iZ 11)), (3, .int (iZ w0)), (2, .int (iZ bst)), (1, .ref ca), (0, .ref xo)] [] := by
    intro bst w0 Y2 kn2 pn2 q1 q2 hw0 hkn2 hw
    refine j_iload G 0 rfl d9_bell_30 ?_
    refine j_bipush G d9_bell_32 rfl ?_
    refine j_icmp_gt (tgt := 95) G d9_bell_34 (by decide) (by decide) (by decide) (fun h5 => absurd h5 (by decide)) (fun h5 => ?_)
    refine j_aload_n G 4 rfl d9_bell_37 ?_
    refine j_get G 0 9 14 in9 fl9_78 d9_bell_38 rfl rfl (by decide) (v := .ref (xa 14)) rfl rfl ?_
    refine j_new G 4 (fs := z4) in4 tyok4 cl9_21 is4 ini4 rfl hz4 ⟨Nat.le_of_ble_eq_true rfl, Nat.le_of_ble_eq_true rfl⟩ d9_bell_41 (fun q6 => ?_)
    refine j_dup G d9_bell_44 rfl ?_
    refine j_iconst G d9_bell_45 ?_
    refine j_iload G 0 rfl d9_bell_46 ?_
    refine j_iconst G d9_bell_48 ?_
    refine j_IM G (rm' := { frames := 1, cells := 1, slots := 0, locals := 12 }) (wc := [(q6, o4 none (fun _ => 0))]) (wr := [(xo, xO xa X), (xa 2, aRef E 3 4 ck), (da, aInt E 24 dr), (sa, aInt E 24 sr), (xa 13, o3 (some (xa 12)) (some (xa 31)) (upS (upS Q 1 q1) 2 q2)), (xa 31, aLng E 39852 kn2), (xa 14, o2 (some (xa 12)) (some (xa 13)) (some (xa 32)) Y2), (xa 32, aInt E 12 pn2), (xa 12, o7 (some ca) (some (xa 30)) (upS (upS (upS (upS (upS T 1 t1_3) 3 (C 5)) 4 (C 6)) 5 (C 7)) 6 0)), (xa 30, aInt E 24 co), (ca, o1 (some pa) (some da) (some sa) C), (pa, aInt E 5 P), (xa 6, o5 (some (xa 20)) (some (xa 21)) (some (xa 22)) (some (xa 23)) U), (xa 20, aInt E 24 co)]) (k4_initb (xl Γ) E q6 2 11 0 (by first | assumption | omega | (simp only [upS, reduceIte, Nat.reduceEqDiff, eq_self, List.length_cons, List.length_nil, List.length_append] <;> omega)) (by first | assumption | omega | (simp only [upS, reduceIte, Nat.reduceEqDiff, eq_self, List.length_cons, List.length_nil, List.length_append] <;> omega))) mw4_init ml9_50 [14] [0, 1, 2, 3, 4, 5, 6, 7, 8, 9, 10, 11, 12, 13] rfl rfl ⟨rfl, rfl⟩ (by decide) ⟨Nat.le_of_ble_eq_true rfl, Nat.le_of_ble_eq_true rfl⟩ rfl (rest := [.ref q6, .ref (xa 14)]) rfl (Nat.le_of_ble_eq_true rfl) d9_bell_49 ⟨Nat.le_of_ble_eq_true rfl, Nat.le_of_ble_eq_true rfl⟩ (fun r w1 hr => ?_)
    obtain ⟨c0_8, rfl, rfl, hq7⟩ := hr
    refine j_eq (ws' := [(xo, xO xa X), (xa 2, aRef E 3 4 ck), (da, aInt E 24 dr), (sa, aInt E 24 sr), (xa 13, o3 (some (xa 12)) (some (xa 31)) (upS (upS Q 1 q1) 2 q2)), (xa 31, aLng E 39852 kn2), (xa 14, o2 (some (xa 12)) (some (xa 13)) (some (xa 32)) Y2), (xa 32, aInt E 12 pn2), (xa 12, o7 (some ca) (some (xa 30)) (upS (upS (upS (upS (upS T 1 t1_3) 3 (C 5)) 4 (C 6)) 5 (C 7)) 6 0)), (xa 30, aInt E 24 co), (ca, o1 (some pa) (some da) (some sa) C), (pa, aInt E 5 P), (xa 6, o5 (some (xa 20)) (some (xa 21)) (some (xa 22)) (some (xa 23)) U), (xa 20, aInt E 24 co), (q6, o4 (some c0_8) (upS (upS (upS (fun _ => 0) 0 2) 1 11) 2 0)), (c0_8, aInt E 0 (fun _ => 0))]) rfl rfl rfl ?_
    refine j_aload_n G 4 rfl d9_bell_52 ?_
    refine j_get G 0 9 6 in9 fl9_30 d9_bell_53 rfl rfl (by decide) (v := .ref (xa 6)) rfl rfl ?_
    refine j_get G 12 5 2 in5 fl9_175 d9_bell_56 rfl rfl (by decide) (v := .int (iZ (U 2))) rfl rfl ?_
    refine j_VM G (rm' := { frames := 28, cells := 0, slots := 0, locals := 779 }) (wc := [(q6, o4 (some c0_8) (upS (upS (upS (fun _ => 0) 0 2) 1 11) 2 0)), (c0_8, aInt E 0 (fun _ => 0)), (xa 14, o2 (some (xa 12)) (some (xa 13)) (some (xa 32)) Y2), (xa 32, aInt E 12 pn2), (xa 13, o3 (some (xa 12)) (some (xa 31)) (upS (upS Q 1 q1) 2 q2)), (xa 31, aLng E 39852 kn2), (xa 12, o7 (some ca) (some (xa 30)) (upS (upS (upS (upS (upS T 1 t1_3) 3 (C 5)) 4 (C 6)) 5 (C 7)) 6 0)), (xa 30, aInt E 24 co), (ca, o1 (some pa) (some da) (some sa) C), (pa, aInt E 5 P), (da, aInt E 24 dr), (sa, aInt E 24 sr)]) (wr := [(xo, xO xa X), (xa 2, aRef E 3 4 ck), (xa 6, o5 (some (xa 20)) (some (xa 21)) (some (xa 22)) (some (xa 23)) U), (xa 20, aInt E 24 co)]) (k2_leadBy (xl Γ) E q6 c0_8 0 (upS (upS (upS (fun _ => 0) 0 2) 1 11) 2 0) (fun _ => 0) (xa 14) (xa 32) Y2 (xa 13) (xa 31) (upS (upS Q 1 q1) 2 q2) (xa 12) (xa 30) (upS (upS (upS (upS (upS T 1 t1_3) 3 (C 5)) 4 (C 6)) 5 (C 7)) 6 0) ca pa da sa C P dr sr co (kB C P D W co 1) kn2 pn2 (U 2) (tm_k (mt := 0) (ms := 0) (msp := 0) (mp := 0) (n := 1) rfl hwf (by omega) (by omega) (by omega) (by omega) (by omega) hco (fun s a b => by have q := hDW s a b; simp only [upS, reduceIte, Nat.reduceEqDiff]; rw [ht1, Int.add_zero]; exact q) (by first | (simp only [upS, reduceIte, Nat.reduceEqDiff]; omega) | simp only [upS, reduceIte, Nat.reduceEqDiff]) (by first | (simp only [upS, reduceIte, Nat.reduceEqDiff]; omega) | simp only [upS, reduceIte, Nat.reduceEqDiff]) (by first | (simp only [upS, reduceIte, Nat.reduceEqDiff]; omega) | simp only [upS, reduceIte, Nat.reduceEqDiff]) (by first | (simp only [upS, reduceIte, Nat.reduceEqDiff]; omega) | simp only [upS, reduceIte, Nat.reduceEqDiff]) (by first | (simp only [upS, reduceIte, Nat.reduceEqDiff]; omega) | simp only [upS, reduceIte, Nat.reduceEqDiff]) (fun s a b => ⟨rfl, by have q := hco (12 + s) (by omega) (by omega); omega⟩)) hkn2.1 (by first | assumption | omega | (simp only [upS, reduceIte, Nat.reduceEqDiff, eq_self, List.length_cons, List.length_nil, List.length_append] <;> omega)) (by first | assumption | omega | (simp only [upS, reduceIte, Nat.reduceEqDiff, eq_self, List.length_cons, List.length_nil, List.length_append] <;> omega)) (fun q => absurd (show (2 : Int) = 6 from q) (by decide)) (fun q => absurd (show (2 : Int) = 6 from q) (by decide)) (by first | assumption | omega | (simp only [upS, reduceIte, Nat.reduceEqDiff, eq_self, List.length_cons, List.length_nil, List.length_append] <;> omega))) mw2_leadBy ml9_201 [14, 15, 6, 7, 4, 5, 8, 9, 10, 11, 2, 3] [0, 1, 12, 13] rfl rfl ⟨rfl, rfl⟩ (by decide) 6 2 rfl rfl rfl ⟨Nat.le_of_ble_eq_true rfl, Nat.le_of_ble_eq_true rfl⟩ rfl (rest := []) rfl (Nat.le_of_ble_eq_true rfl) d9_bell_59 ⟨Nat.le_of_ble_eq_true rfl, Nat.le_of_ble_eq_true rfl⟩ (fun r w1 hr => ?_)
    obtain ⟨pn1_10, kn1_11, q1_12, y2_13, y3_14, y4_15, y5_16, y6_17, y7_18, y8_19, y9_20, y10_21, y11_22, y12_23, y13_24, rfl, rfl, ⟨hq9_0, hq9_1, hq9_2, hq9_3, hq9_4, hq9_5, hq9_6, hq9_7, hq9_8⟩⟩ := hr
    refine j_eq (ws' := [(xo, xO xa X), (xa 2, aRef E 3 4 ck), (xa 6, o5 (some (xa 20)) (some (xa 21)) (some (xa 22)) (some (xa 23)) U), (xa 20, aInt E 24 co), (q6, o4 (some c0_8) (upS (upS (upS (fun _ => 0) 0 2) 1 11) 2 0)), (c0_8, aInt E 0 (fun _ => 0)), (xa 14, o2 (some (xa 12)) (some (xa 13)) (some (xa 32)) (upS (upS (upS (upS (upS (upS (upS (upS (upS (upS (upS (upS Y2 2 y2_13) 3 y3_14) 4 y4_15) 5 y5_16) 6 y6_17) 7 y7_18) 8 y8_19) 9 y9_20) 10 y10_21) 11 y11_22) 12 y12_23) 13 y13_24)), (xa 32, aInt E 12 pn1_10), (xa 13, o3 (some (xa 12)) (some (xa 31)) (upS (upS Q 1 q1_12) 2 (q2 + 1))), (xa 31, aLng E 39852 kn1_11), (xa 12, o7 (some ca) (some (xa 30)) (upS (upS (upS (upS (upS T 1 t1_3) 3 (C 5)) 4 (C 6)) 5 (C 7)) 6 0)), (xa 30, aInt E 24 co), (ca, o1 (some pa) (some da) (some sa) C), (pa, aInt E 5 P), (da, aInt E 24 dr), (sa, aInt E 24 sr)]) rfl rfl rfl ?_
    try simp only [upS, reduceIte, Nat.reduceEqDiff, eq_self] at hq9_0 hq9_1 hq9_2 hq9_3 hq9_4 hq9_5 hq9_6 hq9_7 hq9_8
    have hA := hq9_0
    have hB := hq9_1
    have hC := hq9_2
    have hDd := hq9_3
    have hE := hq9_4
    have hF := hq9_5
    have hG := hq9_6
    have hH := hq9_7
    have hKB := hq9_8
    have hgg : (fun s st => ldI (kB C P D W co 1) 2 11 s st 0 (fun _ => 0)) = (gB (kB C P D W co 1) 2 11) := by funext s st; exact (gB_e (by decide)).symm
    rw [hgg] at hA hF
    have hok : okD (kB C P D W co 1) := okD_k (C := C) (P := P) (D := D) (W := W) (co := co) (mt := 0) (ms := 0) (msp := 0) (mp := 0) (n := 1) hwf (by omega) (by omega) (by omega) (by omega) (by omega) (fun s a b => (hDW s a b).2.2.2) hco
    have hAr := dyA_r (g := (gB (kB C P D W co 1) 2 11)) (f := dUp (kB C P D W co 1)) hok (st0 := 81 * U 2) (by omega) (fun s st h1 h2 => by have := dR hok h1 h2; omega) 12 (Nat.le_refl 12)
    rw [← hA] at hAr
    have hWv : beW (kB C P D W co 1) (81 * U 2) 11 = 100 * y9_20 + y3_14 := by unfold beW; rw [← hA, ← hF]; omega
    refine j_iload_n G 2 rfl d9_bell_62 ?_
    refine j_iconst G d9_bell_63 ?_
    refine j_icmp_eq (tgt := 78) G d9_bell_64 (by decide) (by omega) (by decide) (fun h25 => ?_) (fun h25 => ?_)
    ·
      exact absurd h25 (by omega)
    ·
      refine j_aload_n G 4 rfl d9_bell_67 ?_
      refine j_get G 0 9 14 in9 fl9_78 d9_bell_68 rfl rfl (by decide) (v := .ref (xa 14)) rfl rfl ?_
      refine j_VP G (k2_worth (xl Γ) E (xa 14) (xa 32) (upS (upS (upS (upS (upS (upS (upS (upS (upS (upS (upS (upS Y2 2 y2_13) 3 y3_14) 4 y4_15) 5 y5_16) 6 y6_17) 7 y7_18) 8 y8_19) 9 y9_20) 10 y10_21) 11 y11_22) 12 y12_23) 13 y13_24) (xa 12) (xa 13) ) mw2_worth ml9_241 [6] rfl 6 2 rfl rfl rfl ⟨Nat.le_of_ble_eq_true rfl, Nat.le_of_ble_eq_true rfl⟩ rfl (rest := []) rfl (Nat.le_of_ble_eq_true rfl) d9_bell_71 ⟨Nat.le_of_ble_eq_true rfl, Nat.le_of_ble_eq_true rfl⟩ (fun r hr => ?_)
      obtain ⟨_, rfl, rfl⟩ := hr
      refine j_eq (st' := [.int (iZ (100 * y9_20 + y3_14))]) rfl rfl rfl ?_
      refine j_iload_n G 1 rfl d9_bell_74 ?_
      refine j_icmp_le (tgt := 89) G d9_bell_75 (by decide) (by omega) (by omega) (fun h27 => ?_) (fun h27 => ?_)
      ·
        refine j_iinc G d9_bell_89 0 rfl (by decide) rfl ?_
        refine j_goto (tgt := 30) G d9_bell_92 (by decide) ?_
        refine j_eq (ls' := [(4, .int (iZ 12)), (3, .int (iZ w0)), (2, .int (iZ bst)), (1, .ref ca), (0, .ref xo)]) rfl rfl rfl ?_
        refine j_perm (ws' := [(xo, xO xa X), (xa 2, aRef E 3 4 ck), (da, aInt E 24 dr), (sa, aInt E 24 sr), (xa 13, o3 (some (xa 12)) (some (xa 31)) (upS (upS Q 1 q1_12) 2 (q2 + 1))), (xa 31, aLng E 39852 kn1_11), (xa 14, o2 (some (xa 12)) (some (xa 13)) (some (xa 32)) (upS (upS (upS (upS (upS (upS (upS (upS (upS (upS (upS (upS Y2 2 y2_13) 3 y3_14) 4 y4_15) 5 y5_16) 6 y6_17) 7 y7_18) 8 y8_19) 9 y9_20) 10 y10_21) 11 y11_22) 12 y12_23) 13 y13_24)), (xa 32, aInt E 12 pn1_10), (xa 12, o7 (some ca) (some (xa 30)) (upS (upS (upS (upS (upS T 1 t1_3) 3 (C 5)) 4 (C 6)) 5 (C 7)) 6 0)), (xa 30, aInt E 24 co), (ca, o1 (some pa) (some da) (some sa) C), (pa, aInt E 5 P), (xa 6, o5 (some (xa 20)) (some (xa 21)) (some (xa 22)) (some (xa 23)) U), (xa 20, aInt E 24 co)]) [0, 1, 14, 15, 8, 9, 6, 7, 10, 11, 12, 13, 2, 3] rfl rfl rfl ?_
        exact lpB12 bst w0 (upS (upS (upS (upS (upS (upS (upS (upS (upS (upS (upS (upS Y2 2 y2_13) 3 y3_14) 4 y4_15) 5 y5_16) 6 y6_17) 7 y7_18) 8 y8_19) 9 y9_20) 10 y10_21) 11 y11_22) 12 y12_23) 13 y13_24) kn1_11 pn1_10 q1_12 (q2 + 1) (by omega) ⟨hKB, by omega, by omega⟩ (hw.trans ((beF_s (kB C P D W co 1) (81 * U 2) 0 11 bst w0).trans (by rw [hWv, if_pos (by omega), show (11 : Int) + 1 = 12 by rfl])))
      ·
        refine j_iload G 0 rfl d9_bell_78 ?_
        refine j_istore_n G d9_bell_80 (by decide) rfl ?_
        refine j_aload_n G 4 rfl d9_bell_81 ?_
        refine j_get G 0 9 14 in9 fl9_78 d9_bell_82 rfl rfl (by decide) (v := .ref (xa 14)) rfl rfl ?_
        refine j_VP G (k2_worth (xl Γ) E (xa 14) (xa 32) (upS (upS (upS (upS (upS (upS (upS (upS (upS (upS (upS (upS Y2 2 y2_13) 3 y3_14) 4 y4_15) 5 y5_16) 6 y6_17) 7 y7_18) 8 y8_19) 9 y9_20) 10 y10_21) 11 y11_22) 12 y12_23) 13 y13_24) (xa 12) (xa 13) ) mw2_worth ml9_241 [6] rfl 6 2 rfl rfl rfl ⟨Nat.le_of_ble_eq_true rfl, Nat.le_of_ble_eq_true rfl⟩ rfl (rest := []) rfl (Nat.le_of_ble_eq_true rfl) d9_bell_85 ⟨Nat.le_of_ble_eq_true rfl, Nat.le_of_ble_eq_true rfl⟩ (fun r hr => ?_)
        obtain ⟨_, rfl, rfl⟩ := hr
        refine j_eq (st' := [.int (iZ (100 * y9_20 + y3_14))]) rfl rfl rfl ?_
        refine j_istore_n G d9_bell_88 (by decide) rfl ?_
        refine j_iinc G d9_bell_89 2 rfl (by decide) rfl ?_
        refine j_goto (tgt := 30) G d9_bell_92 (by decide) ?_
        refine j_eq (ls' := [(4, .int (iZ 12)), (3, .int (iZ (100 * y9_20 + y3_14))), (2, .int (iZ 11)), (1, .ref ca), (0, .ref xo)]) rfl rfl rfl ?_
        refine j_perm (ws' := [(xo, xO xa X), (xa 2, aRef E 3 4 ck), (da, aInt E 24 dr), (sa, aInt E 24 sr), (xa 13, o3 (some (xa 12)) (some (xa 31)) (upS (upS Q 1 q1_12) 2 (q2 + 1))), (xa 31, aLng E 39852 kn1_11), (xa 14, o2 (some (xa 12)) (some (xa 13)) (some (xa 32)) (upS (upS (upS (upS (upS (upS (upS (upS (upS (upS (upS (upS Y2 2 y2_13) 3 y3_14) 4 y4_15) 5 y5_16) 6 y6_17) 7 y7_18) 8 y8_19) 9 y9_20) 10 y10_21) 11 y11_22) 12 y12_23) 13 y13_24)), (xa 32, aInt E 12 pn1_10), (xa 12, o7 (some ca) (some (xa 30)) (upS (upS (upS (upS (upS T 1 t1_3) 3 (C 5)) 4 (C 6)) 5 (C 7)) 6 0)), (xa 30, aInt E 24 co), (ca, o1 (some pa) (some da) (some sa) C), (pa, aInt E 5 P), (xa 6, o5 (some (xa 20)) (some (xa 21)) (some (xa 22)) (some (xa 23)) U), (xa 20, aInt E 24 co)]) [0, 1, 14, 15, 8, 9, 6, 7, 10, 11, 12, 13, 2, 3] rfl rfl rfl ?_
        exact lpB12 11 (100 * y9_20 + y3_14) (upS (upS (upS (upS (upS (upS (upS (upS (upS (upS (upS (upS Y2 2 y2_13) 3 y3_14) 4 y4_15) 5 y5_16) 6 y6_17) 7 y7_18) 8 y8_19) 9 y9_20) 10 y10_21) 11 y11_22) 12 y12_23) 13 y13_24) kn1_11 pn1_10 q1_12 (q2 + 1) (by omega) ⟨hKB, by omega, by omega⟩ (hw.trans ((beF_s (kB C P D W co 1) (81 * U 2) 0 11 bst w0).trans (by rw [hWv, if_neg (by omega), show (11 : Int) + 1 = 12 by rfl])))
  have lpB10 : ∀ (bst : Int) (w0 : Int) (Y2 : Nat → Int) (kn2 : Int → Int) (pn2 : Int → Int) (q1 : Int) (q2 : Int), ((0 ≤ bst ∧ bst ≤ 11) ∧ (0 ≤ w0 ∧ w0 ≤ 8000)) → (KnB q2 kn2 ∧ q2 ≤ Q 2 + 10 ∧ Q 2 ≤ q2) → (beF (kB C P D W co 1) (81 * U 2) 12 0 0 (-1) = beF (kB C P D W co 1) (81 * U 2) 2 10 bst w0) →  J E 5 Γ (some A) 20 50 [(xo, xO xa X), (xa 2, aRef E 3 4 ck), (da, aInt E 24 dr), (sa, aInt E 24 sr), (xa 13, o3 (some (xa 12)) (some (xa 31)) (upS (upS Q 1 q1) 2 q2)), (xa 31, aLng E 39852 kn2), (xa 14, o2 (some (xa 12)) (some (xa 13)) (some (xa 32)) Y2), (xa 32, aInt E 12 pn2), (xa 12, o7 (some ca) (some (xa 30)) (upS (upS (upS (upS (upS T 1 t1_3) 3 (C 5)) 4 (C 6)) 5 (C 7)) 6 0)), (xa 30, aInt E 24 co), (ca, o1 (some pa) (some da) (some sa) C), (pa, aInt E 5 P), (xa 6, o5 (some (xa 20)) (some (xa 21)) (some (xa 22)) (some (xa 23)) U), (xa 20, aInt E 24 co)] 30 [(4, .int (iZ 10)), (3, .int (iZ w0)), (2, .int (iZ bst)), (1, .ref ca), (0, .ref xo)] [] := by
    intro bst w0 Y2 kn2 pn2 q1 q2 hw0 hkn2 hw
    refine j_iload G 0 rfl d9_bell_30 ?_
    refine j_bipush G d9_bell_32 rfl ?_
    refine j_icmp_gt (tgt := 95) G d9_bell_34 (by decide) (by decide) (by decide) (fun h29 => absurd h29 (by decide)) (fun h29 => ?_)
    refine j_aload_n G 4 rfl d9_bell_37 ?_
    refine j_get G 0 9 14 in9 fl9_78 d9_bell_38 rfl rfl (by decide) (v := .ref (xa 14)) rfl rfl ?_
    refine j_new G 4 (fs := z4) in4 tyok4 cl9_21 is4 ini4 rfl hz4 ⟨Nat.le_of_ble_eq_true rfl, Nat.le_of_ble_eq_true rfl⟩ d9_bell_41 (fun q30 => ?_)
    refine j_dup G d9_bell_44 rfl ?_
    refine j_iconst G d9_bell_45 ?_
    refine j_iload G 0 rfl d9_bell_46 ?_
    refine j_iconst G d9_bell_48 ?_
    refine j_IM G (rm' := { frames := 1, cells := 1, slots := 0, locals := 12 }) (wc := [(q30, o4 none (fun _ => 0))]) (wr := [(xo, xO xa X), (xa 2, aRef E 3 4 ck), (da, aInt E 24 dr), (sa, aInt E 24 sr), (xa 13, o3 (some (xa 12)) (some (xa 31)) (upS (upS Q 1 q1) 2 q2)), (xa 31, aLng E 39852 kn2), (xa 14, o2 (some (xa 12)) (some (xa 13)) (some (xa 32)) Y2), (xa 32, aInt E 12 pn2), (xa 12, o7 (some ca) (some (xa 30)) (upS (upS (upS (upS (upS T 1 t1_3) 3 (C 5)) 4 (C 6)) 5 (C 7)) 6 0)), (xa 30, aInt E 24 co), (ca, o1 (some pa) (some da) (some sa) C), (pa, aInt E 5 P), (xa 6, o5 (some (xa 20)) (some (xa 21)) (some (xa 22)) (some (xa 23)) U), (xa 20, aInt E 24 co)]) (k4_initb (xl Γ) E q30 2 10 0 (by first | assumption | omega | (simp only [upS, reduceIte, Nat.reduceEqDiff, eq_self, List.length_cons, List.length_nil, List.length_append] <;> omega)) (by first | assumption | omega | (simp only [upS, reduceIte, Nat.reduceEqDiff, eq_self, List.length_cons, List.length_nil, List.length_append] <;> omega))) mw4_init ml9_50 [14] [0, 1, 2, 3, 4, 5, 6, 7, 8, 9, 10, 11, 12, 13] rfl rfl ⟨rfl, rfl⟩ (by decide) ⟨Nat.le_of_ble_eq_true rfl, Nat.le_of_ble_eq_true rfl⟩ rfl (rest := [.ref q30, .ref (xa 14)]) rfl (Nat.le_of_ble_eq_true rfl) d9_bell_49 ⟨Nat.le_of_ble_eq_true rfl, Nat.le_of_ble_eq_true rfl⟩ (fun r w1 hr => ?_)
    obtain ⟨c0_32, rfl, rfl, hq31⟩ := hr
    refine j_eq (ws' := [(xo, xO xa X), (xa 2, aRef E 3 4 ck), (da, aInt E 24 dr), (sa, aInt E 24 sr), (xa 13, o3 (some (xa 12)) (some (xa 31)) (upS (upS Q 1 q1) 2 q2)), (xa 31, aLng E 39852 kn2), (xa 14, o2 (some (xa 12)) (some (xa 13)) (some (xa 32)) Y2), (xa 32, aInt E 12 pn2), (xa 12, o7 (some ca) (some (xa 30)) (upS (upS (upS (upS (upS T 1 t1_3) 3 (C 5)) 4 (C 6)) 5 (C 7)) 6 0)), (xa 30, aInt E 24 co), (ca, o1 (some pa) (some da) (some sa) C), (pa, aInt E 5 P), (xa 6, o5 (some (xa 20)) (some (xa 21)) (some (xa 22)) (some (xa 23)) U), (xa 20, aInt E 24 co), (q30, o4 (some c0_32) (upS (upS (upS (fun _ => 0) 0 2) 1 10) 2 0)), (c0_32, aInt E 0 (fun _ => 0))]) rfl rfl rfl ?_
    refine j_aload_n G 4 rfl d9_bell_52 ?_
    refine j_get G 0 9 6 in9 fl9_30 d9_bell_53 rfl rfl (by decide) (v := .ref (xa 6)) rfl rfl ?_
    refine j_get G 12 5 2 in5 fl9_175 d9_bell_56 rfl rfl (by decide) (v := .int (iZ (U 2))) rfl rfl ?_
    refine j_VM G (rm' := { frames := 28, cells := 0, slots := 0, locals := 779 }) (wc := [(q30, o4 (some c0_32) (upS (upS (upS (fun _ => 0) 0 2) 1 10) 2 0)), (c0_32, aInt E 0 (fun _ => 0)), (xa 14, o2 (some (xa 12)) (some (xa 13)) (some (xa 32)) Y2), (xa 32, aInt E 12 pn2), (xa 13, o3 (some (xa 12)) (some (xa 31)) (upS (upS Q 1 q1) 2 q2)), (xa 31, aLng E 39852 kn2), (xa 12, o7 (some ca) (some (xa 30)) (upS (upS (upS (upS (upS T 1 t1_3) 3 (C 5)) 4 (C 6)) 5 (C 7)) 6 0)), (xa 30, aInt E 24 co), (ca, o1 (some pa) (some da) (some sa) C), (pa, aInt E 5 P), (da, aInt E 24 dr), (sa, aInt E 24 sr)]) (wr := [(xo, xO xa X), (xa 2, aRef E 3 4 ck), (xa 6, o5 (some (xa 20)) (some (xa 21)) (some (xa 22)) (some (xa 23)) U), (xa 20, aInt E 24 co)]) (k2_leadBy (xl Γ) E q30 c0_32 0 (upS (upS (upS (fun _ => 0) 0 2) 1 10) 2 0) (fun _ => 0) (xa 14) (xa 32) Y2 (xa 13) (xa 31) (upS (upS Q 1 q1) 2 q2) (xa 12) (xa 30) (upS (upS (upS (upS (upS T 1 t1_3) 3 (C 5)) 4 (C 6)) 5 (C 7)) 6 0) ca pa da sa C P dr sr co (kB C P D W co 1) kn2 pn2 (U 2) (tm_k (mt := 0) (ms := 0) (msp := 0) (mp := 0) (n := 1) rfl hwf (by omega) (by omega) (by omega) (by omega) (by omega) hco (fun s a b => by have q := hDW s a b; simp only [upS, reduceIte, Nat.reduceEqDiff]; rw [ht1, Int.add_zero]; exact q) (by first | (simp only [upS, reduceIte, Nat.reduceEqDiff]; omega) | simp only [upS, reduceIte, Nat.reduceEqDiff]) (by first | (simp only [upS, reduceIte, Nat.reduceEqDiff]; omega) | simp only [upS, reduceIte, Nat.reduceEqDiff]) (by first | (simp only [upS, reduceIte, Nat.reduceEqDiff]; omega) | simp only [upS, reduceIte, Nat.reduceEqDiff]) (by first | (simp only [upS, reduceIte, Nat.reduceEqDiff]; omega) | simp only [upS, reduceIte, Nat.reduceEqDiff]) (by first | (simp only [upS, reduceIte, Nat.reduceEqDiff]; omega) | simp only [upS, reduceIte, Nat.reduceEqDiff]) (fun s a b => ⟨rfl, by have q := hco (12 + s) (by omega) (by omega); omega⟩)) hkn2.1 (by first | assumption | omega | (simp only [upS, reduceIte, Nat.reduceEqDiff, eq_self, List.length_cons, List.length_nil, List.length_append] <;> omega)) (by first | assumption | omega | (simp only [upS, reduceIte, Nat.reduceEqDiff, eq_self, List.length_cons, List.length_nil, List.length_append] <;> omega)) (fun q => absurd (show (2 : Int) = 6 from q) (by decide)) (fun q => absurd (show (2 : Int) = 6 from q) (by decide)) (by first | assumption | omega | (simp only [upS, reduceIte, Nat.reduceEqDiff, eq_self, List.length_cons, List.length_nil, List.length_append] <;> omega))) mw2_leadBy ml9_201 [14, 15, 6, 7, 4, 5, 8, 9, 10, 11, 2, 3] [0, 1, 12, 13] rfl rfl ⟨rfl, rfl⟩ (by decide) 6 2 rfl rfl rfl ⟨Nat.le_of_ble_eq_true rfl, Nat.le_of_ble_eq_true rfl⟩ rfl (rest := []) rfl (Nat.le_of_ble_eq_true rfl) d9_bell_59 ⟨Nat.le_of_ble_eq_true rfl, Nat.le_of_ble_eq_true rfl⟩ (fun r w1 hr => ?_)
    obtain ⟨pn1_34, kn1_35, q1_36, y2_37, y3_38, y4_39, y5_40, y6_41, y7_42, y8_43, y9_44, y10_45, y11_46, y12_47, y13_48, rfl, rfl, ⟨hq33_0, hq33_1, hq33_2, hq33_3, hq33_4, hq33_5, hq33_6, hq33_7, hq33_8⟩⟩ := hr
    refine j_eq (ws' := [(xo, xO xa X), (xa 2, aRef E 3 4 ck), (xa 6, o5 (some (xa 20)) (some (xa 21)) (some (xa 22)) (some (xa 23)) U), (xa 20, aInt E 24 co), (q30, o4 (some c0_32) (upS (upS (upS (fun _ => 0) 0 2) 1 10) 2 0)), (c0_32, aInt E 0 (fun _ => 0)), (xa 14, o2 (some (xa 12)) (some (xa 13)) (some (xa 32)) (upS (upS (upS (upS (upS (upS (upS (upS (upS (upS (upS (upS Y2 2 y2_37) 3 y3_38) 4 y4_39) 5 y5_40) 6 y6_41) 7 y7_42) 8 y8_43) 9 y9_44) 10 y10_45) 11 y11_46) 12 y12_47) 13 y13_48)), (xa 32, aInt E 12 pn1_34), (xa 13, o3 (some (xa 12)) (some (xa 31)) (upS (upS Q 1 q1_36) 2 (q2 + 1))), (xa 31, aLng E 39852 kn1_35), (xa 12, o7 (some ca) (some (xa 30)) (upS (upS (upS (upS (upS T 1 t1_3) 3 (C 5)) 4 (C 6)) 5 (C 7)) 6 0)), (xa 30, aInt E 24 co), (ca, o1 (some pa) (some da) (some sa) C), (pa, aInt E 5 P), (da, aInt E 24 dr), (sa, aInt E 24 sr)]) rfl rfl rfl ?_
    try simp only [upS, reduceIte, Nat.reduceEqDiff, eq_self] at hq33_0 hq33_1 hq33_2 hq33_3 hq33_4 hq33_5 hq33_6 hq33_7 hq33_8
    have hA := hq33_0
    have hB := hq33_1
    have hC := hq33_2
    have hDd := hq33_3
    have hE := hq33_4
    have hF := hq33_5
    have hG := hq33_6
    have hH := hq33_7
    have hKB := hq33_8
    have hgg : (fun s st => ldI (kB C P D W co 1) 2 10 s st 0 (fun _ => 0)) = (gB (kB C P D W co 1) 2 10) := by funext s st; exact (gB_e (by decide)).symm
    rw [hgg] at hA hF
    have hok : okD (kB C P D W co 1) := okD_k (C := C) (P := P) (D := D) (W := W) (co := co) (mt := 0) (ms := 0) (msp := 0) (mp := 0) (n := 1) hwf (by omega) (by omega) (by omega) (by omega) (by omega) (fun s a b => (hDW s a b).2.2.2) hco
    have hAr := dyA_r (g := (gB (kB C P D W co 1) 2 10)) (f := dUp (kB C P D W co 1)) hok (st0 := 81 * U 2) (by omega) (fun s st h1 h2 => by have := dR hok h1 h2; omega) 12 (Nat.le_refl 12)
    rw [← hA] at hAr
    have hWv : beW (kB C P D W co 1) (81 * U 2) 10 = 100 * y9_44 + y3_38 := by unfold beW; rw [← hA, ← hF]; omega
    refine j_iload_n G 2 rfl d9_bell_62 ?_
    refine j_iconst G d9_bell_63 ?_
    refine j_icmp_eq (tgt := 78) G d9_bell_64 (by decide) (by omega) (by decide) (fun h49 => ?_) (fun h49 => ?_)
    ·
      exact absurd h49 (by omega)
    ·
      refine j_aload_n G 4 rfl d9_bell_67 ?_
      refine j_get G 0 9 14 in9 fl9_78 d9_bell_68 rfl rfl (by decide) (v := .ref (xa 14)) rfl rfl ?_
      refine j_VP G (k2_worth (xl Γ) E (xa 14) (xa 32) (upS (upS (upS (upS (upS (upS (upS (upS (upS (upS (upS (upS Y2 2 y2_37) 3 y3_38) 4 y4_39) 5 y5_40) 6 y6_41) 7 y7_42) 8 y8_43) 9 y9_44) 10 y10_45) 11 y11_46) 12 y12_47) 13 y13_48) (xa 12) (xa 13) ) mw2_worth ml9_241 [6] rfl 6 2 rfl rfl rfl ⟨Nat.le_of_ble_eq_true rfl, Nat.le_of_ble_eq_true rfl⟩ rfl (rest := []) rfl (Nat.le_of_ble_eq_true rfl) d9_bell_71 ⟨Nat.le_of_ble_eq_true rfl, Nat.le_of_ble_eq_true rfl⟩ (fun r hr => ?_)
      obtain ⟨_, rfl, rfl⟩ := hr
      refine j_eq (st' := [.int (iZ (100 * y9_44 + y3_38))]) rfl rfl rfl ?_
      refine j_iload_n G 1 rfl d9_bell_74 ?_
      refine j_icmp_le (tgt := 89) G d9_bell_75 (by decide) (by omega) (by omega) (fun h51 => ?_) (fun h51 => ?_)
      ·
        refine j_iinc G d9_bell_89 0 rfl (by decide) rfl ?_
        refine j_goto (tgt := 30) G d9_bell_92 (by decide) ?_
        refine j_eq (ls' := [(4, .int (iZ 11)), (3, .int (iZ w0)), (2, .int (iZ bst)), (1, .ref ca), (0, .ref xo)]) rfl rfl rfl ?_
        refine j_perm (ws' := [(xo, xO xa X), (xa 2, aRef E 3 4 ck), (da, aInt E 24 dr), (sa, aInt E 24 sr), (xa 13, o3 (some (xa 12)) (some (xa 31)) (upS (upS Q 1 q1_36) 2 (q2 + 1))), (xa 31, aLng E 39852 kn1_35), (xa 14, o2 (some (xa 12)) (some (xa 13)) (some (xa 32)) (upS (upS (upS (upS (upS (upS (upS (upS (upS (upS (upS (upS Y2 2 y2_37) 3 y3_38) 4 y4_39) 5 y5_40) 6 y6_41) 7 y7_42) 8 y8_43) 9 y9_44) 10 y10_45) 11 y11_46) 12 y12_47) 13 y13_48)), (xa 32, aInt E 12 pn1_34), (xa 12, o7 (some ca) (some (xa 30)) (upS (upS (upS (upS (upS T 1 t1_3) 3 (C 5)) 4 (C 6)) 5 (C 7)) 6 0)), (xa 30, aInt E 24 co), (ca, o1 (some pa) (some da) (some sa) C), (pa, aInt E 5 P), (xa 6, o5 (some (xa 20)) (some (xa 21)) (some (xa 22)) (some (xa 23)) U), (xa 20, aInt E 24 co)]) [0, 1, 14, 15, 8, 9, 6, 7, 10, 11, 12, 13, 2, 3] rfl rfl rfl ?_
        exact lpB11 bst w0 (upS (upS (upS (upS (upS (upS (upS (upS (upS (upS (upS (upS Y2 2 y2_37) 3 y3_38) 4 y4_39) 5 y5_40) 6 y6_41) 7 y7_42) 8 y8_43) 9 y9_44) 10 y10_45) 11 y11_46) 12 y12_47) 13 y13_48) kn1_35 pn1_34 q1_36 (q2 + 1) (by omega) ⟨hKB, by omega, by omega⟩ (hw.trans ((beF_s (kB C P D W co 1) (81 * U 2) 1 10 bst w0).trans (by rw [hWv, if_pos (by omega), show (10 : Int) + 1 = 11 by rfl])))
      ·
        refine j_iload G 0 rfl d9_bell_78 ?_
        refine j_istore_n G d9_bell_80 (by decide) rfl ?_
        refine j_aload_n G 4 rfl d9_bell_81 ?_
        refine j_get G 0 9 14 in9 fl9_78 d9_bell_82 rfl rfl (by decide) (v := .ref (xa 14)) rfl rfl ?_
        refine j_VP G (k2_worth (xl Γ) E (xa 14) (xa 32) (upS (upS (upS (upS (upS (upS (upS (upS (upS (upS (upS (upS Y2 2 y2_37) 3 y3_38) 4 y4_39) 5 y5_40) 6 y6_41) 7 y7_42) 8 y8_43) 9 y9_44) 10 y10_45) 11 y11_46) 12 y12_47) 13 y13_48) (xa 12) (xa 13) ) mw2_worth ml9_241 [6] rfl 6 2 rfl rfl rfl ⟨Nat.le_of_ble_eq_true rfl, Nat.le_of_ble_eq_true rfl⟩ rfl (rest := []) rfl (Nat.le_of_ble_eq_true rfl) d9_bell_85 ⟨Nat.le_of_ble_eq_true rfl, Nat.le_of_ble_eq_true rfl⟩ (fun r hr => ?_)
        obtain ⟨_, rfl, rfl⟩ := hr
        refine j_eq (st' := [.int (iZ (100 * y9_44 + y3_38))]) rfl rfl rfl ?_
        refine j_istore_n G d9_bell_88 (by decide) rfl ?_
        refine j_iinc G d9_bell_89 2 rfl (by decide) rfl ?_
        refine j_goto (tgt := 30) G d9_bell_92 (by decide) ?_
        refine j_eq (ls' := [(4, .int (iZ 11)), (3, .int (iZ (100 * y9_44 + y3_38))), (2, .int (iZ 10)), (1, .ref ca), (0, .ref xo)]) rfl rfl rfl ?_
        refine j_perm (ws' := [(xo, xO xa X), (xa 2, aRef E 3 4 ck), (da, aInt E 24 dr), (sa, aInt E 24 sr), (xa 13, o3 (some (xa 12)) (some (xa 31)) (upS (upS Q 1 q1_36) 2 (q2 + 1))), (xa 31, aLng E 39852 kn1_35), (xa 14, o2 (some (xa 12)) (some (xa 13)) (some (xa 32)) (upS (upS (upS (upS (upS (upS (upS (upS (upS (upS (upS (upS Y2 2 y2_37) 3 y3_38) 4 y4_39) 5 y5_40) 6 y6_41) 7 y7_42) 8 y8_43) 9 y9_44) 10 y10_45) 11 y11_46) 12 y12_47) 13 y13_48)), (xa 32, aInt E 12 pn1_34), (xa 12, o7 (some ca) (some (xa 30)) (upS (upS (upS (upS (upS T 1 t1_3) 3 (C 5)) 4 (C 6)) 5 (C 7)) 6 0)), (xa 30, aInt E 24 co), (ca, o1 (some pa) (some da) (some sa) C), (pa, aInt E 5 P), (xa 6, o5 (some (xa 20)) (some (xa 21)) (some (xa 22)) (some (xa 23)) U), (xa 20, aInt E 24 co)]) [0, 1, 14, 15, 8, 9, 6, 7, 10, 11, 12, 13, 2, 3] rfl rfl rfl ?_
        exact lpB11 10 (100 * y9_44 + y3_38) (upS (upS (upS (upS (upS (upS (upS (upS (upS (upS (upS (upS Y2 2 y2_37) 3 y3_38) 4 y4_39) 5 y5_40) 6 y6_41) 7 y7_42) 8 y8_43) 9 y9_44) 10 y10_45) 11 y11_46) 12 y12_47) 13 y13_48) kn1_35 pn1_34 q1_36 (q2 + 1) (by omega) ⟨hKB, by omega, by omega⟩ (hw.trans ((beF_s (kB C P D W co 1) (81 * U 2) 1 10 bst w0).trans (by rw [hWv, if_neg (by omega), show (10 : Int) + 1 = 11 by rfl])))
  have lpB9 : ∀ (bst : Int) (w0 : Int) (Y2 : Nat → Int) (kn2 : Int → Int) (pn2 : Int → Int) (q1 : Int) (q2 : Int), ((0 ≤ bst ∧ bst ≤ 11) ∧ (0 ≤ w0 ∧ w0 ≤ 8000)) → (KnB q2 kn2 ∧ q2 ≤ Q 2 + 9 ∧ Q 2 ≤ q2) → (beF (kB C P D W co 1) (81 * U 2) 12 0 0 (-1) = beF (kB C P D W co 1) (81 * U 2) 3 9 bst w0) →  J E 5 Γ (some A) 18 45 [(xo, xO xa X), (xa 2, aRef E 3 4 ck), (da, aInt E 24 dr), (sa, aInt E 24 sr), (xa 13, o3 (some (xa 12)) (some (xa 31)) (upS (upS Q 1 q1) 2 q2)), (xa 31, aLng E 39852 kn2), (xa 14, o2 (some (xa 12)) (some (xa 13)) (some (xa 32)) Y2), (xa 32, aInt E 12 pn2), (xa 12, o7 (some ca) (some (xa 30)) (upS (upS (upS (upS (upS T 1 t1_3) 3 (C 5)) 4 (C 6)) 5 (C 7)) 6 0)), (xa 30, aInt E 24 co), (ca, o1 (some pa) (some da) (some sa) C), (pa, aInt E 5 P), (xa 6, o5 (some (xa 20)) (some (xa 21)) (some (xa 22)) (some (xa 23)) U), (xa 20, aInt E 24 co)] 30 [(4, .int (iZ 9)), (3, .int (iZ w0)), (2, .int (iZ bst)), (1, .ref ca), (0, .ref xo)] [] := by
    intro bst w0 Y2 kn2 pn2 q1 q2 hw0 hkn2 hw
    refine j_iload G 0 rfl d9_bell_30 ?_
    refine j_bipush G d9_bell_32 rfl ?_
    refine j_icmp_gt (tgt := 95) G d9_bell_34 (by decide) (by decide) (by decide) (fun h53 => absurd h53 (by decide)) (fun h53 => ?_)
    refine j_aload_n G 4 rfl d9_bell_37 ?_
    refine j_get G 0 9 14 in9 fl9_78 d9_bell_38 rfl rfl (by decide) (v := .ref (xa 14)) rfl rfl ?_
    refine j_new G 4 (fs := z4) in4 tyok4 cl9_21 is4 ini4 rfl hz4 ⟨Nat.le_of_ble_eq_true rfl, Nat.le_of_ble_eq_true rfl⟩ d9_bell_41 (fun q54 => ?_)
    refine j_dup G d9_bell_44 rfl ?_
    refine j_iconst G d9_bell_45 ?_
    refine j_iload G 0 rfl d9_bell_46 ?_
    refine j_iconst G d9_bell_48 ?_
    refine j_IM G (rm' := { frames := 1, cells := 1, slots := 0, locals := 12 }) (wc := [(q54, o4 none (fun _ => 0))]) (wr := [(xo, xO xa X), (xa 2, aRef E 3 4 ck), (da, aInt E 24 dr), (sa, aInt E 24 sr), (xa 13, o3 (some (xa 12)) (some (xa 31)) (upS (upS Q 1 q1) 2 q2)), (xa 31, aLng E 39852 kn2), (xa 14, o2 (some (xa 12)) (some (xa 13)) (some (xa 32)) Y2), (xa 32, aInt E 12 pn2), (xa 12, o7 (some ca) (some (xa 30)) (upS (upS (upS (upS (upS T 1 t1_3) 3 (C 5)) 4 (C 6)) 5 (C 7)) 6 0)), (xa 30, aInt E 24 co), (ca, o1 (some pa) (some da) (some sa) C), (pa, aInt E 5 P), (xa 6, o5 (some (xa 20)) (some (xa 21)) (some (xa 22)) (some (xa 23)) U), (xa 20, aInt E 24 co)]) (k4_initb (xl Γ) E q54 2 9 0 (by first | assumption | omega | (simp only [upS, reduceIte, Nat.reduceEqDiff, eq_self, List.length_cons, List.length_nil, List.length_append] <;> omega)) (by first | assumption | omega | (simp only [upS, reduceIte, Nat.reduceEqDiff, eq_self, List.length_cons, List.length_nil, List.length_append] <;> omega))) mw4_init ml9_50 [14] [0, 1, 2, 3, 4, 5, 6, 7, 8, 9, 10, 11, 12, 13] rfl rfl ⟨rfl, rfl⟩ (by decide) ⟨Nat.le_of_ble_eq_true rfl, Nat.le_of_ble_eq_true rfl⟩ rfl (rest := [.ref q54, .ref (xa 14)]) rfl (Nat.le_of_ble_eq_true rfl) d9_bell_49 ⟨Nat.le_of_ble_eq_true rfl, Nat.le_of_ble_eq_true rfl⟩ (fun r w1 hr => ?_)
    obtain ⟨c0_56, rfl, rfl, hq55⟩ := hr
    refine j_eq (ws' := [(xo, xO xa X), (xa 2, aRef E 3 4 ck), (da, aInt E 24 dr), (sa, aInt E 24 sr), (xa 13, o3 (some (xa 12)) (some (xa 31)) (upS (upS Q 1 q1) 2 q2)), (xa 31, aLng E 39852 kn2), (xa 14, o2 (some (xa 12)) (some (xa 13)) (some (xa 32)) Y2), (xa 32, aInt E 12 pn2), (xa 12, o7 (some ca) (some (xa 30)) (upS (upS (upS (upS (upS T 1 t1_3) 3 (C 5)) 4 (C 6)) 5 (C 7)) 6 0)), (xa 30, aInt E 24 co), (ca, o1 (some pa) (some da) (some sa) C), (pa, aInt E 5 P), (xa 6, o5 (some (xa 20)) (some (xa 21)) (some (xa 22)) (some (xa 23)) U), (xa 20, aInt E 24 co), (q54, o4 (some c0_56) (upS (upS (upS (fun _ => 0) 0 2) 1 9) 2 0)), (c0_56, aInt E 0 (fun _ => 0))]) rfl rfl rfl ?_
    refine j_aload_n G 4 rfl d9_bell_52 ?_
    refine j_get G 0 9 6 in9 fl9_30 d9_bell_53 rfl rfl (by decide) (v := .ref (xa 6)) rfl rfl ?_
    refine j_get G 12 5 2 in5 fl9_175 d9_bell_56 rfl rfl (by decide) (v := .int (iZ (U 2))) rfl rfl ?_
    refine j_VM G (rm' := { frames := 28, cells := 0, slots := 0, locals := 779 }) (wc := [(q54, o4 (some c0_56) (upS (upS (upS (fun _ => 0) 0 2) 1 9) 2 0)), (c0_56, aInt E 0 (fun _ => 0)), (xa 14, o2 (some (xa 12)) (some (xa 13)) (some (xa 32)) Y2), (xa 32, aInt E 12 pn2), (xa 13, o3 (some (xa 12)) (some (xa 31)) (upS (upS Q 1 q1) 2 q2)), (xa 31, aLng E 39852 kn2), (xa 12, o7 (some ca) (some (xa 30)) (upS (upS (upS (upS (upS T 1 t1_3) 3 (C 5)) 4 (C 6)) 5 (C 7)) 6 0)), (xa 30, aInt E 24 co), (ca, o1 (some pa) (some da) (some sa) C), (pa, aInt E 5 P), (da, aInt E 24 dr), (sa, aInt E 24 sr)]) (wr := [(xo, xO xa X), (xa 2, aRef E 3 4 ck), (xa 6, o5 (some (xa 20)) (some (xa 21)) (some (xa 22)) (some (xa 23)) U), (xa 20, aInt E 24 co)]) (k2_leadBy (xl Γ) E q54 c0_56 0 (upS (upS (upS (fun _ => 0) 0 2) 1 9) 2 0) (fun _ => 0) (xa 14) (xa 32) Y2 (xa 13) (xa 31) (upS (upS Q 1 q1) 2 q2) (xa 12) (xa 30) (upS (upS (upS (upS (upS T 1 t1_3) 3 (C 5)) 4 (C 6)) 5 (C 7)) 6 0) ca pa da sa C P dr sr co (kB C P D W co 1) kn2 pn2 (U 2) (tm_k (mt := 0) (ms := 0) (msp := 0) (mp := 0) (n := 1) rfl hwf (by omega) (by omega) (by omega) (by omega) (by omega) hco (fun s a b => by have q := hDW s a b; simp only [upS, reduceIte, Nat.reduceEqDiff]; rw [ht1, Int.add_zero]; exact q) (by first | (simp only [upS, reduceIte, Nat.reduceEqDiff]; omega) | simp only [upS, reduceIte, Nat.reduceEqDiff]) (by first | (simp only [upS, reduceIte, Nat.reduceEqDiff]; omega) | simp only [upS, reduceIte, Nat.reduceEqDiff]) (by first | (simp only [upS, reduceIte, Nat.reduceEqDiff]; omega) | simp only [upS, reduceIte, Nat.reduceEqDiff]) (by first | (simp only [upS, reduceIte, Nat.reduceEqDiff]; omega) | simp only [upS, reduceIte, Nat.reduceEqDiff]) (by first | (simp only [upS, reduceIte, Nat.reduceEqDiff]; omega) | simp only [upS, reduceIte, Nat.reduceEqDiff]) (fun s a b => ⟨rfl, by have q := hco (12 + s) (by omega) (by omega); omega⟩)) hkn2.1 (by first | assumption | omega | (simp only [upS, reduceIte, Nat.reduceEqDiff, eq_self, List.length_cons, List.length_nil, List.length_append] <;> omega)) (by first | assumption | omega | (simp only [upS, reduceIte, Nat.reduceEqDiff, eq_self, List.length_cons, List.length_nil, List.length_append] <;> omega)) (fun q => absurd (show (2 : Int) = 6 from q) (by decide)) (fun q => absurd (show (2 : Int) = 6 from q) (by decide)) (by first | assumption | omega | (simp only [upS, reduceIte, Nat.reduceEqDiff, eq_self, List.length_cons, List.length_nil, List.length_append] <;> omega))) mw2_leadBy ml9_201 [14, 15, 6, 7, 4, 5, 8, 9, 10, 11, 2, 3] [0, 1, 12, 13] rfl rfl ⟨rfl, rfl⟩ (by decide) 6 2 rfl rfl rfl ⟨Nat.le_of_ble_eq_true rfl, Nat.le_of_ble_eq_true rfl⟩ rfl (rest := []) rfl (Nat.le_of_ble_eq_true rfl) d9_bell_59 ⟨Nat.le_of_ble_eq_true rfl, Nat.le_of_ble_eq_true rfl⟩ (fun r w1 hr => ?_)
    obtain ⟨pn1_58, kn1_59, q1_60, y2_61, y3_62, y4_63, y5_64, y6_65, y7_66, y8_67, y9_68, y10_69, y11_70, y12_71, y13_72, rfl, rfl, ⟨hq57_0, hq57_1, hq57_2, hq57_3, hq57_4, hq57_5, hq57_6, hq57_7, hq57_8⟩⟩ := hr
    refine j_eq (ws' := [(xo, xO xa X), (xa 2, aRef E 3 4 ck), (xa 6, o5 (some (xa 20)) (some (xa 21)) (some (xa 22)) (some (xa 23)) U), (xa 20, aInt E 24 co), (q54, o4 (some c0_56) (upS (upS (upS (fun _ => 0) 0 2) 1 9) 2 0)), (c0_56, aInt E 0 (fun _ => 0)), (xa 14, o2 (some (xa 12)) (some (xa 13)) (some (xa 32)) (upS (upS (upS (upS (upS (upS (upS (upS (upS (upS (upS (upS Y2 2 y2_61) 3 y3_62) 4 y4_63) 5 y5_64) 6 y6_65) 7 y7_66) 8 y8_67) 9 y9_68) 10 y10_69) 11 y11_70) 12 y12_71) 13 y13_72)), (xa 32, aInt E 12 pn1_58), (xa 13, o3 (some (xa 12)) (some (xa 31)) (upS (upS Q 1 q1_60) 2 (q2 + 1))), (xa 31, aLng E 39852 kn1_59), (xa 12, o7 (some ca) (some (xa 30)) (upS (upS (upS (upS (upS T 1 t1_3) 3 (C 5)) 4 (C 6)) 5 (C 7)) 6 0)), (xa 30, aInt E 24 co), (ca, o1 (some pa) (some da) (some sa) C), (pa, aInt E 5 P), (da, aInt E 24 dr), (sa, aInt E 24 sr)]) rfl rfl rfl ?_
    try simp only [upS, reduceIte, Nat.reduceEqDiff, eq_self] at hq57_0 hq57_1 hq57_2 hq57_3 hq57_4 hq57_5 hq57_6 hq57_7 hq57_8
    have hA := hq57_0
    have hB := hq57_1
    have hC := hq57_2
    have hDd := hq57_3
    have hE := hq57_4
    have hF := hq57_5
    have hG := hq57_6
    have hH := hq57_7
    have hKB := hq57_8
    have hgg : (fun s st => ldI (kB C P D W co 1) 2 9 s st 0 (fun _ => 0)) = (gB (kB C P D W co 1) 2 9) := by funext s st; exact (gB_e (by decide)).symm
    rw [hgg] at hA hF
    have hok : okD (kB C P D W co 1) := okD_k (C := C) (P := P) (D := D) (W := W) (co := co) (mt := 0) (ms := 0) (msp := 0) (mp := 0) (n := 1) hwf (by omega) (by omega) (by omega) (by omega) (by omega) (fun s a b => (hDW s a b).2.2.2) hco
    have hAr := dyA_r (g := (gB (kB C P D W co 1) 2 9)) (f := dUp (kB C P D W co 1)) hok (st0 := 81 * U 2) (by omega) (fun s st h1 h2 => by have := dR hok h1 h2; omega) 12 (Nat.le_refl 12)
    rw [← hA] at hAr
    have hWv : beW (kB C P D W co 1) (81 * U 2) 9 = 100 * y9_68 + y3_62 := by unfold beW; rw [← hA, ← hF]; omega
    refine j_iload_n G 2 rfl d9_bell_62 ?_
    refine j_iconst G d9_bell_63 ?_
    refine j_icmp_eq (tgt := 78) G d9_bell_64 (by decide) (by omega) (by decide) (fun h73 => ?_) (fun h73 => ?_)
    ·
      exact absurd h73 (by omega)
    ·
      refine j_aload_n G 4 rfl d9_bell_67 ?_
      refine j_get G 0 9 14 in9 fl9_78 d9_bell_68 rfl rfl (by decide) (v := .ref (xa 14)) rfl rfl ?_
      refine j_VP G (k2_worth (xl Γ) E (xa 14) (xa 32) (upS (upS (upS (upS (upS (upS (upS (upS (upS (upS (upS (upS Y2 2 y2_61) 3 y3_62) 4 y4_63) 5 y5_64) 6 y6_65) 7 y7_66) 8 y8_67) 9 y9_68) 10 y10_69) 11 y11_70) 12 y12_71) 13 y13_72) (xa 12) (xa 13) ) mw2_worth ml9_241 [6] rfl 6 2 rfl rfl rfl ⟨Nat.le_of_ble_eq_true rfl, Nat.le_of_ble_eq_true rfl⟩ rfl (rest := []) rfl (Nat.le_of_ble_eq_true rfl) d9_bell_71 ⟨Nat.le_of_ble_eq_true rfl, Nat.le_of_ble_eq_true rfl⟩ (fun r hr => ?_)
      obtain ⟨_, rfl, rfl⟩ := hr
      refine j_eq (st' := [.int (iZ (100 * y9_68 + y3_62))]) rfl rfl rfl ?_
      refine j_iload_n G 1 rfl d9_bell_74 ?_
      refine j_icmp_le (tgt := 89) G d9_bell_75 (by decide) (by omega) (by omega) (fun h75 => ?_) (fun h75 => ?_)
      ·
        refine j_iinc G d9_bell_89 0 rfl (by decide) rfl ?_
        refine j_goto (tgt := 30) G d9_bell_92 (by decide) ?_
        refine j_eq (ls' := [(4, .int (iZ 10)), (3, .int (iZ w0)), (2, .int (iZ bst)), (1, .ref ca), (0, .ref xo)]) rfl rfl rfl ?_
        refine j_perm (ws' := [(xo, xO xa X), (xa 2, aRef E 3 4 ck), (da, aInt E 24 dr), (sa, aInt E 24 sr), (xa 13, o3 (some (xa 12)) (some (xa 31)) (upS (upS Q 1 q1_60) 2 (q2 + 1))), (xa 31, aLng E 39852 kn1_59), (xa 14, o2 (some (xa 12)) (some (xa 13)) (some (xa 32)) (upS (upS (upS (upS (upS (upS (upS (upS (upS (upS (upS (upS Y2 2 y2_61) 3 y3_62) 4 y4_63) 5 y5_64) 6 y6_65) 7 y7_66) 8 y8_67) 9 y9_68) 10 y10_69) 11 y11_70) 12 y12_71) 13 y13_72)), (xa 32, aInt E 12 pn1_58), (xa 12, o7 (some ca) (some (xa 30)) (upS (upS (upS (upS (upS T 1 t1_3) 3 (C 5)) 4 (C 6)) 5 (C 7)) 6 0)), (xa 30, aInt E 24 co), (ca, o1 (some pa) (some da) (some sa) C), (pa, aInt E 5 P), (xa 6, o5 (some (xa 20)) (some (xa 21)) (some (xa 22)) (some (xa 23)) U), (xa 20, aInt E 24 co)]) [0, 1, 14, 15, 8, 9, 6, 7, 10, 11, 12, 13, 2, 3] rfl rfl rfl ?_
        exact lpB10 bst w0 (upS (upS (upS (upS (upS (upS (upS (upS (upS (upS (upS (upS Y2 2 y2_61) 3 y3_62) 4 y4_63) 5 y5_64) 6 y6_65) 7 y7_66) 8 y8_67) 9 y9_68) 10 y10_69) 11 y11_70) 12 y12_71) 13 y13_72) kn1_59 pn1_58 q1_60 (q2 + 1) (by omega) ⟨hKB, by omega, by omega⟩ (hw.trans ((beF_s (kB C P D W co 1) (81 * U 2) 2 9 bst w0).trans (by rw [hWv, if_pos (by omega), show (9 : Int) + 1 = 10 by rfl])))
      ·
        refine j_iload G 0 rfl d9_bell_78 ?_
        refine j_istore_n G d9_bell_80 (by decide) rfl ?_
        refine j_aload_n G 4 rfl d9_bell_81 ?_
        refine j_get G 0 9 14 in9 fl9_78 d9_bell_82 rfl rfl (by decide) (v := .ref (xa 14)) rfl rfl ?_
        refine j_VP G (k2_worth (xl Γ) E (xa 14) (xa 32) (upS (upS (upS (upS (upS (upS (upS (upS (upS (upS (upS (upS Y2 2 y2_61) 3 y3_62) 4 y4_63) 5 y5_64) 6 y6_65) 7 y7_66) 8 y8_67) 9 y9_68) 10 y10_69) 11 y11_70) 12 y12_71) 13 y13_72) (xa 12) (xa 13) ) mw2_worth ml9_241 [6] rfl 6 2 rfl rfl rfl ⟨Nat.le_of_ble_eq_true rfl, Nat.le_of_ble_eq_true rfl⟩ rfl (rest := []) rfl (Nat.le_of_ble_eq_true rfl) d9_bell_85 ⟨Nat.le_of_ble_eq_true rfl, Nat.le_of_ble_eq_true rfl⟩ (fun r hr => ?_)
        obtain ⟨_, rfl, rfl⟩ := hr
        refine j_eq (st' := [.int (iZ (100 * y9_68 + y3_62))]) rfl rfl rfl ?_
        refine j_istore_n G d9_bell_88 (by decide) rfl ?_
        refine j_iinc G d9_bell_89 2 rfl (by decide) rfl ?_
        refine j_goto (tgt := 30) G d9_bell_92 (by decide) ?_
        refine j_eq (ls' := [(4, .int (iZ 10)), (3, .int (iZ (100 * y9_68 + y3_62))), (2, .int (iZ 9)), (1, .ref ca), (0, .ref xo)]) rfl rfl rfl ?_
        refine j_perm (ws' := [(xo, xO xa X), (xa 2, aRef E 3 4 ck), (da, aInt E 24 dr), (sa, aInt E 24 sr), (xa 13, o3 (some (xa 12)) (some (xa 31)) (upS (upS Q 1 q1_60) 2 (q2 + 1))), (xa 31, aLng E 39852 kn1_59), (xa 14, o2 (some (xa 12)) (some (xa 13)) (some (xa 32)) (upS (upS (upS (upS (upS (upS (upS (upS (upS (upS (upS (upS Y2 2 y2_61) 3 y3_62) 4 y4_63) 5 y5_64) 6 y6_65) 7 y7_66) 8 y8_67) 9 y9_68) 10 y10_69) 11 y11_70) 12 y12_71) 13 y13_72)), (xa 32, aInt E 12 pn1_58), (xa 12, o7 (some ca) (some (xa 30)) (upS (upS (upS (upS (upS T 1 t1_3) 3 (C 5)) 4 (C 6)) 5 (C 7)) 6 0)), (xa 30, aInt E 24 co), (ca, o1 (some pa) (some da) (some sa) C), (pa, aInt E 5 P), (xa 6, o5 (some (xa 20)) (some (xa 21)) (some (xa 22)) (some (xa 23)) U), (xa 20, aInt E 24 co)]) [0, 1, 14, 15, 8, 9, 6, 7, 10, 11, 12, 13, 2, 3] rfl rfl rfl ?_
        exact lpB10 9 (100 * y9_68 + y3_62) (upS (upS (upS (upS (upS (upS (upS (upS (upS (upS (upS (upS Y2 2 y2_61) 3 y3_62) 4 y4_63) 5 y5_64) 6 y6_65) 7 y7_66) 8 y8_67) 9 y9_68) 10 y10_69) 11 y11_70) 12 y12_71) 13 y13_72) kn1_59 pn1_58 q1_60 (q2 + 1) (by omega) ⟨hKB, by omega, by omega⟩ (hw.trans ((beF_s (kB C P D W co 1) (81 * U 2) 2 9 bst w0).trans (by rw [hWv, if_neg (by omega), show (9 : Int) + 1 = 10 by rfl])))
  have lpB8 : ∀ (bst : Int) (w0 : Int) (Y2 : Nat → Int) (kn2 : Int → Int) (pn2 : Int → Int) (q1 : Int) (q2 : Int), ((0 ≤ bst ∧ bst ≤ 11) ∧ (0 ≤ w0 ∧ w0 ≤ 8000)) → (KnB q2 kn2 ∧ q2 ≤ Q 2 + 8 ∧ Q 2 ≤ q2) → (beF (kB C P D W co 1) (81 * U 2) 12 0 0 (-1) = beF (kB C P D W co 1) (81 * U 2) 4 8 bst w0) →  J E 5 Γ (some A) 16 40 [(xo, xO xa X), (xa 2, aRef E 3 4 ck), (da, aInt E 24 dr), (sa, aInt E 24 sr), (xa 13, o3 (some (xa 12)) (some (xa 31)) (upS (upS Q 1 q1) 2 q2)), (xa 31, aLng E 39852 kn2), (xa 14, o2 (some (xa 12)) (some (xa 13)) (some (xa 32)) Y2), (xa 32, aInt E 12 pn2), (xa 12, o7 (some ca) (some (xa 30)) (upS (upS (upS (upS (upS T 1 t1_3) 3 (C 5)) 4 (C 6)) 5 (C 7)) 6 0)), (xa 30, aInt E 24 co), (ca, o1 (some pa) (some da) (some sa) C), (pa, aInt E 5 P), (xa 6, o5 (some (xa 20)) (some (xa 21)) (some (xa 22)) (some (xa 23)) U), (xa 20, aInt E 24 co)] 30 [(4, .int (iZ 8)), (3, .int (iZ w0)), (2, .int (iZ bst)), (1, .ref ca), (0, .ref xo)] [] := by
    intro bst w0 Y2 kn2 pn2 q1 q2 hw0 hkn2 hw
    refine j_iload G 0 rfl d9_bell_30 ?_
    refine j_bipush G d9_bell_32 rfl ?_
    refine j_icmp_gt (tgt := 95) G d9_bell_34 (by decide) (by decide) (by decide) (fun h77 => absurd h77 (by decide)) (fun h77 => ?_)
    refine j_aload_n G 4 rfl d9_bell_37 ?_
    refine j_get G 0 9 14 in9 fl9_78 d9_bell_38 rfl rfl (by decide) (v := .ref (xa 14)) rfl rfl ?_
    refine j_new G 4 (fs := z4) in4 tyok4 cl9_21 is4 ini4 rfl hz4 ⟨Nat.le_of_ble_eq_true rfl, Nat.le_of_ble_eq_true rfl⟩ d9_bell_41 (fun q78 => ?_)
    refine j_dup G d9_bell_44 rfl ?_
    refine j_iconst G d9_bell_45 ?_
    refine j_iload G 0 rfl d9_bell_46 ?_
    refine j_iconst G d9_bell_48 ?_
    refine j_IM G (rm' := { frames := 1, cells := 1, slots := 0, locals := 12 }) (wc := [(q78, o4 none (fun _ => 0))]) (wr := [(xo, xO xa X), (xa 2, aRef E 3 4 ck), (da, aInt E 24 dr), (sa, aInt E 24 sr), (xa 13, o3 (some (xa 12)) (some (xa 31)) (upS (upS Q 1 q1) 2 q2)), (xa 31, aLng E 39852 kn2), (xa 14, o2 (some (xa 12)) (some (xa 13)) (some (xa 32)) Y2), (xa 32, aInt E 12 pn2), (xa 12, o7 (some ca) (some (xa 30)) (upS (upS (upS (upS (upS T 1 t1_3) 3 (C 5)) 4 (C 6)) 5 (C 7)) 6 0)), (xa 30, aInt E 24 co), (ca, o1 (some pa) (some da) (some sa) C), (pa, aInt E 5 P), (xa 6, o5 (some (xa 20)) (some (xa 21)) (some (xa 22)) (some (xa 23)) U), (xa 20, aInt E 24 co)]) (k4_initb (xl Γ) E q78 2 8 0 (by first | assumption | omega | (simp only [upS, reduceIte, Nat.reduceEqDiff, eq_self, List.length_cons, List.length_nil, List.length_append] <;> omega)) (by first | assumption | omega | (simp only [upS, reduceIte, Nat.reduceEqDiff, eq_self, List.length_cons, List.length_nil, List.length_append] <;> omega))) mw4_init ml9_50 [14] [0, 1, 2, 3, 4, 5, 6, 7, 8, 9, 10, 11, 12, 13] rfl rfl ⟨rfl, rfl⟩ (by decide) ⟨Nat.le_of_ble_eq_true rfl, Nat.le_of_ble_eq_true rfl⟩ rfl (rest := [.ref q78, .ref (xa 14)]) rfl (Nat.le_of_ble_eq_true rfl) d9_bell_49 ⟨Nat.le_of_ble_eq_true rfl, Nat.le_of_ble_eq_true rfl⟩ (fun r w1 hr => ?_)
    obtain ⟨c0_80, rfl, rfl, hq79⟩ := hr
    refine j_eq (ws' := [(xo, xO xa X), (xa 2, aRef E 3 4 ck), (da, aInt E 24 dr), (sa, aInt E 24 sr), (xa 13, o3 (some (xa 12)) (some (xa 31)) (upS (upS Q 1 q1) 2 q2)), (xa 31, aLng E 39852 kn2), (xa 14, o2 (some (xa 12)) (some (xa 13)) (some (xa 32)) Y2), (xa 32, aInt E 12 pn2), (xa 12, o7 (some ca) (some (xa 30)) (upS (upS (upS (upS (upS T 1 t1_3) 3 (C 5)) 4 (C 6)) 5 (C 7)) 6 0)), (xa 30, aInt E 24 co), (ca, o1 (some pa) (some da) (some sa) C), (pa, aInt E 5 P), (xa 6, o5 (some (xa 20)) (some (xa 21)) (some (xa 22)) (some (xa 23)) U), (xa 20, aInt E 24 co), (q78, o4 (some c0_80) (upS (upS (upS (fun _ => 0) 0 2) 1 8) 2 0)), (c0_80, aInt E 0 (fun _ => 0))]) rfl rfl rfl ?_
    refine j_aload_n G 4 rfl d9_bell_52 ?_
    refine j_get G 0 9 6 in9 fl9_30 d9_bell_53 rfl rfl (by decide) (v := .ref (xa 6)) rfl rfl ?_
    refine j_get G 12 5 2 in5 fl9_175 d9_bell_56 rfl rfl (by decide) (v := .int (iZ (U 2))) rfl rfl ?_
    refine j_VM G (rm' := { frames := 28, cells := 0, slots := 0, locals := 779 }) (wc := [(q78, o4 (some c0_80) (upS (upS (upS (fun _ => 0) 0 2) 1 8) 2 0)), (c0_80, aInt E 0 (fun _ => 0)), (xa 14, o2 (some (xa 12)) (some (xa 13)) (some (xa 32)) Y2), (xa 32, aInt E 12 pn2), (xa 13, o3 (some (xa 12)) (some (xa 31)) (upS (upS Q 1 q1) 2 q2)), (xa 31, aLng E 39852 kn2), (xa 12, o7 (some ca) (some (xa 30)) (upS (upS (upS (upS (upS T 1 t1_3) 3 (C 5)) 4 (C 6)) 5 (C 7)) 6 0)), (xa 30, aInt E 24 co), (ca, o1 (some pa) (some da) (some sa) C), (pa, aInt E 5 P), (da, aInt E 24 dr), (sa, aInt E 24 sr)]) (wr := [(xo, xO xa X), (xa 2, aRef E 3 4 ck), (xa 6, o5 (some (xa 20)) (some (xa 21)) (some (xa 22)) (some (xa 23)) U), (xa 20, aInt E 24 co)]) (k2_leadBy (xl Γ) E q78 c0_80 0 (upS (upS (upS (fun _ => 0) 0 2) 1 8) 2 0) (fun _ => 0) (xa 14) (xa 32) Y2 (xa 13) (xa 31) (upS (upS Q 1 q1) 2 q2) (xa 12) (xa 30) (upS (upS (upS (upS (upS T 1 t1_3) 3 (C 5)) 4 (C 6)) 5 (C 7)) 6 0) ca pa da sa C P dr sr co (kB C P D W co 1) kn2 pn2 (U 2) (tm_k (mt := 0) (ms := 0) (msp := 0) (mp := 0) (n := 1) rfl hwf (by omega) (by omega) (by omega) (by omega) (by omega) hco (fun s a b => by have q := hDW s a b; simp only [upS, reduceIte, Nat.reduceEqDiff]; rw [ht1, Int.add_zero]; exact q) (by first | (simp only [upS, reduceIte, Nat.reduceEqDiff]; omega) | simp only [upS, reduceIte, Nat.reduceEqDiff]) (by first | (simp only [upS, reduceIte, Nat.reduceEqDiff]; omega) | simp only [upS, reduceIte, Nat.reduceEqDiff]) (by first | (simp only [upS, reduceIte, Nat.reduceEqDiff]; omega) | simp only [upS, reduceIte, Nat.reduceEqDiff]) (by first | (simp only [upS, reduceIte, Nat.reduceEqDiff]; omega) | simp only [upS, reduceIte, Nat.reduceEqDiff]) (by first | (simp only [upS, reduceIte, Nat.reduceEqDiff]; omega) | simp only [upS, reduceIte, Nat.reduceEqDiff]) (fun s a b => ⟨rfl, by have q := hco (12 + s) (by omega) (by omega); omega⟩)) hkn2.1 (by first | assumption | omega | (simp only [upS, reduceIte, Nat.reduceEqDiff, eq_self, List.length_cons, List.length_nil, List.length_append] <;> omega)) (by first | assumption | omega | (simp only [upS, reduceIte, Nat.reduceEqDiff, eq_self, List.length_cons, List.length_nil, List.length_append] <;> omega)) (fun q => absurd (show (2 : Int) = 6 from q) (by decide)) (fun q => absurd (show (2 : Int) = 6 from q) (by decide)) (by first | assumption | omega | (simp only [upS, reduceIte, Nat.reduceEqDiff, eq_self, List.length_cons, List.length_nil, List.length_append] <;> omega))) mw2_leadBy ml9_201 [14, 15, 6, 7, 4, 5, 8, 9, 10, 11, 2, 3] [0, 1, 12, 13] rfl rfl ⟨rfl, rfl⟩ (by decide) 6 2 rfl rfl rfl ⟨Nat.le_of_ble_eq_true rfl, Nat.le_of_ble_eq_true rfl⟩ rfl (rest := []) rfl (Nat.le_of_ble_eq_true rfl) d9_bell_59 ⟨Nat.le_of_ble_eq_true rfl, Nat.le_of_ble_eq_true rfl⟩ (fun r w1 hr => ?_)
    obtain ⟨pn1_82, kn1_83, q1_84, y2_85, y3_86, y4_87, y5_88, y6_89, y7_90, y8_91, y9_92, y10_93, y11_94, y12_95, y13_96, rfl, rfl, ⟨hq81_0, hq81_1, hq81_2, hq81_3, hq81_4, hq81_5, hq81_6, hq81_7, hq81_8⟩⟩ := hr
    refine j_eq (ws' := [(xo, xO xa X), (xa 2, aRef E 3 4 ck), (xa 6, o5 (some (xa 20)) (some (xa 21)) (some (xa 22)) (some (xa 23)) U), (xa 20, aInt E 24 co), (q78, o4 (some c0_80) (upS (upS (upS (fun _ => 0) 0 2) 1 8) 2 0)), (c0_80, aInt E 0 (fun _ => 0)), (xa 14, o2 (some (xa 12)) (some (xa 13)) (some (xa 32)) (upS (upS (upS (upS (upS (upS (upS (upS (upS (upS (upS (upS Y2 2 y2_85) 3 y3_86) 4 y4_87) 5 y5_88) 6 y6_89) 7 y7_90) 8 y8_91) 9 y9_92) 10 y10_93) 11 y11_94) 12 y12_95) 13 y13_96)), (xa 32, aInt E 12 pn1_82), (xa 13, o3 (some (xa 12)) (some (xa 31)) (upS (upS Q 1 q1_84) 2 (q2 + 1))), (xa 31, aLng E 39852 kn1_83), (xa 12, o7 (some ca) (some (xa 30)) (upS (upS (upS (upS (upS T 1 t1_3) 3 (C 5)) 4 (C 6)) 5 (C 7)) 6 0)), (xa 30, aInt E 24 co), (ca, o1 (some pa) (some da) (some sa) C), (pa, aInt E 5 P), (da, aInt E 24 dr), (sa, aInt E 24 sr)]) rfl rfl rfl ?_
    try simp only [upS, reduceIte, Nat.reduceEqDiff, eq_self] at hq81_0 hq81_1 hq81_2 hq81_3 hq81_4 hq81_5 hq81_6 hq81_7 hq81_8
    have hA := hq81_0
    have hB := hq81_1
    have hC := hq81_2
    have hDd := hq81_3
    have hE := hq81_4
    have hF := hq81_5
    have hG := hq81_6
    have hH := hq81_7
    have hKB := hq81_8
    have hgg : (fun s st => ldI (kB C P D W co 1) 2 8 s st 0 (fun _ => 0)) = (gB (kB C P D W co 1) 2 8) := by funext s st; exact (gB_e (by decide)).symm
    rw [hgg] at hA hF
    have hok : okD (kB C P D W co 1) := okD_k (C := C) (P := P) (D := D) (W := W) (co := co) (mt := 0) (ms := 0) (msp := 0) (mp := 0) (n := 1) hwf (by omega) (by omega) (by omega) (by omega) (by omega) (fun s a b => (hDW s a b).2.2.2) hco
    have hAr := dyA_r (g := (gB (kB C P D W co 1) 2 8)) (f := dUp (kB C P D W co 1)) hok (st0 := 81 * U 2) (by omega) (fun s st h1 h2 => by have := dR hok h1 h2; omega) 12 (Nat.le_refl 12)
    rw [← hA] at hAr
    have hWv : beW (kB C P D W co 1) (81 * U 2) 8 = 100 * y9_92 + y3_86 := by unfold beW; rw [← hA, ← hF]; omega
    refine j_iload_n G 2 rfl d9_bell_62 ?_
    refine j_iconst G d9_bell_63 ?_
    refine j_icmp_eq (tgt := 78) G d9_bell_64 (by decide) (by omega) (by decide) (fun h97 => ?_) (fun h97 => ?_)
    ·
      exact absurd h97 (by omega)
    ·
      refine j_aload_n G 4 rfl d9_bell_67 ?_
      refine j_get G 0 9 14 in9 fl9_78 d9_bell_68 rfl rfl (by decide) (v := .ref (xa 14)) rfl rfl ?_
      refine j_VP G (k2_worth (xl Γ) E (xa 14) (xa 32) (upS (upS (upS (upS (upS (upS (upS (upS (upS (upS (upS (upS Y2 2 y2_85) 3 y3_86) 4 y4_87) 5 y5_88) 6 y6_89) 7 y7_90) 8 y8_91) 9 y9_92) 10 y10_93) 11 y11_94) 12 y12_95) 13 y13_96) (xa 12) (xa 13) ) mw2_worth ml9_241 [6] rfl 6 2 rfl rfl rfl ⟨Nat.le_of_ble_eq_true rfl, Nat.le_of_ble_eq_true rfl⟩ rfl (rest := []) rfl (Nat.le_of_ble_eq_true rfl) d9_bell_71 ⟨Nat.le_of_ble_eq_true rfl, Nat.le_of_ble_eq_true rfl⟩ (fun r hr => ?_)
      obtain ⟨_, rfl, rfl⟩ := hr
      refine j_eq (st' := [.int (iZ (100 * y9_92 + y3_86))]) rfl rfl rfl ?_
      refine j_iload_n G 1 rfl d9_bell_74 ?_
      refine j_icmp_le (tgt := 89) G d9_bell_75 (by decide) (by omega) (by omega) (fun h99 => ?_) (fun h99 => ?_)
      ·
        refine j_iinc G d9_bell_89 0 rfl (by decide) rfl ?_
        refine j_goto (tgt := 30) G d9_bell_92 (by decide) ?_
        refine j_eq (ls' := [(4, .int (iZ 9)), (3, .int (iZ w0)), (2, .int (iZ bst)), (1, .ref ca), (0, .ref xo)]) rfl rfl rfl ?_
        refine j_perm (ws' := [(xo, xO xa X), (xa 2, aRef E 3 4 ck), (da, aInt E 24 dr), (sa, aInt E 24 sr), (xa 13, o3 (some (xa 12)) (some (xa 31)) (upS (upS Q 1 q1_84) 2 (q2 + 1))), (xa 31, aLng E 39852 kn1_83), (xa 14, o2 (some (xa 12)) (some (xa 13)) (some (xa 32)) (upS (upS (upS (upS (upS (upS (upS (upS (upS (upS (upS (upS Y2 2 y2_85) 3 y3_86) 4 y4_87) 5 y5_88) 6 y6_89) 7 y7_90) 8 y8_91) 9 y9_92) 10 y10_93) 11 y11_94) 12 y12_95) 13 y13_96)), (xa 32, aInt E 12 pn1_82), (xa 12, o7 (some ca) (some (xa 30)) (upS (upS (upS (upS (upS T 1 t1_3) 3 (C 5)) 4 (C 6)) 5 (C 7)) 6 0)), (xa 30, aInt E 24 co), (ca, o1 (some pa) (some da) (some sa) C), (pa, aInt E 5 P), (xa 6, o5 (some (xa 20)) (some (xa 21)) (some (xa 22)) (some (xa 23)) U), (xa 20, aInt E 24 co)]) [0, 1, 14, 15, 8, 9, 6, 7, 10, 11, 12, 13, 2, 3] rfl rfl rfl ?_
        exact lpB9 bst w0 (upS (upS (upS (upS (upS (upS (upS (upS (upS (upS (upS (upS Y2 2 y2_85) 3 y3_86) 4 y4_87) 5 y5_88) 6 y6_89) 7 y7_90) 8 y8_91) 9 y9_92) 10 y10_93) 11 y11_94) 12 y12_95) 13 y13_96) kn1_83 pn1_82 q1_84 (q2 + 1) (by omega) ⟨hKB, by omega, by omega⟩ (hw.trans ((beF_s (kB C P D W co 1) (81 * U 2) 3 8 bst w0).trans (by rw [hWv, if_pos (by omega), show (8 : Int) + 1 = 9 by rfl])))
      ·
        refine j_iload G 0 rfl d9_bell_78 ?_
        refine j_istore_n G d9_bell_80 (by decide) rfl ?_
        refine j_aload_n G 4 rfl d9_bell_81 ?_
        refine j_get G 0 9 14 in9 fl9_78 d9_bell_82 rfl rfl (by decide) (v := .ref (xa 14)) rfl rfl ?_
        refine j_VP G (k2_worth (xl Γ) E (xa 14) (xa 32) (upS (upS (upS (upS (upS (upS (upS (upS (upS (upS (upS (upS Y2 2 y2_85) 3 y3_86) 4 y4_87) 5 y5_88) 6 y6_89) 7 y7_90) 8 y8_91) 9 y9_92) 10 y10_93) 11 y11_94) 12 y12_95) 13 y13_96) (xa 12) (xa 13) ) mw2_worth ml9_241 [6] rfl 6 2 rfl rfl rfl ⟨Nat.le_of_ble_eq_true rfl, Nat.le_of_ble_eq_true rfl⟩ rfl (rest := []) rfl (Nat.le_of_ble_eq_true rfl) d9_bell_85 ⟨Nat.le_of_ble_eq_true rfl, Nat.le_of_ble_eq_true rfl⟩ (fun r hr => ?_)
        obtain ⟨_, rfl, rfl⟩ := hr
        refine j_eq (st' := [.int (iZ (100 * y9_92 + y3_86))]) rfl rfl rfl ?_
        refine j_istore_n G d9_bell_88 (by decide) rfl ?_
        refine j_iinc G d9_bell_89 2 rfl (by decide) rfl ?_
        refine j_goto (tgt := 30) G d9_bell_92 (by decide) ?_
        refine j_eq (ls' := [(4, .int (iZ 9)), (3, .int (iZ (100 * y9_92 + y3_86))), (2, .int (iZ 8)), (1, .ref ca), (0, .ref xo)]) rfl rfl rfl ?_
        refine j_perm (ws' := [(xo, xO xa X), (xa 2, aRef E 3 4 ck), (da, aInt E 24 dr), (sa, aInt E 24 sr), (xa 13, o3 (some (xa 12)) (some (xa 31)) (upS (upS Q 1 q1_84) 2 (q2 + 1))), (xa 31, aLng E 39852 kn1_83), (xa 14, o2 (some (xa 12)) (some (xa 13)) (some (xa 32)) (upS (upS (upS (upS (upS (upS (upS (upS (upS (upS (upS (upS Y2 2 y2_85) 3 y3_86) 4 y4_87) 5 y5_88) 6 y6_89) 7 y7_90) 8 y8_91) 9 y9_92) 10 y10_93) 11 y11_94) 12 y12_95) 13 y13_96)), (xa 32, aInt E 12 pn1_82), (xa 12, o7 (some ca) (some (xa 30)) (upS (upS (upS (upS (upS T 1 t1_3) 3 (C 5)) 4 (C 6)) 5 (C 7)) 6 0)), (xa 30, aInt E 24 co), (ca, o1 (some pa) (some da) (some sa) C), (pa, aInt E 5 P), (xa 6, o5 (some (xa 20)) (some (xa 21)) (some (xa 22)) (some (xa 23)) U), (xa 20, aInt E 24 co)]) [0, 1, 14, 15, 8, 9, 6, 7, 10, 11, 12, 13, 2, 3] rfl rfl rfl ?_
        exact lpB9 8 (100 * y9_92 + y3_86) (upS (upS (upS (upS (upS (upS (upS (upS (upS (upS (upS (upS Y2 2 y2_85) 3 y3_86) 4 y4_87) 5 y5_88) 6 y6_89) 7 y7_90) 8 y8_91) 9 y9_92) 10 y10_93) 11 y11_94) 12 y12_95) 13 y13_96) kn1_83 pn1_82 q1_84 (q2 + 1) (by omega) ⟨hKB, by omega, by omega⟩ (hw.trans ((beF_s (kB C P D W co 1) (81 * U 2) 3 8 bst w0).trans (by rw [hWv, if_neg (by omega), show (8 : Int) + 1 = 9 by rfl])))
  have lpB7 : ∀ (bst : Int) (w0 : Int) (Y2 : Nat → Int) (kn2 : Int → Int) (pn2 : Int → Int) (q1 : Int) (q2 : Int), ((0 ≤ bst ∧ bst ≤ 11) ∧ (0 ≤ w0 ∧ w0 ≤ 8000)) → (KnB q2 kn2 ∧ q2 ≤ Q 2 + 7 ∧ Q 2 ≤ q2) → (beF (kB C P D W co 1) (81 * U 2) 12 0 0 (-1) = beF (kB C P D W co 1) (81 * U 2) 5 7 bst w0) →  J E 5 Γ (some A) 14 35 [(xo, xO xa X), (xa 2, aRef E 3 4 ck), (da, aInt E 24 dr), (sa, aInt E 24 sr), (xa 13, o3 (some (xa 12)) (some (xa 31)) (upS (upS Q 1 q1) 2 q2)), (xa 31, aLng E 39852 kn2), (xa 14, o2 (some (xa 12)) (some (xa 13)) (some (xa 32)) Y2), (xa 32, aInt E 12 pn2), (xa 12, o7 (some ca) (some (xa 30)) (upS (upS (upS (upS (upS T 1 t1_3) 3 (C 5)) 4 (C 6)) 5 (C 7)) 6 0)), (xa 30, aInt E 24 co), (ca, o1 (some pa) (some da) (some sa) C), (pa, aInt E 5 P), (xa 6, o5 (some (xa 20)) (some (xa 21)) (some (xa 22)) (some (xa 23)) U), (xa 20, aInt E 24 co)] 30 [(4, .int (iZ 7)), (3, .int (iZ w0)), (2, .int (iZ bst)), (1, .ref ca), (0, .ref xo)] [] := by
    intro bst w0 Y2 kn2 pn2 q1 q2 hw0 hkn2 hw
    refine j_iload G 0 rfl d9_bell_30 ?_
    refine j_bipush G d9_bell_32 rfl ?_
    refine j_icmp_gt (tgt := 95) G d9_bell_34 (by decide) (by decide) (by decide) (fun h101 => absurd h101 (by decide)) (fun h101 => ?_)
    refine j_aload_n G 4 rfl d9_bell_37 ?_
    refine j_get G 0 9 14 in9 fl9_78 d9_bell_38 rfl rfl (by decide) (v := .ref (xa 14)) rfl rfl ?_
    refine j_new G 4 (fs := z4) in4 tyok4 cl9_21 is4 ini4 rfl hz4 ⟨Nat.le_of_ble_eq_true rfl, Nat.le_of_ble_eq_true rfl⟩ d9_bell_41 (fun q102 => ?_)
    refine j_dup G d9_bell_44 rfl ?_
    refine j_iconst G d9_bell_45 ?_
    refine j_iload G 0 rfl d9_bell_46 ?_
    refine j_iconst G d9_bell_48 ?_
    refine j_IM G (rm' := { frames := 1, cells := 1, slots := 0, locals := 12 }) (wc := [(q102, o4 none (fun _ => 0))]) (wr := [(xo, xO xa X), (xa 2, aRef E 3 4 ck), (da, aInt E 24 dr), (sa, aInt E 24 sr), (xa 13, o3 (some (xa 12)) (some (xa 31)) (upS (upS Q 1 q1) 2 q2)), (xa 31, aLng E 39852 kn2), (xa 14, o2 (some (xa 12)) (some (xa 13)) (some (xa 32)) Y2), (xa 32, aInt E 12 pn2), (xa 12, o7 (some ca) (some (xa 30)) (upS (upS (upS (upS (upS T 1 t1_3) 3 (C 5)) 4 (C 6)) 5 (C 7)) 6 0)), (xa 30, aInt E 24 co), (ca, o1 (some pa) (some da) (some sa) C), (pa, aInt E 5 P), (xa 6, o5 (some (xa 20)) (some (xa 21)) (some (xa 22)) (some (xa 23)) U), (xa 20, aInt E 24 co)]) (k4_initb (xl Γ) E q102 2 7 0 (by first | assumption | omega | (simp only [upS, reduceIte, Nat.reduceEqDiff, eq_self, List.length_cons, List.length_nil, List.length_append] <;> omega)) (by first | assumption | omega | (simp only [upS, reduceIte, Nat.reduceEqDiff, eq_self, List.length_cons, List.length_nil, List.length_append] <;> omega))) mw4_init ml9_50 [14] [0, 1, 2, 3, 4, 5, 6, 7, 8, 9, 10, 11, 12, 13] rfl rfl ⟨rfl, rfl⟩ (by decide) ⟨Nat.le_of_ble_eq_true rfl, Nat.le_of_ble_eq_true rfl⟩ rfl (rest := [.ref q102, .ref (xa 14)]) rfl (Nat.le_of_ble_eq_true rfl) d9_bell_49 ⟨Nat.le_of_ble_eq_true rfl, Nat.le_of_ble_eq_true rfl⟩ (fun r w1 hr => ?_)
    obtain ⟨c0_104, rfl, rfl, hq103⟩ := hr
    refine j_eq (ws' := [(xo, xO xa X), (xa 2, aRef E 3 4 ck), (da, aInt E 24 dr), (sa, aInt E 24 sr), (xa 13, o3 (some (xa 12)) (some (xa 31)) (upS (upS Q 1 q1) 2 q2)), (xa 31, aLng E 39852 kn2), (xa 14, o2 (some (xa 12)) (some (xa 13)) (some (xa 32)) Y2), (xa 32, aInt E 12 pn2), (xa 12, o7 (some ca) (some (xa 30)) (upS (upS (upS (upS (upS T 1 t1_3) 3 (C 5)) 4 (C 6)) 5 (C 7)) 6 0)), (xa 30, aInt E 24 co), (ca, o1 (some pa) (some da) (some sa) C), (pa, aInt E 5 P), (xa 6, o5 (some (xa 20)) (some (xa 21)) (some (xa 22)) (some (xa 23)) U), (xa 20, aInt E 24 co), (q102, o4 (some c0_104) (upS (upS (upS (fun _ => 0) 0 2) 1 7) 2 0)), (c0_104, aInt E 0 (fun _ => 0))]) rfl rfl rfl ?_
    refine j_aload_n G 4 rfl d9_bell_52 ?_
    refine j_get G 0 9 6 in9 fl9_30 d9_bell_53 rfl rfl (by decide) (v := .ref (xa 6)) rfl rfl ?_
    refine j_get G 12 5 2 in5 fl9_175 d9_bell_56 rfl rfl (by decide) (v := .int (iZ (U 2))) rfl rfl ?_
    refine j_VM G (rm' := { frames := 28, cells := 0, slots := 0, locals := 779 }) (wc := [(q102, o4 (some c0_104) (upS (upS (upS (fun _ => 0) 0 2) 1 7) 2 0)), (c0_104, aInt E 0 (fun _ => 0)), (xa 14, o2 (some (xa 12)) (some (xa 13)) (some (xa 32)) Y2), (xa 32, aInt E 12 pn2), (xa 13, o3 (some (xa 12)) (some (xa 31)) (upS (upS Q 1 q1) 2 q2)), (xa 31, aLng E 39852 kn2), (xa 12, o7 (some ca) (some (xa 30)) (upS (upS (upS (upS (upS T 1 t1_3) 3 (C 5)) 4 (C 6)) 5 (C 7)) 6 0)), (xa 30, aInt E 24 co), (ca, o1 (some pa) (some da) (some sa) C), (pa, aInt E 5 P), (da, aInt E 24 dr), (sa, aInt E 24 sr)]) (wr := [(xo, xO xa X), (xa 2, aRef E 3 4 ck), (xa 6, o5 (some (xa 20)) (some (xa 21)) (some (xa 22)) (some (xa 23)) U), (xa 20, aInt E 24 co)]) (k2_leadBy (xl Γ) E q102 c0_104 0 (upS (upS (upS (fun _ => 0) 0 2) 1 7) 2 0) (fun _ => 0) (xa 14) (xa 32) Y2 (xa 13) (xa 31) (upS (upS Q 1 q1) 2 q2) (xa 12) (xa 30) (upS (upS (upS (upS (upS T 1 t1_3) 3 (C 5)) 4 (C 6)) 5 (C 7)) 6 0) ca pa da sa C P dr sr co (kB C P D W co 1) kn2 pn2 (U 2) (tm_k (mt := 0) (ms := 0) (msp := 0) (mp := 0) (n := 1) rfl hwf (by omega) (by omega) (by omega) (by omega) (by omega) hco (fun s a b => by have q := hDW s a b; simp only [upS, reduceIte, Nat.reduceEqDiff]; rw [ht1, Int.add_zero]; exact q) (by first | (simp only [upS, reduceIte, Nat.reduceEqDiff]; omega) | simp only [upS, reduceIte, Nat.reduceEqDiff]) (by first | (simp only [upS, reduceIte, Nat.reduceEqDiff]; omega) | simp only [upS, reduceIte, Nat.reduceEqDiff]) (by first | (simp only [upS, reduceIte, Nat.reduceEqDiff]; omega) | simp only [upS, reduceIte, Nat.reduceEqDiff]) (by first | (simp only [upS, reduceIte, Nat.reduceEqDiff]; omega) | simp only [upS, reduceIte, Nat.reduceEqDiff]) (by first | (simp only [upS, reduceIte, Nat.reduceEqDiff]; omega) | simp only [upS, reduceIte, Nat.reduceEqDiff]) (fun s a b => ⟨rfl, by have q := hco (12 + s) (by omega) (by omega); omega⟩)) hkn2.1 (by first | assumption | omega | (simp only [upS, reduceIte, Nat.reduceEqDiff, eq_self, List.length_cons, List.length_nil, List.length_append] <;> omega)) (by first | assumption | omega | (simp only [upS, reduceIte, Nat.reduceEqDiff, eq_self, List.length_cons, List.length_nil, List.length_append] <;> omega)) (fun q => absurd (show (2 : Int) = 6 from q) (by decide)) (fun q => absurd (show (2 : Int) = 6 from q) (by decide)) (by first | assumption | omega | (simp only [upS, reduceIte, Nat.reduceEqDiff, eq_self, List.length_cons, List.length_nil, List.length_append] <;> omega))) mw2_leadBy ml9_201 [14, 15, 6, 7, 4, 5, 8, 9, 10, 11, 2, 3] [0, 1, 12, 13] rfl rfl ⟨rfl, rfl⟩ (by decide) 6 2 rfl rfl rfl ⟨Nat.le_of_ble_eq_true rfl, Nat.le_of_ble_eq_true rfl⟩ rfl (rest := []) rfl (Nat.le_of_ble_eq_true rfl) d9_bell_59 ⟨Nat.le_of_ble_eq_true rfl, Nat.le_of_ble_eq_true rfl⟩ (fun r w1 hr => ?_)
    obtain ⟨pn1_106, kn1_107, q1_108, y2_109, y3_110, y4_111, y5_112, y6_113, y7_114, y8_115, y9_116, y10_117, y11_118, y12_119, y13_120, rfl, rfl, ⟨hq105_0, hq105_1, hq105_2, hq105_3, hq105_4, hq105_5, hq105_6, hq105_7, hq105_8⟩⟩ := hr
    refine j_eq (ws' := [(xo, xO xa X), (xa 2, aRef E 3 4 ck), (xa 6, o5 (some (xa 20)) (some (xa 21)) (some (xa 22)) (some (xa 23)) U), (xa 20, aInt E 24 co), (q102, o4 (some c0_104) (upS (upS (upS (fun _ => 0) 0 2) 1 7) 2 0)), (c0_104, aInt E 0 (fun _ => 0)), (xa 14, o2 (some (xa 12)) (some (xa 13)) (some (xa 32)) (upS (upS (upS (upS (upS (upS (upS (upS (upS (upS (upS (upS Y2 2 y2_109) 3 y3_110) 4 y4_111) 5 y5_112) 6 y6_113) 7 y7_114) 8 y8_115) 9 y9_116) 10 y10_117) 11 y11_118) 12 y12_119) 13 y13_120)), (xa 32, aInt E 12 pn1_106), (xa 13, o3 (some (xa 12)) (some (xa 31)) (upS (upS Q 1 q1_108) 2 (q2 + 1))), (xa 31, aLng E 39852 kn1_107), (xa 12, o7 (some ca) (some (xa 30)) (upS (upS (upS (upS (upS T 1 t1_3) 3 (C 5)) 4 (C 6)) 5 (C 7)) 6 0)), (xa 30, aInt E 24 co), (ca, o1 (some pa) (some da) (some sa) C), (pa, aInt E 5 P), (da, aInt E 24 dr), (sa, aInt E 24 sr)]) rfl rfl rfl ?_
    try simp only [upS, reduceIte, Nat.reduceEqDiff, eq_self] at hq105_0 hq105_1 hq105_2 hq105_3 hq105_4 hq105_5 hq105_6 hq105_7 hq105_8
    have hA := hq105_0
    have hB := hq105_1
    have hC := hq105_2
    have hDd := hq105_3
    have hE := hq105_4
    have hF := hq105_5
    have hG := hq105_6
    have hH := hq105_7
    have hKB := hq105_8
    have hgg : (fun s st => ldI (kB C P D W co 1) 2 7 s st 0 (fun _ => 0)) = (gB (kB C P D W co 1) 2 7) := by funext s st; exact (gB_e (by decide)).symm
    rw [hgg] at hA hF
    have hok : okD (kB C P D W co 1) := okD_k (C := C) (P := P) (D := D) (W := W) (co := co) (mt := 0) (ms := 0) (msp := 0) (mp := 0) (n := 1) hwf (by omega) (by omega) (by omega) (by omega) (by omega) (fun s a b => (hDW s a b).2.2.2) hco
    have hAr := dyA_r (g := (gB (kB C P D W co 1) 2 7)) (f := dUp (kB C P D W co 1)) hok (st0 := 81 * U 2) (by omega) (fun s st h1 h2 => by have := dR hok h1 h2; omega) 12 (Nat.le_refl 12)
    rw [← hA] at hAr
    have hWv : beW (kB C P D W co 1) (81 * U 2) 7 = 100 * y9_116 + y3_110 := by unfold beW; rw [← hA, ← hF]; omega
    refine j_iload_n G 2 rfl d9_bell_62 ?_
    refine j_iconst G d9_bell_63 ?_
    refine j_icmp_eq (tgt := 78) G d9_bell_64 (by decide) (by omega) (by decide) (fun h121 => ?_) (fun h121 => ?_)
    ·
      exact absurd h121 (by omega)
    ·
      refine j_aload_n G 4 rfl d9_bell_67 ?_
      refine j_get G 0 9 14 in9 fl9_78 d9_bell_68 rfl rfl (by decide) (v := .ref (xa 14)) rfl rfl ?_
      refine j_VP G (k2_worth (xl Γ) E (xa 14) (xa 32) (upS (upS (upS (upS (upS (upS (upS (upS (upS (upS (upS (upS Y2 2 y2_109) 3 y3_110) 4 y4_111) 5 y5_112) 6 y6_113) 7 y7_114) 8 y8_115) 9 y9_116) 10 y10_117) 11 y11_118) 12 y12_119) 13 y13_120) (xa 12) (xa 13) ) mw2_worth ml9_241 [6] rfl 6 2 rfl rfl rfl ⟨Nat.le_of_ble_eq_true rfl, Nat.le_of_ble_eq_true rfl⟩ rfl (rest := []) rfl (Nat.le_of_ble_eq_true rfl) d9_bell_71 ⟨Nat.le_of_ble_eq_true rfl, Nat.le_of_ble_eq_true rfl⟩ (fun r hr => ?_)
      obtain ⟨_, rfl, rfl⟩ := hr
      refine j_eq (st' := [.int (iZ (100 * y9_116 + y3_110))]) rfl rfl rfl ?_
      refine j_iload_n G 1 rfl d9_bell_74 ?_
      refine j_icmp_le (tgt := 89) G d9_bell_75 (by decide) (by omega) (by omega) (fun h123 => ?_) (fun h123 => ?_)
      ·
        refine j_iinc G d9_bell_89 0 rfl (by decide) rfl ?_
        refine j_goto (tgt := 30) G d9_bell_92 (by decide) ?_
        refine j_eq (ls' := [(4, .int (iZ 8)), (3, .int (iZ w0)), (2, .int (iZ bst)), (1, .ref ca), (0, .ref xo)]) rfl rfl rfl ?_
        refine j_perm (ws' := [(xo, xO xa X), (xa 2, aRef E 3 4 ck), (da, aInt E 24 dr), (sa, aInt E 24 sr), (xa 13, o3 (some (xa 12)) (some (xa 31)) (upS (upS Q 1 q1_108) 2 (q2 + 1))), (xa 31, aLng E 39852 kn1_107), (xa 14, o2 (some (xa 12)) (some (xa 13)) (some (xa 32)) (upS (upS (upS (upS (upS (upS (upS (upS (upS (upS (upS (upS Y2 2 y2_109) 3 y3_110) 4 y4_111) 5 y5_112) 6 y6_113) 7 y7_114) 8 y8_115) 9 y9_116) 10 y10_117) 11 y11_118) 12 y12_119) 13 y13_120)), (xa 32, aInt E 12 pn1_106), (xa 12, o7 (some ca) (some (xa 30)) (upS (upS (upS (upS (upS T 1 t1_3) 3 (C 5)) 4 (C 6)) 5 (C 7)) 6 0)), (xa 30, aInt E 24 co), (ca, o1 (some pa) (some da) (some sa) C), (pa, aInt E 5 P), (xa 6, o5 (some (xa 20)) (some (xa 21)) (some (xa 22)) (some (xa 23)) U), (xa 20, aInt E 24 co)]) [0, 1, 14, 15, 8, 9, 6, 7, 10, 11, 12, 13, 2, 3] rfl rfl rfl ?_
        exact lpB8 bst w0 (upS (upS (upS (upS (upS (upS (upS (upS (upS (upS (upS (upS Y2 2 y2_109) 3 y3_110) 4 y4_111) 5 y5_112) 6 y6_113) 7 y7_114) 8 y8_115) 9 y9_116) 10 y10_117) 11 y11_118) 12 y12_119) 13 y13_120) kn1_107 pn1_106 q1_108 (q2 + 1) (by omega) ⟨hKB, by omega, by omega⟩ (hw.trans ((beF_s (kB C P D W co 1) (81 * U 2) 4 7 bst w0).trans (by rw [hWv, if_pos (by omega), show (7 : Int) + 1 = 8 by rfl])))
      ·
        refine j_iload G 0 rfl d9_bell_78 ?_
        refine j_istore_n G d9_bell_80 (by decide) rfl ?_
        refine j_aload_n G 4 rfl d9_bell_81 ?_
        refine j_get G 0 9 14 in9 fl9_78 d9_bell_82 rfl rfl (by decide) (v := .ref (xa 14)) rfl rfl ?_
        refine j_VP G (k2_worth (xl Γ) E (xa 14) (xa 32) (upS (upS (upS (upS (upS (upS (upS (upS (upS (upS (upS (upS Y2 2 y2_109) 3 y3_110) 4 y4_111) 5 y5_112) 6 y6_113) 7 y7_114) 8 y8_115) 9 y9_116) 10 y10_117) 11 y11_118) 12 y12_119) 13 y13_120) (xa 12) (xa 13) ) mw2_worth ml9_241 [6] rfl 6 2 rfl rfl rfl ⟨Nat.le_of_ble_eq_true rfl, Nat.le_of_ble_eq_true rfl⟩ rfl (rest := []) rfl (Nat.le_of_ble_eq_true rfl) d9_bell_85 ⟨Nat.le_of_ble_eq_true rfl, Nat.le_of_ble_eq_true rfl⟩ (fun r hr => ?_)
        obtain ⟨_, rfl, rfl⟩ := hr
        refine j_eq (st' := [.int (iZ (100 * y9_116 + y3_110))]) rfl rfl rfl ?_
        refine j_istore_n G d9_bell_88 (by decide) rfl ?_
        refine j_iinc G d9_bell_89 2 rfl (by decide) rfl ?_
        refine j_goto (tgt := 30) G d9_bell_92 (by decide) ?_
        refine j_eq (ls' := [(4, .int (iZ 8)), (3, .int (iZ (100 * y9_116 + y3_110))), (2, .int (iZ 7)), (1, .ref ca), (0, .ref xo)]) rfl rfl rfl ?_
        refine j_perm (ws' := [(xo, xO xa X), (xa 2, aRef E 3 4 ck), (da, aInt E 24 dr), (sa, aInt E 24 sr), (xa 13, o3 (some (xa 12)) (some (xa 31)) (upS (upS Q 1 q1_108) 2 (q2 + 1))), (xa 31, aLng E 39852 kn1_107), (xa 14, o2 (some (xa 12)) (some (xa 13)) (some (xa 32)) (upS (upS (upS (upS (upS (upS (upS (upS (upS (upS (upS (upS Y2 2 y2_109) 3 y3_110) 4 y4_111) 5 y5_112) 6 y6_113) 7 y7_114) 8 y8_115) 9 y9_116) 10 y10_117) 11 y11_118) 12 y12_119) 13 y13_120)), (xa 32, aInt E 12 pn1_106), (xa 12, o7 (some ca) (some (xa 30)) (upS (upS (upS (upS (upS T 1 t1_3) 3 (C 5)) 4 (C 6)) 5 (C 7)) 6 0)), (xa 30, aInt E 24 co), (ca, o1 (some pa) (some da) (some sa) C), (pa, aInt E 5 P), (xa 6, o5 (some (xa 20)) (some (xa 21)) (some (xa 22)) (some (xa 23)) U), (xa 20, aInt E 24 co)]) [0, 1, 14, 15, 8, 9, 6, 7, 10, 11, 12, 13, 2, 3] rfl rfl rfl ?_
        exact lpB8 7 (100 * y9_116 + y3_110) (upS (upS (upS (upS (upS (upS (upS (upS (upS (upS (upS (upS Y2 2 y2_109) 3 y3_110) 4 y4_111) 5 y5_112) 6 y6_113) 7 y7_114) 8 y8_115) 9 y9_116) 10 y10_117) 11 y11_118) 12 y12_119) 13 y13_120) kn1_107 pn1_106 q1_108 (q2 + 1) (by omega) ⟨hKB, by omega, by omega⟩ (hw.trans ((beF_s (kB C P D W co 1) (81 * U 2) 4 7 bst w0).trans (by rw [hWv, if_neg (by omega), show (7 : Int) + 1 = 8 by rfl])))
  have lpB6 : ∀ (bst : Int) (w0 : Int) (Y2 : Nat → Int) (kn2 : Int → Int) (pn2 : Int → Int) (q1 : Int) (q2 : Int), ((0 ≤ bst ∧ bst ≤ 11) ∧ (0 ≤ w0 ∧ w0 ≤ 8000)) → (KnB q2 kn2 ∧ q2 ≤ Q 2 + 6 ∧ Q 2 ≤ q2) → (beF (kB C P D W co 1) (81 * U 2) 12 0 0 (-1) = beF (kB C P D W co 1) (81 * U 2) 6 6 bst w0) →  J E 5 Γ (some A) 12 30 [(xo, xO xa X), (xa 2, aRef E 3 4 ck), (da, aInt E 24 dr), (sa, aInt E 24 sr), (xa 13, o3 (some (xa 12)) (some (xa 31)) (upS (upS Q 1 q1) 2 q2)), (xa 31, aLng E 39852 kn2), (xa 14, o2 (some (xa 12)) (some (xa 13)) (some (xa 32)) Y2), (xa 32, aInt E 12 pn2), (xa 12, o7 (some ca) (some (xa 30)) (upS (upS (upS (upS (upS T 1 t1_3) 3 (C 5)) 4 (C 6)) 5 (C 7)) 6 0)), (xa 30, aInt E 24 co), (ca, o1 (some pa) (some da) (some sa) C), (pa, aInt E 5 P), (xa 6, o5 (some (xa 20)) (some (xa 21)) (some (xa 22)) (some (xa 23)) U), (xa 20, aInt E 24 co)] 30 [(4, .int (iZ 6)), (3, .int (iZ w0)), (2, .int (iZ bst)), (1, .ref ca), (0, .ref xo)] [] := by
    intro bst w0 Y2 kn2 pn2 q1 q2 hw0 hkn2 hw
    refine j_iload G 0 rfl d9_bell_30 ?_
    refine j_bipush G d9_bell_32 rfl ?_
    refine j_icmp_gt (tgt := 95) G d9_bell_34 (by decide) (by decide) (by decide) (fun h125 => absurd h125 (by decide)) (fun h125 => ?_)
    refine j_aload_n G 4 rfl d9_bell_37 ?_
    refine j_get G 0 9 14 in9 fl9_78 d9_bell_38 rfl rfl (by decide) (v := .ref (xa 14)) rfl rfl ?_
    refine j_new G 4 (fs := z4) in4 tyok4 cl9_21 is4 ini4 rfl hz4 ⟨Nat.le_of_ble_eq_true rfl, Nat.le_of_ble_eq_true rfl⟩ d9_bell_41 (fun q126 => ?_)
    refine j_dup G d9_bell_44 rfl ?_
    refine j_iconst G d9_bell_45 ?_
    refine j_iload G 0 rfl d9_bell_46 ?_
    refine j_iconst G d9_bell_48 ?_
    refine j_IM G (rm' := { frames := 1, cells := 1, slots := 0, locals := 12 }) (wc := [(q126, o4 none (fun _ => 0))]) (wr := [(xo, xO xa X), (xa 2, aRef E 3 4 ck), (da, aInt E 24 dr), (sa, aInt E 24 sr), (xa 13, o3 (some (xa 12)) (some (xa 31)) (upS (upS Q 1 q1) 2 q2)), (xa 31, aLng E 39852 kn2), (xa 14, o2 (some (xa 12)) (some (xa 13)) (some (xa 32)) Y2), (xa 32, aInt E 12 pn2), (xa 12, o7 (some ca) (some (xa 30)) (upS (upS (upS (upS (upS T 1 t1_3) 3 (C 5)) 4 (C 6)) 5 (C 7)) 6 0)), (xa 30, aInt E 24 co), (ca, o1 (some pa) (some da) (some sa) C), (pa, aInt E 5 P), (xa 6, o5 (some (xa 20)) (some (xa 21)) (some (xa 22)) (some (xa 23)) U), (xa 20, aInt E 24 co)]) (k4_initb (xl Γ) E q126 2 6 0 (by first | assumption | omega | (simp only [upS, reduceIte, Nat.reduceEqDiff, eq_self, List.length_cons, List.length_nil, List.length_append] <;> omega)) (by first | assumption | omega | (simp only [upS, reduceIte, Nat.reduceEqDiff, eq_self, List.length_cons, List.length_nil, List.length_append] <;> omega))) mw4_init ml9_50 [14] [0, 1, 2, 3, 4, 5, 6, 7, 8, 9, 10, 11, 12, 13] rfl rfl ⟨rfl, rfl⟩ (by decide) ⟨Nat.le_of_ble_eq_true rfl, Nat.le_of_ble_eq_true rfl⟩ rfl (rest := [.ref q126, .ref (xa 14)]) rfl (Nat.le_of_ble_eq_true rfl) d9_bell_49 ⟨Nat.le_of_ble_eq_true rfl, Nat.le_of_ble_eq_true rfl⟩ (fun r w1 hr => ?_)
    obtain ⟨c0_128, rfl, rfl, hq127⟩ := hr
    refine j_eq (ws' := [(xo, xO xa X), (xa 2, aRef E 3 4 ck), (da, aInt E 24 dr), (sa, aInt E 24 sr), (xa 13, o3 (some (xa 12)) (some (xa 31)) (upS (upS Q 1 q1) 2 q2)), (xa 31, aLng E 39852 kn2), (xa 14, o2 (some (xa 12)) (some (xa 13)) (some (xa 32)) Y2), (xa 32, aInt E 12 pn2), (xa 12, o7 (some ca) (some (xa 30)) (upS (upS (upS (upS (upS T 1 t1_3) 3 (C 5)) 4 (C 6)) 5 (C 7)) 6 0)), (xa 30, aInt E 24 co), (ca, o1 (some pa) (some da) (some sa) C), (pa, aInt E 5 P), (xa 6, o5 (some (xa 20)) (some (xa 21)) (some (xa 22)) (some (xa 23)) U), (xa 20, aInt E 24 co), (q126, o4 (some c0_128) (upS (upS (upS (fun _ => 0) 0 2) 1 6) 2 0)), (c0_128, aInt E 0 (fun _ => 0))]) rfl rfl rfl ?_
    refine j_aload_n G 4 rfl d9_bell_52 ?_
    refine j_get G 0 9 6 in9 fl9_30 d9_bell_53 rfl rfl (by decide) (v := .ref (xa 6)) rfl rfl ?_
    refine j_get G 12 5 2 in5 fl9_175 d9_bell_56 rfl rfl (by decide) (v := .int (iZ (U 2))) rfl rfl ?_
    refine j_VM G (rm' := { frames := 28, cells := 0, slots := 0, locals := 779 }) (wc := [(q126, o4 (some c0_128) (upS (upS (upS (fun _ => 0) 0 2) 1 6) 2 0)), (c0_128, aInt E 0 (fun _ => 0)), (xa 14, o2 (some (xa 12)) (some (xa 13)) (some (xa 32)) Y2), (xa 32, aInt E 12 pn2), (xa 13, o3 (some (xa 12)) (some (xa 31)) (upS (upS Q 1 q1) 2 q2)), (xa 31, aLng E 39852 kn2), (xa 12, o7 (some ca) (some (xa 30)) (upS (upS (upS (upS (upS T 1 t1_3) 3 (C 5)) 4 (C 6)) 5 (C 7)) 6 0)), (xa 30, aInt E 24 co), (ca, o1 (some pa) (some da) (some sa) C), (pa, aInt E 5 P), (da, aInt E 24 dr), (sa, aInt E 24 sr)]) (wr := [(xo, xO xa X), (xa 2, aRef E 3 4 ck), (xa 6, o5 (some (xa 20)) (some (xa 21)) (some (xa 22)) (some (xa 23)) U), (xa 20, aInt E 24 co)]) (k2_leadBy (xl Γ) E q126 c0_128 0 (upS (upS (upS (fun _ => 0) 0 2) 1 6) 2 0) (fun _ => 0) (xa 14) (xa 32) Y2 (xa 13) (xa 31) (upS (upS Q 1 q1) 2 q2) (xa 12) (xa 30) (upS (upS (upS (upS (upS T 1 t1_3) 3 (C 5)) 4 (C 6)) 5 (C 7)) 6 0) ca pa da sa C P dr sr co (kB C P D W co 1) kn2 pn2 (U 2) (tm_k (mt := 0) (ms := 0) (msp := 0) (mp := 0) (n := 1) rfl hwf (by omega) (by omega) (by omega) (by omega) (by omega) hco (fun s a b => by have q := hDW s a b; simp only [upS, reduceIte, Nat.reduceEqDiff]; rw [ht1, Int.add_zero]; exact q) (by first | (simp only [upS, reduceIte, Nat.reduceEqDiff]; omega) | simp only [upS, reduceIte, Nat.reduceEqDiff]) (by first | (simp only [upS, reduceIte, Nat.reduceEqDiff]; omega) | simp only [upS, reduceIte, Nat.reduceEqDiff]) (by first | (simp only [upS, reduceIte, Nat.reduceEqDiff]; omega) | simp only [upS, reduceIte, Nat.reduceEqDiff]) (by first | (simp only [upS, reduceIte, Nat.reduceEqDiff]; omega) | simp only [upS, reduceIte, Nat.reduceEqDiff]) (by first | (simp only [upS, reduceIte, Nat.reduceEqDiff]; omega) | simp only [upS, reduceIte, Nat.reduceEqDiff]) (fun s a b => ⟨rfl, by have q := hco (12 + s) (by omega) (by omega); omega⟩)) hkn2.1 (by first | assumption | omega | (simp only [upS, reduceIte, Nat.reduceEqDiff, eq_self, List.length_cons, List.length_nil, List.length_append] <;> omega)) (by first | assumption | omega | (simp only [upS, reduceIte, Nat.reduceEqDiff, eq_self, List.length_cons, List.length_nil, List.length_append] <;> omega)) (fun q => absurd (show (2 : Int) = 6 from q) (by decide)) (fun q => absurd (show (2 : Int) = 6 from q) (by decide)) (by first | assumption | omega | (simp only [upS, reduceIte, Nat.reduceEqDiff, eq_self, List.length_cons, List.length_nil, List.length_append] <;> omega))) mw2_leadBy ml9_201 [14, 15, 6, 7, 4, 5, 8, 9, 10, 11, 2, 3] [0, 1, 12, 13] rfl rfl ⟨rfl, rfl⟩ (by decide) 6 2 rfl rfl rfl ⟨Nat.le_of_ble_eq_true rfl, Nat.le_of_ble_eq_true rfl⟩ rfl (rest := []) rfl (Nat.le_of_ble_eq_true rfl) d9_bell_59 ⟨Nat.le_of_ble_eq_true rfl, Nat.le_of_ble_eq_true rfl⟩ (fun r w1 hr => ?_)
    obtain ⟨pn1_130, kn1_131, q1_132, y2_133, y3_134, y4_135, y5_136, y6_137, y7_138, y8_139, y9_140, y10_141, y11_142, y12_143, y13_144, rfl, rfl, ⟨hq129_0, hq129_1, hq129_2, hq129_3, hq129_4, hq129_5, hq129_6, hq129_7, hq129_8⟩⟩ := hr
    refine j_eq (ws' := [(xo, xO xa X), (xa 2, aRef E 3 4 ck), (xa 6, o5 (some (xa 20)) (some (xa 21)) (some (xa 22)) (some (xa 23)) U), (xa 20, aInt E 24 co), (q126, o4 (some c0_128) (upS (upS (upS (fun _ => 0) 0 2) 1 6) 2 0)), (c0_128, aInt E 0 (fun _ => 0)), (xa 14, o2 (some (xa 12)) (some (xa 13)) (some (xa 32)) (upS (upS (upS (upS (upS (upS (upS (upS (upS (upS (upS (upS Y2 2 y2_133) 3 y3_134) 4 y4_135) 5 y5_136) 6 y6_137) 7 y7_138) 8 y8_139) 9 y9_140) 10 y10_141) 11 y11_142) 12 y12_143) 13 y13_144)), (xa 32, aInt E 12 pn1_130), (xa 13, o3 (some (xa 12)) (some (xa 31)) (upS (upS Q 1 q1_132) 2 (q2 + 1))), (xa 31, aLng E 39852 kn1_131), (xa 12, o7 (some ca) (some (xa 30)) (upS (upS (upS (upS (upS T 1 t1_3) 3 (C 5)) 4 (C 6)) 5 (C 7)) 6 0)), (xa 30, aInt E 24 co), (ca, o1 (some pa) (some da) (some sa) C), (pa, aInt E 5 P), (da, aInt E 24 dr), (sa, aInt E 24 sr)]) rfl rfl rfl ?_
    try simp only [upS, reduceIte, Nat.reduceEqDiff, eq_self] at hq129_0 hq129_1 hq129_2 hq129_3 hq129_4 hq129_5 hq129_6 hq129_7 hq129_8
    have hA := hq129_0
    have hB := hq129_1
    have hC := hq129_2
    have hDd := hq129_3
    have hE := hq129_4
    have hF := hq129_5
    have hG := hq129_6
    have hH := hq129_7
    have hKB := hq129_8
    have hgg : (fun s st => ldI (kB C P D W co 1) 2 6 s st 0 (fun _ => 0)) = (gB (kB C P D W co 1) 2 6) := by funext s st; exact (gB_e (by decide)).symm
    rw [hgg] at hA hF
    have hok : okD (kB C P D W co 1) := okD_k (C := C) (P := P) (D := D) (W := W) (co := co) (mt := 0) (ms := 0) (msp := 0) (mp := 0) (n := 1) hwf (by omega) (by omega) (by omega) (by omega) (by omega) (fun s a b => (hDW s a b).2.2.2) hco
    have hAr := dyA_r (g := (gB (kB C P D W co 1) 2 6)) (f := dUp (kB C P D W co 1)) hok (st0 := 81 * U 2) (by omega) (fun s st h1 h2 => by have := dR hok h1 h2; omega) 12 (Nat.le_refl 12)
    rw [← hA] at hAr
    have hWv : beW (kB C P D W co 1) (81 * U 2) 6 = 100 * y9_140 + y3_134 := by unfold beW; rw [← hA, ← hF]; omega
    refine j_iload_n G 2 rfl d9_bell_62 ?_
    refine j_iconst G d9_bell_63 ?_
    refine j_icmp_eq (tgt := 78) G d9_bell_64 (by decide) (by omega) (by decide) (fun h145 => ?_) (fun h145 => ?_)
    ·
      exact absurd h145 (by omega)
    ·
      refine j_aload_n G 4 rfl d9_bell_67 ?_
      refine j_get G 0 9 14 in9 fl9_78 d9_bell_68 rfl rfl (by decide) (v := .ref (xa 14)) rfl rfl ?_
      refine j_VP G (k2_worth (xl Γ) E (xa 14) (xa 32) (upS (upS (upS (upS (upS (upS (upS (upS (upS (upS (upS (upS Y2 2 y2_133) 3 y3_134) 4 y4_135) 5 y5_136) 6 y6_137) 7 y7_138) 8 y8_139) 9 y9_140) 10 y10_141) 11 y11_142) 12 y12_143) 13 y13_144) (xa 12) (xa 13) ) mw2_worth ml9_241 [6] rfl 6 2 rfl rfl rfl ⟨Nat.le_of_ble_eq_true rfl, Nat.le_of_ble_eq_true rfl⟩ rfl (rest := []) rfl (Nat.le_of_ble_eq_true rfl) d9_bell_71 ⟨Nat.le_of_ble_eq_true rfl, Nat.le_of_ble_eq_true rfl⟩ (fun r hr => ?_)
      obtain ⟨_, rfl, rfl⟩ := hr
      refine j_eq (st' := [.int (iZ (100 * y9_140 + y3_134))]) rfl rfl rfl ?_
      refine j_iload_n G 1 rfl d9_bell_74 ?_
      refine j_icmp_le (tgt := 89) G d9_bell_75 (by decide) (by omega) (by omega) (fun h147 => ?_) (fun h147 => ?_)
      ·
        refine j_iinc G d9_bell_89 0 rfl (by decide) rfl ?_
        refine j_goto (tgt := 30) G d9_bell_92 (by decide) ?_
        refine j_eq (ls' := [(4, .int (iZ 7)), (3, .int (iZ w0)), (2, .int (iZ bst)), (1, .ref ca), (0, .ref xo)]) rfl rfl rfl ?_
        refine j_perm (ws' := [(xo, xO xa X), (xa 2, aRef E 3 4 ck), (da, aInt E 24 dr), (sa, aInt E 24 sr), (xa 13, o3 (some (xa 12)) (some (xa 31)) (upS (upS Q 1 q1_132) 2 (q2 + 1))), (xa 31, aLng E 39852 kn1_131), (xa 14, o2 (some (xa 12)) (some (xa 13)) (some (xa 32)) (upS (upS (upS (upS (upS (upS (upS (upS (upS (upS (upS (upS Y2 2 y2_133) 3 y3_134) 4 y4_135) 5 y5_136) 6 y6_137) 7 y7_138) 8 y8_139) 9 y9_140) 10 y10_141) 11 y11_142) 12 y12_143) 13 y13_144)), (xa 32, aInt E 12 pn1_130), (xa 12, o7 (some ca) (some (xa 30)) (upS (upS (upS (upS (upS T 1 t1_3) 3 (C 5)) 4 (C 6)) 5 (C 7)) 6 0)), (xa 30, aInt E 24 co), (ca, o1 (some pa) (some da) (some sa) C), (pa, aInt E 5 P), (xa 6, o5 (some (xa 20)) (some (xa 21)) (some (xa 22)) (some (xa 23)) U), (xa 20, aInt E 24 co)]) [0, 1, 14, 15, 8, 9, 6, 7, 10, 11, 12, 13, 2, 3] rfl rfl rfl ?_
        exact lpB7 bst w0 (upS (upS (upS (upS (upS (upS (upS (upS (upS (upS (upS (upS Y2 2 y2_133) 3 y3_134) 4 y4_135) 5 y5_136) 6 y6_137) 7 y7_138) 8 y8_139) 9 y9_140) 10 y10_141) 11 y11_142) 12 y12_143) 13 y13_144) kn1_131 pn1_130 q1_132 (q2 + 1) (by omega) ⟨hKB, by omega, by omega⟩ (hw.trans ((beF_s (kB C P D W co 1) (81 * U 2) 5 6 bst w0).trans (by rw [hWv, if_pos (by omega), show (6 : Int) + 1 = 7 by rfl])))
      ·
        refine j_iload G 0 rfl d9_bell_78 ?_
        refine j_istore_n G d9_bell_80 (by decide) rfl ?_
        refine j_aload_n G 4 rfl d9_bell_81 ?_
        refine j_get G 0 9 14 in9 fl9_78 d9_bell_82 rfl rfl (by decide) (v := .ref (xa 14)) rfl rfl ?_
        refine j_VP G (k2_worth (xl Γ) E (xa 14) (xa 32) (upS (upS (upS (upS (upS (upS (upS (upS (upS (upS (upS (upS Y2 2 y2_133) 3 y3_134) 4 y4_135) 5 y5_136) 6 y6_137) 7 y7_138) 8 y8_139) 9 y9_140) 10 y10_141) 11 y11_142) 12 y12_143) 13 y13_144) (xa 12) (xa 13) ) mw2_worth ml9_241 [6] rfl 6 2 rfl rfl rfl ⟨Nat.le_of_ble_eq_true rfl, Nat.le_of_ble_eq_true rfl⟩ rfl (rest := []) rfl (Nat.le_of_ble_eq_true rfl) d9_bell_85 ⟨Nat.le_of_ble_eq_true rfl, Nat.le_of_ble_eq_true rfl⟩ (fun r hr => ?_)
        obtain ⟨_, rfl, rfl⟩ := hr
        refine j_eq (st' := [.int (iZ (100 * y9_140 + y3_134))]) rfl rfl rfl ?_
        refine j_istore_n G d9_bell_88 (by decide) rfl ?_
        refine j_iinc G d9_bell_89 2 rfl (by decide) rfl ?_
        refine j_goto (tgt := 30) G d9_bell_92 (by decide) ?_
        refine j_eq (ls' := [(4, .int (iZ 7)), (3, .int (iZ (100 * y9_140 + y3_134))), (2, .int (iZ 6)), (1, .ref ca), (0, .ref xo)]) rfl rfl rfl ?_
        refine j_perm (ws' := [(xo, xO xa X), (xa 2, aRef E 3 4 ck), (da, aInt E 24 dr), (sa, aInt E 24 sr), (xa 13, o3 (some (xa 12)) (some (xa 31)) (upS (upS Q 1 q1_132) 2 (q2 + 1))), (xa 31, aLng E 39852 kn1_131), (xa 14, o2 (some (xa 12)) (some (xa 13)) (some (xa 32)) (upS (upS (upS (upS (upS (upS (upS (upS (upS (upS (upS (upS Y2 2 y2_133) 3 y3_134) 4 y4_135) 5 y5_136) 6 y6_137) 7 y7_138) 8 y8_139) 9 y9_140) 10 y10_141) 11 y11_142) 12 y12_143) 13 y13_144)), (xa 32, aInt E 12 pn1_130), (xa 12, o7 (some ca) (some (xa 30)) (upS (upS (upS (upS (upS T 1 t1_3) 3 (C 5)) 4 (C 6)) 5 (C 7)) 6 0)), (xa 30, aInt E 24 co), (ca, o1 (some pa) (some da) (some sa) C), (pa, aInt E 5 P), (xa 6, o5 (some (xa 20)) (some (xa 21)) (some (xa 22)) (some (xa 23)) U), (xa 20, aInt E 24 co)]) [0, 1, 14, 15, 8, 9, 6, 7, 10, 11, 12, 13, 2, 3] rfl rfl rfl ?_
        exact lpB7 6 (100 * y9_140 + y3_134) (upS (upS (upS (upS (upS (upS (upS (upS (upS (upS (upS (upS Y2 2 y2_133) 3 y3_134) 4 y4_135) 5 y5_136) 6 y6_137) 7 y7_138) 8 y8_139) 9 y9_140) 10 y10_141) 11 y11_142) 12 y12_143) 13 y13_144) kn1_131 pn1_130 q1_132 (q2 + 1) (by omega) ⟨hKB, by omega, by omega⟩ (hw.trans ((beF_s (kB C P D W co 1) (81 * U 2) 5 6 bst w0).trans (by rw [hWv, if_neg (by omega), show (6 : Int) + 1 = 7 by rfl])))
  have lpB5 : ∀ (bst : Int) (w0 : Int) (Y2 : Nat → Int) (kn2 : Int → Int) (pn2 : Int → Int) (q1 : Int) (q2 : Int), ((0 ≤ bst ∧ bst ≤ 11) ∧ (0 ≤ w0 ∧ w0 ≤ 8000)) → (KnB q2 kn2 ∧ q2 ≤ Q 2 + 5 ∧ Q 2 ≤ q2) → (beF (kB C P D W co 1) (81 * U 2) 12 0 0 (-1) = beF (kB C P D W co 1) (81 * U 2) 7 5 bst w0) →  J E 5 Γ (some A) 10 25 [(xo, xO xa X), (xa 2, aRef E 3 4 ck), (da, aInt E 24 dr), (sa, aInt E 24 sr), (xa 13, o3 (some (xa 12)) (some (xa 31)) (upS (upS Q 1 q1) 2 q2)), (xa 31, aLng E 39852 kn2), (xa 14, o2 (some (xa 12)) (some (xa 13)) (some (xa 32)) Y2), (xa 32, aInt E 12 pn2), (xa 12, o7 (some ca) (some (xa 30)) (upS (upS (upS (upS (upS T 1 t1_3) 3 (C 5)) 4 (C 6)) 5 (C 7)) 6 0)), (xa 30, aInt E 24 co), (ca, o1 (some pa) (some da) (some sa) C), (pa, aInt E 5 P), (xa 6, o5 (some (xa 20)) (some (xa 21)) (some (xa 22)) (some (xa 23)) U), (xa 20, aInt E 24 co)] 30 [(4, .int (iZ 5)), (3, .int (iZ w0)), (2, .int (iZ bst)), (1, .ref ca), (0, .ref xo)] [] := by
    intro bst w0 Y2 kn2 pn2 q1 q2 hw0 hkn2 hw
    refine j_iload G 0 rfl d9_bell_30 ?_
    refine j_bipush G d9_bell_32 rfl ?_
    refine j_icmp_gt (tgt := 95) G d9_bell_34 (by decide) (by decide) (by decide) (fun h149 => absurd h149 (by decide)) (fun h149 => ?_)
    refine j_aload_n G 4 rfl d9_bell_37 ?_
    refine j_get G 0 9 14 in9 fl9_78 d9_bell_38 rfl rfl (by decide) (v := .ref (xa 14)) rfl rfl ?_
    refine j_new G 4 (fs := z4) in4 tyok4 cl9_21 is4 ini4 rfl hz4 ⟨Nat.le_of_ble_eq_true rfl, Nat.le_of_ble_eq_true rfl⟩ d9_bell_41 (fun q150 => ?_)
    refine j_dup G d9_bell_44 rfl ?_
    refine j_iconst G d9_bell_45 ?_
    refine j_iload G 0 rfl d9_bell_46 ?_
    refine j_iconst G d9_bell_48 ?_
    refine j_IM G (rm' := { frames := 1, cells := 1, slots := 0, locals := 12 }) (wc := [(q150, o4 none (fun _ => 0))]) (wr := [(xo, xO xa X), (xa 2, aRef E 3 4 ck), (da, aInt E 24 dr), (sa, aInt E 24 sr), (xa 13, o3 (some (xa 12)) (some (xa 31)) (upS (upS Q 1 q1) 2 q2)), (xa 31, aLng E 39852 kn2), (xa 14, o2 (some (xa 12)) (some (xa 13)) (some (xa 32)) Y2), (xa 32, aInt E 12 pn2), (xa 12, o7 (some ca) (some (xa 30)) (upS (upS (upS (upS (upS T 1 t1_3) 3 (C 5)) 4 (C 6)) 5 (C 7)) 6 0)), (xa 30, aInt E 24 co), (ca, o1 (some pa) (some da) (some sa) C), (pa, aInt E 5 P), (xa 6, o5 (some (xa 20)) (some (xa 21)) (some (xa 22)) (some (xa 23)) U), (xa 20, aInt E 24 co)]) (k4_initb (xl Γ) E q150 2 5 0 (by first | assumption | omega | (simp only [upS, reduceIte, Nat.reduceEqDiff, eq_self, List.length_cons, List.length_nil, List.length_append] <;> omega)) (by first | assumption | omega | (simp only [upS, reduceIte, Nat.reduceEqDiff, eq_self, List.length_cons, List.length_nil, List.length_append] <;> omega))) mw4_init ml9_50 [14] [0, 1, 2, 3, 4, 5, 6, 7, 8, 9, 10, 11, 12, 13] rfl rfl ⟨rfl, rfl⟩ (by decide) ⟨Nat.le_of_ble_eq_true rfl, Nat.le_of_ble_eq_true rfl⟩ rfl (rest := [.ref q150, .ref (xa 14)]) rfl (Nat.le_of_ble_eq_true rfl) d9_bell_49 ⟨Nat.le_of_ble_eq_true rfl, Nat.le_of_ble_eq_true rfl⟩ (fun r w1 hr => ?_)
    obtain ⟨c0_152, rfl, rfl, hq151⟩ := hr
    refine j_eq (ws' := [(xo, xO xa X), (xa 2, aRef E 3 4 ck), (da, aInt E 24 dr), (sa, aInt E 24 sr), (xa 13, o3 (some (xa 12)) (some (xa 31)) (upS (upS Q 1 q1) 2 q2)), (xa 31, aLng E 39852 kn2), (xa 14, o2 (some (xa 12)) (some (xa 13)) (some (xa 32)) Y2), (xa 32, aInt E 12 pn2), (xa 12, o7 (some ca) (some (xa 30)) (upS (upS (upS (upS (upS T 1 t1_3) 3 (C 5)) 4 (C 6)) 5 (C 7)) 6 0)), (xa 30, aInt E 24 co), (ca, o1 (some pa) (some da) (some sa) C), (pa, aInt E 5 P), (xa 6, o5 (some (xa 20)) (some (xa 21)) (some (xa 22)) (some (xa 23)) U), (xa 20, aInt E 24 co), (q150, o4 (some c0_152) (upS (upS (upS (fun _ => 0) 0 2) 1 5) 2 0)), (c0_152, aInt E 0 (fun _ => 0))]) rfl rfl rfl ?_
    refine j_aload_n G 4 rfl d9_bell_52 ?_
    refine j_get G 0 9 6 in9 fl9_30 d9_bell_53 rfl rfl (by decide) (v := .ref (xa 6)) rfl rfl ?_
    refine j_get G 12 5 2 in5 fl9_175 d9_bell_56 rfl rfl (by decide) (v := .int (iZ (U 2))) rfl rfl ?_
    refine j_VM G (rm' := { frames := 28, cells := 0, slots := 0, locals := 779 }) (wc := [(q150, o4 (some c0_152) (upS (upS (upS (fun _ => 0) 0 2) 1 5) 2 0)), (c0_152, aInt E 0 (fun _ => 0)), (xa 14, o2 (some (xa 12)) (some (xa 13)) (some (xa 32)) Y2), (xa 32, aInt E 12 pn2), (xa 13, o3 (some (xa 12)) (some (xa 31)) (upS (upS Q 1 q1) 2 q2)), (xa 31, aLng E 39852 kn2), (xa 12, o7 (some ca) (some (xa 30)) (upS (upS (upS (upS (upS T 1 t1_3) 3 (C 5)) 4 (C 6)) 5 (C 7)) 6 0)), (xa 30, aInt E 24 co), (ca, o1 (some pa) (some da) (some sa) C), (pa, aInt E 5 P), (da, aInt E 24 dr), (sa, aInt E 24 sr)]) (wr := [(xo, xO xa X), (xa 2, aRef E 3 4 ck), (xa 6, o5 (some (xa 20)) (some (xa 21)) (some (xa 22)) (some (xa 23)) U), (xa 20, aInt E 24 co)]) (k2_leadBy (xl Γ) E q150 c0_152 0 (upS (upS (upS (fun _ => 0) 0 2) 1 5) 2 0) (fun _ => 0) (xa 14) (xa 32) Y2 (xa 13) (xa 31) (upS (upS Q 1 q1) 2 q2) (xa 12) (xa 30) (upS (upS (upS (upS (upS T 1 t1_3) 3 (C 5)) 4 (C 6)) 5 (C 7)) 6 0) ca pa da sa C P dr sr co (kB C P D W co 1) kn2 pn2 (U 2) (tm_k (mt := 0) (ms := 0) (msp := 0) (mp := 0) (n := 1) rfl hwf (by omega) (by omega) (by omega) (by omega) (by omega) hco (fun s a b => by have q := hDW s a b; simp only [upS, reduceIte, Nat.reduceEqDiff]; rw [ht1, Int.add_zero]; exact q) (by first | (simp only [upS, reduceIte, Nat.reduceEqDiff]; omega) | simp only [upS, reduceIte, Nat.reduceEqDiff]) (by first | (simp only [upS, reduceIte, Nat.reduceEqDiff]; omega) | simp only [upS, reduceIte, Nat.reduceEqDiff]) (by first | (simp only [upS, reduceIte, Nat.reduceEqDiff]; omega) | simp only [upS, reduceIte, Nat.reduceEqDiff]) (by first | (simp only [upS, reduceIte, Nat.reduceEqDiff]; omega) | simp only [upS, reduceIte, Nat.reduceEqDiff]) (by first | (simp only [upS, reduceIte, Nat.reduceEqDiff]; omega) | simp only [upS, reduceIte, Nat.reduceEqDiff]) (fun s a b => ⟨rfl, by have q := hco (12 + s) (by omega) (by omega); omega⟩)) hkn2.1 (by first | assumption | omega | (simp only [upS, reduceIte, Nat.reduceEqDiff, eq_self, List.length_cons, List.length_nil, List.length_append] <;> omega)) (by first | assumption | omega | (simp only [upS, reduceIte, Nat.reduceEqDiff, eq_self, List.length_cons, List.length_nil, List.length_append] <;> omega)) (fun q => absurd (show (2 : Int) = 6 from q) (by decide)) (fun q => absurd (show (2 : Int) = 6 from q) (by decide)) (by first | assumption | omega | (simp only [upS, reduceIte, Nat.reduceEqDiff, eq_self, List.length_cons, List.length_nil, List.length_append] <;> omega))) mw2_leadBy ml9_201 [14, 15, 6, 7, 4, 5, 8, 9, 10, 11, 2, 3] [0, 1, 12, 13] rfl rfl ⟨rfl, rfl⟩ (by decide) 6 2 rfl rfl rfl ⟨Nat.le_of_ble_eq_true rfl, Nat.le_of_ble_eq_true rfl⟩ rfl (rest := []) rfl (Nat.le_of_ble_eq_true rfl) d9_bell_59 ⟨Nat.le_of_ble_eq_true rfl, Nat.le_of_ble_eq_true rfl⟩ (fun r w1 hr => ?_)
    obtain ⟨pn1_154, kn1_155, q1_156, y2_157, y3_158, y4_159, y5_160, y6_161, y7_162, y8_163, y9_164, y10_165, y11_166, y12_167, y13_168, rfl, rfl, ⟨hq153_0, hq153_1, hq153_2, hq153_3, hq153_4, hq153_5, hq153_6, hq153_7, hq153_8⟩⟩ := hr
    refine j_eq (ws' := [(xo, xO xa X), (xa 2, aRef E 3 4 ck), (xa 6, o5 (some (xa 20)) (some (xa 21)) (some (xa 22)) (some (xa 23)) U), (xa 20, aInt E 24 co), (q150, o4 (some c0_152) (upS (upS (upS (fun _ => 0) 0 2) 1 5) 2 0)), (c0_152, aInt E 0 (fun _ => 0)), (xa 14, o2 (some (xa 12)) (some (xa 13)) (some (xa 32)) (upS (upS (upS (upS (upS (upS (upS (upS (upS (upS (upS (upS Y2 2 y2_157) 3 y3_158) 4 y4_159) 5 y5_160) 6 y6_161) 7 y7_162) 8 y8_163) 9 y9_164) 10 y10_165) 11 y11_166) 12 y12_167) 13 y13_168)), (xa 32, aInt E 12 pn1_154), (xa 13, o3 (some (xa 12)) (some (xa 31)) (upS (upS Q 1 q1_156) 2 (q2 + 1))), (xa 31, aLng E 39852 kn1_155), (xa 12, o7 (some ca) (some (xa 30)) (upS (upS (upS (upS (upS T 1 t1_3) 3 (C 5)) 4 (C 6)) 5 (C 7)) 6 0)), (xa 30, aInt E 24 co), (ca, o1 (some pa) (some da) (some sa) C), (pa, aInt E 5 P), (da, aInt E 24 dr), (sa, aInt E 24 sr)]) rfl rfl rfl ?_
    try simp only [upS, reduceIte, Nat.reduceEqDiff, eq_self] at hq153_0 hq153_1 hq153_2 hq153_3 hq153_4 hq153_5 hq153_6 hq153_7 hq153_8
    have hA := hq153_0
    have hB := hq153_1
    have hC := hq153_2
    have hDd := hq153_3
    have hE := hq153_4
    have hF := hq153_5
    have hG := hq153_6
    have hH := hq153_7
    have hKB := hq153_8
    have hgg : (fun s st => ldI (kB C P D W co 1) 2 5 s st 0 (fun _ => 0)) = (gB (kB C P D W co 1) 2 5) := by funext s st; exact (gB_e (by decide)).symm
    rw [hgg] at hA hF
    have hok : okD (kB C P D W co 1) := okD_k (C := C) (P := P) (D := D) (W := W) (co := co) (mt := 0) (ms := 0) (msp := 0) (mp := 0) (n := 1) hwf (by omega) (by omega) (by omega) (by omega) (by omega) (fun s a b => (hDW s a b).2.2.2) hco
    have hAr := dyA_r (g := (gB (kB C P D W co 1) 2 5)) (f := dUp (kB C P D W co 1)) hok (st0 := 81 * U 2) (by omega) (fun s st h1 h2 => by have := dR hok h1 h2; omega) 12 (Nat.le_refl 12)
    rw [← hA] at hAr
    have hWv : beW (kB C P D W co 1) (81 * U 2) 5 = 100 * y9_164 + y3_158 := by unfold beW; rw [← hA, ← hF]; omega
    refine j_iload_n G 2 rfl d9_bell_62 ?_
    refine j_iconst G d9_bell_63 ?_
    refine j_icmp_eq (tgt := 78) G d9_bell_64 (by decide) (by omega) (by decide) (fun h169 => ?_) (fun h169 => ?_)
    ·
      exact absurd h169 (by omega)
    ·
      refine j_aload_n G 4 rfl d9_bell_67 ?_
      refine j_get G 0 9 14 in9 fl9_78 d9_bell_68 rfl rfl (by decide) (v := .ref (xa 14)) rfl rfl ?_
      refine j_VP G (k2_worth (xl Γ) E (xa 14) (xa 32) (upS (upS (upS (upS (upS (upS (upS (upS (upS (upS (upS (upS Y2 2 y2_157) 3 y3_158) 4 y4_159) 5 y5_160) 6 y6_161) 7 y7_162) 8 y8_163) 9 y9_164) 10 y10_165) 11 y11_166) 12 y12_167) 13 y13_168) (xa 12) (xa 13) ) mw2_worth ml9_241 [6] rfl 6 2 rfl rfl rfl ⟨Nat.le_of_ble_eq_true rfl, Nat.le_of_ble_eq_true rfl⟩ rfl (rest := []) rfl (Nat.le_of_ble_eq_true rfl) d9_bell_71 ⟨Nat.le_of_ble_eq_true rfl, Nat.le_of_ble_eq_true rfl⟩ (fun r hr => ?_)
      obtain ⟨_, rfl, rfl⟩ := hr
      refine j_eq (st' := [.int (iZ (100 * y9_164 + y3_158))]) rfl rfl rfl ?_
      refine j_iload_n G 1 rfl d9_bell_74 ?_
      refine j_icmp_le (tgt := 89) G d9_bell_75 (by decide) (by omega) (by omega) (fun h171 => ?_) (fun h171 => ?_)
      ·
        refine j_iinc G d9_bell_89 0 rfl (by decide) rfl ?_
        refine j_goto (tgt := 30) G d9_bell_92 (by decide) ?_
        refine j_eq (ls' := [(4, .int (iZ 6)), (3, .int (iZ w0)), (2, .int (iZ bst)), (1, .ref ca), (0, .ref xo)]) rfl rfl rfl ?_
        refine j_perm (ws' := [(xo, xO xa X), (xa 2, aRef E 3 4 ck), (da, aInt E 24 dr), (sa, aInt E 24 sr), (xa 13, o3 (some (xa 12)) (some (xa 31)) (upS (upS Q 1 q1_156) 2 (q2 + 1))), (xa 31, aLng E 39852 kn1_155), (xa 14, o2 (some (xa 12)) (some (xa 13)) (some (xa 32)) (upS (upS (upS (upS (upS (upS (upS (upS (upS (upS (upS (upS Y2 2 y2_157) 3 y3_158) 4 y4_159) 5 y5_160) 6 y6_161) 7 y7_162) 8 y8_163) 9 y9_164) 10 y10_165) 11 y11_166) 12 y12_167) 13 y13_168)), (xa 32, aInt E 12 pn1_154), (xa 12, o7 (some ca) (some (xa 30)) (upS (upS (upS (upS (upS T 1 t1_3) 3 (C 5)) 4 (C 6)) 5 (C 7)) 6 0)), (xa 30, aInt E 24 co), (ca, o1 (some pa) (some da) (some sa) C), (pa, aInt E 5 P), (xa 6, o5 (some (xa 20)) (some (xa 21)) (some (xa 22)) (some (xa 23)) U), (xa 20, aInt E 24 co)]) [0, 1, 14, 15, 8, 9, 6, 7, 10, 11, 12, 13, 2, 3] rfl rfl rfl ?_
        exact lpB6 bst w0 (upS (upS (upS (upS (upS (upS (upS (upS (upS (upS (upS (upS Y2 2 y2_157) 3 y3_158) 4 y4_159) 5 y5_160) 6 y6_161) 7 y7_162) 8 y8_163) 9 y9_164) 10 y10_165) 11 y11_166) 12 y12_167) 13 y13_168) kn1_155 pn1_154 q1_156 (q2 + 1) (by omega) ⟨hKB, by omega, by omega⟩ (hw.trans ((beF_s (kB C P D W co 1) (81 * U 2) 6 5 bst w0).trans (by rw [hWv, if_pos (by omega), show (5 : Int) + 1 = 6 by rfl])))
      ·
        refine j_iload G 0 rfl d9_bell_78 ?_
        refine j_istore_n G d9_bell_80 (by decide) rfl ?_
        refine j_aload_n G 4 rfl d9_bell_81 ?_
        refine j_get G 0 9 14 in9 fl9_78 d9_bell_82 rfl rfl (by decide) (v := .ref (xa 14)) rfl rfl ?_
        refine j_VP G (k2_worth (xl Γ) E (xa 14) (xa 32) (upS (upS (upS (upS (upS (upS (upS (upS (upS (upS (upS (upS Y2 2 y2_157) 3 y3_158) 4 y4_159) 5 y5_160) 6 y6_161) 7 y7_162) 8 y8_163) 9 y9_164) 10 y10_165) 11 y11_166) 12 y12_167) 13 y13_168) (xa 12) (xa 13) ) mw2_worth ml9_241 [6] rfl 6 2 rfl rfl rfl ⟨Nat.le_of_ble_eq_true rfl, Nat.le_of_ble_eq_true rfl⟩ rfl (rest := []) rfl (Nat.le_of_ble_eq_true rfl) d9_bell_85 ⟨Nat.le_of_ble_eq_true rfl, Nat.le_of_ble_eq_true rfl⟩ (fun r hr => ?_)
        obtain ⟨_, rfl, rfl⟩ := hr
        refine j_eq (st' := [.int (iZ (100 * y9_164 + y3_158))]) rfl rfl rfl ?_
        refine j_istore_n G d9_bell_88 (by decide) rfl ?_
        refine j_iinc G d9_bell_89 2 rfl (by decide) rfl ?_
        refine j_goto (tgt := 30) G d9_bell_92 (by decide) ?_
        refine j_eq (ls' := [(4, .int (iZ 6)), (3, .int (iZ (100 * y9_164 + y3_158))), (2, .int (iZ 5)), (1, .ref ca), (0, .ref xo)]) rfl rfl rfl ?_
        refine j_perm (ws' := [(xo, xO xa X), (xa 2, aRef E 3 4 ck), (da, aInt E 24 dr), (sa, aInt E 24 sr), (xa 13, o3 (some (xa 12)) (some (xa 31)) (upS (upS Q 1 q1_156) 2 (q2 + 1))), (xa 31, aLng E 39852 kn1_155), (xa 14, o2 (some (xa 12)) (some (xa 13)) (some (xa 32)) (upS (upS (upS (upS (upS (upS (upS (upS (upS (upS (upS (upS Y2 2 y2_157) 3 y3_158) 4 y4_159) 5 y5_160) 6 y6_161) 7 y7_162) 8 y8_163) 9 y9_164) 10 y10_165) 11 y11_166) 12 y12_167) 13 y13_168)), (xa 32, aInt E 12 pn1_154), (xa 12, o7 (some ca) (some (xa 30)) (upS (upS (upS (upS (upS T 1 t1_3) 3 (C 5)) 4 (C 6)) 5 (C 7)) 6 0)), (xa 30, aInt E 24 co), (ca, o1 (some pa) (some da) (some sa) C), (pa, aInt E 5 P), (xa 6, o5 (some (xa 20)) (some (xa 21)) (some (xa 22)) (some (xa 23)) U), (xa 20, aInt E 24 co)]) [0, 1, 14, 15, 8, 9, 6, 7, 10, 11, 12, 13, 2, 3] rfl rfl rfl ?_
        exact lpB6 5 (100 * y9_164 + y3_158) (upS (upS (upS (upS (upS (upS (upS (upS (upS (upS (upS (upS Y2 2 y2_157) 3 y3_158) 4 y4_159) 5 y5_160) 6 y6_161) 7 y7_162) 8 y8_163) 9 y9_164) 10 y10_165) 11 y11_166) 12 y12_167) 13 y13_168) kn1_155 pn1_154 q1_156 (q2 + 1) (by omega) ⟨hKB, by omega, by omega⟩ (hw.trans ((beF_s (kB C P D W co 1) (81 * U 2) 6 5 bst w0).trans (by rw [hWv, if_neg (by omega), show (5 : Int) + 1 = 6 by rfl])))
  have lpB4 : ∀ (bst : Int) (w0 : Int) (Y2 : Nat → Int) (kn2 : Int → Int) (pn2 : Int → Int) (q1 : Int) (q2 : Int), ((0 ≤ bst ∧ bst ≤ 11) ∧ (0 ≤ w0 ∧ w0 ≤ 8000)) → (KnB q2 kn2 ∧ q2 ≤ Q 2 + 4 ∧ Q 2 ≤ q2) → (beF (kB C P D W co 1) (81 * U 2) 12 0 0 (-1) = beF (kB C P D W co 1) (81 * U 2) 8 4 bst w0) →  J E 5 Γ (some A) 8 20 [(xo, xO xa X), (xa 2, aRef E 3 4 ck), (da, aInt E 24 dr), (sa, aInt E 24 sr), (xa 13, o3 (some (xa 12)) (some (xa 31)) (upS (upS Q 1 q1) 2 q2)), (xa 31, aLng E 39852 kn2), (xa 14, o2 (some (xa 12)) (some (xa 13)) (some (xa 32)) Y2), (xa 32, aInt E 12 pn2), (xa 12, o7 (some ca) (some (xa 30)) (upS (upS (upS (upS (upS T 1 t1_3) 3 (C 5)) 4 (C 6)) 5 (C 7)) 6 0)), (xa 30, aInt E 24 co), (ca, o1 (some pa) (some da) (some sa) C), (pa, aInt E 5 P), (xa 6, o5 (some (xa 20)) (some (xa 21)) (some (xa 22)) (some (xa 23)) U), (xa 20, aInt E 24 co)] 30 [(4, .int (iZ 4)), (3, .int (iZ w0)), (2, .int (iZ bst)), (1, .ref ca), (0, .ref xo)] [] := by
    intro bst w0 Y2 kn2 pn2 q1 q2 hw0 hkn2 hw
    refine j_iload G 0 rfl d9_bell_30 ?_
    refine j_bipush G d9_bell_32 rfl ?_
    refine j_icmp_gt (tgt := 95) G d9_bell_34 (by decide) (by decide) (by decide) (fun h173 => absurd h173 (by decide)) (fun h173 => ?_)
    refine j_aload_n G 4 rfl d9_bell_37 ?_
    refine j_get G 0 9 14 in9 fl9_78 d9_bell_38 rfl rfl (by decide) (v := .ref (xa 14)) rfl rfl ?_
    refine j_new G 4 (fs := z4) in4 tyok4 cl9_21 is4 ini4 rfl hz4 ⟨Nat.le_of_ble_eq_true rfl, Nat.le_of_ble_eq_true rfl⟩ d9_bell_41 (fun q174 => ?_)
    refine j_dup G d9_bell_44 rfl ?_
    refine j_iconst G d9_bell_45 ?_
    refine j_iload G 0 rfl d9_bell_46 ?_
    refine j_iconst G d9_bell_48 ?_
    refine j_IM G (rm' := { frames := 1, cells := 1, slots := 0, locals := 12 }) (wc := [(q174, o4 none (fun _ => 0))]) (wr := [(xo, xO xa X), (xa 2, aRef E 3 4 ck), (da, aInt E 24 dr), (sa, aInt E 24 sr), (xa 13, o3 (some (xa 12)) (some (xa 31)) (upS (upS Q 1 q1) 2 q2)), (xa 31, aLng E 39852 kn2), (xa 14, o2 (some (xa 12)) (some (xa 13)) (some (xa 32)) Y2), (xa 32, aInt E 12 pn2), (xa 12, o7 (some ca) (some (xa 30)) (upS (upS (upS (upS (upS T 1 t1_3) 3 (C 5)) 4 (C 6)) 5 (C 7)) 6 0)), (xa 30, aInt E 24 co), (ca, o1 (some pa) (some da) (some sa) C), (pa, aInt E 5 P), (xa 6, o5 (some (xa 20)) (some (xa 21)) (some (xa 22)) (some (xa 23)) U), (xa 20, aInt E 24 co)]) (k4_initb (xl Γ) E q174 2 4 0 (by first | assumption | omega | (simp only [upS, reduceIte, Nat.reduceEqDiff, eq_self, List.length_cons, List.length_nil, List.length_append] <;> omega)) (by first | assumption | omega | (simp only [upS, reduceIte, Nat.reduceEqDiff, eq_self, List.length_cons, List.length_nil, List.length_append] <;> omega))) mw4_init ml9_50 [14] [0, 1, 2, 3, 4, 5, 6, 7, 8, 9, 10, 11, 12, 13] rfl rfl ⟨rfl, rfl⟩ (by decide) ⟨Nat.le_of_ble_eq_true rfl, Nat.le_of_ble_eq_true rfl⟩ rfl (rest := [.ref q174, .ref (xa 14)]) rfl (Nat.le_of_ble_eq_true rfl) d9_bell_49 ⟨Nat.le_of_ble_eq_true rfl, Nat.le_of_ble_eq_true rfl⟩ (fun r w1 hr => ?_)
    obtain ⟨c0_176, rfl, rfl, hq175⟩ := hr
    refine j_eq (ws' := [(xo, xO xa X), (xa 2, aRef E 3 4 ck), (da, aInt E 24 dr), (sa, aInt E 24 sr), (xa 13, o3 (some (xa 12)) (some (xa 31)) (upS (upS Q 1 q1) 2 q2)), (xa 31, aLng E 39852 kn2), (xa 14, o2 (some (xa 12)) (some (xa 13)) (some (xa 32)) Y2), (xa 32, aInt E 12 pn2), (xa 12, o7 (some ca) (some (xa 30)) (upS (upS (upS (upS (upS T 1 t1_3) 3 (C 5)) 4 (C 6)) 5 (C 7)) 6 0)), (xa 30, aInt E 24 co), (ca, o1 (some pa) (some da) (some sa) C), (pa, aInt E 5 P), (xa 6, o5 (some (xa 20)) (some (xa 21)) (some (xa 22)) (some (xa 23)) U), (xa 20, aInt E 24 co), (q174, o4 (some c0_176) (upS (upS (upS (fun _ => 0) 0 2) 1 4) 2 0)), (c0_176, aInt E 0 (fun _ => 0))]) rfl rfl rfl ?_
    refine j_aload_n G 4 rfl d9_bell_52 ?_
    refine j_get G 0 9 6 in9 fl9_30 d9_bell_53 rfl rfl (by decide) (v := .ref (xa 6)) rfl rfl ?_
    refine j_get G 12 5 2 in5 fl9_175 d9_bell_56 rfl rfl (by decide) (v := .int (iZ (U 2))) rfl rfl ?_
    refine j_VM G (rm' := { frames := 28, cells := 0, slots := 0, locals := 779 }) (wc := [(q174, o4 (some c0_176) (upS (upS (upS (fun _ => 0) 0 2) 1 4) 2 0)), (c0_176, aInt E 0 (fun _ => 0)), (xa 14, o2 (some (xa 12)) (some (xa 13)) (some (xa 32)) Y2), (xa 32, aInt E 12 pn2), (xa 13, o3 (some (xa 12)) (some (xa 31)) (upS (upS Q 1 q1) 2 q2)), (xa 31, aLng E 39852 kn2), (xa 12, o7 (some ca) (some (xa 30)) (upS (upS (upS (upS (upS T 1 t1_3) 3 (C 5)) 4 (C 6)) 5 (C 7)) 6 0)), (xa 30, aInt E 24 co), (ca, o1 (some pa) (some da) (some sa) C), (pa, aInt E 5 P), (da, aInt E 24 dr), (sa, aInt E 24 sr)]) (wr := [(xo, xO xa X), (xa 2, aRef E 3 4 ck), (xa 6, o5 (some (xa 20)) (some (xa 21)) (some (xa 22)) (some (xa 23)) U), (xa 20, aInt E 24 co)]) (k2_leadBy (xl Γ) E q174 c0_176 0 (upS (upS (upS (fun _ => 0) 0 2) 1 4) 2 0) (fun _ => 0) (xa 14) (xa 32) Y2 (xa 13) (xa 31) (upS (upS Q 1 q1) 2 q2) (xa 12) (xa 30) (upS (upS (upS (upS (upS T 1 t1_3) 3 (C 5)) 4 (C 6)) 5 (C 7)) 6 0) ca pa da sa C P dr sr co (kB C P D W co 1) kn2 pn2 (U 2) (tm_k (mt := 0) (ms := 0) (msp := 0) (mp := 0) (n := 1) rfl hwf (by omega) (by omega) (by omega) (by omega) (by omega) hco (fun s a b => by have q := hDW s a b; simp only [upS, reduceIte, Nat.reduceEqDiff]; rw [ht1, Int.add_zero]; exact q) (by first | (simp only [upS, reduceIte, Nat.reduceEqDiff]; omega) | simp only [upS, reduceIte, Nat.reduceEqDiff]) (by first | (simp only [upS, reduceIte, Nat.reduceEqDiff]; omega) | simp only [upS, reduceIte, Nat.reduceEqDiff]) (by first | (simp only [upS, reduceIte, Nat.reduceEqDiff]; omega) | simp only [upS, reduceIte, Nat.reduceEqDiff]) (by first | (simp only [upS, reduceIte, Nat.reduceEqDiff]; omega) | simp only [upS, reduceIte, Nat.reduceEqDiff]) (by first | (simp only [upS, reduceIte, Nat.reduceEqDiff]; omega) | simp only [upS, reduceIte, Nat.reduceEqDiff]) (fun s a b => ⟨rfl, by have q := hco (12 + s) (by omega) (by omega); omega⟩)) hkn2.1 (by first | assumption | omega | (simp only [upS, reduceIte, Nat.reduceEqDiff, eq_self, List.length_cons, List.length_nil, List.length_append] <;> omega)) (by first | assumption | omega | (simp only [upS, reduceIte, Nat.reduceEqDiff, eq_self, List.length_cons, List.length_nil, List.length_append] <;> omega)) (fun q => absurd (show (2 : Int) = 6 from q) (by decide)) (fun q => absurd (show (2 : Int) = 6 from q) (by decide)) (by first | assumption | omega | (simp only [upS, reduceIte, Nat.reduceEqDiff, eq_self, List.length_cons, List.length_nil, List.length_append] <;> omega))) mw2_leadBy ml9_201 [14, 15, 6, 7, 4, 5, 8, 9, 10, 11, 2, 3] [0, 1, 12, 13] rfl rfl ⟨rfl, rfl⟩ (by decide) 6 2 rfl rfl rfl ⟨Nat.le_of_ble_eq_true rfl, Nat.le_of_ble_eq_true rfl⟩ rfl (rest := []) rfl (Nat.le_of_ble_eq_true rfl) d9_bell_59 ⟨Nat.le_of_ble_eq_true rfl, Nat.le_of_ble_eq_true rfl⟩ (fun r w1 hr => ?_)
    obtain ⟨pn1_178, kn1_179, q1_180, y2_181, y3_182, y4_183, y5_184, y6_185, y7_186, y8_187, y9_188, y10_189, y11_190, y12_191, y13_192, rfl, rfl, ⟨hq177_0, hq177_1, hq177_2, hq177_3, hq177_4, hq177_5, hq177_6, hq177_7, hq177_8⟩⟩ := hr
    refine j_eq (ws' := [(xo, xO xa X), (xa 2, aRef E 3 4 ck), (xa 6, o5 (some (xa 20)) (some (xa 21)) (some (xa 22)) (some (xa 23)) U), (xa 20, aInt E 24 co), (q174, o4 (some c0_176) (upS (upS (upS (fun _ => 0) 0 2) 1 4) 2 0)), (c0_176, aInt E 0 (fun _ => 0)), (xa 14, o2 (some (xa 12)) (some (xa 13)) (some (xa 32)) (upS (upS (upS (upS (upS (upS (upS (upS (upS (upS (upS (upS Y2 2 y2_181) 3 y3_182) 4 y4_183) 5 y5_184) 6 y6_185) 7 y7_186) 8 y8_187) 9 y9_188) 10 y10_189) 11 y11_190) 12 y12_191) 13 y13_192)), (xa 32, aInt E 12 pn1_178), (xa 13, o3 (some (xa 12)) (some (xa 31)) (upS (upS Q 1 q1_180) 2 (q2 + 1))), (xa 31, aLng E 39852 kn1_179), (xa 12, o7 (some ca) (some (xa 30)) (upS (upS (upS (upS (upS T 1 t1_3) 3 (C 5)) 4 (C 6)) 5 (C 7)) 6 0)), (xa 30, aInt E 24 co), (ca, o1 (some pa) (some da) (some sa) C), (pa, aInt E 5 P), (da, aInt E 24 dr), (sa, aInt E 24 sr)]) rfl rfl rfl ?_
    try simp only [upS, reduceIte, Nat.reduceEqDiff, eq_self] at hq177_0 hq177_1 hq177_2 hq177_3 hq177_4 hq177_5 hq177_6 hq177_7 hq177_8
    have hA := hq177_0
    have hB := hq177_1
    have hC := hq177_2
    have hDd := hq177_3
    have hE := hq177_4
    have hF := hq177_5
    have hG := hq177_6
    have hH := hq177_7
    have hKB := hq177_8
    have hgg : (fun s st => ldI (kB C P D W co 1) 2 4 s st 0 (fun _ => 0)) = (gB (kB C P D W co 1) 2 4) := by funext s st; exact (gB_e (by decide)).symm
    rw [hgg] at hA hF
    have hok : okD (kB C P D W co 1) := okD_k (C := C) (P := P) (D := D) (W := W) (co := co) (mt := 0) (ms := 0) (msp := 0) (mp := 0) (n := 1) hwf (by omega) (by omega) (by omega) (by omega) (by omega) (fun s a b => (hDW s a b).2.2.2) hco
    have hAr := dyA_r (g := (gB (kB C P D W co 1) 2 4)) (f := dUp (kB C P D W co 1)) hok (st0 := 81 * U 2) (by omega) (fun s st h1 h2 => by have := dR hok h1 h2; omega) 12 (Nat.le_refl 12)
    rw [← hA] at hAr
    have hWv : beW (kB C P D W co 1) (81 * U 2) 4 = 100 * y9_188 + y3_182 := by unfold beW; rw [← hA, ← hF]; omega
    refine j_iload_n G 2 rfl d9_bell_62 ?_
    refine j_iconst G d9_bell_63 ?_
    refine j_icmp_eq (tgt := 78) G d9_bell_64 (by decide) (by omega) (by decide) (fun h193 => ?_) (fun h193 => ?_)
    ·
      exact absurd h193 (by omega)
    ·
      refine j_aload_n G 4 rfl d9_bell_67 ?_
      refine j_get G 0 9 14 in9 fl9_78 d9_bell_68 rfl rfl (by decide) (v := .ref (xa 14)) rfl rfl ?_
      refine j_VP G (k2_worth (xl Γ) E (xa 14) (xa 32) (upS (upS (upS (upS (upS (upS (upS (upS (upS (upS (upS (upS Y2 2 y2_181) 3 y3_182) 4 y4_183) 5 y5_184) 6 y6_185) 7 y7_186) 8 y8_187) 9 y9_188) 10 y10_189) 11 y11_190) 12 y12_191) 13 y13_192) (xa 12) (xa 13) ) mw2_worth ml9_241 [6] rfl 6 2 rfl rfl rfl ⟨Nat.le_of_ble_eq_true rfl, Nat.le_of_ble_eq_true rfl⟩ rfl (rest := []) rfl (Nat.le_of_ble_eq_true rfl) d9_bell_71 ⟨Nat.le_of_ble_eq_true rfl, Nat.le_of_ble_eq_true rfl⟩ (fun r hr => ?_)
      obtain ⟨_, rfl, rfl⟩ := hr
      refine j_eq (st' := [.int (iZ (100 * y9_188 + y3_182))]) rfl rfl rfl ?_
      refine j_iload_n G 1 rfl d9_bell_74 ?_
      refine j_icmp_le (tgt := 89) G d9_bell_75 (by decide) (by omega) (by omega) (fun h195 => ?_) (fun h195 => ?_)
      ·
        refine j_iinc G d9_bell_89 0 rfl (by decide) rfl ?_
        refine j_goto (tgt := 30) G d9_bell_92 (by decide) ?_
        refine j_eq (ls' := [(4, .int (iZ 5)), (3, .int (iZ w0)), (2, .int (iZ bst)), (1, .ref ca), (0, .ref xo)]) rfl rfl rfl ?_
        refine j_perm (ws' := [(xo, xO xa X), (xa 2, aRef E 3 4 ck), (da, aInt E 24 dr), (sa, aInt E 24 sr), (xa 13, o3 (some (xa 12)) (some (xa 31)) (upS (upS Q 1 q1_180) 2 (q2 + 1))), (xa 31, aLng E 39852 kn1_179), (xa 14, o2 (some (xa 12)) (some (xa 13)) (some (xa 32)) (upS (upS (upS (upS (upS (upS (upS (upS (upS (upS (upS (upS Y2 2 y2_181) 3 y3_182) 4 y4_183) 5 y5_184) 6 y6_185) 7 y7_186) 8 y8_187) 9 y9_188) 10 y10_189) 11 y11_190) 12 y12_191) 13 y13_192)), (xa 32, aInt E 12 pn1_178), (xa 12, o7 (some ca) (some (xa 30)) (upS (upS (upS (upS (upS T 1 t1_3) 3 (C 5)) 4 (C 6)) 5 (C 7)) 6 0)), (xa 30, aInt E 24 co), (ca, o1 (some pa) (some da) (some sa) C), (pa, aInt E 5 P), (xa 6, o5 (some (xa 20)) (some (xa 21)) (some (xa 22)) (some (xa 23)) U), (xa 20, aInt E 24 co)]) [0, 1, 14, 15, 8, 9, 6, 7, 10, 11, 12, 13, 2, 3] rfl rfl rfl ?_
        exact lpB5 bst w0 (upS (upS (upS (upS (upS (upS (upS (upS (upS (upS (upS (upS Y2 2 y2_181) 3 y3_182) 4 y4_183) 5 y5_184) 6 y6_185) 7 y7_186) 8 y8_187) 9 y9_188) 10 y10_189) 11 y11_190) 12 y12_191) 13 y13_192) kn1_179 pn1_178 q1_180 (q2 + 1) (by omega) ⟨hKB, by omega, by omega⟩ (hw.trans ((beF_s (kB C P D W co 1) (81 * U 2) 7 4 bst w0).trans (by rw [hWv, if_pos (by omega), show (4 : Int) + 1 = 5 by rfl])))
      ·
        refine j_iload G 0 rfl d9_bell_78 ?_
        refine j_istore_n G d9_bell_80 (by decide) rfl ?_
        refine j_aload_n G 4 rfl d9_bell_81 ?_
        refine j_get G 0 9 14 in9 fl9_78 d9_bell_82 rfl rfl (by decide) (v := .ref (xa 14)) rfl rfl ?_
        refine j_VP G (k2_worth (xl Γ) E (xa 14) (xa 32) (upS (upS (upS (upS (upS (upS (upS (upS (upS (upS (upS (upS Y2 2 y2_181) 3 y3_182) 4 y4_183) 5 y5_184) 6 y6_185) 7 y7_186) 8 y8_187) 9 y9_188) 10 y10_189) 11 y11_190) 12 y12_191) 13 y13_192) (xa 12) (xa 13) ) mw2_worth ml9_241 [6] rfl 6 2 rfl rfl rfl ⟨Nat.le_of_ble_eq_true rfl, Nat.le_of_ble_eq_true rfl⟩ rfl (rest := []) rfl (Nat.le_of_ble_eq_true rfl) d9_bell_85 ⟨Nat.le_of_ble_eq_true rfl, Nat.le_of_ble_eq_true rfl⟩ (fun r hr => ?_)
        obtain ⟨_, rfl, rfl⟩ := hr
        refine j_eq (st' := [.int (iZ (100 * y9_188 + y3_182))]) rfl rfl rfl ?_
        refine j_istore_n G d9_bell_88 (by decide) rfl ?_
        refine j_iinc G d9_bell_89 2 rfl (by decide) rfl ?_
        refine j_goto (tgt := 30) G d9_bell_92 (by decide) ?_
        refine j_eq (ls' := [(4, .int (iZ 5)), (3, .int (iZ (100 * y9_188 + y3_182))), (2, .int (iZ 4)), (1, .ref ca), (0, .ref xo)]) rfl rfl rfl ?_
        refine j_perm (ws' := [(xo, xO xa X), (xa 2, aRef E 3 4 ck), (da, aInt E 24 dr), (sa, aInt E 24 sr), (xa 13, o3 (some (xa 12)) (some (xa 31)) (upS (upS Q 1 q1_180) 2 (q2 + 1))), (xa 31, aLng E 39852 kn1_179), (xa 14, o2 (some (xa 12)) (some (xa 13)) (some (xa 32)) (upS (upS (upS (upS (upS (upS (upS (upS (upS (upS (upS (upS Y2 2 y2_181) 3 y3_182) 4 y4_183) 5 y5_184) 6 y6_185) 7 y7_186) 8 y8_187) 9 y9_188) 10 y10_189) 11 y11_190) 12 y12_191) 13 y13_192)), (xa 32, aInt E 12 pn1_178), (xa 12, o7 (some ca) (some (xa 30)) (upS (upS (upS (upS (upS T 1 t1_3) 3 (C 5)) 4 (C 6)) 5 (C 7)) 6 0)), (xa 30, aInt E 24 co), (ca, o1 (some pa) (some da) (some sa) C), (pa, aInt E 5 P), (xa 6, o5 (some (xa 20)) (some (xa 21)) (some (xa 22)) (some (xa 23)) U), (xa 20, aInt E 24 co)]) [0, 1, 14, 15, 8, 9, 6, 7, 10, 11, 12, 13, 2, 3] rfl rfl rfl ?_
        exact lpB5 4 (100 * y9_188 + y3_182) (upS (upS (upS (upS (upS (upS (upS (upS (upS (upS (upS (upS Y2 2 y2_181) 3 y3_182) 4 y4_183) 5 y5_184) 6 y6_185) 7 y7_186) 8 y8_187) 9 y9_188) 10 y10_189) 11 y11_190) 12 y12_191) 13 y13_192) kn1_179 pn1_178 q1_180 (q2 + 1) (by omega) ⟨hKB, by omega, by omega⟩ (hw.trans ((beF_s (kB C P D W co 1) (81 * U 2) 7 4 bst w0).trans (by rw [hWv, if_neg (by omega), show (4 : Int) + 1 = 5 by rfl])))
  have lpB3 : ∀ (bst : Int) (w0 : Int) (Y2 : Nat → Int) (kn2 : Int → Int) (pn2 : Int → Int) (q1 : Int) (q2 : Int), ((0 ≤ bst ∧ bst ≤ 11) ∧ (0 ≤ w0 ∧ w0 ≤ 8000)) → (KnB q2 kn2 ∧ q2 ≤ Q 2 + 3 ∧ Q 2 ≤ q2) → (beF (kB C P D W co 1) (81 * U 2) 12 0 0 (-1) = beF (kB C P D W co 1) (81 * U 2) 9 3 bst w0) →  J E 5 Γ (some A) 6 15 [(xo, xO xa X), (xa 2, aRef E 3 4 ck), (da, aInt E 24 dr), (sa, aInt E 24 sr), (xa 13, o3 (some (xa 12)) (some (xa 31)) (upS (upS Q 1 q1) 2 q2)), (xa 31, aLng E 39852 kn2), (xa 14, o2 (some (xa 12)) (some (xa 13)) (some (xa 32)) Y2), (xa 32, aInt E 12 pn2), (xa 12, o7 (some ca) (some (xa 30)) (upS (upS (upS (upS (upS T 1 t1_3) 3 (C 5)) 4 (C 6)) 5 (C 7)) 6 0)), (xa 30, aInt E 24 co), (ca, o1 (some pa) (some da) (some sa) C), (pa, aInt E 5 P), (xa 6, o5 (some (xa 20)) (some (xa 21)) (some (xa 22)) (some (xa 23)) U), (xa 20, aInt E 24 co)] 30 [(4, .int (iZ 3)), (3, .int (iZ w0)), (2, .int (iZ bst)), (1, .ref ca), (0, .ref xo)] [] := by
    intro bst w0 Y2 kn2 pn2 q1 q2 hw0 hkn2 hw
    refine j_iload G 0 rfl d9_bell_30 ?_
    refine j_bipush G d9_bell_32 rfl ?_
    refine j_icmp_gt (tgt := 95) G d9_bell_34 (by decide) (by decide) (by decide) (fun h197 => absurd h197 (by decide)) (fun h197 => ?_)
    refine j_aload_n G 4 rfl d9_bell_37 ?_
    refine j_get G 0 9 14 in9 fl9_78 d9_bell_38 rfl rfl (by decide) (v := .ref (xa 14)) rfl rfl ?_
    refine j_new G 4 (fs := z4) in4 tyok4 cl9_21 is4 ini4 rfl hz4 ⟨Nat.le_of_ble_eq_true rfl, Nat.le_of_ble_eq_true rfl⟩ d9_bell_41 (fun q198 => ?_)
    refine j_dup G d9_bell_44 rfl ?_
    refine j_iconst G d9_bell_45 ?_
    refine j_iload G 0 rfl d9_bell_46 ?_
    refine j_iconst G d9_bell_48 ?_
    refine j_IM G (rm' := { frames := 1, cells := 1, slots := 0, locals := 12 }) (wc := [(q198, o4 none (fun _ => 0))]) (wr := [(xo, xO xa X), (xa 2, aRef E 3 4 ck), (da, aInt E 24 dr), (sa, aInt E 24 sr), (xa 13, o3 (some (xa 12)) (some (xa 31)) (upS (upS Q 1 q1) 2 q2)), (xa 31, aLng E 39852 kn2), (xa 14, o2 (some (xa 12)) (some (xa 13)) (some (xa 32)) Y2), (xa 32, aInt E 12 pn2), (xa 12, o7 (some ca) (some (xa 30)) (upS (upS (upS (upS (upS T 1 t1_3) 3 (C 5)) 4 (C 6)) 5 (C 7)) 6 0)), (xa 30, aInt E 24 co), (ca, o1 (some pa) (some da) (some sa) C), (pa, aInt E 5 P), (xa 6, o5 (some (xa 20)) (some (xa 21)) (some (xa 22)) (some (xa 23)) U), (xa 20, aInt E 24 co)]) (k4_initb (xl Γ) E q198 2 3 0 (by first | assumption | omega | (simp only [upS, reduceIte, Nat.reduceEqDiff, eq_self, List.length_cons, List.length_nil, List.length_append] <;> omega)) (by first | assumption | omega | (simp only [upS, reduceIte, Nat.reduceEqDiff, eq_self, List.length_cons, List.length_nil, List.length_append] <;> omega))) mw4_init ml9_50 [14] [0, 1, 2, 3, 4, 5, 6, 7, 8, 9, 10, 11, 12, 13] rfl rfl ⟨rfl, rfl⟩ (by decide) ⟨Nat.le_of_ble_eq_true rfl, Nat.le_of_ble_eq_true rfl⟩ rfl (rest := [.ref q198, .ref (xa 14)]) rfl (Nat.le_of_ble_eq_true rfl) d9_bell_49 ⟨Nat.le_of_ble_eq_true rfl, Nat.le_of_ble_eq_true rfl⟩ (fun r w1 hr => ?_)
    obtain ⟨c0_200, rfl, rfl, hq199⟩ := hr
    refine j_eq (ws' := [(xo, xO xa X), (xa 2, aRef E 3 4 ck), (da, aInt E 24 dr), (sa, aInt E 24 sr), (xa 13, o3 (some (xa 12)) (some (xa 31)) (upS (upS Q 1 q1) 2 q2)), (xa 31, aLng E 39852 kn2), (xa 14, o2 (some (xa 12)) (some (xa 13)) (some (xa 32)) Y2), (xa 32, aInt E 12 pn2), (xa 12, o7 (some ca) (some (xa 30)) (upS (upS (upS (upS (upS T 1 t1_3) 3 (C 5)) 4 (C 6)) 5 (C 7)) 6 0)), (xa 30, aInt E 24 co), (ca, o1 (some pa) (some da) (some sa) C), (pa, aInt E 5 P), (xa 6, o5 (some (xa 20)) (some (xa 21)) (some (xa 22)) (some (xa 23)) U), (xa 20, aInt E 24 co), (q198, o4 (some c0_200) (upS (upS (upS (fun _ => 0) 0 2) 1 3) 2 0)), (c0_200, aInt E 0 (fun _ => 0))]) rfl rfl rfl ?_
    refine j_aload_n G 4 rfl d9_bell_52 ?_
    refine j_get G 0 9 6 in9 fl9_30 d9_bell_53 rfl rfl (by decide) (v := .ref (xa 6)) rfl rfl ?_
    refine j_get G 12 5 2 in5 fl9_175 d9_bell_56 rfl rfl (by decide) (v := .int (iZ (U 2))) rfl rfl ?_
    refine j_VM G (rm' := { frames := 28, cells := 0, slots := 0, locals := 779 }) (wc := [(q198, o4 (some c0_200) (upS (upS (upS (fun _ => 0) 0 2) 1 3) 2 0)), (c0_200, aInt E 0 (fun _ => 0)), (xa 14, o2 (some (xa 12)) (some (xa 13)) (some (xa 32)) Y2), (xa 32, aInt E 12 pn2), (xa 13, o3 (some (xa 12)) (some (xa 31)) (upS (upS Q 1 q1) 2 q2)), (xa 31, aLng E 39852 kn2), (xa 12, o7 (some ca) (some (xa 30)) (upS (upS (upS (upS (upS T 1 t1_3) 3 (C 5)) 4 (C 6)) 5 (C 7)) 6 0)), (xa 30, aInt E 24 co), (ca, o1 (some pa) (some da) (some sa) C), (pa, aInt E 5 P), (da, aInt E 24 dr), (sa, aInt E 24 sr)]) (wr := [(xo, xO xa X), (xa 2, aRef E 3 4 ck), (xa 6, o5 (some (xa 20)) (some (xa 21)) (some (xa 22)) (some (xa 23)) U), (xa 20, aInt E 24 co)]) (k2_leadBy (xl Γ) E q198 c0_200 0 (upS (upS (upS (fun _ => 0) 0 2) 1 3) 2 0) (fun _ => 0) (xa 14) (xa 32) Y2 (xa 13) (xa 31) (upS (upS Q 1 q1) 2 q2) (xa 12) (xa 30) (upS (upS (upS (upS (upS T 1 t1_3) 3 (C 5)) 4 (C 6)) 5 (C 7)) 6 0) ca pa da sa C P dr sr co (kB C P D W co 1) kn2 pn2 (U 2) (tm_k (mt := 0) (ms := 0) (msp := 0) (mp := 0) (n := 1) rfl hwf (by omega) (by omega) (by omega) (by omega) (by omega) hco (fun s a b => by have q := hDW s a b; simp only [upS, reduceIte, Nat.reduceEqDiff]; rw [ht1, Int.add_zero]; exact q) (by first | (simp only [upS, reduceIte, Nat.reduceEqDiff]; omega) | simp only [upS, reduceIte, Nat.reduceEqDiff]) (by first | (simp only [upS, reduceIte, Nat.reduceEqDiff]; omega) | simp only [upS, reduceIte, Nat.reduceEqDiff]) (by first | (simp only [upS, reduceIte, Nat.reduceEqDiff]; omega) | simp only [upS, reduceIte, Nat.reduceEqDiff]) (by first | (simp only [upS, reduceIte, Nat.reduceEqDiff]; omega) | simp only [upS, reduceIte, Nat.reduceEqDiff]) (by first | (simp only [upS, reduceIte, Nat.reduceEqDiff]; omega) | simp only [upS, reduceIte, Nat.reduceEqDiff]) (fun s a b => ⟨rfl, by have q := hco (12 + s) (by omega) (by omega); omega⟩)) hkn2.1 (by first | assumption | omega | (simp only [upS, reduceIte, Nat.reduceEqDiff, eq_self, List.length_cons, List.length_nil, List.length_append] <;> omega)) (by first | assumption | omega | (simp only [upS, reduceIte, Nat.reduceEqDiff, eq_self, List.length_cons, List.length_nil, List.length_append] <;> omega)) (fun q => absurd (show (2 : Int) = 6 from q) (by decide)) (fun q => absurd (show (2 : Int) = 6 from q) (by decide)) (by first | assumption | omega | (simp only [upS, reduceIte, Nat.reduceEqDiff, eq_self, List.length_cons, List.length_nil, List.length_append] <;> omega))) mw2_leadBy ml9_201 [14, 15, 6, 7, 4, 5, 8, 9, 10, 11, 2, 3] [0, 1, 12, 13] rfl rfl ⟨rfl, rfl⟩ (by decide) 6 2 rfl rfl rfl ⟨Nat.le_of_ble_eq_true rfl, Nat.le_of_ble_eq_true rfl⟩ rfl (rest := []) rfl (Nat.le_of_ble_eq_true rfl) d9_bell_59 ⟨Nat.le_of_ble_eq_true rfl, Nat.le_of_ble_eq_true rfl⟩ (fun r w1 hr => ?_)
    obtain ⟨pn1_202, kn1_203, q1_204, y2_205, y3_206, y4_207, y5_208, y6_209, y7_210, y8_211, y9_212, y10_213, y11_214, y12_215, y13_216, rfl, rfl, ⟨hq201_0, hq201_1, hq201_2, hq201_3, hq201_4, hq201_5, hq201_6, hq201_7, hq201_8⟩⟩ := hr
    refine j_eq (ws' := [(xo, xO xa X), (xa 2, aRef E 3 4 ck), (xa 6, o5 (some (xa 20)) (some (xa 21)) (some (xa 22)) (some (xa 23)) U), (xa 20, aInt E 24 co), (q198, o4 (some c0_200) (upS (upS (upS (fun _ => 0) 0 2) 1 3) 2 0)), (c0_200, aInt E 0 (fun _ => 0)), (xa 14, o2 (some (xa 12)) (some (xa 13)) (some (xa 32)) (upS (upS (upS (upS (upS (upS (upS (upS (upS (upS (upS (upS Y2 2 y2_205) 3 y3_206) 4 y4_207) 5 y5_208) 6 y6_209) 7 y7_210) 8 y8_211) 9 y9_212) 10 y10_213) 11 y11_214) 12 y12_215) 13 y13_216)), (xa 32, aInt E 12 pn1_202), (xa 13, o3 (some (xa 12)) (some (xa 31)) (upS (upS Q 1 q1_204) 2 (q2 + 1))), (xa 31, aLng E 39852 kn1_203), (xa 12, o7 (some ca) (some (xa 30)) (upS (upS (upS (upS (upS T 1 t1_3) 3 (C 5)) 4 (C 6)) 5 (C 7)) 6 0)), (xa 30, aInt E 24 co), (ca, o1 (some pa) (some da) (some sa) C), (pa, aInt E 5 P), (da, aInt E 24 dr), (sa, aInt E 24 sr)]) rfl rfl rfl ?_
    try simp only [upS, reduceIte, Nat.reduceEqDiff, eq_self] at hq201_0 hq201_1 hq201_2 hq201_3 hq201_4 hq201_5 hq201_6 hq201_7 hq201_8
    have hA := hq201_0
    have hB := hq201_1
    have hC := hq201_2
    have hDd := hq201_3
    have hE := hq201_4
    have hF := hq201_5
    have hG := hq201_6
    have hH := hq201_7
    have hKB := hq201_8
    have hgg : (fun s st => ldI (kB C P D W co 1) 2 3 s st 0 (fun _ => 0)) = (gB (kB C P D W co 1) 2 3) := by funext s st; exact (gB_e (by decide)).symm
    rw [hgg] at hA hF
    have hok : okD (kB C P D W co 1) := okD_k (C := C) (P := P) (D := D) (W := W) (co := co) (mt := 0) (ms := 0) (msp := 0) (mp := 0) (n := 1) hwf (by omega) (by omega) (by omega) (by omega) (by omega) (fun s a b => (hDW s a b).2.2.2) hco
    have hAr := dyA_r (g := (gB (kB C P D W co 1) 2 3)) (f := dUp (kB C P D W co 1)) hok (st0 := 81 * U 2) (by omega) (fun s st h1 h2 => by have := dR hok h1 h2; omega) 12 (Nat.le_refl 12)
    rw [← hA] at hAr
    have hWv : beW (kB C P D W co 1) (81 * U 2) 3 = 100 * y9_212 + y3_206 := by unfold beW; rw [← hA, ← hF]; omega
    refine j_iload_n G 2 rfl d9_bell_62 ?_
    refine j_iconst G d9_bell_63 ?_
    refine j_icmp_eq (tgt := 78) G d9_bell_64 (by decide) (by omega) (by decide) (fun h217 => ?_) (fun h217 => ?_)
    ·
      exact absurd h217 (by omega)
    ·
      refine j_aload_n G 4 rfl d9_bell_67 ?_
      refine j_get G 0 9 14 in9 fl9_78 d9_bell_68 rfl rfl (by decide) (v := .ref (xa 14)) rfl rfl ?_
      refine j_VP G (k2_worth (xl Γ) E (xa 14) (xa 32) (upS (upS (upS (upS (upS (upS (upS (upS (upS (upS (upS (upS Y2 2 y2_205) 3 y3_206) 4 y4_207) 5 y5_208) 6 y6_209) 7 y7_210) 8 y8_211) 9 y9_212) 10 y10_213) 11 y11_214) 12 y12_215) 13 y13_216) (xa 12) (xa 13) ) mw2_worth ml9_241 [6] rfl 6 2 rfl rfl rfl ⟨Nat.le_of_ble_eq_true rfl, Nat.le_of_ble_eq_true rfl⟩ rfl (rest := []) rfl (Nat.le_of_ble_eq_true rfl) d9_bell_71 ⟨Nat.le_of_ble_eq_true rfl, Nat.le_of_ble_eq_true rfl⟩ (fun r hr => ?_)
      obtain ⟨_, rfl, rfl⟩ := hr
      refine j_eq (st' := [.int (iZ (100 * y9_212 + y3_206))]) rfl rfl rfl ?_
      refine j_iload_n G 1 rfl d9_bell_74 ?_
      refine j_icmp_le (tgt := 89) G d9_bell_75 (by decide) (by omega) (by omega) (fun h219 => ?_) (fun h219 => ?_)
      ·
        refine j_iinc G d9_bell_89 0 rfl (by decide) rfl ?_
        refine j_goto (tgt := 30) G d9_bell_92 (by decide) ?_
        refine j_eq (ls' := [(4, .int (iZ 4)), (3, .int (iZ w0)), (2, .int (iZ bst)), (1, .ref ca), (0, .ref xo)]) rfl rfl rfl ?_
        refine j_perm (ws' := [(xo, xO xa X), (xa 2, aRef E 3 4 ck), (da, aInt E 24 dr), (sa, aInt E 24 sr), (xa 13, o3 (some (xa 12)) (some (xa 31)) (upS (upS Q 1 q1_204) 2 (q2 + 1))), (xa 31, aLng E 39852 kn1_203), (xa 14, o2 (some (xa 12)) (some (xa 13)) (some (xa 32)) (upS (upS (upS (upS (upS (upS (upS (upS (upS (upS (upS (upS Y2 2 y2_205) 3 y3_206) 4 y4_207) 5 y5_208) 6 y6_209) 7 y7_210) 8 y8_211) 9 y9_212) 10 y10_213) 11 y11_214) 12 y12_215) 13 y13_216)), (xa 32, aInt E 12 pn1_202), (xa 12, o7 (some ca) (some (xa 30)) (upS (upS (upS (upS (upS T 1 t1_3) 3 (C 5)) 4 (C 6)) 5 (C 7)) 6 0)), (xa 30, aInt E 24 co), (ca, o1 (some pa) (some da) (some sa) C), (pa, aInt E 5 P), (xa 6, o5 (some (xa 20)) (some (xa 21)) (some (xa 22)) (some (xa 23)) U), (xa 20, aInt E 24 co)]) [0, 1, 14, 15, 8, 9, 6, 7, 10, 11, 12, 13, 2, 3] rfl rfl rfl ?_
        exact lpB4 bst w0 (upS (upS (upS (upS (upS (upS (upS (upS (upS (upS (upS (upS Y2 2 y2_205) 3 y3_206) 4 y4_207) 5 y5_208) 6 y6_209) 7 y7_210) 8 y8_211) 9 y9_212) 10 y10_213) 11 y11_214) 12 y12_215) 13 y13_216) kn1_203 pn1_202 q1_204 (q2 + 1) (by omega) ⟨hKB, by omega, by omega⟩ (hw.trans ((beF_s (kB C P D W co 1) (81 * U 2) 8 3 bst w0).trans (by rw [hWv, if_pos (by omega), show (3 : Int) + 1 = 4 by rfl])))
      ·
        refine j_iload G 0 rfl d9_bell_78 ?_
        refine j_istore_n G d9_bell_80 (by decide) rfl ?_
        refine j_aload_n G 4 rfl d9_bell_81 ?_
        refine j_get G 0 9 14 in9 fl9_78 d9_bell_82 rfl rfl (by decide) (v := .ref (xa 14)) rfl rfl ?_
        refine j_VP G (k2_worth (xl Γ) E (xa 14) (xa 32) (upS (upS (upS (upS (upS (upS (upS (upS (upS (upS (upS (upS Y2 2 y2_205) 3 y3_206) 4 y4_207) 5 y5_208) 6 y6_209) 7 y7_210) 8 y8_211) 9 y9_212) 10 y10_213) 11 y11_214) 12 y12_215) 13 y13_216) (xa 12) (xa 13) ) mw2_worth ml9_241 [6] rfl 6 2 rfl rfl rfl ⟨Nat.le_of_ble_eq_true rfl, Nat.le_of_ble_eq_true rfl⟩ rfl (rest := []) rfl (Nat.le_of_ble_eq_true rfl) d9_bell_85 ⟨Nat.le_of_ble_eq_true rfl, Nat.le_of_ble_eq_true rfl⟩ (fun r hr => ?_)
        obtain ⟨_, rfl, rfl⟩ := hr
        refine j_eq (st' := [.int (iZ (100 * y9_212 + y3_206))]) rfl rfl rfl ?_
        refine j_istore_n G d9_bell_88 (by decide) rfl ?_
        refine j_iinc G d9_bell_89 2 rfl (by decide) rfl ?_
        refine j_goto (tgt := 30) G d9_bell_92 (by decide) ?_
        refine j_eq (ls' := [(4, .int (iZ 4)), (3, .int (iZ (100 * y9_212 + y3_206))), (2, .int (iZ 3)), (1, .ref ca), (0, .ref xo)]) rfl rfl rfl ?_
        refine j_perm (ws' := [(xo, xO xa X), (xa 2, aRef E 3 4 ck), (da, aInt E 24 dr), (sa, aInt E 24 sr), (xa 13, o3 (some (xa 12)) (some (xa 31)) (upS (upS Q 1 q1_204) 2 (q2 + 1))), (xa 31, aLng E 39852 kn1_203), (xa 14, o2 (some (xa 12)) (some (xa 13)) (some (xa 32)) (upS (upS (upS (upS (upS (upS (upS (upS (upS (upS (upS (upS Y2 2 y2_205) 3 y3_206) 4 y4_207) 5 y5_208) 6 y6_209) 7 y7_210) 8 y8_211) 9 y9_212) 10 y10_213) 11 y11_214) 12 y12_215) 13 y13_216)), (xa 32, aInt E 12 pn1_202), (xa 12, o7 (some ca) (some (xa 30)) (upS (upS (upS (upS (upS T 1 t1_3) 3 (C 5)) 4 (C 6)) 5 (C 7)) 6 0)), (xa 30, aInt E 24 co), (ca, o1 (some pa) (some da) (some sa) C), (pa, aInt E 5 P), (xa 6, o5 (some (xa 20)) (some (xa 21)) (some (xa 22)) (some (xa 23)) U), (xa 20, aInt E 24 co)]) [0, 1, 14, 15, 8, 9, 6, 7, 10, 11, 12, 13, 2, 3] rfl rfl rfl ?_
        exact lpB4 3 (100 * y9_212 + y3_206) (upS (upS (upS (upS (upS (upS (upS (upS (upS (upS (upS (upS Y2 2 y2_205) 3 y3_206) 4 y4_207) 5 y5_208) 6 y6_209) 7 y7_210) 8 y8_211) 9 y9_212) 10 y10_213) 11 y11_214) 12 y12_215) 13 y13_216) kn1_203 pn1_202 q1_204 (q2 + 1) (by omega) ⟨hKB, by omega, by omega⟩ (hw.trans ((beF_s (kB C P D W co 1) (81 * U 2) 8 3 bst w0).trans (by rw [hWv, if_neg (by omega), show (3 : Int) + 1 = 4 by rfl])))
  have lpB2 : ∀ (bst : Int) (w0 : Int) (Y2 : Nat → Int) (kn2 : Int → Int) (pn2 : Int → Int) (q1 : Int) (q2 : Int), ((0 ≤ bst ∧ bst ≤ 11) ∧ (0 ≤ w0 ∧ w0 ≤ 8000)) → (KnB q2 kn2 ∧ q2 ≤ Q 2 + 2 ∧ Q 2 ≤ q2) → (beF (kB C P D W co 1) (81 * U 2) 12 0 0 (-1) = beF (kB C P D W co 1) (81 * U 2) 10 2 bst w0) →  J E 5 Γ (some A) 4 10 [(xo, xO xa X), (xa 2, aRef E 3 4 ck), (da, aInt E 24 dr), (sa, aInt E 24 sr), (xa 13, o3 (some (xa 12)) (some (xa 31)) (upS (upS Q 1 q1) 2 q2)), (xa 31, aLng E 39852 kn2), (xa 14, o2 (some (xa 12)) (some (xa 13)) (some (xa 32)) Y2), (xa 32, aInt E 12 pn2), (xa 12, o7 (some ca) (some (xa 30)) (upS (upS (upS (upS (upS T 1 t1_3) 3 (C 5)) 4 (C 6)) 5 (C 7)) 6 0)), (xa 30, aInt E 24 co), (ca, o1 (some pa) (some da) (some sa) C), (pa, aInt E 5 P), (xa 6, o5 (some (xa 20)) (some (xa 21)) (some (xa 22)) (some (xa 23)) U), (xa 20, aInt E 24 co)] 30 [(4, .int (iZ 2)), (3, .int (iZ w0)), (2, .int (iZ bst)), (1, .ref ca), (0, .ref xo)] [] := by
    intro bst w0 Y2 kn2 pn2 q1 q2 hw0 hkn2 hw
    refine j_iload G 0 rfl d9_bell_30 ?_
    refine j_bipush G d9_bell_32 rfl ?_
    refine j_icmp_gt (tgt := 95) G d9_bell_34 (by decide) (by decide) (by decide) (fun h221 => absurd h221 (by decide)) (fun h221 => ?_)
    refine j_aload_n G 4 rfl d9_bell_37 ?_
    refine j_get G 0 9 14 in9 fl9_78 d9_bell_38 rfl rfl (by decide) (v := .ref (xa 14)) rfl rfl ?_
    refine j_new G 4 (fs := z4) in4 tyok4 cl9_21 is4 ini4 rfl hz4 ⟨Nat.le_of_ble_eq_true rfl, Nat.le_of_ble_eq_true rfl⟩ d9_bell_41 (fun q222 => ?_)
    refine j_dup G d9_bell_44 rfl ?_
    refine j_iconst G d9_bell_45 ?_
    refine j_iload G 0 rfl d9_bell_46 ?_
    refine j_iconst G d9_bell_48 ?_
    refine j_IM G (rm' := { frames := 1, cells := 1, slots := 0, locals := 12 }) (wc := [(q222, o4 none (fun _ => 0))]) (wr := [(xo, xO xa X), (xa 2, aRef E 3 4 ck), (da, aInt E 24 dr), (sa, aInt E 24 sr), (xa 13, o3 (some (xa 12)) (some (xa 31)) (upS (upS Q 1 q1) 2 q2)), (xa 31, aLng E 39852 kn2), (xa 14, o2 (some (xa 12)) (some (xa 13)) (some (xa 32)) Y2), (xa 32, aInt E 12 pn2), (xa 12, o7 (some ca) (some (xa 30)) (upS (upS (upS (upS (upS T 1 t1_3) 3 (C 5)) 4 (C 6)) 5 (C 7)) 6 0)), (xa 30, aInt E 24 co), (ca, o1 (some pa) (some da) (some sa) C), (pa, aInt E 5 P), (xa 6, o5 (some (xa 20)) (some (xa 21)) (some (xa 22)) (some (xa 23)) U), (xa 20, aInt E 24 co)]) (k4_initb (xl Γ) E q222 2 2 0 (by first | assumption | omega | (simp only [upS, reduceIte, Nat.reduceEqDiff, eq_self, List.length_cons, List.length_nil, List.length_append] <;> omega)) (by first | assumption | omega | (simp only [upS, reduceIte, Nat.reduceEqDiff, eq_self, List.length_cons, List.length_nil, List.length_append] <;> omega))) mw4_init ml9_50 [14] [0, 1, 2, 3, 4, 5, 6, 7, 8, 9, 10, 11, 12, 13] rfl rfl ⟨rfl, rfl⟩ (by decide) ⟨Nat.le_of_ble_eq_true rfl, Nat.le_of_ble_eq_true rfl⟩ rfl (rest := [.ref q222, .ref (xa 14)]) rfl (Nat.le_of_ble_eq_true rfl) d9_bell_49 ⟨Nat.le_of_ble_eq_true rfl, Nat.le_of_ble_eq_true rfl⟩ (fun r w1 hr => ?_)
    obtain ⟨c0_224, rfl, rfl, hq223⟩ := hr
    refine j_eq (ws' := [(xo, xO xa X), (xa 2, aRef E 3 4 ck), (da, aInt E 24 dr), (sa, aInt E 24 sr), (xa 13, o3 (some (xa 12)) (some (xa 31)) (upS (upS Q 1 q1) 2 q2)), (xa 31, aLng E 39852 kn2), (xa 14, o2 (some (xa 12)) (some (xa 13)) (some (xa 32)) Y2), (xa 32, aInt E 12 pn2), (xa 12, o7 (some ca) (some (xa 30)) (upS (upS (upS (upS (upS T 1 t1_3) 3 (C 5)) 4 (C 6)) 5 (C 7)) 6 0)), (xa 30, aInt E 24 co), (ca, o1 (some pa) (some da) (some sa) C), (pa, aInt E 5 P), (xa 6, o5 (some (xa 20)) (some (xa 21)) (some (xa 22)) (some (xa 23)) U), (xa 20, aInt E 24 co), (q222, o4 (some c0_224) (upS (upS (upS (fun _ => 0) 0 2) 1 2) 2 0)), (c0_224, aInt E 0 (fun _ => 0))]) rfl rfl rfl ?_
    refine j_aload_n G 4 rfl d9_bell_52 ?_
    refine j_get G 0 9 6 in9 fl9_30 d9_bell_53 rfl rfl (by decide) (v := .ref (xa 6)) rfl rfl ?_
    refine j_get G 12 5 2 in5 fl9_175 d9_bell_56 rfl rfl (by decide) (v := .int (iZ (U 2))) rfl rfl ?_
    refine j_VM G (rm' := { frames := 28, cells := 0, slots := 0, locals := 779 }) (wc := [(q222, o4 (some c0_224) (upS (upS (upS (fun _ => 0) 0 2) 1 2) 2 0)), (c0_224, aInt E 0 (fun _ => 0)), (xa 14, o2 (some (xa 12)) (some (xa 13)) (some (xa 32)) Y2), (xa 32, aInt E 12 pn2), (xa 13, o3 (some (xa 12)) (some (xa 31)) (upS (upS Q 1 q1) 2 q2)), (xa 31, aLng E 39852 kn2), (xa 12, o7 (some ca) (some (xa 30)) (upS (upS (upS (upS (upS T 1 t1_3) 3 (C 5)) 4 (C 6)) 5 (C 7)) 6 0)), (xa 30, aInt E 24 co), (ca, o1 (some pa) (some da) (some sa) C), (pa, aInt E 5 P), (da, aInt E 24 dr), (sa, aInt E 24 sr)]) (wr := [(xo, xO xa X), (xa 2, aRef E 3 4 ck), (xa 6, o5 (some (xa 20)) (some (xa 21)) (some (xa 22)) (some (xa 23)) U), (xa 20, aInt E 24 co)]) (k2_leadBy (xl Γ) E q222 c0_224 0 (upS (upS (upS (fun _ => 0) 0 2) 1 2) 2 0) (fun _ => 0) (xa 14) (xa 32) Y2 (xa 13) (xa 31) (upS (upS Q 1 q1) 2 q2) (xa 12) (xa 30) (upS (upS (upS (upS (upS T 1 t1_3) 3 (C 5)) 4 (C 6)) 5 (C 7)) 6 0) ca pa da sa C P dr sr co (kB C P D W co 1) kn2 pn2 (U 2) (tm_k (mt := 0) (ms := 0) (msp := 0) (mp := 0) (n := 1) rfl hwf (by omega) (by omega) (by omega) (by omega) (by omega) hco (fun s a b => by have q := hDW s a b; simp only [upS, reduceIte, Nat.reduceEqDiff]; rw [ht1, Int.add_zero]; exact q) (by first | (simp only [upS, reduceIte, Nat.reduceEqDiff]; omega) | simp only [upS, reduceIte, Nat.reduceEqDiff]) (by first | (simp only [upS, reduceIte, Nat.reduceEqDiff]; omega) | simp only [upS, reduceIte, Nat.reduceEqDiff]) (by first | (simp only [upS, reduceIte, Nat.reduceEqDiff]; omega) | simp only [upS, reduceIte, Nat.reduceEqDiff]) (by first | (simp only [upS, reduceIte, Nat.reduceEqDiff]; omega) | simp only [upS, reduceIte, Nat.reduceEqDiff]) (by first | (simp only [upS, reduceIte, Nat.reduceEqDiff]; omega) | simp only [upS, reduceIte, Nat.reduceEqDiff]) (fun s a b => ⟨rfl, by have q := hco (12 + s) (by omega) (by omega); omega⟩)) hkn2.1 (by first | assumption | omega | (simp only [upS, reduceIte, Nat.reduceEqDiff, eq_self, List.length_cons, List.length_nil, List.length_append] <;> omega)) (by first | assumption | omega | (simp only [upS, reduceIte, Nat.reduceEqDiff, eq_self, List.length_cons, List.length_nil, List.length_append] <;> omega)) (fun q => absurd (show (2 : Int) = 6 from q) (by decide)) (fun q => absurd (show (2 : Int) = 6 from q) (by decide)) (by first | assumption | omega | (simp only [upS, reduceIte, Nat.reduceEqDiff, eq_self, List.length_cons, List.length_nil, List.length_append] <;> omega))) mw2_leadBy ml9_201 [14, 15, 6, 7, 4, 5, 8, 9, 10, 11, 2, 3] [0, 1, 12, 13] rfl rfl ⟨rfl, rfl⟩ (by decide) 6 2 rfl rfl rfl ⟨Nat.le_of_ble_eq_true rfl, Nat.le_of_ble_eq_true rfl⟩ rfl (rest := []) rfl (Nat.le_of_ble_eq_true rfl) d9_bell_59 ⟨Nat.le_of_ble_eq_true rfl, Nat.le_of_ble_eq_true rfl⟩ (fun r w1 hr => ?_)
    obtain ⟨pn1_226, kn1_227, q1_228, y2_229, y3_230, y4_231, y5_232, y6_233, y7_234, y8_235, y9_236, y10_237, y11_238, y12_239, y13_240, rfl, rfl, ⟨hq225_0, hq225_1, hq225_2, hq225_3, hq225_4, hq225_5, hq225_6, hq225_7, hq225_8⟩⟩ := hr
    refine j_eq (ws' := [(xo, xO xa X), (xa 2, aRef E 3 4 ck), (xa 6, o5 (some (xa 20)) (some (xa 21)) (some (xa 22)) (some (xa 23)) U), (xa 20, aInt E 24 co), (q222, o4 (some c0_224) (upS (upS (upS (fun _ => 0) 0 2) 1 2) 2 0)), (c0_224, aInt E 0 (fun _ => 0)), (xa 14, o2 (some (xa 12)) (some (xa 13)) (some (xa 32)) (upS (upS (upS (upS (upS (upS (upS (upS (upS (upS (upS (upS Y2 2 y2_229) 3 y3_230) 4 y4_231) 5 y5_232) 6 y6_233) 7 y7_234) 8 y8_235) 9 y9_236) 10 y10_237) 11 y11_238) 12 y12_239) 13 y13_240)), (xa 32, aInt E 12 pn1_226), (xa 13, o3 (some (xa 12)) (some (xa 31)) (upS (upS Q 1 q1_228) 2 (q2 + 1))), (xa 31, aLng E 39852 kn1_227), (xa 12, o7 (some ca) (some (xa 30)) (upS (upS (upS (upS (upS T 1 t1_3) 3 (C 5)) 4 (C 6)) 5 (C 7)) 6 0)), (xa 30, aInt E 24 co), (ca, o1 (some pa) (some da) (some sa) C), (pa, aInt E 5 P), (da, aInt E 24 dr), (sa, aInt E 24 sr)]) rfl rfl rfl ?_
    try simp only [upS, reduceIte, Nat.reduceEqDiff, eq_self] at hq225_0 hq225_1 hq225_2 hq225_3 hq225_4 hq225_5 hq225_6 hq225_7 hq225_8
    have hA := hq225_0
    have hB := hq225_1
    have hC := hq225_2
    have hDd := hq225_3
    have hE := hq225_4
    have hF := hq225_5
    have hG := hq225_6
    have hH := hq225_7
    have hKB := hq225_8
    have hgg : (fun s st => ldI (kB C P D W co 1) 2 2 s st 0 (fun _ => 0)) = (gB (kB C P D W co 1) 2 2) := by funext s st; exact (gB_e (by decide)).symm
    rw [hgg] at hA hF
    have hok : okD (kB C P D W co 1) := okD_k (C := C) (P := P) (D := D) (W := W) (co := co) (mt := 0) (ms := 0) (msp := 0) (mp := 0) (n := 1) hwf (by omega) (by omega) (by omega) (by omega) (by omega) (fun s a b => (hDW s a b).2.2.2) hco
    have hAr := dyA_r (g := (gB (kB C P D W co 1) 2 2)) (f := dUp (kB C P D W co 1)) hok (st0 := 81 * U 2) (by omega) (fun s st h1 h2 => by have := dR hok h1 h2; omega) 12 (Nat.le_refl 12)
    rw [← hA] at hAr
    have hWv : beW (kB C P D W co 1) (81 * U 2) 2 = 100 * y9_236 + y3_230 := by unfold beW; rw [← hA, ← hF]; omega
    refine j_iload_n G 2 rfl d9_bell_62 ?_
    refine j_iconst G d9_bell_63 ?_
    refine j_icmp_eq (tgt := 78) G d9_bell_64 (by decide) (by omega) (by decide) (fun h241 => ?_) (fun h241 => ?_)
    ·
      exact absurd h241 (by omega)
    ·
      refine j_aload_n G 4 rfl d9_bell_67 ?_
      refine j_get G 0 9 14 in9 fl9_78 d9_bell_68 rfl rfl (by decide) (v := .ref (xa 14)) rfl rfl ?_
      refine j_VP G (k2_worth (xl Γ) E (xa 14) (xa 32) (upS (upS (upS (upS (upS (upS (upS (upS (upS (upS (upS (upS Y2 2 y2_229) 3 y3_230) 4 y4_231) 5 y5_232) 6 y6_233) 7 y7_234) 8 y8_235) 9 y9_236) 10 y10_237) 11 y11_238) 12 y12_239) 13 y13_240) (xa 12) (xa 13) ) mw2_worth ml9_241 [6] rfl 6 2 rfl rfl rfl ⟨Nat.le_of_ble_eq_true rfl, Nat.le_of_ble_eq_true rfl⟩ rfl (rest := []) rfl (Nat.le_of_ble_eq_true rfl) d9_bell_71 ⟨Nat.le_of_ble_eq_true rfl, Nat.le_of_ble_eq_true rfl⟩ (fun r hr => ?_)
      obtain ⟨_, rfl, rfl⟩ := hr
      refine j_eq (st' := [.int (iZ (100 * y9_236 + y3_230))]) rfl rfl rfl ?_
      refine j_iload_n G 1 rfl d9_bell_74 ?_
      refine j_icmp_le (tgt := 89) G d9_bell_75 (by decide) (by omega) (by omega) (fun h243 => ?_) (fun h243 => ?_)
      ·
        refine j_iinc G d9_bell_89 0 rfl (by decide) rfl ?_
        refine j_goto (tgt := 30) G d9_bell_92 (by decide) ?_
        refine j_eq (ls' := [(4, .int (iZ 3)), (3, .int (iZ w0)), (2, .int (iZ bst)), (1, .ref ca), (0, .ref xo)]) rfl rfl rfl ?_
        refine j_perm (ws' := [(xo, xO xa X), (xa 2, aRef E 3 4 ck), (da, aInt E 24 dr), (sa, aInt E 24 sr), (xa 13, o3 (some (xa 12)) (some (xa 31)) (upS (upS Q 1 q1_228) 2 (q2 + 1))), (xa 31, aLng E 39852 kn1_227), (xa 14, o2 (some (xa 12)) (some (xa 13)) (some (xa 32)) (upS (upS (upS (upS (upS (upS (upS (upS (upS (upS (upS (upS Y2 2 y2_229) 3 y3_230) 4 y4_231) 5 y5_232) 6 y6_233) 7 y7_234) 8 y8_235) 9 y9_236) 10 y10_237) 11 y11_238) 12 y12_239) 13 y13_240)), (xa 32, aInt E 12 pn1_226), (xa 12, o7 (some ca) (some (xa 30)) (upS (upS (upS (upS (upS T 1 t1_3) 3 (C 5)) 4 (C 6)) 5 (C 7)) 6 0)), (xa 30, aInt E 24 co), (ca, o1 (some pa) (some da) (some sa) C), (pa, aInt E 5 P), (xa 6, o5 (some (xa 20)) (some (xa 21)) (some (xa 22)) (some (xa 23)) U), (xa 20, aInt E 24 co)]) [0, 1, 14, 15, 8, 9, 6, 7, 10, 11, 12, 13, 2, 3] rfl rfl rfl ?_
        exact lpB3 bst w0 (upS (upS (upS (upS (upS (upS (upS (upS (upS (upS (upS (upS Y2 2 y2_229) 3 y3_230) 4 y4_231) 5 y5_232) 6 y6_233) 7 y7_234) 8 y8_235) 9 y9_236) 10 y10_237) 11 y11_238) 12 y12_239) 13 y13_240) kn1_227 pn1_226 q1_228 (q2 + 1) (by omega) ⟨hKB, by omega, by omega⟩ (hw.trans ((beF_s (kB C P D W co 1) (81 * U 2) 9 2 bst w0).trans (by rw [hWv, if_pos (by omega), show (2 : Int) + 1 = 3 by rfl])))
      ·
        refine j_iload G 0 rfl d9_bell_78 ?_
        refine j_istore_n G d9_bell_80 (by decide) rfl ?_
        refine j_aload_n G 4 rfl d9_bell_81 ?_
        refine j_get G 0 9 14 in9 fl9_78 d9_bell_82 rfl rfl (by decide) (v := .ref (xa 14)) rfl rfl ?_
        refine j_VP G (k2_worth (xl Γ) E (xa 14) (xa 32) (upS (upS (upS (upS (upS (upS (upS (upS (upS (upS (upS (upS Y2 2 y2_229) 3 y3_230) 4 y4_231) 5 y5_232) 6 y6_233) 7 y7_234) 8 y8_235) 9 y9_236) 10 y10_237) 11 y11_238) 12 y12_239) 13 y13_240) (xa 12) (xa 13) ) mw2_worth ml9_241 [6] rfl 6 2 rfl rfl rfl ⟨Nat.le_of_ble_eq_true rfl, Nat.le_of_ble_eq_true rfl⟩ rfl (rest := []) rfl (Nat.le_of_ble_eq_true rfl) d9_bell_85 ⟨Nat.le_of_ble_eq_true rfl, Nat.le_of_ble_eq_true rfl⟩ (fun r hr => ?_)
        obtain ⟨_, rfl, rfl⟩ := hr
        refine j_eq (st' := [.int (iZ (100 * y9_236 + y3_230))]) rfl rfl rfl ?_
        refine j_istore_n G d9_bell_88 (by decide) rfl ?_
        refine j_iinc G d9_bell_89 2 rfl (by decide) rfl ?_
        refine j_goto (tgt := 30) G d9_bell_92 (by decide) ?_
        refine j_eq (ls' := [(4, .int (iZ 3)), (3, .int (iZ (100 * y9_236 + y3_230))), (2, .int (iZ 2)), (1, .ref ca), (0, .ref xo)]) rfl rfl rfl ?_
        refine j_perm (ws' := [(xo, xO xa X), (xa 2, aRef E 3 4 ck), (da, aInt E 24 dr), (sa, aInt E 24 sr), (xa 13, o3 (some (xa 12)) (some (xa 31)) (upS (upS Q 1 q1_228) 2 (q2 + 1))), (xa 31, aLng E 39852 kn1_227), (xa 14, o2 (some (xa 12)) (some (xa 13)) (some (xa 32)) (upS (upS (upS (upS (upS (upS (upS (upS (upS (upS (upS (upS Y2 2 y2_229) 3 y3_230) 4 y4_231) 5 y5_232) 6 y6_233) 7 y7_234) 8 y8_235) 9 y9_236) 10 y10_237) 11 y11_238) 12 y12_239) 13 y13_240)), (xa 32, aInt E 12 pn1_226), (xa 12, o7 (some ca) (some (xa 30)) (upS (upS (upS (upS (upS T 1 t1_3) 3 (C 5)) 4 (C 6)) 5 (C 7)) 6 0)), (xa 30, aInt E 24 co), (ca, o1 (some pa) (some da) (some sa) C), (pa, aInt E 5 P), (xa 6, o5 (some (xa 20)) (some (xa 21)) (some (xa 22)) (some (xa 23)) U), (xa 20, aInt E 24 co)]) [0, 1, 14, 15, 8, 9, 6, 7, 10, 11, 12, 13, 2, 3] rfl rfl rfl ?_
        exact lpB3 2 (100 * y9_236 + y3_230) (upS (upS (upS (upS (upS (upS (upS (upS (upS (upS (upS (upS Y2 2 y2_229) 3 y3_230) 4 y4_231) 5 y5_232) 6 y6_233) 7 y7_234) 8 y8_235) 9 y9_236) 10 y10_237) 11 y11_238) 12 y12_239) 13 y13_240) kn1_227 pn1_226 q1_228 (q2 + 1) (by omega) ⟨hKB, by omega, by omega⟩ (hw.trans ((beF_s (kB C P D W co 1) (81 * U 2) 9 2 bst w0).trans (by rw [hWv, if_neg (by omega), show (2 : Int) + 1 = 3 by rfl])))
  have lpB1 : ∀ (bst : Int) (w0 : Int) (Y2 : Nat → Int) (kn2 : Int → Int) (pn2 : Int → Int) (q1 : Int) (q2 : Int), ((0 ≤ bst ∧ bst ≤ 11) ∧ (0 ≤ w0 ∧ w0 ≤ 8000)) → (KnB q2 kn2 ∧ q2 ≤ Q 2 + 1 ∧ Q 2 ≤ q2) → (beF (kB C P D W co 1) (81 * U 2) 12 0 0 (-1) = beF (kB C P D W co 1) (81 * U 2) 11 1 bst w0) →  J E 5 Γ (some A) 2 5 [(xo, xO xa X), (xa 2, aRef E 3 4 ck), (da, aInt E 24 dr), (sa, aInt E 24 sr), (xa 13, o3 (some (xa 12)) (some (xa 31)) (upS (upS Q 1 q1) 2 q2)), (xa 31, aLng E 39852 kn2), (xa 14, o2 (some (xa 12)) (some (xa 13)) (some (xa 32)) Y2), (xa 32, aInt E 12 pn2), (xa 12, o7 (some ca) (some (xa 30)) (upS (upS (upS (upS (upS T 1 t1_3) 3 (C 5)) 4 (C 6)) 5 (C 7)) 6 0)), (xa 30, aInt E 24 co), (ca, o1 (some pa) (some da) (some sa) C), (pa, aInt E 5 P), (xa 6, o5 (some (xa 20)) (some (xa 21)) (some (xa 22)) (some (xa 23)) U), (xa 20, aInt E 24 co)] 30 [(4, .int (iZ 1)), (3, .int (iZ w0)), (2, .int (iZ bst)), (1, .ref ca), (0, .ref xo)] [] := by
    intro bst w0 Y2 kn2 pn2 q1 q2 hw0 hkn2 hw
    refine j_iload G 0 rfl d9_bell_30 ?_
    refine j_bipush G d9_bell_32 rfl ?_
    refine j_icmp_gt (tgt := 95) G d9_bell_34 (by decide) (by decide) (by decide) (fun h245 => absurd h245 (by decide)) (fun h245 => ?_)
    refine j_aload_n G 4 rfl d9_bell_37 ?_
    refine j_get G 0 9 14 in9 fl9_78 d9_bell_38 rfl rfl (by decide) (v := .ref (xa 14)) rfl rfl ?_
    refine j_new G 4 (fs := z4) in4 tyok4 cl9_21 is4 ini4 rfl hz4 ⟨Nat.le_of_ble_eq_true rfl, Nat.le_of_ble_eq_true rfl⟩ d9_bell_41 (fun q246 => ?_)
    refine j_dup G d9_bell_44 rfl ?_
    refine j_iconst G d9_bell_45 ?_
    refine j_iload G 0 rfl d9_bell_46 ?_
    refine j_iconst G d9_bell_48 ?_
    refine j_IM G (rm' := { frames := 1, cells := 1, slots := 0, locals := 12 }) (wc := [(q246, o4 none (fun _ => 0))]) (wr := [(xo, xO xa X), (xa 2, aRef E 3 4 ck), (da, aInt E 24 dr), (sa, aInt E 24 sr), (xa 13, o3 (some (xa 12)) (some (xa 31)) (upS (upS Q 1 q1) 2 q2)), (xa 31, aLng E 39852 kn2), (xa 14, o2 (some (xa 12)) (some (xa 13)) (some (xa 32)) Y2), (xa 32, aInt E 12 pn2), (xa 12, o7 (some ca) (some (xa 30)) (upS (upS (upS (upS (upS T 1 t1_3) 3 (C 5)) 4 (C 6)) 5 (C 7)) 6 0)), (xa 30, aInt E 24 co), (ca, o1 (some pa) (some da) (some sa) C), (pa, aInt E 5 P), (xa 6, o5 (some (xa 20)) (some (xa 21)) (some (xa 22)) (some (xa 23)) U), (xa 20, aInt E 24 co)]) (k4_initb (xl Γ) E q246 2 1 0 (by first | assumption | omega | (simp only [upS, reduceIte, Nat.reduceEqDiff, eq_self, List.length_cons, List.length_nil, List.length_append] <;> omega)) (by first | assumption | omega | (simp only [upS, reduceIte, Nat.reduceEqDiff, eq_self, List.length_cons, List.length_nil, List.length_append] <;> omega))) mw4_init ml9_50 [14] [0, 1, 2, 3, 4, 5, 6, 7, 8, 9, 10, 11, 12, 13] rfl rfl ⟨rfl, rfl⟩ (by decide) ⟨Nat.le_of_ble_eq_true rfl, Nat.le_of_ble_eq_true rfl⟩ rfl (rest := [.ref q246, .ref (xa 14)]) rfl (Nat.le_of_ble_eq_true rfl) d9_bell_49 ⟨Nat.le_of_ble_eq_true rfl, Nat.le_of_ble_eq_true rfl⟩ (fun r w1 hr => ?_)
    obtain ⟨c0_248, rfl, rfl, hq247⟩ := hr
    refine j_eq (ws' := [(xo, xO xa X), (xa 2, aRef E 3 4 ck), (da, aInt E 24 dr), (sa, aInt E 24 sr), (xa 13, o3 (some (xa 12)) (some (xa 31)) (upS (upS Q 1 q1) 2 q2)), (xa 31, aLng E 39852 kn2), (xa 14, o2 (some (xa 12)) (some (xa 13)) (some (xa 32)) Y2), (xa 32, aInt E 12 pn2), (xa 12, o7 (some ca) (some (xa 30)) (upS (upS (upS (upS (upS T 1 t1_3) 3 (C 5)) 4 (C 6)) 5 (C 7)) 6 0)), (xa 30, aInt E 24 co), (ca, o1 (some pa) (some da) (some sa) C), (pa, aInt E 5 P), (xa 6, o5 (some (xa 20)) (some (xa 21)) (some (xa 22)) (some (xa 23)) U), (xa 20, aInt E 24 co), (q246, o4 (some c0_248) (upS (upS (upS (fun _ => 0) 0 2) 1 1) 2 0)), (c0_248, aInt E 0 (fun _ => 0))]) rfl rfl rfl ?_
    refine j_aload_n G 4 rfl d9_bell_52 ?_
    refine j_get G 0 9 6 in9 fl9_30 d9_bell_53 rfl rfl (by decide) (v := .ref (xa 6)) rfl rfl ?_
    refine j_get G 12 5 2 in5 fl9_175 d9_bell_56 rfl rfl (by decide) (v := .int (iZ (U 2))) rfl rfl ?_
    refine j_VM G (rm' := { frames := 28, cells := 0, slots := 0, locals := 779 }) (wc := [(q246, o4 (some c0_248) (upS (upS (upS (fun _ => 0) 0 2) 1 1) 2 0)), (c0_248, aInt E 0 (fun _ => 0)), (xa 14, o2 (some (xa 12)) (some (xa 13)) (some (xa 32)) Y2), (xa 32, aInt E 12 pn2), (xa 13, o3 (some (xa 12)) (some (xa 31)) (upS (upS Q 1 q1) 2 q2)), (xa 31, aLng E 39852 kn2), (xa 12, o7 (some ca) (some (xa 30)) (upS (upS (upS (upS (upS T 1 t1_3) 3 (C 5)) 4 (C 6)) 5 (C 7)) 6 0)), (xa 30, aInt E 24 co), (ca, o1 (some pa) (some da) (some sa) C), (pa, aInt E 5 P), (da, aInt E 24 dr), (sa, aInt E 24 sr)]) (wr := [(xo, xO xa X), (xa 2, aRef E 3 4 ck), (xa 6, o5 (some (xa 20)) (some (xa 21)) (some (xa 22)) (some (xa 23)) U), (xa 20, aInt E 24 co)]) (k2_leadBy (xl Γ) E q246 c0_248 0 (upS (upS (upS (fun _ => 0) 0 2) 1 1) 2 0) (fun _ => 0) (xa 14) (xa 32) Y2 (xa 13) (xa 31) (upS (upS Q 1 q1) 2 q2) (xa 12) (xa 30) (upS (upS (upS (upS (upS T 1 t1_3) 3 (C 5)) 4 (C 6)) 5 (C 7)) 6 0) ca pa da sa C P dr sr co (kB C P D W co 1) kn2 pn2 (U 2) (tm_k (mt := 0) (ms := 0) (msp := 0) (mp := 0) (n := 1) rfl hwf (by omega) (by omega) (by omega) (by omega) (by omega) hco (fun s a b => by have q := hDW s a b; simp only [upS, reduceIte, Nat.reduceEqDiff]; rw [ht1, Int.add_zero]; exact q) (by first | (simp only [upS, reduceIte, Nat.reduceEqDiff]; omega) | simp only [upS, reduceIte, Nat.reduceEqDiff]) (by first | (simp only [upS, reduceIte, Nat.reduceEqDiff]; omega) | simp only [upS, reduceIte, Nat.reduceEqDiff]) (by first | (simp only [upS, reduceIte, Nat.reduceEqDiff]; omega) | simp only [upS, reduceIte, Nat.reduceEqDiff]) (by first | (simp only [upS, reduceIte, Nat.reduceEqDiff]; omega) | simp only [upS, reduceIte, Nat.reduceEqDiff]) (by first | (simp only [upS, reduceIte, Nat.reduceEqDiff]; omega) | simp only [upS, reduceIte, Nat.reduceEqDiff]) (fun s a b => ⟨rfl, by have q := hco (12 + s) (by omega) (by omega); omega⟩)) hkn2.1 (by first | assumption | omega | (simp only [upS, reduceIte, Nat.reduceEqDiff, eq_self, List.length_cons, List.length_nil, List.length_append] <;> omega)) (by first | assumption | omega | (simp only [upS, reduceIte, Nat.reduceEqDiff, eq_self, List.length_cons, List.length_nil, List.length_append] <;> omega)) (fun q => absurd (show (2 : Int) = 6 from q) (by decide)) (fun q => absurd (show (2 : Int) = 6 from q) (by decide)) (by first | assumption | omega | (simp only [upS, reduceIte, Nat.reduceEqDiff, eq_self, List.length_cons, List.length_nil, List.length_append] <;> omega))) mw2_leadBy ml9_201 [14, 15, 6, 7, 4, 5, 8, 9, 10, 11, 2, 3] [0, 1, 12, 13] rfl rfl ⟨rfl, rfl⟩ (by decide) 6 2 rfl rfl rfl ⟨Nat.le_of_ble_eq_true rfl, Nat.le_of_ble_eq_true rfl⟩ rfl (rest := []) rfl (Nat.le_of_ble_eq_true rfl) d9_bell_59 ⟨Nat.le_of_ble_eq_true rfl, Nat.le_of_ble_eq_true rfl⟩ (fun r w1 hr => ?_)
    obtain ⟨pn1_250, kn1_251, q1_252, y2_253, y3_254, y4_255, y5_256, y6_257, y7_258, y8_259, y9_260, y10_261, y11_262, y12_263, y13_264, rfl, rfl, ⟨hq249_0, hq249_1, hq249_2, hq249_3, hq249_4, hq249_5, hq249_6, hq249_7, hq249_8⟩⟩ := hr
    refine j_eq (ws' := [(xo, xO xa X), (xa 2, aRef E 3 4 ck), (xa 6, o5 (some (xa 20)) (some (xa 21)) (some (xa 22)) (some (xa 23)) U), (xa 20, aInt E 24 co), (q246, o4 (some c0_248) (upS (upS (upS (fun _ => 0) 0 2) 1 1) 2 0)), (c0_248, aInt E 0 (fun _ => 0)), (xa 14, o2 (some (xa 12)) (some (xa 13)) (some (xa 32)) (upS (upS (upS (upS (upS (upS (upS (upS (upS (upS (upS (upS Y2 2 y2_253) 3 y3_254) 4 y4_255) 5 y5_256) 6 y6_257) 7 y7_258) 8 y8_259) 9 y9_260) 10 y10_261) 11 y11_262) 12 y12_263) 13 y13_264)), (xa 32, aInt E 12 pn1_250), (xa 13, o3 (some (xa 12)) (some (xa 31)) (upS (upS Q 1 q1_252) 2 (q2 + 1))), (xa 31, aLng E 39852 kn1_251), (xa 12, o7 (some ca) (some (xa 30)) (upS (upS (upS (upS (upS T 1 t1_3) 3 (C 5)) 4 (C 6)) 5 (C 7)) 6 0)), (xa 30, aInt E 24 co), (ca, o1 (some pa) (some da) (some sa) C), (pa, aInt E 5 P), (da, aInt E 24 dr), (sa, aInt E 24 sr)]) rfl rfl rfl ?_
    try simp only [upS, reduceIte, Nat.reduceEqDiff, eq_self] at hq249_0 hq249_1 hq249_2 hq249_3 hq249_4 hq249_5 hq249_6 hq249_7 hq249_8
    have hA := hq249_0
    have hB := hq249_1
    have hC := hq249_2
    have hDd := hq249_3
    have hE := hq249_4
    have hF := hq249_5
    have hG := hq249_6
    have hH := hq249_7
    have hKB := hq249_8
    have hgg : (fun s st => ldI (kB C P D W co 1) 2 1 s st 0 (fun _ => 0)) = (gB (kB C P D W co 1) 2 1) := by funext s st; exact (gB_e (by decide)).symm
    rw [hgg] at hA hF
    have hok : okD (kB C P D W co 1) := okD_k (C := C) (P := P) (D := D) (W := W) (co := co) (mt := 0) (ms := 0) (msp := 0) (mp := 0) (n := 1) hwf (by omega) (by omega) (by omega) (by omega) (by omega) (fun s a b => (hDW s a b).2.2.2) hco
    have hAr := dyA_r (g := (gB (kB C P D W co 1) 2 1)) (f := dUp (kB C P D W co 1)) hok (st0 := 81 * U 2) (by omega) (fun s st h1 h2 => by have := dR hok h1 h2; omega) 12 (Nat.le_refl 12)
    rw [← hA] at hAr
    have hWv : beW (kB C P D W co 1) (81 * U 2) 1 = 100 * y9_260 + y3_254 := by unfold beW; rw [← hA, ← hF]; omega
    refine j_iload_n G 2 rfl d9_bell_62 ?_
    refine j_iconst G d9_bell_63 ?_
    refine j_icmp_eq (tgt := 78) G d9_bell_64 (by decide) (by omega) (by decide) (fun h265 => ?_) (fun h265 => ?_)
    ·
      exact absurd h265 (by omega)
    ·
      refine j_aload_n G 4 rfl d9_bell_67 ?_
      refine j_get G 0 9 14 in9 fl9_78 d9_bell_68 rfl rfl (by decide) (v := .ref (xa 14)) rfl rfl ?_
      refine j_VP G (k2_worth (xl Γ) E (xa 14) (xa 32) (upS (upS (upS (upS (upS (upS (upS (upS (upS (upS (upS (upS Y2 2 y2_253) 3 y3_254) 4 y4_255) 5 y5_256) 6 y6_257) 7 y7_258) 8 y8_259) 9 y9_260) 10 y10_261) 11 y11_262) 12 y12_263) 13 y13_264) (xa 12) (xa 13) ) mw2_worth ml9_241 [6] rfl 6 2 rfl rfl rfl ⟨Nat.le_of_ble_eq_true rfl, Nat.le_of_ble_eq_true rfl⟩ rfl (rest := []) rfl (Nat.le_of_ble_eq_true rfl) d9_bell_71 ⟨Nat.le_of_ble_eq_true rfl, Nat.le_of_ble_eq_true rfl⟩ (fun r hr => ?_)
      obtain ⟨_, rfl, rfl⟩ := hr
      refine j_eq (st' := [.int (iZ (100 * y9_260 + y3_254))]) rfl rfl rfl ?_
      refine j_iload_n G 1 rfl d9_bell_74 ?_
      refine j_icmp_le (tgt := 89) G d9_bell_75 (by decide) (by omega) (by omega) (fun h267 => ?_) (fun h267 => ?_)
      ·
        refine j_iinc G d9_bell_89 0 rfl (by decide) rfl ?_
        refine j_goto (tgt := 30) G d9_bell_92 (by decide) ?_
        refine j_eq (ls' := [(4, .int (iZ 2)), (3, .int (iZ w0)), (2, .int (iZ bst)), (1, .ref ca), (0, .ref xo)]) rfl rfl rfl ?_
        refine j_perm (ws' := [(xo, xO xa X), (xa 2, aRef E 3 4 ck), (da, aInt E 24 dr), (sa, aInt E 24 sr), (xa 13, o3 (some (xa 12)) (some (xa 31)) (upS (upS Q 1 q1_252) 2 (q2 + 1))), (xa 31, aLng E 39852 kn1_251), (xa 14, o2 (some (xa 12)) (some (xa 13)) (some (xa 32)) (upS (upS (upS (upS (upS (upS (upS (upS (upS (upS (upS (upS Y2 2 y2_253) 3 y3_254) 4 y4_255) 5 y5_256) 6 y6_257) 7 y7_258) 8 y8_259) 9 y9_260) 10 y10_261) 11 y11_262) 12 y12_263) 13 y13_264)), (xa 32, aInt E 12 pn1_250), (xa 12, o7 (some ca) (some (xa 30)) (upS (upS (upS (upS (upS T 1 t1_3) 3 (C 5)) 4 (C 6)) 5 (C 7)) 6 0)), (xa 30, aInt E 24 co), (ca, o1 (some pa) (some da) (some sa) C), (pa, aInt E 5 P), (xa 6, o5 (some (xa 20)) (some (xa 21)) (some (xa 22)) (some (xa 23)) U), (xa 20, aInt E 24 co)]) [0, 1, 14, 15, 8, 9, 6, 7, 10, 11, 12, 13, 2, 3] rfl rfl rfl ?_
        exact lpB2 bst w0 (upS (upS (upS (upS (upS (upS (upS (upS (upS (upS (upS (upS Y2 2 y2_253) 3 y3_254) 4 y4_255) 5 y5_256) 6 y6_257) 7 y7_258) 8 y8_259) 9 y9_260) 10 y10_261) 11 y11_262) 12 y12_263) 13 y13_264) kn1_251 pn1_250 q1_252 (q2 + 1) (by omega) ⟨hKB, by omega, by omega⟩ (hw.trans ((beF_s (kB C P D W co 1) (81 * U 2) 10 1 bst w0).trans (by rw [hWv, if_pos (by omega), show (1 : Int) + 1 = 2 by rfl])))
      ·
        refine j_iload G 0 rfl d9_bell_78 ?_
        refine j_istore_n G d9_bell_80 (by decide) rfl ?_
        refine j_aload_n G 4 rfl d9_bell_81 ?_
        refine j_get G 0 9 14 in9 fl9_78 d9_bell_82 rfl rfl (by decide) (v := .ref (xa 14)) rfl rfl ?_
        refine j_VP G (k2_worth (xl Γ) E (xa 14) (xa 32) (upS (upS (upS (upS (upS (upS (upS (upS (upS (upS (upS (upS Y2 2 y2_253) 3 y3_254) 4 y4_255) 5 y5_256) 6 y6_257) 7 y7_258) 8 y8_259) 9 y9_260) 10 y10_261) 11 y11_262) 12 y12_263) 13 y13_264) (xa 12) (xa 13) ) mw2_worth ml9_241 [6] rfl 6 2 rfl rfl rfl ⟨Nat.le_of_ble_eq_true rfl, Nat.le_of_ble_eq_true rfl⟩ rfl (rest := []) rfl (Nat.le_of_ble_eq_true rfl) d9_bell_85 ⟨Nat.le_of_ble_eq_true rfl, Nat.le_of_ble_eq_true rfl⟩ (fun r hr => ?_)
        obtain ⟨_, rfl, rfl⟩ := hr
        refine j_eq (st' := [.int (iZ (100 * y9_260 + y3_254))]) rfl rfl rfl ?_
        refine j_istore_n G d9_bell_88 (by decide) rfl ?_
        refine j_iinc G d9_bell_89 2 rfl (by decide) rfl ?_
        refine j_goto (tgt := 30) G d9_bell_92 (by decide) ?_
        refine j_eq (ls' := [(4, .int (iZ 2)), (3, .int (iZ (100 * y9_260 + y3_254))), (2, .int (iZ 1)), (1, .ref ca), (0, .ref xo)]) rfl rfl rfl ?_
        refine j_perm (ws' := [(xo, xO xa X), (xa 2, aRef E 3 4 ck), (da, aInt E 24 dr), (sa, aInt E 24 sr), (xa 13, o3 (some (xa 12)) (some (xa 31)) (upS (upS Q 1 q1_252) 2 (q2 + 1))), (xa 31, aLng E 39852 kn1_251), (xa 14, o2 (some (xa 12)) (some (xa 13)) (some (xa 32)) (upS (upS (upS (upS (upS (upS (upS (upS (upS (upS (upS (upS Y2 2 y2_253) 3 y3_254) 4 y4_255) 5 y5_256) 6 y6_257) 7 y7_258) 8 y8_259) 9 y9_260) 10 y10_261) 11 y11_262) 12 y12_263) 13 y13_264)), (xa 32, aInt E 12 pn1_250), (xa 12, o7 (some ca) (some (xa 30)) (upS (upS (upS (upS (upS T 1 t1_3) 3 (C 5)) 4 (C 6)) 5 (C 7)) 6 0)), (xa 30, aInt E 24 co), (ca, o1 (some pa) (some da) (some sa) C), (pa, aInt E 5 P), (xa 6, o5 (some (xa 20)) (some (xa 21)) (some (xa 22)) (some (xa 23)) U), (xa 20, aInt E 24 co)]) [0, 1, 14, 15, 8, 9, 6, 7, 10, 11, 12, 13, 2, 3] rfl rfl rfl ?_
        exact lpB2 1 (100 * y9_260 + y3_254) (upS (upS (upS (upS (upS (upS (upS (upS (upS (upS (upS (upS Y2 2 y2_253) 3 y3_254) 4 y4_255) 5 y5_256) 6 y6_257) 7 y7_258) 8 y8_259) 9 y9_260) 10 y10_261) 11 y11_262) 12 y12_263) 13 y13_264) kn1_251 pn1_250 q1_252 (q2 + 1) (by omega) ⟨hKB, by omega, by omega⟩ (hw.trans ((beF_s (kB C P D W co 1) (81 * U 2) 10 1 bst w0).trans (by rw [hWv, if_neg (by omega), show (1 : Int) + 1 = 2 by rfl])))
  refine j_iload G 0 rfl d9_bell_30 ?_
  refine j_bipush G d9_bell_32 rfl ?_
  refine j_icmp_gt (tgt := 95) G d9_bell_34 (by decide) (by decide) (by decide) (fun h269 => absurd h269 (by decide)) (fun h269 => ?_)
  refine j_aload_n G 4 rfl d9_bell_37 ?_
  refine j_get G 0 9 14 in9 fl9_78 d9_bell_38 rfl rfl (by decide) (v := .ref (xa 14)) rfl rfl ?_
  refine j_new G 4 (fs := z4) in4 tyok4 cl9_21 is4 ini4 rfl hz4 ⟨Nat.le_of_ble_eq_true rfl, Nat.le_of_ble_eq_true rfl⟩ d9_bell_41 (fun q270 => ?_)
  refine j_dup G d9_bell_44 rfl ?_
  refine j_iconst G d9_bell_45 ?_
  refine j_iload G 0 rfl d9_bell_46 ?_
  refine j_iconst G d9_bell_48 ?_
  refine j_IM G (rm' := { frames := 1, cells := 1, slots := 0, locals := 12 }) (wc := [(q270, o4 none (fun _ => 0))]) (wr := [(xo, xO xa X), (xa 2, aRef E 3 4 ck), (da, aInt E 24 dr), (sa, aInt E 24 sr), (xa 13, o3 (some (xa 12)) (some (xa 31)) Q), (xa 31, aLng E 39852 kn), (xa 14, o2 (some (xa 12)) (some (xa 13)) (some (xa 32)) Y), (xa 32, aInt E 12 pn), (xa 12, o7 (some ca) (some (xa 30)) (upS (upS (upS (upS (upS T 1 t1_3) 3 (C 5)) 4 (C 6)) 5 (C 7)) 6 0)), (xa 30, aInt E 24 co), (ca, o1 (some pa) (some da) (some sa) C), (pa, aInt E 5 P), (xa 6, o5 (some (xa 20)) (some (xa 21)) (some (xa 22)) (some (xa 23)) U), (xa 20, aInt E 24 co)]) (k4_initb (xl Γ) E q270 2 0 0 (by first | assumption | omega | (simp only [upS, reduceIte, Nat.reduceEqDiff, eq_self, List.length_cons, List.length_nil, List.length_append] <;> omega)) (by first | assumption | omega | (simp only [upS, reduceIte, Nat.reduceEqDiff, eq_self, List.length_cons, List.length_nil, List.length_append] <;> omega))) mw4_init ml9_50 [14] [0, 1, 2, 3, 4, 5, 6, 7, 8, 9, 10, 11, 12, 13] rfl rfl ⟨rfl, rfl⟩ (by decide) ⟨Nat.le_of_ble_eq_true rfl, Nat.le_of_ble_eq_true rfl⟩ rfl (rest := [.ref q270, .ref (xa 14)]) rfl (Nat.le_of_ble_eq_true rfl) d9_bell_49 ⟨Nat.le_of_ble_eq_true rfl, Nat.le_of_ble_eq_true rfl⟩ (fun r w1 hr => ?_)
  obtain ⟨c0_272, rfl, rfl, hq271⟩ := hr
  refine j_eq (ws' := [(xo, xO xa X), (xa 2, aRef E 3 4 ck), (da, aInt E 24 dr), (sa, aInt E 24 sr), (xa 13, o3 (some (xa 12)) (some (xa 31)) Q), (xa 31, aLng E 39852 kn), (xa 14, o2 (some (xa 12)) (some (xa 13)) (some (xa 32)) Y), (xa 32, aInt E 12 pn), (xa 12, o7 (some ca) (some (xa 30)) (upS (upS (upS (upS (upS T 1 t1_3) 3 (C 5)) 4 (C 6)) 5 (C 7)) 6 0)), (xa 30, aInt E 24 co), (ca, o1 (some pa) (some da) (some sa) C), (pa, aInt E 5 P), (xa 6, o5 (some (xa 20)) (some (xa 21)) (some (xa 22)) (some (xa 23)) U), (xa 20, aInt E 24 co), (q270, o4 (some c0_272) (upS (upS (upS (fun _ => 0) 0 2) 1 0) 2 0)), (c0_272, aInt E 0 (fun _ => 0))]) rfl rfl rfl ?_
  refine j_aload_n G 4 rfl d9_bell_52 ?_
  refine j_get G 0 9 6 in9 fl9_30 d9_bell_53 rfl rfl (by decide) (v := .ref (xa 6)) rfl rfl ?_
  refine j_get G 12 5 2 in5 fl9_175 d9_bell_56 rfl rfl (by decide) (v := .int (iZ (U 2))) rfl rfl ?_
  refine j_VM G (rm' := { frames := 28, cells := 0, slots := 0, locals := 779 }) (wc := [(q270, o4 (some c0_272) (upS (upS (upS (fun _ => 0) 0 2) 1 0) 2 0)), (c0_272, aInt E 0 (fun _ => 0)), (xa 14, o2 (some (xa 12)) (some (xa 13)) (some (xa 32)) Y), (xa 32, aInt E 12 pn), (xa 13, o3 (some (xa 12)) (some (xa 31)) Q), (xa 31, aLng E 39852 kn), (xa 12, o7 (some ca) (some (xa 30)) (upS (upS (upS (upS (upS T 1 t1_3) 3 (C 5)) 4 (C 6)) 5 (C 7)) 6 0)), (xa 30, aInt E 24 co), (ca, o1 (some pa) (some da) (some sa) C), (pa, aInt E 5 P), (da, aInt E 24 dr), (sa, aInt E 24 sr)]) (wr := [(xo, xO xa X), (xa 2, aRef E 3 4 ck), (xa 6, o5 (some (xa 20)) (some (xa 21)) (some (xa 22)) (some (xa 23)) U), (xa 20, aInt E 24 co)]) (k2_leadBy (xl Γ) E q270 c0_272 0 (upS (upS (upS (fun _ => 0) 0 2) 1 0) 2 0) (fun _ => 0) (xa 14) (xa 32) Y (xa 13) (xa 31) Q (xa 12) (xa 30) (upS (upS (upS (upS (upS T 1 t1_3) 3 (C 5)) 4 (C 6)) 5 (C 7)) 6 0) ca pa da sa C P dr sr co (kB C P D W co 1) kn pn (U 2) (tm_k (mt := 0) (ms := 0) (msp := 0) (mp := 0) (n := 1) rfl hwf (by omega) (by omega) (by omega) (by omega) (by omega) hco (fun s a b => by have q := hDW s a b; simp only [upS, reduceIte, Nat.reduceEqDiff]; rw [ht1, Int.add_zero]; exact q) (by first | (simp only [upS, reduceIte, Nat.reduceEqDiff]; omega) | simp only [upS, reduceIte, Nat.reduceEqDiff]) (by first | (simp only [upS, reduceIte, Nat.reduceEqDiff]; omega) | simp only [upS, reduceIte, Nat.reduceEqDiff]) (by first | (simp only [upS, reduceIte, Nat.reduceEqDiff]; omega) | simp only [upS, reduceIte, Nat.reduceEqDiff]) (by first | (simp only [upS, reduceIte, Nat.reduceEqDiff]; omega) | simp only [upS, reduceIte, Nat.reduceEqDiff]) (by first | (simp only [upS, reduceIte, Nat.reduceEqDiff]; omega) | simp only [upS, reduceIte, Nat.reduceEqDiff]) (fun s a b => ⟨rfl, by have q := hco (12 + s) (by omega) (by omega); omega⟩)) hkb (by first | assumption | omega | (simp only [upS, reduceIte, Nat.reduceEqDiff, eq_self, List.length_cons, List.length_nil, List.length_append] <;> omega)) (by first | assumption | omega | (simp only [upS, reduceIte, Nat.reduceEqDiff, eq_self, List.length_cons, List.length_nil, List.length_append] <;> omega)) (fun q => absurd (show (2 : Int) = 6 from q) (by decide)) (fun q => absurd (show (2 : Int) = 6 from q) (by decide)) (by first | assumption | omega | (simp only [upS, reduceIte, Nat.reduceEqDiff, eq_self, List.length_cons, List.length_nil, List.length_append] <;> omega))) mw2_leadBy ml9_201 [14, 15, 6, 7, 4, 5, 8, 9, 10, 11, 2, 3] [0, 1, 12, 13] rfl rfl ⟨rfl, rfl⟩ (by decide) 6 2 rfl rfl rfl ⟨Nat.le_of_ble_eq_true rfl, Nat.le_of_ble_eq_true rfl⟩ rfl (rest := []) rfl (Nat.le_of_ble_eq_true rfl) d9_bell_59 ⟨Nat.le_of_ble_eq_true rfl, Nat.le_of_ble_eq_true rfl⟩ (fun r w1 hr => ?_)
  obtain ⟨pn1_274, kn1_275, q1_276, y2_277, y3_278, y4_279, y5_280, y6_281, y7_282, y8_283, y9_284, y10_285, y11_286, y12_287, y13_288, rfl, rfl, ⟨hq273_0, hq273_1, hq273_2, hq273_3, hq273_4, hq273_5, hq273_6, hq273_7, hq273_8⟩⟩ := hr
  refine j_eq (ws' := [(xo, xO xa X), (xa 2, aRef E 3 4 ck), (xa 6, o5 (some (xa 20)) (some (xa 21)) (some (xa 22)) (some (xa 23)) U), (xa 20, aInt E 24 co), (q270, o4 (some c0_272) (upS (upS (upS (fun _ => 0) 0 2) 1 0) 2 0)), (c0_272, aInt E 0 (fun _ => 0)), (xa 14, o2 (some (xa 12)) (some (xa 13)) (some (xa 32)) (upS (upS (upS (upS (upS (upS (upS (upS (upS (upS (upS (upS Y 2 y2_277) 3 y3_278) 4 y4_279) 5 y5_280) 6 y6_281) 7 y7_282) 8 y8_283) 9 y9_284) 10 y10_285) 11 y11_286) 12 y12_287) 13 y13_288)), (xa 32, aInt E 12 pn1_274), (xa 13, o3 (some (xa 12)) (some (xa 31)) (upS (upS Q 1 q1_276) 2 ((Q 2) + 1))), (xa 31, aLng E 39852 kn1_275), (xa 12, o7 (some ca) (some (xa 30)) (upS (upS (upS (upS (upS T 1 t1_3) 3 (C 5)) 4 (C 6)) 5 (C 7)) 6 0)), (xa 30, aInt E 24 co), (ca, o1 (some pa) (some da) (some sa) C), (pa, aInt E 5 P), (da, aInt E 24 dr), (sa, aInt E 24 sr)]) rfl rfl rfl ?_
  try simp only [upS, reduceIte, Nat.reduceEqDiff, eq_self] at hq273_0 hq273_1 hq273_2 hq273_3 hq273_4 hq273_5 hq273_6 hq273_7 hq273_8
  have hA := hq273_0
  have hB := hq273_1
  have hC := hq273_2
  have hDd := hq273_3
  have hE := hq273_4
  have hF := hq273_5
  have hG := hq273_6
  have hH := hq273_7
  have hKB := hq273_8
  have hgg : (fun s st => ldI (kB C P D W co 1) 2 0 s st 0 (fun _ => 0)) = (gB (kB C P D W co 1) 2 0) := by funext s st; exact (gB_e (by decide)).symm
  rw [hgg] at hA hF
  have hok : okD (kB C P D W co 1) := okD_k (C := C) (P := P) (D := D) (W := W) (co := co) (mt := 0) (ms := 0) (msp := 0) (mp := 0) (n := 1) hwf (by omega) (by omega) (by omega) (by omega) (by omega) (fun s a b => (hDW s a b).2.2.2) hco
  have hAr := dyA_r (g := (gB (kB C P D W co 1) 2 0)) (f := dUp (kB C P D W co 1)) hok (st0 := 81 * U 2) (by omega) (fun s st h1 h2 => by have := dR hok h1 h2; omega) 12 (Nat.le_refl 12)
  rw [← hA] at hAr
  have hWv : beW (kB C P D W co 1) (81 * U 2) 0 = 100 * y9_284 + y3_278 := by unfold beW; rw [← hA, ← hF]; omega
  refine j_iload_n G 2 rfl d9_bell_62 ?_
  refine j_iconst G d9_bell_63 ?_
  refine j_icmp_eq (tgt := 78) G d9_bell_64 (by decide) (by decide) (by decide) (fun h289 => ?_) (fun h289 => absurd h289 (by decide))
  refine j_iload G 0 rfl d9_bell_78 ?_
  refine j_istore_n G d9_bell_80 (by decide) rfl ?_
  refine j_aload_n G 4 rfl d9_bell_81 ?_
  refine j_get G 0 9 14 in9 fl9_78 d9_bell_82 rfl rfl (by decide) (v := .ref (xa 14)) rfl rfl ?_
  refine j_VP G (k2_worth (xl Γ) E (xa 14) (xa 32) (upS (upS (upS (upS (upS (upS (upS (upS (upS (upS (upS (upS Y 2 y2_277) 3 y3_278) 4 y4_279) 5 y5_280) 6 y6_281) 7 y7_282) 8 y8_283) 9 y9_284) 10 y10_285) 11 y11_286) 12 y12_287) 13 y13_288) (xa 12) (xa 13) ) mw2_worth ml9_241 [6] rfl 6 2 rfl rfl rfl ⟨Nat.le_of_ble_eq_true rfl, Nat.le_of_ble_eq_true rfl⟩ rfl (rest := []) rfl (Nat.le_of_ble_eq_true rfl) d9_bell_85 ⟨Nat.le_of_ble_eq_true rfl, Nat.le_of_ble_eq_true rfl⟩ (fun r hr => ?_)
  obtain ⟨_, rfl, rfl⟩ := hr
  refine j_eq (st' := [.int (iZ (100 * y9_284 + y3_278))]) rfl rfl rfl ?_
  refine j_istore_n G d9_bell_88 (by decide) rfl ?_
  refine j_iinc G d9_bell_89 2 rfl (by decide) rfl ?_
  refine j_goto (tgt := 30) G d9_bell_92 (by decide) ?_
  refine j_eq (ls' := [(4, .int (iZ 1)), (3, .int (iZ (100 * y9_284 + y3_278))), (2, .int (iZ 0)), (1, .ref ca), (0, .ref xo)]) rfl rfl rfl ?_
  refine j_perm (ws' := [(xo, xO xa X), (xa 2, aRef E 3 4 ck), (da, aInt E 24 dr), (sa, aInt E 24 sr), (xa 13, o3 (some (xa 12)) (some (xa 31)) (upS (upS Q 1 q1_276) 2 ((Q 2) + 1))), (xa 31, aLng E 39852 kn1_275), (xa 14, o2 (some (xa 12)) (some (xa 13)) (some (xa 32)) (upS (upS (upS (upS (upS (upS (upS (upS (upS (upS (upS (upS Y 2 y2_277) 3 y3_278) 4 y4_279) 5 y5_280) 6 y6_281) 7 y7_282) 8 y8_283) 9 y9_284) 10 y10_285) 11 y11_286) 12 y12_287) 13 y13_288)), (xa 32, aInt E 12 pn1_274), (xa 12, o7 (some ca) (some (xa 30)) (upS (upS (upS (upS (upS T 1 t1_3) 3 (C 5)) 4 (C 6)) 5 (C 7)) 6 0)), (xa 30, aInt E 24 co), (ca, o1 (some pa) (some da) (some sa) C), (pa, aInt E 5 P), (xa 6, o5 (some (xa 20)) (some (xa 21)) (some (xa 22)) (some (xa 23)) U), (xa 20, aInt E 24 co)]) [0, 1, 14, 15, 8, 9, 6, 7, 10, 11, 12, 13, 2, 3] rfl rfl rfl ?_
  exact lpB1 0 (100 * y9_284 + y3_278) (upS (upS (upS (upS (upS (upS (upS (upS (upS (upS (upS (upS Y 2 y2_277) 3 y3_278) 4 y4_279) 5 y5_280) 6 y6_281) 7 y7_282) 8 y8_283) 9 y9_284) 10 y10_285) 11 y11_286) 12 y12_287) 13 y13_288) kn1_275 pn1_274 q1_276 ((Q 2) + 1) (by omega) ⟨hKB, by omega, by omega⟩ (((beF_s (kB C P D W co 1) (81 * U 2) 11 0 0 (-1)).trans (by rw [hWv, if_neg (by omega), show (0 : Int) + 1 = 1 by rfl])))
