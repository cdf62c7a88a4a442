theorem bz_z (k : Nat) (hk : k ≤ 31) : bz 0 k = 0 := by
  rw [bz_e (by omega) (by omega), show (k : Int).toNat = k by omega, if_neg]
  show ¬ (0 : BitVec 32).getLsbD k = true
  simp
theorem prF_z {pr : Int → Int} : ∀ m : Nat, m ≤ 31 → prF pr 0 m = 0
  | 0, _ => rfl
  | m + 1, h => by
    show prF pr 0 m + bz 0 m * pr m = 0
    rw [prF_z m (by omega), bz_z m (by omega)]; omega
theorem d9_whit_0 : decode c9_whit 0 = .ok (.aload_n 0, 1) := by decide +kernel
theorem d9_whit_1 : decode c9_whit 1 = .ok (.invokevirtual 107, 3) := by decide +kernel
theorem d9_whit_4 : decode c9_whit 4 = .ok (.astore_n 1, 1) := by decide +kernel
theorem d9_whit_5 : decode c9_whit 5 = .ok (.aload_n 1, 1) := by decide +kernel
theorem d9_whit_6 : decode c9_whit 6 = .ok (.ifnonnull 5, 3) := by decide +kernel
theorem d9_whit_9 : decode c9_whit 9 = .ok (.iconst (-1), 1) := by decide +kernel
theorem d9_whit_10 : decode c9_whit 10 = .ok (.ireturn, 1) := by decide +kernel
theorem mw9_whit : MV y9_whit c9_whit 3 (some .int) 0 := ⟨cd9_whit, ini9, na9_whit, im9_whit, se9_whit⟩
set_option maxHeartbeats 4000000 in
set_option maxRecDepth 100000 in
theorem k9_whitn (l : Launch) (E : En) (xo : Nat) (xa : Nat → Nat) (X : Nat → Int) (U : Nat → Int) (hu3 : U 3 < 0) (hu4 : -100 ≤ U 3) : Cp l E y9_whit c9_whit 3 (some .int) 1 21 [.ref xo] [(xo, xO xa X), (xa 6, o5 (some (xa 20)) (some (xa 21)) (some (xa 22)) (some (xa 23)) U)] (fun r => ∃ (v : Int), r = some (.int (iZ v)) ∧ (v = -1)) := by
  refine Cp.of (by decide +kernel) (Nat.le_of_ble_eq_true rfl) (fun Γ hl hargs G F => ?_)
  subst hl
  refine j_aload_n G 0 rfl d9_whit_0 ?_
  refine j_VP G (k9_theCliffn (xl Γ) E xo xa X U (by first | assumption | omega | (simp only [upS, reduceIte, Nat.reduceEqDiff, eq_self, List.length_cons, List.length_nil, List.length_append] <;> omega)) (by first | assumption | omega | (simp only [upS, reduceIte, Nat.reduceEqDiff, eq_self, List.length_cons, List.length_nil, List.length_append] <;> omega))) mw9_theCliff ml9_107 [0, 1] rfl 0 9 rfl rfl rfl ⟨Nat.le_of_ble_eq_true rfl, Nat.le_of_ble_eq_true rfl⟩ rfl (rest := []) rfl (Nat.le_of_ble_eq_true rfl) d9_whit_1 ⟨Nat.le_of_ble_eq_true rfl, Nat.le_of_ble_eq_true rfl⟩ (fun r hr => ?_)
  obtain ⟨rfl, hq1⟩ := hr
  refine j_astore_nN G d9_whit_4 (by decide) rfl ?_
  refine j_aload_nN G 0 rfl d9_whit_5 ?_
  refine j_ifnonnullN G d9_whit_6 ?_
  refine j_iconst G d9_whit_9 ?_
  exact j_iret G F d9_whit_10 ⟨(-1), rfl, (by first | rfl | omega)⟩
theorem d9_whit_11 : decode c9_whit 11 = .ok (.iconst 1, 1) := by decide +kernel
theorem d9_whit_12 : decode c9_whit 12 = .ok (.istore_n 2, 1) := by decide +kernel
theorem d9_whit_13 : decode c9_whit 13 = .ok (.iload_n 2, 1) := by decide +kernel
theorem d9_whit_14 : decode c9_whit 14 = .ok (.bipush 6, 2) := by decide +kernel
theorem d9_whit_16 : decode c9_whit 16 = .ok (.if_icmp .gt 59, 3) := by decide +kernel
theorem d9_whit_19 : decode c9_whit 19 = .ok (.aload_n 0, 1) := by decide +kernel
theorem d9_whit_20 : decode c9_whit 20 = .ok (.getfield 60, 3) := by decide +kernel
theorem d9_whit_23 : decode c9_whit 23 = .ok (.aload_n 1, 1) := by decide +kernel
theorem d9_whit_24 : decode c9_whit 24 = .ok (.aload_n 0, 1) := by decide +kernel
theorem d9_whit_25 : decode c9_whit 25 = .ok (.getfield 30, 3) := by decide +kernel
theorem d9_whit_28 : decode c9_whit 28 = .ok (.invokevirtual 197, 3) := by decide +kernel
theorem d9_whit_31 : decode c9_whit 31 = .ok (.aload_n 0, 1) := by decide +kernel
theorem d9_whit_32 : decode c9_whit 32 = .ok (.getfield 60, 3) := by decide +kernel
theorem d9_whit_35 : decode c9_whit 35 = .ok (.iload_n 2, 1) := by decide +kernel
theorem d9_whit_36 : decode c9_whit 36 = .ok (.invokevirtual 245, 3) := by decide +kernel
theorem d9_whit_39 : decode c9_whit 39 = .ok (.aload_n 0, 1) := by decide +kernel
theorem d9_whit_40 : decode c9_whit 40 = .ok (.getfield 78, 3) := by decide +kernel
theorem d9_whit_43 : decode c9_whit 43 = .ok (.aload_n 0, 1) := by decide +kernel
theorem d9_whit_44 : decode c9_whit 44 = .ok (.getfield 53, 3) := by decide +kernel
theorem d9_whit_47 : decode c9_whit 47 = .ok (.aload_n 0, 1) := by decide +kernel
theorem d9_whit_48 : decode c9_whit 48 = .ok (.getfield 30, 3) := by decide +kernel
theorem d9_whit_51 : decode c9_whit 51 = .ok (.getfield 175, 3) := by decide +kernel
theorem d9_whit_54 : decode c9_whit 54 = .ok (.invokevirtual 201, 3) := by decide +kernel
theorem d9_whit_57 : decode c9_whit 57 = .ok (.aload_n 0, 1) := by decide +kernel
theorem d9_whit_58 : decode c9_whit 58 = .ok (.getfield 78, 3) := by decide +kernel
theorem d9_whit_61 : decode c9_whit 61 = .ok (.getfield 248, 3) := by decide +kernel
theorem d9_whit_64 : decode c9_whit 64 = .ok (.ifCond .le 5, 3) := by decide +kernel
theorem d9_whit_67 : decode c9_whit 67 = .ok (.iload_n 2, 1) := by decide +kernel
theorem d9_whit_68 : decode c9_whit 68 = .ok (.ireturn, 1) := by decide +kernel
theorem d9_whit_69 : decode c9_whit 69 = .ok (.iinc 2 1, 3) := by decide +kernel
theorem d9_whit_72 : decode c9_whit 72 = .ok (.goto (-59), 3) := by decide +kernel
theorem d9_whit_75 : decode c9_whit 75 = .ok (.bipush (-5), 2) := by decide +kernel
theorem d9_whit_77 : decode c9_whit 77 = .ok (.ireturn, 1) := by decide +kernel
set_option maxHeartbeats 4000000 in
set_option maxRecDepth 100000 in
theorem k9_whitc (l : Launch) (E : En) (xo : Nat) (xa : Nat → Nat) (X : Nat → Int) (U : Nat → Int) (ck : Nat → Option Nat) (ca : Nat) (pa : Nat) (da : Nat) (sa : Nat) (C : Nat → Int) (P : Int → Int) (dr : Int → Int) (sr : Int → Int) (r0 : Option Nat) (T : Nat → Int) (Q : Nat → Int) (Y : Nat → Int) (cx : Int → Int) (kn : Int → Int) (pn : Int → Int) (co : Int → Int) (D : Int → Int) (W : Int → Int) (B : Nat → Int) (bw : Int → Int) (hu3 : 0 ≤ U 3 ∧ U 3 < X 3 ∧ X 3 ≤ 4) (hck : ck (U 3).toNat = some ca) (hwf : wfC C P) (hU1 : U 1 = 0 ∨ U 1 = 1) (hdr : ∀ j, 0 ≤ j → j < 24 → (0 ≤ dr j ∧ dr j ≤ 11988)) (hco : ∀ j, 0 ≤ j → j < 24 → 0 ≤ co j ∧ co j ≤ 6) (hDW : ∀ s, 0 ≤ s → s ≤ 11 → dr (12 * U 1 + s) = D s ∧ sr (12 * U 1 + s) = W s ∧ (0 ≤ D s ∧ D s ≤ 11988) ∧ (0 ≤ W s ∧ W s ≤ 11988)) (hkb : KnB (Q 2) kn) (hed : Q 2 < 90000000) (hu2 : 0 ≤ U 2 ∧ U 2 ≤ 40) (hBs : B 0 = 4 ∧ B 1 = 0 ∧ B 4 = 0) : Cm l E y9_whit c9_whit 3 (some .int) { frames := 29, cells := 0, slots := 0, locals := 802 } [.ref xo] [(xo, xO xa X), (xa 6, o5 (some (xa 20)) (some (xa 21)) (some (xa 22)) (some (xa 23)) U), (xa 2, aRef E 3 4 ck), (ca, o1 (some pa) (some da) (some sa) C), (pa, aInt E 5 P), (da, aInt E 24 dr), (sa, aInt E 24 sr), (xa 20, aInt E 24 co), (xa 12, o7 r0 (some (xa 30)) T), (xa 30, aInt E 24 cx), (xa 13, o3 (some (xa 12)) (some (xa 31)) Q), (xa 31, aLng E 39852 kn), (xa 14, o2 (some (xa 12)) (some (xa 13)) (some (xa 32)) Y), (xa 32, aInt E 12 pn), (xa 11, o4 (some (xa 29)) B), (xa 29, aInt E 0 bw)] (fun r ws => ∃ (v : Int), ∃ (T1 : Nat → Int), ∃ (r1 : Option Nat), ∃ (Y1 : Nat → Int), ∃ (cx1 : Int → Int), ∃ (kn1 : Int → Int), ∃ (pn1 : Int → Int), ∃ (q1 : Int), ∃ (q2 : Int), r = some (.int (iZ v)) ∧ ws = [(xo, xO xa X), (xa 6, o5 (some (xa 20)) (some (xa 21)) (some (xa 22)) (some (xa 23)) U), (xa 2, aRef E 3 4 ck), (ca, o1 (some pa) (some da) (some sa) C), (pa, aInt E 5 P), (da, aInt E 24 dr), (sa, aInt E 24 sr), (xa 20, aInt E 24 co), (xa 12, o7 r1 (some (xa 30)) T1), (xa 30, aInt E 24 cx1), (xa 13, o3 (some (xa 12)) (some (xa 31)) (upS (upS Q 1 q1) 2 q2)), (xa 31, aLng E 39852 kn1), (xa 14, o2 (some (xa 12)) (some (xa 13)) (some (xa 32)) Y1), (xa 32, aInt E 12 pn1), (xa 11, o4 (some (xa 29)) B), (xa 29, aInt E 0 bw)] ∧ (v = whF C P D W co (81 * U 2) 6 1 ∧ (KnB q2 kn1 ∧ q2 ≤ Q 2 + 20))) := by
  refine Cm.of (by decide +kernel) (Nat.le_of_ble_eq_true rfl) (fun Γ A hl hargs hin G F => ?_)
  subst hl
  have hw5 := hwf.2.2.2.2.2.1
  have hw6 := hwf.2.2.2.2.2.2.1
  have hw7 := hwf.2.2.2.2.2.2.2
  refine j_aload_n G 0 rfl d9_whit_0 ?_
  refine j_VP G (k9_theCliffc (xl Γ) E xo xa X U ck ca (by first | assumption | omega | (simp only [upS, reduceIte, Nat.reduceEqDiff, eq_self, List.length_cons, List.length_nil, List.length_append] <;> omega)) (by first | assumption | omega | (simp only [upS, reduceIte, Nat.reduceEqDiff, eq_self, List.length_cons, List.length_nil, List.length_append] <;> omega))) mw9_theCliff ml9_107 [0, 1, 2] rfl 0 9 rfl rfl rfl ⟨Nat.le_of_ble_eq_true rfl, Nat.le_of_ble_eq_true rfl⟩ rfl (rest := []) rfl (Nat.le_of_ble_eq_true rfl) d9_whit_1 ⟨Nat.le_of_ble_eq_true rfl, Nat.le_of_ble_eq_true rfl⟩ (fun r hr => ?_)
  obtain ⟨rfl, hq1⟩ := hr
  refine j_astore_n G d9_whit_4 (by decide) rfl ?_
  refine j_aload_n G 0 rfl d9_whit_5 ?_
  refine j_ifnonnull (tgt := 11) G d9_whit_6 (by decide) ?_
  refine j_iconst G d9_whit_11 ?_
  refine j_istore_n G d9_whit_12 (by decide) rfl ?_
  refine j_eq (ws' := [(xo, xO xa X), (xa 6, o5 (some (xa 20)) (some (xa 21)) (some (xa 22)) (some (xa 23)) U), (xa 2, aRef E 3 4 ck), (ca, o1 (some pa) (some da) (some sa) C), (pa, aInt E 5 P), (da, aInt E 24 dr), (sa, aInt E 24 sr), (xa 20, aInt E 24 co), (xa 12, o7 r0 (some (xa 30)) T), (xa 30, aInt E 24 cx), (xa 13, o3 (some (xa 12)) (some (xa 31)) (upS (upS Q 1 (Q 1)) 2 (Q 2))), (xa 31, aLng E 39852 kn), (xa 14, o2 (some (xa 12)) (some (xa 13)) (some (xa 32)) Y), (xa 32, aInt E 12 pn), (xa 11, o4 (some (xa 29)) B), (xa 29, aInt E 0 bw)]) rfl rfl rfl ?_
  have lp13 : ∀ (fu : Nat) (t : Int) (r2 : Option Nat) (T2 : Nat → Int) (Y2 : Nat → Int) (cx2 : Int → Int) (kn2 : Int → Int) (pn2 : Int → Int) (q1 : Int) (q2 : Int), (7 - t).toNat < fu → (1 ≤ t ∧ t ≤ 7) → (KnB q2 kn2 ∧ q2 ≤ Q 2 + t - 1 ∧ Q 2 ≤ q2) → (whF C P D W co (81 * U 2) 6 1 = whF C P D W co (81 * U 2) (7 - t).toNat t) →  J E 3 Γ (some A) 0 0 [(xo, xO xa X), (xa 6, o5 (some (xa 20)) (some (xa 21)) (some (xa 22)) (some (xa 23)) U), (xa 2, aRef E 3 4 ck), (ca, o1 (some pa) (some da) (some sa) C), (pa, aInt E 5 P), (da, aInt E 24 dr), (sa, aInt E 24 sr), (xa 20, aInt E 24 co), (xa 12, o7 r2 (some (xa 30)) T2), (xa 30, aInt E 24 cx2), (xa 13, o3 (some (xa 12)) (some (xa 31)) (upS (upS Q 1 q1) 2 q2)), (xa 31, aLng E 39852 kn2), (xa 14, o2 (some (xa 12)) (some (xa 13)) (some (xa 32)) Y2), (xa 32, aInt E 12 pn2), (xa 11, o4 (some (xa 29)) B), (xa 29, aInt E 0 bw)] 13 [(2, .int (iZ t)), (1, .ref ca), (0, .ref xo)] [] := by
    intro fu
    induction fu with
    | zero =>
      intro t r2 T2 Y2 cx2 kn2 pn2 q1 q2 hm
      exact absurd hm (Nat.not_lt_zero _)
    | succ fu ih13 =>
      intro t r2 T2 Y2 cx2 kn2 pn2 q1 q2 hm ht hkn2 hw
      refine j_iload_n G 0 rfl d9_whit_13 ?_
      refine j_bipush G d9_whit_14 rfl ?_
      refine j_icmp_gt (tgt := 75) G d9_whit_16 (by decide) (by omega) (by decide) (fun h2 => ?_) (fun h2 => ?_)
      ·
        refine j_bipush G d9_whit_75 rfl ?_
        exact j_iret G F d9_whit_77 ⟨(-5), T2, r2, Y2, cx2, kn2, pn2, q1, q2, rfl, rfl, (by first | (refine ⟨?_, hKB, by omega⟩; rw [hw, show (7 - t).toNat = (7 - (t + 1)).toNat + 1 by omega, whF_s, if_pos (by omega)]; done) | (refine ⟨?_, hkn2.1, by omega⟩; rw [hw, show (7 - t).toNat = 0 by omega]; rfl))⟩
      ·
        refine j_aload_n G 2 rfl d9_whit_19 ?_
        refine j_get G 0 9 12 in9 fl9_60 d9_whit_20 rfl rfl (by decide) (v := .ref (xa 12)) rfl rfl ?_
        refine j_aload_n G 1 rfl d9_whit_23 ?_
        refine j_aload_n G 2 rfl d9_whit_24 ?_
        refine j_get G 0 9 6 in9 fl9_30 d9_whit_25 rfl rfl (by decide) (v := .ref (xa 6)) rfl rfl ?_
        refine j_VM G (rm' := { frames := 1, cells := 0, slots := 0, locals := 60 }) (wc := [(xa 12, o7 r2 (some (xa 30)) T2), (xa 30, aInt E 24 cx2), (ca, o1 (some pa) (some da) (some sa) C), (pa, aInt E 5 P), (xa 6, o5 (some (xa 20)) (some (xa 21)) (some (xa 22)) (some (xa 23)) U), (xa 20, aInt E 24 co)]) (wr := [(xo, xO xa X), (xa 2, aRef E 3 4 ck), (da, aInt E 24 dr), (sa, aInt E 24 sr), (xa 13, o3 (some (xa 12)) (some (xa 31)) (upS (upS Q 1 q1) 2 q2)), (xa 31, aLng E 39852 kn2), (xa 14, o2 (some (xa 12)) (some (xa 13)) (some (xa 32)) Y2), (xa 32, aInt E 12 pn2), (xa 11, o4 (some (xa 29)) B), (xa 29, aInt E 0 bw)]) (k7_setTo (xl Γ) E (xa 12) (xa 30) r2 T2 ca pa da sa C P (xa 6) (xa 20) (xa 21) (xa 22) (xa 23) U co cx2 (by first | assumption | omega | (simp only [upS, reduceIte, Nat.reduceEqDiff, eq_self, List.length_cons, List.length_nil, List.length_append] <;> omega))) mw7_setTo ml9_197 [8, 9, 3, 4, 1, 7] [0, 2, 5, 6, 10, 11, 12, 13, 14, 15] rfl rfl ⟨rfl, rfl⟩ (by decide) 8 7 rfl rfl rfl ⟨Nat.le_of_ble_eq_true rfl, Nat.le_of_ble_eq_true rfl⟩ rfl (rest := []) rfl (Nat.le_of_ble_eq_true rfl) d9_whit_28 ⟨Nat.le_of_ble_eq_true rfl, Nat.le_of_ble_eq_true rfl⟩ (fun r w1 hr => ?_)
        obtain ⟨t1_4, rfl, rfl, hq3⟩ := hr
        refine j_eq (ws' := [(xo, xO xa X), (xa 2, aRef E 3 4 ck), (da, aInt E 24 dr), (sa, aInt E 24 sr), (xa 13, o3 (some (xa 12)) (some (xa 31)) (upS (upS Q 1 q1) 2 q2)), (xa 31, aLng E 39852 kn2), (xa 14, o2 (some (xa 12)) (some (xa 13)) (some (xa 32)) Y2), (xa 32, aInt E 12 pn2), (xa 11, o4 (some (xa 29)) B), (xa 29, aInt E 0 bw), (xa 12, o7 (some ca) (some (xa 30)) (upS (upS (upS (upS (upS T2 1 t1_4) 3 (C 5)) 4 (C 6)) 5 (C 7)) 6 0)), (xa 30, aInt E 24 co), (ca, o1 (some pa) (some da) (some sa) C), (pa, aInt E 5 P), (xa 6, o5 (some (xa 20)) (some (xa 21)) (some (xa 22)) (some (xa 23)) U), (xa 20, aInt E 24 co)]) rfl rfl rfl ?_
        have ht1 := hq3
        refine j_aload_n G 2 rfl d9_whit_31 ?_
        refine j_get G 0 9 12 in9 fl9_60 d9_whit_32 rfl rfl (by decide) (v := .ref (xa 12)) rfl rfl ?_
        refine j_iload_n G 0 rfl d9_whit_35 ?_
        refine j_VM G (rm' := { frames := 1, cells := 0, slots := 0, locals := 15 }) (wc := [(xa 12, o7 (some ca) (some (xa 30)) (upS (upS (upS (upS (upS T2 1 t1_4) 3 (C 5)) 4 (C 6)) 5 (C 7)) 6 0)), (xa 30, aInt E 24 co)]) (wr := [(xo, xO xa X), (xa 2, aRef E 3 4 ck), (da, aInt E 24 dr), (sa, aInt E 24 sr), (xa 13, o3 (some (xa 12)) (some (xa 31)) (upS (upS Q 1 q1) 2 q2)), (xa 31, aLng E 39852 kn2), (xa 14, o2 (some (xa 12)) (some (xa 13)) (some (xa 32)) Y2), (xa 32, aInt E 12 pn2), (xa 11, o4 (some (xa 29)) B), (xa 29, aInt E 0 bw), (ca, o1 (some pa) (some da) (some sa) C), (pa, aInt E 5 P), (xa 6, o5 (some (xa 20)) (some (xa 21)) (some (xa 22)) (some (xa 23)) U), (xa 20, aInt E 24 co)]) (k7_crowdBelow (xl Γ) E (xa 12) (xa 30) (upS (upS (upS (upS (upS T2 1 t1_4) 3 (C 5)) 4 (C 6)) 5 (C 7)) 6 0) ca co t (by first | assumption | omega | (simp only [upS, reduceIte, Nat.reduceEqDiff, eq_self, List.length_cons, List.length_nil, List.length_append] <;> omega)) (by first | assumption | omega | (simp only [upS, reduceIte, Nat.reduceEqDiff, eq_self, List.length_cons, List.length_nil, List.length_append] <;> omega))) mw7_crowdBelow ml9_245 [10, 11] [0, 1, 2, 3, 4, 5, 6, 7, 8, 9, 12, 13, 14, 15] rfl rfl ⟨rfl, rfl⟩ (by decide) 10 7 rfl rfl rfl ⟨Nat.le_of_ble_eq_true rfl, Nat.le_of_ble_eq_true rfl⟩ rfl (rest := []) rfl (Nat.le_of_ble_eq_true rfl) d9_whit_36 ⟨Nat.le_of_ble_eq_true rfl, Nat.le_of_ble_eq_true rfl⟩ (fun r w1 hr => ?_)
        obtain ⟨co1_6, rfl, rfl, hq5⟩ := hr
        refine j_eq (ws' := [(xo, xO xa X), (xa 2, aRef E 3 4 ck), (da, aInt E 24 dr), (sa, aInt E 24 sr), (xa 13, o3 (some (xa 12)) (some (xa 31)) (upS (upS Q 1 q1) 2 q2)), (xa 31, aLng E 39852 kn2), (xa 14, o2 (some (xa 12)) (some (xa 13)) (some (xa 32)) Y2), (xa 32, aInt E 12 pn2), (xa 11, o4 (some (xa 29)) B), (xa 29, aInt E 0 bw), (ca, o1 (some pa) (some da) (some sa) C), (pa, aInt E 5 P), (xa 6, o5 (some (xa 20)) (some (xa 21)) (some (xa 22)) (some (xa 23)) U), (xa 20, aInt E 24 co), (xa 12, o7 (some ca) (some (xa 30)) (upS (upS (upS (upS (upS T2 1 t1_4) 3 (C 5)) 4 (C 6)) 5 (C 7)) 6 0)), (xa 30, aInt E 24 co1_6)]) rfl rfl rfl ?_
        try simp only [upS, reduceIte, Nat.reduceEqDiff, eq_self] at hq5
        have hcw := hq5
        refine j_aload_n G 2 rfl d9_whit_39 ?_
        refine j_get G 0 9 14 in9 fl9_78 d9_whit_40 rfl rfl (by decide) (v := .ref (xa 14)) rfl rfl ?_
        refine j_aload_n G 2 rfl d9_whit_43 ?_
        refine j_get G 0 9 11 in9 fl9_53 d9_whit_44 rfl rfl (by decide) (v := .ref (xa 11)) rfl rfl ?_
        refine j_aload_n G 2 rfl d9_whit_47 ?_
        refine j_get G 0 9 6 in9 fl9_30 d9_whit_48 rfl rfl (by decide) (v := .ref (xa 6)) rfl rfl ?_
        refine j_get G 12 5 2 in5 fl9_175 d9_whit_51 rfl rfl (by decide) (v := .int (iZ (U 2))) rfl rfl ?_
        refine j_VM G (rm' := { frames := 28, cells := 0, slots := 0, locals := 779 }) (wc := [(xa 11, o4 (some (xa 29)) B), (xa 29, aInt E 0 bw), (xa 14, o2 (some (xa 12)) (some (xa 13)) (some (xa 32)) Y2), (xa 32, aInt E 12 pn2), (xa 13, o3 (some (xa 12)) (some (xa 31)) (upS (upS Q 1 q1) 2 q2)), (xa 31, aLng E 39852 kn2), (xa 12, o7 (some ca) (some (xa 30)) (upS (upS (upS (upS (upS T2 1 t1_4) 3 (C 5)) 4 (C 6)) 5 (C 7)) 6 0)), (xa 30, aInt E 24 co1_6), (ca, o1 (some pa) (some da) (some sa) C), (pa, aInt E 5 P), (da, aInt E 24 dr), (sa, aInt E 24 sr)]) (wr := [(xo, xO xa X), (xa 2, aRef E 3 4 ck), (xa 6, o5 (some (xa 20)) (some (xa 21)) (some (xa 22)) (some (xa 23)) U), (xa 20, aInt E 24 co)]) (k2_leadBy (xl Γ) E (xa 11) (xa 29) 0 B bw (xa 14) (xa 32) Y2 (xa 13) (xa 31) (upS (upS Q 1 q1) 2 q2) (xa 12) (xa 30) (upS (upS (upS (upS (upS T2 1 t1_4) 3 (C 5)) 4 (C 6)) 5 (C 7)) 6 0) ca pa da sa C P dr sr co1_6 (kB C P D W co t) kn2 pn2 (U 2) (tm_k (mt := 0) (ms := 0) (msp := 0) (mp := 0) (n := t) rfl hwf (by omega) (by omega) (by omega) (by omega) (by omega) hco (fun s a b => by have q := hDW s a b; simp only [upS, reduceIte, Nat.reduceEqDiff]; rw [ht1, Int.add_zero]; exact q) (by first | (simp only [upS, reduceIte, Nat.reduceEqDiff]; omega) | simp only [upS, reduceIte, Nat.reduceEqDiff]) (by first | (simp only [upS, reduceIte, Nat.reduceEqDiff]; omega) | simp only [upS, reduceIte, Nat.reduceEqDiff]) (by first | (simp only [upS, reduceIte, Nat.reduceEqDiff]; omega) | simp only [upS, reduceIte, Nat.reduceEqDiff]) (by first | (simp only [upS, reduceIte, Nat.reduceEqDiff]; omega) | simp only [upS, reduceIte, Nat.reduceEqDiff]) (by first | (simp only [upS, reduceIte, Nat.reduceEqDiff]; omega) | simp only [upS, reduceIte, Nat.reduceEqDiff]) (fun s a b => by have e1 := hcw s (by omega) (by omega); have e2 := hcw (12 + s) (by omega) (by omega); rw [if_neg (by omega)] at e1; rw [if_pos (by omega)] at e2; exact ⟨e1, by rw [e2]; omega⟩)) hkn2.1 (by first | assumption | omega | (simp only [upS, reduceIte, Nat.reduceEqDiff, eq_self, List.length_cons, List.length_nil, List.length_append] <;> omega)) (by first | assumption | omega | (simp only [upS, reduceIte, Nat.reduceEqDiff, eq_self, List.length_cons, List.length_nil, List.length_append] <;> omega)) (fun q => by omega) (fun q => by omega) (by first | assumption | omega | (simp only [upS, reduceIte, Nat.reduceEqDiff, eq_self, List.length_cons, List.length_nil, List.length_append] <;> omega))) mw2_leadBy ml9_201 [8, 9, 6, 7, 4, 5, 14, 15, 10, 11, 2, 3] [0, 1, 12, 13] rfl rfl ⟨rfl, rfl⟩ (by decide) 6 2 rfl rfl rfl ⟨Nat.le_of_ble_eq_true rfl, Nat.le_of_ble_eq_true rfl⟩ rfl (rest := []) rfl (Nat.le_of_ble_eq_true rfl) d9_whit_54 ⟨Nat.le_of_ble_eq_true rfl, Nat.le_of_ble_eq_true rfl⟩ (fun r w1 hr => ?_)
        obtain ⟨pn1_8, kn1_9, q1_10, y2_11, y3_12, y4_13, y5_14, y6_15, y7_16, y8_17, y9_18, y10_19, y11_20, y12_21, y13_22, rfl, rfl, ⟨hq7_0, hq7_1, hq7_2, hq7_3, hq7_4, hq7_5, hq7_6, hq7_7, hq7_8⟩⟩ := hr
        refine j_eq (ws' := [(xo, xO xa X), (xa 2, aRef E 3 4 ck), (xa 6, o5 (some (xa 20)) (some (xa 21)) (some (xa 22)) (some (xa 23)) U), (xa 20, aInt E 24 co), (xa 11, o4 (some (xa 29)) B), (xa 29, aInt E 0 bw), (xa 14, o2 (some (xa 12)) (some (xa 13)) (some (xa 32)) (upS (upS (upS (upS (upS (upS (upS (upS (upS (upS (upS (upS Y2 2 y2_11) 3 y3_12) 4 y4_13) 5 y5_14) 6 y6_15) 7 y7_16) 8 y8_17) 9 y9_18) 10 y10_19) 11 y11_20) 12 y12_21) 13 y13_22)), (xa 32, aInt E 12 pn1_8), (xa 13, o3 (some (xa 12)) (some (xa 31)) (upS (upS Q 1 q1_10) 2 (q2 + 1))), (xa 31, aLng E 39852 kn1_9), (xa 12, o7 (some ca) (some (xa 30)) (upS (upS (upS (upS (upS T2 1 t1_4) 3 (C 5)) 4 (C 6)) 5 (C 7)) 6 0)), (xa 30, aInt E 24 co1_6), (ca, o1 (some pa) (some da) (some sa) C), (pa, aInt E 5 P), (da, aInt E 24 dr), (sa, aInt E 24 sr)]) rfl rfl rfl ?_
        try simp only [upS, reduceIte, Nat.reduceEqDiff, eq_self] at hq7_0 hq7_1 hq7_2 hq7_3 hq7_4 hq7_5 hq7_6 hq7_7 hq7_8
        have hA := hq7_0
        have hB := hq7_1
        have hC := hq7_2
        have hDd := hq7_3
        have hE := hq7_4
        have hF := hq7_5
        have hG := hq7_6
        have hH := hq7_7
        have hKB := hq7_8
        have hgg : (fun s st => ldI (kB C P D W co t) (B 0) (B 1) s st (B 4) bw) = gB (kB C P D W co t) 4 0 := by funext s st; rw [hBs.1, hBs.2.1]; exact (gB_e (by decide)).symm
        rw [hgg] at hF
        have hTr := dyT_r (K := (kB C P D W co t)) (g := gB (kB C P D W co t) 4 0) (okD_k (C := C) (P := P) (D := D) (W := W) (co := co) (mt := 0) (ms := 0) (msp := 0) (mp := 0) (n := t) hwf (by omega) (by omega) (by omega) (by omega) (by omega) (fun s a b => (hDW s a b).2.2.2) hco) (st0 := 81 * U 2) (by omega) 12 (Nat.le_refl 12)
        refine j_aload_n G 2 rfl d9_whit_57 ?_
        refine j_get G 0 9 14 in9 fl9_78 d9_whit_58 rfl rfl (by decide) (v := .ref (xa 14)) rfl rfl ?_
        refine j_getN G 6 2 5 in2 fn9_248 d9_whit_61 rfl rfl (by decide) (v := .int (iZ y5_14)) rfl rfl ?_
        refine j_if_le (tgt := 69) G d9_whit_64 (by decide) (by omega) (fun h23 => ?_) (fun h23 => ?_)
        ·
          refine j_iinc G d9_whit_69 0 rfl (by decide) rfl ?_
          refine j_goto (tgt := 13) G d9_whit_72 (by decide) ?_
          refine j_perm (ws' := [(xo, xO xa X), (xa 6, o5 (some (xa 20)) (some (xa 21)) (some (xa 22)) (some (xa 23)) U), (xa 2, aRef E 3 4 ck), (ca, o1 (some pa) (some da) (some sa) C), (pa, aInt E 5 P), (da, aInt E 24 dr), (sa, aInt E 24 sr), (xa 20, aInt E 24 co), (xa 12, o7 (some ca) (some (xa 30)) (upS (upS (upS (upS (upS T2 1 t1_4) 3 (C 5)) 4 (C 6)) 5 (C 7)) 6 0)), (xa 30, aInt E 24 co1_6), (xa 13, o3 (some (xa 12)) (some (xa 31)) (upS (upS Q 1 q1_10) 2 (q2 + 1))), (xa 31, aLng E 39852 kn1_9), (xa 14, o2 (some (xa 12)) (some (xa 13)) (some (xa 32)) (upS (upS (upS (upS (upS (upS (upS (upS (upS (upS (upS (upS Y2 2 y2_11) 3 y3_12) 4 y4_13) 5 y5_14) 6 y6_15) 7 y7_16) 8 y8_17) 9 y9_18) 10 y10_19) 11 y11_20) 12 y12_21) 13 y13_22)), (xa 32, aInt E 12 pn1_8), (xa 11, o4 (some (xa 29)) B), (xa 29, aInt E 0 bw)]) [0, 2, 1, 12, 13, 14, 15, 3, 10, 11, 8, 9, 6, 7, 4, 5] rfl rfl rfl ?_
          exact ih13 (t + 1) (some ca) (upS (upS (upS (upS (upS T2 1 t1_4) 3 (C 5)) 4 (C 6)) 5 (C 7)) 6 0) (upS (upS (upS (upS (upS (upS (upS (upS (upS (upS (upS (upS Y2 2 y2_11) 3 y3_12) 4 y4_13) 5 y5_14) 6 y6_15) 7 y7_16) 8 y8_17) 9 y9_18) 10 y10_19) 11 y11_20) 12 y12_21) 13 y13_22) co1_6 kn1_9 pn1_8 q1_10 (q2 + 1) (by omega) (by first | assumption | omega) ⟨hKB, by omega, by omega⟩ (by rw [hw, show (7 - t).toNat = (7 - (t + 1)).toNat + 1 by omega, whF_s, if_neg (by omega)])
        ·
          refine j_iload_n G 0 rfl d9_whit_67 ?_
          refine j_perm (ws' := [(xo, xO xa X), (xa 6, o5 (some (xa 20)) (some (xa 21)) (some (xa 22)) (some (xa 23)) U), (xa 2, aRef E 3 4 ck), (ca, o1 (some pa) (some da) (some sa) C), (pa, aInt E 5 P), (da, aInt E 24 dr), (sa, aInt E 24 sr), (xa 20, aInt E 24 co), (xa 12, o7 (some ca) (some (xa 30)) (upS (upS (upS (upS (upS T2 1 t1_4) 3 (C 5)) 4 (C 6)) 5 (C 7)) 6 0)), (xa 30, aInt E 24 co1_6), (xa 13, o3 (some (xa 12)) (some (xa 31)) (upS (upS Q 1 q1_10) 2 (q2 + 1))), (xa 31, aLng E 39852 kn1_9), (xa 14, o2 (some (xa 12)) (some (xa 13)) (some (xa 32)) (upS (upS (upS (upS (upS (upS (upS (upS (upS (upS (upS (upS Y2 2 y2_11) 3 y3_12) 4 y4_13) 5 y5_14) 6 y6_15) 7 y7_16) 8 y8_17) 9 y9_18) 10 y10_19) 11 y11_20) 12 y12_21) 13 y13_22)), (xa 32, aInt E 12 pn1_8), (xa 11, o4 (some (xa 29)) B), (xa 29, aInt E 0 bw)]) [0, 2, 1, 12, 13, 14, 15, 3, 10, 11, 8, 9, 6, 7, 4, 5] rfl rfl rfl ?_
          exact j_iret G F d9_whit_68 ⟨t, (upS (upS (upS (upS (upS T2 1 t1_4) 3 (C 5)) 4 (C 6)) 5 (C 7)) 6 0), (some ca), (upS (upS (upS (upS (upS (upS (upS (upS (upS (upS (upS (upS Y2 2 y2_11) 3 y3_12) 4 y4_13) 5 y5_14) 6 y6_15) 7 y7_16) 8 y8_17) 9 y9_18) 10 y10_19) 11 y11_20) 12 y12_21) 13 y13_22), co1_6, kn1_9, pn1_8, q1_10, (q2 + 1), rfl, rfl, (by first | (refine ⟨?_, hKB, by omega⟩; rw [hw, show (7 - t).toNat = (7 - (t + 1)).toNat + 1 by omega, whF_s, if_pos (by omega)]; done) | (refine ⟨?_, hkn2.1, by omega⟩; rw [hw, show (7 - t).toNat = 0 by omega]; rfl))⟩
  exact lp13 _ 1 r0 T Y cx kn pn (Q 1) (Q 2) (Nat.lt_succ_self _) (by first | assumption | omega) ⟨hkb, by omega, by omega⟩ rfl
theorem d9_worthWith_0 : decode c9_worthWith 0 = .ok (.aload_n 0, 1) := by decide +kernel
theorem d9_worthWith_1 : decode c9_worthWith 1 = .ok (.getfield 60, 3) := by decide +kernel
theorem d9_worthWith_4 : decode c9_worthWith 4 = .ok (.aload_n 1, 1) := by decide +kernel
theorem d9_worthWith_5 : decode c9_worthWith 5 = .ok (.aload_n 0, 1) := by decide +kernel
theorem d9_worthWith_6 : decode c9_worthWith 6 = .ok (.getfield 30, 3) := by decide +kernel
theorem d9_worthWith_9 : decode c9_worthWith 9 = .ok (.invokevirtual 197, 3) := by decide +kernel
theorem d9_worthWith_12 : decode c9_worthWith 12 = .ok (.iconst 0, 1) := by decide +kernel
theorem d9_worthWith_13 : decode c9_worthWith 13 = .ok (.istore_n 3, 1) := by decide +kernel
theorem d9_worthWith_14 : decode c9_worthWith 14 = .ok (.iload_n 3, 1) := by decide +kernel
theorem d9_worthWith_15 : decode c9_worthWith 15 = .ok (.aload_n 0, 1) := by decide +kernel
theorem d9_worthWith_16 : decode c9_worthWith 16 = .ok (.getfield 30, 3) := by decide +kernel
theorem d9_worthWith_19 : decode c9_worthWith 19 = .ok (.getfield 251, 3) := by decide +kernel
theorem d9_worthWith_22 : decode c9_worthWith 22 = .ok (.if_icmp .ge 43, 3) := by decide +kernel
theorem d9_worthWith_25 : decode c9_worthWith 25 = .ok (.iload_n 2, 1) := by decide +kernel
theorem d9_worthWith_26 : decode c9_worthWith 26 = .ok (.iload_n 3, 1) := by decide +kernel
theorem d9_worthWith_27 : decode c9_worthWith 27 = .ok (.ishr, 1) := by decide +kernel
theorem d9_worthWith_28 : decode c9_worthWith 28 = .ok (.iconst 1, 1) := by decide +kernel
theorem d9_worthWith_29 : decode c9_worthWith 29 = .ok (.iand, 1) := by decide +kernel
theorem d9_worthWith_30 : decode c9_worthWith 30 = .ok (.iconst 1, 1) := by decide +kernel
theorem d9_worthWith_31 : decode c9_worthWith 31 = .ok (.if_icmp .ne 28, 3) := by decide +kernel
theorem d9_worthWith_34 : decode c9_worthWith 34 = .ok (.aload_n 0, 1) := by decide +kernel
theorem d9_worthWith_35 : decode c9_worthWith 35 = .ok (.getfield 60, 3) := by decide +kernel
theorem d9_worthWith_38 : decode c9_worthWith 38 = .ok (.aload_n 0, 1) := by decide +kernel
theorem d9_worthWith_39 : decode c9_worthWith 39 = .ok (.getfield 30, 3) := by decide +kernel
theorem d9_worthWith_42 : decode c9_worthWith 42 = .ok (.getfield 254, 3) := by decide +kernel
theorem d9_worthWith_45 : decode c9_worthWith 45 = .ok (.iload_n 3, 1) := by decide +kernel
theorem d9_worthWith_46 : decode c9_worthWith 46 = .ok (.iaload, 1) := by decide +kernel
theorem d9_worthWith_47 : decode c9_worthWith 47 = .ok (.aload_n 0, 1) := by decide +kernel
theorem d9_worthWith_48 : decode c9_worthWith 48 = .ok (.getfield 30, 3) := by decide +kernel
theorem d9_worthWith_51 : decode c9_worthWith 51 = .ok (.getfield 257, 3) := by decide +kernel
theorem d9_worthWith_54 : decode c9_worthWith 54 = .ok (.iload_n 3, 1) := by decide +kernel
theorem d9_worthWith_55 : decode c9_worthWith 55 = .ok (.iaload, 1) := by decide +kernel
theorem d9_worthWith_56 : decode c9_worthWith 56 = .ok (.invokevirtual 341, 3) := by decide +kernel
theorem d9_worthWith_59 : decode c9_worthWith 59 = .ok (.iinc 3 1, 3) := by decide +kernel
theorem d9_worthWith_62 : decode c9_worthWith 62 = .ok (.goto (-48), 3) := by decide +kernel
theorem d9_worthWith_65 : decode c9_worthWith 65 = .ok (.aload_n 0, 1) := by decide +kernel
theorem d9_worthWith_66 : decode c9_worthWith 66 = .ok (.getfield 69, 3) := by decide +kernel
theorem d9_worthWith_69 : decode c9_worthWith 69 = .ok (.iconst 0, 1) := by decide +kernel
theorem d9_worthWith_70 : decode c9_worthWith 70 = .ok (.invokevirtual 229, 3) := by decide +kernel
theorem d9_worthWith_73 : decode c9_worthWith 73 = .ok (.aload_n 0, 1) := by decide +kernel
theorem d9_worthWith_74 : decode c9_worthWith 74 = .ok (.getfield 69, 3) := by decide +kernel
theorem d9_worthWith_77 : decode c9_worthWith 77 = .ok (.iconst 0, 1) := by decide +kernel
theorem d9_worthWith_78 : decode c9_worthWith 78 = .ok (.aload_n 0, 1) := by decide +kernel
theorem d9_worthWith_79 : decode c9_worthWith 79 = .ok (.getfield 30, 3) := by decide +kernel
theorem d9_worthWith_82 : decode c9_worthWith 82 = .ok (.getfield 175, 3) := by decide +kernel
theorem d9_worthWith_85 : decode c9_worthWith 85 = .ok (.iconst 0, 1) := by decide +kernel
theorem d9_worthWith_86 : decode c9_worthWith 86 = .ok (.iconst 0, 1) := by decide +kernel
theorem d9_worthWith_87 : decode c9_worthWith 87 = .ok (.invokestatic 233, 3) := by decide +kernel
theorem d9_worthWith_90 : decode c9_worthWith 90 = .ok (.ireturn, 1) := by decide +kernel
theorem mw9_worthWith : MV y9_worthWith c9_worthWith 4 (some .int) 2 := ⟨cd9_worthWith, ini9, na9_worthWith, im9_worthWith, se9_worthWith⟩
set_option maxHeartbeats 4000000 in
set_option maxRecDepth 100000 in
theorem k9_worthWith (l : Launch) (E : En) (xo : Nat) (xa : Nat → Nat) (X : Nat → Int) (U : Nat → Int) (ca : Nat) (pa : Nat) (da : Nat) (sa : Nat) (C : Nat → Int) (P : Int → Int) (dr : Int → Int) (sr : Int → Int) (r0 : Option Nat) (T : Nat → Int) (Q : Nat → Int) (Y : Nat → Int) (cx : Int → Int) (kn : Int → Int) (pn : Int → Int) (co : Int → Int) (D : Int → Int) (W : Int → Int) (so : Int → Int) (si : Int → Int) (st : Int) (hwf : wfC C P) (hU1 : U 1 = 0 ∨ U 1 = 1) (hdr : ∀ j, 0 ≤ j → j < 24 → (0 ≤ dr j ∧ dr j ≤ 11988)) (hco : ∀ j, 0 ≤ j → j < 24 → 0 ≤ co j ∧ co j ≤ 6) (hDW : ∀ s, 0 ≤ s → s ≤ 11 → dr (12 * U 1 + s) = D s ∧ sr (12 * U 1 + s) = W s ∧ (0 ≤ D s ∧ D s ≤ 11988) ∧ (0 ≤ W s ∧ W s ≤ 11988)) (hkb : KnB (Q 2) kn) (hed : Q 2 < 95000000) (hu2 : 0 ≤ U 2 ∧ U 2 ≤ 40) (hof : 0 ≤ U 7 ∧ U 7 ≤ 4) (hoo : ∀ j, 0 ≤ j → j < U 7 → (0 ≤ so j ∧ so j ≤ 3) ∧ (1 ≤ si j ∧ si j ≤ 20)) : Cm l E y9_worthWith c9_worthWith 4 (some .int) { frames := 27, cells := 0, slots := 0, locals := 758 } [.ref xo, .ref ca, .int (iZ st)] [(xo, xO xa X), (xa 6, o5 (some (xa 20)) (some (xa 21)) (some (xa 22)) (some (xa 23)) U), (ca, o1 (some pa) (some da) (some sa) C), (pa, aInt E 5 P), (da, aInt E 24 dr), (sa, aInt E 24 sr), (xa 20, aInt E 24 co), (xa 12, o7 r0 (some (xa 30)) T), (xa 30, aInt E 24 cx), (xa 13, o3 (some (xa 12)) (some (xa 31)) Q), (xa 31, aLng E 39852 kn), (xa 14, o2 (some (xa 12)) (some (xa 13)) (some (xa 32)) Y), (xa 32, aInt E 12 pn), (xa 21, aInt E 4 so), (xa 22, aInt E 4 si)] (fun r ws => ∃ (v : Int), ∃ (T1 : Nat → Int), ∃ (r1 : Option Nat), ∃ (Y1 : Nat → Int), ∃ (cx1 : Int → Int), ∃ (kn1 : Int → Int), ∃ (pn1 : Int → Int), ∃ (q1 : Int), ∃ (q2 : Int), r = some (.int (iZ v)) ∧ ws = [(xo, xO xa X), (xa 6, o5 (some (xa 20)) (some (xa 21)) (some (xa 22)) (some (xa 23)) U), (ca, o1 (some pa) (some da) (some sa) C), (pa, aInt E 5 P), (da, aInt E 24 dr), (sa, aInt E 24 sr), (xa 20, aInt E 24 co), (xa 12, o7 r1 (some (xa 30)) T1), (xa 30, aInt E 24 cx1), (xa 13, o3 (some (xa 12)) (some (xa 31)) (upS (upS Q 1 q1) 2 q2)), (xa 31, aLng E 39852 kn1), (xa 14, o2 (some (xa 12)) (some (xa 13)) (some (xa 32)) Y1), (xa 32, aInt E 12 pn1), (xa 21, aInt E 4 so), (xa 22, aInt E 4 si)] ∧ (v = byW C P D W co so si (U 7) (81 * U 2) st ∧ (KnB q2 kn1 ∧ q2 ≤ Q 2 + 1 ∧ 0 ≤ q2) ∧ (0 ≤ v ∧ v ≤ 8000))) := by
  refine Cm.of (by decide +kernel) (Nat.le_of_ble_eq_true rfl) (fun Γ A hl hargs hin G F => ?_)
  subst hl
  have hw5 := hwf.2.2.2.2.2.1
  have hw6 := hwf.2.2.2.2.2.2.1
  have hw7 := hwf.2.2.2.2.2.2.2
  refine j_aload_n G 0 rfl d9_worthWith_0 ?_
  refine j_get G 0 9 12 in9 fl9_60 d9_worthWith_1 rfl rfl (by decide) (v := .ref (xa 12)) rfl rfl ?_
  refine j_aload_n G 1 rfl d9_worthWith_4 ?_
  refine j_aload_n G 0 rfl d9_worthWith_5 ?_
  refine j_get G 0 9 6 in9 fl9_30 d9_worthWith_6 rfl rfl (by decide) (v := .ref (xa 6)) rfl rfl ?_
  refine j_VM G (rm' := { frames := 1, cells := 0, slots := 0, locals := 60 }) (wc := [(xa 12, o7 r0 (some (xa 30)) T), (xa 30, aInt E 24 cx), (ca, o1 (some pa) (some da) (some sa) C), (pa, aInt E 5 P), (xa 6, o5 (some (xa 20)) (some (xa 21)) (some (xa 22)) (some (xa 23)) U), (xa 20, aInt E 24 co)]) (wr := [(xo, xO xa X), (da, aInt E 24 dr), (sa, aInt E 24 sr), (xa 13, o3 (some (xa 12)) (some (xa 31)) Q), (xa 31, aLng E 39852 kn), (xa 14, o2 (some (xa 12)) (some (xa 13)) (some (xa 32)) Y), (xa 32, aInt E 12 pn), (xa 21, aInt E 4 so), (xa 22, aInt E 4 si)]) (k7_setTo (xl Γ) E (xa 12) (xa 30) r0 T ca pa da sa C P (xa 6) (xa 20) (xa 21) (xa 22) (xa 23) U co cx (by first | assumption | omega | (simp only [upS, reduceIte, Nat.reduceEqDiff, eq_self, List.length_cons, List.length_nil, List.length_append] <;> omega))) mw7_setTo ml9_197 [7, 8, 2, 3, 1, 6] [0, 4, 5, 9, 10, 11, 12, 13, 14] rfl rfl ⟨rfl, rfl⟩ (by decide) 7 7 rfl rfl rfl ⟨Nat.le_of_ble_eq_true rfl, Nat.le_of_ble_eq_true rfl⟩ rfl (rest := []) rfl (Nat.le_of_ble_eq_true rfl) d9_worthWith_9 ⟨Nat.le_of_ble_eq_true rfl, Nat.le_of_ble_eq_true rfl⟩ (fun r w1 hr => ?_)
  obtain ⟨t1_2, rfl, rfl, hq1⟩ := hr
  refine j_eq (ws' := [(xo, xO xa X), (da, aInt E 24 dr), (sa, aInt E 24 sr), (xa 13, o3 (some (xa 12)) (some (xa 31)) Q), (xa 31, aLng E 39852 kn), (xa 14, o2 (some (xa 12)) (some (xa 13)) (some (xa 32)) Y), (xa 32, aInt E 12 pn), (xa 21, aInt E 4 so), (xa 22, aInt E 4 si), (xa 12, o7 (some ca) (some (xa 30)) (upS (upS (upS (upS (upS T 1 t1_2) 3 (C 5)) 4 (C 6)) 5 (C 7)) 6 0)), (xa 30, aInt E 24 co), (ca, o1 (some pa) (some da) (some sa) C), (pa, aInt E 5 P), (xa 6, o5 (some (xa 20)) (some (xa 21)) (some (xa 22)) (some (xa 23)) U), (xa 20, aInt E 24 co)]) rfl rfl rfl ?_
  have ht1 := hq1
  refine j_iconst G d9_worthWith_12 ?_
  refine j_istore_n G d9_worthWith_13 (by decide) rfl ?_
  have lp14 : ∀ (fu : Nat) (k : Int) (t3 : Int) (t4 : Int) (t5 : Int) (t6 : Int), (U 7 - k).toNat < fu → (0 ≤ k ∧ k ≤ U 7) → (t3 = min 60 (C 5 + moF so si st 0 k.toNat) ∧ t4 = min 6 (C 6 + moF so si st 1 k.toNat) ∧ t6 = moF so si st 2 k.toNat ∧ t5 = min 40 (C 7 + moF so si st 3 k.toNat)) →  J E 4 Γ (some A) 0 0 [(xo, xO xa X), (da, aInt E 24 dr), (sa, aInt E 24 sr), (xa 13, o3 (some (xa 12)) (some (xa 31)) Q), (xa 31, aLng E 39852 kn), (xa 14, o2 (some (xa 12)) (some (xa 13)) (some (xa 32)) Y), (xa 32, aInt E 12 pn), (xa 21, aInt E 4 so), (xa 22, aInt E 4 si), (xa 12, o7 (some ca) (some (xa 30)) (upS (upS (upS (upS (upS T 1 t1_2) 3 t3) 4 t4) 5 t5) 6 t6)), (xa 30, aInt E 24 co), (ca, o1 (some pa) (some da) (some sa) C), (pa, aInt E 5 P), (xa 6, o5 (some (xa 20)) (some (xa 21)) (some (xa 22)) (some (xa 23)) U), (xa 20, aInt E 24 co)] 14 [(3, .int (iZ k)), (0, .ref xo), (1, .ref ca), (2, .int (iZ st))] [] := by
    intro fu
    induction fu with
    | zero =>
      intro k t3 t4 t5 t6 hm
      exact absurd hm (Nat.not_lt_zero _)
    | succ fu ih14 =>
      intro k t3 t4 t5 t6 hm hk hT
      refine j_iload_n G 0 rfl d9_worthWith_14 ?_
      refine j_aload_n G 1 rfl d9_worthWith_15 ?_
      refine j_get G 0 9 6 in9 fl9_30 d9_worthWith_16 rfl rfl (by decide) (v := .ref (xa 6)) rfl rfl ?_
      refine j_get G 13 5 7 in5 fl9_251 d9_worthWith_19 rfl rfl (by decide) (v := .int (iZ (U 7))) rfl rfl ?_
      refine j_icmp_ge (tgt := 65) G d9_worthWith_22 (by decide) (by omega) (by omega) (fun h3 => ?_) (fun h3 => ?_)
      ·
        have hke : k = U 7 := by omega
        rw [hke] at hT
        have hmr := fun u => moF_r (so := so) (si := si) (s := st) (t := u) (U 7).toNat (fun j h1 h2 => ⟨by have := (hoo j h1 (by omega)).2; omega, ((hoo j h1 (by omega)).2).2⟩)
        have g0 := hmr 0
        have g1 := hmr 1
        have g2 := hmr 2
        have g3 := hmr 3
        refine j_aload_n G 1 rfl d9_worthWith_65 ?_
        refine j_get G 0 9 13 in9 fl9_69 d9_worthWith_66 rfl rfl (by decide) (v := .ref (xa 13)) rfl rfl ?_
        refine j_iconst G d9_worthWith_69 ?_
        refine j_VM G (rm' := { frames := 0, cells := 0, slots := 0, locals := 0 }) (wc := [(xa 13, o3 (some (xa 12)) (some (xa 31)) Q)]) (wr := [(xo, xO xa X), (da, aInt E 24 dr), (sa, aInt E 24 sr), (xa 31, aLng E 39852 kn), (xa 14, o2 (some (xa 12)) (some (xa 13)) (some (xa 32)) Y), (xa 32, aInt E 12 pn), (xa 21, aInt E 4 so), (xa 22, aInt E 4 si), (xa 12, o7 (some ca) (some (xa 30)) (upS (upS (upS (upS (upS T 1 t1_2) 3 t3) 4 t4) 5 t5) 6 t6)), (xa 30, aInt E 24 co), (ca, o1 (some pa) (some da) (some sa) C), (pa, aInt E 5 P), (xa 6, o5 (some (xa 20)) (some (xa 21)) (some (xa 22)) (some (xa 23)) U), (xa 20, aInt E 24 co)]) (k3_begin (xl Γ) E (xa 13) (xa 12) (xa 31) Q 0 ) mw3_begin ml9_229 [3] [0, 1, 2, 4, 5, 6, 7, 8, 9, 10, 11, 12, 13, 14] rfl rfl ⟨rfl, rfl⟩ (by decide) 3 3 rfl rfl rfl ⟨Nat.le_of_ble_eq_true rfl, Nat.le_of_ble_eq_true rfl⟩ rfl (rest := []) rfl (Nat.le_of_ble_eq_true rfl) d9_worthWith_70 ⟨Nat.le_of_ble_eq_true rfl, Nat.le_of_ble_eq_true rfl⟩ (fun r w1 hr => ?_)
        obtain ⟨rfl, rfl, hq4⟩ := hr
        refine j_eq (ws' := [(xo, xO xa X), (da, aInt E 24 dr), (sa, aInt E 24 sr), (xa 31, aLng E 39852 kn), (xa 14, o2 (some (xa 12)) (some (xa 13)) (some (xa 32)) Y), (xa 32, aInt E 12 pn), (xa 21, aInt E 4 so), (xa 22, aInt E 4 si), (xa 12, o7 (some ca) (some (xa 30)) (upS (upS (upS (upS (upS T 1 t1_2) 3 t3) 4 t4) 5 t5) 6 t6)), (xa 30, aInt E 24 co), (ca, o1 (some pa) (some da) (some sa) C), (pa, aInt E 5 P), (xa 6, o5 (some (xa 20)) (some (xa 21)) (some (xa 22)) (some (xa 23)) U), (xa 20, aInt E 24 co), (xa 13, o3 (some (xa 12)) (some (xa 31)) (upS (upS Q 1 0) 2 ((Q 2) + 1)))]) rfl rfl rfl ?_
        refine j_aload_n G 1 rfl d9_worthWith_73 ?_
        refine j_get G 0 9 13 in9 fl9_69 d9_worthWith_74 rfl rfl (by decide) (v := .ref (xa 13)) rfl rfl ?_
        refine j_iconst G d9_worthWith_77 ?_
        refine j_aload_n G 1 rfl d9_worthWith_78 ?_
        refine j_get G 0 9 6 in9 fl9_30 d9_worthWith_79 rfl rfl (by decide) (v := .ref (xa 6)) rfl rfl ?_
        refine j_get G 12 5 2 in5 fl9_175 d9_worthWith_82 rfl rfl (by decide) (v := .int (iZ (U 2))) rfl rfl ?_
        refine j_iconst G d9_worthWith_85 ?_
        refine j_iconst G d9_worthWith_86 ?_
        refine j_SMN G (rm' := { frames := 26, cells := 0, slots := 0, locals := 728 }) (wc := [(xa 13, o3 (some (xa 12)) (some (xa 31)) (upS (upS Q 1 0) 2 ((Q 2) + 1))), (xa 31, aLng E 39852 kn), (xa 12, o7 (some ca) (some (xa 30)) (upS (upS (upS (upS (upS T 1 t1_2) 3 t3) 4 t4) 5 t5) 6 t6)), (xa 30, aInt E 24 co), (ca, o1 (some pa) (some da) (some sa) C), (pa, aInt E 5 P), (da, aInt E 24 dr), (sa, aInt E 24 sr)]) (wr := [(xo, xO xa X), (xa 14, o2 (some (xa 12)) (some (xa 13)) (some (xa 32)) Y), (xa 32, aInt E 12 pn), (xa 21, aInt E 4 so), (xa 22, aInt E 4 si), (xa 6, o5 (some (xa 20)) (some (xa 21)) (some (xa 22)) (some (xa 23)) U), (xa 20, aInt E 24 co)]) (k3_worthFrom_12 (xl Γ) E (xa 13) (xa 31) (upS (upS Q 1 0) 2 ((Q 2) + 1)) (xa 12) (xa 30) (upS (upS (upS (upS (upS T 1 t1_2) 3 t3) 4 t4) 5 t5) 6 t6) ca pa da sa C P dr sr co (byK C P D W co so si (U 7) st) kn 0 (U 2) 0 0 (tm_k (mt := moF so si st 0 (U 7).toNat) (ms := moF so si st 1 (U 7).toNat) (msp := moF so si st 2 (U 7).toNat) (mp := moF so si st 3 (U 7).toNat) (n := 1) rfl hwf (by omega) (by omega) (by omega) (by omega) (by omega) hco (fun s a b => by have q := hDW s a b; simp only [upS, reduceIte, Nat.reduceEqDiff]; rw [ht1, Int.add_zero]; exact q) (by first | (simp only [upS, reduceIte, Nat.reduceEqDiff]; omega) | simp only [upS, reduceIte, Nat.reduceEqDiff]) (by first | (simp only [upS, reduceIte, Nat.reduceEqDiff]; omega) | simp only [upS, reduceIte, Nat.reduceEqDiff]) (by first | (simp only [upS, reduceIte, Nat.reduceEqDiff]; omega) | simp only [upS, reduceIte, Nat.reduceEqDiff]) (by first | (simp only [upS, reduceIte, Nat.reduceEqDiff]; omega) | simp only [upS, reduceIte, Nat.reduceEqDiff]) (by first | (simp only [upS, reduceIte, Nat.reduceEqDiff]; omega) | simp only [upS, reduceIte, Nat.reduceEqDiff]) (fun s a b => ⟨rfl, by have q := hco (12 + s) (by omega) (by omega); omega⟩)) (hkb.k (by omega)) (by first | assumption | omega | (simp only [upS, reduceIte, Nat.reduceEqDiff, eq_self, List.length_cons, List.length_nil, List.length_append] <;> omega)) (by first | assumption | omega | (simp only [upS, reduceIte, Nat.reduceEqDiff, eq_self, List.length_cons, List.length_nil, List.length_append] <;> omega)) (by first | assumption | omega | (simp only [upS, reduceIte, Nat.reduceEqDiff, eq_self, List.length_cons, List.length_nil, List.length_append] <;> omega)) (by first | assumption | omega | (simp only [upS, reduceIte, Nat.reduceEqDiff, eq_self, List.length_cons, List.length_nil, List.length_append] <;> omega)) (by first | assumption | omega | (simp only [upS, reduceIte, Nat.reduceEqDiff, eq_self, List.length_cons, List.length_nil, List.length_append] <;> omega))) mw3_worthFrom mn9_233 [14, 3, 8, 9, 10, 11, 1, 2] [0, 4, 5, 6, 7, 12, 13] rfl rfl ⟨rfl, rfl⟩ (by decide) ⟨Nat.le_of_ble_eq_true rfl, Nat.le_of_ble_eq_true rfl⟩ rfl (rest := []) rfl (Nat.le_of_ble_eq_true rfl) d9_worthWith_87 ⟨Nat.le_of_ble_eq_true rfl, Nat.le_of_ble_eq_true rfl⟩ (fun r w1 hr => ?_)
        obtain ⟨v6, kn1_7, rfl, rfl, ⟨hq5_0, hq5_1, hq5_2⟩⟩ := hr
        refine j_eq (ws' := [(xo, xO xa X), (xa 14, o2 (some (xa 12)) (some (xa 13)) (some (xa 32)) Y), (xa 32, aInt E 12 pn), (xa 21, aInt E 4 so), (xa 22, aInt E 4 si), (xa 6, o5 (some (xa 20)) (some (xa 21)) (some (xa 22)) (some (xa 23)) U), (xa 20, aInt E 24 co), (xa 13, o3 (some (xa 12)) (some (xa 31)) (upS (upS Q 1 0) 2 ((Q 2) + 1))), (xa 31, aLng E 39852 kn1_7), (xa 12, o7 (some ca) (some (xa 30)) (upS (upS (upS (upS (upS T 1 t1_2) 3 t3) 4 t4) 5 t5) 6 t6)), (xa 30, aInt E 24 co), (ca, o1 (some pa) (some da) (some sa) C), (pa, aInt E 5 P), (da, aInt E 24 dr), (sa, aInt E 24 sr)]) rfl rfl rfl ?_
        try simp only [upS, reduceIte, Nat.reduceEqDiff, eq_self] at hq5_0 hq5_1 hq5_2
        have hv := hq5_0
        have hk1 := hq5_1
        have hr1 := hq5_2
        refine j_perm (ws' := [(xo, xO xa X), (xa 6, o5 (some (xa 20)) (some (xa 21)) (some (xa 22)) (some (xa 23)) U), (ca, o1 (some pa) (some da) (some sa) C), (pa, aInt E 5 P), (da, aInt E 24 dr), (sa, aInt E 24 sr), (xa 20, aInt E 24 co), (xa 12, o7 (some ca) (some (xa 30)) (upS (upS (upS (upS (upS T 1 t1_2) 3 t3) 4 t4) 5 t5) 6 t6)), (xa 30, aInt E 24 co), (xa 13, o3 (some (xa 12)) (some (xa 31)) (upS (upS Q 1 0) 2 ((Q 2) + 1))), (xa 31, aLng E 39852 kn1_7), (xa 14, o2 (some (xa 12)) (some (xa 13)) (some (xa 32)) Y), (xa 32, aInt E 12 pn), (xa 21, aInt E 4 so), (xa 22, aInt E 4 si)]) [0, 5, 11, 12, 13, 14, 6, 9, 10, 7, 8, 1, 2, 3, 4] rfl rfl rfl ?_
        exact j_iret G F d9_worthWith_90 ⟨v6, (upS (upS (upS (upS (upS T 1 t1_2) 3 t3) 4 t4) 5 t5) 6 t6), (some ca), Y, co, kn1_7, pn, 0, ((Q 2) + 1), rfl, rfl, (by exact ⟨hv.trans (by rw [show 81 * U 2 + 9 * 0 + 0 = 81 * U 2 by omega]; rfl), ⟨hk1.b, by omega, by have := hkb.1; omega⟩, by omega⟩)⟩
      ·
        have hb01 := bz_01 (s := st) (k := k) (by omega) (by omega)
        have hok2 := hoo k (by omega) (by omega)
        have hmr := fun u => moF_r (so := so) (si := si) (s := st) (t := u) k.toNat (fun j h1 h2 => ⟨by have := (hoo j h1 (by omega)).2; omega, ((hoo j h1 (by omega)).2).2⟩)
        have g0 := hmr 0
        have g1 := hmr 1
        have g2 := hmr 2
        have g3 := hmr 3
        refine j_iload_n G 3 rfl d9_worthWith_25 ?_
        refine j_iload_n G 0 rfl d9_worthWith_26 ?_
        refine r_ishr G d9_worthWith_27 ?_
        refine j_top (y := iZ (((iZ st) >>> ((iZ k) &&& 31)).toInt)) (iZ_of _).symm ?_
        refine j_iconst G d9_worthWith_28 ?_
        refine r_iand G d9_worthWith_29 ?_
        refine j_top (y := (iZ (bz st k))) (bz_top) ?_
        refine j_iconst G d9_worthWith_30 ?_
        refine j_icmp_ne (tgt := 59) G d9_worthWith_31 (by decide) (by omega) (by decide) (fun h8 => ?_) (fun h8 => ?_)
        ·
          have hbb9 : True := trivial
          refine j_iinc G d9_worthWith_59 0 rfl (by decide) rfl ?_
          refine j_goto (tgt := 14) G d9_worthWith_62 (by decide) ?_
          exact ih14 (k + 1) t3 t4 t5 t6 (by omega) (by first | assumption | omega) (by rw [moF_s hk.1, moF_s hk.1, moF_s hk.1, moF_s hk.1]; by_cases hb9 : bz st k = 0; (rw [if_pos hb9, if_pos hb9, if_pos hb9, if_pos hb9]; omega); (rw [if_neg hb9, if_neg hb9, if_neg hb9, if_neg hb9]; first | (exfalso; omega) | ((repeat' split at ha3) <;> (repeat' split at ha4) <;> (repeat' split at ha5) <;> (repeat' split at ha6) <;> omega)))
        ·
          have hbb : ¬ bz st k = 0 := by omega
          refine j_aload_n G 1 rfl d9_worthWith_34 ?_
          refine j_get G 0 9 12 in9 fl9_60 d9_worthWith_35 rfl rfl (by decide) (v := .ref (xa 12)) rfl rfl ?_
          refine j_aload_n G 1 rfl d9_worthWith_38 ?_
          refine j_get G 0 9 6 in9 fl9_30 d9_worthWith_39 rfl rfl (by decide) (v := .ref (xa 6)) rfl rfl ?_
          refine j_get G 13 5 4 in5 fl9_254 d9_worthWith_42 rfl rfl (by decide) (v := .ref (xa 21)) rfl rfl ?_
          refine j_iload_n G 0 rfl d9_worthWith_45 ?_
          refine j_iald G 7 rfl (by omega) d9_worthWith_46 ?_
          refine j_aload_n G 1 rfl d9_worthWith_47 ?_
          refine j_get G 0 9 6 in9 fl9_30 d9_worthWith_48 rfl rfl (by decide) (v := .ref (xa 6)) rfl rfl ?_
          refine j_get G 13 5 5 in5 fl9_257 d9_worthWith_51 rfl rfl (by decide) (v := .ref (xa 22)) rfl rfl ?_
          refine j_iload_n G 0 rfl d9_worthWith_54 ?_
          refine j_iald G 8 rfl (by omega) d9_worthWith_55 ?_
          refine j_VM G (rm' := { frames := 1, cells := 0, slots := 0, locals := 14 }) (wc := [(xa 12, o7 (some ca) (some (xa 30)) (upS (upS (upS (upS (upS T 1 t1_2) 3 t3) 4 t4) 5 t5) 6 t6))]) (wr := [(xo, xO xa X), (da, aInt E 24 dr), (sa, aInt E 24 sr), (xa 13, o3 (some (xa 12)) (some (xa 31)) Q), (xa 31, aLng E 39852 kn), (xa 14, o2 (some (xa 12)) (some (xa 13)) (some (xa 32)) Y), (xa 32, aInt E 12 pn), (xa 21, aInt E 4 so), (xa 22, aInt E 4 si), (xa 30, aInt E 24 co), (ca, o1 (some pa) (some da) (some sa) C), (pa, aInt E 5 P), (xa 6, o5 (some (xa 20)) (some (xa 21)) (some (xa 22)) (some (xa 23)) U), (xa 20, aInt E 24 co)]) (k7_add (xl Γ) E (xa 12) (xa 30) (upS (upS (upS (upS (upS T 1 t1_2) 3 t3) 4 t4) 5 t5) 6 t6) ca (so k) (si k) (by first | assumption | omega | (simp only [upS, reduceIte, Nat.reduceEqDiff, eq_self, List.length_cons, List.length_nil, List.length_append] <;> omega)) (by first | assumption | omega | (simp only [upS, reduceIte, Nat.reduceEqDiff, eq_self, List.length_cons, List.length_nil, List.length_append] <;> omega)) (by first | assumption | omega | (simp only [upS, reduceIte, Nat.reduceEqDiff, eq_self, List.length_cons, List.length_nil, List.length_append] <;> omega))) mw7_add ml9_341 [9] [0, 1, 2, 3, 4, 5, 6, 7, 8, 10, 11, 12, 13, 14] rfl rfl ⟨rfl, rfl⟩ (by decide) 9 7 rfl rfl rfl ⟨Nat.le_of_ble_eq_true rfl, Nat.le_of_ble_eq_true rfl⟩ rfl (rest := []) rfl (Nat.le_of_ble_eq_true rfl) d9_worthWith_56 ⟨Nat.le_of_ble_eq_true rfl, Nat.le_of_ble_eq_true rfl⟩ (fun r w1 hr => ?_)
          obtain ⟨x3_10, x4_11, x5_12, x6_13, rfl, rfl, ⟨hq9_0, hq9_1, hq9_2, hq9_3⟩⟩ := hr
          refine j_eq (ws' := [(xo, xO xa X), (da, aInt E 24 dr), (sa, aInt E 24 sr), (xa 13, o3 (some (xa 12)) (some (xa 31)) Q), (xa 31, aLng E 39852 kn), (xa 14, o2 (some (xa 12)) (some (xa 13)) (some (xa 32)) Y), (xa 32, aInt E 12 pn), (xa 21, aInt E 4 so), (xa 22, aInt E 4 si), (xa 30, aInt E 24 co), (ca, o1 (some pa) (some da) (some sa) C), (pa, aInt E 5 P), (xa 6, o5 (some (xa 20)) (some (xa 21)) (some (xa 22)) (some (xa 23)) U), (xa 20, aInt E 24 co), (xa 12, o7 (some ca) (some (xa 30)) (upS (upS (upS (upS (upS T 1 t1_2) 3 x3_10) 4 x4_11) 5 x5_12) 6 x6_13))]) rfl rfl rfl ?_
          try simp only [upS, reduceIte, Nat.reduceEqDiff, eq_self] at hq9_0 hq9_1 hq9_2 hq9_3
          have ha3 := hq9_0
          have ha4 := hq9_1
          have ha6 := hq9_2
          have ha5 := hq9_3
          have hbb9 : True := trivial
          refine j_iinc G d9_worthWith_59 0 rfl (by decide) rfl ?_
          refine j_goto (tgt := 14) G d9_worthWith_62 (by decide) ?_
          refine j_perm (ws' := [(xo, xO xa X), (da, aInt E 24 dr), (sa, aInt E 24 sr), (xa 13, o3 (some (xa 12)) (some (xa 31)) Q), (xa 31, aLng E 39852 kn), (xa 14, o2 (some (xa 12)) (some (xa 13)) (some (xa 32)) Y), (xa 32, aInt E 12 pn), (xa 21, aInt E 4 so), (xa 22, aInt E 4 si), (xa 12, o7 (some ca) (some (xa 30)) (upS (upS (upS (upS (upS T 1 t1_2) 3 x3_10) 4 x4_11) 5 x5_12) 6 x6_13)), (xa 30, aInt E 24 co), (ca, o1 (some pa) (some da) (some sa) C), (pa, aInt E 5 P), (xa 6, o5 (some (xa 20)) (some (xa 21)) (some (xa 22)) (some (xa 23)) U), (xa 20, aInt E 24 co)]) [0, 1, 2, 3, 4, 5, 6, 7, 8, 14, 9, 10, 11, 12, 13] rfl rfl rfl ?_
          exact ih14 (k + 1) x3_10 x4_11 x5_12 x6_13 (by omega) (by first | assumption | omega) (by rw [moF_s hk.1, moF_s hk.1, moF_s hk.1, moF_s hk.1]; by_cases hb9 : bz st k = 0; (rw [if_pos hb9, if_pos hb9, if_pos hb9, if_pos hb9]; omega); (rw [if_neg hb9, if_neg hb9, if_neg hb9, if_neg hb9]; first | (exfalso; omega) | ((repeat' split at ha3) <;> (repeat' split at ha4) <;> (repeat' split at ha5) <;> (repeat' split at ha6) <;> omega)))
  exact lp14 _ 0 (C 5) (C 6) (C 7) 0 (Nat.lt_succ_self _) (by first | assumption | omega) ⟨by show C 5 = min 60 (C 5 + 0); omega, by show C 6 = min 6 (C 6 + 0); omega, rfl, by show C 7 = min 40 (C 7 + 0); omega⟩
theorem d9_buy_0 : decode c9_buy 0 = .ok (.aload_n 0, 1) := by decide +kernel
theorem d9_buy_1 : decode c9_buy 1 = .ok (.invokevirtual 107, 3) := by decide +kernel
theorem d9_buy_4 : decode c9_buy 4 = .ok (.astore_n 2, 1) := by decide +kernel
theorem d9_buy_5 : decode c9_buy 5 = .ok (.aload_n 2, 1) := by decide +kernel
theorem d9_buy_6 : decode c9_buy 6 = .ok (.ifnonnull 5, 3) := by decide +kernel
theorem d9_buy_9 : decode c9_buy 9 = .ok (.iconst (-1), 1) := by decide +kernel
theorem d9_buy_10 : decode c9_buy 10 = .ok (.ireturn, 1) := by decide +kernel
theorem mw9_buy : MV y9_buy c9_buy 9 (some .int) 1 := ⟨cd9_buy, ini9, na9_buy, im9_buy, se9_buy⟩
set_option maxHeartbeats 4000000 in
set_option maxRecDepth 100000 in
theorem k9_buyn (l : Launch) (E : En) (xo : Nat) (xa : Nat → Nat) (X : Nat → Int) (U : Nat → Int) (purse : Int) (r_purse : R32 purse) (hu3 : U 3 < 0) (hu4 : -100 ≤ U 3) : Cp l E y9_buy c9_buy 9 (some .int) 1 21 [.ref xo, .int (iZ purse)] [(xo, xO xa X), (xa 6, o5 (some (xa 20)) (some (xa 21)) (some (xa 22)) (some (xa 23)) U)] (fun r => ∃ (v : Int), r = some (.int (iZ v)) ∧ (v = -1)) := by
  refine Cp.of (by decide +kernel) (Nat.le_of_ble_eq_true rfl) (fun Γ hl hargs G F => ?_)
  subst hl
  refine j_aload_n G 0 rfl d9_buy_0 ?_
  refine j_VP G (k9_theCliffn (xl Γ) E xo xa X U (by first | assumption | omega | (simp only [upS, reduceIte, Nat.reduceEqDiff, eq_self, List.length_cons, List.length_nil, List.length_append] <;> omega)) (by first | assumption | omega | (simp only [upS, reduceIte, Nat.reduceEqDiff, eq_self, List.length_cons, List.length_nil, List.length_append] <;> omega))) mw9_theCliff ml9_107 [0, 1] rfl 0 9 rfl rfl rfl ⟨Nat.le_of_ble_eq_true rfl, Nat.le_of_ble_eq_true rfl⟩ rfl (rest := []) rfl (Nat.le_of_ble_eq_true rfl) d9_buy_1 ⟨Nat.le_of_ble_eq_true rfl, Nat.le_of_ble_eq_true rfl⟩ (fun r hr => ?_)
  obtain ⟨rfl, hq1⟩ := hr
  refine j_astore_nN G d9_buy_4 (by decide) rfl ?_
  refine j_aload_nN G 0 rfl d9_buy_5 ?_
  refine j_ifnonnullN G d9_buy_6 ?_
  refine j_iconst G d9_buy_9 ?_
  exact j_iret G F d9_buy_10 ⟨(-1), rfl, (by first | rfl | omega)⟩
theorem d9_buy_11 : decode c9_buy 11 = .ok (.iload_n 1, 1) := by decide +kernel
theorem d9_buy_12 : decode c9_buy 12 = .ok (.ifCond .lt 10, 3) := by decide +kernel
theorem d9_buy_15 : decode c9_buy 15 = .ok (.iload_n 1, 1) := by decide +kernel
theorem d9_buy_16 : decode c9_buy 16 = .ok (.sipush 999, 3) := by decide +kernel
theorem d9_buy_19 : decode c9_buy 19 = .ok (.if_icmp .le 6, 3) := by decide +kernel
theorem d9_buy_22 : decode c9_buy 22 = .ok (.bipush (-2), 2) := by decide +kernel
theorem d9_buy_24 : decode c9_buy 24 = .ok (.ireturn, 1) := by decide +kernel
theorem d9_buy_25 : decode c9_buy 25 = .ok (.iconst (-1), 1) := by decide +kernel
theorem d9_buy_26 : decode c9_buy 26 = .ok (.istore_n 3, 1) := by decide +kernel
theorem d9_buy_27 : decode c9_buy 27 = .ok (.iconst 0, 1) := by decide +kernel
theorem d9_buy_28 : decode c9_buy 28 = .ok (.istore 4, 2) := by decide +kernel
theorem d9_buy_30 : decode c9_buy 30 = .ok (.iconst 0, 1) := by decide +kernel
theorem d9_buy_31 : decode c9_buy 31 = .ok (.istore 5, 2) := by decide +kernel
theorem d9_buy_33 : decode c9_buy 33 = .ok (.iconst 0, 1) := by decide +kernel
theorem d9_buy_34 : decode c9_buy 34 = .ok (.istore 6, 2) := by decide +kernel
theorem d9_buy_36 : decode c9_buy 36 = .ok (.iload 6, 2) := by decide +kernel
theorem d9_buy_38 : decode c9_buy 38 = .ok (.iconst 1, 1) := by decide +kernel
theorem d9_buy_39 : decode c9_buy 39 = .ok (.aload_n 0, 1) := by decide +kernel
theorem d9_buy_40 : decode c9_buy 40 = .ok (.getfield 30, 3) := by decide +kernel
theorem d9_buy_43 : decode c9_buy 43 = .ok (.getfield 251, 3) := by decide +kernel
theorem d9_buy_46 : decode c9_buy 46 = .ok (.ishl, 1) := by decide +kernel
theorem d9_buy_47 : decode c9_buy 47 = .ok (.if_icmp .ge 75, 3) := by decide +kernel
theorem d9_buy_50 : decode c9_buy 50 = .ok (.aload_n 0, 1) := by decide +kernel
theorem d9_buy_51 : decode c9_buy 51 = .ok (.getfield 30, 3) := by decide +kernel
theorem d9_buy_54 : decode c9_buy 54 = .ok (.iload 6, 2) := by decide +kernel
theorem d9_buy_56 : decode c9_buy 56 = .ok (.invokevirtual 263, 3) := by decide +kernel
theorem d9_buy_59 : decode c9_buy 59 = .ok (.istore 7, 2) := by decide +kernel
theorem d9_buy_61 : decode c9_buy 61 = .ok (.iload 7, 2) := by decide +kernel
theorem d9_buy_63 : decode c9_buy 63 = .ok (.iload_n 1, 1) := by decide +kernel
theorem d9_buy_64 : decode c9_buy 64 = .ok (.if_icmp .le 6, 3) := by decide +kernel
theorem d9_buy_67 : decode c9_buy 67 = .ok (.goto 49, 3) := by decide +kernel
theorem d9_buy_70 : decode c9_buy 70 = .ok (.aload_n 0, 1) := by decide +kernel
theorem d9_buy_71 : decode c9_buy 71 = .ok (.aload_n 2, 1) := by decide +kernel
theorem d9_buy_72 : decode c9_buy 72 = .ok (.iload 6, 2) := by decide +kernel
theorem d9_buy_74 : decode c9_buy 74 = .ok (.invokevirtual 266, 3) := by decide +kernel
theorem d9_buy_77 : decode c9_buy 77 = .ok (.istore 8, 2) := by decide +kernel
theorem d9_buy_79 : decode c9_buy 79 = .ok (.iload_n 3, 1) := by decide +kernel
theorem d9_buy_80 : decode c9_buy 80 = .ok (.iconst (-1), 1) := by decide +kernel
theorem d9_buy_81 : decode c9_buy 81 = .ok (.if_icmp .eq 24, 3) := by decide +kernel
theorem d9_buy_84 : decode c9_buy 84 = .ok (.iload 8, 2) := by decide +kernel
theorem d9_buy_86 : decode c9_buy 86 = .ok (.iload 4, 2) := by decide +kernel
theorem d9_buy_88 : decode c9_buy 88 = .ok (.if_icmp .gt 17, 3) := by decide +kernel
theorem d9_buy_91 : decode c9_buy 91 = .ok (.iload 8, 2) := by decide +kernel
theorem d9_buy_93 : decode c9_buy 93 = .ok (.iload 4, 2) := by decide +kernel
theorem d9_buy_95 : decode c9_buy 95 = .ok (.if_icmp .ne 21, 3) := by decide +kernel
theorem d9_buy_98 : decode c9_buy 98 = .ok (.iload 7, 2) := by decide +kernel
theorem d9_buy_100 : decode c9_buy 100 = .ok (.iload 5, 2) := by decide +kernel
theorem d9_buy_102 : decode c9_buy 102 = .ok (.if_icmp .ge 14, 3) := by decide +kernel
theorem d9_buy_105 : decode c9_buy 105 = .ok (.iload 6, 2) := by decide +kernel
theorem d9_buy_107 : decode c9_buy 107 = .ok (.istore_n 3, 1) := by decide +kernel
theorem d9_buy_108 : decode c9_buy 108 = .ok (.iload 8, 2) := by decide +kernel
theorem d9_buy_110 : decode c9_buy 110 = .ok (.istore 4, 2) := by decide +kernel
theorem d9_buy_112 : decode c9_buy 112 = .ok (.iload 7, 2) := by decide +kernel
theorem d9_buy_114 : decode c9_buy 114 = .ok (.istore 5, 2) := by decide +kernel
theorem d9_buy_116 : decode c9_buy 116 = .ok (.iinc 6 1, 3) := by decide +kernel
theorem d9_buy_119 : decode c9_buy 119 = .ok (.goto (-83), 3) := by decide +kernel
theorem d9_buy_122 : decode c9_buy 122 = .ok (.iload_n 3, 1) := by decide +kernel
theorem d9_buy_123 : decode c9_buy 123 = .ok (.ireturn, 1) := by decide +kernel
set_option maxHeartbeats 4000000 in
set_option maxRecDepth 100000 in
theorem k9_buyc (l : Launch) (E : En) (xo : Nat) (xa : Nat → Nat) (X : Nat → Int) (U : Nat → Int) (ck : Nat → Option Nat) (ca : Nat) (pa : Nat) (da : Nat) (sa : Nat) (C : Nat → Int) (P : Int → Int) (dr : Int → Int) (sr : Int → Int) (r0 : Option Nat) (T : Nat → Int) (Q : Nat → Int) (Y : Nat → Int) (cx : Int → Int) (kn : Int → Int) (pn : Int → Int) (co : Int → Int) (D : Int → Int) (W : Int → Int) (so : Int → Int) (si : Int → Int) (pr : Int → Int) (purse : Int) (r_purse : R32 purse) (hu3 : 0 ≤ U 3 ∧ U 3 < X 3 ∧ X 3 ≤ 4) (hck : ck (U 3).toNat = some ca) (hwf : wfC C P) (hU1 : U 1 = 0 ∨ U 1 = 1) (hdr : ∀ j, 0 ≤ j → j < 24 → (0 ≤ dr j ∧ dr j ≤ 11988)) (hco : ∀ j, 0 ≤ j → j < 24 → 0 ≤ co j ∧ co j ≤ 6) (hDW : ∀ s, 0 ≤ s → s ≤ 11 → dr (12 * U 1 + s) = D s ∧ sr (12 * U 1 + s) = W s ∧ (0 ≤ D s ∧ D s ≤ 11988) ∧ (0 ≤ W s ∧ W s ≤ 11988)) (hkb : KnB (Q 2) kn) (hed : Q 2 < 90000000) (hu2 : 0 ≤ U 2 ∧ U 2 ≤ 40) (hof : 0 ≤ U 7 ∧ U 7 ≤ 4) (hoo : ∀ j, 0 ≤ j → j < U 7 → (0 ≤ so j ∧ so j ≤ 3) ∧ (1 ≤ si j ∧ si j ≤ 20) ∧ (0 ≤ pr j ∧ pr j ≤ 99)) : Cm l E y9_buy c9_buy 9 (some .int) { frames := 28, cells := 0, slots := 0, locals := 781 } [.ref xo, .int (iZ purse)] [(xo, xO xa X), (xa 6, o5 (some (xa 20)) (some (xa 21)) (some (xa 22)) (some (xa 23)) U), (xa 2, aRef E 3 4 ck), (ca, o1 (some pa) (some da) (some sa) C), (pa, aInt E 5 P), (da, aInt E 24 dr), (sa, aInt E 24 sr), (xa 20, aInt E 24 co), (xa 12, o7 r0 (some (xa 30)) T), (xa 30, aInt E 24 cx), (xa 13, o3 (some (xa 12)) (some (xa 31)) Q), (xa 31, aLng E 39852 kn), (xa 14, o2 (some (xa 12)) (some (xa 13)) (some (xa 32)) Y), (xa 32, aInt E 12 pn), (xa 21, aInt E 4 so), (xa 22, aInt E 4 si), (xa 23, aInt E 4 pr)] (fun r ws => ∃ (v : Int), ∃ (T1 : Nat → Int), ∃ (r1 : Option Nat), ∃ (Y1 : Nat → Int), ∃ (cx1 : Int → Int), ∃ (kn1 : Int → Int), ∃ (pn1 : Int → Int), ∃ (q1 : Int), ∃ (q2 : Int), r = some (.int (iZ v)) ∧ ws = [(xo, xO xa X), (xa 6, o5 (some (xa 20)) (some (xa 21)) (some (xa 22)) (some (xa 23)) U), (xa 2, aRef E 3 4 ck), (ca, o1 (some pa) (some da) (some sa) C), (pa, aInt E 5 P), (da, aInt E 24 dr), (sa, aInt E 24 sr), (xa 20, aInt E 24 co), (xa 12, o7 r1 (some (xa 30)) T1), (xa 30, aInt E 24 cx1), (xa 13, o3 (some (xa 12)) (some (xa 31)) (upS (upS Q 1 q1) 2 q2)), (xa 31, aLng E 39852 kn1), (xa 14, o2 (some (xa 12)) (some (xa 13)) (some (xa 32)) Y1), (xa 32, aInt E 12 pn1), (xa 21, aInt E 4 so), (xa 22, aInt E 4 si), (xa 23, aInt E 4 pr)] ∧ (v = (if 0 ≤ purse ∧ purse ≤ 999 then byF (byW C P D W co so si (U 7) (81 * U 2)) (fun s => prF pr s (U 7).toNat) purse (pw (U 7) - 0).toNat 0 0 (-1) 0 else -2) ∧ (KnB q2 kn1 ∧ q2 ≤ Q 2 + 20))) := by
  refine Cm.of (by decide +kernel) (Nat.le_of_ble_eq_true rfl) (fun Γ A hl hargs hin G F => ?_)
  subst hl
  have hw5 := hwf.2.2.2.2.2.1
  have hw6 := hwf.2.2.2.2.2.2.1
  have hw7 := hwf.2.2.2.2.2.2.2
  refine j_aload_n G 0 rfl d9_buy_0 ?_
  refine j_VP G (k9_theCliffc (xl Γ) E xo xa X U ck ca (by first | assumption | omega | (simp only [upS, reduceIte, Nat.reduceEqDiff, eq_self, List.length_cons, List.length_nil, List.length_append] <;> omega)) (by first | assumption | omega | (simp only [upS, reduceIte, Nat.reduceEqDiff, eq_self, List.length_cons, List.length_nil, List.length_append] <;> omega))) mw9_theCliff ml9_107 [0, 1, 2] rfl 0 9 rfl rfl rfl ⟨Nat.le_of_ble_eq_true rfl, Nat.le_of_ble_eq_true rfl⟩ rfl (rest := []) rfl (Nat.le_of_ble_eq_true rfl) d9_buy_1 ⟨Nat.le_of_ble_eq_true rfl, Nat.le_of_ble_eq_true rfl⟩ (fun r hr => ?_)
  obtain ⟨rfl, hq1⟩ := hr
  refine j_astore_n G d9_buy_4 (by decide) rfl ?_
  refine j_aload_n G 0 rfl d9_buy_5 ?_
  refine j_ifnonnull (tgt := 11) G d9_buy_6 (by decide) ?_
  refine j_iload_n G 2 rfl d9_buy_11 ?_
  refine j_if_lt (tgt := 22) G d9_buy_12 (by decide) (by omega) (fun h2 => ?_) (fun h2 => ?_)
  ·
    refine j_bipush G d9_buy_22 rfl ?_
    exact j_iret G F d9_buy_24 ⟨(-2), T, r0, Y, cx, kn, pn, (Q 1), (Q 2), rfl, rfl, (by first | (refine ⟨(if_neg (by omega)).symm, hkb, by omega⟩; done) | (refine ⟨?_, hkn2.1, by omega⟩; rw [if_pos (by omega)]; rcases hw with ⟨e1, e2⟩ | ⟨e1, e2⟩; (exfalso; omega); (rw [e2, show (pw (U 7) - t).toNat = 0 by omega]; rfl)))⟩
  ·
    refine j_iload_n G 2 rfl d9_buy_15 ?_
    refine j_sipush G d9_buy_16 rfl ?_
    refine j_icmp_le (tgt := 25) G d9_buy_19 (by decide) (by omega) (by decide) (fun h3 => ?_) (fun h3 => ?_)
    ·
      have hpw := pw_r hof.1 hof.2
      refine j_iconst G d9_buy_25 ?_
      refine j_istore_n G d9_buy_26 (by decide) rfl ?_
      refine j_iconst G d9_buy_27 ?_
      refine j_istore G d9_buy_28 (by decide) rfl ?_
      refine j_iconst G d9_buy_30 ?_
      refine j_istore G d9_buy_31 (by decide) rfl ?_
      refine j_iconst G d9_buy_33 ?_
      refine j_istore G d9_buy_34 (by decide) rfl ?_
      refine j_eq (ws' := [(xo, xO xa X), (xa 6, o5 (some (xa 20)) (some (xa 21)) (some (xa 22)) (some (xa 23)) U), (xa 2, aRef E 3 4 ck), (ca, o1 (some pa) (some da) (some sa) C), (pa, aInt E 5 P), (da, aInt E 24 dr), (sa, aInt E 24 sr), (xa 20, aInt E 24 co), (xa 12, o7 r0 (some (xa 30)) T), (xa 30, aInt E 24 cx), (xa 13, o3 (some (xa 12)) (some (xa 31)) (upS (upS Q 1 (Q 1)) 2 (Q 2))), (xa 31, aLng E 39852 kn), (xa 14, o2 (some (xa 12)) (some (xa 13)) (some (xa 32)) Y), (xa 32, aInt E 12 pn), (xa 21, aInt E 4 so), (xa 22, aInt E 4 si), (xa 23, aInt E 4 pr)]) rfl rfl rfl ?_
      have lp36 : ∀ (fu : Nat) (fd : Int) (ms : Int) (ch : Int) (t : Int) (r2 : Option Nat) (T2 : Nat → Int) (Y2 : Nat → Int) (cx2 : Int → Int) (kn2 : Int → Int) (pn2 : Int → Int) (q1 : Int) (q2 : Int), (pw (U 7) - t).toNat < fu → (0 ≤ t ∧ t ≤ pw (U 7)) → (0 ≤ ms ∧ ms ≤ 8000) → (0 ≤ ch ∧ ch ≤ 1000) → (-1 ≤ fd ∧ fd ≤ 20) → (KnB q2 kn2 ∧ q2 ≤ Q 2 + t ∧ 0 ≤ q2) → ((t = 0 ∧ fd = -1) ∨ (0 ≤ fd ∧ byF (byW C P D W co so si (U 7) (81 * U 2)) (fun s => prF pr s (U 7).toNat) purse (pw (U 7) - 0).toNat 0 0 (-1) 0 = byF (byW C P D W co so si (U 7) (81 * U 2)) (fun s => prF pr s (U 7).toNat) purse (pw (U 7) - t).toNat t fd ms ch)) →  J E 9 Γ (some A) 0 0 [(xo, xO xa X), (xa 6, o5 (some (xa 20)) (some (xa 21)) (some (xa 22)) (some (xa 23)) U), (xa 2, aRef E 3 4 ck), (ca, o1 (some pa) (some da) (some sa) C), (pa, aInt E 5 P), (da, aInt E 24 dr), (sa, aInt E 24 sr), (xa 20, aInt E 24 co), (xa 12, o7 r2 (some (xa 30)) T2), (xa 30, aInt E 24 cx2), (xa 13, o3 (some (xa 12)) (some (xa 31)) (upS (upS Q 1 q1) 2 q2)), (xa 31, aLng E 39852 kn2), (xa 14, o2 (some (xa 12)) (some (xa 13)) (some (xa 32)) Y2), (xa 32, aInt E 12 pn2), (xa 21, aInt E 4 so), (xa 22, aInt E 4 si), (xa 23, aInt E 4 pr)] 36 [(6, .int (iZ t)), (5, .int (iZ ch)), (4, .int (iZ ms)), (3, .int (iZ fd)), (2, .ref ca), (0, .ref xo), (1, .int (iZ purse))] [] := by
        intro fu
        induction fu with
        | zero =>
          intro fd ms ch t r2 T2 Y2 cx2 kn2 pn2 q1 q2 hm
          exact absurd hm (Nat.not_lt_zero _)
        | succ fu ih36 =>
          intro fd ms ch t r2 T2 Y2 cx2 kn2 pn2 q1 q2 hm ht hms hch hfd hkn2 hw
          refine j_iload G 0 rfl d9_buy_36 ?_
          refine j_iconst G d9_buy_38 ?_
          refine j_aload_n G 5 rfl d9_buy_39 ?_
          refine j_get G 0 9 6 in9 fl9_30 d9_buy_40 rfl rfl (by decide) (v := .ref (xa 6)) rfl rfl ?_
          refine j_get G 1 5 7 in5 fl9_251 d9_buy_43 rfl rfl (by decide) (v := .int (iZ (U 7))) rfl rfl ?_
          refine r_ishl G d9_buy_46 ?_
          refine j_top (y := (iZ (pw (U 7)))) (pw_top) ?_
          refine j_icmp_ge (tgt := 122) G d9_buy_47 (by decide) (by omega) (by omega) (fun h4 => ?_) (fun h4 => ?_)
          ·
            refine j_iload_n G 3 rfl d9_buy_122 ?_
            exact j_iret G F d9_buy_123 ⟨fd, T2, r2, Y2, cx2, kn2, pn2, q1, q2, rfl, rfl, (by first | (refine ⟨(if_neg (by omega)).symm, hkb, by omega⟩; done) | (refine ⟨?_, hkn2.1, by omega⟩; rw [if_pos (by omega)]; rcases hw with ⟨e1, e2⟩ | ⟨e1, e2⟩; (exfalso; omega); (rw [e2, show (pw (U 7) - t).toNat = 0 by omega]; rfl)))⟩
          ·
            refine j_aload_n G 5 rfl d9_buy_50 ?_
            refine j_get G 0 9 6 in9 fl9_30 d9_buy_51 rfl rfl (by decide) (v := .ref (xa 6)) rfl rfl ?_
            refine j_iload G 0 rfl d9_buy_54 ?_
            refine j_VP G (k5_priceOf (xl Γ) E (xa 6) (xa 20) (xa 21) (xa 22) (xa 23) U pr t (by first | assumption | omega | (simp only [upS, reduceIte, Nat.reduceEqDiff, eq_self, List.length_cons, List.length_nil, List.length_append] <;> omega))) mw5_priceOf ml9_263 [1, 16] rfl 1 5 rfl rfl rfl ⟨Nat.le_of_ble_eq_true rfl, Nat.le_of_ble_eq_true rfl⟩ rfl (rest := []) rfl (Nat.le_of_ble_eq_true rfl) d9_buy_56 ⟨Nat.le_of_ble_eq_true rfl, Nat.le_of_ble_eq_true rfl⟩ (fun r hr => ?_)
            obtain ⟨v6, rfl, hq5⟩ := hr
            have hPt := hq5
            have hp00 : t = 0 → v6 = 0 := fun q => by rw [hPt, q]; exact prF_z _ (by omega)
            have hpr1 := prF_r (pr := pr) (s := t) (U 7).toNat (by omega) (fun j h1 h2 => (hoo j h1 (by omega)).2.2)
            rw [← hPt] at hpr1
            have hPt := hPt.symm
            refine j_istore G d9_buy_59 (by decide) rfl ?_
            refine j_iload G 0 rfl d9_buy_61 ?_
            refine j_iload_n G 7 rfl d9_buy_63 ?_
            refine j_icmp_le (tgt := 70) G d9_buy_64 (by decide) (by omega) (by omega) (fun h7 => ?_) (fun h7 => ?_)
            ·
              refine j_aload_n G 6 rfl d9_buy_70 ?_
              refine j_aload_n G 5 rfl d9_buy_71 ?_
              refine j_iload G 1 rfl d9_buy_72 ?_
              refine j_VM G (rm' := { frames := 27, cells := 0, slots := 0, locals := 758 }) (wc := [(xo, xO xa X), (xa 6, o5 (some (xa 20)) (some (xa 21)) (some (xa 22)) (some (xa 23)) U), (ca, o1 (some pa) (some da) (some sa) C), (pa, aInt E 5 P), (da, aInt E 24 dr), (sa, aInt E 24 sr), (xa 20, aInt E 24 co), (xa 12, o7 r2 (some (xa 30)) T2), (xa 30, aInt E 24 cx2), (xa 13, o3 (some (xa 12)) (some (xa 31)) (upS (upS Q 1 q1) 2 q2)), (xa 31, aLng E 39852 kn2), (xa 14, o2 (some (xa 12)) (some (xa 13)) (some (xa 32)) Y2), (xa 32, aInt E 12 pn2), (xa 21, aInt E 4 so), (xa 22, aInt E 4 si)]) (wr := [(xa 2, aRef E 3 4 ck), (xa 23, aInt E 4 pr)]) (k9_worthWith (xl Γ) E xo xa X U ca pa da sa C P dr sr r2 T2 (upS (upS Q 1 q1) 2 q2) Y2 cx2 kn2 pn2 co D W so si t (by first | assumption | omega | (simp only [upS, reduceIte, Nat.reduceEqDiff, eq_self, List.length_cons, List.length_nil, List.length_append] <;> omega)) (by first | assumption | omega | (simp only [upS, reduceIte, Nat.reduceEqDiff, eq_self, List.length_cons, List.length_nil, List.length_append] <;> omega)) (by first | assumption | omega | (simp only [upS, reduceIte, Nat.reduceEqDiff, eq_self, List.length_cons, List.length_nil, List.length_append] <;> omega)) (by first | assumption | omega | (simp only [upS, reduceIte, Nat.reduceEqDiff, eq_self, List.length_cons, List.length_nil, List.length_append] <;> omega)) (by first | assumption | omega | (simp only [upS, reduceIte, Nat.reduceEqDiff, eq_self, List.length_cons, List.length_nil, List.length_append] <;> omega)) hkn2.1 (by first | assumption | omega | (simp only [upS, reduceIte, Nat.reduceEqDiff, eq_self, List.length_cons, List.length_nil, List.length_append] <;> omega)) (by first | assumption | omega | (simp only [upS, reduceIte, Nat.reduceEqDiff, eq_self, List.length_cons, List.length_nil, List.length_append] <;> omega)) (by first | assumption | omega | (simp only [upS, reduceIte, Nat.reduceEqDiff, eq_self, List.length_cons, List.length_nil, List.length_append] <;> omega)) (fun j a b => ⟨(hoo j a b).1, (hoo j a b).2.1⟩)) mw9_worthWith ml9_266 [0, 1, 3, 4, 5, 6, 7, 8, 9, 10, 11, 12, 13, 14, 15] [2, 16] rfl rfl ⟨rfl, rfl⟩ (by decide) 0 9 rfl rfl rfl ⟨Nat.le_of_ble_eq_true rfl, Nat.le_of_ble_eq_true rfl⟩ rfl (rest := []) rfl (Nat.le_of_ble_eq_true rfl) d9_buy_74 ⟨Nat.le_of_ble_eq_true rfl, Nat.le_of_ble_eq_true rfl⟩ (fun r w1 hr => ?_)
              obtain ⟨v9, T1_10, r1_11, Y1_12, cx1_13, kn1_14, pn1_15, q1_16, q2_17, rfl, rfl, ⟨hq8_0, hq8_1, hq8_2⟩⟩ := hr
              refine j_eq (ws' := [(xa 2, aRef E 3 4 ck), (xa 23, aInt E 4 pr), (xo, xO xa X), (xa 6, o5 (some (xa 20)) (some (xa 21)) (some (xa 22)) (some (xa 23)) U), (ca, o1 (some pa) (some da) (some sa) C), (pa, aInt E 5 P), (da, aInt E 24 dr), (sa, aInt E 24 sr), (xa 20, aInt E 24 co), (xa 12, o7 r1_11 (some (xa 30)) T1_10), (xa 30, aInt E 24 cx1_13), (xa 13, o3 (some (xa 12)) (some (xa 31)) (upS (upS Q 1 q1_16) 2 q2_17)), (xa 31, aLng E 39852 kn1_14), (xa 14, o2 (some (xa 12)) (some (xa 13)) (some (xa 32)) Y1_12), (xa 32, aInt E 12 pn1_15), (xa 21, aInt E 4 so), (xa 22, aInt E 4 si)]) rfl rfl rfl ?_
              try simp only [upS, reduceIte, Nat.reduceEqDiff, eq_self] at hq8_0 hq8_1 hq8_2
              have hWt0 := hq8_0
              have hKB := hq8_1
              have hvb := hq8_2
              have hWt := hWt0.symm
              refine j_istore G d9_buy_77 (by decide) rfl ?_
              refine j_iload_n G 5 rfl d9_buy_79 ?_
              refine j_iconst G d9_buy_80 ?_
              refine j_icmp_eq (tgt := 105) G d9_buy_81 (by decide) (by omega) (by decide) (fun h18 => ?_) (fun h18 => ?_)
              ·
                refine j_iload G 2 rfl d9_buy_105 ?_
                refine j_istore_n G d9_buy_107 (by decide) rfl ?_
                refine j_iload G 1 rfl d9_buy_108 ?_
                refine j_istore G d9_buy_110 (by decide) rfl ?_
                refine j_iload G 3 rfl d9_buy_112 ?_
                refine j_istore G d9_buy_114 (by decide) rfl ?_
                have hwN : (t + 1 = 0 ∧ t = -1) ∨ (0 ≤ t ∧ byF (byW C P D W co so si (U 7) (81 * U 2)) (fun s => prF pr s (U 7).toNat) purse (pw (U 7) - 0).toNat 0 0 (-1) 0 = byF (byW C P D W co so si (U 7) (81 * U 2)) (fun s => prF pr s (U 7).toNat) purse (pw (U 7) - (t + 1)).toNat (t + 1) t v9 v6) := by
                  right
                  have hst : (pw (U 7) - t).toNat = (pw (U 7) - (t + 1)).toNat + 1 := by omega
                  rcases hw with ⟨e1, e2⟩ | ⟨e1, e2⟩
                  · have e0 : t = 0 := e1
                    refine ⟨by omega, ?_⟩
                    have hz : byF (byW C P D W co so si (U 7) (81 * U 2)) (fun s => prF pr s (U 7).toNat) purse (pw (U 7) - 0).toNat 0 0 (-1) 0 = byF (byW C P D W co so si (U 7) (81 * U 2)) (fun s => prF pr s (U 7).toNat) purse (pw (U 7) - t).toNat t t (-1) t := by rw [e0]
                    rw [hz, hst, byF_s]
                    first | (exfalso; omega) | (rw [if_neg (by show ¬ purse < prF pr t (U 7).toNat; omega), if_neg (by show ¬ (byW C P D W co so si (U 7) (81 * U 2) t < -1 ∨ (byW C P D W co so si (U 7) (81 * U 2) t = -1 ∧ t ≤ prF pr t (U 7).toNat)); omega)]; first | rfl | (rw [hWt, hPt])) | (exfalso; omega)
                  · refine ⟨by omega, ?_⟩
                    rw [e2, hst, byF_s]
                    first | (rw [if_pos (by show purse < prF pr t (U 7).toNat; omega)]; done) | (rw [if_neg (by show ¬ purse < prF pr t (U 7).toNat; omega), if_pos (by show byW C P D W co so si (U 7) (81 * U 2) t < ms ∨ (byW C P D W co so si (U 7) (81 * U 2) t = ms ∧ ch ≤ prF pr t (U 7).toNat); omega)]; done) | (rw [if_neg (by show ¬ purse < prF pr t (U 7).toNat; omega), if_neg (by show ¬ (byW C P D W co so si (U 7) (81 * U 2) t < ms ∨ (byW C P D W co so si (U 7) (81 * U 2) t = ms ∧ ch ≤ prF pr t (U 7).toNat)); omega)]; first | rfl | (rw [hWt, hPt])) | (exfalso; omega)
                refine j_iinc G d9_buy_116 5 rfl (by decide) rfl ?_
                refine j_goto (tgt := 36) G d9_buy_119 (by decide) ?_
                refine j_locs (ls' := [(6, .int (iZ (t + 1))), (5, .int (iZ v6)), (4, .int (iZ v9)), (3, .int (iZ t)), (2, .ref ca), (0, .ref xo), (1, .int (iZ purse))]) [0, 1, 2, 3, 6, 7, 8] rfl ?_
                refine j_perm (ws' := [(xo, xO xa X), (xa 6, o5 (some (xa 20)) (some (xa 21)) (some (xa 22)) (some (xa 23)) U), (xa 2, aRef E 3 4 ck), (ca, o1 (some pa) (some da) (some sa) C), (pa, aInt E 5 P), (da, aInt E 24 dr), (sa, aInt E 24 sr), (xa 20, aInt E 24 co), (xa 12, o7 r1_11 (some (xa 30)) T1_10), (xa 30, aInt E 24 cx1_13), (xa 13, o3 (some (xa 12)) (some (xa 31)) (upS (upS Q 1 q1_16) 2 q2_17)), (xa 31, aLng E 39852 kn1_14), (xa 14, o2 (some (xa 12)) (some (xa 13)) (some (xa 32)) Y1_12), (xa 32, aInt E 12 pn1_15), (xa 21, aInt E 4 so), (xa 22, aInt E 4 si), (xa 23, aInt E 4 pr)]) [2, 3, 0, 4, 5, 6, 7, 8, 9, 10, 11, 12, 13, 14, 15, 16, 1] rfl rfl rfl ?_
                exact ih36 t v9 v6 (t + 1) r1_11 T1_10 Y1_12 cx1_13 kn1_14 pn1_15 q1_16 q2_17 (by omega) (by first | assumption | omega) (by first | assumption | omega) (by first | assumption | omega) (by first | assumption | omega) (by first | exact ⟨hKB.1, by omega, by omega⟩ | exact ⟨hkn2.1, by omega, by omega⟩) hwN
              ·
                refine j_iload G 0 rfl d9_buy_84 ?_
                refine j_iload G 4 rfl d9_buy_86 ?_
                refine j_icmp_gt (tgt := 105) G d9_buy_88 (by decide) (by omega) (by omega) (fun h19 => ?_) (fun h19 => ?_)
                ·
                  refine j_iload G 2 rfl d9_buy_105 ?_
                  refine j_istore_n G d9_buy_107 (by decide) rfl ?_
                  refine j_iload G 1 rfl d9_buy_108 ?_
                  refine j_istore G d9_buy_110 (by decide) rfl ?_
                  refine j_iload G 3 rfl d9_buy_112 ?_
                  refine j_istore G d9_buy_114 (by decide) rfl ?_
                  have hwN : (t + 1 = 0 ∧ t = -1) ∨ (0 ≤ t ∧ byF (byW C P D W co so si (U 7) (81 * U 2)) (fun s => prF pr s (U 7).toNat) purse (pw (U 7) - 0).toNat 0 0 (-1) 0 = byF (byW C P D W co so si (U 7) (81 * U 2)) (fun s => prF pr s (U 7).toNat) purse (pw (U 7) - (t + 1)).toNat (t + 1) t v9 v6) := by
                    right
                    have hst : (pw (U 7) - t).toNat = (pw (U 7) - (t + 1)).toNat + 1 := by omega
                    rcases hw with ⟨e1, e2⟩ | ⟨e1, e2⟩
                    · have e0 : t = 0 := e1
                      refine ⟨by omega, ?_⟩
                      have hz : byF (byW C P D W co so si (U 7) (81 * U 2)) (fun s => prF pr s (U 7).toNat) purse (pw (U 7) - 0).toNat 0 0 (-1) 0 = byF (byW C P D W co so si (U 7) (81 * U 2)) (fun s => prF pr s (U 7).toNat) purse (pw (U 7) - t).toNat t t (-1) t := by rw [e0]
                      rw [hz, hst, byF_s]
                      first | (exfalso; omega) | (rw [if_neg (by show ¬ purse < prF pr t (U 7).toNat; omega), if_neg (by show ¬ (byW C P D W co so si (U 7) (81 * U 2) t < -1 ∨ (byW C P D W co so si (U 7) (81 * U 2) t = -1 ∧ t ≤ prF pr t (U 7).toNat)); omega)]; first | rfl | (rw [hWt, hPt])) | (exfalso; omega)
                    · refine ⟨by omega, ?_⟩
                      rw [e2, hst, byF_s]
                      first | (rw [if_pos (by show purse < prF pr t (U 7).toNat; omega)]; done) | (rw [if_neg (by show ¬ purse < prF pr t (U 7).toNat; omega), if_pos (by show byW C P D W co so si (U 7) (81 * U 2) t < ms ∨ (byW C P D W co so si (U 7) (81 * U 2) t = ms ∧ ch ≤ prF pr t (U 7).toNat); omega)]; done) | (rw [if_neg (by show ¬ purse < prF pr t (U 7).toNat; omega), if_neg (by show ¬ (byW C P D W co so si (U 7) (81 * U 2) t < ms ∨ (byW C P D W co so si (U 7) (81 * U 2) t = ms ∧ ch ≤ prF pr t (U 7).toNat)); omega)]; first | rfl | (rw [hWt, hPt])) | (exfalso; omega)
                  refine j_iinc G d9_buy_116 5 rfl (by decide) rfl ?_
                  refine j_goto (tgt := 36) G d9_buy_119 (by decide) ?_
                  refine j_locs (ls' := [(6, .int (iZ (t + 1))), (5, .int (iZ v6)), (4, .int (iZ v9)), (3, .int (iZ t)), (2, .ref ca), (0, .ref xo), (1, .int (iZ purse))]) [0, 1, 2, 3, 6, 7, 8] rfl ?_
                  refine j_perm (ws' := [(xo, xO xa X), (xa 6, o5 (some (xa 20)) (some (xa 21)) (some (xa 22)) (some (xa 23)) U), (xa 2, aRef E 3 4 ck), (ca, o1 (some pa) (some da) (some sa) C), (pa, aInt E 5 P), (da, aInt E 24 dr), (sa, aInt E 24 sr), (xa 20, aInt E 24 co), (xa 12, o7 r1_11 (some (xa 30)) T1_10), (xa 30, aInt E 24 cx1_13), (xa 13, o3 (some (xa 12)) (some (xa 31)) (upS (upS Q 1 q1_16) 2 q2_17)), (xa 31, aLng E 39852 kn1_14), (xa 14, o2 (some (xa 12)) (some (xa 13)) (some (xa 32)) Y1_12), (xa 32, aInt E 12 pn1_15), (xa 21, aInt E 4 so), (xa 22, aInt E 4 si), (xa 23, aInt E 4 pr)]) [2, 3, 0, 4, 5, 6, 7, 8, 9, 10, 11, 12, 13, 14, 15, 16, 1] rfl rfl rfl ?_
                  exact ih36 t v9 v6 (t + 1) r1_11 T1_10 Y1_12 cx1_13 kn1_14 pn1_15 q1_16 q2_17 (by omega) (by first | assumption | omega) (by first | assumption | omega) (by first | assumption | omega) (by first | assumption | omega) (by first | exact ⟨hKB.1, by omega, by omega⟩ | exact ⟨hkn2.1, by omega, by omega⟩) hwN
                ·
                  refine j_iload G 0 rfl d9_buy_91 ?_
                  refine j_iload G 4 rfl d9_buy_93 ?_
                  refine j_icmp_ne (tgt := 116) G d9_buy_95 (by decide) (by omega) (by omega) (fun h20 => ?_) (fun h20 => ?_)
                  ·
                    have hwN : (t + 1 = 0 ∧ fd = -1) ∨ (0 ≤ fd ∧ byF (byW C P D W co so si (U 7) (81 * U 2)) (fun s => prF pr s (U 7).toNat) purse (pw (U 7) - 0).toNat 0 0 (-1) 0 = byF (byW C P D W co so si (U 7) (81 * U 2)) (fun s => prF pr s (U 7).toNat) purse (pw (U 7) - (t + 1)).toNat (t + 1) fd ms ch) := by
                      right
                      have hst : (pw (U 7) - t).toNat = (pw (U 7) - (t + 1)).toNat + 1 := by omega
                      rcases hw with ⟨e1, e2⟩ | ⟨e1, e2⟩
                      · have e0 : t = 0 := e1
                        refine ⟨by omega, ?_⟩
                        have hz : byF (byW C P D W co so si (U 7) (81 * U 2)) (fun s => prF pr s (U 7).toNat) purse (pw (U 7) - 0).toNat 0 0 (-1) 0 = byF (byW C P D W co so si (U 7) (81 * U 2)) (fun s => prF pr s (U 7).toNat) purse (pw (U 7) - t).toNat t t (-1) t := by rw [e0]
                        rw [hz, hst, byF_s]
                        first | (exfalso; omega) | (rw [if_neg (by show ¬ purse < prF pr t (U 7).toNat; omega), if_neg (by show ¬ (byW C P D W co so si (U 7) (81 * U 2) t < -1 ∨ (byW C P D W co so si (U 7) (81 * U 2) t = -1 ∧ t ≤ prF pr t (U 7).toNat)); omega)]; first | rfl | (rw [hWt, hPt])) | (exfalso; omega)
                      · refine ⟨by omega, ?_⟩
                        rw [e2, hst, byF_s]
                        first | (rw [if_pos (by show purse < prF pr t (U 7).toNat; omega)]; done) | (rw [if_neg (by show ¬ purse < prF pr t (U 7).toNat; omega), if_pos (by show byW C P D W co so si (U 7) (81 * U 2) t < ms ∨ (byW C P D W co so si (U 7) (81 * U 2) t = ms ∧ ch ≤ prF pr t (U 7).toNat); omega)]; done) | (rw [if_neg (by show ¬ purse < prF pr t (U 7).toNat; omega), if_neg (by show ¬ (byW C P D W co so si (U 7) (81 * U 2) t < ms ∨ (byW C P D W co so si (U 7) (81 * U 2) t = ms ∧ ch ≤ prF pr t (U 7).toNat)); omega)]; first | rfl | (rw [hWt, hPt])) | (exfalso; omega)
                    refine j_iinc G d9_buy_116 2 rfl (by decide) rfl ?_
                    refine j_goto (tgt := 36) G d9_buy_119 (by decide) ?_
                    refine j_locs (ls' := [(6, .int (iZ (t + 1))), (5, .int (iZ ch)), (4, .int (iZ ms)), (3, .int (iZ fd)), (2, .ref ca), (0, .ref xo), (1, .int (iZ purse))]) [0, 3, 4, 5, 6, 7, 8] rfl ?_
                    refine j_perm (ws' := [(xo, xO xa X), (xa 6, o5 (some (xa 20)) (some (xa 21)) (some (xa 22)) (some (xa 23)) U), (xa 2, aRef E 3 4 ck), (ca, o1 (some pa) (some da) (some sa) C), (pa, aInt E 5 P), (da, aInt E 24 dr), (sa, aInt E 24 sr), (xa 20, aInt E 24 co), (xa 12, o7 r1_11 (some (xa 30)) T1_10), (xa 30, aInt E 24 cx1_13), (xa 13, o3 (some (xa 12)) (some (xa 31)) (upS (upS Q 1 q1_16) 2 q2_17)), (xa 31, aLng E 39852 kn1_14), (xa 14, o2 (some (xa 12)) (some (xa 13)) (some (xa 32)) Y1_12), (xa 32, aInt E 12 pn1_15), (xa 21, aInt E 4 so), (xa 22, aInt E 4 si), (xa 23, aInt E 4 pr)]) [2, 3, 0, 4, 5, 6, 7, 8, 9, 10, 11, 12, 13, 14, 15, 16, 1] rfl rfl rfl ?_
                    exact ih36 fd ms ch (t + 1) r1_11 T1_10 Y1_12 cx1_13 kn1_14 pn1_15 q1_16 q2_17 (by omega) (by first | assumption | omega) (by first | assumption | omega) (by first | assumption | omega) (by first | assumption | omega) (by first | exact ⟨hKB.1, by omega, by omega⟩ | exact ⟨hkn2.1, by omega, by omega⟩) hwN
                  ·
                    refine j_iload G 1 rfl d9_buy_98 ?_
                    refine j_iload G 3 rfl d9_buy_100 ?_
                    refine j_icmp_ge (tgt := 116) G d9_buy_102 (by decide) (by omega) (by omega) (fun h21 => ?_) (fun h21 => ?_)
                    ·
                      have hwN : (t + 1 = 0 ∧ fd = -1) ∨ (0 ≤ fd ∧ byF (byW C P D W co so si (U 7) (81 * U 2)) (fun s => prF pr s (U 7).toNat) purse (pw (U 7) - 0).toNat 0 0 (-1) 0 = byF (byW C P D W co so si (U 7) (81 * U 2)) (fun s => prF pr s (U 7).toNat) purse (pw (U 7) - (t + 1)).toNat (t + 1) fd ms ch) := by
                        right
                        have hst : (pw (U 7) - t).toNat = (pw (U 7) - (t + 1)).toNat + 1 := by omega
                        rcases hw with ⟨e1, e2⟩ | ⟨e1, e2⟩
                        · have e0 : t = 0 := e1
                          refine ⟨by omega, ?_⟩
                          have hz : byF (byW C P D W co so si (U 7) (81 * U 2)) (fun s => prF pr s (U 7).toNat) purse (pw (U 7) - 0).toNat 0 0 (-1) 0 = byF (byW C P D W co so si (U 7) (81 * U 2)) (fun s => prF pr s (U 7).toNat) purse (pw (U 7) - t).toNat t t (-1) t := by rw [e0]
                          rw [hz, hst, byF_s]
                          first | (exfalso; omega) | (rw [if_neg (by show ¬ purse < prF pr t (U 7).toNat; omega), if_neg (by show ¬ (byW C P D W co so si (U 7) (81 * U 2) t < -1 ∨ (byW C P D W co so si (U 7) (81 * U 2) t = -1 ∧ t ≤ prF pr t (U 7).toNat)); omega)]; first | rfl | (rw [hWt, hPt])) | (exfalso; omega)
                        · refine ⟨by omega, ?_⟩
                          rw [e2, hst, byF_s]
                          first | (rw [if_pos (by show purse < prF pr t (U 7).toNat; omega)]; done) | (rw [if_neg (by show ¬ purse < prF pr t (U 7).toNat; omega), if_pos (by show byW C P D W co so si (U 7) (81 * U 2) t < ms ∨ (byW C P D W co so si (U 7) (81 * U 2) t = ms ∧ ch ≤ prF pr t (U 7).toNat); omega)]; done) | (rw [if_neg (by show ¬ purse < prF pr t (U 7).toNat; omega), if_neg (by show ¬ (byW C P D W co so si (U 7) (81 * U 2) t < ms ∨ (byW C P D W co so si (U 7) (81 * U 2) t = ms ∧ ch ≤ prF pr t (U 7).toNat)); omega)]; first | rfl | (rw [hWt, hPt])) | (exfalso; omega)
                      refine j_iinc G d9_buy_116 2 rfl (by decide) rfl ?_
                      refine j_goto (tgt := 36) G d9_buy_119 (by decide) ?_
                      refine j_locs (ls' := [(6, .int (iZ (t + 1))), (5, .int (iZ ch)), (4, .int (iZ ms)), (3, .int (iZ fd)), (2, .ref ca), (0, .ref xo), (1, .int (iZ purse))]) [0, 3, 4, 5, 6, 7, 8] rfl ?_
                      refine j_perm (ws' := [(xo, xO xa X), (xa 6, o5 (some (xa 20)) (some (xa 21)) (some (xa 22)) (some (xa 23)) U), (xa 2, aRef E 3 4 ck), (ca, o1 (some pa) (some da) (some sa) C), (pa, aInt E 5 P), (da, aInt E 24 dr), (sa, aInt E 24 sr), (xa 20, aInt E 24 co), (xa 12, o7 r1_11 (some (xa 30)) T1_10), (xa 30, aInt E 24 cx1_13), (xa 13, o3 (some (xa 12)) (some (xa 31)) (upS (upS Q 1 q1_16) 2 q2_17)), (xa 31, aLng E 39852 kn1_14), (xa 14, o2 (some (xa 12)) (some (xa 13)) (some (xa 32)) Y1_12), (xa 32, aInt E 12 pn1_15), (xa 21, aInt E 4 so), (xa 22, aInt E 4 si), (xa 23, aInt E 4 pr)]) [2, 3, 0, 4, 5, 6, 7, 8, 9, 10, 11, 12, 13, 14, 15, 16, 1] rfl rfl rfl ?_
                      exact ih36 fd ms ch (t + 1) r1_11 T1_10 Y1_12 cx1_13 kn1_14 pn1_15 q1_16 q2_17 (by omega) (by first | assumption | omega) (by first | assumption | omega) (by first | assumption | omega) (by first | assumption | omega) (by first | exact ⟨hKB.1, by omega, by omega⟩ | exact ⟨hkn2.1, by omega, by omega⟩) hwN
                    ·
                      refine j_iload G 2 rfl d9_buy_105 ?_
                      refine j_istore_n G d9_buy_107 (by decide) rfl ?_
                      refine j_iload G 1 rfl d9_buy_108 ?_
                      refine j_istore G d9_buy_110 (by decide) rfl ?_
                      refine j_iload G 3 rfl d9_buy_112 ?_
                      refine j_istore G d9_buy_114 (by decide) rfl ?_
                      have hwN : (t + 1 = 0 ∧ t = -1) ∨ (0 ≤ t ∧ byF (byW C P D W co so si (U 7) (81 * U 2)) (fun s => prF pr s (U 7).toNat) purse (pw (U 7) - 0).toNat 0 0 (-1) 0 = byF (byW C P D W co so si (U 7) (81 * U 2)) (fun s => prF pr s (U 7).toNat) purse (pw (U 7) - (t + 1)).toNat (t + 1) t v9 v6) := by
                        right
                        have hst : (pw (U 7) - t).toNat = (pw (U 7) - (t + 1)).toNat + 1 := by omega
                        rcases hw with ⟨e1, e2⟩ | ⟨e1, e2⟩
                        · have e0 : t = 0 := e1
                          refine ⟨by omega, ?_⟩
                          have hz : byF (byW C P D W co so si (U 7) (81 * U 2)) (fun s => prF pr s (U 7).toNat) purse (pw (U 7) - 0).toNat 0 0 (-1) 0 = byF (byW C P D W co so si (U 7) (81 * U 2)) (fun s => prF pr s (U 7).toNat) purse (pw (U 7) - t).toNat t t (-1) t := by rw [e0]
                          rw [hz, hst, byF_s]
                          first | (exfalso; omega) | (rw [if_neg (by show ¬ purse < prF pr t (U 7).toNat; omega), if_neg (by show ¬ (byW C P D W co so si (U 7) (81 * U 2) t < -1 ∨ (byW C P D W co so si (U 7) (81 * U 2) t = -1 ∧ t ≤ prF pr t (U 7).toNat)); omega)]; first | rfl | (rw [hWt, hPt])) | (exfalso; omega)
                        · refine ⟨by omega, ?_⟩
                          rw [e2, hst, byF_s]
                          first | (rw [if_pos (by show purse < prF pr t (U 7).toNat; omega)]; done) | (rw [if_neg (by show ¬ purse < prF pr t (U 7).toNat; omega), if_pos (by show byW C P D W co so si (U 7) (81 * U 2) t < ms ∨ (byW C P D W co so si (U 7) (81 * U 2) t = ms ∧ ch ≤ prF pr t (U 7).toNat); omega)]; done) | (rw [if_neg (by show ¬ purse < prF pr t (U 7).toNat; omega), if_neg (by show ¬ (byW C P D W co so si (U 7) (81 * U 2) t < ms ∨ (byW C P D W co so si (U 7) (81 * U 2) t = ms ∧ ch ≤ prF pr t (U 7).toNat)); omega)]; first | rfl | (rw [hWt, hPt])) | (exfalso; omega)
                      refine j_iinc G d9_buy_116 5 rfl (by decide) rfl ?_
                      refine j_goto (tgt := 36) G d9_buy_119 (by decide) ?_
                      refine j_locs (ls' := [(6, .int (iZ (t + 1))), (5, .int (iZ v6)), (4, .int (iZ v9)), (3, .int (iZ t)), (2, .ref ca), (0, .ref xo), (1, .int (iZ purse))]) [0, 1, 2, 3, 6, 7, 8] rfl ?_
                      refine j_perm (ws' := [(xo, xO xa X), (xa 6, o5 (some (xa 20)) (some (xa 21)) (some (xa 22)) (some (xa 23)) U), (xa 2, aRef E 3 4 ck), (ca, o1 (some pa) (some da) (some sa) C), (pa, aInt E 5 P), (da, aInt E 24 dr), (sa, aInt E 24 sr), (xa 20, aInt E 24 co), (xa 12, o7 r1_11 (some (xa 30)) T1_10), (xa 30, aInt E 24 cx1_13), (xa 13, o3 (some (xa 12)) (some (xa 31)) (upS (upS Q 1 q1_16) 2 q2_17)), (xa 31, aLng E 39852 kn1_14), (xa 14, o2 (some (xa 12)) (some (xa 13)) (some (xa 32)) Y1_12), (xa 32, aInt E 12 pn1_15), (xa 21, aInt E 4 so), (xa 22, aInt E 4 si), (xa 23, aInt E 4 pr)]) [2, 3, 0, 4, 5, 6, 7, 8, 9, 10, 11, 12, 13, 14, 15, 16, 1] rfl rfl rfl ?_
                      exact ih36 t v9 v6 (t + 1) r1_11 T1_10 Y1_12 cx1_13 kn1_14 pn1_15 q1_16 q2_17 (by omega) (by first | assumption | omega) (by first | assumption | omega) (by first | assumption | omega) (by first | assumption | omega) (by first | exact ⟨hKB.1, by omega, by omega⟩ | exact ⟨hkn2.1, by omega, by omega⟩) hwN
            ·
              refine j_goto (tgt := 116) G d9_buy_67 (by decide) ?_
              have hwN : (t + 1 = 0 ∧ fd = -1) ∨ (0 ≤ fd ∧ byF (byW C P D W co so si (U 7) (81 * U 2)) (fun s => prF pr s (U 7).toNat) purse (pw (U 7) - 0).toNat 0 0 (-1) 0 = byF (byW C P D W co so si (U 7) (81 * U 2)) (fun s => prF pr s (U 7).toNat) purse (pw (U 7) - (t + 1)).toNat (t + 1) fd ms ch) := by
                right
                have hst : (pw (U 7) - t).toNat = (pw (U 7) - (t + 1)).toNat + 1 := by omega
                rcases hw with ⟨e1, e2⟩ | ⟨e1, e2⟩
                · have e0 : t = 0 := e1
                  refine ⟨by omega, ?_⟩
                  have hz : byF (byW C P D W co so si (U 7) (81 * U 2)) (fun s => prF pr s (U 7).toNat) purse (pw (U 7) - 0).toNat 0 0 (-1) 0 = byF (byW C P D W co so si (U 7) (81 * U 2)) (fun s => prF pr s (U 7).toNat) purse (pw (U 7) - t).toNat t t (-1) t := by rw [e0]
                  rw [hz, hst, byF_s]
                  first | (exfalso; omega) | (rw [if_neg (by show ¬ purse < prF pr t (U 7).toNat; omega), if_neg (by show ¬ (byW C P D W co so si (U 7) (81 * U 2) t < -1 ∨ (byW C P D W co so si (U 7) (81 * U 2) t = -1 ∧ t ≤ prF pr t (U 7).toNat)); omega)]; first | rfl | (rw [hWt, hPt])) | (exfalso; omega)
                · refine ⟨by omega, ?_⟩
                  rw [e2, hst, byF_s]
                  first | (rw [if_pos (by show purse < prF pr t (U 7).toNat; omega)]; done) | (rw [if_neg (by show ¬ purse < prF pr t (U 7).toNat; omega), if_pos (by show byW C P D W co so si (U 7) (81 * U 2) t < ms ∨ (byW C P D W co so si (U 7) (81 * U 2) t = ms ∧ ch ≤ prF pr t (U 7).toNat); omega)]; done) | (rw [if_neg (by show ¬ purse < prF pr t (U 7).toNat; omega), if_neg (by show ¬ (byW C P D W co so si (U 7) (81 * U 2) t < ms ∨ (byW C P D W co so si (U 7) (81 * U 2) t = ms ∧ ch ≤ prF pr t (U 7).toNat)); omega)]; first | rfl | (rw [hWt, hPt])) | (exfalso; omega)
              refine j_iinc G d9_buy_116 1 rfl (by decide) rfl ?_
              refine j_goto (tgt := 36) G d9_buy_119 (by decide) ?_
              refine j_locs (ls' := [(6, .int (iZ (t + 1))), (5, .int (iZ ch)), (4, .int (iZ ms)), (3, .int (iZ fd)), (2, .ref ca), (0, .ref xo), (1, .int (iZ purse))]) [0, 2, 3, 4, 5, 6, 7] rfl ?_
              exact ih36 fd ms ch (t + 1) r2 T2 Y2 cx2 kn2 pn2 q1 q2 (by omega) (by first | assumption | omega) (by first | assumption | omega) (by first | assumption | omega) (by first | assumption | omega) (by first | exact ⟨hKB.1, by omega, by omega⟩ | exact ⟨hkn2.1, by omega, by omega⟩) hwN
      exact lp36 _ (-1) 0 0 0 r0 T Y cx kn pn (Q 1) (Q 2) (Nat.lt_succ_self _) (by first | assumption | omega) (by first | assumption | omega) (by first | assumption | omega) (by first | assumption | omega) ⟨hkb, by omega, by have := hkb.1; omega⟩ (Or.inl ⟨rfl, rfl⟩)
    ·
      refine j_bipush G d9_buy_22 rfl ?_
      exact j_iret G F d9_buy_24 ⟨(-2), T, r0, Y, cx, kn, pn, (Q 1), (Q 2), rfl, rfl, (by first | (refine ⟨(if_neg (by omega)).symm, hkb, by omega⟩; done) | (refine ⟨?_, hkn2.1, by omega⟩; rw [if_pos (by omega)]; rcases hw with ⟨e1, e2⟩ | ⟨e1, e2⟩; (exfalso; omega); (rw [e2, show (pw (U 7) - t).toNat = 0 by omega]; rfl)))⟩
theorem d9_judge_0 : decode c9_judge 0 = .ok (.aload_n 0, 1) := by decide +kernel
theorem d9_judge_1 : decode c9_judge 1 = .ok (.invokevirtual 107, 3) := by decide +kernel
theorem d9_judge_4 : decode c9_judge 4 = .ok (.astore_n 3, 1) := by decide +kernel
theorem d9_judge_5 : decode c9_judge 5 = .ok (.iload_n 1, 1) := by decide +kernel
theorem d9_judge_6 : decode c9_judge 6 = .ok (.invokestatic 270, 3) := by decide +kernel
theorem d9_judge_9 : decode c9_judge 9 = .ok (.ifCond .ne 7, 3) := by decide +kernel
theorem d9_judge_12 : decode c9_judge 12 = .ok (.aload_n 3, 1) := by decide +kernel
theorem d9_judge_13 : decode c9_judge 13 = .ok (.ifnonnull 5, 3) := by decide +kernel
theorem d9_judge_16 : decode c9_judge 16 = .ok (.iconst (-1), 1) := by decide +kernel
theorem d9_judge_17 : decode c9_judge 17 = .ok (.ireturn, 1) := by decide +kernel
theorem mw9_judge : MV y9_judge c9_judge 5 (some .int) 2 := ⟨cd9_judge, ini9, na9_judge, im9_judge, se9_judge⟩
set_option maxHeartbeats 4000000 in
set_option maxRecDepth 100000 in
theorem k9_judgen (l : Launch) (E : En) (xo : Nat) (xa : Nat → Nat) (X : Nat → Int) (U : Nat → Int) (t : Int) (i : Int) (r_t : R32 t) (r_i : R32 i) (hu3 : U 3 < 0) (hu4 : -100 ≤ U 3) : Cp l E y9_judge c9_judge 5 (some .int) 1 21 [.ref xo, .int (iZ t), .int (iZ i)] [(xo, xO xa X), (xa 6, o5 (some (xa 20)) (some (xa 21)) (some (xa 22)) (some (xa 23)) U)] (fun r => ∃ (v : Int), r = some (.int (iZ v)) ∧ (v = -1)) := by
  refine Cp.of (by decide +kernel) (Nat.le_of_ble_eq_true rfl) (fun Γ hl hargs G F => ?_)
  subst hl
  refine j_aload_n G 0 rfl d9_judge_0 ?_
  refine j_VP G (k9_theCliffn (xl Γ) E xo xa X U (by first | assumption | omega | (simp only [upS, reduceIte, Nat.reduceEqDiff, eq_self, List.length_cons, List.length_nil, List.length_append] <;> omega)) (by first | assumption | omega | (simp only [upS, reduceIte, Nat.reduceEqDiff, eq_self, List.length_cons, List.length_nil, List.length_append] <;> omega))) mw9_theCliff ml9_107 [0, 1] rfl 0 9 rfl rfl rfl ⟨Nat.le_of_ble_eq_true rfl, Nat.le_of_ble_eq_true rfl⟩ rfl (rest := []) rfl (Nat.le_of_ble_eq_true rfl) d9_judge_1 ⟨Nat.le_of_ble_eq_true rfl, Nat.le_of_ble_eq_true rfl⟩ (fun r hr => ?_)
  obtain ⟨rfl, hq1⟩ := hr
  refine j_astore_nN G d9_judge_4 (by decide) rfl ?_
  refine j_iload_n G 2 rfl d9_judge_5 ?_
  refine j_SP G (k9_isNoTape (xl Γ) E t (by first | assumption | omega | (simp only [upS, reduceIte, Nat.reduceEqDiff, eq_self, List.length_cons, List.length_nil, List.length_append] <;> omega))) mw9_isNoTape ml9_270 [] rfl ⟨Nat.le_of_ble_eq_true rfl, Nat.le_of_ble_eq_true rfl⟩ rfl (rest := []) rfl (Nat.le_of_ble_eq_true rfl) d9_judge_6 ⟨Nat.le_of_ble_eq_true rfl, Nat.le_of_ble_eq_true rfl⟩ (fun r hr => ?_)
  obtain ⟨v3, rfl, hq2⟩ := hr
  rcases hq2 with ⟨hq2, rfl⟩ | ⟨hq2, rfl⟩
  ·
    refine j_if_ne (tgt := 16) G d9_judge_9 (by decide) (by decide) (fun h4 => ?_) (fun h4 => absurd h4 (by decide))
    refine j_iconst G d9_judge_16 ?_
    exact j_iret G F d9_judge_17 ⟨(-1), rfl, (by first | rfl | omega)⟩
  ·
    refine j_if_ne (tgt := 16) G d9_judge_9 (by decide) (by decide) (fun h5 => absurd h5 (by decide)) (fun h5 => ?_)
    refine j_aload_nN G 0 rfl d9_judge_12 ?_
    refine j_ifnonnullN G d9_judge_13 ?_
    refine j_iconst G d9_judge_16 ?_
    exact j_iret G F d9_judge_17 ⟨(-1), rfl, (by first | rfl | omega)⟩
set_option maxHeartbeats 4000000 in
set_option maxRecDepth 100000 in
theorem k9_judget (l : Launch) (E : En) (xo : Nat) (xa : Nat → Nat) (X : Nat → Int) (U : Nat → Int) (ck : Nat → Option Nat) (ca : Nat) (pa : Nat) (da : Nat) (sa : Nat) (C : Nat → Int) (P : Int → Int) (dr : Int → Int) (sr : Int → Int) (t : Int) (i : Int) (r_t : R32 t) (r_i : R32 i) (hu3 : 0 ≤ U 3 ∧ U 3 < X 3 ∧ X 3 ≤ 4) (hck : ck (U 3).toNat = some ca) (hwf : wfC C P) (hU1 : U 1 = 0 ∨ U 1 = 1) (hdr : ∀ j, 0 ≤ j → j < 24 → (0 ≤ dr j ∧ dr j ≤ 11988)) (htq : ¬ (0 ≤ t ∧ t ≤ 5)) : Cp l E y9_judge c9_judge 5 (some .int) 1 21 [.ref xo, .int (iZ t), .int (iZ i)] [(xo, xO xa X), (xa 6, o5 (some (xa 20)) (some (xa 21)) (some (xa 22)) (some (xa 23)) U), (xa 2, aRef E 3 4 ck), (ca, o1 (some pa) (some da) (some sa) C), (pa, aInt E 5 P), (da, aInt E 24 dr), (sa, aInt E 24 sr)] (fun r => ∃ (v : Int), r = some (.int (iZ v)) ∧ (v = -1)) := by
  refine Cp.of (by decide +kernel) (Nat.le_of_ble_eq_true rfl) (fun Γ hl hargs G F => ?_)
  subst hl
  refine j_aload_n G 0 rfl d9_judge_0 ?_
  refine j_VP G (k9_theCliffc (xl Γ) E xo xa X U ck ca (by first | assumption | omega | (simp only [upS, reduceIte, Nat.reduceEqDiff, eq_self, List.length_cons, List.length_nil, List.length_append] <;> omega)) (by first | assumption | omega | (simp only [upS, reduceIte, Nat.reduceEqDiff, eq_self, List.length_cons, List.length_nil, List.length_append] <;> omega))) mw9_theCliff ml9_107 [0, 1, 2] rfl 0 9 rfl rfl rfl ⟨Nat.le_of_ble_eq_true rfl, Nat.le_of_ble_eq_true rfl⟩ rfl (rest := []) rfl (Nat.le_of_ble_eq_true rfl) d9_judge_1 ⟨Nat.le_of_ble_eq_true rfl, Nat.le_of_ble_eq_true rfl⟩ (fun r hr => ?_)
  obtain ⟨rfl, hq1⟩ := hr
  refine j_astore_n G d9_judge_4 (by decide) rfl ?_
  refine j_iload_n G 2 rfl d9_judge_5 ?_
  refine j_SP G (k9_isNoTape (xl Γ) E t (by first | assumption | omega | (simp only [upS, reduceIte, Nat.reduceEqDiff, eq_self, List.length_cons, List.length_nil, List.length_append] <;> omega))) mw9_isNoTape ml9_270 [] rfl ⟨Nat.le_of_ble_eq_true rfl, Nat.le_of_ble_eq_true rfl⟩ rfl (rest := []) rfl (Nat.le_of_ble_eq_true rfl) d9_judge_6 ⟨Nat.le_of_ble_eq_true rfl, Nat.le_of_ble_eq_true rfl⟩ (fun r hr => ?_)
  obtain ⟨v3, rfl, hq2⟩ := hr
  rcases hq2 with ⟨hq2, rfl⟩ | ⟨hq2, rfl⟩
  ·
    refine j_if_ne (tgt := 16) G d9_judge_9 (by decide) (by decide) (fun h4 => ?_) (fun h4 => absurd h4 (by decide))
    refine j_iconst G d9_judge_16 ?_
    exact j_iret G F d9_judge_17 ⟨(-1), rfl, (by first | rfl | omega)⟩
  ·
    omega
theorem d9_judge_18 : decode c9_judge 18 = .ok (.aload_n 0, 1) := by decide +kernel
theorem d9_judge_19 : decode c9_judge 19 = .ok (.getfield 39, 3) := by decide +kernel
theorem d9_judge_22 : decode c9_judge 22 = .ok (.iload_n 1, 1) := by decide +kernel
theorem d9_judge_23 : decode c9_judge 23 = .ok (.aaload, 1) := by decide +kernel
theorem d9_judge_24 : decode c9_judge 24 = .ok (.astore 4, 2) := by decide +kernel
theorem d9_judge_26 : decode c9_judge 26 = .ok (.aload 4, 2) := by decide +kernel
theorem d9_judge_28 : decode c9_judge 28 = .ok (.invokevirtual 273, 3) := by decide +kernel
theorem d9_judge_31 : decode c9_judge 31 = .ok (.ifCond .ne 15, 3) := by decide +kernel
theorem d9_judge_34 : decode c9_judge 34 = .ok (.aload 4, 2) := by decide +kernel
theorem d9_judge_36 : decode c9_judge 36 = .ok (.getfield 277, 3) := by decide +kernel
theorem d9_judge_39 : decode c9_judge 39 = .ok (.iconst 2, 1) := by decide +kernel
theorem d9_judge_40 : decode c9_judge 40 = .ok (.if_icmp .eq 6, 3) := by decide +kernel
theorem d9_judge_43 : decode c9_judge 43 = .ok (.bipush (-12), 2) := by decide +kernel
theorem d9_judge_45 : decode c9_judge 45 = .ok (.ireturn, 1) := by decide +kernel
theorem d9_judge_46 : decode c9_judge 46 = .ok (.aload_n 0, 1) := by decide +kernel
theorem d9_judge_47 : decode c9_judge 47 = .ok (.getfield 60, 3) := by decide +kernel
theorem d9_judge_50 : decode c9_judge 50 = .ok (.aload_n 3, 1) := by decide +kernel
theorem d9_judge_51 : decode c9_judge 51 = .ok (.aload_n 0, 1) := by decide +kernel
theorem d9_judge_52 : decode c9_judge 52 = .ok (.getfield 30, 3) := by decide +kernel
theorem d9_judge_55 : decode c9_judge 55 = .ok (.invokevirtual 197, 3) := by decide +kernel
theorem d9_judge_58 : decode c9_judge 58 = .ok (.aload_n 0, 1) := by decide +kernel
theorem d9_judge_59 : decode c9_judge 59 = .ok (.getfield 78, 3) := by decide +kernel
theorem d9_judge_62 : decode c9_judge 62 = .ok (.aload 4, 2) := by decide +kernel
theorem d9_judge_64 : decode c9_judge 64 = .ok (.iload_n 2, 1) := by decide +kernel
theorem d9_judge_65 : decode c9_judge 65 = .ok (.aload_n 0, 1) := by decide +kernel
theorem d9_judge_66 : decode c9_judge 66 = .ok (.getfield 30, 3) := by decide +kernel
theorem d9_judge_69 : decode c9_judge 69 = .ok (.getfield 175, 3) := by decide +kernel
theorem d9_judge_72 : decode c9_judge 72 = .ok (.invokevirtual 280, 3) := by decide +kernel
theorem d9_judge_75 : decode c9_judge 75 = .ok (.ireturn, 1) := by decide +kernel
set_option maxHeartbeats 4000000 in
set_option maxRecDepth 100000 in
theorem k9_judgec (l : Launch) (E : En) (xo : Nat) (xa : Nat → Nat) (X : Nat → Int) (U : Nat → Int) (ck : Nat → Option Nat) (ca : Nat) (pa : Nat) (da : Nat) (sa : Nat) (C : Nat → Int) (P : Int → Int) (dr : Int → Int) (sr : Int → Int) (r0 : Option Nat) (T : Nat → Int) (Q : Nat → Int) (Y : Nat → Int) (cx : Int → Int) (kn : Int → Int) (pn : Int → Int) (co : Int → Int) (D : Int → Int) (W : Int → Int) (tk : Nat → Option Nat) (qa : Nat) (qi : Nat) (L : Nat → Int) (it : Int → Int) (t : Int) (i : Int) (r_t : R32 t) (r_i : R32 i) (hu3 : 0 ≤ U 3 ∧ U 3 < X 3 ∧ X 3 ≤ 4) (hck : ck (U 3).toNat = some ca) (hwf : wfC C P) (hU1 : U 1 = 0 ∨ U 1 = 1) (hdr : ∀ j, 0 ≤ j → j < 24 → (0 ≤ dr j ∧ dr j ≤ 11988)) (hco : ∀ j, 0 ≤ j → j < 24 → 0 ≤ co j ∧ co j ≤ 6) (hDW : ∀ s, 0 ≤ s → s ≤ 11 → dr (12 * U 1 + s) = D s ∧ sr (12 * U 1 + s) = W s ∧ (0 ≤ D s ∧ D s ≤ 11988) ∧ (0 ≤ W s ∧ W s ≤ 11988)) (hkb : KnB (Q 2) kn) (hed : Q 2 < 90000000) (hu2 : 0 ≤ U 2 ∧ U 2 ≤ 40) (htq : 0 ≤ t ∧ t ≤ 5) (htk : tk t.toNat = some qa) (hL : (-1 ≤ L 0 ∧ L 0 ≤ 4) ∧ (0 ≤ L 1 ∧ L 1 ≤ 60) ∧ (L 0 < 0 → L 1 = 0)) (hit9 : ∀ j, 0 ≤ j → j < 60 → L 0 < 0 ∨ L 0 = 2 → R32 (it j)) : Cm l E y9_judge c9_judge 5 (some .int) { frames := 5, cells := 0, slots := 0, locals := 117 } [.ref xo, .int (iZ t), .int (iZ i)] [(xo, xO xa X), (xa 6, o5 (some (xa 20)) (some (xa 21)) (some (xa 22)) (some (xa 23)) U), (xa 2, aRef E 3 4 ck), (ca, o1 (some pa) (some da) (some sa) C), (pa, aInt E 5 P), (da, aInt E 24 dr), (sa, aInt E 24 sr), (xa 20, aInt E 24 co), (xa 12, o7 r0 (some (xa 30)) T), (xa 30, aInt E 24 cx), (xa 13, o3 (some (xa 12)) (some (xa 31)) Q), (xa 31, aLng E 39852 kn), (xa 14, o2 (some (xa 12)) (some (xa 13)) (some (xa 32)) Y), (xa 32, aInt E 12 pn), (xa 9, aRef E 5 6 tk), (qa, o6 (some qi) L), (qi, aLng E 60 it)] (fun r ws => ∃ (v : Int), ∃ (T1 : Nat → Int), ∃ (r1 : Option Nat), ∃ (Y1 : Nat → Int), ∃ (cx1 : Int → Int), ∃ (pn1 : Int → Int), r = some (.int (iZ v)) ∧ ws = [(xo, xO xa X), (xa 6, o5 (some (xa 20)) (some (xa 21)) (some (xa 22)) (some (xa 23)) U), (xa 2, aRef E 3 4 ck), (ca, o1 (some pa) (some da) (some sa) C), (pa, aInt E 5 P), (da, aInt E 24 dr), (sa, aInt E 24 sr), (xa 20, aInt E 24 co), (xa 12, o7 r1 (some (xa 30)) T1), (xa 30, aInt E 24 cx1), (xa 13, o3 (some (xa 12)) (some (xa 31)) Q), (xa 31, aLng E 39852 kn), (xa 14, o2 (some (xa 12)) (some (xa 13)) (some (xa 32)) Y1), (xa 32, aInt E 12 pn1), (xa 9, aRef E 5 6 tk), (qa, o6 (some qi) L), (qi, aLng E 60 it)] ∧ (v = (if 0 ≤ L 0 ∧ L 0 ≠ 2 then -12 else juF C P D (kD C P D W co 0 0 0 0 1) (L 0) (L 1) 0 i it 12 0 (81 * U 2)))) := by
  refine Cm.of (by decide +kernel) (Nat.le_of_ble_eq_true rfl) (fun Γ A hl hargs hin G F => ?_)
  subst hl
  have hw5 := hwf.2.2.2.2.2.1
  have hw6 := hwf.2.2.2.2.2.2.1
  have hw7 := hwf.2.2.2.2.2.2.2
  refine j_aload_n G 0 rfl d9_judge_0 ?_
  refine j_VP G (k9_theCliffc (xl Γ) E xo xa X U ck ca (by first | assumption | omega | (simp only [upS, reduceIte, Nat.reduceEqDiff, eq_self, List.length_cons, List.length_nil, List.length_append] <;> omega)) (by first | assumption | omega | (simp only [upS, reduceIte, Nat.reduceEqDiff, eq_self, List.length_cons, List.length_nil, List.length_append] <;> omega))) mw9_theCliff ml9_107 [0, 1, 2] rfl 0 9 rfl rfl rfl ⟨Nat.le_of_ble_eq_true rfl, Nat.le_of_ble_eq_true rfl⟩ rfl (rest := []) rfl (Nat.le_of_ble_eq_true rfl) d9_judge_1 ⟨Nat.le_of_ble_eq_true rfl, Nat.le_of_ble_eq_true rfl⟩ (fun r hr => ?_)
  obtain ⟨rfl, hq1⟩ := hr
  refine j_astore_n G d9_judge_4 (by decide) rfl ?_
  refine j_iload_n G 2 rfl d9_judge_5 ?_
  refine j_SP G (k9_isNoTape (xl Γ) E t (by first | assumption | omega | (simp only [upS, reduceIte, Nat.reduceEqDiff, eq_self, List.length_cons, List.length_nil, List.length_append] <;> omega))) mw9_isNoTape ml9_270 [] rfl ⟨Nat.le_of_ble_eq_true rfl, Nat.le_of_ble_eq_true rfl⟩ rfl (rest := []) rfl (Nat.le_of_ble_eq_true rfl) d9_judge_6 ⟨Nat.le_of_ble_eq_true rfl, Nat.le_of_ble_eq_true rfl⟩ (fun r hr => ?_)
  obtain ⟨v3, rfl, hq2⟩ := hr
  rcases hq2 with ⟨hq2, rfl⟩ | ⟨hq2, rfl⟩
  ·
    refine j_if_ne (tgt := 16) G d9_judge_9 (by decide) (by decide) (fun h4 => ?_) (fun h4 => absurd h4 (by decide))
    refine j_iconst G d9_judge_16 ?_
    exact j_iret G F d9_judge_17 ⟨(-1), T, r0, Y, cx, pn, rfl, rfl, (by (exfalso; omega))⟩
  ·
    refine j_if_ne (tgt := 16) G d9_judge_9 (by decide) (by decide) (fun h5 => absurd h5 (by decide)) (fun h5 => ?_)
    refine j_aload_n G 0 rfl d9_judge_12 ?_
    refine j_ifnonnull (tgt := 18) G d9_judge_13 (by decide) ?_
    refine j_aload_n G 1 rfl d9_judge_18 ?_
    refine j_get G 0 9 9 in9 fl9_39 d9_judge_19 rfl rfl (by decide) (v := .ref (xa 9)) rfl rfl ?_
    refine j_iload_n G 2 rfl d9_judge_22 ?_
    refine j_aald G 14 5 rfl rfl (by omega) d9_judge_23 (v := .ref qa) (by rw [htk]; rfl) ?_
    refine j_astore G d9_judge_24 (by decide) rfl ?_
    refine j_aload G 0 rfl d9_judge_26 ?_
    refine j_VP G (k6_isEmpty (xl Γ) E qa qi L (by first | assumption | omega | (simp only [upS, reduceIte, Nat.reduceEqDiff, eq_self, List.length_cons, List.length_nil, List.length_append] <;> omega))) mw6_isEmpty ml9_273 [15] rfl 15 6 rfl rfl rfl ⟨Nat.le_of_ble_eq_true rfl, Nat.le_of_ble_eq_true rfl⟩ rfl (rest := []) rfl (Nat.le_of_ble_eq_true rfl) d9_judge_28 ⟨Nat.le_of_ble_eq_true rfl, Nat.le_of_ble_eq_true rfl⟩ (fun r hr => ?_)
    obtain ⟨v7, rfl, hq6⟩ := hr
    rcases hq6 with ⟨hq6, rfl⟩ | ⟨hq6, rfl⟩
    ·
      refine j_if_ne (tgt := 46) G d9_judge_31 (by decide) (by decide) (fun h8 => ?_) (fun h8 => absurd h8 (by decide))
      have hl2 : L 0 < 0 ∨ L 0 = 2 := by omega
      refine j_aload_n G 2 rfl d9_judge_46 ?_
      refine j_get G 0 9 12 in9 fl9_60 d9_judge_47 rfl rfl (by decide) (v := .ref (xa 12)) rfl rfl ?_
      refine j_aload_n G 1 rfl d9_judge_50 ?_
      refine j_aload_n G 2 rfl d9_judge_51 ?_
      refine j_get G 0 9 6 in9 fl9_30 d9_judge_52 rfl rfl (by decide) (v := .ref (xa 6)) rfl rfl ?_
      refine j_VM G (rm' := { frames := 1, cells := 0, slots := 0, locals := 60 }) (wc := [(xa 12, o7 r0 (some (xa 30)) T), (xa 30, aInt E 24 cx), (ca, o1 (some pa) (some da) (some sa) C), (pa, aInt E 5 P), (xa 6, o5 (some (xa 20)) (some (xa 21)) (some (xa 22)) (some (xa 23)) U), (xa 20, aInt E 24 co)]) (wr := [(xo, xO xa X), (xa 2, aRef E 3 4 ck), (da, aInt E 24 dr), (sa, aInt E 24 sr), (xa 13, o3 (some (xa 12)) (some (xa 31)) Q), (xa 31, aLng E 39852 kn), (xa 14, o2 (some (xa 12)) (some (xa 13)) (some (xa 32)) Y), (xa 32, aInt E 12 pn), (xa 9, aRef E 5 6 tk), (qa, o6 (some qi) L), (qi, aLng E 60 it)]) (k7_setTo (xl Γ) E (xa 12) (xa 30) r0 T ca pa da sa C P (xa 6) (xa 20) (xa 21) (xa 22) (xa 23) U co cx (by first | assumption | omega | (simp only [upS, reduceIte, Nat.reduceEqDiff, eq_self, List.length_cons, List.length_nil, List.length_append] <;> omega))) mw7_setTo ml9_197 [8, 9, 3, 4, 1, 7] [0, 2, 5, 6, 10, 11, 12, 13, 14, 15, 16] rfl rfl ⟨rfl, rfl⟩ (by decide) 8 7 rfl rfl rfl ⟨Nat.le_of_ble_eq_true rfl, Nat.le_of_ble_eq_true rfl⟩ rfl (rest := []) rfl (Nat.le_of_ble_eq_true rfl) d9_judge_55 ⟨Nat.le_of_ble_eq_true rfl, Nat.le_of_ble_eq_true rfl⟩ (fun r w1 hr => ?_)
      obtain ⟨t1_10, rfl, rfl, hq9⟩ := hr
      refine j_eq (ws' := [(xo, xO xa X), (xa 2, aRef E 3 4 ck), (da, aInt E 24 dr), (sa, aInt E 24 sr), (xa 13, o3 (some (xa 12)) (some (xa 31)) Q), (xa 31, aLng E 39852 kn), (xa 14, o2 (some (xa 12)) (some (xa 13)) (some (xa 32)) Y), (xa 32, aInt E 12 pn), (xa 9, aRef E 5 6 tk), (qa, o6 (some qi) L), (qi, aLng E 60 it), (xa 12, o7 (some ca) (some (xa 30)) (upS (upS (upS (upS (upS T 1 t1_10) 3 (C 5)) 4 (C 6)) 5 (C 7)) 6 0)), (xa 30, aInt E 24 co), (ca, o1 (some pa) (some da) (some sa) C), (pa, aInt E 5 P), (xa 6, o5 (some (xa 20)) (some (xa 21)) (some (xa 22)) (some (xa 23)) U), (xa 20, aInt E 24 co)]) rfl rfl rfl ?_
      have ht1 := hq9
      refine j_aload_n G 2 rfl d9_judge_58 ?_
      refine j_get G 0 9 14 in9 fl9_78 d9_judge_59 rfl rfl (by decide) (v := .ref (xa 14)) rfl rfl ?_
      refine j_aload G 0 rfl d9_judge_62 ?_
      refine j_iload_n G 4 rfl d9_judge_64 ?_
      refine j_aload_n G 2 rfl d9_judge_65 ?_
      refine j_get G 0 9 6 in9 fl9_30 d9_judge_66 rfl rfl (by decide) (v := .ref (xa 6)) rfl rfl ?_
      refine j_get G 15 5 2 in5 fl9_175 d9_judge_69 rfl rfl (by decide) (v := .int (iZ (U 2))) rfl rfl ?_
      refine j_VM G (rm' := { frames := 4, cells := 0, slots := 0, locals := 92 }) (wc := [(qa, o6 (some qi) L), (qi, aLng E 60 it), (xa 14, o2 (some (xa 12)) (some (xa 13)) (some (xa 32)) Y), (xa 32, aInt E 12 pn), (xa 12, o7 (some ca) (some (xa 30)) (upS (upS (upS (upS (upS T 1 t1_10) 3 (C 5)) 4 (C 6)) 5 (C 7)) 6 0)), (xa 30, aInt E 24 co), (ca, o1 (some pa) (some da) (some sa) C), (pa, aInt E 5 P), (da, aInt E 24 dr), (sa, aInt E 24 sr)]) (wr := [(xo, xO xa X), (xa 2, aRef E 3 4 ck), (xa 13, o3 (some (xa 12)) (some (xa 31)) Q), (xa 31, aLng E 39852 kn), (xa 9, aRef E 5 6 tk), (xa 6, o5 (some (xa 20)) (some (xa 21)) (some (xa 22)) (some (xa 23)) U), (xa 20, aInt E 24 co)]) (k2_faultOf (xl Γ) E qa qi L it (xa 14) (xa 32) Y (xa 13) (xa 12) (xa 30) (upS (upS (upS (upS (upS T 1 t1_10) 3 (C 5)) 4 (C 6)) 5 (C 7)) 6 0) ca pa da sa C P dr sr co (kD C P D W co 0 0 0 0 1) pn D i (U 2) (tm_k (mt := 0) (ms := 0) (msp := 0) (mp := 0) (n := 1) rfl hwf (by omega) (by omega) (by omega) (by omega) (by omega) hco (fun s a b => by have q := hDW s a b; simp only [upS, reduceIte, Nat.reduceEqDiff]; rw [ht1, Int.add_zero]; exact q) (by first | (simp only [upS, reduceIte, Nat.reduceEqDiff]; omega) | simp only [upS, reduceIte, Nat.reduceEqDiff]) (by first | (simp only [upS, reduceIte, Nat.reduceEqDiff]; omega) | simp only [upS, reduceIte, Nat.reduceEqDiff]) (by first | (simp only [upS, reduceIte, Nat.reduceEqDiff]; omega) | simp only [upS, reduceIte, Nat.reduceEqDiff]) (by first | (simp only [upS, reduceIte, Nat.reduceEqDiff]; omega) | simp only [upS, reduceIte, Nat.reduceEqDiff]) (by first | (simp only [upS, reduceIte, Nat.reduceEqDiff]; omega) | simp only [upS, reduceIte, Nat.reduceEqDiff]) (fun s a b => ⟨rfl, by have q := hco (12 + s) (by omega) (by omega); omega⟩)) (by first | assumption | omega | (simp only [upS, reduceIte, Nat.reduceEqDiff, eq_self, List.length_cons, List.length_nil, List.length_append] <;> omega)) (by first | assumption | omega | (simp only [upS, reduceIte, Nat.reduceEqDiff, eq_self, List.length_cons, List.length_nil, List.length_append] <;> omega)) (by first | assumption | omega | (simp only [upS, reduceIte, Nat.reduceEqDiff, eq_self, List.length_cons, List.length_nil, List.length_append] <;> omega)) (fun j a b => hit9 j a b hl2) (by first | assumption | omega | (simp only [upS, reduceIte, Nat.reduceEqDiff, eq_self, List.length_cons, List.length_nil, List.length_append] <;> omega)) (fun s a b => by have q := hDW s a b; simp only [upS, reduceIte, Nat.reduceEqDiff]; rw [ht1, Int.add_zero]; exact q.1)) mw2_faultOf ml9_280 [9, 10, 6, 7, 11, 12, 13, 14, 2, 3] [0, 1, 4, 5, 8, 15, 16] rfl rfl ⟨rfl, rfl⟩ (by decide) 6 2 rfl rfl rfl ⟨Nat.le_of_ble_eq_true rfl, Nat.le_of_ble_eq_true rfl⟩ rfl (rest := []) rfl (Nat.le_of_ble_eq_true rfl) d9_judge_72 ⟨Nat.le_of_ble_eq_true rfl, Nat.le_of_ble_eq_true rfl⟩ (fun r w1 hr => ?_)
      obtain ⟨v12, pn1_13, y2_14, y3_15, y4_16, y5_17, y6_18, y7_19, y8_20, y9_21, y10_22, y11_23, y12_24, y13_25, rfl, rfl, hq11⟩ := hr
      refine j_eq (ws' := [(xo, xO xa X), (xa 2, aRef E 3 4 ck), (xa 13, o3 (some (xa 12)) (some (xa 31)) Q), (xa 31, aLng E 39852 kn), (xa 9, aRef E 5 6 tk), (xa 6, o5 (some (xa 20)) (some (xa 21)) (some (xa 22)) (some (xa 23)) U), (xa 20, aInt E 24 co), (qa, o6 (some qi) L), (qi, aLng E 60 it), (xa 14, o2 (some (xa 12)) (some (xa 13)) (some (xa 32)) (upS (upS (upS (upS (upS (upS (upS (upS (upS (upS (upS (upS Y 2 y2_14) 3 y3_15) 4 y4_16) 5 y5_17) 6 y6_18) 7 y7_19) 8 y8_20) 9 y9_21) 10 y10_22) 11 y11_23) 12 y12_24) 13 y13_25)), (xa 32, aInt E 12 pn1_13), (xa 12, o7 (some ca) (some (xa 30)) (upS (upS (upS (upS (upS T 1 t1_10) 3 (C 5)) 4 (C 6)) 5 (C 7)) 6 0)), (xa 30, aInt E 24 co), (ca, o1 (some pa) (some da) (some sa) C), (pa, aInt E 5 P), (da, aInt E 24 dr), (sa, aInt E 24 sr)]) rfl rfl rfl ?_
      try simp only [upS, reduceIte, Nat.reduceEqDiff, eq_self] at hq11
      refine j_perm (ws' := [(xo, xO xa X), (xa 6, o5 (some (xa 20)) (some (xa 21)) (some (xa 22)) (some (xa 23)) U), (xa 2, aRef E 3 4 ck), (ca, o1 (some pa) (some da) (some sa) C), (pa, aInt E 5 P), (da, aInt E 24 dr), (sa, aInt E 24 sr), (xa 20, aInt E 24 co), (xa 12, o7 (some ca) (some (xa 30)) (upS (upS (upS (upS (upS T 1 t1_10) 3 (C 5)) 4 (C 6)) 5 (C 7)) 6 0)), (xa 30, aInt E 24 co), (xa 13, o3 (some (xa 12)) (some (xa 31)) Q), (xa 31, aLng E 39852 kn), (xa 14, o2 (some (xa 12)) (some (xa 13)) (some (xa 32)) (upS (upS (upS (upS (upS (upS (upS (upS (upS (upS (upS (upS Y 2 y2_14) 3 y3_15) 4 y4_16) 5 y5_17) 6 y6_18) 7 y7_19) 8 y8_20) 9 y9_21) 10 y10_22) 11 y11_23) 12 y12_24) 13 y13_25)), (xa 32, aInt E 12 pn1_13), (xa 9, aRef E 5 6 tk), (qa, o6 (some qi) L), (qi, aLng E 60 it)]) [0, 5, 1, 13, 14, 15, 16, 6, 11, 12, 2, 3, 9, 10, 4, 7, 8] rfl rfl rfl ?_
      exact j_iret G F d9_judge_75 ⟨v12, (upS (upS (upS (upS (upS T 1 t1_10) 3 (C 5)) 4 (C 6)) 5 (C 7)) 6 0), (some ca), (upS (upS (upS (upS (upS (upS (upS (upS (upS (upS (upS (upS Y 2 y2_14) 3 y3_15) 4 y4_16) 5 y5_17) 6 y6_18) 7 y7_19) 8 y8_20) 9 y9_21) 10 y10_22) 11 y11_23) 12 y12_24) 13 y13_25), co, pn1_13, rfl, rfl, (by first | (rw [if_pos (by omega)]; done) | (rw [if_neg (by omega)]; assumption))⟩
    ·
      refine j_if_ne (tgt := 46) G d9_judge_31 (by decide) (by decide) (fun h26 => absurd h26 (by decide)) (fun h26 => ?_)
      refine j_aload G 0 rfl d9_judge_34 ?_
      refine j_get G 15 6 0 in6 fl9_277 d9_judge_36 rfl rfl (by decide) (v := .int (iZ (L 0))) rfl rfl ?_
      refine j_iconst G d9_judge_39 ?_
      refine j_icmp_eq (tgt := 46) G d9_judge_40 (by decide) (by omega) (by decide) (fun h27 => ?_) (fun h27 => ?_)
      ·
        have hl2 : L 0 < 0 ∨ L 0 = 2 := by omega
        refine j_aload_n G 2 rfl d9_judge_46 ?_
        refine j_get G 0 9 12 in9 fl9_60 d9_judge_47 rfl rfl (by decide) (v := .ref (xa 12)) rfl rfl ?_
        refine j_aload_n G 1 rfl d9_judge_50 ?_
        refine j_aload_n G 2 rfl d9_judge_51 ?_
        refine j_get G 0 9 6 in9 fl9_30 d9_judge_52 rfl rfl (by decide) (v := .ref (xa 6)) rfl rfl ?_
        refine j_VM G (rm' := { frames := 1, cells := 0, slots := 0, locals := 60 }) (wc := [(xa 12, o7 r0 (some (xa 30)) T), (xa 30, aInt E 24 cx), (ca, o1 (some pa) (some da) (some sa) C), (pa, aInt E 5 P), (xa 6, o5 (some (xa 20)) (some (xa 21)) (some (xa 22)) (some (xa 23)) U), (xa 20, aInt E 24 co)]) (wr := [(xo, xO xa X), (xa 2, aRef E 3 4 ck), (da, aInt E 24 dr), (sa, aInt E 24 sr), (xa 13, o3 (some (xa 12)) (some (xa 31)) Q), (xa 31, aLng E 39852 kn), (xa 14, o2 (some (xa 12)) (some (xa 13)) (some (xa 32)) Y), (xa 32, aInt E 12 pn), (xa 9, aRef E 5 6 tk), (qa, o6 (some qi) L), (qi, aLng E 60 it)]) (k7_setTo (xl Γ) E (xa 12) (xa 30) r0 T ca pa da sa C P (xa 6) (xa 20) (xa 21) (xa 22) (xa 23) U co cx (by first | assumption | omega | (simp only [upS, reduceIte, Nat.reduceEqDiff, eq_self, List.length_cons, List.length_nil, List.length_append] <;> omega))) mw7_setTo ml9_197 [8, 9, 3, 4, 1, 7] [0, 2, 5, 6, 10, 11, 12, 13, 14, 15, 16] rfl rfl ⟨rfl, rfl⟩ (by decide) 8 7 rfl rfl rfl ⟨Nat.le_of_ble_eq_true rfl, Nat.le_of_ble_eq_true rfl⟩ rfl (rest := []) rfl (Nat.le_of_ble_eq_true rfl) d9_judge_55 ⟨Nat.le_of_ble_eq_true rfl, Nat.le_of_ble_eq_true rfl⟩ (fun r w1 hr => ?_)
        obtain ⟨t1_29, rfl, rfl, hq28⟩ := hr
        refine j_eq (ws' := [(xo, xO xa X), (xa 2, aRef E 3 4 ck), (da, aInt E 24 dr), (sa, aInt E 24 sr), (xa 13, o3 (some (xa 12)) (some (xa 31)) Q), (xa 31, aLng E 39852 kn), (xa 14, o2 (some (xa 12)) (some (xa 13)) (some (xa 32)) Y), (xa 32, aInt E 12 pn), (xa 9, aRef E 5 6 tk), (qa, o6 (some qi) L), (qi, aLng E 60 it), (xa 12, o7 (some ca) (some (xa 30)) (upS (upS (upS (upS (upS T 1 t1_29) 3 (C 5)) 4 (C 6)) 5 (C 7)) 6 0)), (xa 30, aInt E 24 co), (ca, o1 (some pa) (some da) (some sa) C), (pa, aInt E 5 P), (xa 6, o5 (some (xa 20)) (some (xa 21)) (some (xa 22)) (some (xa 23)) U), (xa 20, aInt E 24 co)]) rfl rfl rfl ?_
        have ht1 := hq28
        refine j_aload_n G 2 rfl d9_judge_58 ?_
        refine j_get G 0 9 14 in9 fl9_78 d9_judge_59 rfl rfl (by decide) (v := .ref (xa 14)) rfl rfl ?_
        refine j_aload G 0 rfl d9_judge_62 ?_
        refine j_iload_n G 4 rfl d9_judge_64 ?_
        refine j_aload_n G 2 rfl d9_judge_65 ?_
        refine j_get G 0 9 6 in9 fl9_30 d9_judge_66 rfl rfl (by decide) (v := .ref (xa 6)) rfl rfl ?_
        refine j_get G 15 5 2 in5 fl9_175 d9_judge_69 rfl rfl (by decide) (v := .int (iZ (U 2))) rfl rfl ?_
        refine j_VM G (rm' := { frames := 4, cells := 0, slots := 0, locals := 92 }) (wc := [(qa, o6 (some qi) L), (qi, aLng E 60 it), (xa 14, o2 (some (xa 12)) (some (xa 13)) (some (xa 32)) Y), (xa 32, aInt E 12 pn), (xa 12, o7 (some ca) (some (xa 30)) (upS (upS (upS (upS (upS T 1 t1_29) 3 (C 5)) 4 (C 6)) 5 (C 7)) 6 0)), (xa 30, aInt E 24 co), (ca, o1 (some pa) (some da) (some sa) C), (pa, aInt E 5 P), (da, aInt E 24 dr), (sa, aInt E 24 sr)]) (wr := [(xo, xO xa X), (xa 2, aRef E 3 4 ck), (xa 13, o3 (some (xa 12)) (some (xa 31)) Q), (xa 31, aLng E 39852 kn), (xa 9, aRef E 5 6 tk), (xa 6, o5 (some (xa 20)) (some (xa 21)) (some (xa 22)) (some (xa 23)) U), (xa 20, aInt E 24 co)]) (k2_faultOf (xl Γ) E qa qi L it (xa 14) (xa 32) Y (xa 13) (xa 12) (xa 30) (upS (upS (upS (upS (upS T 1 t1_29) 3 (C 5)) 4 (C 6)) 5 (C 7)) 6 0) ca pa da sa C P dr sr co (kD C P D W co 0 0 0 0 1) pn D i (U 2) (tm_k (mt := 0) (ms := 0) (msp := 0) (mp := 0) (n := 1) rfl hwf (by omega) (by omega) (by omega) (by omega) (by omega) hco (fun s a b => by have q := hDW s a b; simp only [upS, reduceIte, Nat.reduceEqDiff]; rw [ht1, Int.add_zero]; exact q) (by first | (simp only [upS, reduceIte, Nat.reduceEqDiff]; omega) | simp only [upS, reduceIte, Nat.reduceEqDiff]) (by first | (simp only [upS, reduceIte, Nat.reduceEqDiff]; omega) | simp only [upS, reduceIte, Nat.reduceEqDiff]) (by first | (simp only [upS, reduceIte, Nat.reduceEqDiff]; omega) | simp only [upS, reduceIte, Nat.reduceEqDiff]) (by first | (simp only [upS, reduceIte, Nat.reduceEqDiff]; omega) | simp only [upS, reduceIte, Nat.reduceEqDiff]) (by first | (simp only [upS, reduceIte, Nat.reduceEqDiff]; omega) | simp only [upS, reduceIte, Nat.reduceEqDiff]) (fun s a b => ⟨rfl, by have q := hco (12 + s) (by omega) (by omega); omega⟩)) (by first | assumption | omega | (simp only [upS, reduceIte, Nat.reduceEqDiff, eq_self, List.length_cons, List.length_nil, List.length_append] <;> omega)) (by first | assumption | omega | (simp only [upS, reduceIte, Nat.reduceEqDiff, eq_self, List.length_cons, List.length_nil, List.length_append] <;> omega)) (by first | assumption | omega | (simp only [upS, reduceIte, Nat.reduceEqDiff, eq_self, List.length_cons, List.length_nil, List.length_append] <;> omega)) (fun j a b => hit9 j a b hl2) (by first | assumption | omega | (simp only [upS, reduceIte, Nat.reduceEqDiff, eq_self, List.length_cons, List.length_nil, List.length_append] <;> omega)) (fun s a b => by have q := hDW s a b; simp only [upS, reduceIte, Nat.reduceEqDiff]; rw [ht1, Int.add_zero]; exact q.1)) mw2_faultOf ml9_280 [9, 10, 6, 7, 11, 12, 13, 14, 2, 3] [0, 1, 4, 5, 8, 15, 16] rfl rfl ⟨rfl, rfl⟩ (by decide) 6 2 rfl rfl rfl ⟨Nat.le_of_ble_eq_true rfl, Nat.le_of_ble_eq_true rfl⟩ rfl (rest := []) rfl (Nat.le_of_ble_eq_true rfl) d9_judge_72 ⟨Nat.le_of_ble_eq_true rfl, Nat.le_of_ble_eq_true rfl⟩ (fun r w1 hr => ?_)
        obtain ⟨v31, pn1_32, y2_33, y3_34, y4_35, y5_36, y6_37, y7_38, y8_39, y9_40, y10_41, y11_42, y12_43, y13_44, rfl, rfl, hq30⟩ := hr
        refine j_eq (ws' := [(xo, xO xa X), (xa 2, aRef E 3 4 ck), (xa 13, o3 (some (xa 12)) (some (xa 31)) Q), (xa 31, aLng E 39852 kn), (xa 9, aRef E 5 6 tk), (xa 6, o5 (some (xa 20)) (some (xa 21)) (some (xa 22)) (some (xa 23)) U), (xa 20, aInt E 24 co), (qa, o6 (some qi) L), (qi, aLng E 60 it), (xa 14, o2 (some (xa 12)) (some (xa 13)) (some (xa 32)) (upS (upS (upS (upS (upS (upS (upS (upS (upS (upS (upS (upS Y 2 y2_33) 3 y3_34) 4 y4_35) 5 y5_36) 6 y6_37) 7 y7_38) 8 y8_39) 9 y9_40) 10 y10_41) 11 y11_42) 12 y12_43) 13 y13_44)), (xa 32, aInt E 12 pn1_32), (xa 12, o7 (some ca) (some (xa 30)) (upS (upS (upS (upS (upS T 1 t1_29) 3 (C 5)) 4 (C 6)) 5 (C 7)) 6 0)), (xa 30, aInt E 24 co), (ca, o1 (some pa) (some da) (some sa) C), (pa, aInt E 5 P), (da, aInt E 24 dr), (sa, aInt E 24 sr)]) rfl rfl rfl ?_
        try simp only [upS, reduceIte, Nat.reduceEqDiff, eq_self] at hq30
        refine j_perm (ws' := [(xo, xO xa X), (xa 6, o5 (some (xa 20)) (some (xa 21)) (some (xa 22)) (some (xa 23)) U), (xa 2, aRef E 3 4 ck), (ca, o1 (some pa) (some da) (some sa) C), (pa, aInt E 5 P), (da, aInt E 24 dr), (sa, aInt E 24 sr), (xa 20, aInt E 24 co), (xa 12, o7 (some ca) (some (xa 30)) (upS (upS (upS (upS (upS T 1 t1_29) 3 (C 5)) 4 (C 6)) 5 (C 7)) 6 0)), (xa 30, aInt E 24 co), (xa 13, o3 (some (xa 12)) (some (xa 31)) Q), (xa 31, aLng E 39852 kn), (xa 14, o2 (some (xa 12)) (some (xa 13)) (some (xa 32)) (upS (upS (upS (upS (upS (upS (upS (upS (upS (upS (upS (upS Y 2 y2_33) 3 y3_34) 4 y4_35) 5 y5_36) 6 y6_37) 7 y7_38) 8 y8_39) 9 y9_40) 10 y10_41) 11 y11_42) 12 y12_43) 13 y13_44)), (xa 32, aInt E 12 pn1_32), (xa 9, aRef E 5 6 tk), (qa, o6 (some qi) L), (qi, aLng E 60 it)]) [0, 5, 1, 13, 14, 15, 16, 6, 11, 12, 2, 3, 9, 10, 4, 7, 8] rfl rfl rfl ?_
        exact j_iret G F d9_judge_75 ⟨v31, (upS (upS (upS (upS (upS T 1 t1_29) 3 (C 5)) 4 (C 6)) 5 (C 7)) 6 0), (some ca), (upS (upS (upS (upS (upS (upS (upS (upS (upS (upS (upS (upS Y 2 y2_33) 3 y3_34) 4 y4_35) 5 y5_36) 6 y6_37) 7 y7_38) 8 y8_39) 9 y9_40) 10 y10_41) 11 y11_42) 12 y12_43) 13 y13_44), co, pn1_32, rfl, rfl, (by first | (rw [if_pos (by omega)]; done) | (rw [if_neg (by omega)]; assumption))⟩
      ·
        refine j_bipush G d9_judge_43 rfl ?_
        exact j_iret G F d9_judge_45 ⟨(-12), T, r0, Y, cx, pn, rfl, rfl, (by first | (rw [if_pos (by omega)]; done) | (rw [if_neg (by omega)]; assumption))⟩
