theorem tm_k {K : Dy} {T C : Nat → Int} {P dr sr co co' D W : Int → Int} {mt ms msp mp n : Int} (hK : K = kD C P D W co mt ms msp mp n) (hw : wfC C P) (h1 : 0 ≤ mt) (h2 : 0 ≤ ms) (h3 : 0 ≤ msp ∧ msp ≤ 80) (h4 : 0 ≤ mp) (hn : 0 ≤ n) (hco : ∀ j, 0 ≤ j → j < 24 → 0 ≤ co j ∧ co j ≤ 6) (hDW : ∀ s, 0 ≤ s → s ≤ 11 → dr (T 1 + s) = D s ∧ sr (T 1 + s) = W s ∧ (0 ≤ D s ∧ D s ≤ 11988) ∧ (0 ≤ W s ∧ W s ≤ 11988)) (t1 : T 1 = 0 ∨ T 1 = 12) (t3 : T 3 = min 60 (C 5 + mt)) (t4 : T 4 = min 6 (C 6 + ms)) (t5 : T 5 = min 40 (C 7 + mp)) (t6 : T 6 = msp) (hc : ∀ s, 0 ≤ s → s ≤ 11 → co' s = co s ∧ co' (12 + s) = min 6 (n * co (12 + s))) : TmK K T C P dr sr co' := by
  subst hK
  refine ⟨⟨t3, t4, t5, t1, by omega, by omega⟩, okD_k hw h1 h2 h3 h4 hn (fun s a b => (hDW s a b).2.2.2) hco, hw, fun s a b => ?_⟩
  obtain ⟨q1, q2, q3, q4⟩ := hDW s a b
  obtain ⟨c1, c2⟩ := hc s a b
  refine ⟨by omega, ?_, c1, c2, by omega, fun d u _ _ _ _ => ?_⟩
  · show sr (T 1 + s) + T 6 = W s + msp; omega
  · show lF C P (dr (T 1 + s)) (d - u) (T 3) = lF C P (D s) (d - u) (min 60 (C 5 + mt))
    rw [q1, t3]
theorem d7_setTo_0 : decode c7_setTo 0 = .ok (.aload_n 0, 1) := by decide +kernel
theorem d7_setTo_1 : decode c7_setTo 1 = .ok (.aload_n 1, 1) := by decide +kernel
theorem d7_setTo_2 : decode c7_setTo 2 = .ok (.putfield 12, 3) := by decide +kernel
theorem d7_setTo_5 : decode c7_setTo 5 = .ok (.aload_n 0, 1) := by decide +kernel
theorem d7_setTo_6 : decode c7_setTo 6 = .ok (.aload_n 2, 1) := by decide +kernel
theorem d7_setTo_7 : decode c7_setTo 7 = .ok (.iconst 0, 1) := by decide +kernel
theorem d7_setTo_8 : decode c7_setTo 8 = .ok (.invokevirtual 22, 3) := by decide +kernel
theorem d7_setTo_11 : decode c7_setTo 11 = .ok (.putfield 28, 3) := by decide +kernel
theorem d7_setTo_14 : decode c7_setTo 14 = .ok (.aload_n 2, 1) := by decide +kernel
theorem d7_setTo_15 : decode c7_setTo 15 = .ok (.getfield 32, 3) := by decide +kernel
theorem d7_setTo_18 : decode c7_setTo 18 = .ok (.iconst 0, 1) := by decide +kernel
theorem d7_setTo_19 : decode c7_setTo 19 = .ok (.aload_n 0, 1) := by decide +kernel
theorem d7_setTo_20 : decode c7_setTo 20 = .ok (.getfield 18, 3) := by decide +kernel
theorem d7_setTo_23 : decode c7_setTo 23 = .ok (.iconst 0, 1) := by decide +kernel
theorem d7_setTo_24 : decode c7_setTo 24 = .ok (.aload_n 0, 1) := by decide +kernel
theorem d7_setTo_25 : decode c7_setTo 25 = .ok (.getfield 18, 3) := by decide +kernel
theorem d7_setTo_28 : decode c7_setTo 28 = .ok (.arraylength, 1) := by decide +kernel
theorem d7_setTo_29 : decode c7_setTo 29 = .ok (.invokestatic 33, 3) := by decide +kernel
theorem d7_setTo_32 : decode c7_setTo 32 = .ok (.aload_n 0, 1) := by decide +kernel
theorem d7_setTo_33 : decode c7_setTo 33 = .ok (.aload_n 1, 1) := by decide +kernel
theorem d7_setTo_34 : decode c7_setTo 34 = .ok (.getfield 39, 3) := by decide +kernel
theorem d7_setTo_37 : decode c7_setTo 37 = .ok (.putfield 42, 3) := by decide +kernel
theorem d7_setTo_40 : decode c7_setTo 40 = .ok (.aload_n 0, 1) := by decide +kernel
theorem d7_setTo_41 : decode c7_setTo 41 = .ok (.aload_n 1, 1) := by decide +kernel
theorem d7_setTo_42 : decode c7_setTo 42 = .ok (.getfield 43, 3) := by decide +kernel
theorem d7_setTo_45 : decode c7_setTo 45 = .ok (.putfield 46, 3) := by decide +kernel
theorem d7_setTo_48 : decode c7_setTo 48 = .ok (.aload_n 0, 1) := by decide +kernel
theorem d7_setTo_49 : decode c7_setTo 49 = .ok (.aload_n 1, 1) := by decide +kernel
theorem d7_setTo_50 : decode c7_setTo 50 = .ok (.getfield 47, 3) := by decide +kernel
theorem d7_setTo_53 : decode c7_setTo 53 = .ok (.putfield 50, 3) := by decide +kernel
theorem d7_setTo_56 : decode c7_setTo 56 = .ok (.aload_n 0, 1) := by decide +kernel
theorem d7_setTo_57 : decode c7_setTo 57 = .ok (.iconst 0, 1) := by decide +kernel
theorem d7_setTo_58 : decode c7_setTo 58 = .ok (.putfield 51, 3) := by decide +kernel
theorem d7_setTo_61 : decode c7_setTo 61 = .ok (.return_, 1) := by decide +kernel
theorem mw7_setTo : MV y7_setTo c7_setTo 3 none 2 := ⟨cd7_setTo, ini7, na7_setTo, im7_setTo, se7_setTo⟩
set_option maxHeartbeats 4000000 in
set_option maxRecDepth 100000 in
theorem k7_setTo (l : Launch) (E : En) (ta : Nat) (oa : Nat) (r0 : Option Nat) (T : Nat → Int) (ca : Nat) (pa : Nat) (da : Nat) (sa : Nat) (C : Nat → Int) (P : Int → Int) (sA : Nat) (sC : Nat) (sS : Nat) (sZ : Nat) (sP : Nat) (U : Nat → Int) (co : Int → Int) (cx : Int → Int) (hw : U 1 = 0 ∨ U 1 = 1) : Cm l E y7_setTo c7_setTo 3 none { frames := 1, cells := 0, slots := 0, locals := 60 } [.ref ta, .ref ca, .ref sA] [(ta, o7 r0 (some oa) T), (oa, aInt E 24 cx), (ca, o1 (some pa) (some da) (some sa) C), (pa, aInt E 5 P), (sA, o5 (some sC) (some sS) (some sZ) (some sP) U), (sC, aInt E 24 co)] (fun r ws => ∃ (t1 : Int), r = none ∧ ws = [(ta, o7 (some ca) (some oa) (upS (upS (upS (upS (upS T 1 t1) 3 (C 5)) 4 (C 6)) 5 (C 7)) 6 0)), (oa, aInt E 24 co), (ca, o1 (some pa) (some da) (some sa) C), (pa, aInt E 5 P), (sA, o5 (some sC) (some sS) (some sZ) (some sP) U), (sC, aInt E 24 co)] ∧ (t1 = 12 * U 1 + 0)) := by
  refine Cm.of (by decide +kernel) (Nat.le_of_ble_eq_true rfl) (fun Γ A hl hargs hin G F => ?_)
  subst hl
  refine j_aload_n G 0 rfl d7_setTo_0 ?_
  refine j_aload_n G 1 rfl d7_setTo_1 ?_
  refine j_put G 0 7 0 in7 tyok7 nm7 fl7_12 d7_setTo_2 rfl rfl (by decide) ⟨rfl, rfl⟩ rfl rfl (Nat.le_of_ble_eq_true rfl) (e := o7 (some ca) (some oa) T) rfl ?_
  refine j_aload_n G 0 rfl d7_setTo_5 ?_
  refine j_aload_n G 2 rfl d7_setTo_6 ?_
  refine j_iconst G d7_setTo_7 ?_
  refine j_VP G (k5_momentOf (xl Γ) E sA sC sS sZ sP U 0 (by first | assumption | omega | (simp only [upS, reduceIte, Nat.reduceEqDiff, eq_self, List.length_cons, List.length_nil, List.length_append] <;> omega))) mw5_momentOf ml7_22 [4] rfl 4 5 rfl rfl rfl ⟨Nat.le_of_ble_eq_true rfl, Nat.le_of_ble_eq_true rfl⟩ rfl (rest := [.ref ta]) rfl (Nat.le_of_ble_eq_true rfl) d7_setTo_8 ⟨Nat.le_of_ble_eq_true rfl, Nat.le_of_ble_eq_true rfl⟩ (fun r hr => ?_)
  obtain ⟨v2, rfl, hq1⟩ := hr
  refine j_put G 0 7 1 in7 tyok7 nm7 fl7_28 d7_setTo_11 rfl rfl (by decide) ⟨rfl, rfl⟩ rfl rfl (Nat.le_of_ble_eq_true rfl) (e := o7 (some ca) (some oa) (upS T 1 v2)) rfl ?_
  refine j_aload_n G 2 rfl d7_setTo_14 ?_
  refine j_get G 4 5 0 in5 fl7_32 d7_setTo_15 rfl rfl (by decide) (v := .ref sC) rfl rfl ?_
  refine j_iconst G d7_setTo_18 ?_
  refine j_aload_n G 0 rfl d7_setTo_19 ?_
  refine j_get G 0 7 2 in7 fl7_18 d7_setTo_20 rfl rfl (by decide) (v := .ref oa) rfl rfl ?_
  refine j_iconst G d7_setTo_23 ?_
  refine j_aload_n G 0 rfl d7_setTo_24 ?_
  refine j_get G 0 7 2 in7 fl7_18 d7_setTo_25 rfl rfl (by decide) (v := .ref oa) rfl rfl ?_
  refine j_alen G 1 rfl d7_setTo_28 ?_
  refine j_copyI G 5 1 rfl rfl (by omega) co (fun j h1 h2 => by rw [if_pos (by omega)]; congr 1; omega) ml7_33 ⟨Nat.le_of_ble_eq_true rfl, Nat.le_of_ble_eq_true rfl⟩ d7_setTo_29 ?_
  refine j_aload_n G 0 rfl d7_setTo_32 ?_
  refine j_aload_n G 1 rfl d7_setTo_33 ?_
  refine j_get G 2 1 5 in1 fl7_39 d7_setTo_34 rfl rfl (by decide) (v := .int (iZ (C 5))) rfl rfl ?_
  refine j_put G 0 7 3 in7 tyok7 nm7 fl7_42 d7_setTo_37 rfl rfl (by decide) ⟨rfl, rfl⟩ rfl rfl (Nat.le_of_ble_eq_true rfl) (e := o7 (some ca) (some oa) (upS (upS T 1 v2) 3 (C 5))) rfl ?_
  refine j_aload_n G 0 rfl d7_setTo_40 ?_
  refine j_aload_n G 1 rfl d7_setTo_41 ?_
  refine j_get G 2 1 6 in1 fl7_43 d7_setTo_42 rfl rfl (by decide) (v := .int (iZ (C 6))) rfl rfl ?_
  refine j_put G 0 7 4 in7 tyok7 nm7 fl7_46 d7_setTo_45 rfl rfl (by decide) ⟨rfl, rfl⟩ rfl rfl (Nat.le_of_ble_eq_true rfl) (e := o7 (some ca) (some oa) (upS (upS (upS T 1 v2) 3 (C 5)) 4 (C 6))) rfl ?_
  refine j_aload_n G 0 rfl d7_setTo_48 ?_
  refine j_aload_n G 1 rfl d7_setTo_49 ?_
  refine j_get G 2 1 7 in1 fl7_47 d7_setTo_50 rfl rfl (by decide) (v := .int (iZ (C 7))) rfl rfl ?_
  refine j_put G 0 7 5 in7 tyok7 nm7 fl7_50 d7_setTo_53 rfl rfl (by decide) ⟨rfl, rfl⟩ rfl rfl (Nat.le_of_ble_eq_true rfl) (e := o7 (some ca) (some oa) (upS (upS (upS (upS T 1 v2) 3 (C 5)) 4 (C 6)) 5 (C 7))) rfl ?_
  refine j_aload_n G 0 rfl d7_setTo_56 ?_
  refine j_iconst G d7_setTo_57 ?_
  refine j_put G 0 7 6 in7 tyok7 nm7 fl7_51 d7_setTo_58 rfl rfl (by decide) ⟨rfl, rfl⟩ rfl rfl (Nat.le_of_ble_eq_true rfl) (e := o7 (some ca) (some oa) (upS (upS (upS (upS (upS T 1 v2) 3 (C 5)) 4 (C 6)) 5 (C 7)) 6 0)) rfl ?_
  exact j_vret G F d7_setTo_61 ⟨v2, rfl, rfl, (by omega)⟩
theorem d5_priceOf_0 : decode c5_priceOf 0 = .ok (.iconst 0, 1) := by decide +kernel
theorem d5_priceOf_1 : decode c5_priceOf 1 = .ok (.istore_n 2, 1) := by decide +kernel
theorem d5_priceOf_2 : decode c5_priceOf 2 = .ok (.iconst 0, 1) := by decide +kernel
theorem d5_priceOf_3 : decode c5_priceOf 3 = .ok (.istore_n 3, 1) := by decide +kernel
theorem d5_priceOf_4 : decode c5_priceOf 4 = .ok (.iload_n 3, 1) := by decide +kernel
theorem d5_priceOf_5 : decode c5_priceOf 5 = .ok (.aload_n 0, 1) := by decide +kernel
theorem d5_priceOf_6 : decode c5_priceOf 6 = .ok (.getfield 41, 3) := by decide +kernel
theorem d5_priceOf_9 : decode c5_priceOf 9 = .ok (.if_icmp .ge 24, 3) := by decide +kernel
theorem d5_priceOf_12 : decode c5_priceOf 12 = .ok (.iload_n 2, 1) := by decide +kernel
theorem d5_priceOf_13 : decode c5_priceOf 13 = .ok (.iload_n 1, 1) := by decide +kernel
theorem d5_priceOf_14 : decode c5_priceOf 14 = .ok (.iload_n 3, 1) := by decide +kernel
theorem d5_priceOf_15 : decode c5_priceOf 15 = .ok (.ishr, 1) := by decide +kernel
theorem d5_priceOf_16 : decode c5_priceOf 16 = .ok (.iconst 1, 1) := by decide +kernel
theorem d5_priceOf_17 : decode c5_priceOf 17 = .ok (.iand, 1) := by decide +kernel
theorem d5_priceOf_18 : decode c5_priceOf 18 = .ok (.aload_n 0, 1) := by decide +kernel
theorem d5_priceOf_19 : decode c5_priceOf 19 = .ok (.getfield 25, 3) := by decide +kernel
theorem d5_priceOf_22 : decode c5_priceOf 22 = .ok (.iload_n 3, 1) := by decide +kernel
theorem d5_priceOf_23 : decode c5_priceOf 23 = .ok (.iaload, 1) := by decide +kernel
theorem d5_priceOf_24 : decode c5_priceOf 24 = .ok (.imul, 1) := by decide +kernel
theorem d5_priceOf_25 : decode c5_priceOf 25 = .ok (.iadd, 1) := by decide +kernel
theorem d5_priceOf_26 : decode c5_priceOf 26 = .ok (.istore_n 2, 1) := by decide +kernel
theorem d5_priceOf_27 : decode c5_priceOf 27 = .ok (.iinc 3 1, 3) := by decide +kernel
theorem d5_priceOf_30 : decode c5_priceOf 30 = .ok (.goto (-26), 3) := by decide +kernel
theorem d5_priceOf_33 : decode c5_priceOf 33 = .ok (.iload_n 2, 1) := by decide +kernel
theorem d5_priceOf_34 : decode c5_priceOf 34 = .ok (.ireturn, 1) := by decide +kernel
theorem mw5_priceOf : MV y5_priceOf c5_priceOf 4 (some .int) 1 := ⟨cd5_priceOf, ini5, na5_priceOf, im5_priceOf, se5_priceOf⟩
set_option maxHeartbeats 4000000 in
set_option maxRecDepth 100000 in
theorem k5_priceOf (l : Launch) (E : En) (sA : Nat) (sC : Nat) (sS : Nat) (sZ : Nat) (sP : Nat) (U : Nat → Int) (pr : Int → Int) (st : Int) (ho : 0 ≤ U 7 ∧ U 7 ≤ 4) : Cp l E y5_priceOf c5_priceOf 4 (some .int) 0 0 [.ref sA, .int (iZ st)] [(sA, o5 (some sC) (some sS) (some sZ) (some sP) U), (sP, aInt E 4 pr)] (fun r => ∃ (v : Int), r = some (.int (iZ v)) ∧ (v = prF pr st (U 7).toNat)) := by
  refine Cp.of (by decide +kernel) (Nat.le_of_ble_eq_true rfl) (fun Γ hl hargs G F => ?_)
  subst hl
  refine j_iconst G d5_priceOf_0 ?_
  refine j_istore_n G d5_priceOf_1 (by decide) rfl ?_
  refine j_iconst G d5_priceOf_2 ?_
  refine j_istore_n G d5_priceOf_3 (by decide) rfl ?_
  have lp4 : ∀ (fu : Nat) (s : Int) (k : Int), (U 7 - k).toNat < fu → (0 ≤ k ∧ k ≤ U 7) → (s = prF pr st k.toNat) →  J E 4 Γ none 0 0 [(sA, o5 (some sC) (some sS) (some sZ) (some sP) U), (sP, aInt E 4 pr)] 4 [(3, .int (iZ k)), (2, .int (iZ s)), (0, .ref sA), (1, .int (iZ st))] [] := by
    intro fu
    induction fu with
    | zero =>
      intro s k hm
      exact absurd hm (Nat.not_lt_zero _)
    | succ fu ih4 =>
      intro s k hm hk hs
      refine j_iload_n G 0 rfl d5_priceOf_4 ?_
      refine j_aload_n G 2 rfl d5_priceOf_5 ?_
      refine j_get G 0 5 7 in5 fl5_41 d5_priceOf_6 rfl rfl (by decide) (v := .int (iZ (U 7))) rfl rfl ?_
      refine j_icmp_ge (tgt := 33) G d5_priceOf_9 (by decide) (by omega) (by omega) (fun h1 => ?_) (fun h1 => ?_)
      ·
        have hke : k = U 7 := by omega
        refine j_iload_n G 1 rfl d5_priceOf_33 ?_
        exact j_iret G F d5_priceOf_34 ⟨s, rfl, (by rw [hs, hke])⟩
      ·
        refine j_iload_n G 1 rfl d5_priceOf_12 ?_
        refine j_iload_n G 3 rfl d5_priceOf_13 ?_
        refine j_iload_n G 0 rfl d5_priceOf_14 ?_
        refine r_ishr G d5_priceOf_15 ?_
        refine j_top (y := iZ (((iZ st) >>> ((iZ k) &&& 31)).toInt)) (iZ_of _).symm ?_
        refine j_iconst G d5_priceOf_16 ?_
        refine r_iand G d5_priceOf_17 ?_
        refine j_top (y := (iZ (bz st k))) (bz_top) ?_
        refine j_aload_n G 2 rfl d5_priceOf_18 ?_
        refine j_get G 0 5 6 in5 fl5_25 d5_priceOf_19 rfl rfl (by decide) (v := .ref sP) rfl rfl ?_
        refine j_iload_n G 0 rfl d5_priceOf_22 ?_
        refine j_iald G 1 rfl (by omega) d5_priceOf_23 ?_
        refine j_imul G d5_priceOf_24 ?_
        refine j_iadd G d5_priceOf_25 ?_
        refine j_istore_n G d5_priceOf_26 (by decide) rfl ?_
        refine j_iinc G d5_priceOf_27 1 rfl (by decide) rfl ?_
        refine j_goto (tgt := 4) G d5_priceOf_30 (by decide) ?_
        exact ih4 (s + ((bz st k) * (pr k))) (k + 1) (by omega) (by first | assumption | omega) (by rw [prF_s hk.1, ← hs])
  exact lp4 _ 0 0 (Nat.lt_succ_self _) (by first | assumption | omega) rfl
theorem d2_faultOf_0 : decode c2_faultOf 0 = .ok (.aload_n 0, 1) := by decide +kernel
theorem d2_faultOf_1 : decode c2_faultOf 1 = .ok (.iload_n 3, 1) := by decide +kernel
theorem d2_faultOf_2 : decode c2_faultOf 2 = .ok (.invokevirtual 35, 3) := by decide +kernel
theorem d2_faultOf_5 : decode c2_faultOf 5 = .ok (.iconst 0, 1) := by decide +kernel
theorem d2_faultOf_6 : decode c2_faultOf 6 = .ok (.istore 4, 2) := by decide +kernel
theorem d2_faultOf_8 : decode c2_faultOf 8 = .ok (.iload 4, 2) := by decide +kernel
theorem d2_faultOf_10 : decode c2_faultOf 10 = .ok (.bipush 12, 2) := by decide +kernel
theorem d2_faultOf_12 : decode c2_faultOf 12 = .ok (.if_icmp .ge 78, 3) := by decide +kernel
theorem d2_faultOf_15 : decode c2_faultOf 15 = .ok (.iload_n 2, 1) := by decide +kernel
theorem d2_faultOf_16 : decode c2_faultOf 16 = .ok (.ifCond .lt 16, 3) := by decide +kernel
theorem d2_faultOf_19 : decode c2_faultOf 19 = .ok (.aload_n 1, 1) := by decide +kernel
theorem d2_faultOf_20 : decode c2_faultOf 20 = .ok (.iload_n 2, 1) := by decide +kernel
theorem d2_faultOf_21 : decode c2_faultOf 21 = .ok (.i2l, 1) := by decide +kernel
theorem d2_faultOf_22 : decode c2_faultOf 22 = .ok (.iload 4, 2) := by decide +kernel
theorem d2_faultOf_24 : decode c2_faultOf 24 = .ok (.i2l, 1) := by decide +kernel
theorem d2_faultOf_25 : decode c2_faultOf 25 = .ok (.ladd, 1) := by decide +kernel
theorem d2_faultOf_26 : decode c2_faultOf 26 = .ok (.invokevirtual 57, 3) := by decide +kernel
theorem d2_faultOf_29 : decode c2_faultOf 29 = .ok (.ifCond .ne 9, 3) := by decide +kernel
theorem d2_faultOf_32 : decode c2_faultOf 32 = .ok (.bipush 100, 2) := by decide +kernel
theorem d2_faultOf_34 : decode c2_faultOf 34 = .ok (.iload 4, 2) := by decide +kernel
theorem d2_faultOf_36 : decode c2_faultOf 36 = .ok (.iadd, 1) := by decide +kernel
theorem d2_faultOf_37 : decode c2_faultOf 37 = .ok (.ireturn, 1) := by decide +kernel
theorem d2_faultOf_38 : decode c2_faultOf 38 = .ok (.aload_n 0, 1) := by decide +kernel
theorem d2_faultOf_39 : decode c2_faultOf 39 = .ok (.iload 4, 2) := by decide +kernel
theorem d2_faultOf_41 : decode c2_faultOf 41 = .ok (.invokevirtual 36, 3) := by decide +kernel
theorem d2_faultOf_44 : decode c2_faultOf 44 = .ok (.aload_n 1, 1) := by decide +kernel
theorem d2_faultOf_45 : decode c2_faultOf 45 = .ok (.getfield 63, 3) := by decide +kernel
theorem d2_faultOf_48 : decode c2_faultOf 48 = .ok (.iload_n 2, 1) := by decide +kernel
theorem d2_faultOf_49 : decode c2_faultOf 49 = .ok (.iload 4, 2) := by decide +kernel
theorem d2_faultOf_51 : decode c2_faultOf 51 = .ok (.iadd, 1) := by decide +kernel
theorem d2_faultOf_52 : decode c2_faultOf 52 = .ok (.laload, 1) := by decide +kernel
theorem d2_faultOf_53 : decode c2_faultOf 53 = .ok (.l2i, 1) := by decide +kernel
theorem d2_faultOf_54 : decode c2_faultOf 54 = .ok (.istore 5, 2) := by decide +kernel
theorem d2_faultOf_56 : decode c2_faultOf 56 = .ok (.iload 5, 2) := by decide +kernel
theorem d2_faultOf_58 : decode c2_faultOf 58 = .ok (.iconst (-1), 1) := by decide +kernel
theorem d2_faultOf_59 : decode c2_faultOf 59 = .ok (.if_icmp .eq 21, 3) := by decide +kernel
theorem d2_faultOf_62 : decode c2_faultOf 62 = .ok (.aload_n 0, 1) := by decide +kernel
theorem d2_faultOf_63 : decode c2_faultOf 63 = .ok (.iload 5, 2) := by decide +kernel
theorem d2_faultOf_65 : decode c2_faultOf 65 = .ok (.invokevirtual 67, 3) := by decide +kernel
theorem d2_faultOf_68 : decode c2_faultOf 68 = .ok (.ifCond .ne 6, 3) := by decide +kernel
theorem d2_faultOf_71 : decode c2_faultOf 71 = .ok (.iload 4, 2) := by decide +kernel
theorem d2_faultOf_73 : decode c2_faultOf 73 = .ok (.ireturn, 1) := by decide +kernel
theorem d2_faultOf_74 : decode c2_faultOf 74 = .ok (.aload_n 0, 1) := by decide +kernel
theorem d2_faultOf_75 : decode c2_faultOf 75 = .ok (.iload 5, 2) := by decide +kernel
theorem d2_faultOf_77 : decode c2_faultOf 77 = .ok (.invokevirtual 51, 3) := by decide +kernel
theorem d2_faultOf_80 : decode c2_faultOf 80 = .ok (.aload_n 0, 1) := by decide +kernel
theorem d2_faultOf_81 : decode c2_faultOf 81 = .ok (.invokevirtual 54, 3) := by decide +kernel
theorem d2_faultOf_84 : decode c2_faultOf 84 = .ok (.iinc 4 1, 3) := by decide +kernel
theorem d2_faultOf_87 : decode c2_faultOf 87 = .ok (.goto (-79), 3) := by decide +kernel
theorem d2_faultOf_90 : decode c2_faultOf 90 = .ok (.bipush (-5), 2) := by decide +kernel
theorem d2_faultOf_92 : decode c2_faultOf 92 = .ok (.ireturn, 1) := by decide +kernel
theorem mw2_faultOf : MV y2_faultOf c2_faultOf 6 (some .int) 3 := ⟨cd2_faultOf, ini2, na2_faultOf, im2_faultOf, se2_faultOf⟩
set_option maxHeartbeats 4000000 in
set_option maxRecDepth 100000 in
theorem k2_faultOf (l : Launch) (E : En) (qa : Nat) (qi : Nat) (L : Nat → Int) (it : Int → Int) (ya : Nat) (na : Nat) (Y : Nat → Int) (la : Nat) (ta : Nat) (oa : Nat) (T : Nat → Int) (ca : Nat) (pa : Nat) (da : Nat) (sa : Nat) (C : Nat → Int) (P : Int → Int) (dr : Int → Int) (sr : Int → Int) (co : Int → Int) (K : Dy) (pn : Int → Int) (D : Int → Int) (i : Int) (p0 : Int) (htm : TmK K T C P dr sr co) (r_i : R32 i) (hL : 0 ≤ L 1 ∧ L 1 ≤ 60) (hL0 : L 0 < 0 → L 1 = 0) (hit : ∀ j, 0 ≤ j → j < 60 → R32 (it j)) (hp0 : 0 ≤ p0 ∧ p0 ≤ 40) (hD : ∀ s, 0 ≤ s → s ≤ 11 → dr (T 1 + s) = D s) : Cm l E y2_faultOf c2_faultOf 6 (some .int) { frames := 4, cells := 0, slots := 0, locals := 92 } [.ref ya, .ref qa, .int (iZ i), .int (iZ p0)] [(qa, o6 (some qi) L), (qi, aLng E 60 it), (ya, o2 (some ta) (some la) (some na) Y), (na, aInt E 12 pn), (ta, o7 (some ca) (some oa) T), (oa, aInt E 24 co), (ca, o1 (some pa) (some da) (some sa) C), (pa, aInt E 5 P), (da, aInt E 24 dr), (sa, aInt E 24 sr)] (fun r ws => ∃ (v : Int), ∃ (pn1 : Int → Int), ∃ (y2 : Int), ∃ (y3 : Int), ∃ (y4 : Int), ∃ (y5 : Int), ∃ (y6 : Int), ∃ (y7 : Int), ∃ (y8 : Int), ∃ (y9 : Int), ∃ (y10 : Int), ∃ (y11 : Int), ∃ (y12 : Int), ∃ (y13 : Int), r = some (.int (iZ v)) ∧ ws = [(qa, o6 (some qi) L), (qi, aLng E 60 it), (ya, o2 (some ta) (some la) (some na) (upS (upS (upS (upS (upS (upS (upS (upS (upS (upS (upS (upS Y 2 y2) 3 y3) 4 y4) 5 y5) 6 y6) 7 y7) 8 y8) 9 y9) 10 y10) 11 y11) 12 y12) 13 y13)), (na, aInt E 12 pn1), (ta, o7 (some ca) (some oa) T), (oa, aInt E 24 co), (ca, o1 (some pa) (some da) (some sa) C), (pa, aInt E 5 P), (da, aInt E 24 dr), (sa, aInt E 24 sr)] ∧ (v = juF C P D K (L 0) (L 1) 0 i it 12 0 (81 * p0))) := by
  refine Cm.of (by decide +kernel) (Nat.le_of_ble_eq_true rfl) (fun Γ A hl hargs hin G F => ?_)
  subst hl
  have tok := htm.2.1
  refine j_aload_n G 0 rfl d2_faultOf_0 ?_
  refine j_iload_n G 3 rfl d2_faultOf_1 ?_
  refine j_VM G (rm' := { frames := 0, cells := 0, slots := 0, locals := 0 }) (wc := [(ya, o2 (some ta) (some la) (some na) Y)]) (wr := [(qa, o6 (some qi) L), (qi, aLng E 60 it), (na, aInt E 12 pn), (ta, o7 (some ca) (some oa) T), (oa, aInt E 24 co), (ca, o1 (some pa) (some da) (some sa) C), (pa, aInt E 5 P), (da, aInt E 24 dr), (sa, aInt E 24 sr)]) (k2_begin (xl Γ) E ya na Y ta la p0 ) mw2_begin ml2_35 [2] [0, 1, 3, 4, 5, 6, 7, 8, 9] rfl rfl ⟨rfl, rfl⟩ (by decide) 2 2 rfl rfl rfl ⟨Nat.le_of_ble_eq_true rfl, Nat.le_of_ble_eq_true rfl⟩ rfl (rest := []) rfl (Nat.le_of_ble_eq_true rfl) d2_faultOf_2 ⟨Nat.le_of_ble_eq_true rfl, Nat.le_of_ble_eq_true rfl⟩ (fun r w1 hr => ?_)
  obtain ⟨rfl, rfl, hq1⟩ := hr
  refine j_eq (ws' := [(qa, o6 (some qi) L), (qi, aLng E 60 it), (na, aInt E 12 pn), (ta, o7 (some ca) (some oa) T), (oa, aInt E 24 co), (ca, o1 (some pa) (some da) (some sa) C), (pa, aInt E 5 P), (da, aInt E 24 dr), (sa, aInt E 24 sr), (ya, o2 (some ta) (some la) (some na) (upS (upS (upS (upS (upS (upS (upS (upS Y 3 p0) 4 0) 5 0) 9 0) 10 0) 11 0) 12 0) 13 0))]) rfl rfl rfl ?_
  refine j_iconst G d2_faultOf_5 ?_
  refine j_istore G d2_faultOf_6 (by decide) rfl ?_
  refine j_eq (ws' := [(qa, o6 (some qi) L), (qi, aLng E 60 it), (na, aInt E 12 pn), (ta, o7 (some ca) (some oa) T), (oa, aInt E 24 co), (ca, o1 (some pa) (some da) (some sa) C), (pa, aInt E 5 P), (da, aInt E 24 dr), (sa, aInt E 24 sr), (ya, o2 (some ta) (some la) (some na) (upS (upS (upS (upS (upS (upS (upS (upS (upS (upS (upS (upS Y 2 (Y 2)) 3 p0) 4 0) 5 0) 6 (Y 6)) 7 (Y 7)) 8 (Y 8)) 9 0) 10 0) 11 0) 12 0) 13 0))]) rfl rfl rfl ?_
  have lp8 : ∀ (fu : Nat) (k : Int) (y2 : Int) (y3 : Int) (y4 : Int) (y5 : Int) (y6 : Int) (y7 : Int) (y8 : Int) (y9 : Int) (y10 : Int) (y11 : Int) (y12 : Int) (y13 : Int) (pq : Int → Int), (12 - k).toNat < fu → (0 ≤ k ∧ k ≤ 12) → (0 ≤ y3 ∧ y3 ≤ 40) → (0 ≤ y4 ∧ y4 ≤ 8) → (0 ≤ y5 ∧ y5 ≤ 8) → (0 ≤ y12 ∧ y12 ≤ 12 * k) → (juF C P D K (L 0) (L 1) 0 i it 12 0 (81 * p0) = juF C P D K (L 0) (L 1) 0 i it (12 - k).toNat k (81 * y3 + 9 * y4 + y5)) →  J E 6 Γ (some A) 0 0 [(qa, o6 (some qi) L), (qi, aLng E 60 it), (na, aInt E 12 pq), (ta, o7 (some ca) (some oa) T), (oa, aInt E 24 co), (ca, o1 (some pa) (some da) (some sa) C), (pa, aInt E 5 P), (da, aInt E 24 dr), (sa, aInt E 24 sr), (ya, o2 (some ta) (some la) (some na) (upS (upS (upS (upS (upS (upS (upS (upS (upS (upS (upS (upS Y 2 y2) 3 y3) 4 y4) 5 y5) 6 y6) 7 y7) 8 y8) 9 y9) 10 y10) 11 y11) 12 y12) 13 y13))] 8 [(4, .int (iZ k)), (0, .ref ya), (1, .ref qa), (2, .int (iZ i)), (3, .int (iZ p0))] [] := by
    intro fu
    induction fu with
    | zero =>
      intro k y2 y3 y4 y5 y6 y7 y8 y9 y10 y11 y12 y13 pq hm
      exact absurd hm (Nat.not_lt_zero _)
    | succ fu ih8 =>
      intro k y2 y3 y4 y5 y6 y7 y8 y9 y10 y11 y12 y13 pq hm hk hb3 hb4 hb5 hl2 hj
      refine j_iload G 0 rfl d2_faultOf_8 ?_
      refine j_bipush G d2_faultOf_10 rfl ?_
      refine j_icmp_ge (tgt := 90) G d2_faultOf_12 (by decide) (by omega) (by decide) (fun h2 => ?_) (fun h2 => ?_)
      ·
        refine j_bipush G d2_faultOf_90 rfl ?_
        refine j_perm (ws' := [(qa, o6 (some qi) L), (qi, aLng E 60 it), (ya, o2 (some ta) (some la) (some na) (upS (upS (upS (upS (upS (upS (upS (upS (upS (upS (upS (upS Y 2 y2) 3 y3) 4 y4) 5 y5) 6 y6) 7 y7) 8 y8) 9 y9) 10 y10) 11 y11) 12 y12) 13 y13)), (na, aInt E 12 pq), (ta, o7 (some ca) (some oa) T), (oa, aInt E 24 co), (ca, o1 (some pa) (some da) (some sa) C), (pa, aInt E 5 P), (da, aInt E 24 dr), (sa, aInt E 24 sr)]) [0, 1, 9, 2, 3, 4, 5, 6, 7, 8] rfl rfl rfl ?_
        exact j_iret G F d2_faultOf_92 ⟨(-5), pq, y2, y3, y4, y5, y6, y7, y8, y9, y10, y11, y12, y13, rfl, rfl, (by first | (rw [hj, juF_s, if_pos hBp]; done) | (rw [hj, juF_s, if_neg hB, if_neg hm1, if_pos hC]; done) | (rw [hj, show (12 - k).toNat = 0 by omega]; rfl))⟩
      ·
        have hks : 0 ≤ k ∧ k ≤ 11 := by omega
        have hsb : 0 ≤ (81 * y3 + 9 * y4 + y5) ∧ (81 * y3 + 9 * y4 + y5) ≤ 3320 := by omega
        have hdr := dR tok hks hsb
        have hDk := hD k hks.1 hks.2
        have hst : (12 - k).toNat = (12 - (k + 1)).toNat + 1 := by omega
        rw [hst] at hj
        refine j_iload_n G 3 rfl d2_faultOf_15 ?_
        refine j_if_lt (tgt := 32) G d2_faultOf_16 (by decide) (by omega) (fun h3 => ?_) (fun h3 => ?_)
        ·
          have hBp : L 0 < 0 ∨ i < 0 ∨ L 1 - k - 1 < i := by omega
          refine j_bipush G d2_faultOf_32 rfl ?_
          refine j_iload G 0 rfl d2_faultOf_34 ?_
          refine j_iadd G d2_faultOf_36 ?_
          refine j_perm (ws' := [(qa, o6 (some qi) L), (qi, aLng E 60 it), (ya, o2 (some ta) (some la) (some na) (upS (upS (upS (upS (upS (upS (upS (upS (upS (upS (upS (upS Y 2 y2) 3 y3) 4 y4) 5 y5) 6 y6) 7 y7) 8 y8) 9 y9) 10 y10) 11 y11) 12 y12) 13 y13)), (na, aInt E 12 pq), (ta, o7 (some ca) (some oa) T), (oa, aInt E 24 co), (ca, o1 (some pa) (some da) (some sa) C), (pa, aInt E 5 P), (da, aInt E 24 dr), (sa, aInt E 24 sr)]) [0, 1, 9, 2, 3, 4, 5, 6, 7, 8] rfl rfl rfl ?_
          exact j_iret G F d2_faultOf_37 ⟨100 + k, pq, y2, y3, y4, y5, y6, y7, y8, y9, y10, y11, y12, y13, rfl, rfl, (by first | (rw [hj, juF_s, if_pos hBp]; done) | (rw [hj, juF_s, if_neg hB, if_neg hm1, if_pos hC]; done) | (rw [hj, show (12 - k).toNat = 0 by omega]; rfl))⟩
        ·
          refine j_aload_n G 2 rfl d2_faultOf_19 ?_
          refine j_iload_n G 3 rfl d2_faultOf_20 ?_
          refine j_i2l G d2_faultOf_21 (by omega) ?_
          refine j_iload G 0 rfl d2_faultOf_22 ?_
          refine j_i2l G d2_faultOf_24 (by omega) ?_
          refine j_ladd G d2_faultOf_25 ?_
          refine j_VP G (k6_reaches (xl Γ) E qa qi L (i + k) (by first | assumption | omega | (simp only [upS, reduceIte, Nat.reduceEqDiff, eq_self, List.length_cons, List.length_nil, List.length_append] <;> omega)) (by first | assumption | omega | (simp only [upS, reduceIte, Nat.reduceEqDiff, eq_self, List.length_cons, List.length_nil, List.length_append] <;> omega))) mw6_reaches ml2_57 [0] rfl 0 6 rfl rfl rfl ⟨Nat.le_of_ble_eq_true rfl, Nat.le_of_ble_eq_true rfl⟩ rfl (rest := []) rfl (Nat.le_of_ble_eq_true rfl) d2_faultOf_26 ⟨Nat.le_of_ble_eq_true rfl, Nat.le_of_ble_eq_true rfl⟩ (fun r hr => ?_)
          obtain ⟨v5, rfl, hq4⟩ := hr
          rcases hq4 with ⟨hq4, rfl⟩ | ⟨hq4, rfl⟩
          ·
            have hs26 := hq4
            refine j_if_ne (tgt := 38) G d2_faultOf_29 (by decide) (by decide) (fun h6 => ?_) (fun h6 => absurd h6 (by decide))
            have hB : ¬ (L 0 < 0 ∨ i < 0 ∨ L 1 - k - 1 < i) := by omega
            have hir := hit (i + k) (by omega) (by omega)
            have hie : it (0 + i + k) = it (i + k) := by congr 1; omega
            refine j_aload_n G 1 rfl d2_faultOf_38 ?_
            refine j_iload G 0 rfl d2_faultOf_39 ?_
            refine j_VM G (rm' := { frames := 2, cells := 0, slots := 0, locals := 35 }) (wc := [(ya, o2 (some ta) (some la) (some na) (upS (upS (upS (upS (upS (upS (upS (upS (upS (upS (upS (upS Y 2 y2) 3 y3) 4 y4) 5 y5) 6 y6) 7 y7) 8 y8) 9 y9) 10 y10) 11 y11) 12 y12) 13 y13)), (na, aInt E 12 pq), (ta, o7 (some ca) (some oa) T), (oa, aInt E 24 co), (ca, o1 (some pa) (some da) (some sa) C), (pa, aInt E 5 P), (da, aInt E 24 dr), (sa, aInt E 24 sr)]) (wr := [(qa, o6 (some qi) L), (qi, aLng E 60 it)]) (k2_open (xl Γ) E ya na (upS (upS (upS (upS (upS (upS (upS (upS (upS (upS (upS (upS Y 2 y2) 3 y3) 4 y4) 5 y5) 6 y6) 7 y7) 8 y8) 9 y9) 10 y10) 11 y11) 12 y12) 13 y13) la ta oa T ca pa da sa C P dr sr co K pq k (by first | assumption | omega | (simp only [upS, reduceIte, Nat.reduceEqDiff, eq_self, List.length_cons, List.length_nil, List.length_append] <;> omega)) (by first | assumption | omega | (simp only [upS, reduceIte, Nat.reduceEqDiff, eq_self, List.length_cons, List.length_nil, List.length_append] <;> omega)) (by first | assumption | omega | (simp only [upS, reduceIte, Nat.reduceEqDiff, eq_self, List.length_cons, List.length_nil, List.length_append] <;> omega)) (by first | assumption | omega | (simp only [upS, reduceIte, Nat.reduceEqDiff, eq_self, List.length_cons, List.length_nil, List.length_append] <;> omega)) (by first | assumption | omega | (simp only [upS, reduceIte, Nat.reduceEqDiff, eq_self, List.length_cons, List.length_nil, List.length_append] <;> omega)) (by first | assumption | omega | (simp only [upS, reduceIte, Nat.reduceEqDiff, eq_self, List.length_cons, List.length_nil, List.length_append] <;> omega))) mw2_open ml2_36 [9, 2, 3, 4, 5, 6, 7, 8] [0, 1] rfl rfl ⟨rfl, rfl⟩ (by decide) 9 2 rfl rfl rfl ⟨Nat.le_of_ble_eq_true rfl, Nat.le_of_ble_eq_true rfl⟩ rfl (rest := []) rfl (Nat.le_of_ble_eq_true rfl) d2_faultOf_41 ⟨Nat.le_of_ble_eq_true rfl, Nat.le_of_ble_eq_true rfl⟩ (fun r w1 hr => ?_)
            obtain ⟨y3_8, y4_9, y5_10, y12_11, y6_12, y7_13, pn1_14, rfl, rfl, rfl, ⟨hq7_0, hq7_1, hq7_2, hq7_3, hq7_4, hq7_5⟩⟩ := hr
            refine j_eq (ws' := [(qa, o6 (some qi) L), (qi, aLng E 60 it), (ya, o2 (some ta) (some la) (some na) (upS (upS (upS (upS (upS (upS (upS (upS (upS (upS (upS (upS Y 8 y8) 9 y9) 10 y10) 11 y11) 13 y13) 2 k) 3 y3_8) 4 y4_9) 5 y5_10) 12 y12_11) 6 y6_12) 7 y7_13)), (na, aInt E 12 (upI pq k (-5))), (ta, o7 (some ca) (some oa) T), (oa, aInt E 24 co), (ca, o1 (some pa) (some da) (some sa) C), (pa, aInt E 5 P), (da, aInt E 24 dr), (sa, aInt E 24 sr)]) rfl rfl rfl ?_
            try simp only [upS, reduceIte, Nat.reduceEqDiff, eq_self] at hq7_0 hq7_1 hq7_2 hq7_3 hq7_4 hq7_5
            have ho3 := hq7_0
            have ho4 := hq7_1
            have ho5 := hq7_2
            have ho12 := hq7_3
            have ho6 := hq7_4
            have ho7 := hq7_5
            have ho6b : dDn K k (81 * y3 + 9 * y4 + y5) ≤ K.se := by unfold dDn; omega
            have ho7b : dUp K k (81 * y3 + 9 * y4 + y5) ≤ K.se := by unfold dUp; omega
            refine j_aload_n G 2 rfl d2_faultOf_44 ?_
            refine j_get G 0 6 2 in6 fl2_63 d2_faultOf_45 rfl rfl (by decide) (v := .ref qi) rfl rfl ?_
            refine j_iload_n G 3 rfl d2_faultOf_48 ?_
            refine j_iload G 0 rfl d2_faultOf_49 ?_
            refine j_iadd G d2_faultOf_51 ?_
            refine j_lald G 1 rfl (by omega) d2_faultOf_52 ?_
            refine j_l2i G d2_faultOf_53 ?_
            refine j_istore G d2_faultOf_54 (by decide) rfl ?_
            refine j_iload G 0 rfl d2_faultOf_56 ?_
            refine j_iconst G d2_faultOf_58 ?_
            refine j_icmp_eq (tgt := 80) G d2_faultOf_59 (by decide) (by omega) (by decide) (fun h15 => ?_) (fun h15 => ?_)
            ·
              have hjn : juF C P D K (L 0) (L 1) 0 i it 12 0 (81 * p0) = juF C P D K (L 0) (L 1) 0 i it (12 - (k + 1)).toNat (k + 1) (81 * y3_8 + 9 * y4_9 + y5_10) := (by rw [hj, juF_s, if_neg hB, if_pos (show it (0 + i + k) = -1 by omega)]; congr 1; unfold dNow; omega)
              refine j_aload_n G 2 rfl d2_faultOf_80 ?_
              refine j_VM G (rm' := { frames := 0, cells := 0, slots := 0, locals := 0 }) (wc := [(ya, o2 (some ta) (some la) (some na) (upS (upS (upS (upS (upS (upS (upS (upS (upS (upS (upS (upS Y 8 y8) 9 y9) 10 y10) 11 y11) 13 y13) 2 k) 3 y3_8) 4 y4_9) 5 y5_10) 12 y12_11) 6 y6_12) 7 y7_13))]) (wr := [(qa, o6 (some qi) L), (qi, aLng E 60 it), (na, aInt E 12 (upI pq k (-5))), (ta, o7 (some ca) (some oa) T), (oa, aInt E 24 co), (ca, o1 (some pa) (some da) (some sa) C), (pa, aInt E 5 P), (da, aInt E 24 dr), (sa, aInt E 24 sr)]) (k2_close (xl Γ) E ya na (upS (upS (upS (upS (upS (upS (upS (upS (upS (upS (upS (upS Y 8 y8) 9 y9) 10 y10) 11 y11) 13 y13) 2 k) 3 y3_8) 4 y4_9) 5 y5_10) 12 y12_11) 6 y6_12) 7 y7_13) ta la ) mw2_close ml2_54 [2] [0, 1, 3, 4, 5, 6, 7, 8, 9] rfl rfl ⟨rfl, rfl⟩ (by decide) 2 2 rfl rfl rfl ⟨Nat.le_of_ble_eq_true rfl, Nat.le_of_ble_eq_true rfl⟩ rfl (rest := []) rfl (Nat.le_of_ble_eq_true rfl) d2_faultOf_81 ⟨Nat.le_of_ble_eq_true rfl, Nat.le_of_ble_eq_true rfl⟩ (fun r w1 hr => ?_)
              obtain ⟨rfl, rfl, hq16⟩ := hr
              refine j_eq (ws' := [(qa, o6 (some qi) L), (qi, aLng E 60 it), (na, aInt E 12 (upI pq k (-5))), (ta, o7 (some ca) (some oa) T), (oa, aInt E 24 co), (ca, o1 (some pa) (some da) (some sa) C), (pa, aInt E 5 P), (da, aInt E 24 dr), (sa, aInt E 24 sr), (ya, o2 (some ta) (some la) (some na) (upS (upS (upS (upS (upS (upS (upS (upS (upS (upS (upS (upS Y 8 y8) 9 y9) 10 y10) 13 y13) 2 k) 3 y3_8) 4 y4_9) 5 y5_10) 12 y12_11) 6 y6_12) 7 y7_13) 11 (y11 + (y4_9 + y5_10))))]) rfl rfl rfl ?_
              try simp only [upS, reduceIte, Nat.reduceEqDiff, eq_self] at hq16
              refine j_iinc G d2_faultOf_84 1 rfl (by decide) rfl ?_
              refine j_goto (tgt := 8) G d2_faultOf_87 (by decide) ?_
              refine j_locs (ls' := [(4, .int (iZ (k + 1))), (0, .ref ya), (1, .ref qa), (2, .int (iZ i)), (3, .int (iZ p0))]) [0, 2, 3, 4, 5] rfl ?_
              refine j_eq (ws' := [(qa, o6 (some qi) L), (qi, aLng E 60 it), (na, aInt E 12 (upI pq k (-5))), (ta, o7 (some ca) (some oa) T), (oa, aInt E 24 co), (ca, o1 (some pa) (some da) (some sa) C), (pa, aInt E 5 P), (da, aInt E 24 dr), (sa, aInt E 24 sr), (ya, o2 (some ta) (some la) (some na) (upS (upS (upS (upS (upS (upS (upS (upS (upS (upS (upS (upS Y 2 k) 3 y3_8) 4 y4_9) 5 y5_10) 6 y6_12) 7 y7_13) 8 y8) 9 y9) 10 y10) 11 (y11 + (y4_9 + y5_10))) 12 y12_11) 13 y13))]) rfl rfl rfl ?_
              exact ih8 (k + 1) k y3_8 y4_9 y5_10 y6_12 y7_13 y8 y9 y10 (y11 + (y4_9 + y5_10)) y12_11 y13 (upI pq k (-5)) (by omega) (by first | assumption | omega) (by first | assumption | omega) (by first | assumption | omega) (by first | assumption | omega) (by first | assumption | omega) hjn
            ·
              have hm1 : ¬ it (0 + i + k) = -1 := by omega
              refine j_aload_n G 2 rfl d2_faultOf_62 ?_
              refine j_iload G 0 rfl d2_faultOf_63 ?_
              refine j_VP G (k2_tripCanBeWith (xl Γ) E ya na (upS (upS (upS (upS (upS (upS (upS (upS (upS (upS (upS (upS Y 8 y8) 9 y9) 10 y10) 11 y11) 13 y13) 2 k) 3 y3_8) 4 y4_9) 5 y5_10) 12 y12_11) 6 y6_12) 7 y7_13) la ta oa T ca pa da sa C P dr sr co K (it (i + k)) (by first | assumption | omega | (simp only [upS, reduceIte, Nat.reduceEqDiff, eq_self, List.length_cons, List.length_nil, List.length_append] <;> omega)) (by first | assumption | omega | (simp only [upS, reduceIte, Nat.reduceEqDiff, eq_self, List.length_cons, List.length_nil, List.length_append] <;> omega)) (by first | assumption | omega | (simp only [upS, reduceIte, Nat.reduceEqDiff, eq_self, List.length_cons, List.length_nil, List.length_append] <;> omega)) (by first | assumption | omega | (simp only [upS, reduceIte, Nat.reduceEqDiff, eq_self, List.length_cons, List.length_nil, List.length_append] <;> omega)) (by first | assumption | omega | (simp only [upS, reduceIte, Nat.reduceEqDiff, eq_self, List.length_cons, List.length_nil, List.length_append] <;> omega)) (by first | assumption | omega | (simp only [upS, reduceIte, Nat.reduceEqDiff, eq_self, List.length_cons, List.length_nil, List.length_append] <;> omega))) mw2_tripCanBeWith ml2_67 [2, 4, 5, 6, 7, 8, 9] rfl 2 2 rfl rfl rfl ⟨Nat.le_of_ble_eq_true rfl, Nat.le_of_ble_eq_true rfl⟩ rfl (rest := []) rfl (Nat.le_of_ble_eq_true rfl) d2_faultOf_65 ⟨Nat.le_of_ble_eq_true rfl, Nat.le_of_ble_eq_true rfl⟩ (fun r hr => ?_)
              obtain ⟨v18, rfl, hq17⟩ := hr
              try simp only [upS, reduceIte, Nat.reduceEqDiff, eq_self] at hq17
              rcases hq17 with ⟨hq17, rfl⟩ | ⟨hq17, rfl⟩
              ·
                have hs65 := hq17
                refine j_if_ne (tgt := 74) G d2_faultOf_68 (by decide) (by decide) (fun h19 => ?_) (fun h19 => absurd h19 (by decide))
                have hC : ¬ (dDn K k (81 * y3 + 9 * y4 + y5) + dUp K k (81 * y3 + 9 * y4 + y5) = 0 ∨ it (0 + i + k) < 0 ∨ K.tk < it (0 + i + k) ∨ dNow K k (81 * y3 + 9 * y4 + y5) / 81 < it (0 + i + k) ∨ stopM C P (C 3 * (dDn K k (81 * y3 + 9 * y4 + y5) - dUp K k (81 * y3 + 9 * y4 + y5)) + it (0 + i + k)) (D k) ≠ -5) := by have q := hs65; rw [ho6, ho7, hDk] at q; rw [hie]; omega
                refine j_aload_n G 2 rfl d2_faultOf_74 ?_
                refine j_iload G 0 rfl d2_faultOf_75 ?_
                refine j_VM G (rm' := { frames := 0, cells := 0, slots := 0, locals := 0 }) (wc := [(ya, o2 (some ta) (some la) (some na) (upS (upS (upS (upS (upS (upS (upS (upS (upS (upS (upS (upS Y 8 y8) 9 y9) 10 y10) 11 y11) 13 y13) 2 k) 3 y3_8) 4 y4_9) 5 y5_10) 12 y12_11) 6 y6_12) 7 y7_13)), (na, aInt E 12 (upI pq k (-5)))]) (wr := [(qa, o6 (some qi) L), (qi, aLng E 60 it), (ta, o7 (some ca) (some oa) T), (oa, aInt E 24 co), (ca, o1 (some pa) (some da) (some sa) C), (pa, aInt E 5 P), (da, aInt E 24 dr), (sa, aInt E 24 sr)]) (k2_makeTrip (xl Γ) E ya na (upS (upS (upS (upS (upS (upS (upS (upS (upS (upS (upS (upS Y 8 y8) 9 y9) 10 y10) 11 y11) 13 y13) 2 k) 3 y3_8) 4 y4_9) 5 y5_10) 12 y12_11) 6 y6_12) 7 y7_13) ta la (upI pq k (-5)) (it (i + k)) (by first | assumption | omega | (simp only [upS, reduceIte, Nat.reduceEqDiff, eq_self, List.length_cons, List.length_nil, List.length_append] <;> omega))) mw2_makeTrip ml2_51 [2, 3] [0, 1, 4, 5, 6, 7, 8, 9] rfl rfl ⟨rfl, rfl⟩ (by decide) 2 2 rfl rfl rfl ⟨Nat.le_of_ble_eq_true rfl, Nat.le_of_ble_eq_true rfl⟩ rfl (rest := []) rfl (Nat.le_of_ble_eq_true rfl) d2_faultOf_77 ⟨Nat.le_of_ble_eq_true rfl, Nat.le_of_ble_eq_true rfl⟩ (fun r w1 hr => ?_)
                obtain ⟨pn1_21, rfl, rfl, rfl, hq20⟩ := hr
                refine j_eq (ws' := [(qa, o6 (some qi) L), (qi, aLng E 60 it), (ta, o7 (some ca) (some oa) T), (oa, aInt E 24 co), (ca, o1 (some pa) (some da) (some sa) C), (pa, aInt E 5 P), (da, aInt E 24 dr), (sa, aInt E 24 sr), (ya, o2 (some ta) (some la) (some na) (upS (upS (upS (upS (upS (upS (upS (upS (upS (upS (upS (upS Y 8 y8) 11 y11) 2 k) 12 y12_11) 6 y6_12) 7 y7_13) 3 (y3_8 - (it (i + k)))) 4 (y4_9 - y6_12)) 5 (y5_10 - y7_13)) 10 (y10 + y6_12)) 9 (y9 + y7_13)) 13 (y13 + 1))), (na, aInt E 12 (upI (upI pq k (-5)) (k) (it (i + k))))]) rfl rfl rfl ?_
                try simp only [upS, reduceIte, Nat.reduceEqDiff, eq_self] at hq20
                have hjn : juF C P D K (L 0) (L 1) 0 i it 12 0 (81 * p0) = juF C P D K (L 0) (L 1) 0 i it (12 - (k + 1)).toNat (k + 1) (81 * (y3_8 - (it (i + k))) + 9 * (y4_9 - y6_12) + (y5_10 - y7_13)) := (by rw [hj, juF_s, if_neg hB, if_neg hm1, if_neg hC]; congr 1; omega)
                refine j_aload_n G 2 rfl d2_faultOf_80 ?_
                refine j_VM G (rm' := { frames := 0, cells := 0, slots := 0, locals := 0 }) (wc := [(ya, o2 (some ta) (some la) (some na) (upS (upS (upS (upS (upS (upS (upS (upS (upS (upS (upS (upS Y 8 y8) 11 y11) 2 k) 12 y12_11) 6 y6_12) 7 y7_13) 3 (y3_8 - (it (i + k)))) 4 (y4_9 - y6_12)) 5 (y5_10 - y7_13)) 10 (y10 + y6_12)) 9 (y9 + y7_13)) 13 (y13 + 1)))]) (wr := [(qa, o6 (some qi) L), (qi, aLng E 60 it), (ta, o7 (some ca) (some oa) T), (oa, aInt E 24 co), (ca, o1 (some pa) (some da) (some sa) C), (pa, aInt E 5 P), (da, aInt E 24 dr), (sa, aInt E 24 sr), (na, aInt E 12 (upI (upI pq k (-5)) (k) (it (i + k))))]) (k2_close (xl Γ) E ya na (upS (upS (upS (upS (upS (upS (upS (upS (upS (upS (upS (upS Y 8 y8) 11 y11) 2 k) 12 y12_11) 6 y6_12) 7 y7_13) 3 (y3_8 - (it (i + k)))) 4 (y4_9 - y6_12)) 5 (y5_10 - y7_13)) 10 (y10 + y6_12)) 9 (y9 + y7_13)) 13 (y13 + 1)) ta la ) mw2_close ml2_54 [8] [0, 1, 2, 3, 4, 5, 6, 7, 9] rfl rfl ⟨rfl, rfl⟩ (by decide) 8 2 rfl rfl rfl ⟨Nat.le_of_ble_eq_true rfl, Nat.le_of_ble_eq_true rfl⟩ rfl (rest := []) rfl (Nat.le_of_ble_eq_true rfl) d2_faultOf_81 ⟨Nat.le_of_ble_eq_true rfl, Nat.le_of_ble_eq_true rfl⟩ (fun r w1 hr => ?_)
                obtain ⟨rfl, rfl, hq22⟩ := hr
                refine j_eq (ws' := [(qa, o6 (some qi) L), (qi, aLng E 60 it), (ta, o7 (some ca) (some oa) T), (oa, aInt E 24 co), (ca, o1 (some pa) (some da) (some sa) C), (pa, aInt E 5 P), (da, aInt E 24 dr), (sa, aInt E 24 sr), (na, aInt E 12 (upI (upI pq k (-5)) (k) (it (i + k)))), (ya, o2 (some ta) (some la) (some na) (upS (upS (upS (upS (upS (upS (upS (upS (upS (upS (upS (upS Y 8 y8) 2 k) 12 y12_11) 6 y6_12) 7 y7_13) 3 (y3_8 - (it (i + k)))) 4 (y4_9 - y6_12)) 5 (y5_10 - y7_13)) 10 (y10 + y6_12)) 9 (y9 + y7_13)) 13 (y13 + 1)) 11 (y11 + ((y4_9 - y6_12) + (y5_10 - y7_13)))))]) rfl rfl rfl ?_
                try simp only [upS, reduceIte, Nat.reduceEqDiff, eq_self] at hq22
                refine j_iinc G d2_faultOf_84 1 rfl (by decide) rfl ?_
                refine j_goto (tgt := 8) G d2_faultOf_87 (by decide) ?_
                refine j_locs (ls' := [(4, .int (iZ (k + 1))), (0, .ref ya), (1, .ref qa), (2, .int (iZ i)), (3, .int (iZ p0))]) [0, 2, 3, 4, 5] rfl ?_
                refine j_perm (ws' := [(qa, o6 (some qi) L), (qi, aLng E 60 it), (na, aInt E 12 (upI (upI pq k (-5)) (k) (it (i + k)))), (ta, o7 (some ca) (some oa) T), (oa, aInt E 24 co), (ca, o1 (some pa) (some da) (some sa) C), (pa, aInt E 5 P), (da, aInt E 24 dr), (sa, aInt E 24 sr), (ya, o2 (some ta) (some la) (some na) (upS (upS (upS (upS (upS (upS (upS (upS (upS (upS (upS (upS Y 8 y8) 2 k) 12 y12_11) 6 y6_12) 7 y7_13) 3 (y3_8 - (it (i + k)))) 4 (y4_9 - y6_12)) 5 (y5_10 - y7_13)) 10 (y10 + y6_12)) 9 (y9 + y7_13)) 13 (y13 + 1)) 11 (y11 + ((y4_9 - y6_12) + (y5_10 - y7_13)))))]) [0, 1, 8, 2, 3, 4, 5, 6, 7, 9] rfl rfl rfl ?_
                refine j_eq (ws' := [(qa, o6 (some qi) L), (qi, aLng E 60 it), (na, aInt E 12 (upI (upI pq k (-5)) (k) (it (i + k)))), (ta, o7 (some ca) (some oa) T), (oa, aInt E 24 co), (ca, o1 (some pa) (some da) (some sa) C), (pa, aInt E 5 P), (da, aInt E 24 dr), (sa, aInt E 24 sr), (ya, o2 (some ta) (some la) (some na) (upS (upS (upS (upS (upS (upS (upS (upS (upS (upS (upS (upS Y 2 k) 3 (y3_8 - (it (i + k)))) 4 (y4_9 - y6_12)) 5 (y5_10 - y7_13)) 6 y6_12) 7 y7_13) 8 y8) 9 (y9 + y7_13)) 10 (y10 + y6_12)) 11 (y11 + ((y4_9 - y6_12) + (y5_10 - y7_13)))) 12 y12_11) 13 (y13 + 1)))]) rfl rfl rfl ?_
                exact ih8 (k + 1) k (y3_8 - (it (i + k))) (y4_9 - y6_12) (y5_10 - y7_13) y6_12 y7_13 y8 (y9 + y7_13) (y10 + y6_12) (y11 + ((y4_9 - y6_12) + (y5_10 - y7_13))) y12_11 (y13 + 1) (upI (upI pq k (-5)) (k) (it (i + k))) (by omega) (by first | assumption | omega) (by first | assumption | omega) (by first | assumption | omega) (by first | assumption | omega) (by first | assumption | omega) hjn
              ·
                have hs65 := hq17
                refine j_if_ne (tgt := 74) G d2_faultOf_68 (by decide) (by decide) (fun h23 => absurd h23 (by decide)) (fun h23 => ?_)
                have hC : dDn K k (81 * y3 + 9 * y4 + y5) + dUp K k (81 * y3 + 9 * y4 + y5) = 0 ∨ it (0 + i + k) < 0 ∨ K.tk < it (0 + i + k) ∨ dNow K k (81 * y3 + 9 * y4 + y5) / 81 < it (0 + i + k) ∨ stopM C P (C 3 * (dDn K k (81 * y3 + 9 * y4 + y5) - dUp K k (81 * y3 + 9 * y4 + y5)) + it (0 + i + k)) (D k) ≠ -5 := by have q := hs65; rw [ho6, ho7, hDk] at q; rw [hie]; omega
                refine j_iload G 1 rfl d2_faultOf_71 ?_
                exact j_iret G F d2_faultOf_73 ⟨k, (upI pq k (-5)), k, y3_8, y4_9, y5_10, y6_12, y7_13, y8, y9, y10, y11, y12_11, y13, rfl, rfl, (by first | (rw [hj, juF_s, if_pos hBp]; done) | (rw [hj, juF_s, if_neg hB, if_neg hm1, if_pos hC]; done) | (rw [hj, show (12 - k).toNat = 0 by omega]; rfl))⟩
          ·
            have hs26 := hq4
            refine j_if_ne (tgt := 38) G d2_faultOf_29 (by decide) (by decide) (fun h24 => absurd h24 (by decide)) (fun h24 => ?_)
            have hBp : L 0 < 0 ∨ i < 0 ∨ L 1 - k - 1 < i := by omega
            refine j_bipush G d2_faultOf_32 rfl ?_
            refine j_iload G 0 rfl d2_faultOf_34 ?_
            refine j_iadd G d2_faultOf_36 ?_
            refine j_perm (ws' := [(qa, o6 (some qi) L), (qi, aLng E 60 it), (ya, o2 (some ta) (some la) (some na) (upS (upS (upS (upS (upS (upS (upS (upS (upS (upS (upS (upS Y 2 y2) 3 y3) 4 y4) 5 y5) 6 y6) 7 y7) 8 y8) 9 y9) 10 y10) 11 y11) 12 y12) 13 y13)), (na, aInt E 12 pq), (ta, o7 (some ca) (some oa) T), (oa, aInt E 24 co), (ca, o1 (some pa) (some da) (some sa) C), (pa, aInt E 5 P), (da, aInt E 24 dr), (sa, aInt E 24 sr)]) [0, 1, 9, 2, 3, 4, 5, 6, 7, 8] rfl rfl rfl ?_
            exact j_iret G F d2_faultOf_37 ⟨100 + k, pq, y2, y3, y4, y5, y6, y7, y8, y9, y10, y11, y12, y13, rfl, rfl, (by first | (rw [hj, juF_s, if_pos hBp]; done) | (rw [hj, juF_s, if_neg hB, if_neg hm1, if_pos hC]; done) | (rw [hj, show (12 - k).toNat = 0 by omega]; rfl))⟩
  exact lp8 _ 0 (Y 2) p0 0 0 (Y 6) (Y 7) (Y 8) 0 0 0 0 0 pn (Nat.lt_succ_self _) (by first | assumption | omega) (by first | assumption | omega) (by first | assumption | omega) (by first | assumption | omega) (by first | assumption | omega) (by rw [show 81 * p0 + 9 * 0 + 0 = 81 * p0 by omega]; rfl)
