theorem d5_init_0 : decode c5_init 0 = .ok (.aload_n 0, 1) := by decide +kernel
theorem d5_init_1 : decode c5_init 1 = .ok (.invokespecial 3, 3) := by decide +kernel
theorem d5_init_4 : decode c5_init 4 = .ok (.aload_n 0, 1) := by decide +kernel
theorem d5_init_5 : decode c5_init 5 = .ok (.bipush 24, 2) := by decide +kernel
theorem d5_init_7 : decode c5_init 7 = .ok (.newarray .int, 2) := by decide +kernel
theorem d5_init_9 : decode c5_init 9 = .ok (.putfield 9, 3) := by decide +kernel
theorem d5_init_12 : decode c5_init 12 = .ok (.aload_n 0, 1) := by decide +kernel
theorem d5_init_13 : decode c5_init 13 = .ok (.bipush (-5), 2) := by decide +kernel
theorem d5_init_15 : decode c5_init 15 = .ok (.putfield 15, 3) := by decide +kernel
theorem d5_init_18 : decode c5_init 18 = .ok (.aload_n 0, 1) := by decide +kernel
theorem d5_init_19 : decode c5_init 19 = .ok (.iconst 4, 1) := by decide +kernel
theorem d5_init_20 : decode c5_init 20 = .ok (.newarray .int, 2) := by decide +kernel
theorem d5_init_22 : decode c5_init 22 = .ok (.putfield 19, 3) := by decide +kernel
theorem d5_init_25 : decode c5_init 25 = .ok (.aload_n 0, 1) := by decide +kernel
theorem d5_init_26 : decode c5_init 26 = .ok (.iconst 4, 1) := by decide +kernel
theorem d5_init_27 : decode c5_init 27 = .ok (.newarray .int, 2) := by decide +kernel
theorem d5_init_29 : decode c5_init 29 = .ok (.putfield 22, 3) := by decide +kernel
theorem d5_init_32 : decode c5_init 32 = .ok (.aload_n 0, 1) := by decide +kernel
theorem d5_init_33 : decode c5_init 33 = .ok (.iconst 4, 1) := by decide +kernel
theorem d5_init_34 : decode c5_init 34 = .ok (.newarray .int, 2) := by decide +kernel
theorem d5_init_36 : decode c5_init 36 = .ok (.putfield 25, 3) := by decide +kernel
theorem d5_init_39 : decode c5_init 39 = .ok (.return_, 1) := by decide +kernel
theorem mw5_init : MI y5_init c5_init 1 0 := ⟨cd5_init, ini5, na5_init, im5_init, rfl⟩
set_option maxHeartbeats 4000000 in
set_option maxRecDepth 100000 in
theorem k5_init (l : Launch) (E : En) (me : Nat)  : Cm l E y5_init c5_init 1 none { frames := 1, cells := 4, slots := 36, locals := 12 } [.ref me] [(me, o5 none none none none (fun _ => 0))] (fun r ws => ∃ (c0 : Nat), ∃ (c1 : Nat), ∃ (c2 : Nat), ∃ (c3 : Nat), r = none ∧ ws = [(me, o5 (some c0) (some c1) (some c2) (some c3) (upS (fun _ => 0) 3 (-5))), (c0, aInt E 24 (fun _ => 0)), (c1, aInt E 4 (fun _ => 0)), (c2, aInt E 4 (fun _ => 0)), (c3, aInt E 4 (fun _ => 0))] ∧ True) := by
  refine Cm.of (by decide +kernel) (Nat.le_of_ble_eq_true rfl) (fun Γ A hl hargs hin G F => ?_)
  subst hl
  refine j_aload_n G 0 rfl d5_init_0 ?_
  refine j_objInit G ml5_3 d5_init_1 ⟨Nat.le_of_ble_eq_true rfl, Nat.le_of_ble_eq_true rfl⟩ ?_
  refine j_aload_n G 0 rfl d5_init_4 ?_
  refine j_bipush G d5_init_5 rfl ?_
  refine j_newI (N := 24) G ⟨by decide, by decide⟩ ⟨Nat.le_of_ble_eq_true rfl, Nat.le_of_ble_eq_true rfl⟩ d5_init_7 (fun q1 => ?_)
  refine j_putF G (hin rfl) 0 5 0 in5 tyok5 nm5 fl5_9 d5_init_9 rfl rfl (by decide) ⟨rfl, rfl, rfl⟩ rfl rfl (Nat.le_of_ble_eq_true rfl) (e := o5 (some q1) none none none (fun _ => 0)) rfl ?_
  refine j_aload_n G 0 rfl d5_init_12 ?_
  refine j_bipush G d5_init_13 rfl ?_
  refine j_put G 0 5 3 in5 tyok5 nm5 fl5_15 d5_init_15 rfl rfl (by decide) ⟨rfl, rfl⟩ rfl rfl (Nat.le_of_ble_eq_true rfl) (e := o5 (some q1) none none none (upS (fun _ => 0) 3 (-5))) rfl ?_
  refine j_aload_n G 0 rfl d5_init_18 ?_
  refine j_iconst G d5_init_19 ?_
  refine j_newI (N := 4) G ⟨by decide, by decide⟩ ⟨Nat.le_of_ble_eq_true rfl, Nat.le_of_ble_eq_true rfl⟩ d5_init_20 (fun q2 => ?_)
  refine j_putF G (hin rfl) 0 5 4 in5 tyok5 nm5 fl5_19 d5_init_22 rfl rfl (by decide) ⟨rfl, rfl, rfl⟩ rfl rfl (Nat.le_of_ble_eq_true rfl) (e := o5 (some q1) (some q2) none none (upS (fun _ => 0) 3 (-5))) rfl ?_
  refine j_aload_n G 0 rfl d5_init_25 ?_
  refine j_iconst G d5_init_26 ?_
  refine j_newI (N := 4) G ⟨by decide, by decide⟩ ⟨Nat.le_of_ble_eq_true rfl, Nat.le_of_ble_eq_true rfl⟩ d5_init_27 (fun q3 => ?_)
  refine j_putF G (hin rfl) 0 5 5 in5 tyok5 nm5 fl5_22 d5_init_29 rfl rfl (by decide) ⟨rfl, rfl, rfl⟩ rfl rfl (Nat.le_of_ble_eq_true rfl) (e := o5 (some q1) (some q2) (some q3) none (upS (fun _ => 0) 3 (-5))) rfl ?_
  refine j_aload_n G 0 rfl d5_init_32 ?_
  refine j_iconst G d5_init_33 ?_
  refine j_newI (N := 4) G ⟨by decide, by decide⟩ ⟨Nat.le_of_ble_eq_true rfl, Nat.le_of_ble_eq_true rfl⟩ d5_init_34 (fun q4 => ?_)
  refine j_putF G (hin rfl) 0 5 6 in5 tyok5 nm5 fl5_25 d5_init_36 rfl rfl (by decide) ⟨rfl, rfl, rfl⟩ rfl rfl (Nat.le_of_ble_eq_true rfl) (e := o5 (some q1) (some q2) (some q3) (some q4) (upS (fun _ => 0) 3 (-5))) rfl ?_
  refine j_widen (k' := 4) (n' := 36) ⟨Nat.le_of_ble_eq_true rfl, Nat.le_of_ble_eq_true rfl⟩ ?_
  exact j_vret G F d5_init_39 ⟨q1, q2, q3, q4, rfl, rfl, trivial⟩
theorem d1_init_0 : decode c1_init 0 = .ok (.aload_n 0, 1) := by decide +kernel
theorem d1_init_1 : decode c1_init 1 = .ok (.invokespecial 3, 3) := by decide +kernel
theorem d1_init_4 : decode c1_init 4 = .ok (.aload_n 0, 1) := by decide +kernel
theorem d1_init_5 : decode c1_init 5 = .ok (.iconst 5, 1) := by decide +kernel
theorem d1_init_6 : decode c1_init 6 = .ok (.newarray .int, 2) := by decide +kernel
theorem d1_init_8 : decode c1_init 8 = .ok (.putfield 9, 3) := by decide +kernel
theorem d1_init_11 : decode c1_init 11 = .ok (.aload_n 0, 1) := by decide +kernel
theorem d1_init_12 : decode c1_init 12 = .ok (.bipush 10, 2) := by decide +kernel
theorem d1_init_14 : decode c1_init 14 = .ok (.putfield 15, 3) := by decide +kernel
theorem d1_init_17 : decode c1_init 17 = .ok (.aload_n 0, 1) := by decide +kernel
theorem d1_init_18 : decode c1_init 18 = .ok (.sipush 999, 3) := by decide +kernel
theorem d1_init_21 : decode c1_init 21 = .ok (.putfield 19, 3) := by decide +kernel
theorem d1_init_24 : decode c1_init 24 = .ok (.aload_n 0, 1) := by decide +kernel
theorem d1_init_25 : decode c1_init 25 = .ok (.bipush 20, 2) := by decide +kernel
theorem d1_init_27 : decode c1_init 27 = .ok (.putfield 22, 3) := by decide +kernel
theorem d1_init_30 : decode c1_init 30 = .ok (.aload_n 0, 1) := by decide +kernel
theorem d1_init_31 : decode c1_init 31 = .ok (.iconst 4, 1) := by decide +kernel
theorem d1_init_32 : decode c1_init 32 = .ok (.putfield 25, 3) := by decide +kernel
theorem d1_init_35 : decode c1_init 35 = .ok (.aload_n 0, 1) := by decide +kernel
theorem d1_init_36 : decode c1_init 36 = .ok (.bipush 20, 2) := by decide +kernel
theorem d1_init_38 : decode c1_init 38 = .ok (.putfield 28, 3) := by decide +kernel
theorem d1_init_41 : decode c1_init 41 = .ok (.aload_n 0, 1) := by decide +kernel
theorem d1_init_42 : decode c1_init 42 = .ok (.bipush 24, 2) := by decide +kernel
theorem d1_init_44 : decode c1_init 44 = .ok (.newarray .int, 2) := by decide +kernel
theorem d1_init_46 : decode c1_init 46 = .ok (.putfield 31, 3) := by decide +kernel
theorem d1_init_49 : decode c1_init 49 = .ok (.aload_n 0, 1) := by decide +kernel
theorem d1_init_50 : decode c1_init 50 = .ok (.bipush 24, 2) := by decide +kernel
theorem d1_init_52 : decode c1_init 52 = .ok (.newarray .int, 2) := by decide +kernel
theorem d1_init_54 : decode c1_init 54 = .ok (.putfield 34, 3) := by decide +kernel
theorem d1_init_57 : decode c1_init 57 = .ok (.return_, 1) := by decide +kernel
theorem mw1_init : MI y1_init c1_init 1 0 := ⟨cd1_init, ini1, na1_init, im1_init, rfl⟩
set_option maxHeartbeats 4000000 in
set_option maxRecDepth 100000 in
theorem k1_init (l : Launch) (E : En) (me : Nat)  : Cm l E y1_init c1_init 1 none { frames := 1, cells := 3, slots := 53, locals := 12 } [.ref me] [(me, o1 none none none (fun _ => 0))] (fun r ws => ∃ (c0 : Nat), ∃ (c1 : Nat), ∃ (c2 : Nat), r = none ∧ ws = [(me, o1 (some c0) (some c1) (some c2) (upS (upS (upS (upS (upS (fun _ => 0) 3 10) 4 999) 5 20) 6 4) 7 20)), (c0, aInt E 5 (fun _ => 0)), (c1, aInt E 24 (fun _ => 0)), (c2, aInt E 24 (fun _ => 0))] ∧ True) := by
  refine Cm.of (by decide +kernel) (Nat.le_of_ble_eq_true rfl) (fun Γ A hl hargs hin G F => ?_)
  subst hl
  refine j_aload_n G 0 rfl d1_init_0 ?_
  refine j_objInit G ml1_3 d1_init_1 ⟨Nat.le_of_ble_eq_true rfl, Nat.le_of_ble_eq_true rfl⟩ ?_
  refine j_aload_n G 0 rfl d1_init_4 ?_
  refine j_iconst G d1_init_5 ?_
  refine j_newI (N := 5) G ⟨by decide, by decide⟩ ⟨Nat.le_of_ble_eq_true rfl, Nat.le_of_ble_eq_true rfl⟩ d1_init_6 (fun q1 => ?_)
  refine j_putF G (hin rfl) 0 1 0 in1 tyok1 nm1 fl1_9 d1_init_8 rfl rfl (by decide) ⟨rfl, rfl, rfl⟩ rfl rfl (Nat.le_of_ble_eq_true rfl) (e := o1 (some q1) none none (fun _ => 0)) rfl ?_
  refine j_aload_n G 0 rfl d1_init_11 ?_
  refine j_bipush G d1_init_12 rfl ?_
  refine j_put G 0 1 3 in1 tyok1 nm1 fl1_15 d1_init_14 rfl rfl (by decide) ⟨rfl, rfl⟩ rfl rfl (Nat.le_of_ble_eq_true rfl) (e := o1 (some q1) none none (upS (fun _ => 0) 3 10)) rfl ?_
  refine j_aload_n G 0 rfl d1_init_17 ?_
  refine j_sipush G d1_init_18 rfl ?_
  refine j_put G 0 1 4 in1 tyok1 nm1 fl1_19 d1_init_21 rfl rfl (by decide) ⟨rfl, rfl⟩ rfl rfl (Nat.le_of_ble_eq_true rfl) (e := o1 (some q1) none none (upS (upS (fun _ => 0) 3 10) 4 999)) rfl ?_
  refine j_aload_n G 0 rfl d1_init_24 ?_
  refine j_bipush G d1_init_25 rfl ?_
  refine j_put G 0 1 5 in1 tyok1 nm1 fl1_22 d1_init_27 rfl rfl (by decide) ⟨rfl, rfl⟩ rfl rfl (Nat.le_of_ble_eq_true rfl) (e := o1 (some q1) none none (upS (upS (upS (fun _ => 0) 3 10) 4 999) 5 20)) rfl ?_
  refine j_aload_n G 0 rfl d1_init_30 ?_
  refine j_iconst G d1_init_31 ?_
  refine j_put G 0 1 6 in1 tyok1 nm1 fl1_25 d1_init_32 rfl rfl (by decide) ⟨rfl, rfl⟩ rfl rfl (Nat.le_of_ble_eq_true rfl) (e := o1 (some q1) none none (upS (upS (upS (upS (fun _ => 0) 3 10) 4 999) 5 20) 6 4)) rfl ?_
  refine j_aload_n G 0 rfl d1_init_35 ?_
  refine j_bipush G d1_init_36 rfl ?_
  refine j_put G 0 1 7 in1 tyok1 nm1 fl1_28 d1_init_38 rfl rfl (by decide) ⟨rfl, rfl⟩ rfl rfl (Nat.le_of_ble_eq_true rfl) (e := o1 (some q1) none none (upS (upS (upS (upS (upS (fun _ => 0) 3 10) 4 999) 5 20) 6 4) 7 20)) rfl ?_
  refine j_aload_n G 0 rfl d1_init_41 ?_
  refine j_bipush G d1_init_42 rfl ?_
  refine j_newI (N := 24) G ⟨by decide, by decide⟩ ⟨Nat.le_of_ble_eq_true rfl, Nat.le_of_ble_eq_true rfl⟩ d1_init_44 (fun q2 => ?_)
  refine j_putF G (hin rfl) 0 1 8 in1 tyok1 nm1 fl1_31 d1_init_46 rfl rfl (by decide) ⟨rfl, rfl, rfl⟩ rfl rfl (Nat.le_of_ble_eq_true rfl) (e := o1 (some q1) (some q2) none (upS (upS (upS (upS (upS (fun _ => 0) 3 10) 4 999) 5 20) 6 4) 7 20)) rfl ?_
  refine j_aload_n G 0 rfl d1_init_49 ?_
  refine j_bipush G d1_init_50 rfl ?_
  refine j_newI (N := 24) G ⟨by decide, by decide⟩ ⟨Nat.le_of_ble_eq_true rfl, Nat.le_of_ble_eq_true rfl⟩ d1_init_52 (fun q3 => ?_)
  refine j_putF G (hin rfl) 0 1 9 in1 tyok1 nm1 fl1_34 d1_init_54 rfl rfl (by decide) ⟨rfl, rfl, rfl⟩ rfl rfl (Nat.le_of_ble_eq_true rfl) (e := o1 (some q1) (some q2) (some q3) (upS (upS (upS (upS (upS (fun _ => 0) 3 10) 4 999) 5 20) 6 4) 7 20)) rfl ?_
  refine j_widen (k' := 3) (n' := 53) ⟨Nat.le_of_ble_eq_true rfl, Nat.le_of_ble_eq_true rfl⟩ ?_
  exact j_vret G F d1_init_57 ⟨q1, q2, q3, rfl, rfl, trivial⟩
theorem d0_init_0 : decode c0_init 0 = .ok (.aload_n 0, 1) := by decide +kernel
theorem d0_init_1 : decode c0_init 1 = .ok (.invokespecial 3, 3) := by decide +kernel
theorem d0_init_4 : decode c0_init 4 = .ok (.aload_n 0, 1) := by decide +kernel
theorem d0_init_5 : decode c0_init 5 = .ok (.iconst (-1), 1) := by decide +kernel
theorem d0_init_6 : decode c0_init 6 = .ok (.putfield 9, 3) := by decide +kernel
theorem d0_init_9 : decode c0_init 9 = .ok (.aload_n 0, 1) := by decide +kernel
theorem d0_init_10 : decode c0_init 10 = .ok (.aload_n 1, 1) := by decide +kernel
theorem d0_init_11 : decode c0_init 11 = .ok (.putfield 15, 3) := by decide +kernel
theorem d0_init_14 : decode c0_init 14 = .ok (.aload_n 0, 1) := by decide +kernel
theorem d0_init_15 : decode c0_init 15 = .ok (.iload_n 2, 1) := by decide +kernel
theorem d0_init_16 : decode c0_init 16 = .ok (.aload_n 1, 1) := by decide +kernel
theorem d0_init_17 : decode c0_init 17 = .ok (.arraylength, 1) := by decide +kernel
theorem d0_init_18 : decode c0_init 18 = .ok (.invokestatic 19, 3) := by decide +kernel
theorem d0_init_21 : decode c0_init 21 = .ok (.putfield 25, 3) := by decide +kernel
theorem d0_init_24 : decode c0_init 24 = .ok (.return_, 1) := by decide +kernel
theorem mw0_init : MI y0_init c0_init 3 2 := ⟨cd0_init, ini0, na0_init, im0_init, rfl⟩
set_option maxHeartbeats 4000000 in
set_option maxRecDepth 100000 in
theorem k0_init (l : Launch) (E : En) (me : Nat) (ba : Nat) (tb : Int → Int) (n : Int) (hn : 0 ≤ n ∧ n ≤ 100) : Cm l E y0_init c0_init 3 none { frames := 1, cells := 0, slots := 0, locals := 14 } [.ref me, .ref ba, .int (iZ n)] [(me, o0 none (fun _ => 0)), (ba, aInt E 100 tb)] (fun r ws => r = none ∧ ws = [(me, o0 (some ba) (upS (upS (fun _ => 0) 3 (-1)) 1 n)), (ba, aInt E 100 tb)] ∧ True) := by
  refine Cm.of (by decide +kernel) (Nat.le_of_ble_eq_true rfl) (fun Γ A hl hargs hin G F => ?_)
  subst hl
  refine j_aload_n G 0 rfl d0_init_0 ?_
  refine j_objInit G ml0_3 d0_init_1 ⟨Nat.le_of_ble_eq_true rfl, Nat.le_of_ble_eq_true rfl⟩ ?_
  refine j_aload_n G 0 rfl d0_init_4 ?_
  refine j_iconst G d0_init_5 ?_
  refine j_put G 0 0 3 in0 tyok0 nm0 fl0_9 d0_init_6 rfl rfl (by decide) ⟨rfl, rfl⟩ rfl rfl (Nat.le_of_ble_eq_true rfl) (e := o0 none (upS (fun _ => 0) 3 (-1))) rfl ?_
  refine j_aload_n G 0 rfl d0_init_9 ?_
  refine j_aload_n G 1 rfl d0_init_10 ?_
  refine j_putF G (hin rfl) 0 0 0 in0 tyok0 nm0 fl0_15 d0_init_11 rfl rfl (by decide) ⟨rfl, rfl, rfl⟩ rfl rfl (Nat.le_of_ble_eq_true rfl) (e := o0 (some ba) (upS (fun _ => 0) 3 (-1))) rfl ?_
  refine j_aload_n G 0 rfl d0_init_14 ?_
  refine j_iload_n G 2 rfl d0_init_15 ?_
  refine j_aload_n G 1 rfl d0_init_16 ?_
  refine j_alen G 1 rfl d0_init_17 ?_
  refine j_mmin G ml0_19 (by omega) (by decide) ⟨Nat.le_of_ble_eq_true rfl, Nat.le_of_ble_eq_true rfl⟩ ⟨Nat.le_of_ble_eq_true rfl, Nat.le_of_ble_eq_true rfl⟩ d0_init_18 ?_
  refine j_top (y := iZ n) (by congr 1; omega) ?_
  refine j_putF G (hin rfl) 0 0 1 in0 tyok0 nm0 fl0_25 d0_init_21 rfl rfl (by decide) ⟨rfl, rfl, rfl⟩ rfl rfl (Nat.le_of_ble_eq_true rfl) (e := o0 (some ba) (upS (upS (fun _ => 0) 3 (-1)) 1 n)) rfl ?_
  exact j_vret G F d0_init_24 ⟨rfl, rfl, trivial⟩
theorem d6_init_0 : decode c6_init 0 = .ok (.aload_n 0, 1) := by decide +kernel
theorem d6_init_1 : decode c6_init 1 = .ok (.invokespecial 3, 3) := by decide +kernel
theorem d6_init_4 : decode c6_init 4 = .ok (.aload_n 0, 1) := by decide +kernel
theorem d6_init_5 : decode c6_init 5 = .ok (.iconst (-1), 1) := by decide +kernel
theorem d6_init_6 : decode c6_init 6 = .ok (.putfield 11, 3) := by decide +kernel
theorem d6_init_9 : decode c6_init 9 = .ok (.aload_n 0, 1) := by decide +kernel
theorem d6_init_10 : decode c6_init 10 = .ok (.bipush 60, 2) := by decide +kernel
theorem d6_init_12 : decode c6_init 12 = .ok (.newarray .long, 2) := by decide +kernel
theorem d6_init_14 : decode c6_init 14 = .ok (.putfield 15, 3) := by decide +kernel
theorem d6_init_17 : decode c6_init 17 = .ok (.return_, 1) := by decide +kernel
theorem mw6_init : MI y6_init c6_init 1 0 := ⟨cd6_init, ini6, na6_init, im6_init, rfl⟩
set_option maxHeartbeats 4000000 in
set_option maxRecDepth 100000 in
theorem k6_init (l : Launch) (E : En) (me : Nat)  : Cm l E y6_init c6_init 1 none { frames := 1, cells := 1, slots := 60, locals := 12 } [.ref me] [(me, o6 none (fun _ => 0))] (fun r ws => ∃ (c0 : Nat), r = none ∧ ws = [(me, o6 (some c0) (upS (fun _ => 0) 0 (-1))), (c0, aLng E 60 (fun _ => 0))] ∧ True) := by
  refine Cm.of (by decide +kernel) (Nat.le_of_ble_eq_true rfl) (fun Γ A hl hargs hin G F => ?_)
  subst hl
  refine j_aload_n G 0 rfl d6_init_0 ?_
  refine j_objInit G ml6_3 d6_init_1 ⟨Nat.le_of_ble_eq_true rfl, Nat.le_of_ble_eq_true rfl⟩ ?_
  refine j_aload_n G 0 rfl d6_init_4 ?_
  refine j_iconst G d6_init_5 ?_
  refine j_put G 0 6 0 in6 tyok6 nm6 fl6_11 d6_init_6 rfl rfl (by decide) ⟨rfl, rfl⟩ rfl rfl (Nat.le_of_ble_eq_true rfl) (e := o6 none (upS (fun _ => 0) 0 (-1))) rfl ?_
  refine j_aload_n G 0 rfl d6_init_9 ?_
  refine j_bipush G d6_init_10 rfl ?_
  refine j_newJ (N := 60) G ⟨by decide, by decide⟩ ⟨Nat.le_of_ble_eq_true rfl, Nat.le_of_ble_eq_true rfl⟩ d6_init_12 (fun q1 => ?_)
  refine j_putF G (hin rfl) 0 6 2 in6 tyok6 nm6 fl6_15 d6_init_14 rfl rfl (by decide) ⟨rfl, rfl, rfl⟩ rfl rfl (Nat.le_of_ble_eq_true rfl) (e := o6 (some q1) (upS (fun _ => 0) 0 (-1))) rfl ?_
  refine j_widen (k' := 1) (n' := 60) ⟨Nat.le_of_ble_eq_true rfl, Nat.le_of_ble_eq_true rfl⟩ ?_
  exact j_vret G F d6_init_17 ⟨q1, rfl, rfl, trivial⟩
theorem d8_init_0 : decode c8_init 0 = .ok (.aload_n 0, 1) := by decide +kernel
theorem d8_init_1 : decode c8_init 1 = .ok (.invokespecial 3, 3) := by decide +kernel
theorem d8_init_4 : decode c8_init 4 = .ok (.aload_n 0, 1) := by decide +kernel
theorem d8_init_5 : decode c8_init 5 = .ok (.bipush 20, 2) := by decide +kernel
theorem d8_init_7 : decode c8_init 7 = .ok (.newarray .int, 2) := by decide +kernel
theorem d8_init_9 : decode c8_init 9 = .ok (.putfield 9, 3) := by decide +kernel
theorem d8_init_12 : decode c8_init 12 = .ok (.return_, 1) := by decide +kernel
theorem mw8_init : MI y8_init c8_init 1 0 := ⟨cd8_init, ini8, na8_init, im8_init, rfl⟩
set_option maxHeartbeats 4000000 in
set_option maxRecDepth 100000 in
theorem k8_init (l : Launch) (E : En) (me : Nat)  : Cm l E y8_init c8_init 1 none { frames := 1, cells := 1, slots := 20, locals := 12 } [.ref me] [(me, o8 none (fun _ => 0))] (fun r ws => ∃ (c0 : Nat), r = none ∧ ws = [(me, o8 (some c0) (fun _ => 0)), (c0, aInt E 20 (fun _ => 0))] ∧ True) := by
  refine Cm.of (by decide +kernel) (Nat.le_of_ble_eq_true rfl) (fun Γ A hl hargs hin G F => ?_)
  subst hl
  refine j_aload_n G 0 rfl d8_init_0 ?_
  refine j_objInit G ml8_3 d8_init_1 ⟨Nat.le_of_ble_eq_true rfl, Nat.le_of_ble_eq_true rfl⟩ ?_
  refine j_aload_n G 0 rfl d8_init_4 ?_
  refine j_bipush G d8_init_5 rfl ?_
  refine j_newI (N := 20) G ⟨by decide, by decide⟩ ⟨Nat.le_of_ble_eq_true rfl, Nat.le_of_ble_eq_true rfl⟩ d8_init_7 (fun q1 => ?_)
  refine j_putF G (hin rfl) 0 8 0 in8 tyok8 nm8 fl8_9 d8_init_9 rfl rfl (by decide) ⟨rfl, rfl, rfl⟩ rfl rfl (Nat.le_of_ble_eq_true rfl) (e := o8 (some q1) (fun _ => 0)) rfl ?_
  refine j_widen (k' := 1) (n' := 20) ⟨Nat.le_of_ble_eq_true rfl, Nat.le_of_ble_eq_true rfl⟩ ?_
  exact j_vret G F d8_init_12 ⟨q1, rfl, rfl, trivial⟩
theorem d4_init_0 : decode c4_init 0 = .ok (.aload_n 0, 1) := by decide +kernel
theorem d4_init_1 : decode c4_init 1 = .ok (.invokespecial 3, 3) := by decide +kernel
theorem d4_init_4 : decode c4_init 4 = .ok (.aload_n 0, 1) := by decide +kernel
theorem d4_init_5 : decode c4_init 5 = .ok (.iload_n 1, 1) := by decide +kernel
theorem d4_init_6 : decode c4_init 6 = .ok (.putfield 9, 3) := by decide +kernel
theorem d4_init_9 : decode c4_init 9 = .ok (.aload_n 0, 1) := by decide +kernel
theorem d4_init_10 : decode c4_init 10 = .ok (.iload_n 2, 1) := by decide +kernel
theorem d4_init_11 : decode c4_init 11 = .ok (.putfield 15, 3) := by decide +kernel
theorem d4_init_14 : decode c4_init 14 = .ok (.aload_n 0, 1) := by decide +kernel
theorem d4_init_15 : decode c4_init 15 = .ok (.iload_n 3, 1) := by decide +kernel
theorem d4_init_16 : decode c4_init 16 = .ok (.putfield 18, 3) := by decide +kernel
theorem d4_init_19 : decode c4_init 19 = .ok (.aload_n 0, 1) := by decide +kernel
theorem d4_init_20 : decode c4_init 20 = .ok (.iload_n 1, 1) := by decide +kernel
theorem d4_init_21 : decode c4_init 21 = .ok (.bipush 6, 2) := by decide +kernel
theorem d4_init_23 : decode c4_init 23 = .ok (.if_icmp .ne 8, 3) := by decide +kernel
theorem d4_init_26 : decode c4_init 26 = .ok (.bipush 12, 2) := by decide +kernel
theorem d4_init_28 : decode c4_init 28 = .ok (.goto 4, 3) := by decide +kernel
theorem d4_init_32 : decode c4_init 32 = .ok (.newarray .int, 2) := by decide +kernel
theorem d4_init_34 : decode c4_init 34 = .ok (.putfield 21, 3) := by decide +kernel
theorem d4_init_37 : decode c4_init 37 = .ok (.return_, 1) := by decide +kernel
theorem mw4_init : MI y4_init c4_init 4 3 := ⟨cd4_init, ini4, na4_init, im4_init, rfl⟩
set_option maxHeartbeats 4000000 in
set_option maxRecDepth 100000 in
theorem k4_inita (l : Launch) (E : En) (me : Nat) (k : Int) (v : Int) (q : Int) (hk : k = 6) : Cm l E y4_init c4_init 4 none { frames := 1, cells := 1, slots := 12, locals := 12 } [.ref me, .int (iZ k), .int (iZ v), .int (iZ q)] [(me, o4 none (fun _ => 0))] (fun r ws => ∃ (c0 : Nat), r = none ∧ ws = [(me, o4 (some c0) (upS (upS (upS (fun _ => 0) 0 k) 1 v) 2 q)), (c0, aInt E 12 (fun _ => 0))] ∧ True) := by
  refine Cm.of (by decide +kernel) (Nat.le_of_ble_eq_true rfl) (fun Γ A hl hargs hin G F => ?_)
  subst hl
  refine j_aload_n G 0 rfl d4_init_0 ?_
  refine j_objInit G ml4_3 d4_init_1 ⟨Nat.le_of_ble_eq_true rfl, Nat.le_of_ble_eq_true rfl⟩ ?_
  refine j_aload_n G 0 rfl d4_init_4 ?_
  refine j_iload_n G 1 rfl d4_init_5 ?_
  refine j_putF G (hin rfl) 0 4 0 in4 tyok4 nm4 fl4_9 d4_init_6 rfl rfl (by decide) ⟨rfl, rfl, rfl⟩ rfl rfl (Nat.le_of_ble_eq_true rfl) (e := o4 none (upS (fun _ => 0) 0 k)) rfl ?_
  refine j_aload_n G 0 rfl d4_init_9 ?_
  refine j_iload_n G 2 rfl d4_init_10 ?_
  refine j_putF G (hin rfl) 0 4 1 in4 tyok4 nm4 fl4_15 d4_init_11 rfl rfl (by decide) ⟨rfl, rfl, rfl⟩ rfl rfl (Nat.le_of_ble_eq_true rfl) (e := o4 none (upS (upS (fun _ => 0) 0 k) 1 v)) rfl ?_
  refine j_aload_n G 0 rfl d4_init_14 ?_
  refine j_iload_n G 3 rfl d4_init_15 ?_
  refine j_putF G (hin rfl) 0 4 2 in4 tyok4 nm4 fl4_18 d4_init_16 rfl rfl (by decide) ⟨rfl, rfl, rfl⟩ rfl rfl (Nat.le_of_ble_eq_true rfl) (e := o4 none (upS (upS (upS (fun _ => 0) 0 k) 1 v) 2 q)) rfl ?_
  refine j_aload_n G 0 rfl d4_init_19 ?_
  refine j_iload_n G 1 rfl d4_init_20 ?_
  refine j_bipush G d4_init_21 rfl ?_
  refine j_icmp_ne (tgt := 31) G d4_init_23 (by decide) (by omega) (by decide) (fun h1 => ?_) (fun h1 => ?_)
  ·
    omega
  ·
    refine j_bipush G d4_init_26 rfl ?_
    refine j_goto (tgt := 32) G d4_init_28 (by decide) ?_
    refine j_newI (N := 12) G ⟨by decide, by decide⟩ ⟨Nat.le_of_ble_eq_true rfl, Nat.le_of_ble_eq_true rfl⟩ d4_init_32 (fun q2 => ?_)
    refine j_putF G (hin rfl) 0 4 3 in4 tyok4 nm4 fl4_21 d4_init_34 rfl rfl (by decide) ⟨rfl, rfl, rfl⟩ rfl rfl (Nat.le_of_ble_eq_true rfl) (e := o4 (some q2) (upS (upS (upS (fun _ => 0) 0 k) 1 v) 2 q)) rfl ?_
    refine j_widen (k' := 1) (n' := 12) ⟨Nat.le_of_ble_eq_true rfl, Nat.le_of_ble_eq_true rfl⟩ ?_
    exact j_vret G F d4_init_37 ⟨q2, rfl, rfl, trivial⟩
theorem d4_init_31 : decode c4_init 31 = .ok (.iconst 0, 1) := by decide +kernel
set_option maxHeartbeats 4000000 in
set_option maxRecDepth 100000 in
theorem k4_initb (l : Launch) (E : En) (me : Nat) (k : Int) (v : Int) (q : Int) (hk : ¬ k = 6) (hk2 : 0 ≤ k ∧ k ≤ 6) : Cm l E y4_init c4_init 4 none { frames := 1, cells := 1, slots := 0, locals := 12 } [.ref me, .int (iZ k), .int (iZ v), .int (iZ q)] [(me, o4 none (fun _ => 0))] (fun r ws => ∃ (c0 : Nat), r = none ∧ ws = [(me, o4 (some c0) (upS (upS (upS (fun _ => 0) 0 k) 1 v) 2 q)), (c0, aInt E 0 (fun _ => 0))] ∧ True) := by
  refine Cm.of (by decide +kernel) (Nat.le_of_ble_eq_true rfl) (fun Γ A hl hargs hin G F => ?_)
  subst hl
  refine j_aload_n G 0 rfl d4_init_0 ?_
  refine j_objInit G ml4_3 d4_init_1 ⟨Nat.le_of_ble_eq_true rfl, Nat.le_of_ble_eq_true rfl⟩ ?_
  refine j_aload_n G 0 rfl d4_init_4 ?_
  refine j_iload_n G 1 rfl d4_init_5 ?_
  refine j_putF G (hin rfl) 0 4 0 in4 tyok4 nm4 fl4_9 d4_init_6 rfl rfl (by decide) ⟨rfl, rfl, rfl⟩ rfl rfl (Nat.le_of_ble_eq_true rfl) (e := o4 none (upS (fun _ => 0) 0 k)) rfl ?_
  refine j_aload_n G 0 rfl d4_init_9 ?_
  refine j_iload_n G 2 rfl d4_init_10 ?_
  refine j_putF G (hin rfl) 0 4 1 in4 tyok4 nm4 fl4_15 d4_init_11 rfl rfl (by decide) ⟨rfl, rfl, rfl⟩ rfl rfl (Nat.le_of_ble_eq_true rfl) (e := o4 none (upS (upS (fun _ => 0) 0 k) 1 v)) rfl ?_
  refine j_aload_n G 0 rfl d4_init_14 ?_
  refine j_iload_n G 3 rfl d4_init_15 ?_
  refine j_putF G (hin rfl) 0 4 2 in4 tyok4 nm4 fl4_18 d4_init_16 rfl rfl (by decide) ⟨rfl, rfl, rfl⟩ rfl rfl (Nat.le_of_ble_eq_true rfl) (e := o4 none (upS (upS (upS (fun _ => 0) 0 k) 1 v) 2 q)) rfl ?_
  refine j_aload_n G 0 rfl d4_init_19 ?_
  refine j_iload_n G 1 rfl d4_init_20 ?_
  refine j_bipush G d4_init_21 rfl ?_
  refine j_icmp_ne (tgt := 31) G d4_init_23 (by decide) (by omega) (by decide) (fun h1 => ?_) (fun h1 => ?_)
  ·
    refine j_iconst G d4_init_31 ?_
    refine j_newI (N := 0) G ⟨by decide, by decide⟩ ⟨Nat.le_of_ble_eq_true rfl, Nat.le_of_ble_eq_true rfl⟩ d4_init_32 (fun q2 => ?_)
    refine j_putF G (hin rfl) 0 4 3 in4 tyok4 nm4 fl4_21 d4_init_34 rfl rfl (by decide) ⟨rfl, rfl, rfl⟩ rfl rfl (Nat.le_of_ble_eq_true rfl) (e := o4 (some q2) (upS (upS (upS (fun _ => 0) 0 k) 1 v) 2 q)) rfl ?_
    refine j_widen (k' := 1) (n' := 0) ⟨Nat.le_of_ble_eq_true rfl, Nat.le_of_ble_eq_true rfl⟩ ?_
    exact j_vret G F d4_init_37 ⟨q2, rfl, rfl, trivial⟩
  ·
    omega
theorem d7_init_0 : decode c7_init 0 = .ok (.aload_n 0, 1) := by decide +kernel
theorem d7_init_1 : decode c7_init 1 = .ok (.invokespecial 3, 3) := by decide +kernel
theorem d7_init_4 : decode c7_init 4 = .ok (.aload_n 0, 1) := by decide +kernel
theorem d7_init_5 : decode c7_init 5 = .ok (.new 9, 3) := by decide +kernel
theorem d7_init_8 : decode c7_init 8 = .ok (.dup, 1) := by decide +kernel
theorem d7_init_9 : decode c7_init 9 = .ok (.invokespecial 11, 3) := by decide +kernel
theorem d7_init_12 : decode c7_init 12 = .ok (.putfield 12, 3) := by decide +kernel
theorem d7_init_15 : decode c7_init 15 = .ok (.aload_n 0, 1) := by decide +kernel
theorem d7_init_16 : decode c7_init 16 = .ok (.bipush 24, 2) := by decide +kernel
theorem d7_init_18 : decode c7_init 18 = .ok (.newarray .int, 2) := by decide +kernel
theorem d7_init_20 : decode c7_init 20 = .ok (.putfield 18, 3) := by decide +kernel
theorem d7_init_23 : decode c7_init 23 = .ok (.return_, 1) := by decide +kernel
theorem mw7_init : MI y7_init c7_init 1 0 := ⟨cd7_init, ini7, na7_init, im7_init, rfl⟩
set_option maxHeartbeats 4000000 in
set_option maxRecDepth 100000 in
theorem k7_init (l : Launch) (E : En) (me : Nat)  : Cm l E y7_init c7_init 1 none { frames := 2, cells := 5, slots := 87, locals := 32 } [.ref me] [(me, o7 none none (fun _ => 0))] (fun r ws => ∃ (c0 : Nat), ∃ (c1 : Nat), r = none ∧ ws = [(me, o7 (some c0) (some c1) (fun _ => 0)), (c1, aInt E 24 (fun _ => 0))] ∧ True) := by
  refine Cm.of (by decide +kernel) (Nat.le_of_ble_eq_true rfl) (fun Γ A hl hargs hin G F => ?_)
  subst hl
  refine j_aload_n G 0 rfl d7_init_0 ?_
  refine j_objInit G ml7_3 d7_init_1 ⟨Nat.le_of_ble_eq_true rfl, Nat.le_of_ble_eq_true rfl⟩ ?_
  refine j_aload_n G 0 rfl d7_init_4 ?_
  refine j_new G 1 (fs := z1) in1 tyok1 cl7_9 is1 ini1 rfl hz1 ⟨Nat.le_of_ble_eq_true rfl, Nat.le_of_ble_eq_true rfl⟩ d7_init_5 (fun q1 => ?_)
  refine j_dup G d7_init_8 rfl ?_
  refine j_IMN G (rm' := { frames := 1, cells := 3, slots := 53, locals := 12 }) (wc := [(q1, o1 none none none (fun _ => 0))]) (wr := [(me, o7 none none (fun _ => 0))]) (k1_init (xl Γ) E q1 ) mw1_init mn7_11 [1] [0] rfl rfl ⟨rfl, rfl⟩ (by decide) ⟨Nat.le_of_ble_eq_true rfl, Nat.le_of_ble_eq_true rfl⟩ rfl (rest := [.ref q1, .ref me]) rfl (Nat.le_of_ble_eq_true rfl) d7_init_9 ⟨Nat.le_of_ble_eq_true rfl, Nat.le_of_ble_eq_true rfl⟩ (fun r w1 hr => ?_)
  obtain ⟨c0_3, c1_4, c2_5, rfl, rfl, hq2⟩ := hr
  refine j_eq (ws' := [(me, o7 none none (fun _ => 0)), (q1, o1 (some c0_3) (some c1_4) (some c2_5) (upS (upS (upS (upS (upS (fun _ => 0) 3 10) 4 999) 5 20) 6 4) 7 20)), (c0_3, aInt E 5 (fun _ => 0)), (c1_4, aInt E 24 (fun _ => 0)), (c2_5, aInt E 24 (fun _ => 0))]) rfl rfl rfl ?_
  refine j_put G 0 7 0 in7 tyok7 nm7 fl7_12 d7_init_12 rfl rfl (by decide) ⟨rfl, rfl⟩ rfl rfl (Nat.le_of_ble_eq_true rfl) (e := o7 (some q1) none (fun _ => 0)) rfl ?_
  refine j_aload_n G 0 rfl d7_init_15 ?_
  refine j_bipush G d7_init_16 rfl ?_
  refine j_newI (N := 24) G ⟨by decide, by decide⟩ ⟨Nat.le_of_ble_eq_true rfl, Nat.le_of_ble_eq_true rfl⟩ d7_init_18 (fun q6 => ?_)
  refine j_putF G (hin rfl) 0 7 2 in7 tyok7 nm7 fl7_18 d7_init_20 rfl rfl (by decide) ⟨rfl, rfl, rfl⟩ rfl rfl (Nat.le_of_ble_eq_true rfl) (e := o7 (some q1) (some q6) (fun _ => 0)) rfl ?_
  refine j_perm (ws' := [(me, o7 (some q1) (some q6) (fun _ => 0)), (q6, aInt E 24 (fun _ => 0))]) [0, 5] rfl rfl rfl ?_
  refine j_widen (k' := 5) (n' := 87) ⟨Nat.le_of_ble_eq_true rfl, Nat.le_of_ble_eq_true rfl⟩ ?_
  exact j_vret G F d7_init_23 ⟨q1, q6, rfl, rfl, trivial⟩
theorem d3_init_0 : decode c3_init 0 = .ok (.aload_n 0, 1) := by decide +kernel
theorem d3_init_1 : decode c3_init 1 = .ok (.invokespecial 5, 3) := by decide +kernel
theorem d3_init_4 : decode c3_init 4 = .ok (.aload_n 0, 1) := by decide +kernel
theorem d3_init_5 : decode c3_init 5 = .ok (.ldc 11, 2) := by decide +kernel
theorem d3_init_7 : decode c3_init 7 = .ok (.newarray .long, 2) := by decide +kernel
theorem d3_init_9 : decode c3_init 9 = .ok (.putfield 12, 3) := by decide +kernel
theorem d3_init_12 : decode c3_init 12 = .ok (.aload_n 0, 1) := by decide +kernel
theorem d3_init_13 : decode c3_init 13 = .ok (.aload_n 1, 1) := by decide +kernel
theorem d3_init_14 : decode c3_init 14 = .ok (.putfield 16, 3) := by decide +kernel
theorem d3_init_17 : decode c3_init 17 = .ok (.return_, 1) := by decide +kernel
theorem mw3_init : MI y3_init c3_init 2 1 := ⟨cd3_init, ini3, na3_init, im3_init, rfl⟩
set_option maxHeartbeats 4000000 in
set_option maxRecDepth 100000 in
theorem k3_init (l : Launch) (E : En) (me : Nat) (ta : Nat)  : Cm l E y3_init c3_init 2 none { frames := 1, cells := 1, slots := 39852, locals := 12 } [.ref me, .ref ta] [(me, o3 none none (fun _ => 0))] (fun r ws => ∃ (c0 : Nat), r = none ∧ ws = [(me, o3 (some ta) (some c0) (fun _ => 0)), (c0, aLng E 39852 (fun _ => 0))] ∧ True) := by
  refine Cm.of (by decide +kernel) (Nat.le_of_ble_eq_true rfl) (fun Γ A hl hargs hin G F => ?_)
  subst hl
  refine j_aload_n G 0 rfl d3_init_0 ?_
  refine j_objInit G ml3_5 d3_init_1 ⟨Nat.le_of_ble_eq_true rfl, Nat.le_of_ble_eq_true rfl⟩ ?_
  refine j_aload_n G 0 rfl d3_init_4 ?_
  refine j_ldc G 39852 ct3_11 (by decide) d3_init_5 ?_
  refine j_newJ (N := 39852) G ⟨by decide, by decide⟩ ⟨Nat.le_of_ble_eq_true rfl, Nat.le_of_ble_eq_true rfl⟩ d3_init_7 (fun q1 => ?_)
  refine j_putF G (hin rfl) 0 3 3 in3 tyok3 nm3 fl3_12 d3_init_9 rfl rfl (by decide) ⟨rfl, rfl, rfl⟩ rfl rfl (Nat.le_of_ble_eq_true rfl) (e := o3 none (some q1) (fun _ => 0)) rfl ?_
  refine j_aload_n G 0 rfl d3_init_12 ?_
  refine j_aload_n G 1 rfl d3_init_13 ?_
  refine j_putF G (hin rfl) 0 3 0 in3 tyok3 nm3 fl3_16 d3_init_14 rfl rfl (by decide) ⟨rfl, rfl, rfl⟩ rfl rfl (Nat.le_of_ble_eq_true rfl) (e := o3 (some ta) (some q1) (fun _ => 0)) rfl ?_
  refine j_widen (k' := 1) (n' := 39852) ⟨Nat.le_of_ble_eq_true rfl, Nat.le_of_ble_eq_true rfl⟩ ?_
  exact j_vret G F d3_init_17 ⟨q1, rfl, rfl, trivial⟩
theorem d2_init_0 : decode c2_init 0 = .ok (.aload_n 0, 1) := by decide +kernel
theorem d2_init_1 : decode c2_init 1 = .ok (.invokespecial 3, 3) := by decide +kernel
theorem d2_init_4 : decode c2_init 4 = .ok (.aload_n 0, 1) := by decide +kernel
theorem d2_init_5 : decode c2_init 5 = .ok (.bipush 12, 2) := by decide +kernel
theorem d2_init_7 : decode c2_init 7 = .ok (.newarray .int, 2) := by decide +kernel
theorem d2_init_9 : decode c2_init 9 = .ok (.putfield 9, 3) := by decide +kernel
theorem d2_init_12 : decode c2_init 12 = .ok (.aload_n 0, 1) := by decide +kernel
theorem d2_init_13 : decode c2_init 13 = .ok (.aload_n 1, 1) := by decide +kernel
theorem d2_init_14 : decode c2_init 14 = .ok (.putfield 15, 3) := by decide +kernel
theorem d2_init_17 : decode c2_init 17 = .ok (.aload_n 0, 1) := by decide +kernel
theorem d2_init_18 : decode c2_init 18 = .ok (.aload_n 2, 1) := by decide +kernel
theorem d2_init_19 : decode c2_init 19 = .ok (.putfield 19, 3) := by decide +kernel
theorem d2_init_22 : decode c2_init 22 = .ok (.return_, 1) := by decide +kernel
theorem mw2_init : MI y2_init c2_init 3 2 := ⟨cd2_init, ini2, na2_init, im2_init, rfl⟩
set_option maxHeartbeats 4000000 in
set_option maxRecDepth 100000 in
theorem k2_init (l : Launch) (E : En) (me : Nat) (ta : Nat) (la : Nat)  : Cm l E y2_init c2_init 3 none { frames := 1, cells := 1, slots := 12, locals := 12 } [.ref me, .ref ta, .ref la] [(me, o2 none none none (fun _ => 0))] (fun r ws => ∃ (c0 : Nat), r = none ∧ ws = [(me, o2 (some ta) (some la) (some c0) (fun _ => 0)), (c0, aInt E 12 (fun _ => 0))] ∧ True) := by
  refine Cm.of (by decide +kernel) (Nat.le_of_ble_eq_true rfl) (fun Γ A hl hargs hin G F => ?_)
  subst hl
  refine j_aload_n G 0 rfl d2_init_0 ?_
  refine j_objInit G ml2_3 d2_init_1 ⟨Nat.le_of_ble_eq_true rfl, Nat.le_of_ble_eq_true rfl⟩ ?_
  refine j_aload_n G 0 rfl d2_init_4 ?_
  refine j_bipush G d2_init_5 rfl ?_
  refine j_newI (N := 12) G ⟨by decide, by decide⟩ ⟨Nat.le_of_ble_eq_true rfl, Nat.le_of_ble_eq_true rfl⟩ d2_init_7 (fun q1 => ?_)
  refine j_putF G (hin rfl) 0 2 14 in2 tyok2 nm2 fl2_9 d2_init_9 rfl rfl (by decide) ⟨rfl, rfl, rfl⟩ rfl rfl (Nat.le_of_ble_eq_true rfl) (e := o2 none none (some q1) (fun _ => 0)) rfl ?_
  refine j_aload_n G 0 rfl d2_init_12 ?_
  refine j_aload_n G 1 rfl d2_init_13 ?_
  refine j_putF G (hin rfl) 0 2 0 in2 tyok2 nm2 fl2_15 d2_init_14 rfl rfl (by decide) ⟨rfl, rfl, rfl⟩ rfl rfl (Nat.le_of_ble_eq_true rfl) (e := o2 (some ta) none (some q1) (fun _ => 0)) rfl ?_
  refine j_aload_n G 0 rfl d2_init_17 ?_
  refine j_aload_n G 2 rfl d2_init_18 ?_
  refine j_putF G (hin rfl) 0 2 1 in2 tyok2 nm2 fl2_19 d2_init_19 rfl rfl (by decide) ⟨rfl, rfl, rfl⟩ rfl rfl (Nat.le_of_ble_eq_true rfl) (e := o2 (some ta) (some la) (some q1) (fun _ => 0)) rfl ?_
  refine j_widen (k' := 1) (n' := 12) ⟨Nat.le_of_ble_eq_true rfl, Nat.le_of_ble_eq_true rfl⟩ ?_
  exact j_vret G F d2_init_22 ⟨q1, rfl, rfl, trivial⟩
