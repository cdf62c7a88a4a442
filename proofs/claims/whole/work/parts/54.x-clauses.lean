def Bx (p : Prop) : Prop := p
theorem swF_s {U : Int → Int} {n w j : Int} {k : Int} (h : 0 ≤ k) : swF U n w j (k + 1).toNat = swF U n w j k.toNat + (if hdK U n (cpos U n k.toNat) = w ∧ ¬ clV U n (cpos U n k.toNat) (j % 12) (j / 12) = 0 then clN U n (cpos U n k.toNat) else 0) := by
  rw [tn1 h]; rfl
theorem cvF_s {a b : Nat → Int} {k : Int} (h : 0 ≤ k) : cvF a b (k + 1).toNat = tkF (a k.toNat) (b k.toNat) (cvF a b k.toNat) := by rw [tn1 h]; rfl
theorem cpos_s {U : Int → Int} {n k : Int} (h : 1 ≤ k) : cpos U n k.toNat = clE U n (cpos U n (k - 1).toNat) + 1 := by
  rw [show k.toNat = (k - 1).toNat + 1 by omega]; rfl
theorem cvE_n {x : Cx} (h : ¬ x.1 1 = 0) : cvE x = x := if_neg h
theorem cvE_t {x : Cx} (h : x.1 1 = 0) : tkF 0 5 x = cvE x := by
  unfold tkF cvE
  rw [if_pos rfl, if_pos (by omega), if_pos h, h]; rfl
theorem tx_go2 {U : Int → Int} {N n az : Int} {X : Int × Int} (hn : 1 ≤ n ∧ n ≤ 11) (l2 : clOk U N (cpos U N (n - 1).toNat)) (l3 : az = clE U N (cpos U N (n - 1).toNat)) (h59 : nx U N az = 59) (haz : ¬ az = N) (l7 : X = txF U N (13 - n).toNat (n - 1).toNat) : X = txF U N (13 - (n + 1)).toNat n.toNat := by
  rw [l7, show (13 - n).toNat = (13 - (n + 1)).toNat + 1 by omega, txF_go l2 (by rw [← l3]; exact haz) (by rw [← l3]; omega), show (n - 1).toNat + 1 = n.toNat by omega]
theorem tx_go3 {U : Int → Int} {N n az f1 : Int} {X : Int × Int} (hn : 1 ≤ n ∧ n ≤ 11) (l2 : clOk U N (cpos U N (n - 1).toNat)) (l3 : az = clE U N (cpos U N (n - 1).toNat)) (h59 : nx U N az = 59) (haz : ¬ az = N) (l7 : X = txF U N (13 - n).toNat (n - 1).toNat) (q1 : ¬ clOk U N (cpos U N n.toNat)) (q2 : f1 = clE U N (cpos U N n.toNat)) : X = (0, f1) := by
  rw [tx_go2 hn l2 l3 h59 haz l7, show (13 - (n + 1)).toNat = (11 - n).toNat + 1 by omega, txF_bad q1, q2]
theorem d0_clausesOf_0 : decode c0_clausesOf 0 = .ok (.aload_n 0, 1) := by decide +kernel
theorem d0_clausesOf_1 : decode c0_clausesOf 1 = .ok (.aload_n 1, 1) := by decide +kernel
theorem d0_clausesOf_2 : decode c0_clausesOf 2 = .ok (.invokevirtual 28, 3) := by decide +kernel
theorem d0_clausesOf_5 : decode c0_clausesOf 5 = .ok (.iconst 1, 1) := by decide +kernel
theorem d0_clausesOf_6 : decode c0_clausesOf 6 = .ok (.istore_n 2, 1) := by decide +kernel
theorem d0_clausesOf_7 : decode c0_clausesOf 7 = .ok (.iload_n 2, 1) := by decide +kernel
theorem d0_clausesOf_8 : decode c0_clausesOf 8 = .ok (.bipush 12, 2) := by decide +kernel
theorem d0_clausesOf_10 : decode c0_clausesOf 10 = .ok (.if_icmp .ge 33, 3) := by decide +kernel
theorem d0_clausesOf_13 : decode c0_clausesOf 13 = .ok (.aload_n 0, 1) := by decide +kernel
theorem d0_clausesOf_14 : decode c0_clausesOf 14 = .ok (.invokevirtual 32, 3) := by decide +kernel
theorem d0_clausesOf_17 : decode c0_clausesOf 17 = .ok (.bipush 59, 2) := by decide +kernel
theorem d0_clausesOf_19 : decode c0_clausesOf 19 = .ok (.if_icmp .ne 24, 3) := by decide +kernel
theorem d0_clausesOf_22 : decode c0_clausesOf 22 = .ok (.aload_n 0, 1) := by decide +kernel
theorem d0_clausesOf_23 : decode c0_clausesOf 23 = .ok (.dup, 1) := by decide +kernel
theorem d0_clausesOf_24 : decode c0_clausesOf 24 = .ok (.getfield 36, 3) := by decide +kernel
theorem d0_clausesOf_27 : decode c0_clausesOf 27 = .ok (.iconst 1, 1) := by decide +kernel
theorem d0_clausesOf_28 : decode c0_clausesOf 28 = .ok (.iadd, 1) := by decide +kernel
theorem d0_clausesOf_29 : decode c0_clausesOf 29 = .ok (.putfield 36, 3) := by decide +kernel
theorem d0_clausesOf_32 : decode c0_clausesOf 32 = .ok (.aload_n 0, 1) := by decide +kernel
theorem d0_clausesOf_33 : decode c0_clausesOf 33 = .ok (.aload_n 1, 1) := by decide +kernel
theorem d0_clausesOf_34 : decode c0_clausesOf 34 = .ok (.invokevirtual 28, 3) := by decide +kernel
theorem d0_clausesOf_37 : decode c0_clausesOf 37 = .ok (.iinc 2 1, 3) := by decide +kernel
theorem d0_clausesOf_40 : decode c0_clausesOf 40 = .ok (.goto (-33), 3) := by decide +kernel
theorem d0_clausesOf_43 : decode c0_clausesOf 43 = .ok (.aload_n 0, 1) := by decide +kernel
theorem d0_clausesOf_44 : decode c0_clausesOf 44 = .ok (.getfield 36, 3) := by decide +kernel
theorem d0_clausesOf_47 : decode c0_clausesOf 47 = .ok (.aload_n 0, 1) := by decide +kernel
theorem d0_clausesOf_48 : decode c0_clausesOf 48 = .ok (.getfield 25, 3) := by decide +kernel
theorem d0_clausesOf_51 : decode c0_clausesOf 51 = .ok (.if_icmp .ge 7, 3) := by decide +kernel
theorem d0_clausesOf_54 : decode c0_clausesOf 54 = .ok (.aload_n 0, 1) := by decide +kernel
theorem d0_clausesOf_55 : decode c0_clausesOf 55 = .ok (.invokevirtual 39, 3) := by decide +kernel
theorem d0_clausesOf_58 : decode c0_clausesOf 58 = .ok (.aload_n 1, 1) := by decide +kernel
theorem d0_clausesOf_59 : decode c0_clausesOf 59 = .ok (.getfield 42, 3) := by decide +kernel
theorem d0_clausesOf_62 : decode c0_clausesOf 62 = .ok (.ifCond .ne 8, 3) := by decide +kernel
theorem d0_clausesOf_65 : decode c0_clausesOf 65 = .ok (.aload_n 1, 1) := by decide +kernel
theorem d0_clausesOf_66 : decode c0_clausesOf 66 = .ok (.iconst 5, 1) := by decide +kernel
theorem d0_clausesOf_67 : decode c0_clausesOf 67 = .ok (.invokevirtual 47, 3) := by decide +kernel
theorem d0_clausesOf_70 : decode c0_clausesOf 70 = .ok (.aload_n 0, 1) := by decide +kernel
theorem d0_clausesOf_71 : decode c0_clausesOf 71 = .ok (.getfield 9, 3) := by decide +kernel
theorem d0_clausesOf_74 : decode c0_clausesOf 74 = .ok (.ireturn, 1) := by decide +kernel
theorem mw0_clausesOf : MV y0_clausesOf c0_clausesOf 3 (some .int) 1 := ⟨cd0_clausesOf, ini0, na0_clausesOf, im0_clausesOf, se0_clausesOf⟩
set_option maxHeartbeats 4000000 in
set_option maxRecDepth 100000 in
theorem k0_clausesOf (l : Launch) (E : En) (ra : Nat) (ba : Nat) (R : Nat → Int) (tb : Int → Int) (U : Int → Int) (ca : Nat) (pa : Nat) (da : Nat) (sa : Nat) (C : Nat → Int) (P : Int → Int) (dr : Int → Int) (sr : Int → Int) (htb : ∀ j, 0 ≤ j → j < 100 → tb j = U j % 256 ∧ -128 ≤ U j ∧ U j ≤ 127) (hln : 0 ≤ R 1 ∧ R 1 ≤ 100) (hat : 0 ≤ R 2 ∧ R 2 ≤ R 1) (hft : -1 ≤ R 3 ∧ R 3 ≤ 200) (hR2 : R 2 = 0) (hR3 : R 3 = -1) (hCP : C = cv0.1 ∧ P = cv0.2) (hdr : ∀ j, 0 ≤ j → j < 24 → dr j = 0) (hsr : ∀ j, 0 ≤ j → j < 24 → sr j = 0) : Cm l E y0_clausesOf c0_clausesOf 3 (some .int) { frames := 18, cells := 0, slots := 0, locals := 417 } [.ref ra, .ref ca] [(ra, o0 (some ba) R), (ba, aInt E 100 tb), (ca, o1 (some pa) (some da) (some sa) C), (pa, aInt E 5 P), (da, aInt E 24 dr), (sa, aInt E 24 sr)] (fun r ws => ∃ (v : Int), ∃ (at1 : Int), ∃ (ft1 : Int), ∃ (C1 : Nat → Int), ∃ (P1 : Int → Int), ∃ (dr1 : Int → Int), ∃ (sr1 : Int → Int), r = some (.int (iZ v)) ∧ ws = [(ra, o0 (some ba) (upS (upS R 2 at1) 3 ft1)), (ba, aInt E 100 tb), (ca, o1 (some pa) (some da) (some sa) C1), (pa, aInt E 5 P1), (da, aInt E 24 dr1), (sa, aInt E 24 sr1)] ∧ ((0 ≤ v ∧ v ≤ 200 ∧ txF U (R 1) 12 0 = (0, v)) ∨ (v = -1 ∧ (txF U (R 1) 12 0).1 = 1 ∧ (1 ≤ (txF U (R 1) 12 0).2 ∧ (txF U (R 1) 12 0).2 ≤ 12) ∧ C1 = (cvE (cvF (fun i => hdK U (R 1) (cpos U (R 1) i)) (fun i => clN U (R 1) (cpos U (R 1) i)) (txF U (R 1) 12 0).2.toNat)).1 ∧ P1 = (cvE (cvF (fun i => hdK U (R 1) (cpos U (R 1) i)) (fun i => clN U (R 1) (cpos U (R 1) i)) (txF U (R 1) 12 0).2.toNat)).2 ∧ ∀ j, 0 ≤ j → j < 24 → dr1 j = swF U (R 1) 3 j (txF U (R 1) 12 0).2.toNat ∧ sr1 j = swF U (R 1) 7 j (txF U (R 1) 12 0).2.toNat))) := by
  refine Cm.of (by decide +kernel) (Nat.le_of_ble_eq_true rfl) (fun Γ A hl hargs hin G F => ?_)
  subst hl
  have hCPe : (C, P) = cv0 := by rw [hCP.1, hCP.2]
  refine j_aload_n G 0 rfl d0_clausesOf_0 ?_
  refine j_aload_n G 1 rfl d0_clausesOf_1 ?_
  refine j_VM G (rm' := { frames := 17, cells := 0, slots := 0, locals := 394 }) (wc := [(ra, o0 (some ba) R), (ba, aInt E 100 tb), (ca, o1 (some pa) (some da) (some sa) C), (pa, aInt E 5 P), (da, aInt E 24 dr), (sa, aInt E 24 sr)]) (wr := []) (k0_clause (xl Γ) E ra ba R tb U ca pa da sa C P dr sr (by first | assumption | omega | (simp only [upS, reduceIte, Nat.reduceEqDiff, eq_self, List.length_cons, List.length_nil, List.length_append] <;> omega)) (by first | assumption | omega | (simp only [upS, reduceIte, Nat.reduceEqDiff, eq_self, List.length_cons, List.length_nil, List.length_append] <;> omega)) (by first | assumption | omega | (simp only [upS, reduceIte, Nat.reduceEqDiff, eq_self, List.length_cons, List.length_nil, List.length_append] <;> omega)) (by first | assumption | omega | (simp only [upS, reduceIte, Nat.reduceEqDiff, eq_self, List.length_cons, List.length_nil, List.length_append] <;> omega)) (by omega) (by rw [hCP.1]; decide)) mw0_clause ml0_28 [0, 1, 2, 3, 4, 5] [] rfl rfl ⟨rfl, rfl⟩ (by decide) 0 0 rfl rfl rfl ⟨Nat.le_of_ble_eq_true rfl, Nat.le_of_ble_eq_true rfl⟩ rfl (rest := []) rfl (Nat.le_of_ble_eq_true rfl) d0_clausesOf_2 ⟨Nat.le_of_ble_eq_true rfl, Nat.le_of_ble_eq_true rfl⟩ (fun r w1 hr => ?_)
  obtain ⟨at1_2, ft1_3, C1_4, P1_5, dr1_6, sr1_7, rfl, rfl, ⟨hq1_0, hq1_1, hq1_2, hq1_3⟩⟩ := hr
  refine j_eq (ws' := [(ra, o0 (some ba) (upS (upS R 2 at1_2) 3 ft1_3)), (ba, aInt E 100 tb), (ca, o1 (some pa) (some da) (some sa) C1_4), (pa, aInt E 5 P1_5), (da, aInt E 24 dr1_6), (sa, aInt E 24 sr1_7)]) rfl rfl rfl ?_
  have hc0 := hq1_0
  have hc1 := hq1_1
  have hc2 := hq1_2
  have hc3 := hq1_3
  have hS1 : Bx ((ft1_3 = -1 ∧ clOk U (R 1) (cpos U (R 1) ((1 : Int) - 1).toNat) ∧ at1_2 = clE U (R 1) (cpos U (R 1) ((1 : Int) - 1).toNat) ∧ C1_4 = ((cvF (fun i => hdK U (R 1) (cpos U (R 1) i)) (fun i => clN U (R 1) (cpos U (R 1) i)) (1 : Int).toNat)).1 ∧ P1_5 = ((cvF (fun i => hdK U (R 1) (cpos U (R 1) i)) (fun i => clN U (R 1) (cpos U (R 1) i)) (1 : Int).toNat)).2 ∧ (∀ j, 0 ≤ j → j < 24 → dr1_6 j = swF U (R 1) 3 j (1 : Int).toNat ∧ sr1_7 j = swF U (R 1) 7 j (1 : Int).toNat) ∧ txF U (R 1) 12 0 = txF U (R 1) (13 - (1 : Int)).toNat ((1 : Int) - 1).toNat) ∨ (0 ≤ ft1_3 ∧ txF U (R 1) 12 0 = (0, ft1_3))) := by unfold Bx; rcases hc0 with ⟨q1, q2, q3, q4, q5, q6, q7⟩ | ⟨q1, q2, q3⟩; (rw [hR2] at q1 q2 q4 q5 q6 q7; rw [hCPe] at q4 q5; left; exact ⟨by omega, q1, q2, q4, q5, fun j a b => ⟨by rw [q6 j a b, hdr j a b]; rfl, by rw [q7 j a b, hsr j a b]; rfl⟩, rfl⟩); (rw [hR2] at q1 q2; right; exact ⟨q3, (txF_bad q1).trans (by rw [q2]; rfl)⟩)
  clear hc0 hq1_0
  refine j_iconst G d0_clausesOf_5 ?_
  refine j_istore_n G d0_clausesOf_6 (by decide) rfl ?_
  have lp7 : ∀ (fu : Nat) (n : Int) (az : Int) (f : Int) (Cn : Nat → Int) (Pn : Int → Int) (dn : Int → Int) (sn : Int → Int), (12 - n).toNat < fu → (1 ≤ n ∧ n ≤ 12) → (0 ≤ az ∧ az ≤ R 1) → (-1 ≤ f ∧ f ≤ 200) → (0 ≤ Cn 1 ∧ Cn 1 ≤ 5) → (Bx ((f = -1 ∧ clOk U (R 1) (cpos U (R 1) (n - 1).toNat) ∧ az = clE U (R 1) (cpos U (R 1) (n - 1).toNat) ∧ Cn = ((cvF (fun i => hdK U (R 1) (cpos U (R 1) i)) (fun i => clN U (R 1) (cpos U (R 1) i)) n.toNat)).1 ∧ Pn = ((cvF (fun i => hdK U (R 1) (cpos U (R 1) i)) (fun i => clN U (R 1) (cpos U (R 1) i)) n.toNat)).2 ∧ (∀ j, 0 ≤ j → j < 24 → dn j = swF U (R 1) 3 j n.toNat ∧ sn j = swF U (R 1) 7 j n.toNat) ∧ txF U (R 1) 12 0 = txF U (R 1) (13 - n).toNat (n - 1).toNat) ∨ (0 ≤ f ∧ txF U (R 1) 12 0 = (0, f)))) →  J E 3 Γ (some A) 0 0 [(ra, o0 (some ba) (upS (upS R 2 az) 3 f)), (ba, aInt E 100 tb), (ca, o1 (some pa) (some da) (some sa) Cn), (pa, aInt E 5 Pn), (da, aInt E 24 dn), (sa, aInt E 24 sn)] 7 [(2, .int (iZ n)), (0, .ref ra), (1, .ref ca)] [] := by
    intro fu
    induction fu with
    | zero =>
      intro n az f Cn Pn dn sn hm
      exact absurd hm (Nat.not_lt_zero _)
    | succ fu ih7 =>
      intro n az f Cn Pn dn sn hm hn haz hf hCn hS
      refine j_iload_n G 0 rfl d0_clausesOf_7 ?_
      refine j_bipush G d0_clausesOf_8 rfl ?_
      refine j_icmp_ge (tgt := 43) G d0_clausesOf_10 (by decide) (by omega) (by decide) (fun h8 => ?_) (fun h8 => ?_)
      ·
        refine j_aload_n G 1 rfl d0_clausesOf_43 ?_
        refine j_get G 0 0 2 in0 fl0_36 d0_clausesOf_44 rfl rfl (by decide) (v := .int (iZ az)) rfl rfl ?_
        refine j_aload_n G 1 rfl d0_clausesOf_47 ?_
        refine j_get G 0 0 1 in0 fl0_25 d0_clausesOf_48 rfl rfl (by decide) (v := .int (iZ (R 1))) rfl rfl ?_
        refine j_icmp_ge (tgt := 58) G d0_clausesOf_51 (by decide) (by omega) (by omega) (fun h9 => ?_) (fun h9 => ?_)
        ·
          have hst : (13 - n).toNat = (12 - n).toNat + 1 := by omega
          have hfin : (0 ≤ f ∧ txF U (R 1) 12 0 = (0, f)) ∨ (f = -1 ∧ txF U (R 1) 12 0 = (1, n) ∧ Cn = ((cvF (fun i => hdK U (R 1) (cpos U (R 1) i)) (fun i => clN U (R 1) (cpos U (R 1) i)) n.toNat)).1 ∧ Pn = ((cvF (fun i => hdK U (R 1) (cpos U (R 1) i)) (fun i => clN U (R 1) (cpos U (R 1) i)) n.toNat)).2 ∧ ∀ j, 0 ≤ j → j < 24 → dn j = swF U (R 1) 3 j n.toNat ∧ sn j = swF U (R 1) 7 j n.toNat) := by rcases hS with ⟨l1, l2, l3, l4, l5, l6, l7⟩ | ⟨d1, d2⟩; (right; rw [hst, txF_end l2 (by omega)] at l7; exact ⟨l1, l7.trans (by rw [show (((n - 1).toNat : Nat) : Int) + 1 = n by omega]), l4, l5, l6⟩); (left; exact ⟨d1, d2⟩)
          refine j_aload_n G 2 rfl d0_clausesOf_58 ?_
          refine j_get G 2 1 1 in1 fl0_42 d0_clausesOf_59 rfl rfl (by decide) (v := .int (iZ (Cn 1))) rfl rfl ?_
          refine j_if_ne (tgt := 70) G d0_clausesOf_62 (by decide) (by omega) (fun h10 => ?_) (fun h10 => ?_)
          ·
            refine j_aload_n G 1 rfl d0_clausesOf_70 ?_
            refine j_get G 0 0 3 in0 fl0_9 d0_clausesOf_71 rfl rfl (by decide) (v := .int (iZ f)) rfl rfl ?_
            exact j_iret G F d0_clausesOf_74 ⟨f, az, f, Cn, Pn, dn, sn, rfl, rfl, (by rcases hfin with ⟨q1, q2⟩ | ⟨q1, q2, q3, q4, q5⟩; (left; exact ⟨q1, by omega, q2⟩); (right; have hx : (Cn, Pn) = (cvF (fun i => hdK U (R 1) (cpos U (R 1) i)) (fun i => clN U (R 1) (cpos U (R 1) i)) n.toNat) := (by rw [q3, q4]); rw [q2]; first | (have hz1 := hz0; have hce := cvE_t (x := (cvF (fun i => hdK U (R 1) (cpos U (R 1) i)) (fun i => clN U (R 1) (cpos U (R 1) i)) n.toNat)) (by rw [← q3]; exact hz1); rw [hx, hce] at ht0 ht1; exact ⟨q1, rfl, by omega, ht0, ht1, q5⟩) | (have hce := cvE_n (x := (cvF (fun i => hdK U (R 1) (cpos U (R 1) i)) (fun i => clN U (R 1) (cpos U (R 1) i)) n.toNat)) (by rw [← q3]; omega); refine ⟨q1, rfl, by omega, ?_, ?_, q5⟩; (show Cn = (cvE (cvF (fun i => hdK U (R 1) (cpos U (R 1) i)) (fun i => clN U (R 1) (cpos U (R 1) i)) n.toNat)).1; rw [hce]; exact q3); (show Pn = (cvE (cvF (fun i => hdK U (R 1) (cpos U (R 1) i)) (fun i => clN U (R 1) (cpos U (R 1) i)) n.toNat)).2; rw [hce]; exact q4))))⟩
          ·
            have hz0 : Cn 1 = 0 := by omega
            refine j_aload_n G 2 rfl d0_clausesOf_65 ?_
            refine j_iconst G d0_clausesOf_66 ?_
            refine j_VM G (rm' := { frames := 0, cells := 0, slots := 0, locals := 0 }) (wc := [(ca, o1 (some pa) (some da) (some sa) Cn), (pa, aInt E 5 Pn)]) (wr := [(ra, o0 (some ba) (upS (upS R 2 az) 3 f)), (ba, aInt E 100 tb), (da, aInt E 24 dn), (sa, aInt E 24 sn)]) (k1_addPart (xl Γ) E ca pa da sa Cn Pn 5 (by first | assumption | omega | (simp only [upS, reduceIte, Nat.reduceEqDiff, eq_self, List.length_cons, List.length_nil, List.length_append] <;> omega))) mw1_addPart ml0_47 [2, 3] [0, 1, 4, 5] rfl rfl ⟨rfl, rfl⟩ (by decide) 2 1 rfl rfl rfl ⟨Nat.le_of_ble_eq_true rfl, Nat.le_of_ble_eq_true rfl⟩ rfl (rest := []) rfl (Nat.le_of_ble_eq_true rfl) d0_clausesOf_67 ⟨Nat.le_of_ble_eq_true rfl, Nat.le_of_ble_eq_true rfl⟩ (fun r w1 hr => ?_)
            obtain ⟨C1_12, P1_13, rfl, rfl, ⟨hq11_0, hq11_1⟩⟩ := hr
            refine j_eq (ws' := [(ra, o0 (some ba) (upS (upS R 2 az) 3 f)), (ba, aInt E 100 tb), (da, aInt E 24 dn), (sa, aInt E 24 sn), (ca, o1 (some pa) (some da) (some sa) C1_12), (pa, aInt E 5 P1_13)]) rfl rfl rfl ?_
            have ht0 := hq11_0
            have ht1 := hq11_1
            refine j_aload_n G 1 rfl d0_clausesOf_70 ?_
            refine j_get G 0 0 3 in0 fl0_9 d0_clausesOf_71 rfl rfl (by decide) (v := .int (iZ f)) rfl rfl ?_
            refine j_perm (ws' := [(ra, o0 (some ba) (upS (upS R 2 az) 3 f)), (ba, aInt E 100 tb), (ca, o1 (some pa) (some da) (some sa) C1_12), (pa, aInt E 5 P1_13), (da, aInt E 24 dn), (sa, aInt E 24 sn)]) [0, 1, 4, 5, 2, 3] rfl rfl rfl ?_
            exact j_iret G F d0_clausesOf_74 ⟨f, az, f, C1_12, P1_13, dn, sn, rfl, rfl, (by rcases hfin with ⟨q1, q2⟩ | ⟨q1, q2, q3, q4, q5⟩; (left; exact ⟨q1, by omega, q2⟩); (right; have hx : (Cn, Pn) = (cvF (fun i => hdK U (R 1) (cpos U (R 1) i)) (fun i => clN U (R 1) (cpos U (R 1) i)) n.toNat) := (by rw [q3, q4]); rw [q2]; first | (have hz1 := hz0; have hce := cvE_t (x := (cvF (fun i => hdK U (R 1) (cpos U (R 1) i)) (fun i => clN U (R 1) (cpos U (R 1) i)) n.toNat)) (by rw [← q3]; exact hz1); rw [hx, hce] at ht0 ht1; exact ⟨q1, rfl, by omega, ht0, ht1, q5⟩) | (have hce := cvE_n (x := (cvF (fun i => hdK U (R 1) (cpos U (R 1) i)) (fun i => clN U (R 1) (cpos U (R 1) i)) n.toNat)) (by rw [← q3]; omega); refine ⟨q1, rfl, by omega, ?_, ?_, q5⟩; (show Cn = (cvE (cvF (fun i => hdK U (R 1) (cpos U (R 1) i)) (fun i => clN U (R 1) (cpos U (R 1) i)) n.toNat)).1; rw [hce]; exact q3); (show Pn = (cvE (cvF (fun i => hdK U (R 1) (cpos U (R 1) i)) (fun i => clN U (R 1) (cpos U (R 1) i)) n.toNat)).2; rw [hce]; exact q4))))⟩
        ·
          refine j_aload_n G 1 rfl d0_clausesOf_54 ?_
          refine j_VM G (rm' := { frames := 0, cells := 0, slots := 0, locals := 0 }) (wc := [(ra, o0 (some ba) (upS (upS R 2 az) 3 f))]) (wr := [(ba, aInt E 100 tb), (ca, o1 (some pa) (some da) (some sa) Cn), (pa, aInt E 5 Pn), (da, aInt E 24 dn), (sa, aInt E 24 sn)]) (k0_fail (xl Γ) E ra ba (upS (upS R 2 az) 3 f) (by first | assumption | omega | (simp only [upS, reduceIte, Nat.reduceEqDiff, eq_self, List.length_cons, List.length_nil, List.length_append] <;> omega)) (by first | assumption | omega | (simp only [upS, reduceIte, Nat.reduceEqDiff, eq_self, List.length_cons, List.length_nil, List.length_append] <;> omega))) mw0_fail ml0_39 [0] [1, 2, 3, 4, 5] rfl rfl ⟨rfl, rfl⟩ (by decide) 0 0 rfl rfl rfl ⟨Nat.le_of_ble_eq_true rfl, Nat.le_of_ble_eq_true rfl⟩ rfl (rest := []) rfl (Nat.le_of_ble_eq_true rfl) d0_clausesOf_55 ⟨Nat.le_of_ble_eq_true rfl, Nat.le_of_ble_eq_true rfl⟩ (fun r w1 hr => ?_)
          obtain ⟨ft1_15, rfl, rfl, ⟨hq14_0, hq14_1⟩⟩ := hr
          refine j_eq (ws' := [(ba, aInt E 100 tb), (ca, o1 (some pa) (some da) (some sa) Cn), (pa, aInt E 5 Pn), (da, aInt E 24 dn), (sa, aInt E 24 sn), (ra, o0 (some ba) (upS (upS R 2 az) 3 ft1_15))]) rfl rfl rfl ?_
          try simp only [upS, reduceIte, Nat.reduceEqDiff, eq_self] at hq14_0 hq14_1
          have hf0 := hq14_0
          have hf1 := hq14_1
          have hst : (13 - n).toNat = (12 - n).toNat + 1 := by omega
          have hfin : (0 ≤ ft1_15 ∧ txF U (R 1) 12 0 = (0, ft1_15)) ∨ (ft1_15 = -1 ∧ txF U (R 1) 12 0 = (1, n) ∧ Cn = ((cvF (fun i => hdK U (R 1) (cpos U (R 1) i)) (fun i => clN U (R 1) (cpos U (R 1) i)) n.toNat)).1 ∧ Pn = ((cvF (fun i => hdK U (R 1) (cpos U (R 1) i)) (fun i => clN U (R 1) (cpos U (R 1) i)) n.toNat)).2 ∧ ∀ j, 0 ≤ j → j < 24 → dn j = swF U (R 1) 3 j n.toNat ∧ sn j = swF U (R 1) 7 j n.toNat) := by rcases hS with ⟨l1, l2, l3, l4, l5, l6, l7⟩ | ⟨d1, d2⟩; (left; rw [hst, txF_stop l2 (by omega) (by first | (left; omega) | (right; rw [← l3]; refine fun z => absurd ((hpC 59 (by decide) (by decide)).2 ⟨by omega, z⟩) ?_; omega)), ← l3] at l7; rw [show ft1_15 = az by omega]; exact ⟨by omega, l7⟩); (left; rw [show ft1_15 = f by omega]; exact ⟨d1, d2⟩)
          refine j_aload_n G 2 rfl d0_clausesOf_58 ?_
          refine j_get G 1 1 1 in1 fl0_42 d0_clausesOf_59 rfl rfl (by decide) (v := .int (iZ (Cn 1))) rfl rfl ?_
          refine j_if_ne (tgt := 70) G d0_clausesOf_62 (by decide) (by omega) (fun h16 => ?_) (fun h16 => ?_)
          ·
            refine j_aload_n G 1 rfl d0_clausesOf_70 ?_
            refine j_get G 5 0 3 in0 fl0_9 d0_clausesOf_71 rfl rfl (by decide) (v := .int (iZ ft1_15)) rfl rfl ?_
            refine j_perm (ws' := [(ra, o0 (some ba) (upS (upS R 2 az) 3 ft1_15)), (ba, aInt E 100 tb), (ca, o1 (some pa) (some da) (some sa) Cn), (pa, aInt E 5 Pn), (da, aInt E 24 dn), (sa, aInt E 24 sn)]) [5, 0, 1, 2, 3, 4] rfl rfl rfl ?_
            exact j_iret G F d0_clausesOf_74 ⟨ft1_15, az, ft1_15, Cn, Pn, dn, sn, rfl, rfl, (by rcases hfin with ⟨q1, q2⟩ | ⟨q1, q2, q3, q4, q5⟩; (left; exact ⟨q1, by omega, q2⟩); (right; have hx : (Cn, Pn) = (cvF (fun i => hdK U (R 1) (cpos U (R 1) i)) (fun i => clN U (R 1) (cpos U (R 1) i)) n.toNat) := (by rw [q3, q4]); rw [q2]; first | (have hz1 := hz0; have hce := cvE_t (x := (cvF (fun i => hdK U (R 1) (cpos U (R 1) i)) (fun i => clN U (R 1) (cpos U (R 1) i)) n.toNat)) (by rw [← q3]; exact hz1); rw [hx, hce] at ht0 ht1; exact ⟨q1, rfl, by omega, ht0, ht1, q5⟩) | (have hce := cvE_n (x := (cvF (fun i => hdK U (R 1) (cpos U (R 1) i)) (fun i => clN U (R 1) (cpos U (R 1) i)) n.toNat)) (by rw [← q3]; omega); refine ⟨q1, rfl, by omega, ?_, ?_, q5⟩; (show Cn = (cvE (cvF (fun i => hdK U (R 1) (cpos U (R 1) i)) (fun i => clN U (R 1) (cpos U (R 1) i)) n.toNat)).1; rw [hce]; exact q3); (show Pn = (cvE (cvF (fun i => hdK U (R 1) (cpos U (R 1) i)) (fun i => clN U (R 1) (cpos U (R 1) i)) n.toNat)).2; rw [hce]; exact q4))))⟩
          ·
            have hz0 : Cn 1 = 0 := by omega
            refine j_aload_n G 2 rfl d0_clausesOf_65 ?_
            refine j_iconst G d0_clausesOf_66 ?_
            refine j_VM G (rm' := { frames := 0, cells := 0, slots := 0, locals := 0 }) (wc := [(ca, o1 (some pa) (some da) (some sa) Cn), (pa, aInt E 5 Pn)]) (wr := [(ba, aInt E 100 tb), (da, aInt E 24 dn), (sa, aInt E 24 sn), (ra, o0 (some ba) (upS (upS R 2 az) 3 ft1_15))]) (k1_addPart (xl Γ) E ca pa da sa Cn Pn 5 (by first | assumption | omega | (simp only [upS, reduceIte, Nat.reduceEqDiff, eq_self, List.length_cons, List.length_nil, List.length_append] <;> omega))) mw1_addPart ml0_47 [1, 2] [0, 3, 4, 5] rfl rfl ⟨rfl, rfl⟩ (by decide) 1 1 rfl rfl rfl ⟨Nat.le_of_ble_eq_true rfl, Nat.le_of_ble_eq_true rfl⟩ rfl (rest := []) rfl (Nat.le_of_ble_eq_true rfl) d0_clausesOf_67 ⟨Nat.le_of_ble_eq_true rfl, Nat.le_of_ble_eq_true rfl⟩ (fun r w1 hr => ?_)
            obtain ⟨C1_18, P1_19, rfl, rfl, ⟨hq17_0, hq17_1⟩⟩ := hr
            refine j_eq (ws' := [(ba, aInt E 100 tb), (da, aInt E 24 dn), (sa, aInt E 24 sn), (ra, o0 (some ba) (upS (upS R 2 az) 3 ft1_15)), (ca, o1 (some pa) (some da) (some sa) C1_18), (pa, aInt E 5 P1_19)]) rfl rfl rfl ?_
            have ht0 := hq17_0
            have ht1 := hq17_1
            refine j_aload_n G 1 rfl d0_clausesOf_70 ?_
            refine j_get G 3 0 3 in0 fl0_9 d0_clausesOf_71 rfl rfl (by decide) (v := .int (iZ ft1_15)) rfl rfl ?_
            refine j_perm (ws' := [(ra, o0 (some ba) (upS (upS R 2 az) 3 ft1_15)), (ba, aInt E 100 tb), (ca, o1 (some pa) (some da) (some sa) C1_18), (pa, aInt E 5 P1_19), (da, aInt E 24 dn), (sa, aInt E 24 sn)]) [3, 0, 4, 5, 1, 2] rfl rfl rfl ?_
            exact j_iret G F d0_clausesOf_74 ⟨ft1_15, az, ft1_15, C1_18, P1_19, dn, sn, rfl, rfl, (by rcases hfin with ⟨q1, q2⟩ | ⟨q1, q2, q3, q4, q5⟩; (left; exact ⟨q1, by omega, q2⟩); (right; have hx : (Cn, Pn) = (cvF (fun i => hdK U (R 1) (cpos U (R 1) i)) (fun i => clN U (R 1) (cpos U (R 1) i)) n.toNat) := (by rw [q3, q4]); rw [q2]; first | (have hz1 := hz0; have hce := cvE_t (x := (cvF (fun i => hdK U (R 1) (cpos U (R 1) i)) (fun i => clN U (R 1) (cpos U (R 1) i)) n.toNat)) (by rw [← q3]; exact hz1); rw [hx, hce] at ht0 ht1; exact ⟨q1, rfl, by omega, ht0, ht1, q5⟩) | (have hce := cvE_n (x := (cvF (fun i => hdK U (R 1) (cpos U (R 1) i)) (fun i => clN U (R 1) (cpos U (R 1) i)) n.toNat)) (by rw [← q3]; omega); refine ⟨q1, rfl, by omega, ?_, ?_, q5⟩; (show Cn = (cvE (cvF (fun i => hdK U (R 1) (cpos U (R 1) i)) (fun i => clN U (R 1) (cpos U (R 1) i)) n.toNat)).1; rw [hce]; exact q3); (show Pn = (cvE (cvF (fun i => hdK U (R 1) (cpos U (R 1) i)) (fun i => clN U (R 1) (cpos U (R 1) i)) n.toNat)).2; rw [hce]; exact q4))))⟩
      ·
        refine j_aload_n G 1 rfl d0_clausesOf_13 ?_
        refine j_VP G (k0_peek (xl Γ) E ra ba (upS (upS R 2 az) 3 f) tb U (by first | assumption | omega | (simp only [upS, reduceIte, Nat.reduceEqDiff, eq_self, List.length_cons, List.length_nil, List.length_append] <;> omega)) (by first | assumption | omega | (simp only [upS, reduceIte, Nat.reduceEqDiff, eq_self, List.length_cons, List.length_nil, List.length_append] <;> omega)) (by first | assumption | omega | (simp only [upS, reduceIte, Nat.reduceEqDiff, eq_self, List.length_cons, List.length_nil, List.length_append] <;> omega)) (by first | assumption | omega | (simp only [upS, reduceIte, Nat.reduceEqDiff, eq_self, List.length_cons, List.length_nil, List.length_append] <;> omega))) mw0_peek ml0_32 [0, 1] rfl 0 0 rfl rfl rfl ⟨Nat.le_of_ble_eq_true rfl, Nat.le_of_ble_eq_true rfl⟩ rfl (rest := []) rfl (Nat.le_of_ble_eq_true rfl) d0_clausesOf_14 ⟨Nat.le_of_ble_eq_true rfl, Nat.le_of_ble_eq_true rfl⟩ (fun r hr => ?_)
        obtain ⟨v21, rfl, ⟨hq20_0, hq20_1, hq20_2, hq20_3, hq20_4⟩⟩ := hr
        try simp only [upS, reduceIte, Nat.reduceEqDiff, eq_self] at hq20_0 hq20_1 hq20_2 hq20_3 hq20_4
        have hpC := pk_of hq20_0 hq20_1 hq20_2
        have hp2 := hq20_2
        have hp3 := hq20_3
        clear hq20_0 hq20_1 hq20_4
        refine j_bipush G d0_clausesOf_17 rfl ?_
        refine j_icmp_ne (tgt := 43) G d0_clausesOf_19 (by decide) (r32_pk hp2) (by decide) (fun h22 => ?_) (fun h22 => ?_)
        ·
          refine j_aload_n G 1 rfl d0_clausesOf_43 ?_
          refine j_get G 0 0 2 in0 fl0_36 d0_clausesOf_44 rfl rfl (by decide) (v := .int (iZ az)) rfl rfl ?_
          refine j_aload_n G 1 rfl d0_clausesOf_47 ?_
          refine j_get G 0 0 1 in0 fl0_25 d0_clausesOf_48 rfl rfl (by decide) (v := .int (iZ (R 1))) rfl rfl ?_
          refine j_icmp_ge (tgt := 58) G d0_clausesOf_51 (by decide) (by omega) (by omega) (fun h23 => ?_) (fun h23 => ?_)
          ·
            have hst : (13 - n).toNat = (12 - n).toNat + 1 := by omega
            have hfin : (0 ≤ f ∧ txF U (R 1) 12 0 = (0, f)) ∨ (f = -1 ∧ txF U (R 1) 12 0 = (1, n) ∧ Cn = ((cvF (fun i => hdK U (R 1) (cpos U (R 1) i)) (fun i => clN U (R 1) (cpos U (R 1) i)) n.toNat)).1 ∧ Pn = ((cvF (fun i => hdK U (R 1) (cpos U (R 1) i)) (fun i => clN U (R 1) (cpos U (R 1) i)) n.toNat)).2 ∧ ∀ j, 0 ≤ j → j < 24 → dn j = swF U (R 1) 3 j n.toNat ∧ sn j = swF U (R 1) 7 j n.toNat) := by rcases hS with ⟨l1, l2, l3, l4, l5, l6, l7⟩ | ⟨d1, d2⟩; (right; rw [hst, txF_end l2 (by omega)] at l7; exact ⟨l1, l7.trans (by rw [show (((n - 1).toNat : Nat) : Int) + 1 = n by omega]), l4, l5, l6⟩); (left; exact ⟨d1, d2⟩)
            refine j_aload_n G 2 rfl d0_clausesOf_58 ?_
            refine j_get G 2 1 1 in1 fl0_42 d0_clausesOf_59 rfl rfl (by decide) (v := .int (iZ (Cn 1))) rfl rfl ?_
            refine j_if_ne (tgt := 70) G d0_clausesOf_62 (by decide) (by omega) (fun h24 => ?_) (fun h24 => ?_)
            ·
              refine j_aload_n G 1 rfl d0_clausesOf_70 ?_
              refine j_get G 0 0 3 in0 fl0_9 d0_clausesOf_71 rfl rfl (by decide) (v := .int (iZ f)) rfl rfl ?_
              exact j_iret G F d0_clausesOf_74 ⟨f, az, f, Cn, Pn, dn, sn, rfl, rfl, (by rcases hfin with ⟨q1, q2⟩ | ⟨q1, q2, q3, q4, q5⟩; (left; exact ⟨q1, by omega, q2⟩); (right; have hx : (Cn, Pn) = (cvF (fun i => hdK U (R 1) (cpos U (R 1) i)) (fun i => clN U (R 1) (cpos U (R 1) i)) n.toNat) := (by rw [q3, q4]); rw [q2]; first | (have hz1 := hz0; have hce := cvE_t (x := (cvF (fun i => hdK U (R 1) (cpos U (R 1) i)) (fun i => clN U (R 1) (cpos U (R 1) i)) n.toNat)) (by rw [← q3]; exact hz1); rw [hx, hce] at ht0 ht1; exact ⟨q1, rfl, by omega, ht0, ht1, q5⟩) | (have hce := cvE_n (x := (cvF (fun i => hdK U (R 1) (cpos U (R 1) i)) (fun i => clN U (R 1) (cpos U (R 1) i)) n.toNat)) (by rw [← q3]; omega); refine ⟨q1, rfl, by omega, ?_, ?_, q5⟩; (show Cn = (cvE (cvF (fun i => hdK U (R 1) (cpos U (R 1) i)) (fun i => clN U (R 1) (cpos U (R 1) i)) n.toNat)).1; rw [hce]; exact q3); (show Pn = (cvE (cvF (fun i => hdK U (R 1) (cpos U (R 1) i)) (fun i => clN U (R 1) (cpos U (R 1) i)) n.toNat)).2; rw [hce]; exact q4))))⟩
            ·
              have hz0 : Cn 1 = 0 := by omega
              refine j_aload_n G 2 rfl d0_clausesOf_65 ?_
              refine j_iconst G d0_clausesOf_66 ?_
              refine j_VM G (rm' := { frames := 0, cells := 0, slots := 0, locals := 0 }) (wc := [(ca, o1 (some pa) (some da) (some sa) Cn), (pa, aInt E 5 Pn)]) (wr := [(ra, o0 (some ba) (upS (upS R 2 az) 3 f)), (ba, aInt E 100 tb), (da, aInt E 24 dn), (sa, aInt E 24 sn)]) (k1_addPart (xl Γ) E ca pa da sa Cn Pn 5 (by first | assumption | omega | (simp only [upS, reduceIte, Nat.reduceEqDiff, eq_self, List.length_cons, List.length_nil, List.length_append] <;> omega))) mw1_addPart ml0_47 [2, 3] [0, 1, 4, 5] rfl rfl ⟨rfl, rfl⟩ (by decide) 2 1 rfl rfl rfl ⟨Nat.le_of_ble_eq_true rfl, Nat.le_of_ble_eq_true rfl⟩ rfl (rest := []) rfl (Nat.le_of_ble_eq_true rfl) d0_clausesOf_67 ⟨Nat.le_of_ble_eq_true rfl, Nat.le_of_ble_eq_true rfl⟩ (fun r w1 hr => ?_)
              obtain ⟨C1_26, P1_27, rfl, rfl, ⟨hq25_0, hq25_1⟩⟩ := hr
              refine j_eq (ws' := [(ra, o0 (some ba) (upS (upS R 2 az) 3 f)), (ba, aInt E 100 tb), (da, aInt E 24 dn), (sa, aInt E 24 sn), (ca, o1 (some pa) (some da) (some sa) C1_26), (pa, aInt E 5 P1_27)]) rfl rfl rfl ?_
              have ht0 := hq25_0
              have ht1 := hq25_1
              refine j_aload_n G 1 rfl d0_clausesOf_70 ?_
              refine j_get G 0 0 3 in0 fl0_9 d0_clausesOf_71 rfl rfl (by decide) (v := .int (iZ f)) rfl rfl ?_
              refine j_perm (ws' := [(ra, o0 (some ba) (upS (upS R 2 az) 3 f)), (ba, aInt E 100 tb), (ca, o1 (some pa) (some da) (some sa) C1_26), (pa, aInt E 5 P1_27), (da, aInt E 24 dn), (sa, aInt E 24 sn)]) [0, 1, 4, 5, 2, 3] rfl rfl rfl ?_
              exact j_iret G F d0_clausesOf_74 ⟨f, az, f, C1_26, P1_27, dn, sn, rfl, rfl, (by rcases hfin with ⟨q1, q2⟩ | ⟨q1, q2, q3, q4, q5⟩; (left; exact ⟨q1, by omega, q2⟩); (right; have hx : (Cn, Pn) = (cvF (fun i => hdK U (R 1) (cpos U (R 1) i)) (fun i => clN U (R 1) (cpos U (R 1) i)) n.toNat) := (by rw [q3, q4]); rw [q2]; first | (have hz1 := hz0; have hce := cvE_t (x := (cvF (fun i => hdK U (R 1) (cpos U (R 1) i)) (fun i => clN U (R 1) (cpos U (R 1) i)) n.toNat)) (by rw [← q3]; exact hz1); rw [hx, hce] at ht0 ht1; exact ⟨q1, rfl, by omega, ht0, ht1, q5⟩) | (have hce := cvE_n (x := (cvF (fun i => hdK U (R 1) (cpos U (R 1) i)) (fun i => clN U (R 1) (cpos U (R 1) i)) n.toNat)) (by rw [← q3]; omega); refine ⟨q1, rfl, by omega, ?_, ?_, q5⟩; (show Cn = (cvE (cvF (fun i => hdK U (R 1) (cpos U (R 1) i)) (fun i => clN U (R 1) (cpos U (R 1) i)) n.toNat)).1; rw [hce]; exact q3); (show Pn = (cvE (cvF (fun i => hdK U (R 1) (cpos U (R 1) i)) (fun i => clN U (R 1) (cpos U (R 1) i)) n.toNat)).2; rw [hce]; exact q4))))⟩
          ·
            refine j_aload_n G 1 rfl d0_clausesOf_54 ?_
            refine j_VM G (rm' := { frames := 0, cells := 0, slots := 0, locals := 0 }) (wc := [(ra, o0 (some ba) (upS (upS R 2 az) 3 f))]) (wr := [(ba, aInt E 100 tb), (ca, o1 (some pa) (some da) (some sa) Cn), (pa, aInt E 5 Pn), (da, aInt E 24 dn), (sa, aInt E 24 sn)]) (k0_fail (xl Γ) E ra ba (upS (upS R 2 az) 3 f) (by first | assumption | omega | (simp only [upS, reduceIte, Nat.reduceEqDiff, eq_self, List.length_cons, List.length_nil, List.length_append] <;> omega)) (by first | assumption | omega | (simp only [upS, reduceIte, Nat.reduceEqDiff, eq_self, List.length_cons, List.length_nil, List.length_append] <;> omega))) mw0_fail ml0_39 [0] [1, 2, 3, 4, 5] rfl rfl ⟨rfl, rfl⟩ (by decide) 0 0 rfl rfl rfl ⟨Nat.le_of_ble_eq_true rfl, Nat.le_of_ble_eq_true rfl⟩ rfl (rest := []) rfl (Nat.le_of_ble_eq_true rfl) d0_clausesOf_55 ⟨Nat.le_of_ble_eq_true rfl, Nat.le_of_ble_eq_true rfl⟩ (fun r w1 hr => ?_)
            obtain ⟨ft1_29, rfl, rfl, ⟨hq28_0, hq28_1⟩⟩ := hr
            refine j_eq (ws' := [(ba, aInt E 100 tb), (ca, o1 (some pa) (some da) (some sa) Cn), (pa, aInt E 5 Pn), (da, aInt E 24 dn), (sa, aInt E 24 sn), (ra, o0 (some ba) (upS (upS R 2 az) 3 ft1_29))]) rfl rfl rfl ?_
            try simp only [upS, reduceIte, Nat.reduceEqDiff, eq_self] at hq28_0 hq28_1
            have hf0 := hq28_0
            have hf1 := hq28_1
            have hst : (13 - n).toNat = (12 - n).toNat + 1 := by omega
            have hfin : (0 ≤ ft1_29 ∧ txF U (R 1) 12 0 = (0, ft1_29)) ∨ (ft1_29 = -1 ∧ txF U (R 1) 12 0 = (1, n) ∧ Cn = ((cvF (fun i => hdK U (R 1) (cpos U (R 1) i)) (fun i => clN U (R 1) (cpos U (R 1) i)) n.toNat)).1 ∧ Pn = ((cvF (fun i => hdK U (R 1) (cpos U (R 1) i)) (fun i => clN U (R 1) (cpos U (R 1) i)) n.toNat)).2 ∧ ∀ j, 0 ≤ j → j < 24 → dn j = swF U (R 1) 3 j n.toNat ∧ sn j = swF U (R 1) 7 j n.toNat) := by rcases hS with ⟨l1, l2, l3, l4, l5, l6, l7⟩ | ⟨d1, d2⟩; (left; rw [hst, txF_stop l2 (by omega) (by first | (left; omega) | (right; rw [← l3]; refine fun z => absurd ((hpC 59 (by decide) (by decide)).2 ⟨by omega, z⟩) ?_; omega)), ← l3] at l7; rw [show ft1_29 = az by omega]; exact ⟨by omega, l7⟩); (left; rw [show ft1_29 = f by omega]; exact ⟨d1, d2⟩)
            refine j_aload_n G 2 rfl d0_clausesOf_58 ?_
            refine j_get G 1 1 1 in1 fl0_42 d0_clausesOf_59 rfl rfl (by decide) (v := .int (iZ (Cn 1))) rfl rfl ?_
            refine j_if_ne (tgt := 70) G d0_clausesOf_62 (by decide) (by omega) (fun h30 => ?_) (fun h30 => ?_)
            ·
              refine j_aload_n G 1 rfl d0_clausesOf_70 ?_
              refine j_get G 5 0 3 in0 fl0_9 d0_clausesOf_71 rfl rfl (by decide) (v := .int (iZ ft1_29)) rfl rfl ?_
              refine j_perm (ws' := [(ra, o0 (some ba) (upS (upS R 2 az) 3 ft1_29)), (ba, aInt E 100 tb), (ca, o1 (some pa) (some da) (some sa) Cn), (pa, aInt E 5 Pn), (da, aInt E 24 dn), (sa, aInt E 24 sn)]) [5, 0, 1, 2, 3, 4] rfl rfl rfl ?_
              exact j_iret G F d0_clausesOf_74 ⟨ft1_29, az, ft1_29, Cn, Pn, dn, sn, rfl, rfl, (by rcases hfin with ⟨q1, q2⟩ | ⟨q1, q2, q3, q4, q5⟩; (left; exact ⟨q1, by omega, q2⟩); (right; have hx : (Cn, Pn) = (cvF (fun i => hdK U (R 1) (cpos U (R 1) i)) (fun i => clN U (R 1) (cpos U (R 1) i)) n.toNat) := (by rw [q3, q4]); rw [q2]; first | (have hz1 := hz0; have hce := cvE_t (x := (cvF (fun i => hdK U (R 1) (cpos U (R 1) i)) (fun i => clN U (R 1) (cpos U (R 1) i)) n.toNat)) (by rw [← q3]; exact hz1); rw [hx, hce] at ht0 ht1; exact ⟨q1, rfl, by omega, ht0, ht1, q5⟩) | (have hce := cvE_n (x := (cvF (fun i => hdK U (R 1) (cpos U (R 1) i)) (fun i => clN U (R 1) (cpos U (R 1) i)) n.toNat)) (by rw [← q3]; omega); refine ⟨q1, rfl, by omega, ?_, ?_, q5⟩; (show Cn = (cvE (cvF (fun i => hdK U (R 1) (cpos U (R 1) i)) (fun i => clN U (R 1) (cpos U (R 1) i)) n.toNat)).1; rw [hce]; exact q3); (show Pn = (cvE (cvF (fun i => hdK U (R 1) (cpos U (R 1) i)) (fun i => clN U (R 1) (cpos U (R 1) i)) n.toNat)).2; rw [hce]; exact q4))))⟩
            ·
              have hz0 : Cn 1 = 0 := by omega
              refine j_aload_n G 2 rfl d0_clausesOf_65 ?_
              refine j_iconst G d0_clausesOf_66 ?_
              refine j_VM G (rm' := { frames := 0, cells := 0, slots := 0, locals := 0 }) (wc := [(ca, o1 (some pa) (some da) (some sa) Cn), (pa, aInt E 5 Pn)]) (wr := [(ba, aInt E 100 tb), (da, aInt E 24 dn), (sa, aInt E 24 sn), (ra, o0 (some ba) (upS (upS R 2 az) 3 ft1_29))]) (k1_addPart (xl Γ) E ca pa da sa Cn Pn 5 (by first | assumption | omega | (simp only [upS, reduceIte, Nat.reduceEqDiff, eq_self, List.length_cons, List.length_nil, List.length_append] <;> omega))) mw1_addPart ml0_47 [1, 2] [0, 3, 4, 5] rfl rfl ⟨rfl, rfl⟩ (by decide) 1 1 rfl rfl rfl ⟨Nat.le_of_ble_eq_true rfl, Nat.le_of_ble_eq_true rfl⟩ rfl (rest := []) rfl (Nat.le_of_ble_eq_true rfl) d0_clausesOf_67 ⟨Nat.le_of_ble_eq_true rfl, Nat.le_of_ble_eq_true rfl⟩ (fun r w1 hr => ?_)
              obtain ⟨C1_32, P1_33, rfl, rfl, ⟨hq31_0, hq31_1⟩⟩ := hr
              refine j_eq (ws' := [(ba, aInt E 100 tb), (da, aInt E 24 dn), (sa, aInt E 24 sn), (ra, o0 (some ba) (upS (upS R 2 az) 3 ft1_29)), (ca, o1 (some pa) (some da) (some sa) C1_32), (pa, aInt E 5 P1_33)]) rfl rfl rfl ?_
              have ht0 := hq31_0
              have ht1 := hq31_1
              refine j_aload_n G 1 rfl d0_clausesOf_70 ?_
              refine j_get G 3 0 3 in0 fl0_9 d0_clausesOf_71 rfl rfl (by decide) (v := .int (iZ ft1_29)) rfl rfl ?_
              refine j_perm (ws' := [(ra, o0 (some ba) (upS (upS R 2 az) 3 ft1_29)), (ba, aInt E 100 tb), (ca, o1 (some pa) (some da) (some sa) C1_32), (pa, aInt E 5 P1_33), (da, aInt E 24 dn), (sa, aInt E 24 sn)]) [3, 0, 4, 5, 1, 2] rfl rfl rfl ?_
              exact j_iret G F d0_clausesOf_74 ⟨ft1_29, az, ft1_29, C1_32, P1_33, dn, sn, rfl, rfl, (by rcases hfin with ⟨q1, q2⟩ | ⟨q1, q2, q3, q4, q5⟩; (left; exact ⟨q1, by omega, q2⟩); (right; have hx : (Cn, Pn) = (cvF (fun i => hdK U (R 1) (cpos U (R 1) i)) (fun i => clN U (R 1) (cpos U (R 1) i)) n.toNat) := (by rw [q3, q4]); rw [q2]; first | (have hz1 := hz0; have hce := cvE_t (x := (cvF (fun i => hdK U (R 1) (cpos U (R 1) i)) (fun i => clN U (R 1) (cpos U (R 1) i)) n.toNat)) (by rw [← q3]; exact hz1); rw [hx, hce] at ht0 ht1; exact ⟨q1, rfl, by omega, ht0, ht1, q5⟩) | (have hce := cvE_n (x := (cvF (fun i => hdK U (R 1) (cpos U (R 1) i)) (fun i => clN U (R 1) (cpos U (R 1) i)) n.toNat)) (by rw [← q3]; omega); refine ⟨q1, rfl, by omega, ?_, ?_, q5⟩; (show Cn = (cvE (cvF (fun i => hdK U (R 1) (cpos U (R 1) i)) (fun i => clN U (R 1) (cpos U (R 1) i)) n.toNat)).1; rw [hce]; exact q3); (show Pn = (cvE (cvF (fun i => hdK U (R 1) (cpos U (R 1) i)) (fun i => clN U (R 1) (cpos U (R 1) i)) n.toNat)).2; rw [hce]; exact q4))))⟩
        ·
          have hlv : f < 0 := ((hpC 59 (by decide) (by decide)).1 (by omega)).1
          obtain ⟨l1, l2, l3, l4, l5, l6, l7⟩ := Or.resolve_right hS (fun q => by have := q.1; omega)
          have hnx : nx U (R 1) az = 59 := ((hpC 59 (by decide) (by decide)).1 (by omega)).2
          have hpe : az + 1 = (cpos U (R 1) n.toNat) := by rw [cpos_s hn.1, ← l3]
          have hn1 : (n + 1 - 1).toNat = n.toNat := by rw [show n + 1 - 1 = n by omega]
          have l4p : (Cn, Pn) = (cvF (fun i => hdK U (R 1) (cpos U (R 1) i)) (fun i => clN U (R 1) (cpos U (R 1) i)) n.toNat) := by rw [l4, l5]
          refine j_aload_n G 1 rfl d0_clausesOf_22 ?_
          refine j_dup G d0_clausesOf_23 rfl ?_
          refine j_get G 0 0 2 in0 fl0_36 d0_clausesOf_24 rfl rfl (by decide) (v := .int (iZ az)) rfl rfl ?_
          refine j_iconst G d0_clausesOf_27 ?_
          refine j_iadd G d0_clausesOf_28 ?_
          refine j_put G 0 0 2 in0 tyok0 nm0 fl0_36 d0_clausesOf_29 rfl rfl (by decide) ⟨rfl, rfl⟩ rfl rfl (Nat.le_of_ble_eq_true rfl) (e := o0 (some ba) (upS (upS R 3 f) 2 (az + 1))) rfl ?_
          refine j_aload_n G 1 rfl d0_clausesOf_32 ?_
          refine j_aload_n G 2 rfl d0_clausesOf_33 ?_
          refine j_VM G (rm' := { frames := 17, cells := 0, slots := 0, locals := 394 }) (wc := [(ra, o0 (some ba) (upS (upS R 3 f) 2 (az + 1))), (ba, aInt E 100 tb), (ca, o1 (some pa) (some da) (some sa) Cn), (pa, aInt E 5 Pn), (da, aInt E 24 dn), (sa, aInt E 24 sn)]) (wr := []) (k0_clause (xl Γ) E ra ba (upS (upS R 3 f) 2 (az + 1)) tb U ca pa da sa Cn Pn dn sn (by first | assumption | omega | (simp only [upS, reduceIte, Nat.reduceEqDiff, eq_self, List.length_cons, List.length_nil, List.length_append] <;> omega)) (by first | assumption | omega | (simp only [upS, reduceIte, Nat.reduceEqDiff, eq_self, List.length_cons, List.length_nil, List.length_append] <;> omega)) (by first | assumption | omega | (simp only [upS, reduceIte, Nat.reduceEqDiff, eq_self, List.length_cons, List.length_nil, List.length_append] <;> omega)) (by first | assumption | omega | (simp only [upS, reduceIte, Nat.reduceEqDiff, eq_self, List.length_cons, List.length_nil, List.length_append] <;> omega)) (by first | assumption | omega | (simp only [upS, reduceIte, Nat.reduceEqDiff, eq_self, List.length_cons, List.length_nil, List.length_append] <;> omega)) (by first | assumption | omega | (simp only [upS, reduceIte, Nat.reduceEqDiff, eq_self, List.length_cons, List.length_nil, List.length_append] <;> omega))) mw0_clause ml0_28 [0, 1, 2, 3, 4, 5] [] rfl rfl ⟨rfl, rfl⟩ (by decide) 0 0 rfl rfl rfl ⟨Nat.le_of_ble_eq_true rfl, Nat.le_of_ble_eq_true rfl⟩ rfl (rest := []) rfl (Nat.le_of_ble_eq_true rfl) d0_clausesOf_34 ⟨Nat.le_of_ble_eq_true rfl, Nat.le_of_ble_eq_true rfl⟩ (fun r w1 hr => ?_)
          obtain ⟨at1_35, ft1_36, C1_37, P1_38, dr1_39, sr1_40, rfl, rfl, ⟨hq34_0, hq34_1, hq34_2, hq34_3⟩⟩ := hr
          refine j_eq (ws' := [(ra, o0 (some ba) (upS (upS R 2 at1_35) 3 ft1_36)), (ba, aInt E 100 tb), (ca, o1 (some pa) (some da) (some sa) C1_37), (pa, aInt E 5 P1_38), (da, aInt E 24 dr1_39), (sa, aInt E 24 sr1_40)]) rfl rfl rfl ?_
          try simp only [upS, reduceIte, Nat.reduceEqDiff, eq_self] at hq34_0 hq34_1 hq34_2 hq34_3
          have hc0 := hq34_0
          have hc1 := hq34_1
          have hc2 := hq34_2
          have hc3 := hq34_3
          have hS2 : Bx ((ft1_36 = -1 ∧ clOk U (R 1) (cpos U (R 1) (n + 1 - 1).toNat) ∧ at1_35 = clE U (R 1) (cpos U (R 1) (n + 1 - 1).toNat) ∧ C1_37 = ((cvF (fun i => hdK U (R 1) (cpos U (R 1) i)) (fun i => clN U (R 1) (cpos U (R 1) i)) (n + 1).toNat)).1 ∧ P1_38 = ((cvF (fun i => hdK U (R 1) (cpos U (R 1) i)) (fun i => clN U (R 1) (cpos U (R 1) i)) (n + 1).toNat)).2 ∧ (∀ j, 0 ≤ j → j < 24 → dr1_39 j = swF U (R 1) 3 j (n + 1).toNat ∧ sr1_40 j = swF U (R 1) 7 j (n + 1).toNat) ∧ txF U (R 1) 12 0 = txF U (R 1) (13 - (n + 1)).toNat (n + 1 - 1).toNat) ∨ (0 ≤ ft1_36 ∧ txF U (R 1) 12 0 = (0, ft1_36))) := by unfold Bx; rcases hc0 with ⟨q1, q2, q3, q4, q5, q6, q7⟩ | ⟨q1, q2, q3⟩; (rw [hpe] at q1 q2 q4 q5 q6 q7; left; refine ⟨by omega, by rw [hn1]; exact q1, by rw [hn1]; exact q2, ?_, ?_, fun j a b => ⟨?_, ?_⟩, ?_⟩; (rw [cvF_s (by omega), ← l4p]; exact q4); (rw [cvF_s (by omega), ← l4p]; exact q5); (rw [q6 j a b, (l6 j a b).1, swF_s (by omega)]); (rw [q7 j a b, (l6 j a b).2, swF_s (by omega)]); (rw [hn1]; exact tx_go2 ⟨by omega, by omega⟩ l2 l3 hnx (by omega) l7)); (rw [hpe] at q1 q2; right; exact ⟨q3, tx_go3 ⟨by omega, by omega⟩ l2 l3 hnx (by omega) l7 q1 q2⟩)
          clear hc0 hq34_0
          refine j_iinc G d0_clausesOf_37 0 rfl (by decide) rfl ?_
          refine j_goto (tgt := 7) G d0_clausesOf_40 (by decide) ?_
          exact ih7 (n + 1) at1_35 ft1_36 C1_37 P1_38 dr1_39 sr1_40 (by omega) (by first | assumption | omega) (by first | assumption | omega) (by first | assumption | omega) (by first | assumption | omega) hS2
  exact lp7 _ 1 at1_2 ft1_3 C1_4 P1_5 dr1_6 sr1_7 (Nat.lt_succ_self _) (by first | assumption | omega) (by first | assumption | omega) (by first | assumption | omega) (by first | assumption | omega) hS1
