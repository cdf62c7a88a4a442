/-! the model's cliff: its numbers and parts -/
def cM (la po : Int → Int) (t : Int) : Nat → Int := fun i => if i = 1 then po t else if i = 2 then la (9 * t + 1) else if i = 3 then la (9 * t + 2) else if i = 4 then la (9 * t + 4) else if i = 5 then la (9 * t + 5) else if i = 6 then la (9 * t + 6) else la (9 * t + 8)
def pM (pt : Int → Int) (t : Int) : Int → Int := fun j => pt (5 * t + j)
theorem d10_pullOf_0 : decode c10_pullOf 0 = .ok (.aload_n 0, 1) := by decide +kernel
theorem d10_pullOf_1 : decode c10_pullOf 1 = .ok (.getfield 50, 3) := by decide +kernel
theorem d10_pullOf_4 : decode c10_pullOf 4 = .ok (.iconst 5, 1) := by decide +kernel
theorem d10_pullOf_5 : decode c10_pullOf 5 = .ok (.aload_n 0, 1) := by decide +kernel
theorem d10_pullOf_6 : decode c10_pullOf 6 = .ok (.getfield 13, 3) := by decide +kernel
theorem d10_pullOf_9 : decode c10_pullOf 9 = .ok (.imul, 1) := by decide +kernel
theorem d10_pullOf_10 : decode c10_pullOf 10 = .ok (.iload_n 1, 1) := by decide +kernel
theorem d10_pullOf_11 : decode c10_pullOf 11 = .ok (.iadd, 1) := by decide +kernel
theorem d10_pullOf_12 : decode c10_pullOf 12 = .ok (.iaload, 1) := by decide +kernel
theorem d10_pullOf_13 : decode c10_pullOf 13 = .ok (.i2l, 1) := by decide +kernel
theorem d10_pullOf_14 : decode c10_pullOf 14 = .ok (.aload_n 0, 1) := by decide +kernel
theorem d10_pullOf_15 : decode c10_pullOf 15 = .ok (.iconst 2, 1) := by decide +kernel
theorem d10_pullOf_16 : decode c10_pullOf 16 = .ok (.invokevirtual 286, 3) := by decide +kernel
theorem d10_pullOf_19 : decode c10_pullOf 19 = .ok (.iload_n 3, 1) := by decide +kernel
theorem d10_pullOf_20 : decode c10_pullOf 20 = .ok (.iload 4, 2) := by decide +kernel
theorem d10_pullOf_22 : decode c10_pullOf 22 = .ok (.isub, 1) := by decide +kernel
theorem d10_pullOf_23 : decode c10_pullOf 23 = .ok (.imul, 1) := by decide +kernel
theorem d10_pullOf_24 : decode c10_pullOf 24 = .ok (.iload 5, 2) := by decide +kernel
theorem d10_pullOf_26 : decode c10_pullOf 26 = .ok (.iadd, 1) := by decide +kernel
theorem d10_pullOf_27 : decode c10_pullOf 27 = .ok (.i2l, 1) := by decide +kernel
theorem d10_pullOf_28 : decode c10_pullOf 28 = .ok (.lmul, 1) := by decide +kernel
theorem d10_pullOf_29 : decode c10_pullOf 29 = .ok (.aload_n 0, 1) := by decide +kernel
theorem d10_pullOf_30 : decode c10_pullOf 30 = .ok (.iconst 1, 1) := by decide +kernel
theorem d10_pullOf_31 : decode c10_pullOf 31 = .ok (.invokevirtual 286, 3) := by decide +kernel
theorem d10_pullOf_34 : decode c10_pullOf 34 = .ok (.iconst 2, 1) := by decide +kernel
theorem d10_pullOf_35 : decode c10_pullOf 35 = .ok (.iload_n 1, 1) := by decide +kernel
theorem d10_pullOf_36 : decode c10_pullOf 36 = .ok (.imul, 1) := by decide +kernel
theorem d10_pullOf_37 : decode c10_pullOf 37 = .ok (.aload_n 0, 1) := by decide +kernel
theorem d10_pullOf_38 : decode c10_pullOf 38 = .ok (.getfield 47, 3) := by decide +kernel
theorem d10_pullOf_41 : decode c10_pullOf 41 = .ok (.aload_n 0, 1) := by decide +kernel
theorem d10_pullOf_42 : decode c10_pullOf 42 = .ok (.getfield 13, 3) := by decide +kernel
theorem d10_pullOf_45 : decode c10_pullOf 45 = .ok (.iaload, 1) := by decide +kernel
theorem d10_pullOf_46 : decode c10_pullOf 46 = .ok (.isub, 1) := by decide +kernel
theorem d10_pullOf_47 : decode c10_pullOf 47 = .ok (.iconst 1, 1) := by decide +kernel
theorem d10_pullOf_48 : decode c10_pullOf 48 = .ok (.iadd, 1) := by decide +kernel
theorem d10_pullOf_49 : decode c10_pullOf 49 = .ok (.imul, 1) := by decide +kernel
theorem d10_pullOf_50 : decode c10_pullOf 50 = .ok (.i2l, 1) := by decide +kernel
theorem d10_pullOf_51 : decode c10_pullOf 51 = .ok (.ladd, 1) := by decide +kernel
theorem d10_pullOf_52 : decode c10_pullOf 52 = .ok (.iload_n 2, 1) := by decide +kernel
theorem d10_pullOf_53 : decode c10_pullOf 53 = .ok (.i2l, 1) := by decide +kernel
theorem d10_pullOf_54 : decode c10_pullOf 54 = .ok (.lsub, 1) := by decide +kernel
theorem d10_pullOf_55 : decode c10_pullOf 55 = .ok (.lreturn, 1) := by decide +kernel
theorem mw10_pullOf : MV y10_pullOf c10_pullOf 6 (some .long) 5 := ⟨cd10_pullOf, ini10, na10_pullOf, im10_pullOf, se10_pullOf⟩
set_option maxHeartbeats 4000000 in
set_option maxRecDepth 100000 in
theorem k10_pullOf (l : Launch) (E : En) (mo : Nat) (ad : Nat → Nat) (S : Nat → Int) (la : Int → Int) (po : Int → Int) (pt : Int → Int) (i : Int) (drag : Int) (d : Int) (u : Int) (w : Int) (hwm : wfC (cM la po (S 1)) (pM pt (S 1))) (hth : 0 ≤ S 1 ∧ S 1 ≤ 3) (hi : 0 ≤ i ∧ i < po (S 1)) (hdr : 0 ≤ drag ∧ drag ≤ 30000) (hd : 0 ≤ d ∧ d ≤ 6) (hu : 0 ≤ u ∧ u ≤ 6) (hw : 0 ≤ w ∧ w ≤ 99) : Cp l E y10_pullOf c10_pullOf 6 (some .long) 1 21 [.ref mo, .int (iZ i), .int (iZ drag), .int (iZ d), .int (iZ u), .int (iZ w)] [(mo, mO ad S), (ad 11, aInt E 36 la), (ad 12, aInt E 4 po), (ad 13, aInt E 20 pt)] (fun r => ∃ (v : Int), r = some (.long (lZ v)) ∧ (v = pulM (cM la po (S 1)) (pM pt (S 1)) i (la (9 * S 1 + 2) * (d - u) + w) drag)) := by
  refine Cp.of (by decide +kernel) (Nat.le_of_ble_eq_true rfl) (fun Γ hl hargs G F => ?_)
  subst hl
  have hpo : 1 ≤ po (S 1) ∧ po (S 1) ≤ 5 := hwm.1
  have hrp : 0 ≤ la (9 * S 1 + 1) ∧ la (9 * S 1 + 1) ≤ 999 := hwm.2.2.1
  have hhd : 0 ≤ la (9 * S 1 + 2) ∧ la (9 * S 1 + 2) ≤ 999 := hwm.2.2.2.1
  have hbr : 0 ≤ la (9 * S 1 + 4) ∧ la (9 * S 1 + 4) ≤ 999 := hwm.2.2.2.2.1
  have hmb := mulb (a := la (9 * S 1 + 2)) (b := d - u) (A := 999) (B := 6) hhd.1 hhd.2 (by omega) (by omega)
  have hpi : 0 ≤ pt (5 * S 1 + i) ∧ pt (5 * S 1 + i) ≤ 999 := hwm.2.1 i hi.1 (by omega)
  have hmr := mulb (a := la (9 * S 1 + 1)) (b := 2 * i - po (S 1) + 1) (A := 999) (B := 10) hrp.1 hrp.2 (by omega) (by omega)
  refine j_aload_n G 0 rfl d10_pullOf_0 ?_
  refine j_get G 0 10 13 in10 fl10_50 d10_pullOf_1 rfl rfl (by decide) (v := .ref (ad 13)) rfl rfl ?_
  refine j_iconst G d10_pullOf_4 ?_
  refine j_aload_n G 0 rfl d10_pullOf_5 ?_
  refine j_get G 0 10 1 in10 fl10_13 d10_pullOf_6 rfl rfl (by decide) (v := .int (iZ (S 1))) rfl rfl ?_
  refine j_imul G d10_pullOf_9 ?_
  refine j_iload_n G 1 rfl d10_pullOf_10 ?_
  refine j_iadd G d10_pullOf_11 ?_
  refine j_iald G 3 rfl (by omega) d10_pullOf_12 ?_
  refine j_i2l G d10_pullOf_13 (by omega) ?_
  refine j_aload_n G 0 rfl d10_pullOf_14 ?_
  refine j_iconst G d10_pullOf_15 ?_
  refine j_VP G (k10_lastOf (xl Γ) E mo ad S la 2 (by first | assumption | omega | (simp only [upS, reduceIte, Nat.reduceEqDiff, eq_self, List.length_cons, List.length_nil, List.length_append] <;> omega)) (by first | assumption | omega | (simp only [upS, reduceIte, Nat.reduceEqDiff, eq_self, List.length_cons, List.length_nil, List.length_append] <;> omega))) mw10_lastOf ml10_286 [0, 1] rfl 0 10 rfl rfl rfl ⟨Nat.le_of_ble_eq_true rfl, Nat.le_of_ble_eq_true rfl⟩ rfl (rest := [.long (lZ (pt ((5 * (S 1)) + i)))]) rfl (Nat.le_of_ble_eq_true rfl) d10_pullOf_16 ⟨Nat.le_of_ble_eq_true rfl, Nat.le_of_ble_eq_true rfl⟩ (fun r hr => ?_)
  obtain ⟨_, rfl, rfl⟩ := hr
  refine j_iload_n G 3 rfl d10_pullOf_19 ?_
  refine j_iload G 4 rfl d10_pullOf_20 ?_
  refine j_isub G d10_pullOf_22 ?_
  refine j_imul G d10_pullOf_23 ?_
  refine j_iload G 5 rfl d10_pullOf_24 ?_
  refine j_iadd G d10_pullOf_26 ?_
  refine j_i2l G d10_pullOf_27 (by omega) ?_
  refine j_lmul G d10_pullOf_28 ?_
  refine j_aload_n G 0 rfl d10_pullOf_29 ?_
  refine j_iconst G d10_pullOf_30 ?_
  refine j_VP G (k10_lastOf (xl Γ) E mo ad S la 1 (by first | assumption | omega | (simp only [upS, reduceIte, Nat.reduceEqDiff, eq_self, List.length_cons, List.length_nil, List.length_append] <;> omega)) (by first | assumption | omega | (simp only [upS, reduceIte, Nat.reduceEqDiff, eq_self, List.length_cons, List.length_nil, List.length_append] <;> omega))) mw10_lastOf ml10_286 [0, 1] rfl 0 10 rfl rfl rfl ⟨Nat.le_of_ble_eq_true rfl, Nat.le_of_ble_eq_true rfl⟩ rfl (rest := [.long (lZ ((pt ((5 * (S 1)) + i)) * (((la (9 * (S 1) + 2)) * (d - u)) + w)))]) rfl (Nat.le_of_ble_eq_true rfl) d10_pullOf_31 ⟨Nat.le_of_ble_eq_true rfl, Nat.le_of_ble_eq_true rfl⟩ (fun r hr => ?_)
  obtain ⟨_, rfl, rfl⟩ := hr
  refine j_iconst G d10_pullOf_34 ?_
  refine j_iload_n G 1 rfl d10_pullOf_35 ?_
  refine j_imul G d10_pullOf_36 ?_
  refine j_aload_n G 0 rfl d10_pullOf_37 ?_
  refine j_get G 0 10 12 in10 fl10_47 d10_pullOf_38 rfl rfl (by decide) (v := .ref (ad 12)) rfl rfl ?_
  refine j_aload_n G 0 rfl d10_pullOf_41 ?_
  refine j_get G 0 10 1 in10 fl10_13 d10_pullOf_42 rfl rfl (by decide) (v := .int (iZ (S 1))) rfl rfl ?_
  refine j_iald G 2 rfl (by omega) d10_pullOf_45 ?_
  refine j_isub G d10_pullOf_46 ?_
  refine j_iconst G d10_pullOf_47 ?_
  refine j_iadd G d10_pullOf_48 ?_
  refine j_imul G d10_pullOf_49 ?_
  refine j_i2l G d10_pullOf_50 (by omega) ?_
  refine j_ladd G d10_pullOf_51 ?_
  refine j_iload_n G 2 rfl d10_pullOf_52 ?_
  refine j_i2l G d10_pullOf_53 (by omega) ?_
  refine j_lsub G d10_pullOf_54 ?_
  exact j_lret G F d10_pullOf_55 ⟨(((pt ((5 * (S 1)) + i)) * (((la (9 * (S 1) + 2)) * (d - u)) + w)) + ((la (9 * (S 1) + 1)) * (((2 * i) - (po (S 1))) + 1))) - drag, rfl, (by subst_vars; rfl)⟩
theorem d10_stopsBy_0 : decode c10_stopsBy 0 = .ok (.iconst 0, 1) := by decide +kernel
theorem d10_stopsBy_1 : decode c10_stopsBy 1 = .ok (.istore 5, 2) := by decide +kernel
theorem d10_stopsBy_3 : decode c10_stopsBy 3 = .ok (.iload 5, 2) := by decide +kernel
theorem d10_stopsBy_5 : decode c10_stopsBy 5 = .ok (.aload_n 0, 1) := by decide +kernel
theorem d10_stopsBy_6 : decode c10_stopsBy 6 = .ok (.getfield 47, 3) := by decide +kernel
theorem d10_stopsBy_9 : decode c10_stopsBy 9 = .ok (.aload_n 0, 1) := by decide +kernel
theorem d10_stopsBy_10 : decode c10_stopsBy 10 = .ok (.getfield 13, 3) := by decide +kernel
theorem d10_stopsBy_13 : decode c10_stopsBy 13 = .ok (.iaload, 1) := by decide +kernel
theorem d10_stopsBy_14 : decode c10_stopsBy 14 = .ok (.if_icmp .ge 50, 3) := by decide +kernel
theorem d10_stopsBy_17 : decode c10_stopsBy 17 = .ok (.aload_n 0, 1) := by decide +kernel
theorem d10_stopsBy_18 : decode c10_stopsBy 18 = .ok (.iload 5, 2) := by decide +kernel
theorem d10_stopsBy_20 : decode c10_stopsBy 20 = .ok (.iload_n 1, 1) := by decide +kernel
theorem d10_stopsBy_21 : decode c10_stopsBy 21 = .ok (.iload_n 2, 1) := by decide +kernel
theorem d10_stopsBy_22 : decode c10_stopsBy 22 = .ok (.iload_n 3, 1) := by decide +kernel
theorem d10_stopsBy_23 : decode c10_stopsBy 23 = .ok (.iload 4, 2) := by decide +kernel
theorem d10_stopsBy_25 : decode c10_stopsBy 25 = .ok (.invokevirtual 299, 3) := by decide +kernel
theorem d10_stopsBy_28 : decode c10_stopsBy 28 = .ok (.lstore 6, 2) := by decide +kernel
theorem d10_stopsBy_30 : decode c10_stopsBy 30 = .ok (.lload 6, 2) := by decide +kernel
theorem d10_stopsBy_32 : decode c10_stopsBy 32 = .ok (.lconst 0, 1) := by decide +kernel
theorem d10_stopsBy_33 : decode c10_stopsBy 33 = .ok (.lcmp, 1) := by decide +kernel
theorem d10_stopsBy_34 : decode c10_stopsBy 34 = .ok (.ifCond .gt 6, 3) := by decide +kernel
theorem d10_stopsBy_37 : decode c10_stopsBy 37 = .ok (.iload 5, 2) := by decide +kernel
theorem d10_stopsBy_39 : decode c10_stopsBy 39 = .ok (.ireturn, 1) := by decide +kernel
theorem d10_stopsBy_40 : decode c10_stopsBy 40 = .ok (.lload 6, 2) := by decide +kernel
theorem d10_stopsBy_42 : decode c10_stopsBy 42 = .ok (.aload_n 0, 1) := by decide +kernel
theorem d10_stopsBy_43 : decode c10_stopsBy 43 = .ok (.iconst 4, 1) := by decide +kernel
theorem d10_stopsBy_44 : decode c10_stopsBy 44 = .ok (.invokevirtual 286, 3) := by decide +kernel
theorem d10_stopsBy_47 : decode c10_stopsBy 47 = .ok (.i2l, 1) := by decide +kernel
theorem d10_stopsBy_48 : decode c10_stopsBy 48 = .ok (.lcmp, 1) := by decide +kernel
theorem d10_stopsBy_49 : decode c10_stopsBy 49 = .ok (.ifCond .le 9, 3) := by decide +kernel
theorem d10_stopsBy_52 : decode c10_stopsBy 52 = .ok (.bipush 100, 2) := by decide +kernel
theorem d10_stopsBy_54 : decode c10_stopsBy 54 = .ok (.iload 5, 2) := by decide +kernel
theorem d10_stopsBy_56 : decode c10_stopsBy 56 = .ok (.iadd, 1) := by decide +kernel
theorem d10_stopsBy_57 : decode c10_stopsBy 57 = .ok (.ireturn, 1) := by decide +kernel
theorem d10_stopsBy_58 : decode c10_stopsBy 58 = .ok (.iinc 5 1, 3) := by decide +kernel
theorem d10_stopsBy_61 : decode c10_stopsBy 61 = .ok (.goto (-58), 3) := by decide +kernel
theorem d10_stopsBy_64 : decode c10_stopsBy 64 = .ok (.bipush (-5), 2) := by decide +kernel
theorem d10_stopsBy_66 : decode c10_stopsBy 66 = .ok (.ireturn, 1) := by decide +kernel
theorem mw10_stopsBy : MV y10_stopsBy c10_stopsBy 8 (some .int) 4 := ⟨cd10_stopsBy, ini10, na10_stopsBy, im10_stopsBy, se10_stopsBy⟩
set_option maxHeartbeats 4000000 in
set_option maxRecDepth 100000 in
theorem k10_stopsBy (l : Launch) (E : En) (mo : Nat) (ad : Nat → Nat) (S : Nat → Int) (la : Int → Int) (po : Int → Int) (pt : Int → Int) (drag : Int) (d : Int) (u : Int) (w : Int) (hwm : wfC (cM la po (S 1)) (pM pt (S 1))) (hth : 0 ≤ S 1 ∧ S 1 ≤ 3) (hdr : 0 ≤ drag ∧ drag ≤ 30000) (hd : 0 ≤ d ∧ d ≤ 6) (hu : 0 ≤ u ∧ u ≤ 6) (hw : 0 ≤ w ∧ w ≤ 99) : Cp l E y10_stopsBy c10_stopsBy 8 (some .int) 2 46 [.ref mo, .int (iZ drag), .int (iZ d), .int (iZ u), .int (iZ w)] [(mo, mO ad S), (ad 11, aInt E 36 la), (ad 12, aInt E 4 po), (ad 13, aInt E 20 pt)] (fun r => ∃ (v : Int), r = some (.int (iZ v)) ∧ (v = stopM (cM la po (S 1)) (pM pt (S 1)) (la (9 * S 1 + 2) * (d - u) + w) drag)) := by
  refine Cp.of (by decide +kernel) (Nat.le_of_ble_eq_true rfl) (fun Γ hl hargs G F => ?_)
  subst hl
  have hpo : 1 ≤ po (S 1) ∧ po (S 1) ≤ 5 := hwm.1
  have hrp : 0 ≤ la (9 * S 1 + 1) ∧ la (9 * S 1 + 1) ≤ 999 := hwm.2.2.1
  have hhd : 0 ≤ la (9 * S 1 + 2) ∧ la (9 * S 1 + 2) ≤ 999 := hwm.2.2.2.1
  have hbr : 0 ≤ la (9 * S 1 + 4) ∧ la (9 * S 1 + 4) ≤ 999 := hwm.2.2.2.2.1
  have hmb := mulb (a := la (9 * S 1 + 2)) (b := d - u) (A := 999) (B := 6) hhd.1 hhd.2 (by omega) (by omega)
  refine j_iconst G d10_stopsBy_0 ?_
  refine j_istore G d10_stopsBy_1 (by decide) rfl ?_
  have lp3 : ∀ (fu : Nat) (kk : Int), (po (S 1) - kk).toNat < fu → (0 ≤ kk ∧ kk ≤ po (S 1)) → (stopM (cM la po (S 1)) (pM pt (S 1)) (la (9 * S 1 + 2) * (d - u) + w) drag = stopF (cM la po (S 1)) (pM pt (S 1)) (la (9 * S 1 + 2) * (d - u) + w) drag (cM la po (S 1) 1 - kk).toNat kk) →  J E 8 Γ none 0 0 [(mo, mO ad S), (ad 11, aInt E 36 la), (ad 12, aInt E 4 po), (ad 13, aInt E 20 pt)] 3 [(5, .int (iZ kk)), (0, .ref mo), (1, .int (iZ drag)), (2, .int (iZ d)), (3, .int (iZ u)), (4, .int (iZ w))] [] := by
    intro fu
    induction fu with
    | zero =>
      intro kk hm
      exact absurd hm (Nat.not_lt_zero _)
    | succ fu ih3 =>
      intro kk hm hk hs
      refine j_iload G 0 rfl d10_stopsBy_3 ?_
      refine j_aload_n G 1 rfl d10_stopsBy_5 ?_
      refine j_get G 0 10 12 in10 fl10_47 d10_stopsBy_6 rfl rfl (by decide) (v := .ref (ad 12)) rfl rfl ?_
      refine j_aload_n G 1 rfl d10_stopsBy_9 ?_
      refine j_get G 0 10 1 in10 fl10_13 d10_stopsBy_10 rfl rfl (by decide) (v := .int (iZ (S 1))) rfl rfl ?_
      refine j_iald G 2 rfl (by omega) d10_stopsBy_13 ?_
      refine j_icmp_ge (tgt := 64) G d10_stopsBy_14 (by decide) (by omega) (by omega) (fun h1 => ?_) (fun h1 => ?_)
      ·
        refine j_bipush G d10_stopsBy_64 rfl ?_
        exact j_iret G F d10_stopsBy_66 ⟨(-5), rfl, (by rw [hs]; first | (rw [stopF_e (C := cM la po (S 1)) (by show ¬ kk < po (S 1); omega)]; done) | (rw [stopF_s (C := cM la po (S 1)) (by show kk < po (S 1); omega) (by omega), if_pos (by omega)]; done) | (rw [stopF_s (C := cM la po (S 1)) (by show kk < po (S 1); omega) (by omega), if_neg (by omega), if_pos (by show la (9 * S 1 + 4) < _; omega)]; done))⟩
      ·
        refine j_aload_n G 1 rfl d10_stopsBy_17 ?_
        refine j_iload G 0 rfl d10_stopsBy_18 ?_
        refine j_iload_n G 2 rfl d10_stopsBy_20 ?_
        refine j_iload_n G 3 rfl d10_stopsBy_21 ?_
        refine j_iload_n G 4 rfl d10_stopsBy_22 ?_
        refine j_iload G 5 rfl d10_stopsBy_23 ?_
        refine j_VP G (k10_pullOf (xl Γ) E mo ad S la po pt kk drag d u w (by first | assumption | omega | (simp only [upS, reduceIte, Nat.reduceEqDiff, eq_self, List.length_cons, List.length_nil, List.length_append] <;> omega)) (by first | assumption | omega | (simp only [upS, reduceIte, Nat.reduceEqDiff, eq_self, List.length_cons, List.length_nil, List.length_append] <;> omega)) (by first | assumption | omega | (simp only [upS, reduceIte, Nat.reduceEqDiff, eq_self, List.length_cons, List.length_nil, List.length_append] <;> omega)) (by first | assumption | omega | (simp only [upS, reduceIte, Nat.reduceEqDiff, eq_self, List.length_cons, List.length_nil, List.length_append] <;> omega)) (by first | assumption | omega | (simp only [upS, reduceIte, Nat.reduceEqDiff, eq_self, List.length_cons, List.length_nil, List.length_append] <;> omega)) (by first | assumption | omega | (simp only [upS, reduceIte, Nat.reduceEqDiff, eq_self, List.length_cons, List.length_nil, List.length_append] <;> omega)) (by first | assumption | omega | (simp only [upS, reduceIte, Nat.reduceEqDiff, eq_self, List.length_cons, List.length_nil, List.length_append] <;> omega))) mw10_pullOf ml10_299 [0, 1, 2, 3] rfl 0 10 rfl rfl rfl ⟨Nat.le_of_ble_eq_true rfl, Nat.le_of_ble_eq_true rfl⟩ rfl (rest := []) rfl (Nat.le_of_ble_eq_true rfl) d10_stopsBy_25 ⟨Nat.le_of_ble_eq_true rfl, Nat.le_of_ble_eq_true rfl⟩ (fun r hr => ?_)
        obtain ⟨v3, rfl, hq2⟩ := hr
        have hpr := pul_r hwm (k := kk) (load := la (9 * S 1 + 2) * (d - u) + w) (drag := drag) (by omega) (by show kk < po (S 1); omega) (by omega) (by omega) hdr.1 hdr.2
        refine j_lstore G d10_stopsBy_28 (by decide) rfl ?_
        refine j_lload G 0 rfl d10_stopsBy_30 ?_
        refine j_lconst G 0 d10_stopsBy_32 rfl ?_
        refine j_lcmp G d10_stopsBy_33 (by omega) (by omega) ?_
        refine j_if_gt (tgt := 40) G d10_stopsBy_34 (by decide) (by split <;> first | decide | (split <;> decide)) (fun h4 => ?_) (fun h4 => ?_)
        ·
          have h4 : 0 < v3 := by
            revert h4; split <;> (try split) <;> intro h4 <;> omega
          refine j_lload G 0 rfl d10_stopsBy_40 ?_
          refine j_aload_n G 2 rfl d10_stopsBy_42 ?_
          refine j_iconst G d10_stopsBy_43 ?_
          refine j_VP G (k10_lastOf (xl Γ) E mo ad S la 4 (by first | assumption | omega | (simp only [upS, reduceIte, Nat.reduceEqDiff, eq_self, List.length_cons, List.length_nil, List.length_append] <;> omega)) (by first | assumption | omega | (simp only [upS, reduceIte, Nat.reduceEqDiff, eq_self, List.length_cons, List.length_nil, List.length_append] <;> omega))) mw10_lastOf ml10_286 [0, 1] rfl 0 10 rfl rfl rfl ⟨Nat.le_of_ble_eq_true rfl, Nat.le_of_ble_eq_true rfl⟩ rfl (rest := [.long (lZ v3)]) rfl (Nat.le_of_ble_eq_true rfl) d10_stopsBy_44 ⟨Nat.le_of_ble_eq_true rfl, Nat.le_of_ble_eq_true rfl⟩ (fun r hr => ?_)
          obtain ⟨_, rfl, rfl⟩ := hr
          refine j_i2l G d10_stopsBy_47 (by omega) ?_
          refine j_lcmp G d10_stopsBy_48 (by omega) (by omega) ?_
          refine j_if_le (tgt := 58) G d10_stopsBy_49 (by decide) (by split <;> first | decide | (split <;> decide)) (fun h6 => ?_) (fun h6 => ?_)
          ·
            have h6 : v3 ≤ (la (9 * (S 1) + 4)) := by
              revert h6; split <;> (try split) <;> intro h6 <;> omega
            refine j_iinc G d10_stopsBy_58 1 rfl (by decide) rfl ?_
            refine j_goto (tgt := 3) G d10_stopsBy_61 (by decide) ?_
            refine j_locs (ls' := [(5, .int (iZ (kk + 1))), (0, .ref mo), (1, .int (iZ drag)), (2, .int (iZ d)), (3, .int (iZ u)), (4, .int (iZ w))]) [0, 2, 3, 4, 5, 6] rfl ?_
            exact ih3 (kk + 1) (by omega) (by first | assumption | omega) (by rw [hs, stopF_s (C := cM la po (S 1)) (by show kk < po (S 1); omega) (by omega), if_neg (by omega), if_neg (by show ¬ la (9 * S 1 + 4) < _; omega)])
          ·
            have h6 : ¬ (v3 ≤ (la (9 * (S 1) + 4))) := by
              revert h6; split <;> (try split) <;> intro h6 <;> omega
            refine j_bipush G d10_stopsBy_52 rfl ?_
            refine j_iload G 1 rfl d10_stopsBy_54 ?_
            refine j_iadd G d10_stopsBy_56 ?_
            exact j_iret G F d10_stopsBy_57 ⟨100 + kk, rfl, (by rw [hs]; first | (rw [stopF_e (C := cM la po (S 1)) (by show ¬ kk < po (S 1); omega)]; done) | (rw [stopF_s (C := cM la po (S 1)) (by show kk < po (S 1); omega) (by omega), if_pos (by omega)]; done) | (rw [stopF_s (C := cM la po (S 1)) (by show kk < po (S 1); omega) (by omega), if_neg (by omega), if_pos (by show la (9 * S 1 + 4) < _; omega)]; done))⟩
        ·
          have h4 : ¬ (0 < v3) := by
            revert h4; split <;> (try split) <;> intro h4 <;> omega
          refine j_iload G 1 rfl d10_stopsBy_37 ?_
          exact j_iret G F d10_stopsBy_39 ⟨kk, rfl, (by rw [hs]; first | (rw [stopF_e (C := cM la po (S 1)) (by show ¬ kk < po (S 1); omega)]; done) | (rw [stopF_s (C := cM la po (S 1)) (by show kk < po (S 1); omega) (by omega), if_pos (by omega)]; done) | (rw [stopF_s (C := cM la po (S 1)) (by show kk < po (S 1); omega) (by omega), if_neg (by omega), if_pos (by show la (9 * S 1 + 4) < _; omega)]; done))⟩
  exact lp3 _ 0 (Nat.lt_succ_self _) (by first | assumption | omega) (stopM_0 _ _ _ _)
theorem d10_leastBy_0 : decode c10_leastBy 0 = .ok (.iconst 0, 1) := by decide +kernel
theorem d10_leastBy_1 : decode c10_leastBy 1 = .ok (.istore 5, 2) := by decide +kernel
theorem d10_leastBy_3 : decode c10_leastBy 3 = .ok (.iload 5, 2) := by decide +kernel
theorem d10_leastBy_5 : decode c10_leastBy 5 = .ok (.iload 4, 2) := by decide +kernel
theorem d10_leastBy_7 : decode c10_leastBy 7 = .ok (.if_icmp .gt 26, 3) := by decide +kernel
theorem d10_leastBy_10 : decode c10_leastBy 10 = .ok (.aload_n 0, 1) := by decide +kernel
theorem d10_leastBy_11 : decode c10_leastBy 11 = .ok (.iload_n 1, 1) := by decide +kernel
theorem d10_leastBy_12 : decode c10_leastBy 12 = .ok (.iload_n 2, 1) := by decide +kernel
theorem d10_leastBy_13 : decode c10_leastBy 13 = .ok (.iload_n 3, 1) := by decide +kernel
theorem d10_leastBy_14 : decode c10_leastBy 14 = .ok (.iload 5, 2) := by decide +kernel
theorem d10_leastBy_16 : decode c10_leastBy 16 = .ok (.invokevirtual 303, 3) := by decide +kernel
theorem d10_leastBy_19 : decode c10_leastBy 19 = .ok (.bipush (-5), 2) := by decide +kernel
theorem d10_leastBy_21 : decode c10_leastBy 21 = .ok (.if_icmp .ne 6, 3) := by decide +kernel
theorem d10_leastBy_24 : decode c10_leastBy 24 = .ok (.iload 5, 2) := by decide +kernel
theorem d10_leastBy_26 : decode c10_leastBy 26 = .ok (.ireturn, 1) := by decide +kernel
theorem d10_leastBy_27 : decode c10_leastBy 27 = .ok (.iinc 5 1, 3) := by decide +kernel
theorem d10_leastBy_30 : decode c10_leastBy 30 = .ok (.goto (-27), 3) := by decide +kernel
theorem d10_leastBy_33 : decode c10_leastBy 33 = .ok (.bipush (-5), 2) := by decide +kernel
theorem d10_leastBy_35 : decode c10_leastBy 35 = .ok (.ireturn, 1) := by decide +kernel
theorem mw10_leastBy : MV y10_leastBy c10_leastBy 6 (some .int) 4 := ⟨cd10_leastBy, ini10, na10_leastBy, im10_leastBy, se10_leastBy⟩
set_option maxHeartbeats 4000000 in
set_option maxRecDepth 100000 in
theorem k10_leastBy (l : Launch) (E : En) (mo : Nat) (ad : Nat → Nat) (S : Nat → Int) (la : Int → Int) (po : Int → Int) (pt : Int → Int) (drag : Int) (d : Int) (u : Int) (tank : Int) (hwm : wfC (cM la po (S 1)) (pM pt (S 1))) (hth : 0 ≤ S 1 ∧ S 1 ≤ 3) (hdr : 0 ≤ drag ∧ drag ≤ 30000) (hd : 0 ≤ d ∧ d ≤ 6) (hu : 0 ≤ u ∧ u ≤ 6) (htk : 0 ≤ tank ∧ tank ≤ 60) : Cp l E y10_leastBy c10_leastBy 6 (some .int) 3 73 [.ref mo, .int (iZ drag), .int (iZ d), .int (iZ u), .int (iZ tank)] [(mo, mO ad S), (ad 11, aInt E 36 la), (ad 12, aInt E 4 po), (ad 13, aInt E 20 pt)] (fun r => ∃ (v : Int), r = some (.int (iZ v)) ∧ (isL (cM la po (S 1)) (pM pt (S 1)) drag (d - u) tank v)) := by
  refine Cp.of (by decide +kernel) (Nat.le_of_ble_eq_true rfl) (fun Γ hl hargs G F => ?_)
  subst hl
  refine j_iconst G d10_leastBy_0 ?_
  refine j_istore G d10_leastBy_1 (by decide) rfl ?_
  have lp3 : ∀ (fu : Nat) (kk : Int), (tank + 1 - kk).toNat < fu → (0 ≤ kk ∧ kk ≤ tank + 1) → (∀ q, 0 ≤ q → q < kk → ¬ goesM (cM la po (S 1)) (pM pt (S 1)) (la (9 * S 1 + 2) * (d - u) + q) drag) →  J E 6 Γ none 0 0 [(mo, mO ad S), (ad 11, aInt E 36 la), (ad 12, aInt E 4 po), (ad 13, aInt E 20 pt)] 3 [(5, .int (iZ kk)), (0, .ref mo), (1, .int (iZ drag)), (2, .int (iZ d)), (3, .int (iZ u)), (4, .int (iZ tank))] [] := by
    intro fu
    induction fu with
    | zero =>
      intro kk hm
      exact absurd hm (Nat.not_lt_zero _)
    | succ fu ih3 =>
      intro kk hm hk hg
      refine j_iload G 0 rfl d10_leastBy_3 ?_
      refine j_iload G 5 rfl d10_leastBy_5 ?_
      refine j_icmp_gt (tgt := 33) G d10_leastBy_7 (by decide) (by omega) (by omega) (fun h1 => ?_) (fun h1 => ?_)
      ·
        refine j_bipush G d10_leastBy_33 rfl ?_
        exact j_iret G F d10_leastBy_35 ⟨(-5), rfl, (by first | exact Or.inl ⟨rfl, fun q h1 h2 => hg q h1 (by omega)⟩ | exact Or.inr ⟨⟨by omega, by omega⟩, stopM_go.mp (by show stopM _ _ (la (9 * S 1 + 2) * (d - u) + kk) _ = -5; omega), fun q h1 h2 => hg q h1 h2⟩)⟩
      ·
        refine j_aload_n G 1 rfl d10_leastBy_10 ?_
        refine j_iload_n G 2 rfl d10_leastBy_11 ?_
        refine j_iload_n G 3 rfl d10_leastBy_12 ?_
        refine j_iload_n G 4 rfl d10_leastBy_13 ?_
        refine j_iload G 0 rfl d10_leastBy_14 ?_
        refine j_VP G (k10_stopsBy (xl Γ) E mo ad S la po pt drag d u kk (by first | assumption | omega | (simp only [upS, reduceIte, Nat.reduceEqDiff, eq_self, List.length_cons, List.length_nil, List.length_append] <;> omega)) (by first | assumption | omega | (simp only [upS, reduceIte, Nat.reduceEqDiff, eq_self, List.length_cons, List.length_nil, List.length_append] <;> omega)) (by first | assumption | omega | (simp only [upS, reduceIte, Nat.reduceEqDiff, eq_self, List.length_cons, List.length_nil, List.length_append] <;> omega)) (by first | assumption | omega | (simp only [upS, reduceIte, Nat.reduceEqDiff, eq_self, List.length_cons, List.length_nil, List.length_append] <;> omega)) (by first | assumption | omega | (simp only [upS, reduceIte, Nat.reduceEqDiff, eq_self, List.length_cons, List.length_nil, List.length_append] <;> omega)) (by first | assumption | omega | (simp only [upS, reduceIte, Nat.reduceEqDiff, eq_self, List.length_cons, List.length_nil, List.length_append] <;> omega))) mw10_stopsBy ml10_303 [0, 1, 2, 3] rfl 0 10 rfl rfl rfl ⟨Nat.le_of_ble_eq_true rfl, Nat.le_of_ble_eq_true rfl⟩ rfl (rest := []) rfl (Nat.le_of_ble_eq_true rfl) d10_leastBy_16 ⟨Nat.le_of_ble_eq_true rfl, Nat.le_of_ble_eq_true rfl⟩ (fun r hr => ?_)
        obtain ⟨v3, rfl, hq2⟩ := hr
        have hsr := stopF_r (C := cM la po (S 1)) (P := pM pt (S 1)) (load := la (9 * S 1 + 2) * (d - u) + kk) (drag := drag) (cM la po (S 1) 1).toNat 0 (Int.le_refl 0) (by have h5 : cM la po (S 1) 1 ≤ 5 := hwm.1.2; omega)
        have hsr2 : stopM (cM la po (S 1)) (pM pt (S 1)) (la (9 * S 1 + 2) * (d - u) + kk) drag = -5 ∨ (0 ≤ stopM (cM la po (S 1)) (pM pt (S 1)) (la (9 * S 1 + 2) * (d - u) + kk) drag ∧ stopM (cM la po (S 1)) (pM pt (S 1)) (la (9 * S 1 + 2) * (d - u) + kk) drag ≤ 104) := hsr
        refine j_bipush G d10_leastBy_19 rfl ?_
        refine j_icmp_ne (tgt := 27) G d10_leastBy_21 (by decide) (by omega) (by decide) (fun h4 => ?_) (fun h4 => ?_)
        ·
          refine j_iinc G d10_leastBy_27 0 rfl (by decide) rfl ?_
          refine j_goto (tgt := 3) G d10_leastBy_30 (by decide) ?_
          exact ih3 (kk + 1) (by omega) (by first | assumption | omega) (fun q h1 h2 => if hq : q = kk then (by subst hq; intro hz; have := stopM_go.mpr hz; omega) else hg q h1 (by omega))
        ·
          refine j_iload G 0 rfl d10_leastBy_24 ?_
          exact j_iret G F d10_leastBy_26 ⟨kk, rfl, (by first | exact Or.inl ⟨rfl, fun q h1 h2 => hg q h1 (by omega)⟩ | exact Or.inr ⟨⟨by omega, by omega⟩, stopM_go.mp (by show stopM _ _ (la (9 * S 1 + 2) * (d - u) + kk) _ = -5; omega), fun q h1 h2 => hg q h1 h2⟩)⟩
  exact lp3 _ 0 (Nat.lt_succ_self _) (by first | assumption | omega) (fun q h1 h2 => by omega)
