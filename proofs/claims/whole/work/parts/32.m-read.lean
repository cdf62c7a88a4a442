theorem wl_e {k L : Int} (h : L = wl k) : L.toNat = (wl k).toNat := by rw [h]
theorem mt_s {U : Int → Int} {n p k j : Int} {m : Nat} (h : mt U n p k = mtF U n p k m j) (hm : m = 0) : mt U n p k = j := by subst hm; exact h
theorem nb_end {U : Int → Int} {n p a kk most : Int} (h : kk = most ∨ ¬ (48 ≤ nx U n p ∧ nx U n p ≤ 57)) (hk : kk ≤ most) : nbP U n (most - kk).toNat p = p ∧ nbV U n (most - kk).toNat p a = a := by
  by_cases hq : kk = most
  · rw [show (most - kk).toNat = 0 by omega]; exact ⟨rfl, rfl⟩
  · rw [show (most - kk).toNat = (most - kk - 1).toNat + 1 by omega]
    exact ⟨nbP_n (h.resolve_left hq), nbV_n (h.resolve_left hq)⟩
theorem nbV_b {U : Int → Int} {n : Int} : ∀ (m : Nat) (p a : Int), 0 ≤ a → 0 ≤ nbV U n m p a
  | 0, _, _, h => h
  | m + 1, p, a, h => by
    unfold nbV
    split
    · exact nbV_b m _ _ (by omega)
    · exact h
def lt5 (w i : Int) : Int := (iZ ((iZ w >>> (iZ (5 * i) &&& 31)).toInt) &&& iZ 31).toInt
theorem lt5_top {w i : Int} : iZ ((iZ w >>> (iZ (5 * i) &&& 31)).toInt) &&& iZ 31 = iZ (lt5 w i) := by unfold lt5; rw [iZ_of, iZ_of]
theorem d10_next_0 : decode c10_next 0 = .ok (.aload_n 0, 1) := by decide +kernel
theorem d10_next_1 : decode c10_next 1 = .ok (.getfield 19, 3) := by decide +kernel
theorem d10_next_4 : decode c10_next 4 = .ok (.aload_n 0, 1) := by decide +kernel
theorem d10_next_5 : decode c10_next 5 = .ok (.getfield 16, 3) := by decide +kernel
theorem d10_next_8 : decode c10_next 8 = .ok (.if_icmp .ge 15, 3) := by decide +kernel
theorem d10_next_11 : decode c10_next 11 = .ok (.aload_n 0, 1) := by decide +kernel
theorem d10_next_12 : decode c10_next 12 = .ok (.getfield 25, 3) := by decide +kernel
theorem d10_next_15 : decode c10_next 15 = .ok (.aload_n 0, 1) := by decide +kernel
theorem d10_next_16 : decode c10_next 16 = .ok (.getfield 19, 3) := by decide +kernel
theorem d10_next_19 : decode c10_next 19 = .ok (.iaload, 1) := by decide +kernel
theorem d10_next_20 : decode c10_next 20 = .ok (.goto 4, 3) := by decide +kernel
theorem d10_next_23 : decode c10_next 23 = .ok (.iconst (-1), 1) := by decide +kernel
theorem d10_next_24 : decode c10_next 24 = .ok (.ireturn, 1) := by decide +kernel
theorem mw10_next : MV y10_next c10_next 1 (some .int) 0 := ⟨cd10_next, ini10, na10_next, im10_next, se10_next⟩
set_option maxHeartbeats 4000000 in
set_option maxRecDepth 100000 in
theorem k10_next (l : Launch) (E : En) (mo : Nat) (ad : Nat → Nat) (S : Nat → Int) (tx : Int → Int) (htx : ∀ j, 0 ≤ j → j < 100 → -128 ≤ tx j ∧ tx j ≤ 127) (hfd : 0 ≤ S 2 ∧ S 2 ≤ 100) (hat : 0 ≤ S 3 ∧ S 3 ≤ S 2) : Cp l E y10_next c10_next 1 (some .int) 0 0 [.ref mo] [(mo, mO ad S), (ad 5, aInt E 100 tx)] (fun r => ∃ (v : Int), r = some (.int (iZ v)) ∧ (v = nx tx (S 2) (S 3) ∧ (-128 ≤ v ∧ v ≤ 127) ∧ (-1 < v → S 3 < S 2))) := by
  refine Cp.of (by decide +kernel) (Nat.le_of_ble_eq_true rfl) (fun Γ hl hargs G F => ?_)
  subst hl
  have htb : S 3 < S 2 → -128 ≤ tx (S 3) ∧ tx (S 3) ≤ 127 := fun h => htx (S 3) (by omega) (by omega)
  refine j_aload_n G 0 rfl d10_next_0 ?_
  refine j_get G 0 10 3 in10 fl10_19 d10_next_1 rfl rfl (by decide) (v := .int (iZ (S 3))) rfl rfl ?_
  refine j_aload_n G 0 rfl d10_next_4 ?_
  refine j_get G 0 10 2 in10 fl10_16 d10_next_5 rfl rfl (by decide) (v := .int (iZ (S 2))) rfl rfl ?_
  refine j_icmp_ge (tgt := 23) G d10_next_8 (by decide) (by omega) (by omega) (fun h1 => ?_) (fun h1 => ?_)
  ·
    refine j_iconst G d10_next_23 ?_
    exact j_iret G F d10_next_24 ⟨(-1), rfl, (by unfold nx; (repeat' split) <;> omega)⟩
  ·
    refine j_aload_n G 0 rfl d10_next_11 ?_
    refine j_get G 0 10 5 in10 fl10_25 d10_next_12 rfl rfl (by decide) (v := .ref (ad 5)) rfl rfl ?_
    refine j_aload_n G 0 rfl d10_next_15 ?_
    refine j_get G 0 10 3 in10 fl10_19 d10_next_16 rfl rfl (by decide) (v := .int (iZ (S 3))) rfl rfl ?_
    refine j_iald G 1 rfl (by omega) d10_next_19 ?_
    have hb2 := htx (S 3) (by omega) (by omega)
    refine j_goto (tgt := 24) G d10_next_20 (by decide) ?_
    exact j_iret G F d10_next_24 ⟨tx (S 3), rfl, (by unfold nx; (repeat' split) <;> omega)⟩
theorem d10_second_0 : decode c10_second 0 = .ok (.aload_n 0, 1) := by decide +kernel
theorem d10_second_1 : decode c10_second 1 = .ok (.getfield 19, 3) := by decide +kernel
theorem d10_second_4 : decode c10_second 4 = .ok (.iconst 1, 1) := by decide +kernel
theorem d10_second_5 : decode c10_second 5 = .ok (.iadd, 1) := by decide +kernel
theorem d10_second_6 : decode c10_second 6 = .ok (.aload_n 0, 1) := by decide +kernel
theorem d10_second_7 : decode c10_second 7 = .ok (.getfield 16, 3) := by decide +kernel
theorem d10_second_10 : decode c10_second 10 = .ok (.if_icmp .ge 17, 3) := by decide +kernel
theorem d10_second_13 : decode c10_second 13 = .ok (.aload_n 0, 1) := by decide +kernel
theorem d10_second_14 : decode c10_second 14 = .ok (.getfield 25, 3) := by decide +kernel
theorem d10_second_17 : decode c10_second 17 = .ok (.aload_n 0, 1) := by decide +kernel
theorem d10_second_18 : decode c10_second 18 = .ok (.getfield 19, 3) := by decide +kernel
theorem d10_second_21 : decode c10_second 21 = .ok (.iconst 1, 1) := by decide +kernel
theorem d10_second_22 : decode c10_second 22 = .ok (.iadd, 1) := by decide +kernel
theorem d10_second_23 : decode c10_second 23 = .ok (.iaload, 1) := by decide +kernel
theorem d10_second_24 : decode c10_second 24 = .ok (.goto 4, 3) := by decide +kernel
theorem d10_second_27 : decode c10_second 27 = .ok (.iconst (-1), 1) := by decide +kernel
theorem d10_second_28 : decode c10_second 28 = .ok (.ireturn, 1) := by decide +kernel
theorem mw10_second : MV y10_second c10_second 1 (some .int) 0 := ⟨cd10_second, ini10, na10_second, im10_second, se10_second⟩
set_option maxHeartbeats 4000000 in
set_option maxRecDepth 100000 in
theorem k10_second (l : Launch) (E : En) (mo : Nat) (ad : Nat → Nat) (S : Nat → Int) (tx : Int → Int) (htx : ∀ j, 0 ≤ j → j < 100 → -128 ≤ tx j ∧ tx j ≤ 127) (hfd : 0 ≤ S 2 ∧ S 2 ≤ 100) (hat : 0 ≤ S 3 ∧ S 3 ≤ S 2) : Cp l E y10_second c10_second 1 (some .int) 0 0 [.ref mo] [(mo, mO ad S), (ad 5, aInt E 100 tx)] (fun r => ∃ (v : Int), r = some (.int (iZ v)) ∧ (v = nx tx (S 2) (S 3 + 1) ∧ (-128 ≤ v ∧ v ≤ 127))) := by
  refine Cp.of (by decide +kernel) (Nat.le_of_ble_eq_true rfl) (fun Γ hl hargs G F => ?_)
  subst hl
  have htb : S 3 + 1 < S 2 → -128 ≤ tx (S 3 + 1) ∧ tx (S 3 + 1) ≤ 127 := fun h => htx (S 3 + 1) (by omega) (by omega)
  refine j_aload_n G 0 rfl d10_second_0 ?_
  refine j_get G 0 10 3 in10 fl10_19 d10_second_1 rfl rfl (by decide) (v := .int (iZ (S 3))) rfl rfl ?_
  refine j_iconst G d10_second_4 ?_
  refine j_iadd G d10_second_5 ?_
  refine j_aload_n G 0 rfl d10_second_6 ?_
  refine j_get G 0 10 2 in10 fl10_16 d10_second_7 rfl rfl (by decide) (v := .int (iZ (S 2))) rfl rfl ?_
  refine j_icmp_ge (tgt := 27) G d10_second_10 (by decide) (by omega) (by omega) (fun h1 => ?_) (fun h1 => ?_)
  ·
    refine j_iconst G d10_second_27 ?_
    exact j_iret G F d10_second_28 ⟨(-1), rfl, (by unfold nx; (repeat' split) <;> omega)⟩
  ·
    refine j_aload_n G 0 rfl d10_second_13 ?_
    refine j_get G 0 10 5 in10 fl10_25 d10_second_14 rfl rfl (by decide) (v := .ref (ad 5)) rfl rfl ?_
    refine j_aload_n G 0 rfl d10_second_17 ?_
    refine j_get G 0 10 3 in10 fl10_19 d10_second_18 rfl rfl (by decide) (v := .int (iZ (S 3))) rfl rfl ?_
    refine j_iconst G d10_second_21 ?_
    refine j_iadd G d10_second_22 ?_
    refine j_iald G 1 rfl (by omega) d10_second_23 ?_
    have hb2 := htx ((S 3) + 1) (by omega) (by omega)
    refine j_goto (tgt := 28) G d10_second_24 (by decide) ?_
    exact j_iret G F d10_second_28 ⟨tx ((S 3) + 1), rfl, (by unfold nx; (repeat' split) <;> omega)⟩
theorem d10_takes_0 : decode c10_takes 0 = .ok (.aload_n 0, 1) := by decide +kernel
theorem d10_takes_1 : decode c10_takes 1 = .ok (.invokevirtual 223, 3) := by decide +kernel
theorem d10_takes_4 : decode c10_takes 4 = .ok (.iload_n 1, 1) := by decide +kernel
theorem d10_takes_5 : decode c10_takes 5 = .ok (.if_icmp .eq 5, 3) := by decide +kernel
theorem d10_takes_8 : decode c10_takes 8 = .ok (.iconst 0, 1) := by decide +kernel
theorem d10_takes_9 : decode c10_takes 9 = .ok (.ireturn, 1) := by decide +kernel
theorem d10_takes_10 : decode c10_takes 10 = .ok (.aload_n 0, 1) := by decide +kernel
theorem d10_takes_11 : decode c10_takes 11 = .ok (.dup, 1) := by decide +kernel
theorem d10_takes_12 : decode c10_takes 12 = .ok (.getfield 19, 3) := by decide +kernel
theorem d10_takes_15 : decode c10_takes 15 = .ok (.iconst 1, 1) := by decide +kernel
theorem d10_takes_16 : decode c10_takes 16 = .ok (.iadd, 1) := by decide +kernel
theorem d10_takes_17 : decode c10_takes 17 = .ok (.putfield 19, 3) := by decide +kernel
theorem d10_takes_20 : decode c10_takes 20 = .ok (.iconst 1, 1) := by decide +kernel
theorem d10_takes_21 : decode c10_takes 21 = .ok (.ireturn, 1) := by decide +kernel
theorem mw10_takes : MV y10_takes c10_takes 2 (some .boolean) 1 := ⟨cd10_takes, ini10, na10_takes, im10_takes, se10_takes⟩
set_option maxHeartbeats 4000000 in
set_option maxRecDepth 100000 in
theorem k10_takes (l : Launch) (E : En) (mo : Nat) (ad : Nat → Nat) (S : Nat → Int) (tx : Int → Int) (c : Int) (htx : ∀ j, 0 ≤ j → j < 100 → -128 ≤ tx j ∧ tx j ≤ 127) (hfd : 0 ≤ S 2 ∧ S 2 ≤ 100) (hat : 0 ≤ S 3 ∧ S 3 ≤ S 2) (hc : 0 ≤ c ∧ c ≤ 200) : Cm l E y10_takes c10_takes 2 (some .boolean) { frames := 1, cells := 0, slots := 0, locals := 20 } [.ref mo, .int (iZ c)] [(mo, mO ad S), (ad 5, aInt E 100 tx)] (fun r ws => ∃ (v : Int), ∃ (at1 : Int), r = some (.int (iZ v)) ∧ ws = [(mo, mO ad (upS S 3 at1)), (ad 5, aInt E 100 tx)] ∧ (((nx tx (S 2) (S 3) = c ∧ at1 = S 3 + 1 ∧ at1 ≤ S 2) ∧ v = 1) ∨ ((¬ nx tx (S 2) (S 3) = c ∧ at1 = S 3) ∧ v = 0))) := by
  refine Cm.of (by decide +kernel) (Nat.le_of_ble_eq_true rfl) (fun Γ A hl hargs hin G F => ?_)
  subst hl
  refine j_aload_n G 0 rfl d10_takes_0 ?_
  refine j_VP G (k10_next (xl Γ) E mo ad S tx (by first | assumption | omega | (simp only [upS, reduceIte, Nat.reduceEqDiff, eq_self, List.length_cons, List.length_nil, List.length_append] <;> omega)) (by first | assumption | omega | (simp only [upS, reduceIte, Nat.reduceEqDiff, eq_self, List.length_cons, List.length_nil, List.length_append] <;> omega)) (by first | assumption | omega | (simp only [upS, reduceIte, Nat.reduceEqDiff, eq_self, List.length_cons, List.length_nil, List.length_append] <;> omega))) mw10_next ml10_223 [0, 1] rfl 0 10 rfl rfl rfl ⟨Nat.le_of_ble_eq_true rfl, Nat.le_of_ble_eq_true rfl⟩ rfl (rest := []) rfl (Nat.le_of_ble_eq_true rfl) d10_takes_1 ⟨Nat.le_of_ble_eq_true rfl, Nat.le_of_ble_eq_true rfl⟩ (fun r hr => ?_)
  obtain ⟨v2, rfl, ⟨hq1_0, hq1_1, hq1_2⟩⟩ := hr
  have hn0 := hq1_0
  have hn1 := hq1_1
  have hn2 := hq1_2
  refine j_iload_n G 1 rfl d10_takes_4 ?_
  refine j_icmp_eq (tgt := 10) G d10_takes_5 (by decide) (by omega) (by omega) (fun h3 => ?_) (fun h3 => ?_)
  ·
    refine j_aload_n G 0 rfl d10_takes_10 ?_
    refine j_dup G d10_takes_11 rfl ?_
    refine j_get G 0 10 3 in10 fl10_19 d10_takes_12 rfl rfl (by decide) (v := .int (iZ (S 3))) rfl rfl ?_
    refine j_iconst G d10_takes_15 ?_
    refine j_iadd G d10_takes_16 ?_
    refine j_put G 0 10 3 in10 tyok10 nm10 fl10_19 d10_takes_17 rfl rfl (by decide) ⟨rfl, rfl⟩ rfl rfl (Nat.le_of_ble_eq_true rfl) (e := mO ad (upS S 3 ((S 3) + 1))) rfl ?_
    refine j_iconst G d10_takes_20 ?_
    exact j_zret G F d10_takes_21 (by decide) ⟨1, ((S 3) + 1), rfl, rfl, (by first | (left; exact ⟨⟨by omega, by omega, by omega⟩, rfl⟩) | (right; exact ⟨⟨by omega, by omega⟩, rfl⟩))⟩
  ·
    refine j_iconst G d10_takes_8 ?_
    exact j_zret G F d10_takes_9 (by decide) ⟨0, (S 3), rfl, rfl, (by first | (left; exact ⟨⟨by omega, by omega, by omega⟩, rfl⟩) | (right; exact ⟨⟨by omega, by omega⟩, rfl⟩))⟩
theorem d10_takesWord_0 : decode c10_takesWord 0 = .ok (.iload_n 2, 1) := by decide +kernel
theorem d10_takesWord_1 : decode c10_takesWord 1 = .ok (.iconst 1, 1) := by decide +kernel
theorem d10_takesWord_2 : decode c10_takesWord 2 = .ok (.isub, 1) := by decide +kernel
theorem d10_takesWord_3 : decode c10_takesWord 3 = .ok (.istore_n 3, 1) := by decide +kernel
theorem d10_takesWord_4 : decode c10_takesWord 4 = .ok (.iload_n 3, 1) := by decide +kernel
theorem d10_takesWord_5 : decode c10_takesWord 5 = .ok (.ifCond .lt 29, 3) := by decide +kernel
theorem d10_takesWord_8 : decode c10_takesWord 8 = .ok (.aload_n 0, 1) := by decide +kernel
theorem d10_takesWord_9 : decode c10_takesWord 9 = .ok (.bipush 96, 2) := by decide +kernel
theorem d10_takesWord_11 : decode c10_takesWord 11 = .ok (.iload_n 1, 1) := by decide +kernel
theorem d10_takesWord_12 : decode c10_takesWord 12 = .ok (.iconst 5, 1) := by decide +kernel
theorem d10_takesWord_13 : decode c10_takesWord 13 = .ok (.iload_n 3, 1) := by decide +kernel
theorem d10_takesWord_14 : decode c10_takesWord 14 = .ok (.imul, 1) := by decide +kernel
theorem d10_takesWord_15 : decode c10_takesWord 15 = .ok (.ishr, 1) := by decide +kernel
theorem d10_takesWord_16 : decode c10_takesWord 16 = .ok (.bipush 31, 2) := by decide +kernel
theorem d10_takesWord_18 : decode c10_takesWord 18 = .ok (.iand, 1) := by decide +kernel
theorem d10_takesWord_19 : decode c10_takesWord 19 = .ok (.iadd, 1) := by decide +kernel
theorem d10_takesWord_20 : decode c10_takesWord 20 = .ok (.invokevirtual 227, 3) := by decide +kernel
theorem d10_takesWord_23 : decode c10_takesWord 23 = .ok (.ifCond .ne 5, 3) := by decide +kernel
theorem d10_takesWord_26 : decode c10_takesWord 26 = .ok (.iconst 0, 1) := by decide +kernel
theorem d10_takesWord_27 : decode c10_takesWord 27 = .ok (.ireturn, 1) := by decide +kernel
theorem d10_takesWord_28 : decode c10_takesWord 28 = .ok (.iinc 3 (-1), 3) := by decide +kernel
theorem d10_takesWord_31 : decode c10_takesWord 31 = .ok (.goto (-27), 3) := by decide +kernel
theorem d10_takesWord_34 : decode c10_takesWord 34 = .ok (.aload_n 0, 1) := by decide +kernel
theorem d10_takesWord_35 : decode c10_takesWord 35 = .ok (.bipush 32, 2) := by decide +kernel
theorem d10_takesWord_37 : decode c10_takesWord 37 = .ok (.invokevirtual 227, 3) := by decide +kernel
theorem d10_takesWord_40 : decode c10_takesWord 40 = .ok (.ireturn, 1) := by decide +kernel
theorem mw10_takesWord : MV y10_takesWord c10_takesWord 4 (some .boolean) 2 := ⟨cd10_takesWord, ini10, na10_takesWord, im10_takesWord, se10_takesWord⟩
set_option maxHeartbeats 4000000 in
set_option maxRecDepth 100000 in
theorem k10_takesWord (l : Launch) (E : En) (mo : Nat) (ad : Nat → Nat) (S : Nat → Int) (tx : Int → Int) (w : Int) (L : Int) (k : Int) (htx : ∀ j, 0 ≤ j → j < 100 → -128 ≤ tx j ∧ tx j ≤ 127) (hfd : 0 ≤ S 2 ∧ S 2 ≤ 100) (hat : 0 ≤ S 3 ∧ S 3 ≤ S 2) (r_w : R32 w) (hk : 0 ≤ k ∧ k ≤ 8) (hL : L = wl k) (hlt : ∀ i, 0 ≤ i → i < L → 96 + lt5 w i = wb k (L - 1 - i)) : Cm l E y10_takesWord c10_takesWord 4 (some .boolean) { frames := 2, cells := 0, slots := 0, locals := 41 } [.ref mo, .int (iZ w), .int (iZ L)] [(mo, mO ad S), (ad 5, aInt E 100 tx)] (fun r ws => ∃ (v : Int), ∃ (at1 : Int), r = some (.int (iZ v)) ∧ ws = [(mo, mO ad (upS S 3 at1)), (ad 5, aInt E 100 tx)] ∧ ((((mt tx (S 2) (S 3) k = wl k ∧ nx tx (S 2) (S 3 + wl k) = 32) ∧ at1 = S 3 + wl k + 1 ∧ at1 ≤ S 2) ∧ v = 1) ∨ ((¬ (mt tx (S 2) (S 3) k = wl k ∧ nx tx (S 2) (S 3 + wl k) = 32) ∧ at1 = S 3 + mt tx (S 2) (S 3) k ∧ at1 ≤ S 2) ∧ v = 0))) := by
  refine Cm.of (by decide +kernel) (Nat.le_of_ble_eq_true rfl) (fun Γ A hl hargs hin G F => ?_)
  subst hl
  have hwl := wl_r k
  refine j_iload_n G 2 rfl d10_takesWord_0 ?_
  refine j_iconst G d10_takesWord_1 ?_
  refine j_isub G d10_takesWord_2 ?_
  refine j_istore_n G d10_takesWord_3 (by decide) rfl ?_
  refine j_eq (ws' := [(mo, mO ad (upS S 3 (S 3))), (ad 5, aInt E 100 tx)]) rfl rfl rfl ?_
  have lp4 : ∀ (fu : Nat) (i : Int) (az : Int), (i + 1).toNat < fu → (-1 ≤ i ∧ i ≤ wl k - 1) → (az = S 3 + (wl k - 1 - i) ∧ az ≤ S 2) → (mt tx (S 2) (S 3) k = mtF tx (S 2) (S 3) k (i + 1).toNat (wl k - 1 - i)) →  J E 4 Γ (some A) 0 0 [(mo, mO ad (upS S 3 az)), (ad 5, aInt E 100 tx)] 4 [(3, .int (iZ i)), (0, .ref mo), (1, .int (iZ w)), (2, .int (iZ L))] [] := by
    intro fu
    induction fu with
    | zero =>
      intro i az hm
      exact absurd hm (Nat.not_lt_zero _)
    | succ fu ih4 =>
      intro i az hm hi hat2 hm
      refine j_iload_n G 0 rfl d10_takesWord_4 ?_
      refine j_if_lt (tgt := 34) G d10_takesWord_5 (by decide) (by omega) (fun h1 => ?_) (fun h1 => ?_)
      ·
        have hmn : mt tx (S 2) (S 3) k = wl k := by rw [mt_s hm (by omega)]; omega
        have hae : az = S 3 + wl k := by omega
        refine j_aload_n G 1 rfl d10_takesWord_34 ?_
        refine j_bipush G d10_takesWord_35 rfl ?_
        refine j_VM G (rm' := { frames := 1, cells := 0, slots := 0, locals := 20 }) (wc := [(mo, mO ad (upS S 3 az)), (ad 5, aInt E 100 tx)]) (wr := []) (k10_takes (xl Γ) E mo ad (upS S 3 az) tx 32 (by first | assumption | omega | (simp only [upS, reduceIte, Nat.reduceEqDiff, eq_self, List.length_cons, List.length_nil, List.length_append] <;> omega)) (by first | assumption | omega | (simp only [upS, reduceIte, Nat.reduceEqDiff, eq_self, List.length_cons, List.length_nil, List.length_append] <;> omega)) (by first | assumption | omega | (simp only [upS, reduceIte, Nat.reduceEqDiff, eq_self, List.length_cons, List.length_nil, List.length_append] <;> omega)) (by first | assumption | omega | (simp only [upS, reduceIte, Nat.reduceEqDiff, eq_self, List.length_cons, List.length_nil, List.length_append] <;> omega))) mw10_takes ml10_227 [0, 1] [] rfl rfl ⟨rfl, rfl⟩ (by decide) 0 10 rfl rfl rfl ⟨Nat.le_of_ble_eq_true rfl, Nat.le_of_ble_eq_true rfl⟩ rfl (rest := []) rfl (Nat.le_of_ble_eq_true rfl) d10_takesWord_37 ⟨Nat.le_of_ble_eq_true rfl, Nat.le_of_ble_eq_true rfl⟩ (fun r w1 hr => ?_)
        obtain ⟨v3, at1_4, rfl, rfl, hq2⟩ := hr
        refine j_eq (ws' := [(mo, mO ad (upS S 3 at1_4)), (ad 5, aInt E 100 tx)]) rfl rfl rfl ?_
        try simp only [upS, reduceIte, Nat.reduceEqDiff, eq_self] at hq2
        rcases hq2 with ⟨hq2, rfl⟩ | ⟨hq2, rfl⟩
        ·
          exact j_zret G F d10_takesWord_40 (by decide) ⟨1, at1_4, rfl, rfl, (by first | (left; exact ⟨⟨⟨hmn, (by rw [← hae]; omega)⟩, by omega, by omega⟩, rfl⟩) | (right; exact ⟨⟨fun q => by have q2 := q.2; rw [← hae] at q2; omega, by omega, by omega⟩, rfl⟩) | (right; exact ⟨⟨fun q => by omega, by omega, by omega⟩, rfl⟩))⟩
        ·
          exact j_zret G F d10_takesWord_40 (by decide) ⟨0, at1_4, rfl, rfl, (by first | (left; exact ⟨⟨⟨hmn, (by rw [← hae]; omega)⟩, by omega, by omega⟩, rfl⟩) | (right; exact ⟨⟨fun q => by have q2 := q.2; rw [← hae] at q2; omega, by omega, by omega⟩, rfl⟩) | (right; exact ⟨⟨fun q => by omega, by omega, by omega⟩, rfl⟩))⟩
      ·
        have hle := hlt i (by omega) (by omega)
        have hwb := wb_r' hk (j := L - 1 - i) (by omega) (by omega)
        refine j_aload_n G 1 rfl d10_takesWord_8 ?_
        refine j_bipush G d10_takesWord_9 rfl ?_
        refine j_iload_n G 2 rfl d10_takesWord_11 ?_
        refine j_iconst G d10_takesWord_12 ?_
        refine j_iload_n G 0 rfl d10_takesWord_13 ?_
        refine j_imul G d10_takesWord_14 ?_
        refine r_ishr G d10_takesWord_15 ?_
        refine j_top (y := iZ (((iZ w) >>> ((iZ (5 * i)) &&& 31)).toInt)) (iZ_of _).symm ?_
        refine j_bipush G d10_takesWord_16 rfl ?_
        refine r_iand G d10_takesWord_18 ?_
        refine j_top (y := (iZ (lt5 w i))) (lt5_top) ?_
        refine j_iadd G d10_takesWord_19 ?_
        refine j_VM G (rm' := { frames := 1, cells := 0, slots := 0, locals := 20 }) (wc := [(mo, mO ad (upS S 3 az)), (ad 5, aInt E 100 tx)]) (wr := []) (k10_takes (xl Γ) E mo ad (upS S 3 az) tx (96 + (lt5 w i)) (by first | assumption | omega | (simp only [upS, reduceIte, Nat.reduceEqDiff, eq_self, List.length_cons, List.length_nil, List.length_append] <;> omega)) (by first | assumption | omega | (simp only [upS, reduceIte, Nat.reduceEqDiff, eq_self, List.length_cons, List.length_nil, List.length_append] <;> omega)) (by first | assumption | omega | (simp only [upS, reduceIte, Nat.reduceEqDiff, eq_self, List.length_cons, List.length_nil, List.length_append] <;> omega)) (by first | assumption | omega | (simp only [upS, reduceIte, Nat.reduceEqDiff, eq_self, List.length_cons, List.length_nil, List.length_append] <;> omega))) mw10_takes ml10_227 [0, 1] [] rfl rfl ⟨rfl, rfl⟩ (by decide) 0 10 rfl rfl rfl ⟨Nat.le_of_ble_eq_true rfl, Nat.le_of_ble_eq_true rfl⟩ rfl (rest := []) rfl (Nat.le_of_ble_eq_true rfl) d10_takesWord_20 ⟨Nat.le_of_ble_eq_true rfl, Nat.le_of_ble_eq_true rfl⟩ (fun r w1 hr => ?_)
        obtain ⟨v6, at1_7, rfl, rfl, hq5⟩ := hr
        refine j_eq (ws' := [(mo, mO ad (upS S 3 at1_7)), (ad 5, aInt E 100 tx)]) rfl rfl rfl ?_
        try simp only [upS, reduceIte, Nat.reduceEqDiff, eq_self] at hq5
        rcases hq5 with ⟨hq5, rfl⟩ | ⟨hq5, rfl⟩
        ·
          refine j_if_ne (tgt := 28) G d10_takesWord_23 (by decide) (by decide) (fun h8 => ?_) (fun h8 => absurd h8 (by decide))
          have hmy : nx tx (S 2) az = wb k (wl k - 1 - i) := by rw [show wl k - 1 - i = L - 1 - i by omega]; omega
          refine j_iinc G d10_takesWord_28 0 rfl (by decide) rfl ?_
          refine j_goto (tgt := 4) G d10_takesWord_31 (by decide) ?_
          exact ih4 (i + (-1)) at1_7 (by omega) (by first | assumption | omega) (by first | assumption | omega) (by rw [hm, show (i + 1).toNat = (i + (-1) + 1).toNat + 1 by omega, mtF_y (by rw [show S 3 + (wl k - 1 - i) = az by omega]; omega)]; congr 1; omega)
        ·
          refine j_if_ne (tgt := 28) G d10_takesWord_23 (by decide) (by decide) (fun h9 => absurd h9 (by decide)) (fun h9 => ?_)
          have hmn : mt tx (S 2) (S 3) k = wl k - 1 - i := by rw [hm, show (i + 1).toNat = i.toNat + 1 by omega, mtF_n (by rw [show S 3 + (wl k - 1 - i) = az by omega, show wl k - 1 - i = L - 1 - i by omega]; omega)]
          refine j_iconst G d10_takesWord_26 ?_
          exact j_zret G F d10_takesWord_27 (by decide) ⟨0, at1_7, rfl, rfl, (by first | (left; exact ⟨⟨⟨hmn, (by rw [← hae]; omega)⟩, by omega, by omega⟩, rfl⟩) | (right; exact ⟨⟨fun q => by have q2 := q.2; rw [← hae] at q2; omega, by omega, by omega⟩, rfl⟩) | (right; exact ⟨⟨fun q => by omega, by omega, by omega⟩, rfl⟩))⟩
  exact lp4 _ (L - 1) (S 3) (Nat.lt_succ_self _) (by first | assumption | omega) (by first | assumption | omega) (by rw [show wl k - 1 - (L - 1) = 0 by omega, show (L - 1 + 1).toNat = (wl k).toNat by omega]; rfl)
theorem d10_isDigit_0 : decode c10_isDigit 0 = .ok (.aload_n 0, 1) := by decide +kernel
theorem d10_isDigit_1 : decode c10_isDigit 1 = .ok (.aload_n 0, 1) := by decide +kernel
theorem d10_isDigit_2 : decode c10_isDigit 2 = .ok (.invokevirtual 223, 3) := by decide +kernel
theorem d10_isDigit_5 : decode c10_isDigit 5 = .ok (.bipush 48, 2) := by decide +kernel
theorem d10_isDigit_7 : decode c10_isDigit 7 = .ok (.bipush 57, 2) := by decide +kernel
theorem d10_isDigit_9 : decode c10_isDigit 9 = .ok (.invokevirtual 219, 3) := by decide +kernel
theorem d10_isDigit_12 : decode c10_isDigit 12 = .ok (.ireturn, 1) := by decide +kernel
theorem mw10_isDigit : MV y10_isDigit c10_isDigit 1 (some .boolean) 0 := ⟨cd10_isDigit, ini10, na10_isDigit, im10_isDigit, se10_isDigit⟩
set_option maxHeartbeats 4000000 in
set_option maxRecDepth 100000 in
theorem k10_isDigit (l : Launch) (E : En) (mo : Nat) (ad : Nat → Nat) (S : Nat → Int) (tx : Int → Int) (htx : ∀ j, 0 ≤ j → j < 100 → -128 ≤ tx j ∧ tx j ≤ 127) (hfd : 0 ≤ S 2 ∧ S 2 ≤ 100) (hat : 0 ≤ S 3 ∧ S 3 ≤ S 2) : Cp l E y10_isDigit c10_isDigit 1 (some .boolean) 1 23 [.ref mo] [(mo, mO ad S), (ad 5, aInt E 100 tx)] (fun r => ∃ (v : Int), r = some (.int (iZ v)) ∧ ((((48 ≤ nx tx (S 2) (S 3) ∧ nx tx (S 2) (S 3) ≤ 57)) ∧ v = 1) ∨ (¬ ((48 ≤ nx tx (S 2) (S 3) ∧ nx tx (S 2) (S 3) ≤ 57)) ∧ v = 0))) := by
  refine Cp.of (by decide +kernel) (Nat.le_of_ble_eq_true rfl) (fun Γ hl hargs G F => ?_)
  subst hl
  refine j_aload_n G 0 rfl d10_isDigit_0 ?_
  refine j_aload_n G 0 rfl d10_isDigit_1 ?_
  refine j_VP G (k10_next (xl Γ) E mo ad S tx (by first | assumption | omega | (simp only [upS, reduceIte, Nat.reduceEqDiff, eq_self, List.length_cons, List.length_nil, List.length_append] <;> omega)) (by first | assumption | omega | (simp only [upS, reduceIte, Nat.reduceEqDiff, eq_self, List.length_cons, List.length_nil, List.length_append] <;> omega)) (by first | assumption | omega | (simp only [upS, reduceIte, Nat.reduceEqDiff, eq_self, List.length_cons, List.length_nil, List.length_append] <;> omega))) mw10_next ml10_223 [0, 1] rfl 0 10 rfl rfl rfl ⟨Nat.le_of_ble_eq_true rfl, Nat.le_of_ble_eq_true rfl⟩ rfl (rest := [.ref mo]) rfl (Nat.le_of_ble_eq_true rfl) d10_isDigit_2 ⟨Nat.le_of_ble_eq_true rfl, Nat.le_of_ble_eq_true rfl⟩ (fun r hr => ?_)
  obtain ⟨v2, rfl, ⟨hq1_0, hq1_1, hq1_2⟩⟩ := hr
  have hn0 := hq1_0
  have hn1 := hq1_1
  refine j_bipush G d10_isDigit_5 rfl ?_
  refine j_bipush G d10_isDigit_7 rfl ?_
  refine j_VP G (k10_in (xl Γ) E mo v2 48 57 (by first | assumption | omega | (simp only [upS, reduceIte, Nat.reduceEqDiff, eq_self, List.length_cons, List.length_nil, List.length_append] <;> omega)) (by first | assumption | omega | (simp only [upS, reduceIte, Nat.reduceEqDiff, eq_self, List.length_cons, List.length_nil, List.length_append] <;> omega)) (by first | assumption | omega | (simp only [upS, reduceIte, Nat.reduceEqDiff, eq_self, List.length_cons, List.length_nil, List.length_append] <;> omega))) mw10_in ml10_219 [] rfl 0 10 rfl rfl rfl ⟨Nat.le_of_ble_eq_true rfl, Nat.le_of_ble_eq_true rfl⟩ rfl (rest := []) rfl (Nat.le_of_ble_eq_true rfl) d10_isDigit_9 ⟨Nat.le_of_ble_eq_true rfl, Nat.le_of_ble_eq_true rfl⟩ (fun r hr => ?_)
  obtain ⟨v4, rfl, hq3⟩ := hr
  rcases hq3 with ⟨hq3, rfl⟩ | ⟨hq3, rfl⟩
  ·
    exact j_zret G F d10_isDigit_12 (by decide) ⟨1, rfl, (by first | (left; exact ⟨by omega, rfl⟩) | (right; exact ⟨by omega, rfl⟩))⟩
  ·
    exact j_zret G F d10_isDigit_12 (by decide) ⟨0, rfl, (by first | (left; exact ⟨by omega, rfl⟩) | (right; exact ⟨by omega, rfl⟩))⟩
theorem d10_takesNumber_0 : decode c10_takesNumber 0 = .ok (.aload_n 0, 1) := by decide +kernel
theorem d10_takesNumber_1 : decode c10_takesNumber 1 = .ok (.invokevirtual 231, 3) := by decide +kernel
theorem d10_takesNumber_4 : decode c10_takesNumber 4 = .ok (.ifCond .ne 5, 3) := by decide +kernel
theorem d10_takesNumber_7 : decode c10_takesNumber 7 = .ok (.iconst 0, 1) := by decide +kernel
theorem d10_takesNumber_8 : decode c10_takesNumber 8 = .ok (.ireturn, 1) := by decide +kernel
theorem d10_takesNumber_9 : decode c10_takesNumber 9 = .ok (.aload_n 0, 1) := by decide +kernel
theorem d10_takesNumber_10 : decode c10_takesNumber 10 = .ok (.iconst 0, 1) := by decide +kernel
theorem d10_takesNumber_11 : decode c10_takesNumber 11 = .ok (.putfield 22, 3) := by decide +kernel
theorem d10_takesNumber_14 : decode c10_takesNumber 14 = .ok (.iconst 0, 1) := by decide +kernel
theorem d10_takesNumber_15 : decode c10_takesNumber 15 = .ok (.istore_n 2, 1) := by decide +kernel
theorem d10_takesNumber_16 : decode c10_takesNumber 16 = .ok (.iload_n 2, 1) := by decide +kernel
theorem d10_takesNumber_17 : decode c10_takesNumber 17 = .ok (.iload_n 1, 1) := by decide +kernel
theorem d10_takesNumber_18 : decode c10_takesNumber 18 = .ok (.if_icmp .ge 45, 3) := by decide +kernel
theorem d10_takesNumber_21 : decode c10_takesNumber 21 = .ok (.aload_n 0, 1) := by decide +kernel
theorem d10_takesNumber_22 : decode c10_takesNumber 22 = .ok (.invokevirtual 231, 3) := by decide +kernel
theorem d10_takesNumber_25 : decode c10_takesNumber 25 = .ok (.ifCond .eq 38, 3) := by decide +kernel
theorem d10_takesNumber_28 : decode c10_takesNumber 28 = .ok (.aload_n 0, 1) := by decide +kernel
theorem d10_takesNumber_29 : decode c10_takesNumber 29 = .ok (.bipush 10, 2) := by decide +kernel
theorem d10_takesNumber_31 : decode c10_takesNumber 31 = .ok (.aload_n 0, 1) := by decide +kernel
theorem d10_takesNumber_32 : decode c10_takesNumber 32 = .ok (.getfield 22, 3) := by decide +kernel
theorem d10_takesNumber_35 : decode c10_takesNumber 35 = .ok (.imul, 1) := by decide +kernel
theorem d10_takesNumber_36 : decode c10_takesNumber 36 = .ok (.aload_n 0, 1) := by decide +kernel
theorem d10_takesNumber_37 : decode c10_takesNumber 37 = .ok (.invokevirtual 223, 3) := by decide +kernel
theorem d10_takesNumber_40 : decode c10_takesNumber 40 = .ok (.iadd, 1) := by decide +kernel
theorem d10_takesNumber_41 : decode c10_takesNumber 41 = .ok (.bipush 48, 2) := by decide +kernel
theorem d10_takesNumber_43 : decode c10_takesNumber 43 = .ok (.isub, 1) := by decide +kernel
theorem d10_takesNumber_44 : decode c10_takesNumber 44 = .ok (.putfield 22, 3) := by decide +kernel
theorem d10_takesNumber_47 : decode c10_takesNumber 47 = .ok (.aload_n 0, 1) := by decide +kernel
theorem d10_takesNumber_48 : decode c10_takesNumber 48 = .ok (.dup, 1) := by decide +kernel
theorem d10_takesNumber_49 : decode c10_takesNumber 49 = .ok (.getfield 19, 3) := by decide +kernel
theorem d10_takesNumber_52 : decode c10_takesNumber 52 = .ok (.iconst 1, 1) := by decide +kernel
theorem d10_takesNumber_53 : decode c10_takesNumber 53 = .ok (.iadd, 1) := by decide +kernel
theorem d10_takesNumber_54 : decode c10_takesNumber 54 = .ok (.putfield 19, 3) := by decide +kernel
theorem d10_takesNumber_57 : decode c10_takesNumber 57 = .ok (.iinc 2 1, 3) := by decide +kernel
theorem d10_takesNumber_60 : decode c10_takesNumber 60 = .ok (.goto (-44), 3) := by decide +kernel
theorem d10_takesNumber_63 : decode c10_takesNumber 63 = .ok (.iconst 1, 1) := by decide +kernel
theorem d10_takesNumber_64 : decode c10_takesNumber 64 = .ok (.ireturn, 1) := by decide +kernel
theorem mw10_takesNumber : MV y10_takesNumber c10_takesNumber 3 (some .boolean) 1 := ⟨cd10_takesNumber, ini10, na10_takesNumber, im10_takesNumber, se10_takesNumber⟩
set_option maxHeartbeats 4000000 in
set_option maxRecDepth 100000 in
theorem k10_takesNumber (l : Launch) (E : En) (mo : Nat) (ad : Nat → Nat) (S : Nat → Int) (tx : Int → Int) (most : Int) (htx : ∀ j, 0 ≤ j → j < 100 → -128 ≤ tx j ∧ tx j ≤ 127) (hfd : 0 ≤ S 2 ∧ S 2 ≤ 100) (hat : 0 ≤ S 3 ∧ S 3 ≤ S 2) (hmo : 2 ≤ most ∧ most ≤ 3) : Cm l E y10_takesNumber c10_takesNumber 3 (some .boolean) { frames := 2, cells := 0, slots := 0, locals := 43 } [.ref mo, .int (iZ most)] [(mo, mO ad S), (ad 5, aInt E 100 tx)] (fun r ws => ∃ (v : Int), ∃ (at1 : Int), ∃ (dg1 : Int), r = some (.int (iZ v)) ∧ ws = [(mo, mO ad (upS (upS S 3 at1) 4 dg1)), (ad 5, aInt E 100 tx)] ∧ ((((48 ≤ nx tx (S 2) (S 3) ∧ nx tx (S 2) (S 3) ≤ 57) ∧ at1 = nbP tx (S 2) most.toNat (S 3) ∧ dg1 = nbV tx (S 2) most.toNat (S 3) 0 ∧ at1 ≤ S 2 ∧ S 3 < at1) ∧ v = 1) ∨ ((¬ (48 ≤ nx tx (S 2) (S 3) ∧ nx tx (S 2) (S 3) ≤ 57) ∧ at1 = S 3 ∧ dg1 = S 4) ∧ v = 0))) := by
  refine Cm.of (by decide +kernel) (Nat.le_of_ble_eq_true rfl) (fun Γ A hl hargs hin G F => ?_)
  subst hl
  refine j_aload_n G 0 rfl d10_takesNumber_0 ?_
  refine j_VP G (k10_isDigit (xl Γ) E mo ad S tx (by first | assumption | omega | (simp only [upS, reduceIte, Nat.reduceEqDiff, eq_self, List.length_cons, List.length_nil, List.length_append] <;> omega)) (by first | assumption | omega | (simp only [upS, reduceIte, Nat.reduceEqDiff, eq_self, List.length_cons, List.length_nil, List.length_append] <;> omega)) (by first | assumption | omega | (simp only [upS, reduceIte, Nat.reduceEqDiff, eq_self, List.length_cons, List.length_nil, List.length_append] <;> omega))) mw10_isDigit ml10_231 [0, 1] rfl 0 10 rfl rfl rfl ⟨Nat.le_of_ble_eq_true rfl, Nat.le_of_ble_eq_true rfl⟩ rfl (rest := []) rfl (Nat.le_of_ble_eq_true rfl) d10_takesNumber_1 ⟨Nat.le_of_ble_eq_true rfl, Nat.le_of_ble_eq_true rfl⟩ (fun r hr => ?_)
  obtain ⟨v2, rfl, hq1⟩ := hr
  rcases hq1 with ⟨hq1, rfl⟩ | ⟨hq1, rfl⟩
  ·
    refine j_if_ne (tgt := 9) G d10_takesNumber_4 (by decide) (by decide) (fun h3 => ?_) (fun h3 => absurd h3 (by decide))
    have hd0 : (48 ≤ nx tx (S 2) (S 3) ∧ nx tx (S 2) (S 3) ≤ 57) := by omega
    refine j_aload_n G 0 rfl d10_takesNumber_9 ?_
    refine j_iconst G d10_takesNumber_10 ?_
    refine j_put G 0 10 4 in10 tyok10 nm10 fl10_22 d10_takesNumber_11 rfl rfl (by decide) ⟨rfl, rfl⟩ rfl rfl (Nat.le_of_ble_eq_true rfl) (e := mO ad (upS S 4 0)) rfl ?_
    refine j_iconst G d10_takesNumber_14 ?_
    refine j_istore_n G d10_takesNumber_15 (by decide) rfl ?_
    refine j_eq (ws' := [(mo, mO ad (upS (upS S 4 0) 3 (S 3))), (ad 5, aInt E 100 tx)]) rfl rfl rfl ?_
    have lp16 : ∀ (fu : Nat) (kk : Int) (dg : Int) (az : Int), (most - kk).toNat < fu → (0 ≤ kk ∧ kk ≤ most) → (kk = 0 → az = S 3) → (0 ≤ dg ∧ (kk ≤ 0 → dg ≤ 0) ∧ (kk ≤ 1 → dg ≤ 9) ∧ (kk ≤ 2 → dg ≤ 99) ∧ dg ≤ 999) → (S 3 ≤ az ∧ az ≤ S 2 ∧ (0 < kk → S 3 < az)) → (nbP tx (S 2) most.toNat (S 3) = nbP tx (S 2) (most - kk).toNat az) → (nbV tx (S 2) most.toNat (S 3) 0 = nbV tx (S 2) (most - kk).toNat az dg) →  J E 3 Γ (some A) 0 0 [(mo, mO ad (upS (upS S 4 dg) 3 az)), (ad 5, aInt E 100 tx)] 16 [(2, .int (iZ kk)), (0, .ref mo), (1, .int (iZ most))] [] := by
      intro fu
      induction fu with
      | zero =>
        intro kk dg az hm
        exact absurd hm (Nat.not_lt_zero _)
      | succ fu ih16 =>
        intro kk dg az hm hk hz hdg hat2 hp hv
        refine j_iload_n G 0 rfl d10_takesNumber_16 ?_
        refine j_iload_n G 2 rfl d10_takesNumber_17 ?_
        refine j_icmp_ge (tgt := 63) G d10_takesNumber_18 (by decide) (by omega) (by omega) (fun h4 => ?_) (fun h4 => ?_)
        ·
          have hne := nb_end (U := tx) (n := S 2) (p := az) (a := dg) (kk := kk) (most := most) (by omega) (by omega)
          have hsa : S 3 < az := by (by_cases hz9 : 0 < kk); exact hat2.2.2 hz9; exfalso; have e2 : az = S 3 := hz (by omega); rw [← e2] at hd0; omega
          refine j_iconst G d10_takesNumber_63 ?_
          exact j_zret G F d10_takesNumber_64 (by decide) ⟨1, az, dg, rfl, rfl, (by first | (left; exact ⟨⟨hd0, by rw [hp, hne.1], by rw [hv, hne.2], by omega, by omega⟩, rfl⟩) | (right; exact ⟨⟨by omega, by omega, by omega⟩, rfl⟩))⟩
        ·
          refine j_aload_n G 1 rfl d10_takesNumber_21 ?_
          refine j_VP G (k10_isDigit (xl Γ) E mo ad (upS (upS S 4 dg) 3 az) tx (by first | assumption | omega | (simp only [upS, reduceIte, Nat.reduceEqDiff, eq_self, List.length_cons, List.length_nil, List.length_append] <;> omega)) (by first | assumption | omega | (simp only [upS, reduceIte, Nat.reduceEqDiff, eq_self, List.length_cons, List.length_nil, List.length_append] <;> omega)) (by first | assumption | omega | (simp only [upS, reduceIte, Nat.reduceEqDiff, eq_self, List.length_cons, List.length_nil, List.length_append] <;> omega))) mw10_isDigit ml10_231 [0, 1] rfl 0 10 rfl rfl rfl ⟨Nat.le_of_ble_eq_true rfl, Nat.le_of_ble_eq_true rfl⟩ rfl (rest := []) rfl (Nat.le_of_ble_eq_true rfl) d10_takesNumber_22 ⟨Nat.le_of_ble_eq_true rfl, Nat.le_of_ble_eq_true rfl⟩ (fun r hr => ?_)
          obtain ⟨v6, rfl, hq5⟩ := hr
          try simp only [upS, reduceIte, Nat.reduceEqDiff, eq_self] at hq5
          rcases hq5 with ⟨hq5, rfl⟩ | ⟨hq5, rfl⟩
          ·
            refine j_if_eq (tgt := 63) G d10_takesNumber_25 (by decide) (by decide) (fun h7 => absurd h7 (by decide)) (fun h7 => ?_)
            have hdd : (48 ≤ nx tx (S 2) az ∧ nx tx (S 2) az ≤ 57) := by omega
            refine j_aload_n G 1 rfl d10_takesNumber_28 ?_
            refine j_bipush G d10_takesNumber_29 rfl ?_
            refine j_aload_n G 1 rfl d10_takesNumber_31 ?_
            refine j_get G 0 10 4 in10 fl10_22 d10_takesNumber_32 rfl rfl (by decide) (v := .int (iZ dg)) rfl rfl ?_
            refine j_imul G d10_takesNumber_35 ?_
            refine j_aload_n G 1 rfl d10_takesNumber_36 ?_
            refine j_VP G (k10_next (xl Γ) E mo ad (upS (upS S 4 dg) 3 az) tx (by first | assumption | omega | (simp only [upS, reduceIte, Nat.reduceEqDiff, eq_self, List.length_cons, List.length_nil, List.length_append] <;> omega)) (by first | assumption | omega | (simp only [upS, reduceIte, Nat.reduceEqDiff, eq_self, List.length_cons, List.length_nil, List.length_append] <;> omega)) (by first | assumption | omega | (simp only [upS, reduceIte, Nat.reduceEqDiff, eq_self, List.length_cons, List.length_nil, List.length_append] <;> omega))) mw10_next ml10_223 [0, 1] rfl 0 10 rfl rfl rfl ⟨Nat.le_of_ble_eq_true rfl, Nat.le_of_ble_eq_true rfl⟩ rfl (rest := [.int (iZ (10 * dg)), .ref mo]) rfl (Nat.le_of_ble_eq_true rfl) d10_takesNumber_37 ⟨Nat.le_of_ble_eq_true rfl, Nat.le_of_ble_eq_true rfl⟩ (fun r hr => ?_)
            obtain ⟨v9, rfl, ⟨hq8_0, hq8_1, hq8_2⟩⟩ := hr
            try simp only [upS, reduceIte, Nat.reduceEqDiff, eq_self] at hq8_0 hq8_1 hq8_2
            have hn0 := hq8_0
            have hn1 := hq8_1
            have hn2 := hq8_2
            refine j_iadd G d10_takesNumber_40 ?_
            refine j_bipush G d10_takesNumber_41 rfl ?_
            refine j_isub G d10_takesNumber_43 ?_
            refine j_put G 0 10 4 in10 tyok10 nm10 fl10_22 d10_takesNumber_44 rfl rfl (by decide) ⟨rfl, rfl⟩ rfl rfl (Nat.le_of_ble_eq_true rfl) (e := mO ad (upS (upS S 3 az) 4 (((10 * dg) + v9) - 48))) rfl ?_
            refine j_aload_n G 1 rfl d10_takesNumber_47 ?_
            refine j_dup G d10_takesNumber_48 rfl ?_
            refine j_get G 0 10 3 in10 fl10_19 d10_takesNumber_49 rfl rfl (by decide) (v := .int (iZ az)) rfl rfl ?_
            refine j_iconst G d10_takesNumber_52 ?_
            refine j_iadd G d10_takesNumber_53 ?_
            refine j_put G 0 10 3 in10 tyok10 nm10 fl10_19 d10_takesNumber_54 rfl rfl (by decide) ⟨rfl, rfl⟩ rfl rfl (Nat.le_of_ble_eq_true rfl) (e := mO ad (upS (upS S 4 (((10 * dg) + v9) - 48)) 3 (az + 1))) rfl ?_
            refine j_iinc G d10_takesNumber_57 0 rfl (by decide) rfl ?_
            refine j_goto (tgt := 16) G d10_takesNumber_60 (by decide) ?_
            exact ih16 (kk + 1) (((10 * dg) + v9) - 48) (az + 1) (by omega) (by first | assumption | omega) (by first | assumption | omega) (by first | assumption | omega) (by first | assumption | omega) (by rw [hp, show (most - kk).toNat = (most - (kk + 1)).toNat + 1 by omega, nbP_y hdd]) (by rw [hv, show (most - kk).toNat = (most - (kk + 1)).toNat + 1 by omega, nbV_y hdd]; congr 1; omega)
          ·
            refine j_if_eq (tgt := 63) G d10_takesNumber_25 (by decide) (by decide) (fun h10 => ?_) (fun h10 => absurd h10 (by decide))
            have hne := nb_end (U := tx) (n := S 2) (p := az) (a := dg) (kk := kk) (most := most) (by omega) (by omega)
            have hsa : S 3 < az := by (by_cases hz9 : 0 < kk); exact hat2.2.2 hz9; exfalso; have e2 : az = S 3 := hz (by omega); rw [← e2] at hd0; omega
            refine j_iconst G d10_takesNumber_63 ?_
            exact j_zret G F d10_takesNumber_64 (by decide) ⟨1, az, dg, rfl, rfl, (by first | (left; exact ⟨⟨hd0, by rw [hp, hne.1], by rw [hv, hne.2], by omega, by omega⟩, rfl⟩) | (right; exact ⟨⟨by omega, by omega, by omega⟩, rfl⟩))⟩
    exact lp16 _ 0 0 (S 3) (Nat.lt_succ_self _) (by first | assumption | omega) (by first | assumption | omega) (by omega) (by first | assumption | omega) (by rw [Int.sub_zero]) (by rw [Int.sub_zero])
  ·
    refine j_if_ne (tgt := 9) G d10_takesNumber_4 (by decide) (by decide) (fun h11 => absurd h11 (by decide)) (fun h11 => ?_)
    refine j_iconst G d10_takesNumber_7 ?_
    exact j_zret G F d10_takesNumber_8 (by decide) ⟨0, (S 3), (S 4), rfl, rfl, (by first | (left; exact ⟨⟨hd0, by rw [hp, hne.1], by rw [hv, hne.2], by omega, by omega⟩, rfl⟩) | (right; exact ⟨⟨by omega, by omega, by omega⟩, rfl⟩))⟩
theorem d10_put_0 : decode c10_put 0 = .ok (.aload_n 0, 1) := by decide +kernel
theorem d10_put_1 : decode c10_put 1 = .ok (.getfield 53, 3) := by decide +kernel
theorem d10_put_4 : decode c10_put 4 = .ok (.aload_n 0, 1) := by decide +kernel
theorem d10_put_5 : decode c10_put 5 = .ok (.getfield 59, 3) := by decide +kernel
theorem d10_put_8 : decode c10_put 8 = .ok (.iload_n 1, 1) := by decide +kernel
theorem d10_put_9 : decode c10_put 9 = .ok (.iastore, 1) := by decide +kernel
theorem d10_put_10 : decode c10_put 10 = .ok (.aload_n 0, 1) := by decide +kernel
theorem d10_put_11 : decode c10_put 11 = .ok (.dup, 1) := by decide +kernel
theorem d10_put_12 : decode c10_put 12 = .ok (.getfield 59, 3) := by decide +kernel
theorem d10_put_15 : decode c10_put 15 = .ok (.iconst 1, 1) := by decide +kernel
theorem d10_put_16 : decode c10_put 16 = .ok (.iadd, 1) := by decide +kernel
theorem d10_put_17 : decode c10_put 17 = .ok (.putfield 59, 3) := by decide +kernel
theorem d10_put_20 : decode c10_put 20 = .ok (.return_, 1) := by decide +kernel
theorem mw10_put : MV y10_put c10_put 2 none 1 := ⟨cd10_put, ini10, na10_put, im10_put, se10_put⟩
set_option maxHeartbeats 4000000 in
set_option maxRecDepth 100000 in
theorem k10_put (l : Launch) (E : En) (mo : Nat) (ad : Nat → Nat) (S : Nat → Int) (sg : Int → Int) (t : Int) (hs : 0 ≤ S 16 ∧ S 16 < 400) : Cm l E y10_put c10_put 2 none { frames := 0, cells := 0, slots := 0, locals := 0 } [.ref mo, .int (iZ t)] [(mo, mO ad S), (ad 14, aInt E 400 sg)] (fun r ws => ∃ (sg1 : Int → Int), r = none ∧ ws = [(mo, mO ad (upS S 16 (S 16 + 1))), (ad 14, aInt E 400 sg1)] ∧ sg1 = upI sg (S 16) t ∧ True) := by
  refine Cm.of (by decide +kernel) (Nat.le_of_ble_eq_true rfl) (fun Γ A hl hargs hin G F => ?_)
  subst hl
  refine j_aload_n G 0 rfl d10_put_0 ?_
  refine j_get G 0 10 14 in10 fl10_53 d10_put_1 rfl rfl (by decide) (v := .ref (ad 14)) rfl rfl ?_
  refine j_aload_n G 0 rfl d10_put_4 ?_
  refine j_get G 0 10 16 in10 fl10_59 d10_put_5 rfl rfl (by decide) (v := .int (iZ (S 16))) rfl rfl ?_
  refine j_iload_n G 1 rfl d10_put_8 ?_
  refine j_iast G 1 rfl (by omega) d10_put_9 ?_
  refine j_aload_n G 0 rfl d10_put_10 ?_
  refine j_dup G d10_put_11 rfl ?_
  refine j_get G 0 10 16 in10 fl10_59 d10_put_12 rfl rfl (by decide) (v := .int (iZ (S 16))) rfl rfl ?_
  refine j_iconst G d10_put_15 ?_
  refine j_iadd G d10_put_16 ?_
  refine j_put G 0 10 16 in10 tyok10 nm10 fl10_59 d10_put_17 rfl rfl (by decide) ⟨rfl, rfl⟩ rfl rfl (Nat.le_of_ble_eq_true rfl) (e := mO ad (upS S 16 ((S 16) + 1))) rfl ?_
  exact j_vret G F d10_put_20 ⟨(upI sg (S 16) t), rfl, rfl, (by first | rfl | (congr 1; omega)), trivial⟩
theorem d10_whole_0 : decode c10_whole 0 = .ok (.aload_n 0, 1) := by decide +kernel
theorem d10_whole_1 : decode c10_whole 1 = .ok (.getfield 62, 3) := by decide +kernel
theorem d10_whole_4 : decode c10_whole 4 = .ok (.ifCond .le 48, 3) := by decide +kernel
theorem d10_whole_7 : decode c10_whole 7 = .ok (.aload_n 0, 1) := by decide +kernel
theorem d10_whole_8 : decode c10_whole 8 = .ok (.getfield 56, 3) := by decide +kernel
theorem d10_whole_11 : decode c10_whole 11 = .ok (.aload_n 0, 1) := by decide +kernel
theorem d10_whole_12 : decode c10_whole 12 = .ok (.getfield 62, 3) := by decide +kernel
theorem d10_whole_15 : decode c10_whole 15 = .ok (.iconst 1, 1) := by decide +kernel
theorem d10_whole_16 : decode c10_whole 16 = .ok (.isub, 1) := by decide +kernel
theorem d10_whole_17 : decode c10_whole 17 = .ok (.iaload, 1) := by decide +kernel
theorem d10_whole_18 : decode c10_whole 18 = .ok (.bipush 33, 2) := by decide +kernel
theorem d10_whole_20 : decode c10_whole 20 = .ok (.if_icmp .ne 32, 3) := by decide +kernel
theorem d10_whole_23 : decode c10_whole 23 = .ok (.aload_n 0, 1) := by decide +kernel
theorem d10_whole_24 : decode c10_whole 24 = .ok (.bipush (-33), 2) := by decide +kernel
theorem d10_whole_26 : decode c10_whole 26 = .ok (.invokevirtual 235, 3) := by decide +kernel
theorem d10_whole_29 : decode c10_whole 29 = .ok (.aload_n 0, 1) := by decide +kernel
theorem d10_whole_30 : decode c10_whole 30 = .ok (.dup, 1) := by decide +kernel
theorem d10_whole_31 : decode c10_whole 31 = .ok (.getfield 62, 3) := by decide +kernel
theorem d10_whole_34 : decode c10_whole 34 = .ok (.iconst 1, 1) := by decide +kernel
theorem d10_whole_35 : decode c10_whole 35 = .ok (.isub, 1) := by decide +kernel
theorem d10_whole_36 : decode c10_whole 36 = .ok (.putfield 62, 3) := by decide +kernel
theorem d10_whole_39 : decode c10_whole 39 = .ok (.aload_n 0, 1) := by decide +kernel
theorem d10_whole_40 : decode c10_whole 40 = .ok (.dup, 1) := by decide +kernel
theorem d10_whole_41 : decode c10_whole 41 = .ok (.getfield 65, 3) := by decide +kernel
theorem d10_whole_44 : decode c10_whole 44 = .ok (.iconst 1, 1) := by decide +kernel
theorem d10_whole_45 : decode c10_whole 45 = .ok (.isub, 1) := by decide +kernel
theorem d10_whole_46 : decode c10_whole 46 = .ok (.putfield 65, 3) := by decide +kernel
theorem d10_whole_49 : decode c10_whole 49 = .ok (.goto (-49), 3) := by decide +kernel
theorem d10_whole_52 : decode c10_whole 52 = .ok (.return_, 1) := by decide +kernel
theorem mw10_whole : MV y10_whole c10_whole 1 none 0 := ⟨cd10_whole, ini10, na10_whole, im10_whole, se10_whole⟩
set_option maxHeartbeats 4000000 in
set_option maxRecDepth 100000 in
theorem k10_whole (l : Launch) (E : En) (mo : Nat) (ad : Nat → Nat) (S : Nat → Int) (sg : Int → Int) (wt : Int → Int) (σ : List Fr) (vb : Bv) (a : Int) (hH0 : Hav sg wt a σ vb (S 17) (S 16) (S 18)) (hsg : ∀ j, 0 ≤ j → j < 400 → -200 ≤ sg j ∧ sg j ≤ 20000) (hwb : ∀ j, 0 ≤ j → j < 101 → 0 ≤ wt j ∧ wt j ≤ 200) (hcn : 0 ≤ S 16 ∧ S 16 + S 17 ≤ 400 ∧ S 17 ≤ 100) : Cm l E y10_whole c10_whole 1 none { frames := 1, cells := 0, slots := 0, locals := 21 } [.ref mo] [(mo, mO ad S), (ad 14, aInt E 400 sg), (ad 15, aInt E 101 wt)] (fun r ws => ∃ (sg1 : Int → Int), ∃ (w1 : Int), ∃ (e1 : Int), ∃ (o1 : Int), r = none ∧ ws = [(mo, mO ad (upS (upS (upS S 17 w1) 16 e1) 18 o1)), (ad 14, aInt E 400 sg1), (ad 15, aInt E 101 wt)] ∧ (Hav sg1 wt a (whl σ vb).1 (whl σ vb).2 w1 e1 o1 ∧ (e1 + w1 = S 16 + S 17 ∧ w1 ≤ S 17 ∧ 0 ≤ w1 ∧ S 16 ≤ e1) ∧ (∀ j, 0 ≤ j → j < 400 → -200 ≤ sg1 j ∧ sg1 j ≤ 20000) ∧ ∀ j, j < S 16 → sg1 j = sg j)) := by
  refine Cm.of (by decide +kernel) (Nat.le_of_ble_eq_true rfl) (fun Γ A hl hargs hin G F => ?_)
  subst hl
  refine j_eq (ws' := [(mo, mO ad (upS (upS (upS S 17 (S 17)) 16 (S 16)) 18 (S 18))), (ad 14, aInt E 400 sg), (ad 15, aInt E 101 wt)]) rfl rfl rfl ?_
  have lp0 : ∀ (fu : Nat) (sg2 : Int → Int) (w : Int) (e : Int) (o : Int) (σ2 : List Fr) (v2 : Bv), w.toNat < fu → (Hav sg2 wt a σ2 v2 w e o) → (whl σ vb = whl σ2 v2) → (e + w = S 16 + S 17 ∧ w ≤ S 17) → (∀ j, 0 ≤ j → j < 400 → -200 ≤ sg2 j ∧ sg2 j ≤ 20000) → (∀ j, j < S 16 → sg2 j = sg j) →  J E 1 Γ (some A) 0 0 [(mo, mO ad (upS (upS (upS S 17 w) 16 e) 18 o)), (ad 14, aInt E 400 sg2), (ad 15, aInt E 101 wt)] 0 [(0, .ref mo)] [] := by
    intro fu
    induction fu with
    | zero =>
      intro sg2 w e o σ2 v2 hm
      exact absurd hm (Nat.not_lt_zero _)
    | succ fu ih0 =>
      intro sg2 w e o σ2 v2 hm hH hw2 hc2 hsg2 hkp
      refine j_aload_n G 0 rfl d10_whole_0 ?_
      have hww := hH.o0
      refine j_get G 0 10 17 in10 fl10_62 d10_whole_1 rfl rfl (by decide) (v := .int (iZ w)) rfl rfl ?_
      refine j_if_le (tgt := 52) G d10_whole_4 (by decide) (by omega) (fun h1 => ?_) (fun h1 => ?_)
      ·
        have hst := whl_stop hH (fun h => by omega)
        exact j_vret G F d10_whole_52 ⟨sg2, w, e, o, rfl, rfl, (by refine ⟨?_, ⟨by omega, by omega, by omega, by omega⟩, hsg2, hkp⟩; rw [hw2, hst]; exact hH)⟩
      ·
        refine j_aload_n G 0 rfl d10_whole_7 ?_
        refine j_get G 0 10 15 in10 fl10_56 d10_whole_8 rfl rfl (by decide) (v := .ref (ad 15)) rfl rfl ?_
        refine j_aload_n G 0 rfl d10_whole_11 ?_
        refine j_get G 0 10 17 in10 fl10_62 d10_whole_12 rfl rfl (by decide) (v := .int (iZ w)) rfl rfl ?_
        refine j_iconst G d10_whole_15 ?_
        refine j_isub G d10_whole_16 ?_
        refine j_iald G 2 rfl (by omega) d10_whole_17 ?_
        have hb2 := hwb (w - 1) (by omega) (by omega)
        refine j_bipush G d10_whole_18 rfl ?_
        refine j_icmp_ne (tgt := 52) G d10_whole_20 (by decide) (by omega) (by decide) (fun h3 => ?_) (fun h3 => ?_)
        ·
          have hst := whl_stop hH (fun h => by omega)
          exact j_vret G F d10_whole_52 ⟨sg2, w, e, o, rfl, rfl, (by refine ⟨?_, ⟨by omega, by omega, by omega, by omega⟩, hsg2, hkp⟩; rw [hw2, hst]; exact hH)⟩
        ·
          have hn := hav_not hH (by omega) (by omega)
          refine j_aload_n G 0 rfl d10_whole_23 ?_
          refine j_bipush G d10_whole_24 rfl ?_
          refine j_VM G (rm' := { frames := 0, cells := 0, slots := 0, locals := 0 }) (wc := [(mo, mO ad (upS (upS (upS S 17 w) 16 e) 18 o)), (ad 14, aInt E 400 sg2)]) (wr := [(ad 15, aInt E 101 wt)]) (k10_put (xl Γ) E mo ad (upS (upS (upS S 17 w) 16 e) 18 o) sg2 (-33) (by first | assumption | omega | (simp only [upS, reduceIte, Nat.reduceEqDiff, eq_self, List.length_cons, List.length_nil, List.length_append] <;> omega))) mw10_put ml10_235 [0, 1] [2] rfl rfl ⟨rfl, rfl⟩ (by decide) 0 10 rfl rfl rfl ⟨Nat.le_of_ble_eq_true rfl, Nat.le_of_ble_eq_true rfl⟩ rfl (rest := []) rfl (Nat.le_of_ble_eq_true rfl) d10_whole_26 ⟨Nat.le_of_ble_eq_true rfl, Nat.le_of_ble_eq_true rfl⟩ (fun r w1 hr => ?_)
          obtain ⟨sg1_5, rfl, rfl, rfl, hq4⟩ := hr
          refine j_eq (ws' := [(ad 15, aInt E 101 wt), (mo, mO ad (upS (upS (upS S 17 w) 18 o) 16 (e + 1))), (ad 14, aInt E 400 (upI sg2 (e) (-33)))]) rfl rfl rfl ?_
          try simp only [upS, reduceIte, Nat.reduceEqDiff, eq_self] at hq4
          refine j_aload_n G 0 rfl d10_whole_29 ?_
          refine j_dup G d10_whole_30 rfl ?_
          refine j_get G 1 10 17 in10 fl10_62 d10_whole_31 rfl rfl (by decide) (v := .int (iZ w)) rfl rfl ?_
          refine j_iconst G d10_whole_34 ?_
          refine j_isub G d10_whole_35 ?_
          refine j_put G 1 10 17 in10 tyok10 nm10 fl10_62 d10_whole_36 rfl rfl (by decide) ⟨rfl, rfl⟩ rfl rfl (Nat.le_of_ble_eq_true rfl) (e := mO ad (upS (upS (upS S 18 o) 16 (e + 1)) 17 (w - 1))) rfl ?_
          refine j_aload_n G 0 rfl d10_whole_39 ?_
          refine j_dup G d10_whole_40 rfl ?_
          refine j_get G 1 10 18 in10 fl10_65 d10_whole_41 rfl rfl (by decide) (v := .int (iZ o)) rfl rfl ?_
          refine j_iconst G d10_whole_44 ?_
          refine j_isub G d10_whole_45 ?_
          refine j_put G 1 10 18 in10 tyok10 nm10 fl10_65 d10_whole_46 rfl rfl (by decide) ⟨rfl, rfl⟩ rfl rfl (Nat.le_of_ble_eq_true rfl) (e := mO ad (upS (upS (upS S 16 (e + 1)) 17 (w - 1)) 18 (o - 1))) rfl ?_
          refine j_goto (tgt := 0) G d10_whole_49 (by decide) ?_
          refine j_perm (ws' := [(mo, mO ad (upS (upS (upS S 16 (e + 1)) 17 (w - 1)) 18 (o - 1))), (ad 14, aInt E 400 (upI sg2 (e) (-33))), (ad 15, aInt E 101 wt)]) [1, 2, 0] rfl rfl rfl ?_
          refine j_eq (ws' := [(mo, mO ad (upS (upS (upS S 17 (w - 1)) 16 (e + 1)) 18 (o - 1))), (ad 14, aInt E 400 (upI sg2 (e) (-33))), (ad 15, aInt E 101 wt)]) rfl rfl rfl ?_
          exact ih0 (upI sg2 (e) (-33)) (w - 1) (e + 1) (o - 1) σ2.tail (ntB v2) (by omega) hn.1 (by rw [hw2, hn.2]) (by first | assumption | omega) (fun j h1 h2 => if hj : j = e then (by unfold upI; rw [if_pos hj]; exact ⟨by decide, by decide⟩) else (by unfold upI; rw [if_neg hj]; exact hsg2 j h1 h2)) (fun j h1 => by rw [upI_ne (by omega)]; exact hkp j h1)
  exact lp0 _ sg (S 17) (S 16) (S 18) σ vb (Nat.lt_succ_self _) hH0 rfl (by first | assumption | omega) hsg (fun _ _ => rfl)
theorem d10_settle_0 : decode c10_settle 0 = .ok (.aload_n 0, 1) := by decide +kernel
theorem d10_settle_1 : decode c10_settle 1 = .ok (.getfield 62, 3) := by decide +kernel
theorem d10_settle_4 : decode c10_settle 4 = .ok (.ifCond .le 68, 3) := by decide +kernel
theorem d10_settle_7 : decode c10_settle 7 = .ok (.aload_n 0, 1) := by decide +kernel
theorem d10_settle_8 : decode c10_settle 8 = .ok (.getfield 56, 3) := by decide +kernel
theorem d10_settle_11 : decode c10_settle 11 = .ok (.aload_n 0, 1) := by decide +kernel
theorem d10_settle_12 : decode c10_settle 12 = .ok (.getfield 62, 3) := by decide +kernel
theorem d10_settle_15 : decode c10_settle 15 = .ok (.iconst 1, 1) := by decide +kernel
theorem d10_settle_16 : decode c10_settle 16 = .ok (.isub, 1) := by decide +kernel
theorem d10_settle_17 : decode c10_settle 17 = .ok (.iaload, 1) := by decide +kernel
theorem d10_settle_18 : decode c10_settle 18 = .ok (.bipush 38, 2) := by decide +kernel
theorem d10_settle_20 : decode c10_settle 20 = .ok (.if_icmp .eq 25, 3) := by decide +kernel
theorem d10_settle_23 : decode c10_settle 23 = .ok (.aload_n 0, 1) := by decide +kernel
theorem d10_settle_24 : decode c10_settle 24 = .ok (.getfield 56, 3) := by decide +kernel
theorem d10_settle_27 : decode c10_settle 27 = .ok (.aload_n 0, 1) := by decide +kernel
theorem d10_settle_28 : decode c10_settle 28 = .ok (.getfield 62, 3) := by decide +kernel
theorem d10_settle_31 : decode c10_settle 31 = .ok (.iconst 1, 1) := by decide +kernel
theorem d10_settle_32 : decode c10_settle 32 = .ok (.isub, 1) := by decide +kernel
theorem d10_settle_33 : decode c10_settle 33 = .ok (.iaload, 1) := by decide +kernel
theorem d10_settle_34 : decode c10_settle 34 = .ok (.bipush 124, 2) := by decide +kernel
theorem d10_settle_36 : decode c10_settle 36 = .ok (.if_icmp .ne 36, 3) := by decide +kernel
theorem d10_settle_39 : decode c10_settle 39 = .ok (.iload_n 1, 1) := by decide +kernel
theorem d10_settle_40 : decode c10_settle 40 = .ok (.bipush 38, 2) := by decide +kernel
theorem d10_settle_42 : decode c10_settle 42 = .ok (.if_icmp .eq 30, 3) := by decide +kernel
theorem d10_settle_45 : decode c10_settle 45 = .ok (.aload_n 0, 1) := by decide +kernel
theorem d10_settle_46 : decode c10_settle 46 = .ok (.dup, 1) := by decide +kernel
theorem d10_settle_47 : decode c10_settle 47 = .ok (.getfield 62, 3) := by decide +kernel
theorem d10_settle_50 : decode c10_settle 50 = .ok (.iconst 1, 1) := by decide +kernel
theorem d10_settle_51 : decode c10_settle 51 = .ok (.isub, 1) := by decide +kernel
theorem d10_settle_52 : decode c10_settle 52 = .ok (.putfield 62, 3) := by decide +kernel
theorem d10_settle_55 : decode c10_settle 55 = .ok (.aload_n 0, 1) := by decide +kernel
theorem d10_settle_56 : decode c10_settle 56 = .ok (.aload_n 0, 1) := by decide +kernel
theorem d10_settle_57 : decode c10_settle 57 = .ok (.getfield 56, 3) := by decide +kernel
theorem d10_settle_60 : decode c10_settle 60 = .ok (.aload_n 0, 1) := by decide +kernel
theorem d10_settle_61 : decode c10_settle 61 = .ok (.getfield 62, 3) := by decide +kernel
theorem d10_settle_64 : decode c10_settle 64 = .ok (.iaload, 1) := by decide +kernel
theorem d10_settle_65 : decode c10_settle 65 = .ok (.ineg, 1) := by decide +kernel
theorem d10_settle_66 : decode c10_settle 66 = .ok (.invokevirtual 235, 3) := by decide +kernel
theorem d10_settle_69 : decode c10_settle 69 = .ok (.goto (-69), 3) := by decide +kernel
theorem d10_settle_72 : decode c10_settle 72 = .ok (.return_, 1) := by decide +kernel
theorem mw10_settle : MV y10_settle c10_settle 2 none 1 := ⟨cd10_settle, ini10, na10_settle, im10_settle, se10_settle⟩
set_option maxHeartbeats 4000000 in
set_option maxRecDepth 100000 in
theorem k10_settle (l : Launch) (E : En) (mo : Nat) (ad : Nat → Nat) (S : Nat → Int) (sg : Int → Int) (wt : Int → Int) (σ : List Fr) (vb : Bv) (a : Int) (s : Int) (hH0 : Hav sg wt a σ vb (S 17) (S 16) (S 18)) (hs : s = 38 ∨ s = 124) (hsg : ∀ j, 0 ≤ j → j < 400 → -200 ≤ sg j ∧ sg j ≤ 20000) (hwb : ∀ j, 0 ≤ j → j < 101 → 0 ≤ wt j ∧ wt j ≤ 200) (hcn : 0 ≤ S 16 ∧ S 16 + S 17 ≤ 400 ∧ S 17 ≤ 100) : Cm l E y10_settle c10_settle 2 none { frames := 1, cells := 0, slots := 0, locals := 21 } [.ref mo, .int (iZ s)] [(mo, mO ad S), (ad 14, aInt E 400 sg), (ad 15, aInt E 101 wt)] (fun r ws => ∃ (sg1 : Int → Int), ∃ (w1 : Int), ∃ (e1 : Int), r = none ∧ ws = [(mo, mO ad (upS (upS S 17 w1) 16 e1)), (ad 14, aInt E 400 sg1), (ad 15, aInt E 101 wt)] ∧ ((Hav sg1 wt a (stl s σ vb).1 (stl s σ vb).2 w1 e1 (S 18) ∧ stl s (stl s σ vb).1 (stl s σ vb).2 = stl s σ vb) ∧ (e1 + w1 = S 16 + S 17 ∧ w1 ≤ S 17 ∧ 0 ≤ w1 ∧ S 16 ≤ e1) ∧ (∀ j, 0 ≤ j → j < 400 → -200 ≤ sg1 j ∧ sg1 j ≤ 20000) ∧ ∀ j, j < S 16 → sg1 j = sg j)) := by
  refine Cm.of (by decide +kernel) (Nat.le_of_ble_eq_true rfl) (fun Γ A hl hargs hin G F => ?_)
  subst hl
  refine j_eq (ws' := [(mo, mO ad (upS (upS S 17 (S 17)) 16 (S 16))), (ad 14, aInt E 400 sg), (ad 15, aInt E 101 wt)]) rfl rfl rfl ?_
  have lp0 : ∀ (fu : Nat) (sg2 : Int → Int) (w : Int) (e : Int) (σ2 : List Fr) (v2 : Bv), w.toNat < fu → (Hav sg2 wt a σ2 v2 w e (S 18)) → (stl s σ vb = stl s σ2 v2) → (e + w = S 16 + S 17 ∧ w ≤ S 17) → (∀ j, 0 ≤ j → j < 400 → -200 ≤ sg2 j ∧ sg2 j ≤ 20000) → (∀ j, j < S 16 → sg2 j = sg j) →  J E 2 Γ (some A) 0 0 [(mo, mO ad (upS (upS S 17 w) 16 e)), (ad 14, aInt E 400 sg2), (ad 15, aInt E 101 wt)] 0 [(0, .ref mo), (1, .int (iZ s))] [] := by
    intro fu
    induction fu with
    | zero =>
      intro sg2 w e σ2 v2 hm
      exact absurd hm (Nat.not_lt_zero _)
    | succ fu ih0 =>
      intro sg2 w e σ2 v2 hm hH hw2 hc2 hsg2 hkp
      refine j_aload_n G 0 rfl d10_settle_0 ?_
      have hww := hH.o0
      refine j_get G 0 10 17 in10 fl10_62 d10_settle_1 rfl rfl (by decide) (v := .int (iZ w)) rfl rfl ?_
      refine j_if_le (tgt := 72) G d10_settle_4 (by decide) (by omega) (fun h1 => ?_) (fun h1 => ?_)
      ·
        have hst := stl_stop (s := s) hH (fun h => by omega)
        exact j_vret G F d10_settle_72 ⟨sg2, w, e, rfl, rfl, (by refine ⟨⟨?_, ?_⟩, ⟨by omega, by omega, by omega, by omega⟩, hsg2, hkp⟩; (rw [hw2, hst]; exact hH); (rw [hw2, hst]; exact hst))⟩
      ·
        refine j_aload_n G 0 rfl d10_settle_7 ?_
        refine j_get G 0 10 15 in10 fl10_56 d10_settle_8 rfl rfl (by decide) (v := .ref (ad 15)) rfl rfl ?_
        refine j_aload_n G 0 rfl d10_settle_11 ?_
        refine j_get G 0 10 17 in10 fl10_62 d10_settle_12 rfl rfl (by decide) (v := .int (iZ w)) rfl rfl ?_
        refine j_iconst G d10_settle_15 ?_
        refine j_isub G d10_settle_16 ?_
        refine j_iald G 2 rfl (by omega) d10_settle_17 ?_
        have hb2 := hwb (w - 1) (by omega) (by omega)
        refine j_bipush G d10_settle_18 rfl ?_
        refine j_icmp_eq (tgt := 45) G d10_settle_20 (by decide) (by omega) (by decide) (fun h3 => ?_) (fun h3 => ?_)
        ·
          obtain ⟨v3, hn1, hn2⟩ := hav_bin (s := s) hH (by omega) (by omega)
          refine j_aload_n G 0 rfl d10_settle_45 ?_
          refine j_dup G d10_settle_46 rfl ?_
          refine j_get G 0 10 17 in10 fl10_62 d10_settle_47 rfl rfl (by decide) (v := .int (iZ w)) rfl rfl ?_
          refine j_iconst G d10_settle_50 ?_
          refine j_isub G d10_settle_51 ?_
          refine j_put G 0 10 17 in10 tyok10 nm10 fl10_62 d10_settle_52 rfl rfl (by decide) ⟨rfl, rfl⟩ rfl rfl (Nat.le_of_ble_eq_true rfl) (e := mO ad (upS (upS S 16 e) 17 (w - 1))) rfl ?_
          refine j_aload_n G 0 rfl d10_settle_55 ?_
          refine j_aload_n G 0 rfl d10_settle_56 ?_
          refine j_get G 0 10 15 in10 fl10_56 d10_settle_57 rfl rfl (by decide) (v := .ref (ad 15)) rfl rfl ?_
          refine j_aload_n G 0 rfl d10_settle_60 ?_
          refine j_get G 0 10 17 in10 fl10_62 d10_settle_61 rfl rfl (by decide) (v := .int (iZ (w - 1))) rfl rfl ?_
          refine j_iald G 2 rfl (by omega) d10_settle_64 ?_
          have hb4 := hwb (w - 1) (by omega) (by omega)
          refine j_ineg G d10_settle_65 ?_
          refine j_VM G (rm' := { frames := 0, cells := 0, slots := 0, locals := 0 }) (wc := [(mo, mO ad (upS (upS S 16 e) 17 (w - 1))), (ad 14, aInt E 400 sg2)]) (wr := [(ad 15, aInt E 101 wt)]) (k10_put (xl Γ) E mo ad (upS (upS S 16 e) 17 (w - 1)) sg2 (-(wt (w - 1))) (by first | assumption | omega | (simp only [upS, reduceIte, Nat.reduceEqDiff, eq_self, List.length_cons, List.length_nil, List.length_append] <;> omega))) mw10_put ml10_235 [0, 1] [2] rfl rfl ⟨rfl, rfl⟩ (by decide) 0 10 rfl rfl rfl ⟨Nat.le_of_ble_eq_true rfl, Nat.le_of_ble_eq_true rfl⟩ rfl (rest := []) rfl (Nat.le_of_ble_eq_true rfl) d10_settle_66 ⟨Nat.le_of_ble_eq_true rfl, Nat.le_of_ble_eq_true rfl⟩ (fun r w1 hr => ?_)
          obtain ⟨sg1_6, rfl, rfl, rfl, hq5⟩ := hr
          refine j_eq (ws' := [(ad 15, aInt E 101 wt), (mo, mO ad (upS (upS S 17 (w - 1)) 16 (e + 1))), (ad 14, aInt E 400 (upI sg2 (e) (-(wt (w - 1)))))]) rfl rfl rfl ?_
          try simp only [upS, reduceIte, Nat.reduceEqDiff, eq_self] at hq5
          refine j_goto (tgt := 0) G d10_settle_69 (by decide) ?_
          refine j_perm (ws' := [(mo, mO ad (upS (upS S 17 (w - 1)) 16 (e + 1))), (ad 14, aInt E 400 (upI sg2 (e) (-(wt (w - 1))))), (ad 15, aInt E 101 wt)]) [1, 2, 0] rfl rfl rfl ?_
          exact ih0 (upI sg2 (e) (-(wt (w - 1)))) (w - 1) (e + 1) σ2.tail v3 (by omega) hn1 (by rw [hw2, hn2]) (by first | assumption | omega) (fun j h1 h2 => if hj : j = e then (by unfold upI; rw [if_pos hj]; omega) else (by unfold upI; rw [if_neg hj]; exact hsg2 j h1 h2)) (fun j h1 => by rw [upI_ne (by omega)]; exact hkp j h1)
        ·
          refine j_aload_n G 0 rfl d10_settle_23 ?_
          refine j_get G 0 10 15 in10 fl10_56 d10_settle_24 rfl rfl (by decide) (v := .ref (ad 15)) rfl rfl ?_
          refine j_aload_n G 0 rfl d10_settle_27 ?_
          refine j_get G 0 10 17 in10 fl10_62 d10_settle_28 rfl rfl (by decide) (v := .int (iZ w)) rfl rfl ?_
          refine j_iconst G d10_settle_31 ?_
          refine j_isub G d10_settle_32 ?_
          refine j_iald G 2 rfl (by omega) d10_settle_33 ?_
          have hb7 := hwb (w - 1) (by omega) (by omega)
          refine j_bipush G d10_settle_34 rfl ?_
          refine j_icmp_ne (tgt := 72) G d10_settle_36 (by decide) (by omega) (by decide) (fun h8 => ?_) (fun h8 => ?_)
          ·
            have hst := stl_stop (s := s) hH (fun h => by omega)
            exact j_vret G F d10_settle_72 ⟨sg2, w, e, rfl, rfl, (by refine ⟨⟨?_, ?_⟩, ⟨by omega, by omega, by omega, by omega⟩, hsg2, hkp⟩; (rw [hw2, hst]; exact hH); (rw [hw2, hst]; exact hst))⟩
          ·
            refine j_iload_n G 1 rfl d10_settle_39 ?_
            refine j_bipush G d10_settle_40 rfl ?_
            refine j_icmp_eq (tgt := 72) G d10_settle_42 (by decide) (by omega) (by decide) (fun h9 => ?_) (fun h9 => ?_)
            ·
              have hst := stl_stop (s := s) hH (fun h => by omega)
              exact j_vret G F d10_settle_72 ⟨sg2, w, e, rfl, rfl, (by refine ⟨⟨?_, ?_⟩, ⟨by omega, by omega, by omega, by omega⟩, hsg2, hkp⟩; (rw [hw2, hst]; exact hH); (rw [hw2, hst]; exact hst))⟩
            ·
              obtain ⟨v3, hn1, hn2⟩ := hav_bin (s := s) hH (by omega) (by omega)
              refine j_aload_n G 0 rfl d10_settle_45 ?_
              refine j_dup G d10_settle_46 rfl ?_
              refine j_get G 0 10 17 in10 fl10_62 d10_settle_47 rfl rfl (by decide) (v := .int (iZ w)) rfl rfl ?_
              refine j_iconst G d10_settle_50 ?_
              refine j_isub G d10_settle_51 ?_
              refine j_put G 0 10 17 in10 tyok10 nm10 fl10_62 d10_settle_52 rfl rfl (by decide) ⟨rfl, rfl⟩ rfl rfl (Nat.le_of_ble_eq_true rfl) (e := mO ad (upS (upS S 16 e) 17 (w - 1))) rfl ?_
              refine j_aload_n G 0 rfl d10_settle_55 ?_
              refine j_aload_n G 0 rfl d10_settle_56 ?_
              refine j_get G 0 10 15 in10 fl10_56 d10_settle_57 rfl rfl (by decide) (v := .ref (ad 15)) rfl rfl ?_
              refine j_aload_n G 0 rfl d10_settle_60 ?_
              refine j_get G 0 10 17 in10 fl10_62 d10_settle_61 rfl rfl (by decide) (v := .int (iZ (w - 1))) rfl rfl ?_
              refine j_iald G 2 rfl (by omega) d10_settle_64 ?_
              have hb10 := hwb (w - 1) (by omega) (by omega)
              refine j_ineg G d10_settle_65 ?_
              refine j_VM G (rm' := { frames := 0, cells := 0, slots := 0, locals := 0 }) (wc := [(mo, mO ad (upS (upS S 16 e) 17 (w - 1))), (ad 14, aInt E 400 sg2)]) (wr := [(ad 15, aInt E 101 wt)]) (k10_put (xl Γ) E mo ad (upS (upS S 16 e) 17 (w - 1)) sg2 (-(wt (w - 1))) (by first | assumption | omega | (simp only [upS, reduceIte, Nat.reduceEqDiff, eq_self, List.length_cons, List.length_nil, List.length_append] <;> omega))) mw10_put ml10_235 [0, 1] [2] rfl rfl ⟨rfl, rfl⟩ (by decide) 0 10 rfl rfl rfl ⟨Nat.le_of_ble_eq_true rfl, Nat.le_of_ble_eq_true rfl⟩ rfl (rest := []) rfl (Nat.le_of_ble_eq_true rfl) d10_settle_66 ⟨Nat.le_of_ble_eq_true rfl, Nat.le_of_ble_eq_true rfl⟩ (fun r w1 hr => ?_)
              obtain ⟨sg1_12, rfl, rfl, rfl, hq11⟩ := hr
              refine j_eq (ws' := [(ad 15, aInt E 101 wt), (mo, mO ad (upS (upS S 17 (w - 1)) 16 (e + 1))), (ad 14, aInt E 400 (upI sg2 (e) (-(wt (w - 1)))))]) rfl rfl rfl ?_
              try simp only [upS, reduceIte, Nat.reduceEqDiff, eq_self] at hq11
              refine j_goto (tgt := 0) G d10_settle_69 (by decide) ?_
              refine j_perm (ws' := [(mo, mO ad (upS (upS S 17 (w - 1)) 16 (e + 1))), (ad 14, aInt E 400 (upI sg2 (e) (-(wt (w - 1))))), (ad 15, aInt E 101 wt)]) [1, 2, 0] rfl rfl rfl ?_
              exact ih0 (upI sg2 (e) (-(wt (w - 1)))) (w - 1) (e + 1) σ2.tail v3 (by omega) hn1 (by rw [hw2, hn2]) (by first | assumption | omega) (fun j h1 h2 => if hj : j = e then (by unfold upI; rw [if_pos hj]; omega) else (by unfold upI; rw [if_neg hj]; exact hsg2 j h1 h2)) (fun j h1 => by rw [upI_ne (by omega)]; exact hkp j h1)
  exact lp0 _ sg (S 17) (S 16) σ vb (Nat.lt_succ_self _) hH0 rfl (by first | assumption | omega) hsg (fun _ _ => rfl)
