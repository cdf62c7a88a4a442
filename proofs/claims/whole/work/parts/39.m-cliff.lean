def fdB (b k : Int) : Int := (iZ ((iZ b >>> (iZ (8 * k) &&& 31)).toInt)).toInt8.toInt32.toInt
theorem fdB_r (b k : Int) : -128 ≤ fdB b k ∧ fdB b k ≤ 127 := by
  unfold fdB
  have h := (iZ ((iZ b >>> (iZ (8 * k) &&& 31)).toInt)).toInt8.le_toInt
  have h2 := (iZ ((iZ b >>> (iZ (8 * k) &&& 31)).toInt)).toInt8.toInt_lt
  rw [Int8.toInt_toInt32]
  omega
/-- the text behind n bytes of b, from place p on -/
def fdF (b n : Int) (tx : Int → Int) (p : Int) : Int → Int := fun j => if p ≤ j ∧ j < p + n then fdB b (n - 1 - (j - p)) else tx j
def feedA (fed n : Int) : Int := if 0 ≤ n ∧ n ≤ 4 then (if 100 < fed + n then -4 else fed + n) else -2
def feedOk (fed n : Int) : Prop := (0 ≤ n ∧ n ≤ 4) ∧ ¬ 100 < fed + n
theorem fd_0 {b n p : Int} {tx : Int → Int} : tx = fun j => if p ≤ j ∧ j < p + (n - 1 - (n - 1)) then fdB b (n - 1 - (j - p)) else tx j := by
  funext j
  rw [if_neg (by omega)]
theorem fd_s {b n p k q v : Int} {tx g : Int → Int} (hg : g = fun j => if p ≤ j ∧ j < p + (n - 1 - k) then fdB b (n - 1 - (j - p)) else tx j) (hq : q = p + (n - 1 - k)) (hk : k ≤ n - 1) (hv : v = fdB b k) : upI g q v = fun j => if p ≤ j ∧ j < p + (n - 1 - (k + (-1))) then fdB b (n - 1 - (j - p)) else tx j := by
  funext j
  unfold upI
  rw [hg]
  by_cases hj : j = q
  · rw [if_pos hj, if_pos (by omega), hv]; congr 1; omega
  · rw [if_neg hj]
    by_cases h2 : p ≤ j ∧ j < p + (n - 1 - k)
    · simp only [if_pos h2]; rw [if_pos (by omega)]
    · simp only [if_neg h2]; rw [if_neg (by omega)]
theorem cvF_eq {a b a' b' : Nat → Int} : ∀ m : Nat, (∀ i, i < m → a i = a' i ∧ b i = b' i) → cvF a b m = cvF a' b' m
  | 0, _ => rfl
  | m + 1, h => by
    show tkF (a m) (b m) (cvF a b m) = tkF (a' m) (b' m) (cvF a' b' m)
    rw [cvF_eq m (fun i hi => h i (by omega)), (h m (by omega)).1, (h m (by omega)).2]
theorem ClF.mono {U : Int → Int} {n : Int} {wd nu fo to sg : Int → Int} {lo e e' : Int} {i : Nat} {c : Int} (h : ClF U n wd nu fo to sg lo e i c) (he : e ≤ e') : ClF U n wd nu fo to sg lo e' i c := ⟨h.1, h.2.1, fun q => ⟨(h.2.2 q).1, (h.2.2 q).2.1, Int.le_trans (h.2.2 q).2.2 he⟩⟩
theorem wf_7 {la po pt : Int → Int} {t : Int} (h : wfC (cM la po t) (pM pt t)) : 0 ≤ la (9 * t + 8) ∧ la (9 * t + 8) ≤ 40 := h.2.2.2.2.2.2.2
theorem clN_r {U : Int → Int} {n p : Int} : 0 ≤ clN U n p ∧ clN U n p ≤ 999 := nbV_r
theorem rel_conv {la po pt U wd nu fo to sg : Int → Int} {n f lo e : Int} {m : Nat} (h : RelC la po pt f (cvE (cvF (fun i : Nat => wd (12 * f + i)) (fun i : Nat => nu (12 * f + i)) m))) (hall : ∀ i : Nat, i < m → ClF U n wd nu fo to sg lo e i (12 * f + i)) : RelC la po pt f (cvE (cvF (fun i => hdK U n (cpos U n i)) (fun i => clN U n (cpos U n i)) m)) := by
  rw [cvF_eq (a' := fun i => hdK U n (cpos U n i)) (b' := fun i => clN U n (cpos U n i)) m (fun i hi => ⟨(hall i hi).1, (hall i hi).2.1⟩)] at h
  exact h
theorem d10_feed_0 : decode c10_feed 0 = .ok (.aload_n 0, 1) := by decide +kernel
theorem d10_feed_1 : decode c10_feed 1 = .ok (.iload_n 2, 1) := by decide +kernel
theorem d10_feed_2 : decode c10_feed 2 = .ok (.iconst 0, 1) := by decide +kernel
theorem d10_feed_3 : decode c10_feed 3 = .ok (.iconst 4, 1) := by decide +kernel
theorem d10_feed_4 : decode c10_feed 4 = .ok (.invokevirtual 219, 3) := by decide +kernel
theorem d10_feed_7 : decode c10_feed 7 = .ok (.ifCond .ne 6, 3) := by decide +kernel
theorem d10_feed_10 : decode c10_feed 10 = .ok (.bipush (-2), 2) := by decide +kernel
theorem d10_feed_12 : decode c10_feed 12 = .ok (.ireturn, 1) := by decide +kernel
theorem d10_feed_13 : decode c10_feed 13 = .ok (.aload_n 0, 1) := by decide +kernel
theorem d10_feed_14 : decode c10_feed 14 = .ok (.getfield 16, 3) := by decide +kernel
theorem d10_feed_17 : decode c10_feed 17 = .ok (.iload_n 2, 1) := by decide +kernel
theorem d10_feed_18 : decode c10_feed 18 = .ok (.iadd, 1) := by decide +kernel
theorem d10_feed_19 : decode c10_feed 19 = .ok (.bipush 100, 2) := by decide +kernel
theorem d10_feed_21 : decode c10_feed 21 = .ok (.if_icmp .le 6, 3) := by decide +kernel
theorem d10_feed_24 : decode c10_feed 24 = .ok (.bipush (-4), 2) := by decide +kernel
theorem d10_feed_26 : decode c10_feed 26 = .ok (.ireturn, 1) := by decide +kernel
theorem d10_feed_27 : decode c10_feed 27 = .ok (.iload_n 2, 1) := by decide +kernel
theorem d10_feed_28 : decode c10_feed 28 = .ok (.iconst 1, 1) := by decide +kernel
theorem d10_feed_29 : decode c10_feed 29 = .ok (.isub, 1) := by decide +kernel
theorem d10_feed_30 : decode c10_feed 30 = .ok (.istore_n 3, 1) := by decide +kernel
theorem d10_feed_31 : decode c10_feed 31 = .ok (.iload_n 3, 1) := by decide +kernel
theorem d10_feed_32 : decode c10_feed 32 = .ok (.ifCond .lt 35, 3) := by decide +kernel
theorem d10_feed_35 : decode c10_feed 35 = .ok (.aload_n 0, 1) := by decide +kernel
theorem d10_feed_36 : decode c10_feed 36 = .ok (.getfield 25, 3) := by decide +kernel
theorem d10_feed_39 : decode c10_feed 39 = .ok (.aload_n 0, 1) := by decide +kernel
theorem d10_feed_40 : decode c10_feed 40 = .ok (.getfield 16, 3) := by decide +kernel
theorem d10_feed_43 : decode c10_feed 43 = .ok (.iload_n 1, 1) := by decide +kernel
theorem d10_feed_44 : decode c10_feed 44 = .ok (.bipush 8, 2) := by decide +kernel
theorem d10_feed_46 : decode c10_feed 46 = .ok (.iload_n 3, 1) := by decide +kernel
theorem d10_feed_47 : decode c10_feed 47 = .ok (.imul, 1) := by decide +kernel
theorem d10_feed_48 : decode c10_feed 48 = .ok (.ishr, 1) := by decide +kernel
theorem d10_feed_49 : decode c10_feed 49 = .ok (.i2b, 1) := by decide +kernel
theorem d10_feed_50 : decode c10_feed 50 = .ok (.iastore, 1) := by decide +kernel
theorem d10_feed_51 : decode c10_feed 51 = .ok (.aload_n 0, 1) := by decide +kernel
theorem d10_feed_52 : decode c10_feed 52 = .ok (.dup, 1) := by decide +kernel
theorem d10_feed_53 : decode c10_feed 53 = .ok (.getfield 16, 3) := by decide +kernel
theorem d10_feed_56 : decode c10_feed 56 = .ok (.iconst 1, 1) := by decide +kernel
theorem d10_feed_57 : decode c10_feed 57 = .ok (.iadd, 1) := by decide +kernel
theorem d10_feed_58 : decode c10_feed 58 = .ok (.putfield 16, 3) := by decide +kernel
theorem d10_feed_61 : decode c10_feed 61 = .ok (.iinc 3 (-1), 3) := by decide +kernel
theorem d10_feed_64 : decode c10_feed 64 = .ok (.goto (-33), 3) := by decide +kernel
theorem d10_feed_67 : decode c10_feed 67 = .ok (.aload_n 0, 1) := by decide +kernel
theorem d10_feed_68 : decode c10_feed 68 = .ok (.getfield 16, 3) := by decide +kernel
theorem d10_feed_71 : decode c10_feed 71 = .ok (.ireturn, 1) := by decide +kernel
theorem mw10_feed : MV y10_feed c10_feed 4 (some .int) 2 := ⟨cd10_feed, ini10, na10_feed, im10_feed, se10_feed⟩
set_option maxHeartbeats 4000000 in
set_option maxRecDepth 100000 in
theorem k10_feed (l : Launch) (E : En) (mo : Nat) (ad : Nat → Nat) (S : Nat → Int) (tx : Int → Int) (b : Int) (n : Int) (r_b : R32 b) (r_n : R32 n) (hfd : 0 ≤ S 2 ∧ S 2 ≤ 100) : Cm l E y10_feed c10_feed 4 (some .int) { frames := 1, cells := 0, slots := 0, locals := 23 } [.ref mo, .int (iZ b), .int (iZ n)] [(mo, mO ad S), (ad 5, aInt E 100 tx)] (fun r ws => ∃ (v : Int), ∃ (tx1 : Int → Int), ∃ (q1 : Int), r = some (.int (iZ v)) ∧ ws = [(mo, mO ad (upS S 2 q1)), (ad 5, aInt E 100 tx1)] ∧ (v = feedA (S 2) n ∧ ((feedOk (S 2) n ∧ tx1 = fdF b n tx (S 2) ∧ q1 = S 2 + n) ∨ (¬ feedOk (S 2) n ∧ tx1 = tx ∧ q1 = S 2)))) := by
  refine Cm.of (by decide +kernel) (Nat.le_of_ble_eq_true rfl) (fun Γ A hl hargs hin G F => ?_)
  subst hl
  refine j_aload_n G 0 rfl d10_feed_0 ?_
  refine j_iload_n G 2 rfl d10_feed_1 ?_
  refine j_iconst G d10_feed_2 ?_
  refine j_iconst G d10_feed_3 ?_
  refine j_VP G (k10_in (xl Γ) E mo n 0 4 (by first | assumption | omega | (simp only [upS, reduceIte, Nat.reduceEqDiff, eq_self, List.length_cons, List.length_nil, List.length_append] <;> omega)) (by first | assumption | omega | (simp only [upS, reduceIte, Nat.reduceEqDiff, eq_self, List.length_cons, List.length_nil, List.length_append] <;> omega)) (by first | assumption | omega | (simp only [upS, reduceIte, Nat.reduceEqDiff, eq_self, List.length_cons, List.length_nil, List.length_append] <;> omega))) mw10_in ml10_219 [] rfl 0 10 rfl rfl rfl ⟨Nat.le_of_ble_eq_true rfl, Nat.le_of_ble_eq_true rfl⟩ rfl (rest := []) rfl (Nat.le_of_ble_eq_true rfl) d10_feed_4 ⟨Nat.le_of_ble_eq_true rfl, Nat.le_of_ble_eq_true rfl⟩ (fun r hr => ?_)
  obtain ⟨v2, rfl, hq1⟩ := hr
  rcases hq1 with ⟨hq1, rfl⟩ | ⟨hq1, rfl⟩
  ·
    refine j_if_ne (tgt := 13) G d10_feed_7 (by decide) (by decide) (fun h3 => ?_) (fun h3 => absurd h3 (by decide))
    refine j_aload_n G 0 rfl d10_feed_13 ?_
    refine j_get G 0 10 2 in10 fl10_16 d10_feed_14 rfl rfl (by decide) (v := .int (iZ (S 2))) rfl rfl ?_
    refine j_iload_n G 2 rfl d10_feed_17 ?_
    refine j_iadd G d10_feed_18 ?_
    refine j_bipush G d10_feed_19 rfl ?_
    refine j_icmp_le (tgt := 27) G d10_feed_21 (by decide) (by omega) (by decide) (fun h4 => ?_) (fun h4 => ?_)
    ·
      refine j_iload_n G 2 rfl d10_feed_27 ?_
      refine j_iconst G d10_feed_28 ?_
      refine j_isub G d10_feed_29 ?_
      refine j_istore_n G d10_feed_30 (by decide) rfl ?_
      refine j_eq (ws' := [(mo, mO ad (upS S 2 (S 2))), (ad 5, aInt E 100 tx)]) rfl rfl rfl ?_
      have lp31 : ∀ (fu : Nat) (k : Int) (q : Int) (g : Int → Int), (k + 1).toNat < fu → (-1 ≤ k ∧ k ≤ n - 1) → (q = S 2 + (n - 1 - k)) → (g = fun j => if S 2 ≤ j ∧ j < S 2 + (n - 1 - k) then fdB b (n - 1 - (j - S 2)) else tx j) →  J E 4 Γ (some A) 0 0 [(mo, mO ad (upS S 2 q)), (ad 5, aInt E 100 g)] 31 [(3, .int (iZ k)), (0, .ref mo), (1, .int (iZ b)), (2, .int (iZ n))] [] := by
        intro fu
        induction fu with
        | zero =>
          intro k q g hm
          exact absurd hm (Nat.not_lt_zero _)
        | succ fu ih31 =>
          intro k q g hm hk hq hg
          refine j_iload_n G 0 rfl d10_feed_31 ?_
          refine j_if_lt (tgt := 67) G d10_feed_32 (by decide) (by omega) (fun h5 => ?_) (fun h5 => ?_)
          ·
            refine j_aload_n G 1 rfl d10_feed_67 ?_
            refine j_get G 0 10 2 in10 fl10_16 d10_feed_68 rfl rfl (by decide) (v := .int (iZ q)) rfl rfl ?_
            exact j_iret G F d10_feed_71 ⟨q, g, q, rfl, rfl, (by exact ⟨by (simp only [feedA]; (repeat' split) <;> omega), by first | (right; exact ⟨fun q => by (have q1 := q.1; have q2 := q.2; omega), rfl, rfl⟩) | (left; exact ⟨⟨by omega, by omega⟩, by rw [hg]; unfold fdF; rw [show k = -1 by omega]; funext j; rw [show n - 1 - -1 = n by omega], by omega⟩)⟩)⟩
          ·
            refine j_aload_n G 1 rfl d10_feed_35 ?_
            refine j_get G 0 10 5 in10 fl10_25 d10_feed_36 rfl rfl (by decide) (v := .ref (ad 5)) rfl rfl ?_
            refine j_aload_n G 1 rfl d10_feed_39 ?_
            refine j_get G 0 10 2 in10 fl10_16 d10_feed_40 rfl rfl (by decide) (v := .int (iZ q)) rfl rfl ?_
            refine j_iload_n G 2 rfl d10_feed_43 ?_
            refine j_bipush G d10_feed_44 rfl ?_
            refine j_iload_n G 0 rfl d10_feed_46 ?_
            refine j_imul G d10_feed_47 ?_
            refine r_ishr G d10_feed_48 ?_
            refine j_top (y := iZ (((iZ b) >>> ((iZ (8 * k)) &&& 31)).toInt)) (iZ_of _).symm ?_
            refine r_i2b G d10_feed_49 ?_
            refine j_top (y := iZ (((iZ (((iZ b) >>> ((iZ (8 * k)) &&& 31)).toInt)).toInt8.toInt32).toInt)) (iZ_of _).symm ?_
            refine j_top (y := (iZ (fdB b k))) (rfl) ?_
            refine j_iast G 1 rfl (by omega) d10_feed_50 ?_
            refine j_aload_n G 1 rfl d10_feed_51 ?_
            refine j_dup G d10_feed_52 rfl ?_
            refine j_get G 0 10 2 in10 fl10_16 d10_feed_53 rfl rfl (by decide) (v := .int (iZ q)) rfl rfl ?_
            refine j_iconst G d10_feed_56 ?_
            refine j_iadd G d10_feed_57 ?_
            refine j_put G 0 10 2 in10 tyok10 nm10 fl10_16 d10_feed_58 rfl rfl (by decide) ⟨rfl, rfl⟩ rfl rfl (Nat.le_of_ble_eq_true rfl) (e := mO ad (upS S 2 (q + 1))) rfl ?_
            refine j_iinc G d10_feed_61 0 rfl (by decide) rfl ?_
            refine j_goto (tgt := 31) G d10_feed_64 (by decide) ?_
            exact ih31 (k + (-1)) (q + 1) (upI g q (fdB b k)) (by omega) (by first | assumption | omega) (by first | assumption | omega) (fd_s hg hq hk.2 rfl)
      exact lp31 _ (n - 1) (S 2) tx (Nat.lt_succ_self _) (by first | assumption | omega) (by first | assumption | omega) fd_0
    ·
      refine j_bipush G d10_feed_24 rfl ?_
      exact j_iret G F d10_feed_26 ⟨(-4), tx, (S 2), rfl, rfl, (by exact ⟨by (simp only [feedA]; (repeat' split) <;> omega), by first | (right; exact ⟨fun q => by (have q1 := q.1; have q2 := q.2; omega), rfl, rfl⟩) | (left; exact ⟨⟨by omega, by omega⟩, by rw [hg]; unfold fdF; rw [show k = -1 by omega]; funext j; rw [show n - 1 - -1 = n by omega], by omega⟩)⟩)⟩
  ·
    refine j_if_ne (tgt := 13) G d10_feed_7 (by decide) (by decide) (fun h6 => absurd h6 (by decide)) (fun h6 => ?_)
    refine j_bipush G d10_feed_10 rfl ?_
    exact j_iret G F d10_feed_12 ⟨(-2), tx, (S 2), rfl, rfl, (by exact ⟨by (simp only [feedA]; (repeat' split) <;> omega), by first | (right; exact ⟨fun q => by (have q1 := q.1; have q2 := q.2; omega), rfl, rfl⟩) | (left; exact ⟨⟨by omega, by omega⟩, by rw [hg]; unfold fdF; rw [show k = -1 by omega]; funext j; rw [show n - 1 - -1 = n by omega], by omega⟩)⟩)⟩
theorem d10_cliff_0 : decode c10_cliff 0 = .ok (.aload_n 0, 1) := by decide +kernel
theorem d10_cliff_1 : decode c10_cliff 1 = .ok (.getfield 7, 3) := by decide +kernel
theorem d10_cliff_4 : decode c10_cliff 4 = .ok (.iconst 4, 1) := by decide +kernel
theorem d10_cliff_5 : decode c10_cliff 5 = .ok (.if_icmp .ne 6, 3) := by decide +kernel
theorem d10_cliff_8 : decode c10_cliff 8 = .ok (.bipush (-4), 2) := by decide +kernel
theorem d10_cliff_10 : decode c10_cliff 10 = .ok (.ireturn, 1) := by decide +kernel
theorem d10_cliff_11 : decode c10_cliff 11 = .ok (.aload_n 0, 1) := by decide +kernel
theorem d10_cliff_12 : decode c10_cliff 12 = .ok (.aload_n 0, 1) := by decide +kernel
theorem d10_cliff_13 : decode c10_cliff 13 = .ok (.getfield 7, 3) := by decide +kernel
theorem d10_cliff_16 : decode c10_cliff 16 = .ok (.invokevirtual 280, 3) := by decide +kernel
theorem d10_cliff_19 : decode c10_cliff 19 = .ok (.istore_n 1, 1) := by decide +kernel
theorem d10_cliff_20 : decode c10_cliff 20 = .ok (.aload_n 0, 1) := by decide +kernel
theorem d10_cliff_21 : decode c10_cliff 21 = .ok (.iconst 0, 1) := by decide +kernel
theorem d10_cliff_22 : decode c10_cliff 22 = .ok (.putfield 16, 3) := by decide +kernel
theorem d10_cliff_25 : decode c10_cliff 25 = .ok (.iload_n 1, 1) := by decide +kernel
theorem d10_cliff_26 : decode c10_cliff 26 = .ok (.ifCond .ne 11, 3) := by decide +kernel
theorem d10_cliff_29 : decode c10_cliff 29 = .ok (.bipush (-10), 2) := by decide +kernel
theorem d10_cliff_31 : decode c10_cliff 31 = .ok (.aload_n 0, 1) := by decide +kernel
theorem d10_cliff_32 : decode c10_cliff 32 = .ok (.getfield 19, 3) := by decide +kernel
theorem d10_cliff_35 : decode c10_cliff 35 = .ok (.isub, 1) := by decide +kernel
theorem d10_cliff_36 : decode c10_cliff 36 = .ok (.ireturn, 1) := by decide +kernel
theorem d10_cliff_37 : decode c10_cliff 37 = .ok (.aload_n 0, 1) := by decide +kernel
theorem d10_cliff_38 : decode c10_cliff 38 = .ok (.aload_n 0, 1) := by decide +kernel
theorem d10_cliff_39 : decode c10_cliff 39 = .ok (.getfield 7, 3) := by decide +kernel
theorem d10_cliff_42 : decode c10_cliff 42 = .ok (.invokevirtual 283, 3) := by decide +kernel
theorem d10_cliff_45 : decode c10_cliff 45 = .ok (.aload_n 0, 1) := by decide +kernel
theorem d10_cliff_46 : decode c10_cliff 46 = .ok (.dup, 1) := by decide +kernel
theorem d10_cliff_47 : decode c10_cliff 47 = .ok (.getfield 7, 3) := by decide +kernel
theorem d10_cliff_50 : decode c10_cliff 50 = .ok (.iconst 1, 1) := by decide +kernel
theorem d10_cliff_51 : decode c10_cliff 51 = .ok (.iadd, 1) := by decide +kernel
theorem d10_cliff_52 : decode c10_cliff 52 = .ok (.putfield 7, 3) := by decide +kernel
theorem d10_cliff_55 : decode c10_cliff 55 = .ok (.aload_n 0, 1) := by decide +kernel
theorem d10_cliff_56 : decode c10_cliff 56 = .ok (.aload_n 0, 1) := by decide +kernel
theorem d10_cliff_57 : decode c10_cliff 57 = .ok (.getfield 7, 3) := by decide +kernel
theorem d10_cliff_60 : decode c10_cliff 60 = .ok (.iconst 1, 1) := by decide +kernel
theorem d10_cliff_61 : decode c10_cliff 61 = .ok (.isub, 1) := by decide +kernel
theorem d10_cliff_62 : decode c10_cliff 62 = .ok (.putfield 13, 3) := by decide +kernel
theorem d10_cliff_65 : decode c10_cliff 65 = .ok (.aload_n 0, 1) := by decide +kernel
theorem d10_cliff_66 : decode c10_cliff 66 = .ok (.aload_n 0, 1) := by decide +kernel
theorem d10_cliff_67 : decode c10_cliff 67 = .ok (.aload_n 0, 1) := by decide +kernel
theorem d10_cliff_68 : decode c10_cliff 68 = .ok (.getfield 76, 3) := by decide +kernel
theorem d10_cliff_71 : decode c10_cliff 71 = .ok (.aload_n 0, 1) := by decide +kernel
theorem d10_cliff_72 : decode c10_cliff 72 = .ok (.bipush 8, 2) := by decide +kernel
theorem d10_cliff_74 : decode c10_cliff 74 = .ok (.invokevirtual 286, 3) := by decide +kernel
theorem d10_cliff_77 : decode c10_cliff 77 = .ok (.invokevirtual 276, 3) := by decide +kernel
theorem d10_cliff_80 : decode c10_cliff 80 = .ok (.putfield 76, 3) := by decide +kernel
theorem d10_cliff_83 : decode c10_cliff 83 = .ok (.aload_n 0, 1) := by decide +kernel
theorem d10_cliff_84 : decode c10_cliff 84 = .ok (.getfield 13, 3) := by decide +kernel
theorem d10_cliff_87 : decode c10_cliff 87 = .ok (.ireturn, 1) := by decide +kernel
theorem mw10_cliff : MV y10_cliff c10_cliff 2 (some .int) 0 := ⟨cd10_cliff, ini10, na10_cliff, im10_cliff, se10_cliff⟩
set_option maxHeartbeats 4000000 in
set_option maxRecDepth 100000 in
theorem k10_cliff (l : Launch) (E : En) (mo : Nat) (ad : Nat → Nat) (S : Nat → Int) (tx : Int → Int) (wd : Int → Int) (nu : Int → Int) (fo : Int → Int) (to : Int → Int) (sg : Int → Int) (wt : Int → Int) (cl : Int → Int) (la : Int → Int) (po : Int → Int) (pt : Int → Int) (htx : ∀ j, 0 ≤ j → j < 100 → -128 ≤ tx j ∧ tx j ≤ 127) (hfd : 0 ≤ S 2 ∧ S 2 ≤ 100) (hcs : 0 ≤ S 0 ∧ S 0 ≤ 4) (hfi : 0 ≤ S 21 ∧ S 21 ≤ 40) (hsg : ∀ j, 0 ≤ j → j < 400 → -200 ≤ sg j ∧ sg j ≤ 20000) (hwb : ∀ j, 0 ≤ j → j < 101 → 0 ≤ wt j ∧ wt j ≤ 200) (hpz : ∀ j, 5 * S 0 ≤ j → j < 20 → pt j = 0) : Cm l E y10_cliff c10_cliff 2 (some .int) { frames := 7, cells := 0, slots := 0, locals := 153 } [.ref mo] [(mo, mO ad S), (ad 5, aInt E 100 tx), (ad 7, aInt E 48 wd), (ad 8, aInt E 48 nu), (ad 9, aInt E 48 fo), (ad 10, aInt E 48 to), (ad 14, aInt E 400 sg), (ad 15, aInt E 101 wt), (ad 6, aInt E 4 cl), (ad 11, aInt E 36 la), (ad 12, aInt E 4 po), (ad 13, aInt E 20 pt)] (fun r ws => ∃ (v : Int), ∃ (wd1 : Int → Int), ∃ (nu1 : Int → Int), ∃ (fo1 : Int → Int), ∃ (to1 : Int → Int), ∃ (sg1 : Int → Int), ∃ (wt1 : Int → Int), ∃ (cl1 : Int → Int), ∃ (la1 : Int → Int), ∃ (po1 : Int → Int), ∃ (pt1 : Int → Int), ∃ (az1 : Int), ∃ (dg1 : Int), ∃ (e1 : Int), ∃ (w1 : Int), ∃ (o1 : Int), ∃ (fd1 : Int), ∃ (c1 : Int), ∃ (t1 : Int), ∃ (f1 : Int), r = some (.int (iZ v)) ∧ ws = [(mo, mO ad (upS (upS (upS (upS (upS (upS (upS (upS (upS S 3 az1) 4 dg1) 16 e1) 17 w1) 18 o1) 2 fd1) 0 c1) 1 t1) 21 f1)), (ad 5, aInt E 100 tx), (ad 7, aInt E 48 wd1), (ad 8, aInt E 48 nu1), (ad 9, aInt E 48 fo1), (ad 10, aInt E 48 to1), (ad 14, aInt E 400 sg1), (ad 15, aInt E 101 wt1), (ad 6, aInt E 4 cl1), (ad 11, aInt E 36 la1), (ad 12, aInt E 4 po1), (ad 13, aInt E 20 pt1)] ∧ ((S 0 = 4 ∧ v = -4 ∧ wd1 = wd ∧ nu1 = nu ∧ fo1 = fo ∧ to1 = to ∧ sg1 = sg ∧ wt1 = wt ∧ cl1 = cl ∧ la1 = la ∧ po1 = po ∧ pt1 = pt ∧ fd1 = S 2 ∧ c1 = S 0 ∧ t1 = S 1 ∧ f1 = S 21) ∨ ((S 0 < 4 ∧ (txF tx (S 2) 12 0).1 = 0 ∧ v = -10 - (txF tx (S 2) 12 0).2 ∧ la1 = la ∧ po1 = po ∧ pt1 = pt ∧ fd1 = 0 ∧ c1 = S 0 ∧ t1 = S 1 ∧ f1 = S 21) ∧ ((Out (12 * S 0) (12 * S 0 + 12) wd wd1) ∧ (Out (12 * S 0) (12 * S 0 + 12) nu nu1) ∧ (Out (12 * S 0) (12 * S 0 + 12) fo fo1) ∧ (Out (12 * S 0) (12 * S 0 + 12) to to1) ∧ (∀ j, j < 100 * S 0 → sg1 j = sg j) ∧ Only (S 0) cl cl1) ∧ ((∀ j, 0 ≤ j → j < 400 → -200 ≤ sg1 j ∧ sg1 j ≤ 20000) ∧ (∀ j, 0 ≤ j → j < 101 → 0 ≤ wt1 j ∧ wt1 j ≤ 200))) ∨ ((S 0 < 4 ∧ (txF tx (S 2) 12 0).1 = 1 ∧ v = S 0 ∧ cl1 (S 0) = (txF tx (S 2) 12 0).2 ∧ (1 ≤ cl1 (S 0) ∧ cl1 (S 0) ≤ 12) ∧ (∀ i : Nat, (i : Int) < cl1 (S 0) → ClF tx (S 2) wd1 nu1 fo1 to1 sg1 (100 * S 0) (100 * S 0 + 100) i (12 * S 0 + i)) ∧ RelC la1 po1 pt1 (S 0) (cvE (cvF (fun i => hdK tx (S 2) (cpos tx (S 2) i)) (fun i => clN tx (S 2) (cpos tx (S 2) i)) (cl1 (S 0)).toNat)) ∧ wfC (cM la1 po1 (S 0)) (pM pt1 (S 0)) ∧ fd1 = 0 ∧ c1 = S 0 + 1 ∧ t1 = S 0 ∧ f1 = min (S 21) (la1 (9 * S 0 + 8))) ∧ ((Out (12 * S 0) (12 * S 0 + 12) wd wd1) ∧ (Out (12 * S 0) (12 * S 0 + 12) nu nu1) ∧ (Out (12 * S 0) (12 * S 0 + 12) fo fo1) ∧ (Out (12 * S 0) (12 * S 0 + 12) to to1) ∧ (∀ j, j < 100 * S 0 → sg1 j = sg j) ∧ Only (S 0) cl cl1) ∧ ((∀ j, 0 ≤ j → j < 400 → -200 ≤ sg1 j ∧ sg1 j ≤ 20000) ∧ (∀ j, 0 ≤ j → j < 101 → 0 ≤ wt1 j ∧ wt1 j ≤ 200)) ∧ ((Out (9 * S 0) (9 * S 0 + 9) la la1) ∧ (Only (S 0) po po1) ∧ (Out (5 * S 0) (5 * S 0 + 5) pt pt1))))) := by
  refine Cm.of (by decide +kernel) (Nat.le_of_ble_eq_true rfl) (fun Γ A hl hargs hin G F => ?_)
  subst hl
  refine j_aload_n G 0 rfl d10_cliff_0 ?_
  refine j_get G 0 10 0 in10 fl10_7 d10_cliff_1 rfl rfl (by decide) (v := .int (iZ (S 0))) rfl rfl ?_
  refine j_iconst G d10_cliff_4 ?_
  refine j_icmp_ne (tgt := 11) G d10_cliff_5 (by decide) (by omega) (by decide) (fun h1 => ?_) (fun h1 => ?_)
  ·
    refine j_aload_n G 0 rfl d10_cliff_11 ?_
    refine j_aload_n G 0 rfl d10_cliff_12 ?_
    refine j_get G 0 10 0 in10 fl10_7 d10_cliff_13 rfl rfl (by decide) (v := .int (iZ (S 0))) rfl rfl ?_
    refine j_VM G (rm' := { frames := 6, cells := 0, slots := 0, locals := 131 }) (wc := [(mo, mO ad S), (ad 5, aInt E 100 tx), (ad 7, aInt E 48 wd), (ad 8, aInt E 48 nu), (ad 9, aInt E 48 fo), (ad 10, aInt E 48 to), (ad 14, aInt E 400 sg), (ad 15, aInt E 101 wt), (ad 6, aInt E 4 cl)]) (wr := [(ad 11, aInt E 36 la), (ad 12, aInt E 4 po), (ad 13, aInt E 20 pt)]) (k10_goesText (xl Γ) E mo ad S tx wd nu fo to sg wt cl (S 0) (by first | assumption | omega | (simp only [upS, reduceIte, Nat.reduceEqDiff, eq_self, List.length_cons, List.length_nil, List.length_append] <;> omega)) (by first | assumption | omega | (simp only [upS, reduceIte, Nat.reduceEqDiff, eq_self, List.length_cons, List.length_nil, List.length_append] <;> omega)) (by first | assumption | omega | (simp only [upS, reduceIte, Nat.reduceEqDiff, eq_self, List.length_cons, List.length_nil, List.length_append] <;> omega)) (by first | assumption | omega | (simp only [upS, reduceIte, Nat.reduceEqDiff, eq_self, List.length_cons, List.length_nil, List.length_append] <;> omega)) (by first | assumption | omega | (simp only [upS, reduceIte, Nat.reduceEqDiff, eq_self, List.length_cons, List.length_nil, List.length_append] <;> omega))) mw10_goesText ml10_280 [0, 1, 2, 3, 4, 5, 6, 7, 8] [9, 10, 11] rfl rfl ⟨rfl, rfl⟩ (by decide) 0 10 rfl rfl rfl ⟨Nat.le_of_ble_eq_true rfl, Nat.le_of_ble_eq_true rfl⟩ rfl (rest := []) rfl (Nat.le_of_ble_eq_true rfl) d10_cliff_16 ⟨Nat.le_of_ble_eq_true rfl, Nat.le_of_ble_eq_true rfl⟩ (fun r w1 hr => ?_)
    obtain ⟨v3, wd1_4, nu1_5, fo1_6, to1_7, sg1_8, wt1_9, cl1_10, az1_11, dg1_12, e1_13, w1_14, o1_15, rfl, rfl, hq2⟩ := hr
    refine j_eq (ws' := [(ad 11, aInt E 36 la), (ad 12, aInt E 4 po), (ad 13, aInt E 20 pt), (mo, mO ad (upS (upS (upS (upS (upS S 3 az1_11) 4 dg1_12) 16 e1_13) 17 w1_14) 18 o1_15)), (ad 5, aInt E 100 tx), (ad 7, aInt E 48 wd1_4), (ad 8, aInt E 48 nu1_5), (ad 9, aInt E 48 fo1_6), (ad 10, aInt E 48 to1_7), (ad 14, aInt E 400 sg1_8), (ad 15, aInt E 101 wt1_9), (ad 6, aInt E 4 cl1_10)]) rfl rfl rfl ?_
    rcases hq2 with ⟨hq2, rfl⟩ | ⟨hq2, rfl⟩
    ·
      have hs16 := hq2
      refine j_istore_n G d10_cliff_19 (by decide) rfl ?_
      refine j_aload_n G 1 rfl d10_cliff_20 ?_
      refine j_iconst G d10_cliff_21 ?_
      refine j_put G 3 10 2 in10 tyok10 nm10 fl10_16 d10_cliff_22 rfl rfl (by decide) ⟨rfl, rfl⟩ rfl rfl (Nat.le_of_ble_eq_true rfl) (e := mO ad (upS (upS (upS (upS (upS (upS S 3 az1_11) 4 dg1_12) 16 e1_13) 17 w1_14) 18 o1_15) 2 0)) rfl ?_
      refine j_iload_n G 0 rfl d10_cliff_25 ?_
      refine j_if_ne (tgt := 37) G d10_cliff_26 (by decide) (by decide) (fun h16 => ?_) (fun h16 => absurd h16 (by decide))
      obtain ⟨⟨hx1, hx2, hcc, hall, hee⟩, hx3, hx4, hx5, hx6, hx7, hx8⟩ := hs16
      refine j_aload_n G 1 rfl d10_cliff_37 ?_
      refine j_aload_n G 1 rfl d10_cliff_38 ?_
      refine j_get G 3 10 0 in10 fl10_7 d10_cliff_39 rfl rfl (by decide) (v := .int (iZ (S 0))) rfl rfl ?_
      refine j_VM G (rm' := { frames := 1, cells := 0, slots := 0, locals := 22 }) (wc := [(mo, mO ad (upS (upS (upS (upS (upS (upS S 3 az1_11) 4 dg1_12) 16 e1_13) 17 w1_14) 18 o1_15) 2 0)), (ad 7, aInt E 48 wd1_4), (ad 8, aInt E 48 nu1_5), (ad 6, aInt E 4 cl1_10), (ad 11, aInt E 36 la), (ad 12, aInt E 4 po), (ad 13, aInt E 20 pt)]) (wr := [(ad 5, aInt E 100 tx), (ad 9, aInt E 48 fo1_6), (ad 10, aInt E 48 to1_7), (ad 14, aInt E 400 sg1_8), (ad 15, aInt E 101 wt1_9)]) (k10_settleCliff (xl Γ) E mo ad (upS (upS (upS (upS (upS (upS S 3 az1_11) 4 dg1_12) 16 e1_13) 17 w1_14) 18 o1_15) 2 0) wd1_4 nu1_5 cl1_10 la po pt (S 0) (by first | assumption | omega | (simp only [upS, reduceIte, Nat.reduceEqDiff, eq_self, List.length_cons, List.length_nil, List.length_append] <;> omega)) hcc (fun c h1 h2 => by have q := hall (c - 12 * S 0).toNat (by omega); rw [show 12 * S 0 + ((c - 12 * S 0).toNat : Int) = c by omega] at q; rw [q.1, q.2.1]; exact ⟨hdK_r _ _ _, clN_r⟩) (fun j h1 h2 => hpz _ (by omega) (by omega))) mw10_settleCliff ml10_283 [3, 5, 6, 11, 0, 1, 2] [4, 7, 8, 9, 10] rfl rfl ⟨rfl, rfl⟩ (by decide) 3 10 rfl rfl rfl ⟨Nat.le_of_ble_eq_true rfl, Nat.le_of_ble_eq_true rfl⟩ rfl (rest := []) rfl (Nat.le_of_ble_eq_true rfl) d10_cliff_42 ⟨Nat.le_of_ble_eq_true rfl, Nat.le_of_ble_eq_true rfl⟩ (fun r w1 hr => ?_)
      obtain ⟨la1_18, po1_19, pt1_20, rfl, rfl, ⟨hq17_0, hq17_1⟩⟩ := hr
      refine j_eq (ws' := [(ad 5, aInt E 100 tx), (ad 9, aInt E 48 fo1_6), (ad 10, aInt E 48 to1_7), (ad 14, aInt E 400 sg1_8), (ad 15, aInt E 101 wt1_9), (mo, mO ad (upS (upS (upS (upS (upS (upS S 3 az1_11) 4 dg1_12) 16 e1_13) 17 w1_14) 18 o1_15) 2 0)), (ad 7, aInt E 48 wd1_4), (ad 8, aInt E 48 nu1_5), (ad 6, aInt E 4 cl1_10), (ad 11, aInt E 36 la1_18), (ad 12, aInt E 4 po1_19), (ad 13, aInt E 20 pt1_20)]) rfl rfl rfl ?_
      try simp only [upS, reduceIte, Nat.reduceEqDiff, eq_self] at hq17_0 hq17_1
      have hrr := hq17_0
      have hro := hq17_1
      have hre := rel_conv hrr (fun i hi => hall i (by omega))
      have hwm := wf_of hre (wfC_e (wfX_cv _ (fun i _ => clN_r)))
      have hlb := wf_7 hwm
      refine j_aload_n G 1 rfl d10_cliff_45 ?_
      refine j_dup G d10_cliff_46 rfl ?_
      refine j_get G 5 10 0 in10 fl10_7 d10_cliff_47 rfl rfl (by decide) (v := .int (iZ (S 0))) rfl rfl ?_
      refine j_iconst G d10_cliff_50 ?_
      refine j_iadd G d10_cliff_51 ?_
      refine j_put G 5 10 0 in10 tyok10 nm10 fl10_7 d10_cliff_52 rfl rfl (by decide) ⟨rfl, rfl⟩ rfl rfl (Nat.le_of_ble_eq_true rfl) (e := mO ad (upS (upS (upS (upS (upS (upS (upS S 3 az1_11) 4 dg1_12) 16 e1_13) 17 w1_14) 18 o1_15) 2 0) 0 ((S 0) + 1))) rfl ?_
      refine j_aload_n G 1 rfl d10_cliff_55 ?_
      refine j_aload_n G 1 rfl d10_cliff_56 ?_
      refine j_get G 5 10 0 in10 fl10_7 d10_cliff_57 rfl rfl (by decide) (v := .int (iZ ((S 0) + 1))) rfl rfl ?_
      refine j_iconst G d10_cliff_60 ?_
      refine j_isub G d10_cliff_61 ?_
      refine j_top (y := iZ (S 0)) (by congr 1; omega) ?_
      refine j_put G 5 10 1 in10 tyok10 nm10 fl10_13 d10_cliff_62 rfl rfl (by decide) ⟨rfl, rfl⟩ rfl rfl (Nat.le_of_ble_eq_true rfl) (e := mO ad (upS (upS (upS (upS (upS (upS (upS (upS S 3 az1_11) 4 dg1_12) 16 e1_13) 17 w1_14) 18 o1_15) 2 0) 0 ((S 0) + 1)) 1 (S 0))) rfl ?_
      refine j_aload_n G 1 rfl d10_cliff_65 ?_
      refine j_aload_n G 1 rfl d10_cliff_66 ?_
      refine j_aload_n G 1 rfl d10_cliff_67 ?_
      refine j_get G 5 10 21 in10 fl10_76 d10_cliff_68 rfl rfl (by decide) (v := .int (iZ (S 21))) rfl rfl ?_
      refine j_aload_n G 1 rfl d10_cliff_71 ?_
      refine j_bipush G d10_cliff_72 rfl ?_
      refine j_VP G (k10_lastOf (xl Γ) E mo ad (upS (upS (upS (upS (upS (upS (upS (upS S 3 az1_11) 4 dg1_12) 16 e1_13) 17 w1_14) 18 o1_15) 2 0) 0 ((S 0) + 1)) 1 (S 0)) la1_18 8 (by first | assumption | omega | (simp only [upS, reduceIte, Nat.reduceEqDiff, eq_self, List.length_cons, List.length_nil, List.length_append] <;> omega)) (by first | assumption | omega | (simp only [upS, reduceIte, Nat.reduceEqDiff, eq_self, List.length_cons, List.length_nil, List.length_append] <;> omega))) mw10_lastOf ml10_286 [5, 9] rfl 5 10 rfl rfl rfl ⟨Nat.le_of_ble_eq_true rfl, Nat.le_of_ble_eq_true rfl⟩ rfl (rest := [.int (iZ (S 21)), .ref mo, .ref mo]) rfl (Nat.le_of_ble_eq_true rfl) d10_cliff_74 ⟨Nat.le_of_ble_eq_true rfl, Nat.le_of_ble_eq_true rfl⟩ (fun r hr => ?_)
      obtain ⟨_, rfl, rfl⟩ := hr
      refine j_eq (st' := [.int (iZ (la1_18 (9 * (S 0) + 8))), .int (iZ (S 21)), .ref mo, .ref mo]) rfl rfl rfl ?_
      refine j_VP G (k10_min (xl Γ) E mo (S 21) (la1_18 (9 * (S 0) + 8)) (by first | assumption | omega | (simp only [upS, reduceIte, Nat.reduceEqDiff, eq_self, List.length_cons, List.length_nil, List.length_append] <;> omega)) (by first | assumption | omega | (simp only [upS, reduceIte, Nat.reduceEqDiff, eq_self, List.length_cons, List.length_nil, List.length_append] <;> omega))) mw10_min ml10_276 [] rfl 5 10 rfl rfl rfl ⟨Nat.le_of_ble_eq_true rfl, Nat.le_of_ble_eq_true rfl⟩ rfl (rest := [.ref mo]) rfl (Nat.le_of_ble_eq_true rfl) d10_cliff_77 ⟨Nat.le_of_ble_eq_true rfl, Nat.le_of_ble_eq_true rfl⟩ (fun r hr => ?_)
      obtain ⟨_, rfl, rfl⟩ := hr
      refine j_nm (fun x23 ex23 => ?_)
      refine j_put G 5 10 21 in10 tyok10 nm10 fl10_76 d10_cliff_80 rfl rfl (by decide) ⟨rfl, rfl⟩ rfl rfl (Nat.le_of_ble_eq_true rfl) (e := mO ad (upS (upS (upS (upS (upS (upS (upS (upS (upS S 3 az1_11) 4 dg1_12) 16 e1_13) 17 w1_14) 18 o1_15) 2 0) 0 ((S 0) + 1)) 1 (S 0)) 21 x23)) rfl ?_
      refine j_aload_n G 1 rfl d10_cliff_83 ?_
      refine j_get G 5 10 1 in10 fl10_13 d10_cliff_84 rfl rfl (by decide) (v := .int (iZ (S 0))) rfl rfl ?_
      refine j_perm (ws' := [(mo, mO ad (upS (upS (upS (upS (upS (upS (upS (upS (upS S 3 az1_11) 4 dg1_12) 16 e1_13) 17 w1_14) 18 o1_15) 2 0) 0 ((S 0) + 1)) 1 (S 0)) 21 x23)), (ad 5, aInt E 100 tx), (ad 7, aInt E 48 wd1_4), (ad 8, aInt E 48 nu1_5), (ad 9, aInt E 48 fo1_6), (ad 10, aInt E 48 to1_7), (ad 14, aInt E 400 sg1_8), (ad 15, aInt E 101 wt1_9), (ad 6, aInt E 4 cl1_10), (ad 11, aInt E 36 la1_18), (ad 12, aInt E 4 po1_19), (ad 13, aInt E 20 pt1_20)]) [5, 0, 6, 7, 1, 2, 3, 4, 8, 9, 10, 11] rfl rfl rfl ?_
      exact j_iret G F d10_cliff_87 ⟨S 0, wd1_4, nu1_5, fo1_6, to1_7, sg1_8, wt1_9, cl1_10, la1_18, po1_19, pt1_20, az1_11, dg1_12, e1_13, w1_14, o1_15, 0, ((S 0) + 1), (S 0), x23, rfl, rfl, (by right; right; exact ⟨⟨by omega, hx1, rfl, hx2, hcc, (fun i hi => (hall i hi).mono (by omega)), hre, hwm, rfl, rfl, rfl, by omega⟩, ⟨hx6.1, hx6.2.1, hx6.2.2.1, hx6.2.2.2, hx7, hx8⟩, ⟨hx4, hx5⟩, hro⟩)⟩
    ·
      have hs16 := hq2
      refine j_istore_n G d10_cliff_19 (by decide) rfl ?_
      refine j_aload_n G 1 rfl d10_cliff_20 ?_
      refine j_iconst G d10_cliff_21 ?_
      refine j_put G 3 10 2 in10 tyok10 nm10 fl10_16 d10_cliff_22 rfl rfl (by decide) ⟨rfl, rfl⟩ rfl rfl (Nat.le_of_ble_eq_true rfl) (e := mO ad (upS (upS (upS (upS (upS (upS S 3 az1_11) 4 dg1_12) 16 e1_13) 17 w1_14) 18 o1_15) 2 0)) rfl ?_
      refine j_iload_n G 0 rfl d10_cliff_25 ?_
      refine j_if_ne (tgt := 37) G d10_cliff_26 (by decide) (by decide) (fun h24 => absurd h24 (by decide)) (fun h24 => ?_)
      obtain ⟨⟨hx1, hx2⟩, hx3, hx4, hx5, hx6, hx7, hx8⟩ := hs16
      refine j_bipush G d10_cliff_29 rfl ?_
      refine j_aload_n G 1 rfl d10_cliff_31 ?_
      refine j_get G 3 10 3 in10 fl10_19 d10_cliff_32 rfl rfl (by decide) (v := .int (iZ az1_11)) rfl rfl ?_
      refine j_isub G d10_cliff_35 ?_
      refine j_perm (ws' := [(mo, mO ad (upS (upS (upS (upS (upS (upS S 3 az1_11) 4 dg1_12) 16 e1_13) 17 w1_14) 18 o1_15) 2 0)), (ad 5, aInt E 100 tx), (ad 7, aInt E 48 wd1_4), (ad 8, aInt E 48 nu1_5), (ad 9, aInt E 48 fo1_6), (ad 10, aInt E 48 to1_7), (ad 14, aInt E 400 sg1_8), (ad 15, aInt E 101 wt1_9), (ad 6, aInt E 4 cl1_10), (ad 11, aInt E 36 la), (ad 12, aInt E 4 po), (ad 13, aInt E 20 pt)]) [3, 4, 5, 6, 7, 8, 9, 10, 11, 0, 1, 2] rfl rfl rfl ?_
      exact j_iret G F d10_cliff_36 ⟨(-10) - az1_11, wd1_4, nu1_5, fo1_6, to1_7, sg1_8, wt1_9, cl1_10, la, po, pt, az1_11, dg1_12, e1_13, w1_14, o1_15, 0, (S 0), (S 1), (S 21), rfl, rfl, (by right; left; exact ⟨⟨by omega, hx1, by omega, rfl, rfl, rfl, rfl, rfl, rfl, rfl⟩, ⟨hx6.1, hx6.2.1, hx6.2.2.1, hx6.2.2.2, hx7, hx8⟩, ⟨hx4, hx5⟩⟩)⟩
  ·
    refine j_bipush G d10_cliff_8 rfl ?_
    exact j_iret G F d10_cliff_10 ⟨(-4), wd, nu, fo, to, sg, wt, cl, la, po, pt, (S 3), (S 4), (S 16), (S 17), (S 18), (S 2), (S 0), (S 1), (S 21), rfl, rfl, (by left; exact ⟨by omega, rfl, rfl, rfl, rfl, rfl, rfl, rfl, rfl, rfl, rfl, rfl, rfl, rfl, rfl, rfl⟩)⟩
