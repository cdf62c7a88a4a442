set_option maxHeartbeats 4000000 in
set_option maxRecDepth 100000 in
theorem arm12 {E : En} {Γ : Ctx} {A : Nat → Prop} {b0 Ls : Nat} {xs0 : Nat → Int32} {i : Int} {k n q : Nat} {ws : va_W} {xo : Nat} {mo : Nat} {xa : Nat → Nat} {ad : Nat → Nat} {qa : Nat → Nat} {qi : Nat → Nat} {tk : Nat → Option Nat} {B : Nat → Int} {bw : Int → Int} (hL : LawC E Γ A b0 Ls xs0 i k n q tk qa B) (hg : Good E xo mo xa ad qa qi tk B bw q ws) (K : ∀ ws', Good E xo mo xa ad qa qi tk B bw (q + 1) ws' → J E 4 Γ (some A) (k + 24) (n + 67) ws' 1254 (lsL i b0 xo mo) []) : J E 4 Γ (some A) k n ws 605 (lsL i b0 xo mo) [] := by
  obtain ⟨G, hX, hb, hA0, hi, hkn, hq, htk6, hBs⟩ := hL
  refine Good_e hg (fun X U V Q T Z Y r0 tb cx kn pn ck rk co so si pr co2 so2 si2 pr2 bo S tx cl wd nu fo to la po pt sg wt pl kd vv hd rm sp le mk wo mpn mr ts tl it asd ca pa da sa ra rr dr sr nC nR Fq hws hS hP hT hC hG hA hR hK hN hN2 => ?_)
  have hs := hS
  unfold IvS at hs
  obtain ⟨a0, a1, a2, a3, a4, a5, a6, a7, a8, a9, a10, a11, a12, a13, a14, a15, a16, a17, a18, a19, a20, a21, a22, a23, a24, a25, a26, a27⟩ := hs
  obtain ⟨w1, e1⟩ : ∃ w, w = sv xs0 i 1 := ⟨_, rfl⟩
  have r1 : R32 w1 := sv_r e1
  obtain ⟨w2, e2⟩ : ∃ w, w = sv xs0 i 2 := ⟨_, rfl⟩
  have r2 : R32 w2 := sv_r e2
  have KMn : ∀ (ws1 : va_W) (v : Int), (¬ ruleOk (S 23) w1 w2) → (v = ruleA (S 23) w1 w2) → ws1.Perm (WL E xo mo xa ad tk B bw X U V Q T Z Y r0 tb cx kn pn ck rk co so si pr co2 so2 si2 pr2 bo S tx cl wd nu fo to la po pt sg wt pl kd vv hd rm sp le mk wo mpn mr ts tl it asd co so si pr co2 so2 si2 pr2 bo ++ WF E qa qi ca pa da sa ra rr dr sr nC nR la po pt kd vv hd rm ts tl it) → J E 4 Γ (some A) (k + 24) (n + 67) ws1 619 (lsL i b0 xo mo) [.int (iZ v)] := by
    intro ws1 v hok hv hws1
    refine j_aload_n G 2 rfl dL_619 ?_
    refine j_arg G hX hb hA0 hi e1 ⟨by decide, by decide⟩ dL_620 dL_621 dL_622 dL_623 dL_624 ?_
    refine j_arg G hX hb hA0 hi e2 ⟨by decide, by decide⟩ dL_625 dL_626 dL_627 dL_628 dL_629 ?_
    refine j_VMr (rest := [.int (iZ v)]) G (hws1.trans pk40) (k10_rule (xl Γ) E _ _ _ _ _ _ w1 w2 r1 r2 a5) mw10_rule mlL_71 10 rfl rfl rfl ⟨Nat.le_of_ble_eq_true rfl, Nat.le_of_ble_eq_true rfl⟩ rfl rfl (Nat.le_of_ble_eq_true rfl) dL_630 ⟨by show (k + 24) + 0 ≤ 600000; omega, by show (n + 67) + 0 ≤ 7302250; omega⟩ (fun r wX hr => ?_)
    obtain ⟨v2, m_S1, m_kd1, m_vv1, m_hd1, rfl, rfl, hm⟩ := hr
    refine j_widen (k' := k + 24) (n' := n + 67) ⟨by show (k + 24) + 0 ≤ k + 24; omega, by show (n + 67) + 0 ≤ n + 67; omega⟩ ?_
    obtain ⟨hm, hm2⟩ := hm
    have hvv : v2 = v := hm.trans hv.symm
    subst hvv
    refine j_ieq (tgt := 1254) G dL_633 (by decide) ?_
    rcases hm2 with ⟨g0, rfl, rfl, rfl, rfl⟩ | ⟨g0, rfl, rfl, rfl, rfl⟩
    · exact absurd g0 hok
    · exact K _ ⟨X, U, V, Q, T, Z, Y, r0, tb, cx, kn, pn, ck, rk, co, so, si, pr, co2, so2, si2, pr2, bo, _, tx, cl, wd, nu, fo, to, la, po, pt, sg, wt, pl, _, _, _, rm, sp, le, mk, wo, mpn, mr, ts, tl, it, asd, ca, pa, da, sa, ra, rr, dr, sr, nC, nR, Fq, (pb_of pk40), hS, (IvP_s hP), hT, hC, hG, hA, hR, hK, hN, hN2⟩
  have KMa : ∀ (ws1 : va_W) (nra : Nat) (nrr : Nat) (v : Int), (ruleOk (S 23) w1 w2) → (v = S 23) → ws1.Perm ((WL E xo mo xa ad tk B bw (upS X 5 (X 5 + 1)) U V Q T Z Y r0 tb cx kn pn ck (va_up rk (X 5).toNat (some nra)) co so si pr co2 so2 si2 pr2 bo S tx cl wd nu fo to la po pt sg wt pl kd vv hd rm sp le mk wo mpn mr ts tl it asd co so si pr co2 so2 si2 pr2 bo ++ fR E (va_up ra nR nra) (va_up rr nR nrr) (upI kd (S 23) w1) (upI vv (S 23) w2) (upI hd (S 23) 0) rm nR) ++ WF E qa qi ca pa da sa ra rr dr sr nC nR la po pt kd vv hd rm ts tl it) → J E 4 Γ (some A) (k + 24) (n + 67) ws1 619 (lsL i b0 xo mo) [.int (iZ v)] := by
    intro ws1 nra nrr v hok hv hws1
    refine j_aload_n G 2 rfl dL_619 ?_
    refine j_arg G hX hb hA0 hi e1 ⟨by decide, by decide⟩ dL_620 dL_621 dL_622 dL_623 dL_624 ?_
    refine j_arg G hX hb hA0 hi e2 ⟨by decide, by decide⟩ dL_625 dL_626 dL_627 dL_628 dL_629 ?_
    refine j_VMr (rest := [.int (iZ v)]) G (hws1.trans pk41) (k10_rule (xl Γ) E _ _ _ _ _ _ w1 w2 r1 r2 a5) mw10_rule mlL_71 10 rfl rfl rfl ⟨Nat.le_of_ble_eq_true rfl, Nat.le_of_ble_eq_true rfl⟩ rfl rfl (Nat.le_of_ble_eq_true rfl) dL_630 ⟨by show (k + 24) + 0 ≤ 600000; omega, by show (n + 67) + 0 ≤ 7302250; omega⟩ (fun r wX hr => ?_)
    obtain ⟨v2, m_S1, m_kd1, m_vv1, m_hd1, rfl, rfl, hm⟩ := hr
    refine j_widen (k' := k + 24) (n' := n + 67) ⟨by show (k + 24) + 0 ≤ k + 24; omega, by show (n + 67) + 0 ≤ n + 67; omega⟩ ?_
    obtain ⟨hm, hm2⟩ := hm
    have hvv : v2 = v := by
      have z : ruleA (S 23) w1 w2 = S 23 := by have z9 := hok; unfold ruleOk at z9; unfold ruleA; rw [if_pos z9.1, if_pos z9.2.1, if_neg z9.2.2]
      rw [hm, hv, z]
    subst hvv
    refine j_ieq (tgt := 1254) G dL_633 (by decide) ?_
    rcases hm2 with ⟨g0, rfl, rfl, rfl, rfl⟩ | ⟨g0, rfl, rfl, rfl, rfl⟩
    ·
      unfold ruleOk at g0
      exact K _ ⟨upS X 5 (X 5 + 1), U, V, Q, T, Z, Y, r0, tb, cx, kn, pn, ck, va_up rk (X 5).toNat (some nra), co, so, si, pr, co2, so2, si2, pr2, bo, _, tx, cl, wd, nu, fo, to, la, po, pt, sg, wt, pl, _, _, _, rm, sp, le, mk, wo, mpn, mr, ts, tl, it, asd, ca, pa, da, sa, (va_up ra nR nra), (va_up rr nR nrr), dr, sr, nC, (nR + 1), Fq, ((pb_of pk41).trans (op2p (f := fR E ra rr kd vv hd rm) (g := fR E (va_up ra nR nra) (va_up rr nR nrr) (upI kd (S 23) w1) (upI vv (S 23) w2) (upI hd (S 23) 0) rm) (fun j hj => fR_oth a27 hj))), (by unfold IvS; (refine ⟨?_, ?_, ?_, ?_, ?_, ?_, ?_, ?_, ?_, ?_, ?_, ?_, ?_, ?_, ?_, ?_, ?_, ?_, ?_, ?_, ?_, ?_, ?_, ?_, ?_, ?_, ?_, ?_⟩ <;> first | (simp only [upS, reduceIte, Nat.reduceEqDiff, eq_self, and_true, true_and, or_true, true_or]; done) | (simp only [upS, reduceIte, Nat.reduceEqDiff, eq_self, and_true, true_and, or_true, true_or]; omega) | omega)), (IvP_s hP), hT, hC, hG, hA, (IvR_new hR g0.1 g0.2.1 a27 (by rw [a15, a27]) (by omega)), hK, hN, hN2⟩
    · exact absurd hok g0
  refine j_aload_n G 1 rfl dL_605 ?_
  refine j_arg G hX hb hA0 hi e1 ⟨by decide, by decide⟩ dL_606 dL_607 dL_608 dL_609 dL_610 ?_
  refine j_arg G hX hb hA0 hi e2 ⟨by decide, by decide⟩ dL_611 dL_612 dL_613 dL_614 dL_615 ?_
  by_cases hok : ruleOk (S 23) w1 w2
  ·
    have hk9 := hok
    unfold ruleOk at hk9
    by_cases hk6 : w1 = 6
    ·
      refine j_VMr (rest := []) G (hws.trans pk42) (k9_rulea (xl Γ) E _ _ _ _ w1 w2 r1 r2 (by omega) ⟨hk9.1, hk9.2.1⟩ hk6) mw9_rule mlL_68 9 rfl rfl rfl ⟨Nat.le_of_ble_eq_true rfl, Nat.le_of_ble_eq_true rfl⟩ rfl rfl (Nat.le_of_ble_eq_true rfl) dL_616 ⟨by show k + 2 ≤ 600000; omega, by show n + 17 ≤ 7302250; omega⟩ (fun r wX hr => ?_)
      obtain ⟨x_ra, x_rr, rfl, rfl, hx⟩ := hr
      refine j_widen (k' := k + 24) (n' := n + 67) ⟨by show k + 2 ≤ k + 24; omega, by show n + 17 ≤ n + 67; omega⟩ ?_
      refine KMa _ x_ra x_rr (X 5) hok a15 ?_
      rw [← fR_new (E := E) (rr := rr) (ra := ra) (nra := x_ra) (nrr := x_rr) (kd := kd) (vv := vv) (hd := hd) (w1 := w1) (w2 := w2) (x := X 5) (N := 12) (by omega) a27 (if_pos hk6).symm hR.2.2.2 (by omega)]
      exact pb_of pk43
    ·
      refine j_VMr (rest := []) G (hws.trans pk42) (k9_ruleb (xl Γ) E _ _ _ _ w1 w2 r1 r2 (by omega) ⟨hk9.1, hk9.2.1⟩ hk6) mw9_rule mlL_68 9 rfl rfl rfl ⟨Nat.le_of_ble_eq_true rfl, Nat.le_of_ble_eq_true rfl⟩ rfl rfl (Nat.le_of_ble_eq_true rfl) dL_616 ⟨by show k + 2 ≤ 600000; omega, by show n + 5 ≤ 7302250; omega⟩ (fun r wX hr => ?_)
      obtain ⟨x_ra, x_rr, rfl, rfl, hx⟩ := hr
      refine j_widen (k' := k + 24) (n' := n + 67) ⟨by show k + 2 ≤ k + 24; omega, by show n + 5 ≤ n + 67; omega⟩ ?_
      refine KMa _ x_ra x_rr (X 5) hok a15 ?_
      rw [← fR_new (E := E) (rr := rr) (ra := ra) (nra := x_ra) (nrr := x_rr) (kd := kd) (vv := vv) (hd := hd) (w1 := w1) (w2 := w2) (x := X 5) (N := 0) (by omega) a27 (if_neg hk6).symm hR.2.2.2 (by omega)]
      exact pb_of pk43
  ·
    refine j_VPr (rest := []) G (hws.trans pk15) (k9_rulen (xl Γ) E _ _ _ w1 w2 r1 r2 (by omega) (by unfold ruleOk at hok; rw [a15]; exact hok)) mw9_rule mlL_68 9 rfl rfl rfl ⟨Nat.le_of_ble_eq_true rfl, Nat.le_of_ble_eq_true rfl⟩ rfl rfl (Nat.le_of_ble_eq_true rfl) dL_616 ⟨by show k ≤ 600000; omega, by show n ≤ 7302250; omega⟩ (fun r hr => ?_)
    obtain ⟨v, rfl, hx⟩ := hr
    refine j_widen (k' := k + 24) (n' := n + 67) ⟨by omega, by omega⟩ ?_
    exact KMn _ v hok (by rw [hx, a15]) hws
set_option maxHeartbeats 4000000 in
set_option maxRecDepth 100000 in
theorem arm13 {E : En} {Γ : Ctx} {A : Nat → Prop} {b0 Ls : Nat} {xs0 : Nat → Int32} {i : Int} {k n q : Nat} {ws : va_W} {xo : Nat} {mo : Nat} {xa : Nat → Nat} {ad : Nat → Nat} {qa : Nat → Nat} {qi : Nat → Nat} {tk : Nat → Option Nat} {B : Nat → Int} {bw : Int → Int} (hL : LawC E Γ A b0 Ls xs0 i k n q tk qa B) (hg : Good E xo mo xa ad qa qi tk B bw q ws) (K : ∀ ws', Good E xo mo xa ad qa qi tk B bw (q + 1) ws' → J E 4 Γ (some A) (k + 24) (n + 67) ws' 1254 (lsL i b0 xo mo) []) : J E 4 Γ (some A) k n ws 638 (lsL i b0 xo mo) [] := by
  obtain ⟨G, hX, hb, hA0, hi, hkn, hq, htk6, hBs⟩ := hL
  refine Good_e hg (fun X U V Q T Z Y r0 tb cx kn pn ck rk co so si pr co2 so2 si2 pr2 bo S tx cl wd nu fo to la po pt sg wt pl kd vv hd rm sp le mk wo mpn mr ts tl it asd ca pa da sa ra rr dr sr nC nR Fq hws hS hP hT hC hG hA hR hK hN hN2 => ?_)
  have hs := hS
  unfold IvS at hs
  obtain ⟨a0, a1, a2, a3, a4, a5, a6, a7, a8, a9, a10, a11, a12, a13, a14, a15, a16, a17, a18, a19, a20, a21, a22, a23, a24, a25, a26, a27⟩ := hs
  obtain ⟨w1, e1⟩ : ∃ w, w = sv xs0 i 1 := ⟨_, rfl⟩
  have r1 : R32 w1 := sv_r e1
  obtain ⟨w2, e2⟩ : ∃ w, w = sv xs0 i 2 := ⟨_, rfl⟩
  have r2 : R32 w2 := sv_r e2
  have hkdA : ∀ j, 0 ≤ j → j < 12 → 0 ≤ kd j ∧ kd j ≤ 6 := fun j h1 h2 => (hR.2.1 j h1 h2).1
  have hhdA : ∀ j, 0 ≤ j → j < 12 → 0 ≤ hd j ∧ hd j ≤ 12 := fun j h1 h2 => (hR.2.1 j h1 h2).2.2.1
  have KM : ∀ (ws1 : va_W) (hd9 : Int → Int) (rm9 : Int → Int) (v : Int), (v = rowA (S 23) kd hd w1 w2) → ((rowOk (S 23) kd hd w1 w2 ∧ hd9 = upI hd w1 (hd w1 + 1) ∧ rm9 = upI rm (12 * w1 + hd w1) w2) ∨ (¬ rowOk (S 23) kd hd w1 w2 ∧ hd9 = hd ∧ rm9 = rm)) → ws1.Perm (WL E xo mo xa ad tk B bw X U V Q T Z Y r0 tb cx kn pn ck rk co so si pr co2 so2 si2 pr2 bo S tx cl wd nu fo to la po pt sg wt pl kd vv hd rm sp le mk wo mpn mr ts tl it asd co so si pr co2 so2 si2 pr2 bo ++ WF E qa qi ca pa da sa ra rr dr sr nC nR la po pt kd vv hd9 rm9 ts tl it) → J E 4 Γ (some A) (k + 24) (n + 67) ws1 652 (lsL i b0 xo mo) [.int (iZ v)] := by
    intro ws1 hd9 rm9 v hv hx2 hws1
    refine j_aload_n G 2 rfl dL_652 ?_
    refine j_arg G hX hb hA0 hi e1 ⟨by decide, by decide⟩ dL_653 dL_654 dL_655 dL_656 dL_657 ?_
    refine j_arg G hX hb hA0 hi e2 ⟨by decide, by decide⟩ dL_658 dL_659 dL_660 dL_661 dL_662 ?_
    refine j_VMr (rest := [.int (iZ v)]) G (hws1.trans pk44) (k10_row (xl Γ) E _ _ _ _ _ _ w1 w2 r1 r2 a5 hkdA hhdA) mw10_row mlL_75 10 rfl rfl rfl ⟨Nat.le_of_ble_eq_true rfl, Nat.le_of_ble_eq_true rfl⟩ rfl rfl (Nat.le_of_ble_eq_true rfl) dL_663 ⟨by show (k + 24) + 0 ≤ 600000; omega, by show (n + 67) + 0 ≤ 7302250; omega⟩ (fun r wX hr => ?_)
    obtain ⟨v2, m_hd1, m_rw1, rfl, rfl, hm⟩ := hr
    refine j_widen (k' := k + 24) (n' := n + 67) ⟨by show (k + 24) + 0 ≤ k + 24; omega, by show (n + 67) + 0 ≤ n + 67; omega⟩ ?_
    obtain ⟨hm, hm2⟩ := hm
    have hvv : v2 = v := hm.trans hv.symm
    subst hvv
    refine j_ieq (tgt := 1254) G dL_666 (by decide) ?_
    rcases hx2 with ⟨f0, rfl, rfl⟩ | ⟨f0, rfl, rfl⟩ <;> rcases hm2 with ⟨g0, rfl, rfl⟩ | ⟨g0, rfl, rfl⟩
    · exact K _ ⟨X, U, V, Q, T, Z, Y, r0, tb, cx, kn, pn, ck, rk, co, so, si, pr, co2, so2, si2, pr2, bo, S, tx, cl, wd, nu, fo, to, la, po, pt, sg, wt, pl, kd, vv, _, _, sp, le, mk, wo, mpn, mr, ts, tl, it, asd, ca, pa, da, sa, ra, rr, dr, sr, nC, nR, Fq, (pb_of pk44), hS, (IvP_s hP), hT, hC, hG, hA, (IvR_row hR f0 a27 a5), hK, hN, hN2⟩
    · exact absurd f0 g0
    · exact absurd g0 f0
    · exact K _ ⟨X, U, V, Q, T, Z, Y, r0, tb, cx, kn, pn, ck, rk, co, so, si, pr, co2, so2, si2, pr2, bo, S, tx, cl, wd, nu, fo, to, la, po, pt, sg, wt, pl, kd, vv, _, _, sp, le, mk, wo, mpn, mr, ts, tl, it, asd, ca, pa, da, sa, ra, rr, dr, sr, nC, nR, Fq, (pb_of pk44), hS, (IvP_s hP), hT, hC, hG, hA, hR, hK, hN, hN2⟩
  refine j_aload_n G 1 rfl dL_638 ?_
  refine j_arg G hX hb hA0 hi e1 ⟨by decide, by decide⟩ dL_639 dL_640 dL_641 dL_642 dL_643 ?_
  refine j_arg G hX hb hA0 hi e2 ⟨by decide, by decide⟩ dL_644 dL_645 dL_646 dL_647 dL_648 ?_
  by_cases hr : 0 ≤ w1 ∧ w1 < S 23
  ·
    obtain ⟨u, hu⟩ := Int.eq_ofNat_of_zero_le hr.1
    have hun : u < nR := by omega
    have hrk : rk w1.toNat = some (ra u) := by rw [show w1.toNat = u by omega]; exact hR.1 u hun
    have hrq : 0 ≤ w1 ∧ w1 < X 5 ∧ X 5 ≤ 12 := by omega
    obtain ⟨hkd, hvv0, hhd, hh0⟩ := hR.2.1 u (by omega) (by omega)
    refine j_VMr (rest := []) G ((hws.trans (op2 hun)).trans pk43) (k9_rowc (xl Γ) E _ _ _ _ _ _ _ _ _ w1 w2 r1 r2 hrq hrk hkd (rL_r hhd hh0)) mw9_row mlL_72 9 rfl rfl rfl ⟨Nat.le_of_ble_eq_true rfl, Nat.le_of_ble_eq_true rfl⟩ rfl rfl (Nat.le_of_ble_eq_true rfl) dL_649 ⟨by show k + 0 ≤ 600000; omega, by show n + 0 ≤ 7302250; omega⟩ (fun r wX hr => ?_)
    obtain ⟨v, x_R1, x_rw1, rfl, rfl, hx⟩ := hr
    refine j_widen (k' := k + 24) (n' := n + 67) ⟨by show k + 0 ≤ k + 24; omega, by show n + 0 ≤ n + 67; omega⟩ ?_
    have k0 : rU kd vv hd u 0 = kd w1 := by rw [hu]; rfl
    have k4 : rU kd vv hd u 4 = hd w1 := by rw [hu]; rfl
    have kl : (rL kd u : Int) = if kd w1 = 6 then 12 else 0 := by rw [hu]; unfold rL; split <;> rfl
    rw [k0, k4, kl] at hx
    rw [← hu] at hhd hkd
    rcases hx with ⟨f0, f1, f2, hv, f4, f5⟩ | ⟨f0, hv, f4, f5⟩
    ·
      rw [if_pos f1] at f2
      refine KM _ (upI hd w1 (hd w1 + 1)) (upI rm (12 * w1 + hd w1) w2) v (by rw [hv]; unfold rowA; (repeat' split) <;> omega) (Or.inl ⟨⟨⟨hr.1, by omega⟩, f0, f1, by omega⟩, rfl, rfl⟩) ((pb_of pk43).trans (op2c (g := fR E ra rr kd vv (upI hd w1 (hd w1 + 1)) (upI rm (12 * w1 + hd w1) w2)) hun ?_ ?_))
      · rw [f4, f5]; exact fR_row hu (by omega)
      · intro j h1 h2; exact fR_or hu h2 (by omega)
    ·
      refine KM _ hd rm v ?_ (Or.inr ⟨fun z => f0 ⟨z.2.1, z.2.2.1, ?_⟩, rfl, rfl⟩) ((pb_of pk43).trans (op2c (g := fR E ra rr kd vv hd rm) hun ?_ ?_))
      · rw [hv]; unfold rowA; by_cases c6 : kd w1 = 6
        · rw [if_pos c6] at f0; rw [if_pos c6, if_pos c6]; (repeat' split) <;> omega
        · rw [if_neg c6, if_neg c6]; (repeat' split) <;> omega
      · rw [if_pos z.2.2.1]; have := z.2.2.2; omega
      · rw [f4, f5]; rfl
      · intro j h1 h2; rfl
  ·
    refine j_VPr (rest := []) G (hws.trans pk15) (k9_rown (xl Γ) E _ _ _ w1 w2 r1 r2 (by omega) (by omega)) mw9_row mlL_72 9 rfl rfl rfl ⟨Nat.le_of_ble_eq_true rfl, Nat.le_of_ble_eq_true rfl⟩ rfl rfl (Nat.le_of_ble_eq_true rfl) dL_649 ⟨by show k ≤ 600000; omega, by show n ≤ 7302250; omega⟩ (fun r hr => ?_)
    obtain ⟨v, rfl, hx⟩ := hr
    refine j_widen (k' := k + 24) (n' := n + 67) ⟨by omega, by omega⟩ ?_
    exact KM _ hd rm v (by rw [hx]; unfold rowA; rw [if_neg (by omega)]) (Or.inr ⟨fun z => by have := z.1; omega, rfl, rfl⟩) hws
