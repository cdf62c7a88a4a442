set_option maxHeartbeats 4000000 in
set_option maxRecDepth 100000 in
theorem arm21 {E : En} {Γ : Ctx} {A : Nat → Prop} {b0 Ls : Nat} {xs0 : Nat → Int32} {i : Int} {k n q : Nat} {ws : va_W} {xo : Nat} {mo : Nat} {xa : Nat → Nat} {ad : Nat → Nat} {qa : Nat → Nat} {qi : Nat → Nat} {tk : Nat → Option Nat} {B : Nat → Int} {bw : Int → Int} (hL : LawC E Γ A b0 Ls xs0 i k n q tk qa B) (hg : Good E xo mo xa ad qa qi tk B bw q ws) (K : ∀ ws', Good E xo mo xa ad qa qi tk B bw (q + 1) ws' → J E 4 Γ (some A) (k + 24) (n + 67) ws' 1254 (lsL i b0 xo mo) []) : J E 4 Γ (some A) k n ws 893 (lsL i b0 xo mo) [] := by
  obtain ⟨G, hX, hb, hA0, hi, hkn, hq, htk6, hBs⟩ := hL
  refine Good_e hg (fun X U V Q T Z Y r0 tb cx kn pn ck rk co so si pr co2 so2 si2 pr2 bo S tx cl wd nu fo to la po pt sg wt pl kd vv hd rm sp le mk wo mpn mr ts tl it asd ca pa da sa ra rr dr sr nC nR Fq hws hS hP hT hC hG hA hR hK hN hN2 => ?_)
  have hs := hS
  unfold IvS at hs
  obtain ⟨a0, a1, a2, a3, a4, a5, a6, a7, a8, a9, a10, a11, a12, a13, a14, a15, a16, a17, a18, a19, a20, a21, a22, a23, a24, a25, a26, a27⟩ := hs
  have KM : ∀ (ws1 : va_W) (v : Int), (v = S 21) → ws1.Perm (WL E xo mo xa ad tk B bw (upS X 8 1) U (upS (upS (upS (upS V 1 (U 1)) 2 (U 2)) 3 (U 3)) 7 (U 7)) Q T Z Y r0 tb cx kn pn ck rk co so si pr co so si pr bo S tx cl wd nu fo to la po pt sg wt pl kd vv hd rm sp le mk wo mpn mr ts tl it asd co so si pr co2 so2 si2 pr2 bo ++ WF E qa qi ca pa da sa ra rr dr sr nC nR la po pt kd vv hd rm ts tl it) → J E 4 Γ (some A) (k + 24) (n + 67) ws1 897 (lsL i b0 xo mo) [.int (iZ v)] := by
    intro ws1 v hv hws1
    refine j_aload_n G 2 rfl dL_897 ?_
    refine j_VMr (rest := [.int (iZ v)]) G (hws1.trans pk13) (k10_image (xl Γ) E _ _ _ _ _ _ _ _ _ _ _ (by omega) (by omega) (by omega)) mw10_image mlL_107 10 rfl rfl rfl ⟨Nat.le_of_ble_eq_true rfl, Nat.le_of_ble_eq_true rfl⟩ rfl rfl (Nat.le_of_ble_eq_true rfl) dL_898 ⟨by show (k + 24) + 0 ≤ 600000; omega, by show (n + 67) + 0 ≤ 7302250; omega⟩ (fun r wX hr => ?_)
    obtain ⟨v2, rfl, rfl, hm⟩ := hr
    refine j_widen (k' := k + 24) (n' := n + 67) ⟨by show (k + 24) + 0 ≤ k + 24; omega, by show (n + 67) + 0 ≤ n + 67; omega⟩ ?_
    have hvv : v2 = v := hm.trans hv.symm
    subst hvv
    refine j_ieq (tgt := 1254) G dL_901 (by decide) ?_
    exact K _ ⟨upS X 8 1, U, upS (upS (upS (upS V 1 (U 1)) 2 (U 2)) 3 (U 3)) 7 (U 7), Q, T, Z, Y, r0, tb, cx, kn, pn, ck, rk, co, so, si, pr, co, so, si, pr, bo, upS (upS (upS (upS (upS S 53 1) 54 (S 20)) 55 (S 1)) 56 (S 21)) 57 (S 48), tx, cl, wd, nu, fo, to, la, po, pt, sg, wt, pl, kd, vv, hd, rm, sp, le, mk, wo, mpn, mr, ts, tl, it, asd, ca, pa, da, sa, ra, rr, dr, sr, nC, nR, Fq, (pb_of pk13), (by unfold IvS; (refine ⟨?_, ?_, ?_, ?_, ?_, ?_, ?_, ?_, ?_, ?_, ?_, ?_, ?_, ?_, ?_, ?_, ?_, ?_, ?_, ?_, ?_, ?_, ?_, ?_, ?_, ?_, ?_, ?_⟩ <;> first | (simp only [upS, reduceIte, Nat.reduceEqDiff, eq_self, and_true, true_and, or_true, true_or]; done) | (simp only [upS, reduceIte, Nat.reduceEqDiff, eq_self, and_true, true_and, or_true, true_or]; omega) | omega)), (IvP_s hP), hT, hC, hG, hA, hR, hK, hN, hN⟩
  refine j_aload_n G 1 rfl dL_893 ?_
  refine j_VMr (rest := []) G (hws.trans pk14) (k9_image (xl Γ) E _ _ _ _ _ _ _ _ _ _ _ _ _ (by omega)) mw9_image mlL_104 9 rfl rfl rfl ⟨Nat.le_of_ble_eq_true rfl, Nat.le_of_ble_eq_true rfl⟩ rfl rfl (Nat.le_of_ble_eq_true rfl) dL_894 ⟨by show k + 0 ≤ 600000; omega, by show n + 0 ≤ 7302250; omega⟩ (fun r wX hr => ?_)
  obtain ⟨v, rfl, rfl, hx⟩ := hr
  refine j_widen (k' := k + 24) (n' := n + 67) ⟨by show k + 0 ≤ k + 24; omega, by show n + 0 ≤ n + 67; omega⟩ ?_
  exact KM _ v (by rw [hx, a18]) (pb_of pk14)
set_option maxHeartbeats 4000000 in
set_option maxRecDepth 100000 in
theorem arm22 {E : En} {Γ : Ctx} {A : Nat → Prop} {b0 Ls : Nat} {xs0 : Nat → Int32} {i : Int} {k n q : Nat} {ws : va_W} {xo : Nat} {mo : Nat} {xa : Nat → Nat} {ad : Nat → Nat} {qa : Nat → Nat} {qi : Nat → Nat} {tk : Nat → Option Nat} {B : Nat → Int} {bw : Int → Int} (hL : LawC E Γ A b0 Ls xs0 i k n q tk qa B) (hg : Good E xo mo xa ad qa qi tk B bw q ws) (K : ∀ ws', Good E xo mo xa ad qa qi tk B bw (q + 1) ws' → J E 4 Γ (some A) (k + 24) (n + 67) ws' 1254 (lsL i b0 xo mo) []) : J E 4 Γ (some A) k n ws 906 (lsL i b0 xo mo) [] := by
  obtain ⟨G, hX, hb, hA0, hi, hkn, hq, htk6, hBs⟩ := hL
  refine Good_e hg (fun X U V Q T Z Y r0 tb cx kn pn ck rk co so si pr co2 so2 si2 pr2 bo S tx cl wd nu fo to la po pt sg wt pl kd vv hd rm sp le mk wo mpn mr ts tl it asd ca pa da sa ra rr dr sr nC nR Fq hws hS hP hT hC hG hA hR hK hN hN2 => ?_)
  have hs := hS
  unfold IvS at hs
  obtain ⟨a0, a1, a2, a3, a4, a5, a6, a7, a8, a9, a10, a11, a12, a13, a14, a15, a16, a17, a18, a19, a20, a21, a22, a23, a24, a25, a26, a27⟩ := hs
  have KM : ∀ (ws1 : va_W) (U1 : Nat → Int) (co1 : Int → Int) (so1 : Int → Int) (si1 : Int → Int) (pr1 : Int → Int) (v : Int), ((S 53 = 0 ∧ v = -3 ∧ U1 = U ∧ co1 = co ∧ so1 = so ∧ si1 = si ∧ pr1 = pr) ∨ (S 53 = 1 ∧ v = S 56 ∧ U1 = upS (upS (upS (upS U 1 (V 1)) 2 (V 2)) 3 (V 3)) 7 (V 7) ∧ co1 = co2 ∧ so1 = so2 ∧ si1 = si2 ∧ pr1 = pr2)) → ws1.Perm (WL E xo mo xa ad tk B bw X U1 V Q T Z Y r0 tb cx kn pn ck rk co1 so1 si1 pr1 co2 so2 si2 pr2 bo S tx cl wd nu fo to la po pt sg wt pl kd vv hd rm sp le mk wo mpn mr ts tl it asd co so si pr co2 so2 si2 pr2 bo ++ WF E qa qi ca pa da sa ra rr dr sr nC nR la po pt kd vv hd rm ts tl it) → J E 4 Γ (some A) (k + 24) (n + 67) ws1 910 (lsL i b0 xo mo) [.int (iZ v)] := by
    intro ws1 U1 co1 so1 si1 pr1 v hx2 hws1
    refine j_aload_n G 2 rfl dL_910 ?_
    refine j_VMr (rest := [.int (iZ v)]) G (hws1.trans pk13) (k10_undo (xl Γ) E _ _ _ _ _ _ _ _ _ _ _ (by omega) (by omega) (by omega)) mw10_undo mlL_111 10 rfl rfl rfl ⟨Nat.le_of_ble_eq_true rfl, Nat.le_of_ble_eq_true rfl⟩ rfl rfl (Nat.le_of_ble_eq_true rfl) dL_911 ⟨by show (k + 24) + 0 ≤ 600000; omega, by show (n + 67) + 0 ≤ 7302250; omega⟩ (fun r wX hr => ?_)
    obtain ⟨v2, m_S1, m_g1, m_so1, m_si1, m_pr1, rfl, rfl, hm⟩ := hr
    refine j_widen (k' := k + 24) (n' := n + 67) ⟨by show (k + 24) + 0 ≤ k + 24; omega, by show (n + 67) + 0 ≤ n + 67; omega⟩ ?_
    rcases hx2 with ⟨f0, hv, rfl, rfl, rfl, rfl, rfl⟩ | ⟨f0, hv, rfl, rfl, rfl, rfl, rfl⟩ <;> rcases hm with ⟨g0, hm, rfl, rfl, rfl, rfl, rfl⟩ | ⟨g0, hm, rfl, rfl, rfl, rfl, rfl⟩
    ·
      have hvv : v2 = v := hm.trans hv.symm
      subst hvv
      refine j_ieq (tgt := 1254) G dL_914 (by decide) ?_
      exact K _ ⟨X, _, V, Q, T, Z, Y, r0, tb, cx, kn, pn, ck, rk, _, _, _, _, _, _, _, _, bo, _, tx, cl, wd, nu, fo, to, la, po, pt, sg, wt, pl, kd, vv, hd, rm, sp, le, mk, wo, mpn, mr, ts, tl, it, asd, ca, pa, da, sa, ra, rr, dr, sr, nC, nR, Fq, (pb_of pk13), hS, (IvP_s hP), hT, hC, hG, hA, hR, hK, hN, hN2⟩
    ·
      exact absurd f0 g0
    ·
      exact absurd g0 (by omega)
    ·
      have hvv : v2 = v := hm.trans hv.symm
      subst hvv
      refine j_ieq (tgt := 1254) G dL_914 (by decide) ?_
      exact K _ ⟨X, upS (upS (upS (upS U 1 (V 1)) 2 (V 2)) 3 (V 3)) 7 (V 7), V, Q, T, Z, Y, r0, tb, cx, kn, pn, ck, rk, _, _, _, _, _, _, _, _, bo, upS (upS (upS (upS S 20 (S 54)) 1 (S 55)) 21 (S 56)) 48 (S 57), tx, cl, wd, nu, fo, to, la, po, pt, sg, wt, pl, kd, vv, hd, rm, sp, le, mk, wo, mpn, mr, ts, tl, it, asd, ca, pa, da, sa, ra, rr, dr, sr, nC, nR, Fq, (pb_of pk13), (by unfold IvS; (refine ⟨?_, ?_, ?_, ?_, ?_, ?_, ?_, ?_, ?_, ?_, ?_, ?_, ?_, ?_, ?_, ?_, ?_, ?_, ?_, ?_, ?_, ?_, ?_, ?_, ?_, ?_, ?_, ?_⟩ <;> first | (simp only [upS, reduceIte, Nat.reduceEqDiff, eq_self, and_true, true_and, or_true, true_or]; done) | (simp only [upS, reduceIte, Nat.reduceEqDiff, eq_self, and_true, true_and, or_true, true_or]; omega) | omega)), (IvP_s hP), hT, hC, hG, hA, hR, hK, hN2, hN2⟩
  refine j_aload_n G 1 rfl dL_906 ?_
  by_cases hc : S 53 = 0
  ·
    refine j_VPr (rest := []) G (hws.trans pk15) (k9_undon (xl Γ) E _ _ _ (by omega)) mw9_undo mlL_108 9 rfl rfl rfl ⟨Nat.le_of_ble_eq_true rfl, Nat.le_of_ble_eq_true rfl⟩ rfl rfl (Nat.le_of_ble_eq_true rfl) dL_907 ⟨by show k ≤ 600000; omega, by show n ≤ 7302250; omega⟩ (fun r hr => ?_)
    obtain ⟨v, rfl, hx⟩ := hr
    refine j_widen (k' := k + 24) (n' := n + 67) ⟨by omega, by omega⟩ ?_
    exact KM _ U co so si pr v (Or.inl ⟨hc, hx, rfl, rfl, rfl, rfl, rfl⟩) hws
  ·
    refine j_VMr (rest := []) G (hws.trans pk14) (k9_undoc (xl Γ) E _ _ _ _ _ _ _ _ _ _ _ _ _ (by omega) (by omega)) mw9_undo mlL_108 9 rfl rfl rfl ⟨Nat.le_of_ble_eq_true rfl, Nat.le_of_ble_eq_true rfl⟩ rfl rfl (Nat.le_of_ble_eq_true rfl) dL_907 ⟨by show k + 0 ≤ 600000; omega, by show n + 0 ≤ 7302250; omega⟩ (fun r wX hr => ?_)
    obtain ⟨v, rfl, rfl, hx⟩ := hr
    refine j_widen (k' := k + 24) (n' := n + 67) ⟨by show k + 0 ≤ k + 24; omega, by show n + 0 ≤ n + 67; omega⟩ ?_
    exact KM _ _ _ _ _ _ v (Or.inr ⟨by omega, by rw [hx, a22], rfl, rfl, rfl, rfl, rfl⟩) (pb_of pk14)
set_option maxHeartbeats 4000000 in
set_option maxRecDepth 100000 in
theorem arm18 {E : En} {Γ : Ctx} {A : Nat → Prop} {b0 Ls : Nat} {xs0 : Nat → Int32} {i : Int} {k n q : Nat} {ws : va_W} {xo : Nat} {mo : Nat} {xa : Nat → Nat} {ad : Nat → Nat} {qa : Nat → Nat} {qi : Nat → Nat} {tk : Nat → Option Nat} {B : Nat → Int} {bw : Int → Int} (hL : LawC E Γ A b0 Ls xs0 i k n q tk qa B) (hg : Good E xo mo xa ad qa qi tk B bw q ws) (K : ∀ ws', Good E xo mo xa ad qa qi tk B bw (q + 1) ws' → J E 4 Γ (some A) (k + 24) (n + 67) ws' 1254 (lsL i b0 xo mo) []) : J E 4 Γ (some A) k n ws 794 (lsL i b0 xo mo) [] := by
  obtain ⟨G, hX, hb, hA0, hi, hkn, hq, htk6, hBs⟩ := hL
  refine Good_e hg (fun X U V Q T Z Y r0 tb cx kn pn ck rk co so si pr co2 so2 si2 pr2 bo S tx cl wd nu fo to la po pt sg wt pl kd vv hd rm sp le mk wo mpn mr ts tl it asd ca pa da sa ra rr dr sr nC nR Fq hws hS hP hT hC hG hA hR hK hN hN2 => ?_)
  have hs := hS
  unfold IvS at hs
  obtain ⟨a0, a1, a2, a3, a4, a5, a6, a7, a8, a9, a10, a11, a12, a13, a14, a15, a16, a17, a18, a19, a20, a21, a22, a23, a24, a25, a26, a27⟩ := hs
  obtain ⟨w1, e1⟩ : ∃ w, w = sv xs0 i 1 := ⟨_, rfl⟩
  have r1 : R32 w1 := sv_r e1
  obtain ⟨w2, e2⟩ : ∃ w, w = sv xs0 i 2 := ⟨_, rfl⟩
  have r2 : R32 w2 := sv_r e2
  obtain ⟨w3, e3⟩ : ∃ w, w = sv xs0 i 3 := ⟨_, rfl⟩
  have r3 : R32 w3 := sv_r e3
  have KM : ∀ (ws1 : va_W) (u7 : Int) (so1 : Int → Int) (si1 : Int → Int) (pr1 : Int → Int) (v : Int), (v = offerA (S 48) w1 w2 w3) → ((offerOk (S 48) w1 w2 w3 ∧ u7 = S 48 + 1 ∧ so1 = upI so (S 48) w1 ∧ si1 = upI si (S 48) w2 ∧ pr1 = upI pr (S 48) w3) ∨ (¬ offerOk (S 48) w1 w2 w3 ∧ u7 = S 48 ∧ so1 = so ∧ si1 = si ∧ pr1 = pr)) → ws1.Perm (WL E xo mo xa ad tk B bw X (upS U 7 u7) V Q T Z Y r0 tb cx kn pn ck rk co so1 si1 pr1 co2 so2 si2 pr2 bo S tx cl wd nu fo to la po pt sg wt pl kd vv hd rm sp le mk wo mpn mr ts tl it asd co so si pr co2 so2 si2 pr2 bo ++ WF E qa qi ca pa da sa ra rr dr sr nC nR la po pt kd vv hd rm ts tl it) → J E 4 Γ (some A) (k + 24) (n + 67) ws1 813 (lsL i b0 xo mo) [.int (iZ v)] := by
    intro ws1 u7 so1 si1 pr1 v hv hx2 hws1
    refine j_aload_n G 2 rfl dL_813 ?_
    refine j_arg G hX hb hA0 hi e1 ⟨by decide, by decide⟩ dL_814 dL_815 dL_816 dL_817 dL_818 ?_
    refine j_arg G hX hb hA0 hi e2 ⟨by decide, by decide⟩ dL_819 dL_820 dL_821 dL_822 dL_823 ?_
    refine j_arg G hX hb hA0 hi e3 ⟨by decide, by decide⟩ dL_824 dL_825 dL_826 dL_827 dL_828 ?_
    refine j_VMr (rest := [.int (iZ v)]) G (hws1.trans pk16) (k10_offer (xl Γ) E _ _ _ _ _ _ w1 w2 w3 r1 r2 r3 a6) mw10_offer mlL_95 10 rfl rfl rfl ⟨Nat.le_of_ble_eq_true rfl, Nat.le_of_ble_eq_true rfl⟩ rfl rfl (Nat.le_of_ble_eq_true rfl) dL_829 ⟨by show (k + 24) + 0 ≤ 600000; omega, by show (n + 67) + 0 ≤ 7302250; omega⟩ (fun r wX hr => ?_)
    obtain ⟨v2, m_S1, m_so1, m_si1, m_pr1, rfl, rfl, hm⟩ := hr
    refine j_widen (k' := k + 24) (n' := n + 67) ⟨by show (k + 24) + 0 ≤ k + 24; omega, by show (n + 67) + 0 ≤ n + 67; omega⟩ ?_
    obtain ⟨hm, hm2⟩ := hm
    have hvv : v2 = v := hm.trans hv.symm
    subst hvv
    refine j_ieq (tgt := 1254) G dL_832 (by decide) ?_
    rcases hx2 with ⟨f0, f1, rfl, rfl, rfl⟩ | ⟨f0, f1, rfl, rfl, rfl⟩ <;> rcases hm2 with ⟨g0, rfl, rfl, rfl, rfl⟩ | ⟨g0, rfl, rfl, rfl, rfl⟩
    ·
      unfold offerOk at f0
      exact K _ ⟨X, upS U 7 u7, V, Q, T, Z, Y, r0, tb, cx, kn, pn, ck, rk, co, _, _, _, co2, so2, si2, pr2, bo, upS S 48 (S 48 + 1), tx, cl, wd, nu, fo, to, la, po, pt, sg, wt, pl, kd, vv, hd, rm, sp, le, mk, wo, mpn, mr, ts, tl, it, asd, ca, pa, da, sa, ra, rr, dr, sr, nC, nR, Fq, (pb_of pk16), (by unfold IvS; (refine ⟨?_, ?_, ?_, ?_, ?_, ?_, ?_, ?_, ?_, ?_, ?_, ?_, ?_, ?_, ?_, ?_, ?_, ?_, ?_, ?_, ?_, ?_, ?_, ?_, ?_, ?_, ?_, ?_⟩ <;> first | (simp only [upS, reduceIte, Nat.reduceEqDiff, eq_self, and_true, true_and, or_true, true_or]; done) | (simp only [upS, reduceIte, Nat.reduceEqDiff, eq_self, and_true, true_and, or_true, true_or]; omega) | omega)), (IvP_s hP), hT, hC, hG, hA, hR, hK, (IvN_o (S' := upS S 48 (S 48 + 1)) hN f0.1 f0.2.1 rfl), hN2⟩
    · exact absurd f0 g0
    · exact absurd g0 f0
    ·
      exact K _ ⟨X, upS U 7 u7, V, Q, T, Z, Y, r0, tb, cx, kn, pn, ck, rk, co, _, _, _, co2, so2, si2, pr2, bo, _, tx, cl, wd, nu, fo, to, la, po, pt, sg, wt, pl, kd, vv, hd, rm, sp, le, mk, wo, mpn, mr, ts, tl, it, asd, ca, pa, da, sa, ra, rr, dr, sr, nC, nR, Fq, (pb_of pk16), (by unfold IvS; (refine ⟨?_, ?_, ?_, ?_, ?_, ?_, ?_, ?_, ?_, ?_, ?_, ?_, ?_, ?_, ?_, ?_, ?_, ?_, ?_, ?_, ?_, ?_, ?_, ?_, ?_, ?_, ?_, ?_⟩ <;> first | (simp only [upS, reduceIte, Nat.reduceEqDiff, eq_self, and_true, true_and, or_true, true_or]; done) | (simp only [upS, reduceIte, Nat.reduceEqDiff, eq_self, and_true, true_and, or_true, true_or]; omega) | omega)), (IvP_s hP), hT, hC, hG, hA, hR, hK, hN, hN2⟩
  refine j_aload_n G 1 rfl dL_794 ?_
  refine j_arg G hX hb hA0 hi e1 ⟨by decide, by decide⟩ dL_795 dL_796 dL_797 dL_798 dL_799 ?_
  refine j_arg G hX hb hA0 hi e2 ⟨by decide, by decide⟩ dL_800 dL_801 dL_802 dL_803 dL_804 ?_
  refine j_arg G hX hb hA0 hi e3 ⟨by decide, by decide⟩ dL_805 dL_806 dL_807 dL_808 dL_809 ?_
  refine j_VMr (rest := []) G (hws.trans pk17) (k9_offer (xl Γ) E _ _ _ _ _ _ _ w1 w2 w3 r1 r2 r3 (by omega)) mw9_offer mlL_92 9 rfl rfl rfl ⟨Nat.le_of_ble_eq_true rfl, Nat.le_of_ble_eq_true rfl⟩ rfl rfl (Nat.le_of_ble_eq_true rfl) dL_810 ⟨by show k + 0 ≤ 600000; omega, by show n + 0 ≤ 7302250; omega⟩ (fun r wX hr => ?_)
  obtain ⟨v, x_u7, x_so1, x_si1, x_pr1, rfl, rfl, hx⟩ := hr
  refine j_widen (k' := k + 24) (n' := n + 67) ⟨by show k + 0 ≤ k + 24; omega, by show n + 0 ≤ n + 67; omega⟩ ?_
  rw [a20] at hx
  exact KM _ x_u7 x_so1 x_si1 x_pr1 v hx.1 hx.2 (pb_of pk17)
set_option maxHeartbeats 4000000 in
set_option maxRecDepth 100000 in
theorem arm26 {E : En} {Γ : Ctx} {A : Nat → Prop} {b0 Ls : Nat} {xs0 : Nat → Int32} {i : Int} {k n q : Nat} {ws : va_W} {xo : Nat} {mo : Nat} {xa : Nat → Nat} {ad : Nat → Nat} {qa : Nat → Nat} {qi : Nat → Nat} {tk : Nat → Option Nat} {B : Nat → Int} {bw : Int → Int} (hL : LawC E Γ A b0 Ls xs0 i k n q tk qa B) (hg : Good E xo mo xa ad qa qi tk B bw q ws) (K : ∀ ws', Good E xo mo xa ad qa qi tk B bw (q + 1) ws' → J E 4 Γ (some A) (k + 24) (n + 67) ws' 1254 (lsL i b0 xo mo) []) : J E 4 Γ (some A) k n ws 1018 (lsL i b0 xo mo) [] := by
  obtain ⟨G, hX, hb, hA0, hi, hkn, hq, htk6, hBs⟩ := hL
  refine Good_e hg (fun X U V Q T Z Y r0 tb cx kn pn ck rk co so si pr co2 so2 si2 pr2 bo S tx cl wd nu fo to la po pt sg wt pl kd vv hd rm sp le mk wo mpn mr ts tl it asd ca pa da sa ra rr dr sr nC nR Fq hws hS hP hT hC hG hA hR hK hN hN2 => ?_)
  have hs := hS
  unfold IvS at hs
  obtain ⟨a0, a1, a2, a3, a4, a5, a6, a7, a8, a9, a10, a11, a12, a13, a14, a15, a16, a17, a18, a19, a20, a21, a22, a23, a24, a25, a26, a27⟩ := hs
  obtain ⟨w1, e1⟩ : ∃ w, w = sv xs0 i 1 := ⟨_, rfl⟩
  have r1 : R32 w1 := sv_r e1
  have KM : ∀ (ws1 : va_W) (v : Int), (v = countA (S 0) (S 23) (S 48) (S 2) (S 1) (S 62) w1) → ws1.Perm (WL E xo mo xa ad tk B bw X U V Q T Z Y r0 tb cx kn pn ck rk co so si pr co2 so2 si2 pr2 bo S tx cl wd nu fo to la po pt sg wt pl kd vv hd rm sp le mk wo mpn mr ts tl it asd co so si pr co2 so2 si2 pr2 bo ++ WF E qa qi ca pa da sa ra rr dr sr nC nR la po pt kd vv hd rm ts tl it) → J E 4 Γ (some A) (k + 24) (n + 67) ws1 1027 (lsL i b0 xo mo) [.int (iZ v)] := by
    intro ws1 v hv hws1
    refine j_aload_n G 2 rfl dL_1027 ?_
    refine j_arg G hX hb hA0 hi e1 ⟨by decide, by decide⟩ dL_1028 dL_1029 dL_1030 dL_1031 dL_1032 ?_
    refine j_VPr (rest := [.int (iZ v)]) G (hws1.trans pk9) (k10_count (xl Γ) E _ _ _ w1 r1 (by omega)) mw10_count mlL_127 10 rfl rfl rfl ⟨Nat.le_of_ble_eq_true rfl, Nat.le_of_ble_eq_true rfl⟩ rfl rfl (Nat.le_of_ble_eq_true rfl) dL_1033 ⟨by show (k + 24) ≤ 600000; omega, by show (n + 67) ≤ 7302250; omega⟩ (fun r hr => ?_)
    obtain ⟨v2, rfl, hm⟩ := hr
    have hvv : v2 = v := hm.trans hv.symm
    subst hvv
    refine j_ieq (tgt := 1254) G dL_1036 (by decide) ?_
    exact K _ ⟨X, U, V, Q, T, Z, Y, r0, tb, cx, kn, pn, ck, rk, co, so, si, pr, co2, so2, si2, pr2, bo, S, tx, cl, wd, nu, fo, to, la, po, pt, sg, wt, pl, kd, vv, hd, rm, sp, le, mk, wo, mpn, mr, ts, tl, it, asd, ca, pa, da, sa, ra, rr, dr, sr, nC, nR, Fq, hws1, hS, (IvP_s hP), hT, hC, hG, hA, hR, hK, hN, hN2⟩
  refine j_aload_n G 1 rfl dL_1018 ?_
  refine j_arg G hX hb hA0 hi e1 ⟨by decide, by decide⟩ dL_1019 dL_1020 dL_1021 dL_1022 dL_1023 ?_
  refine j_VPr (rest := []) G (hws.trans pk18) (k9_count (xl Γ) E _ _ _ _ _ w1 r1) mw9_count mlL_124 9 rfl rfl rfl ⟨Nat.le_of_ble_eq_true rfl, Nat.le_of_ble_eq_true rfl⟩ rfl rfl (Nat.le_of_ble_eq_true rfl) dL_1024 ⟨by show k ≤ 600000; omega, by show n ≤ 7302250; omega⟩ (fun r hr => ?_)
  obtain ⟨v, rfl, hx⟩ := hr
  refine j_widen (k' := k + 24) (n' := n + 67) ⟨by omega, by omega⟩ ?_
  exact KM _ v (by rw [hx]; unfold countA; (repeat' split) <;> omega) hws
