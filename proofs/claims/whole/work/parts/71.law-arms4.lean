set_option maxHeartbeats 4000000 in
set_option maxRecDepth 100000 in
theorem arm25 {E : En} {Γ : Ctx} {A : Nat → Prop} {b0 Ls : Nat} {xs0 : Nat → Int32} {i : Int} {k n q : Nat} {ws : va_W} {xo : Nat} {mo : Nat} {xa : Nat → Nat} {ad : Nat → Nat} {qa : Nat → Nat} {qi : Nat → Nat} {tk : Nat → Option Nat} {B : Nat → Int} {bw : Int → Int} (hL : LawC E Γ A b0 Ls xs0 i k n q tk qa B) (hg : Good E xo mo xa ad qa qi tk B bw q ws) (K : ∀ ws', Good E xo mo xa ad qa qi tk B bw (q + 1) ws' → J E 4 Γ (some A) (k + 24) (n + 67) ws' 1254 (lsL i b0 xo mo) []) : J E 4 Γ (some A) k n ws 985 (lsL i b0 xo mo) [] := by
  obtain ⟨G, hX, hb, hA0, hi, hkn, hq, htk6, hBs⟩ := hL
  refine Good_e hg (fun X U V Q T Z Y r0 tb cx kn pn ck rk co so si pr co2 so2 si2 pr2 bo S tx cl wd nu fo to la po pt sg wt pl kd vv hd rm sp le mk wo mpn mr ts tl it asd ca pa da sa ra rr dr sr nC nR Fq hws hS hP hT hC hG hA hR hK hN hN2 => ?_)
  have hs := hS
  unfold IvS at hs
  obtain ⟨a0, a1, a2, a3, a4, a5, a6, a7, a8, a9, a10, a11, a12, a13, a14, a15, a16, a17, a18, a19, a20, a21, a22, a23, a24, a25, a26, a27⟩ := hs
  obtain ⟨w1, e1⟩ : ∃ w, w = sv xs0 i 1 := ⟨_, rfl⟩
  have r1 : R32 w1 := sv_r e1
  obtain ⟨w2, e2⟩ : ∃ w, w = sv xs0 i 2 := ⟨_, rfl⟩
  have r2 : R32 w2 := sv_r e2
  have hkdA : ∀ j, 0 ≤ j → j < 12 → 0 ≤ kd j ∧ kd j ≤ 6 := fun j h1 h2 => (hR.2.1 j h1 h2).1
  have KM : ∀ (ws1 : va_W) (v : Int), (v = takenA (S 23) kd w1 w2) → ws1.Perm (WL E xo mo xa ad tk B bw X U V Q T Z Y r0 tb cx kn pn ck rk co so si pr co2 so2 si2 pr2 bo S tx cl wd nu fo to la po pt sg wt pl kd vv hd rm sp le mk wo mpn mr ts tl it asd co so si pr co2 so2 si2 pr2 bo ++ WF E qa qi ca pa da sa ra rr dr sr nC nR la po pt kd vv hd rm ts tl it) → J E 4 Γ (some A) (k + 24) (n + 67) ws1 999 (lsL i b0 xo mo) [.int (iZ v)] := by
    intro ws1 v hv hws1
    refine j_aload_n G 2 rfl dL_999 ?_
    refine j_arg G hX hb hA0 hi e1 ⟨by decide, by decide⟩ dL_1000 dL_1001 dL_1002 dL_1003 dL_1004 ?_
    refine j_arg G hX hb hA0 hi e2 ⟨by decide, by decide⟩ dL_1005 dL_1006 dL_1007 dL_1008 dL_1009 ?_
    refine j_VPr (rest := [.int (iZ v)]) G (hws1.trans pk19) (k10_taken (xl Γ) E _ _ _ _ w1 w2 r1 r2 a5 hkdA) mw10_taken mlL_123 10 rfl rfl rfl ⟨Nat.le_of_ble_eq_true rfl, Nat.le_of_ble_eq_true rfl⟩ rfl rfl (Nat.le_of_ble_eq_true rfl) dL_1010 ⟨by show (k + 24) ≤ 600000; omega, by show (n + 67) ≤ 7302250; omega⟩ (fun r hr => ?_)
    obtain ⟨v2, rfl, hm⟩ := hr
    have hvv : v2 = v := hm.trans hv.symm
    subst hvv
    refine j_ieq (tgt := 1254) G dL_1013 (by decide) ?_
    exact K _ ⟨X, U, V, Q, T, Z, Y, r0, tb, cx, kn, pn, ck, rk, co, so, si, pr, co2, so2, si2, pr2, bo, S, tx, cl, wd, nu, fo, to, la, po, pt, sg, wt, pl, kd, vv, hd, rm, sp, le, mk, wo, mpn, mr, ts, tl, it, asd, ca, pa, da, sa, ra, rr, dr, sr, nC, nR, Fq, hws1, hS, (IvP_s hP), hT, hC, hG, hA, hR, hK, hN, hN2⟩
  refine j_aload_n G 1 rfl dL_985 ?_
  refine j_arg G hX hb hA0 hi e1 ⟨by decide, by decide⟩ dL_986 dL_987 dL_988 dL_989 dL_990 ?_
  refine j_arg G hX hb hA0 hi e2 ⟨by decide, by decide⟩ dL_991 dL_992 dL_993 dL_994 dL_995 ?_
  by_cases hr : 0 ≤ w1 ∧ w1 < S 23
  ·
    obtain ⟨u, hu⟩ := Int.eq_ofNat_of_zero_le hr.1
    have hun : u < nR := by omega
    have hrk : rk w1.toNat = some (ra u) := by rw [show w1.toNat = u by omega]; exact hR.1 u hun
    have hrq : 0 ≤ w1 ∧ w1 < X 5 ∧ X 5 ≤ 12 := by omega
    obtain ⟨hkd, hvv0, hhd, hh0⟩ := hR.2.1 u (by omega) (by omega)
    refine j_VPr (rest := []) G ((hws.trans (op2 hun)).trans pk20) (k9_takenc (xl Γ) E _ _ _ _ _ _ 0 _ w1 w2 r1 r2 hrq hrk hkd) mw9_taken mlL_120 9 rfl rfl rfl ⟨Nat.le_of_ble_eq_true rfl, Nat.le_of_ble_eq_true rfl⟩ rfl rfl (Nat.le_of_ble_eq_true rfl) dL_996 ⟨by show k ≤ 600000; omega, by show n ≤ 7302250; omega⟩ (fun r hr => ?_)
    obtain ⟨v, rfl, hx⟩ := hr
    refine j_widen (k' := k + 24) (n' := n + 67) ⟨by omega, by omega⟩ ?_
    have hk0 : rU kd vv hd u 0 = kd w1 := by rw [hu]; rfl
    rw [hk0] at hx
    exact KM _ v (by rw [hx]; unfold takenA; (repeat' split) <;> omega) hws
  ·
    refine j_VPr (rest := []) G (hws.trans pk15) (k9_takenn (xl Γ) E _ _ _ w1 w2 r1 r2 (by omega) (by omega)) mw9_taken mlL_120 9 rfl rfl rfl ⟨Nat.le_of_ble_eq_true rfl, Nat.le_of_ble_eq_true rfl⟩ rfl rfl (Nat.le_of_ble_eq_true rfl) dL_996 ⟨by show k ≤ 600000; omega, by show n ≤ 7302250; omega⟩ (fun r hr => ?_)
    obtain ⟨v, rfl, hx⟩ := hr
    refine j_widen (k' := k + 24) (n' := n + 67) ⟨by omega, by omega⟩ ?_
    exact KM _ v (by rw [hx]; unfold takenA; (repeat' split) <;> omega) hws
set_option maxHeartbeats 4000000 in
set_option maxRecDepth 100000 in
theorem arm23 {E : En} {Γ : Ctx} {A : Nat → Prop} {b0 Ls : Nat} {xs0 : Nat → Int32} {i : Int} {k n q : Nat} {ws : va_W} {xo : Nat} {mo : Nat} {xa : Nat → Nat} {ad : Nat → Nat} {qa : Nat → Nat} {qi : Nat → Nat} {tk : Nat → Option Nat} {B : Nat → Int} {bw : Int → Int} (hL : LawC E Γ A b0 Ls xs0 i k n q tk qa B) (hg : Good E xo mo xa ad qa qi tk B bw q ws) (K : ∀ ws', Good E xo mo xa ad qa qi tk B bw (q + 1) ws' → J E 4 Γ (some A) (k + 24) (n + 67) ws' 1254 (lsL i b0 xo mo) []) : J E 4 Γ (some A) k n ws 919 (lsL i b0 xo mo) [] := by
  obtain ⟨G, hX, hb, hA0, hi, hkn, hq, htk6, hBs⟩ := hL
  refine Good_e hg (fun X U V Q T Z Y r0 tb cx kn pn ck rk co so si pr co2 so2 si2 pr2 bo S tx cl wd nu fo to la po pt sg wt pl kd vv hd rm sp le mk wo mpn mr ts tl it asd ca pa da sa ra rr dr sr nC nR Fq hws hS hP hT hC hG hA hR hK hN hN2 => ?_)
  have hs := hS
  unfold IvS at hs
  obtain ⟨a0, a1, a2, a3, a4, a5, a6, a7, a8, a9, a10, a11, a12, a13, a14, a15, a16, a17, a18, a19, a20, a21, a22, a23, a24, a25, a26, a27⟩ := hs
  obtain ⟨w1, e1⟩ : ∃ w, w = sv xs0 i 1 := ⟨_, rfl⟩
  have r1 : R32 w1 := sv_r e1
  obtain ⟨w2, e2⟩ : ∃ w, w = sv xs0 i 2 := ⟨_, rfl⟩
  have r2 : R32 w2 := sv_r e2
  obtain ⟨w3, e3⟩ : ∃ w, w = sv xs0 i 3 := ⟨_, rfl⟩
  have r3 : R32 w3 := sv_r e3
  have hkdA : ∀ j, 0 ≤ j → j < 12 → 0 ≤ kd j ∧ kd j ≤ 6 := fun j h1 h2 => (hR.2.1 j h1 h2).1
  have KM : ∀ (ws1 : va_W) (q1 : Int) (bo1 : Int → Int) (v : Int), ((((0 ≤ w1 ∧ w1 ≤ S 23 - 1) ∧ 0 ≤ w2 ∧ w2 ≤ 2) ∧ v = acV (kd w1) w1 (vv w1) w2 w3 ∧ q1 = ((acL (kd w1) w2).length : Int) ∧ bo1 = trL (acL (kd w1) w2) 0 bo) ∨ (¬ ((0 ≤ w1 ∧ w1 ≤ S 23 - 1) ∧ 0 ≤ w2 ∧ w2 ≤ 2) ∧ v = 0 ∧ q1 = 0 ∧ bo1 = bo)) → ws1.Perm (WL E xo mo xa ad tk B bw X U V (upS Q 1 q1) T Z Y r0 tb cx kn pn ck rk co so si pr co2 so2 si2 pr2 bo1 S tx cl wd nu fo to la po pt sg wt pl kd vv hd rm sp le mk wo mpn mr ts tl it asd co so si pr co2 so2 si2 pr2 bo ++ WF E qa qi ca pa da sa ra rr dr sr nC nR la po pt kd vv hd rm ts tl it) → J E 4 Γ (some A) (k + 24) (n + 67) ws1 938 (lsL i b0 xo mo) [.int (iZ v)] := by
    intro ws1 q1 bo1 v hx2 hws1
    refine j_aload_n G 2 rfl dL_938 ?_
    refine j_arg G hX hb hA0 hi e1 ⟨by decide, by decide⟩ dL_939 dL_940 dL_941 dL_942 dL_943 ?_
    refine j_arg G hX hb hA0 hi e2 ⟨by decide, by decide⟩ dL_944 dL_945 dL_946 dL_947 dL_948 ?_
    refine j_arg G hX hb hA0 hi e3 ⟨by decide, by decide⟩ dL_949 dL_950 dL_951 dL_952 dL_953 ?_
    refine j_VMr (rest := [.int (iZ v)]) G (hws1.trans pk21) (k10_act (xl Γ) E _ _ _ _ _ _ w1 w2 w3 r1 r2 a5 hkdA) mw10_act mlL_115 10 rfl rfl rfl ⟨Nat.le_of_ble_eq_true rfl, Nat.le_of_ble_eq_true rfl⟩ rfl rfl (Nat.le_of_ble_eq_true rfl) dL_954 ⟨by show (k + 24) + 0 ≤ 600000; omega, by show (n + 67) + 0 ≤ 7302250; omega⟩ (fun r wX hr => ?_)
    obtain ⟨v2, m_S1, m_bo1, rfl, rfl, hm⟩ := hr
    refine j_widen (k' := k + 24) (n' := n + 67) ⟨by show (k + 24) + 0 ≤ k + 24; omega, by show (n + 67) + 0 ≤ n + 67; omega⟩ ?_
    have hln := acL_len (kd w1) w2
    rcases hx2 with ⟨f0, hv, f1, rfl⟩ | ⟨f0, hv, f1, rfl⟩ <;> rcases hm with ⟨g0, hm, rfl, rfl⟩ | ⟨g0, hm, rfl, rfl⟩
    ·
      have hvv : v2 = v := hm.trans hv.symm
      subst hvv
      refine j_ieq (tgt := 1254) G dL_957 (by decide) ?_
      exact K _ ⟨X, U, V, upS Q 1 q1, T, Z, Y, r0, tb, cx, kn, pn, ck, rk, co, so, si, pr, co2, so2, si2, pr2, _, upS S 62 ((acL (kd w1) w2).length : Int), tx, cl, wd, nu, fo, to, la, po, pt, sg, wt, pl, kd, vv, hd, rm, sp, le, mk, wo, mpn, mr, ts, tl, it, asd, ca, pa, da, sa, ra, rr, dr, sr, nC, nR, Fq, (pb_of pk21), (by unfold IvS; (refine ⟨?_, ?_, ?_, ?_, ?_, ?_, ?_, ?_, ?_, ?_, ?_, ?_, ?_, ?_, ?_, ?_, ?_, ?_, ?_, ?_, ?_, ?_, ?_, ?_, ?_, ?_, ?_, ?_⟩ <;> first | (simp only [upS, reduceIte, Nat.reduceEqDiff, eq_self, and_true, true_and, or_true, true_or]; done) | (simp only [upS, reduceIte, Nat.reduceEqDiff, eq_self, and_true, true_and, or_true, true_or]; omega) | omega)), (IvP_s hP), hT, hC, hG, hA, hR, hK, hN, hN2⟩
    ·
      exact absurd f0 g0
    ·
      exact absurd g0 f0
    ·
      have hvv : v2 = v := hm.trans hv.symm
      subst hvv
      refine j_ieq (tgt := 1254) G dL_957 (by decide) ?_
      exact K _ ⟨X, U, V, upS Q 1 q1, T, Z, Y, r0, tb, cx, kn, pn, ck, rk, co, so, si, pr, co2, so2, si2, pr2, _, upS S 62 0, tx, cl, wd, nu, fo, to, la, po, pt, sg, wt, pl, kd, vv, hd, rm, sp, le, mk, wo, mpn, mr, ts, tl, it, asd, ca, pa, da, sa, ra, rr, dr, sr, nC, nR, Fq, (pb_of pk21), (by unfold IvS; (refine ⟨?_, ?_, ?_, ?_, ?_, ?_, ?_, ?_, ?_, ?_, ?_, ?_, ?_, ?_, ?_, ?_, ?_, ?_, ?_, ?_, ?_, ?_, ?_, ?_, ?_, ?_, ?_, ?_⟩ <;> first | (simp only [upS, reduceIte, Nat.reduceEqDiff, eq_self, and_true, true_and, or_true, true_or]; done) | (simp only [upS, reduceIte, Nat.reduceEqDiff, eq_self, and_true, true_and, or_true, true_or]; omega) | omega)), (IvP_s hP), hT, hC, hG, hA, hR, hK, hN, hN2⟩
  refine j_aload_n G 1 rfl dL_919 ?_
  refine j_arg G hX hb hA0 hi e1 ⟨by decide, by decide⟩ dL_920 dL_921 dL_922 dL_923 dL_924 ?_
  refine j_arg G hX hb hA0 hi e2 ⟨by decide, by decide⟩ dL_925 dL_926 dL_927 dL_928 dL_929 ?_
  refine j_arg G hX hb hA0 hi e3 ⟨by decide, by decide⟩ dL_930 dL_931 dL_932 dL_933 dL_934 ?_
  by_cases hr : 0 ≤ w1 ∧ w1 < S 23
  ·
    obtain ⟨u, hu⟩ := Int.eq_ofNat_of_zero_le hr.1
    have hun : u < nR := by omega
    have hrk : rk w1.toNat = some (ra u) := by rw [show w1.toNat = u by omega]; exact hR.1 u hun
    have hrq : 0 ≤ w1 ∧ w1 < X 5 ∧ X 5 ≤ 12 := by omega
    obtain ⟨hkd, hvv0, hhd, hh0⟩ := hR.2.1 u (by omega) (by omega)
    refine j_VMr (rest := []) G ((hws.trans (op2 hun)).trans pk22) (k9_actc (xl Γ) E _ _ _ _ _ _ _ _ _ w1 w2 w3 r1 r2 hrq hrk hkd) mw9_act mlL_112 9 rfl rfl rfl ⟨Nat.le_of_ble_eq_true rfl, Nat.le_of_ble_eq_true rfl⟩ rfl rfl (Nat.le_of_ble_eq_true rfl) dL_935 ⟨by show k + 0 ≤ 600000; omega, by show n + 0 ≤ 7302250; omega⟩ (fun r wX hr => ?_)
    obtain ⟨v, x_q1, x_bo1, rfl, rfl, hx⟩ := hr
    refine j_widen (k' := k + 24) (n' := n + 67) ⟨by show k + 0 ≤ k + 24; omega, by show n + 0 ≤ n + 67; omega⟩ ?_
    have hk0 : rU kd vv hd u 0 = kd w1 := by rw [hu]; rfl
    have hk1 : rU kd vv hd u 1 = vv w1 := by rw [hu]; rfl
    have hk2 : rU kd vv hd u 2 = w1 := by rw [hu]; rfl
    rw [hk0, hk1, hk2] at hx
    refine KM _ x_q1 x_bo1 v ?_ ((pb_of pk22).trans (op2 (f := fR E ra rr kd vv hd rm) hun).symm)
    rcases hx with ⟨f0, f1, f2, f3⟩ | ⟨f0, f1, f2, f3⟩
    · exact Or.inl ⟨⟨by omega, f0⟩, f1, f2, f3⟩
    · exact Or.inr ⟨fun z => f0 z.2, f1, f2, f3⟩
  ·
    refine j_VMr (rest := []) G (hws.trans pk23) (k9_actn (xl Γ) E _ _ _ _ w1 w2 w3 r1 r2 (by omega) (by omega)) mw9_act mlL_112 9 rfl rfl rfl ⟨Nat.le_of_ble_eq_true rfl, Nat.le_of_ble_eq_true rfl⟩ rfl rfl (Nat.le_of_ble_eq_true rfl) dL_935 ⟨by show k + 0 ≤ 600000; omega, by show n + 0 ≤ 7302250; omega⟩ (fun r wX hr => ?_)
    obtain ⟨v, rfl, rfl, hx⟩ := hr
    refine j_widen (k' := k + 24) (n' := n + 67) ⟨by show k + 0 ≤ k + 24; omega, by show n + 0 ≤ n + 67; omega⟩ ?_
    exact KM _ 0 bo v (Or.inr ⟨by omega, hx, rfl, rfl⟩) (pb_of pk23)
set_option maxHeartbeats 4000000 in
set_option maxRecDepth 100000 in
theorem arm2 {E : En} {Γ : Ctx} {A : Nat → Prop} {b0 Ls : Nat} {xs0 : Nat → Int32} {i : Int} {k n q : Nat} {ws : va_W} {xo : Nat} {mo : Nat} {xa : Nat → Nat} {ad : Nat → Nat} {qa : Nat → Nat} {qi : Nat → Nat} {tk : Nat → Option Nat} {B : Nat → Int} {bw : Int → Int} (hL : LawC E Γ A b0 Ls xs0 i k n q tk qa B) (hg : Good E xo mo xa ad qa qi tk B bw q ws) (K : ∀ ws', Good E xo mo xa ad qa qi tk B bw (q + 1) ws' → J E 4 Γ (some A) (k + 24) (n + 67) ws' 1254 (lsL i b0 xo mo) []) : J E 4 Γ (some A) k n ws 218 (lsL i b0 xo mo) [] := by
  obtain ⟨G, hX, hb, hA0, hi, hkn, hq, htk6, hBs⟩ := hL
  refine Good_e hg (fun X U V Q T Z Y r0 tb cx kn pn ck rk co so si pr co2 so2 si2 pr2 bo S tx cl wd nu fo to la po pt sg wt pl kd vv hd rm sp le mk wo mpn mr ts tl it asd ca pa da sa ra rr dr sr nC nR Fq hws hS hP hT hC hG hA hR hK hN hN2 => ?_)
  have hs := hS
  unfold IvS at hs
  obtain ⟨a0, a1, a2, a3, a4, a5, a6, a7, a8, a9, a10, a11, a12, a13, a14, a15, a16, a17, a18, a19, a20, a21, a22, a23, a24, a25, a26, a27⟩ := hs
  obtain ⟨w1, e1⟩ : ∃ w, w = sv xs0 i 1 := ⟨_, rfl⟩
  have r1 : R32 w1 := sv_r e1
  have hth : -1 ≤ S 1 ∧ S 1 ≤ 3 := by omega
  have hms : 0 ≤ S 1 → MSum wd nu fo to sg cl Fq (S 1) := IvC_ms hC (by omega)
  have hwm : 0 ≤ S 1 → wfC (cM la po (S 1)) (pM pt (S 1)) := IvC_wm hC (by omega)
  have hw : S 20 = 0 ∨ S 20 = 1 := by omega
  have hpl := hA.1
  have hmk := hA.2
  have hsg := hG.1
  have hla := hG.2.2.1
  have hco := hN.1
  have KM : ∀ (ws1 : va_W) (U1 : Nat → Int) (v : Int), (((0 ≤ w1 ∧ w1 ≤ S 0 - 1) ∧ v = U 3 ∧ U1 = upS (upS U 3 w1) 2 (min (U 2) (la (9 * w1 + 8)))) ∨ (¬ (0 ≤ w1 ∧ w1 ≤ S 0 - 1) ∧ v = -1 ∧ U1 = U)) → ws1.Perm (WL E xo mo xa ad tk B bw X U1 V Q T Z Y r0 tb cx kn pn ck rk co so si pr co2 so2 si2 pr2 bo S tx cl wd nu fo to la po pt sg wt pl kd vv hd rm sp le mk wo mpn mr ts tl it asd co so si pr co2 so2 si2 pr2 bo ++ WF E qa qi ca pa da sa ra rr dr sr nC nR la po pt kd vv hd rm ts tl it) → J E 4 Γ (some A) (k + 24) (n + 67) ws1 227 (lsL i b0 xo mo) [.int (iZ v)] := by
    intro ws1 U1 v hx2 hws1
    refine j_aload_n G 2 rfl dL_227 ?_
    refine j_arg G hX hb hA0 hi e1 ⟨by decide, by decide⟩ dL_228 dL_229 dL_230 dL_231 dL_232 ?_
    refine j_VMr (rest := [.int (iZ v)]) G (hws1.trans pk12) (k10_choose (xl Γ) E _ _ _ _ w1 r1 a0 a1 a4 hla) mw10_choose mlL_27 10 rfl rfl rfl ⟨Nat.le_of_ble_eq_true rfl, Nat.le_of_ble_eq_true rfl⟩ rfl rfl (Nat.le_of_ble_eq_true rfl) dL_233 ⟨by show (k + 24) + 0 ≤ 600000; omega, by show (n + 67) + 0 ≤ 7302250; omega⟩ (fun r wX hr => ?_)
    obtain ⟨v2, m_S1, rfl, rfl, hm⟩ := hr
    refine j_widen (k' := k + 24) (n' := n + 67) ⟨by show (k + 24) + 0 ≤ k + 24; omega, by show (n + 67) + 0 ≤ n + 67; omega⟩ ?_
    rcases hx2 with ⟨f0, hv, rfl⟩ | ⟨f0, hv, rfl⟩ <;> rcases hm with ⟨g0, hm, rfl⟩ | ⟨g0, hm, rfl⟩
    ·
      have hl := hla w1 (by omega) (by omega)
      have hvv : v2 = v := by
        rw [hm, hv]
        split <;> omega
      subst hvv
      refine j_ieq (tgt := 1254) G dL_236 (by decide) ?_
      exact K _ ⟨X, _, V, Q, T, Z, Y, r0, tb, cx, kn, pn, ck, rk, co, so, si, pr, co2, so2, si2, pr2, bo, _, tx, cl, wd, nu, fo, to, la, po, pt, sg, wt, pl, kd, vv, hd, rm, sp, le, mk, wo, mpn, mr, ts, tl, it, asd, ca, pa, da, sa, ra, rr, dr, sr, nC, nR, Fq, (pb_of pk12), (by unfold IvS; (refine ⟨?_, ?_, ?_, ?_, ?_, ?_, ?_, ?_, ?_, ?_, ?_, ?_, ?_, ?_, ?_, ?_, ?_, ?_, ?_, ?_, ?_, ?_, ?_, ?_, ?_, ?_, ?_, ?_⟩ <;> first | (simp only [upS, reduceIte, Nat.reduceEqDiff, eq_self, and_true, true_and, or_true, true_or]; done) | (simp only [upS, reduceIte, Nat.reduceEqDiff, eq_self, and_true, true_and, or_true, true_or]; omega) | omega)), (IvP_s hP), hT, hC, hG, hA, hR, hK, hN, hN2⟩
    · exact absurd f0 g0
    · exact absurd g0 f0
    ·
      have hvv : v2 = v := hm.trans hv.symm
      subst hvv
      refine j_ieq (tgt := 1254) G dL_236 (by decide) ?_
      exact K _ ⟨X, _, V, Q, T, Z, Y, r0, tb, cx, kn, pn, ck, rk, co, so, si, pr, co2, so2, si2, pr2, bo, _, tx, cl, wd, nu, fo, to, la, po, pt, sg, wt, pl, kd, vv, hd, rm, sp, le, mk, wo, mpn, mr, ts, tl, it, asd, ca, pa, da, sa, ra, rr, dr, sr, nC, nR, Fq, (pb_of pk12), hS, (IvP_s hP), hT, hC, hG, hA, hR, hK, hN, hN2⟩
  refine j_aload_n G 1 rfl dL_218 ?_
  refine j_arg G hX hb hA0 hi e1 ⟨by decide, by decide⟩ dL_219 dL_220 dL_221 dL_222 dL_223 ?_
  by_cases hr : 0 ≤ w1 ∧ w1 < S 0
  ·
    obtain ⟨t, ht⟩ := Int.eq_ofNat_of_zero_le hr.1
    have htn : t < nC := by omega
    have hl := hla w1 (by omega) (by omega)
    refine j_VMr (rest := []) G ((hws.trans (op1 htn)).trans pk24) (k9_choosec (xl Γ) E _ _ _ _ _ _ _ _ _ _ w1 r1 (by omega) (by rw [show w1.toNat = t by omega]; exact (hC t htn).1) (by omega) (by rw [ht] at hl; exact hl)) mw9_choose mlL_23 9 rfl rfl rfl ⟨Nat.le_of_ble_eq_true rfl, Nat.le_of_ble_eq_true rfl⟩ rfl rfl (Nat.le_of_ble_eq_true rfl) dL_224 ⟨by show k + 0 ≤ 600000; omega, by show n + 0 ≤ 7302250; omega⟩ (fun r wX hr => ?_)
    obtain ⟨rfl, rfl, hx⟩ := hr
    refine j_widen (k' := k + 24) (n' := n + 67) ⟨by show k + 0 ≤ k + 24; omega, by show n + 0 ≤ n + 67; omega⟩ ?_
    refine KM _ _ (U 3) (Or.inl ⟨by omega, rfl, rfl⟩) ?_
    rw [ht]
    exact (pb_of pk24).trans (op1 (f := fC E ca pa da sa la po pt dr sr) htn).symm
  ·
    refine j_VPr (rest := []) G (hws.trans pk15) (k9_choosen (xl Γ) E _ _ _ w1 r1 (by omega) (by omega)) mw9_choose mlL_23 9 rfl rfl rfl ⟨Nat.le_of_ble_eq_true rfl, Nat.le_of_ble_eq_true rfl⟩ rfl rfl (Nat.le_of_ble_eq_true rfl) dL_224 ⟨by show k ≤ 600000; omega, by show n ≤ 7302250; omega⟩ (fun r hr => ?_)
    obtain ⟨v, rfl, hx⟩ := hr
    refine j_widen (k' := k + 24) (n' := n + 67) ⟨by omega, by omega⟩ ?_
    exact KM _ U v (Or.inr ⟨by omega, hx, rfl⟩) hws
