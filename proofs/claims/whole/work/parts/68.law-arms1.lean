set_option maxHeartbeats 4000000 in
set_option maxRecDepth 100000 in
theorem arm0 {E : En} {Γ : Ctx} {A : Nat → Prop} {b0 Ls : Nat} {xs0 : Nat → Int32} {i : Int} {k n q : Nat} {ws : va_W} {xo : Nat} {mo : Nat} {xa : Nat → Nat} {ad : Nat → Nat} {qa : Nat → Nat} {qi : Nat → Nat} {tk : Nat → Option Nat} {B : Nat → Int} {bw : Int → Int} (hL : LawC E Γ A b0 Ls xs0 i k n q tk qa B) (hg : Good E xo mo xa ad qa qi tk B bw q ws) (K : ∀ ws', Good E xo mo xa ad qa qi tk B bw (q + 1) ws' → J E 4 Γ (some A) (k + 24) (n + 67) ws' 1254 (lsL i b0 xo mo) []) : J E 4 Γ (some A) k n ws 172 (lsL i b0 xo mo) [] := by
  obtain ⟨G, hX, hb, hA0, hi, hkn, hq, htk6, hBs⟩ := hL
  refine Good_e hg (fun X U V Q T Z Y r0 tb cx kn pn ck rk co so si pr co2 so2 si2 pr2 bo S tx cl wd nu fo to la po pt sg wt pl kd vv hd rm sp le mk wo mpn mr ts tl it asd ca pa da sa ra rr dr sr nC nR Fq hws hS hP hT hC hG hA hR hK hN hN2 => ?_)
  have hs := hS
  unfold IvS at hs
  obtain ⟨a0, a1, a2, a3, a4, a5, a6, a7, a8, a9, a10, a11, a12, a13, a14, a15, a16, a17, a18, a19, a20, a21, a22, a23, a24, a25, a26, a27⟩ := hs
  obtain ⟨w1, e1⟩ : ∃ w, w = sv xs0 i 1 := ⟨_, rfl⟩
  have r1 : R32 w1 := sv_r e1
  obtain ⟨w2, e2⟩ : ∃ w, w = sv xs0 i 2 := ⟨_, rfl⟩
  have r2 : R32 w2 := sv_r e2
  have KM : ∀ (ws1 : va_W) (x1 : Int) (tb1 : Int → Int) (v : Int), (v = feedA (S 2) w2) → ((feedOk (S 2) w2 ∧ x1 = S 2 + w2 ∧ ∀ j, 0 ≤ j → j < 100 → tb1 j = fdF w1 w2 tx (S 2) j % 256) ∨ (¬ feedOk (S 2) w2 ∧ x1 = S 2 ∧ tb1 = tb)) → ws1.Perm (WL E xo mo xa ad tk B bw (upS X 1 x1) U V Q T Z Y r0 tb1 cx kn pn ck rk co so si pr co2 so2 si2 pr2 bo S tx cl wd nu fo to la po pt sg wt pl kd vv hd rm sp le mk wo mpn mr ts tl it asd co so si pr co2 so2 si2 pr2 bo ++ WF E qa qi ca pa da sa ra rr dr sr nC nR la po pt kd vv hd rm ts tl it) → J E 4 Γ (some A) (k + 24) (n + 67) ws1 186 (lsL i b0 xo mo) [.int (iZ v)] := by
    intro ws1 x1 tb1 v hv hx2 hws1
    refine j_aload_n G 2 rfl dL_186 ?_
    refine j_arg G hX hb hA0 hi e1 ⟨by decide, by decide⟩ dL_187 dL_188 dL_189 dL_190 dL_191 ?_
    refine j_arg G hX hb hA0 hi e2 ⟨by decide, by decide⟩ dL_192 dL_193 dL_194 dL_195 dL_196 ?_
    refine j_VMr (rest := [.int (iZ v)]) G (hws1.trans pk0) (k10_feed (xl Γ) E _ _ _ _ w1 w2 r1 r2 (by omega)) mw10_feed mlL_17 10 rfl rfl rfl ⟨Nat.le_of_ble_eq_true rfl, Nat.le_of_ble_eq_true rfl⟩ rfl rfl (Nat.le_of_ble_eq_true rfl) dL_197 ⟨by show (k + 24) + 0 ≤ 600000; omega, by show (n + 67) + 0 ≤ 7302250; omega⟩ (fun r wX hr => ?_)
    obtain ⟨v2, m_tx1, m_q1, rfl, rfl, hm⟩ := hr
    refine j_widen (k' := k + 24) (n' := n + 67) ⟨by show (k + 24) + 0 ≤ k + 24; omega, by show (n + 67) + 0 ≤ n + 67; omega⟩ ?_
    have hvv : v2 = v := hm.1.trans hv.symm
    subst hvv
    refine j_ieq (tgt := 1254) G dL_200 (by decide) ?_
    rcases hx2 with ⟨f1, f2, f3⟩ | ⟨f1, f2, f3⟩ <;> rcases hm.2 with ⟨g1, g2, g3⟩ | ⟨g1, g2, g3⟩
    · subst g2
      unfold feedOk at f1
      exact K _ ⟨upS X 1 x1, U, V, Q, T, Z, Y, r0, tb1, cx, kn, pn, ck, rk, co, so, si, pr, co2, so2, si2, pr2, bo, upS S 2 m_q1, _, cl, wd, nu, fo, to, la, po, pt, sg, wt, pl, kd, vv, hd, rm, sp, le, mk, wo, mpn, mr, ts, tl, it, asd, ca, pa, da, sa, ra, rr, dr, sr, nC, nR, Fq, (pb_of pk0), (by unfold IvS; (refine ⟨?_, ?_, ?_, ?_, ?_, ?_, ?_, ?_, ?_, ?_, ?_, ?_, ?_, ?_, ?_, ?_, ?_, ?_, ?_, ?_, ?_, ?_, ?_, ?_, ?_, ?_, ?_, ?_⟩ <;> first | (simp only [upS, reduceIte, Nat.reduceEqDiff, eq_self, and_true, true_and, or_true, true_or]; done) | (simp only [upS, reduceIte, Nat.reduceEqDiff, eq_self, and_true, true_and, or_true, true_or]; omega) | omega)), (IvP_s hP), (fun j h1 h2 => ⟨f3 j h1 h2, by unfold fdF; split; exact (fdB_r _ _).1; exact (hT j h1 h2).2.1, by unfold fdF; split; exact (fdB_r _ _).2; exact (hT j h1 h2).2.2⟩), hC, hG, hA, hR, hK, hN, hN2⟩
    · exact absurd f1 g1
    · exact absurd g1 f1
    · subst g2; subst f3
      exact K _ ⟨upS X 1 x1, U, V, Q, T, Z, Y, r0, _, cx, kn, pn, ck, rk, co, so, si, pr, co2, so2, si2, pr2, bo, upS S 2 m_q1, _, cl, wd, nu, fo, to, la, po, pt, sg, wt, pl, kd, vv, hd, rm, sp, le, mk, wo, mpn, mr, ts, tl, it, asd, ca, pa, da, sa, ra, rr, dr, sr, nC, nR, Fq, (pb_of pk0), (by unfold IvS; (refine ⟨?_, ?_, ?_, ?_, ?_, ?_, ?_, ?_, ?_, ?_, ?_, ?_, ?_, ?_, ?_, ?_, ?_, ?_, ?_, ?_, ?_, ?_, ?_, ?_, ?_, ?_, ?_, ?_⟩ <;> first | (simp only [upS, reduceIte, Nat.reduceEqDiff, eq_self, and_true, true_and, or_true, true_or]; done) | (simp only [upS, reduceIte, Nat.reduceEqDiff, eq_self, and_true, true_and, or_true, true_or]; omega) | omega)), (IvP_s hP), hT, hC, hG, hA, hR, hK, hN, hN2⟩
  refine j_aload_n G 1 rfl dL_172 ?_
  refine j_arg G hX hb hA0 hi e1 ⟨by decide, by decide⟩ dL_173 dL_174 dL_175 dL_176 dL_177 ?_
  refine j_arg G hX hb hA0 hi e2 ⟨by decide, by decide⟩ dL_178 dL_179 dL_180 dL_181 dL_182 ?_
  refine j_VMr (rest := []) G (hws.trans pk1) (k9_feed (xl Γ) E _ _ _ _ tx w1 w2 r1 r2 (by omega) (fun j h1 h2 => (hT j h1 h2).1)) mw9_feed mlL_13 9 rfl rfl rfl ⟨Nat.le_of_ble_eq_true rfl, Nat.le_of_ble_eq_true rfl⟩ rfl rfl (Nat.le_of_ble_eq_true rfl) dL_183 ⟨by show k + 0 ≤ 600000; omega, by show n + 0 ≤ 7302250; omega⟩ (fun r wX hr => ?_)
  obtain ⟨v, x_tb1, x_x1, rfl, rfl, hx⟩ := hr
  refine j_widen (k' := k + 24) (n' := n + 67) ⟨by show k + 0 ≤ k + 24; omega, by show n + 0 ≤ n + 67; omega⟩ ?_
  rw [a13] at hx
  exact KM _ x_x1 x_tb1 v hx.1 hx.2 (pb_of pk1)
set_option maxHeartbeats 4000000 in
set_option maxRecDepth 100000 in
theorem arm3 {E : En} {Γ : Ctx} {A : Nat → Prop} {b0 Ls : Nat} {xs0 : Nat → Int32} {i : Int} {k n q : Nat} {ws : va_W} {xo : Nat} {mo : Nat} {xa : Nat → Nat} {ad : Nat → Nat} {qa : Nat → Nat} {qi : Nat → Nat} {tk : Nat → Option Nat} {B : Nat → Int} {bw : Int → Int} (hL : LawC E Γ A b0 Ls xs0 i k n q tk qa B) (hg : Good E xo mo xa ad qa qi tk B bw q ws) (K : ∀ ws', Good E xo mo xa ad qa qi tk B bw (q + 1) ws' → J E 4 Γ (some A) (k + 24) (n + 67) ws' 1254 (lsL i b0 xo mo) []) : J E 4 Γ (some A) k n ws 241 (lsL i b0 xo mo) [] := by
  obtain ⟨G, hX, hb, hA0, hi, hkn, hq, htk6, hBs⟩ := hL
  refine Good_e hg (fun X U V Q T Z Y r0 tb cx kn pn ck rk co so si pr co2 so2 si2 pr2 bo S tx cl wd nu fo to la po pt sg wt pl kd vv hd rm sp le mk wo mpn mr ts tl it asd ca pa da sa ra rr dr sr nC nR Fq hws hS hP hT hC hG hA hR hK hN hN2 => ?_)
  have hs := hS
  unfold IvS at hs
  obtain ⟨a0, a1, a2, a3, a4, a5, a6, a7, a8, a9, a10, a11, a12, a13, a14, a15, a16, a17, a18, a19, a20, a21, a22, a23, a24, a25, a26, a27⟩ := hs
  obtain ⟨w1, e1⟩ : ∃ w, w = sv xs0 i 1 := ⟨_, rfl⟩
  have r1 : R32 w1 := sv_r e1
  have hth : -1 ≤ S 1 ∧ S 1 ≤ 3 := by omega
  have hms : 0 ≤ S 1 → MSum wd nu fo to sg cl Fq (S 1) := IvC_ms hC (by omega)
  have hwm : 0 ≤ S 1 → wfC (cM la po (S 1)) (pM pt (S 1)) := IvC_wm hC (by omega)
  have hw : S 20 = 0 ∨ S 20 = 1 := by omega
  have hpl := hA.1
  have hmk := hA.2
  have hsg := hG.1
  have hla := hG.2.2.1
  have hco := hN.1
  have KM : ∀ (ws1 : va_W) (v : Int), (v = ofA (cM la po (S 1)) (pM pt (S 1)) (S 1) w1) → ws1.Perm (WL E xo mo xa ad tk B bw X U V Q T Z Y r0 tb cx kn pn ck rk co so si pr co2 so2 si2 pr2 bo S tx cl wd nu fo to la po pt sg wt pl kd vv hd rm sp le mk wo mpn mr ts tl it asd co so si pr co2 so2 si2 pr2 bo ++ WF E qa qi ca pa da sa ra rr dr sr nC nR la po pt kd vv hd rm ts tl it) → J E 4 Γ (some A) (k + 24) (n + 67) ws1 250 (lsL i b0 xo mo) [.int (iZ v)] := by
    intro ws1 v hv hws1
    refine j_aload_n G 2 rfl dL_250 ?_
    refine j_arg G hX hb hA0 hi e1 ⟨by decide, by decide⟩ dL_251 dL_252 dL_253 dL_254 dL_255 ?_
    refine j_VPr (rest := [.int (iZ v)]) G (hws1.trans pk2) (k10_of (xl Γ) E _ _ _ _ _ _ w1 r1 hth hwm) mw10_of mlL_31 10 rfl rfl rfl ⟨Nat.le_of_ble_eq_true rfl, Nat.le_of_ble_eq_true rfl⟩ rfl rfl (Nat.le_of_ble_eq_true rfl) dL_256 ⟨by show (k + 24) ≤ 600000; omega, by show (n + 67) ≤ 7302250; omega⟩ (fun r hr => ?_)
    obtain ⟨v2, rfl, hm⟩ := hr
    have hvv : v2 = v := hm.trans hv.symm
    subst hvv
    refine j_ieq (tgt := 1254) G dL_259 (by decide) ?_
    exact K _ ⟨X, U, V, Q, T, Z, Y, r0, tb, cx, kn, pn, ck, rk, co, so, si, pr, co2, so2, si2, pr2, bo, S, tx, cl, wd, nu, fo, to, la, po, pt, sg, wt, pl, kd, vv, hd, rm, sp, le, mk, wo, mpn, mr, ts, tl, it, asd, ca, pa, da, sa, ra, rr, dr, sr, nC, nR, Fq, hws1, hS, (IvP_s hP), hT, hC, hG, hA, hR, hK, hN, hN2⟩
  refine j_aload_n G 1 rfl dL_241 ?_
  refine j_arg G hX hb hA0 hi e1 ⟨by decide, by decide⟩ dL_242 dL_243 dL_244 dL_245 dL_246 ?_
  by_cases hcl : S 1 < 0
  ·
    refine j_VPr (rest := []) G (hws.trans pk3) (k9_ofn (xl Γ) E _ _ _ _ w1 r1 (by omega) (by omega)) mw9_of mlL_28 9 rfl rfl rfl ⟨Nat.le_of_ble_eq_true rfl, Nat.le_of_ble_eq_true rfl⟩ rfl rfl (Nat.le_of_ble_eq_true rfl) dL_247 ⟨by show k ≤ 600000; omega, by show n ≤ 7302250; omega⟩ (fun r hr => ?_)
    obtain ⟨v, rfl, hx⟩ := hr
    refine j_widen (k' := k + 24) (n' := n + 67) ⟨by omega, by omega⟩ ?_
    exact KM _ v (by rw [hx]; unfold ofA; rw [if_pos hcl]) hws
  ·
    have ht0 : 0 ≤ S 1 := by omega
    obtain ⟨t, ht⟩ := Int.eq_ofNat_of_zero_le ht0
    have htn : t < nC := by omega
    obtain ⟨hc1, hc2, hc3, hc4, hc5⟩ := hC t htn
    have hu3e : U 3 = S 1 := by omega
    have hu3 : 0 ≤ U 3 ∧ U 3 < X 3 ∧ X 3 ≤ 4 := by omega
    have hck : ck (U 3).toNat = some (ca t) := by rw [show (U 3).toNat = t by omega]; exact hc1
    have hU1 : U 1 = 0 ∨ U 1 = 1 := by omega
    have hdr : ∀ j, 0 ≤ j → j < 24 → 0 ≤ dr t j ∧ dr t j ≤ 11988 := fun j h1 h2 => by rw [(hc5 j h1 h2).1]; exact smM_r hc2 _ _ _
    have hDW := dw_of (hms ht0) ht hc5 a3 a17
    have hu2 : 0 ≤ U 2 ∧ U 2 ≤ 40 := by omega
    refine j_VPr (rest := []) G ((hws.trans (op1 htn)).trans pk4) (k9_ofc (xl Γ) E _ _ _ _ _ _ _ _ _ _ _ _ _ w1 r1 hu3 hck hc3 hU1 hdr) mw9_of mlL_28 9 rfl rfl rfl ⟨Nat.le_of_ble_eq_true rfl, Nat.le_of_ble_eq_true rfl⟩ rfl rfl (Nat.le_of_ble_eq_true rfl) dL_247 ⟨by show k ≤ 600000; omega, by show n ≤ 7302250; omega⟩ (fun r hr => ?_)
    obtain ⟨v, rfl, hx⟩ := hr
    refine j_widen (k' := k + 24) (n' := n + 67) ⟨by omega, by omega⟩ ?_
    exact KM _ v (by rw [hx, hu3e, ← ht]) hws
set_option maxHeartbeats 4000000 in
set_option maxRecDepth 100000 in
theorem arm24 {E : En} {Γ : Ctx} {A : Nat → Prop} {b0 Ls : Nat} {xs0 : Nat → Int32} {i : Int} {k n q : Nat} {ws : va_W} {xo : Nat} {mo : Nat} {xa : Nat → Nat} {ad : Nat → Nat} {qa : Nat → Nat} {qi : Nat → Nat} {tk : Nat → Option Nat} {B : Nat → Int} {bw : Int → Int} (hL : LawC E Γ A b0 Ls xs0 i k n q tk qa B) (hg : Good E xo mo xa ad qa qi tk B bw q ws) (K : ∀ ws', Good E xo mo xa ad qa qi tk B bw (q + 1) ws' → J E 4 Γ (some A) (k + 24) (n + 67) ws' 1254 (lsL i b0 xo mo) []) : J E 4 Γ (some A) k n ws 962 (lsL i b0 xo mo) [] := by
  obtain ⟨G, hX, hb, hA0, hi, hkn, hq, htk6, hBs⟩ := hL
  refine Good_e hg (fun X U V Q T Z Y r0 tb cx kn pn ck rk co so si pr co2 so2 si2 pr2 bo S tx cl wd nu fo to la po pt sg wt pl kd vv hd rm sp le mk wo mpn mr ts tl it asd ca pa da sa ra rr dr sr nC nR Fq hws hS hP hT hC hG hA hR hK hN hN2 => ?_)
  have hs := hS
  unfold IvS at hs
  obtain ⟨a0, a1, a2, a3, a4, a5, a6, a7, a8, a9, a10, a11, a12, a13, a14, a15, a16, a17, a18, a19, a20, a21, a22, a23, a24, a25, a26, a27⟩ := hs
  obtain ⟨w1, e1⟩ : ∃ w, w = sv xs0 i 1 := ⟨_, rfl⟩
  have r1 : R32 w1 := sv_r e1
  have KM : ∀ (ws1 : va_W) (v : Int), (v = traceA (S 62) bo w1) → ws1.Perm (WL E xo mo xa ad tk B bw X U V Q T Z Y r0 tb cx kn pn ck rk co so si pr co2 so2 si2 pr2 bo S tx cl wd nu fo to la po pt sg wt pl kd vv hd rm sp le mk wo mpn mr ts tl it asd co so si pr co2 so2 si2 pr2 bo ++ WF E qa qi ca pa da sa ra rr dr sr nC nR la po pt kd vv hd rm ts tl it) → J E 4 Γ (some A) (k + 24) (n + 67) ws1 971 (lsL i b0 xo mo) [.int (iZ v)] := by
    intro ws1 v hv hws1
    refine j_aload_n G 2 rfl dL_971 ?_
    refine j_arg G hX hb hA0 hi e1 ⟨by decide, by decide⟩ dL_972 dL_973 dL_974 dL_975 dL_976 ?_
    refine j_VPr (rest := [.int (iZ v)]) G (hws1.trans pk5) (k10_trace (xl Γ) E _ _ _ _ w1 r1 (by omega)) mw10_trace mlL_119 10 rfl rfl rfl ⟨Nat.le_of_ble_eq_true rfl, Nat.le_of_ble_eq_true rfl⟩ rfl rfl (Nat.le_of_ble_eq_true rfl) dL_977 ⟨by show (k + 24) ≤ 600000; omega, by show (n + 67) ≤ 7302250; omega⟩ (fun r hr => ?_)
    obtain ⟨v2, rfl, hm⟩ := hr
    have hvv : v2 = v := hm.trans hv.symm
    subst hvv
    refine j_ieq (tgt := 1254) G dL_980 (by decide) ?_
    exact K _ ⟨X, U, V, Q, T, Z, Y, r0, tb, cx, kn, pn, ck, rk, co, so, si, pr, co2, so2, si2, pr2, bo, S, tx, cl, wd, nu, fo, to, la, po, pt, sg, wt, pl, kd, vv, hd, rm, sp, le, mk, wo, mpn, mr, ts, tl, it, asd, ca, pa, da, sa, ra, rr, dr, sr, nC, nR, Fq, hws1, hS, (IvP_s hP), hT, hC, hG, hA, hR, hK, hN, hN2⟩
  refine j_aload_n G 1 rfl dL_962 ?_
  refine j_arg G hX hb hA0 hi e1 ⟨by decide, by decide⟩ dL_963 dL_964 dL_965 dL_966 dL_967 ?_
  refine j_VPr (rest := []) G (hws.trans pk6) (k9_trace (xl Γ) E _ _ _ _ _ w1 r1 (by omega)) mw9_trace mlL_116 9 rfl rfl rfl ⟨Nat.le_of_ble_eq_true rfl, Nat.le_of_ble_eq_true rfl⟩ rfl rfl (Nat.le_of_ble_eq_true rfl) dL_968 ⟨by show k ≤ 600000; omega, by show n ≤ 7302250; omega⟩ (fun r hr => ?_)
  obtain ⟨v, rfl, hx⟩ := hr
  refine j_widen (k' := k + 24) (n' := n + 67) ⟨by omega, by omega⟩ ?_
  exact KM _ v (by rw [hx, a25]) hws
set_option maxHeartbeats 4000000 in
set_option maxRecDepth 100000 in
theorem arm9 {E : En} {Γ : Ctx} {A : Nat → Prop} {b0 Ls : Nat} {xs0 : Nat → Int32} {i : Int} {k n q : Nat} {ws : va_W} {xo : Nat} {mo : Nat} {xa : Nat → Nat} {ad : Nat → Nat} {qa : Nat → Nat} {qi : Nat → Nat} {tk : Nat → Option Nat} {B : Nat → Int} {bw : Int → Int} (hL : LawC E Γ A b0 Ls xs0 i k n q tk qa B) (hg : Good E xo mo xa ad qa qi tk B bw q ws) (K : ∀ ws', Good E xo mo xa ad qa qi tk B bw (q + 1) ws' → J E 4 Γ (some A) (k + 24) (n + 67) ws' 1254 (lsL i b0 xo mo) []) : J E 4 Γ (some A) k n ws 500 (lsL i b0 xo mo) [] := by
  obtain ⟨G, hX, hb, hA0, hi, hkn, hq, htk6, hBs⟩ := hL
  refine Good_e hg (fun X U V Q T Z Y r0 tb cx kn pn ck rk co so si pr co2 so2 si2 pr2 bo S tx cl wd nu fo to la po pt sg wt pl kd vv hd rm sp le mk wo mpn mr ts tl it asd ca pa da sa ra rr dr sr nC nR Fq hws hS hP hT hC hG hA hR hK hN hN2 => ?_)
  have hs := hS
  unfold IvS at hs
  obtain ⟨a0, a1, a2, a3, a4, a5, a6, a7, a8, a9, a10, a11, a12, a13, a14, a15, a16, a17, a18, a19, a20, a21, a22, a23, a24, a25, a26, a27⟩ := hs
  obtain ⟨w1, e1⟩ : ∃ w, w = sv xs0 i 1 := ⟨_, rfl⟩
  have r1 : R32 w1 := sv_r e1
  obtain ⟨w2, e2⟩ : ∃ w, w = sv xs0 i 2 := ⟨_, rfl⟩
  have r2 : R32 w2 := sv_r e2
  obtain ⟨w3, e3⟩ : ∃ w, w = sv xs0 i 3 := ⟨_, rfl⟩
  have r3 : R32 w3 := sv_r e3
  have KM : ∀ (ws1 : va_W) (co1 : Int → Int) (v : Int), (v = comeA co w1 w2 w3) → (co1 = comeG co w1 w2 w3) → ws1.Perm (WL E xo mo xa ad tk B bw X U V Q T Z Y r0 tb cx kn pn ck rk co1 so si pr co2 so2 si2 pr2 bo S tx cl wd nu fo to la po pt sg wt pl kd vv hd rm sp le mk wo mpn mr ts tl it asd co so si pr co2 so2 si2 pr2 bo ++ WF E qa qi ca pa da sa ra rr dr sr nC nR la po pt kd vv hd rm ts tl it) → J E 4 Γ (some A) (k + 24) (n + 67) ws1 519 (lsL i b0 xo mo) [.int (iZ v)] := by
    intro ws1 co1 v hv hc1 hws1
    refine j_aload_n G 2 rfl dL_519 ?_
    refine j_arg G hX hb hA0 hi e1 ⟨by decide, by decide⟩ dL_520 dL_521 dL_522 dL_523 dL_524 ?_
    refine j_arg G hX hb hA0 hi e2 ⟨by decide, by decide⟩ dL_525 dL_526 dL_527 dL_528 dL_529 ?_
    refine j_arg G hX hb hA0 hi e3 ⟨by decide, by decide⟩ dL_530 dL_531 dL_532 dL_533 dL_534 ?_
    refine j_VMr (rest := [.int (iZ v)]) G (hws1.trans pk7) (k10_come (xl Γ) E _ _ _ _ w1 w2 w3 r1 r2 r3) mw10_come mlL_58 10 rfl rfl rfl ⟨Nat.le_of_ble_eq_true rfl, Nat.le_of_ble_eq_true rfl⟩ rfl rfl (Nat.le_of_ble_eq_true rfl) dL_535 ⟨by show (k + 24) + 0 ≤ 600000; omega, by show (n + 67) + 0 ≤ 7302250; omega⟩ (fun r wX hr => ?_)
    obtain ⟨v2, m_g1, rfl, rfl, hm⟩ := hr
    refine j_widen (k' := k + 24) (n' := n + 67) ⟨by show (k + 24) + 0 ≤ k + 24; omega, by show (n + 67) + 0 ≤ n + 67; omega⟩ ?_
    have hvv : v2 = v := hm.1.trans hv.symm
    subst hvv
    refine j_ieq (tgt := 1254) G dL_538 (by decide) ?_
    obtain ⟨hm1, hm2⟩ := hm
    subst hm2; subst hc1
    exact K _ ⟨X, U, V, Q, T, Z, Y, r0, tb, cx, kn, pn, ck, rk, comeG co w1 w2 w3, so, si, pr, co2, so2, si2, pr2, bo, S, tx, cl, wd, nu, fo, to, la, po, pt, sg, wt, pl, kd, vv, hd, rm, sp, le, mk, wo, mpn, mr, ts, tl, it, asd, ca, pa, da, sa, ra, rr, dr, sr, nC, nR, Fq, (pb_of pk7), hS, (IvP_s hP), hT, hC, hG, hA, hR, hK, ⟨comeG_r hN.1, hN.2⟩, hN2⟩
  refine j_aload_n G 1 rfl dL_500 ?_
  refine j_arg G hX hb hA0 hi e1 ⟨by decide, by decide⟩ dL_501 dL_502 dL_503 dL_504 dL_505 ?_
  refine j_arg G hX hb hA0 hi e2 ⟨by decide, by decide⟩ dL_506 dL_507 dL_508 dL_509 dL_510 ?_
  refine j_arg G hX hb hA0 hi e3 ⟨by decide, by decide⟩ dL_511 dL_512 dL_513 dL_514 dL_515 ?_
  refine j_VMr (rest := []) G (hws.trans pk8) (k9_come (xl Γ) E _ _ _ _ _ w1 w2 w3 r1 r2 r3) mw9_come mlL_55 9 rfl rfl rfl ⟨Nat.le_of_ble_eq_true rfl, Nat.le_of_ble_eq_true rfl⟩ rfl rfl (Nat.le_of_ble_eq_true rfl) dL_516 ⟨by show k + 0 ≤ 600000; omega, by show n + 0 ≤ 7302250; omega⟩ (fun r wX hr => ?_)
  obtain ⟨v, x_co1, rfl, rfl, hx⟩ := hr
  refine j_widen (k' := k + 24) (n' := n + 67) ⟨by show k + 0 ≤ k + 24; omega, by show n + 0 ≤ n + 67; omega⟩ ?_
  exact KM _ x_co1 v hx.1 hx.2 (pb_of pk8)
set_option maxHeartbeats 4000000 in
set_option maxRecDepth 100000 in
theorem arm10 {E : En} {Γ : Ctx} {A : Nat → Prop} {b0 Ls : Nat} {xs0 : Nat → Int32} {i : Int} {k n q : Nat} {ws : va_W} {xo : Nat} {mo : Nat} {xa : Nat → Nat} {ad : Nat → Nat} {qa : Nat → Nat} {qi : Nat → Nat} {tk : Nat → Option Nat} {B : Nat → Int} {bw : Int → Int} (hL : LawC E Γ A b0 Ls xs0 i k n q tk qa B) (hg : Good E xo mo xa ad qa qi tk B bw q ws) (K : ∀ ws', Good E xo mo xa ad qa qi tk B bw (q + 1) ws' → J E 4 Γ (some A) (k + 24) (n + 67) ws' 1254 (lsL i b0 xo mo) []) : J E 4 Γ (some A) k n ws 543 (lsL i b0 xo mo) [] := by
  obtain ⟨G, hX, hb, hA0, hi, hkn, hq, htk6, hBs⟩ := hL
  refine Good_e hg (fun X U V Q T Z Y r0 tb cx kn pn ck rk co so si pr co2 so2 si2 pr2 bo S tx cl wd nu fo to la po pt sg wt pl kd vv hd rm sp le mk wo mpn mr ts tl it asd ca pa da sa ra rr dr sr nC nR Fq hws hS hP hT hC hG hA hR hK hN hN2 => ?_)
  have hs := hS
  unfold IvS at hs
  obtain ⟨a0, a1, a2, a3, a4, a5, a6, a7, a8, a9, a10, a11, a12, a13, a14, a15, a16, a17, a18, a19, a20, a21, a22, a23, a24, a25, a26, a27⟩ := hs
  obtain ⟨w1, e1⟩ : ∃ w, w = sv xs0 i 1 := ⟨_, rfl⟩
  have r1 : R32 w1 := sv_r e1
  have hw : S 20 = 0 ∨ S 20 = 1 := by omega
  have hU1 : U 1 = 0 ∨ U 1 = 1 := by omega
  by_cases hz : w1 = 0
  ·
    refine j_aload_n G 1 rfl dL_543 ?_
    refine j_arg G hX hb hA0 hi e1 ⟨by decide, by decide⟩ dL_544 dL_545 dL_546 dL_547 dL_548 ?_
    refine j_if_eq (tgt := 556) G dL_549 (by decide) r1 (fun _ => ?_) (fun h => absurd hz h)
    refine j_iconst G dL_556 ?_
    refine j_VMr (rest := []) G (hws.trans pk3) (k9_wet (xl Γ) E _ _ _ _ 0 (by decide) hU1) mw9_wet mlL_59 9 rfl rfl rfl ⟨Nat.le_of_ble_eq_true rfl, Nat.le_of_ble_eq_true rfl⟩ rfl rfl (Nat.le_of_ble_eq_true rfl) dL_557 ⟨by show k + 0 ≤ 600000; omega, by show n + 0 ≤ 7302250; omega⟩ (fun r wX hr => ?_)
    obtain ⟨v, rfl, rfl, hx⟩ := hr
    refine j_widen (k' := k + 24) (n' := n + 67) ⟨by show k + 0 ≤ k + 24; omega, by show n + 0 ≤ n + 67; omega⟩ ?_
    refine j_aload_n G 2 rfl dL_560 ?_
    refine j_arg G hX hb hA0 hi e1 ⟨by decide, by decide⟩ dL_561 dL_562 dL_563 dL_564 dL_565 ?_
    refine j_if_eq (tgt := 573) G dL_566 (by decide) r1 (fun _ => ?_) (fun h => absurd hz h)
    refine j_iconst G dL_573 ?_
    have hws1 : _ := (pb_of pk3 : (_ : va_W).Perm (WL E xo mo xa ad tk B bw X (upS U 1 0) V Q T Z Y r0 tb cx kn pn ck rk co so si pr co2 so2 si2 pr2 bo S tx cl wd nu fo to la po pt sg wt pl kd vv hd rm sp le mk wo mpn mr ts tl it asd co so si pr co2 so2 si2 pr2 bo ++ WF E qa qi ca pa da sa ra rr dr sr nC nR la po pt kd vv hd rm ts tl it))
    refine j_VMr (rest := [.int (iZ v)]) G (hws1.trans pk9) (k10_wet (xl Γ) E _ _ _ 0 (by decide) hw) mw10_wet mlL_63 10 rfl rfl rfl ⟨Nat.le_of_ble_eq_true rfl, Nat.le_of_ble_eq_true rfl⟩ rfl rfl (Nat.le_of_ble_eq_true rfl) dL_574 ⟨by show (k + 24) + 0 ≤ 600000; omega, by show (n + 67) + 0 ≤ 7302250; omega⟩ (fun r wX hr => ?_)
    obtain ⟨v2, rfl, rfl, hm⟩ := hr
    refine j_widen (k' := k + 24) (n' := n + 67) ⟨by show (k + 24) + 0 ≤ k + 24; omega, by show (n + 67) + 0 ≤ n + 67; omega⟩ ?_
    have hvv : v2 = v := (by omega)
    subst hvv
    refine j_ieq (tgt := 1254) G dL_577 (by decide) ?_
    exact K _ ⟨X, upS U 1 0, V, Q, T, Z, Y, r0, tb, cx, kn, pn, ck, rk, co, so, si, pr, co2, so2, si2, pr2, bo, upS S 20 0, tx, cl, wd, nu, fo, to, la, po, pt, sg, wt, pl, kd, vv, hd, rm, sp, le, mk, wo, mpn, mr, ts, tl, it, asd, ca, pa, da, sa, ra, rr, dr, sr, nC, nR, Fq, (pb_of pk9), (by unfold IvS; (refine ⟨?_, ?_, ?_, ?_, ?_, ?_, ?_, ?_, ?_, ?_, ?_, ?_, ?_, ?_, ?_, ?_, ?_, ?_, ?_, ?_, ?_, ?_, ?_, ?_, ?_, ?_, ?_, ?_⟩ <;> first | (simp only [upS, reduceIte, Nat.reduceEqDiff, eq_self, and_true, true_and, or_true, true_or]; done) | (simp only [upS, reduceIte, Nat.reduceEqDiff, eq_self, and_true, true_and, or_true, true_or]; omega) | omega)), (IvP_s hP), hT, hC, hG, hA, hR, hK, hN, hN2⟩
  ·
    refine j_aload_n G 1 rfl dL_543 ?_
    refine j_arg G hX hb hA0 hi e1 ⟨by decide, by decide⟩ dL_544 dL_545 dL_546 dL_547 dL_548 ?_
    refine j_if_eq (tgt := 556) G dL_549 (by decide) r1 (fun h => absurd h hz) (fun _ => ?_)
    refine j_iconst G dL_552 ?_
    refine j_goto (tgt := 557) G dL_553 (by decide) ?_
    refine j_VMr (rest := []) G (hws.trans pk3) (k9_wet (xl Γ) E _ _ _ _ 1 (by decide) hU1) mw9_wet mlL_59 9 rfl rfl rfl ⟨Nat.le_of_ble_eq_true rfl, Nat.le_of_ble_eq_true rfl⟩ rfl rfl (Nat.le_of_ble_eq_true rfl) dL_557 ⟨by show k + 0 ≤ 600000; omega, by show n + 0 ≤ 7302250; omega⟩ (fun r wX hr => ?_)
    obtain ⟨v, rfl, rfl, hx⟩ := hr
    refine j_widen (k' := k + 24) (n' := n + 67) ⟨by show k + 0 ≤ k + 24; omega, by show n + 0 ≤ n + 67; omega⟩ ?_
    refine j_aload_n G 2 rfl dL_560 ?_
    refine j_arg G hX hb hA0 hi e1 ⟨by decide, by decide⟩ dL_561 dL_562 dL_563 dL_564 dL_565 ?_
    refine j_if_eq (tgt := 573) G dL_566 (by decide) r1 (fun h => absurd h hz) (fun _ => ?_)
    refine j_iconst G dL_569 ?_
    refine j_goto (tgt := 574) G dL_570 (by decide) ?_
    have hws1 : _ := (pb_of pk3 : (_ : va_W).Perm (WL E xo mo xa ad tk B bw X (upS U 1 1) V Q T Z Y r0 tb cx kn pn ck rk co so si pr co2 so2 si2 pr2 bo S tx cl wd nu fo to la po pt sg wt pl kd vv hd rm sp le mk wo mpn mr ts tl it asd co so si pr co2 so2 si2 pr2 bo ++ WF E qa qi ca pa da sa ra rr dr sr nC nR la po pt kd vv hd rm ts tl it))
    refine j_VMr (rest := [.int (iZ v)]) G (hws1.trans pk9) (k10_wet (xl Γ) E _ _ _ 1 (by decide) hw) mw10_wet mlL_63 10 rfl rfl rfl ⟨Nat.le_of_ble_eq_true rfl, Nat.le_of_ble_eq_true rfl⟩ rfl rfl (Nat.le_of_ble_eq_true rfl) dL_574 ⟨by show (k + 24) + 0 ≤ 600000; omega, by show (n + 67) + 0 ≤ 7302250; omega⟩ (fun r wX hr => ?_)
    obtain ⟨v2, rfl, rfl, hm⟩ := hr
    refine j_widen (k' := k + 24) (n' := n + 67) ⟨by show (k + 24) + 0 ≤ k + 24; omega, by show (n + 67) + 0 ≤ n + 67; omega⟩ ?_
    have hvv : v2 = v := (by omega)
    subst hvv
    refine j_ieq (tgt := 1254) G dL_577 (by decide) ?_
    exact K _ ⟨X, upS U 1 1, V, Q, T, Z, Y, r0, tb, cx, kn, pn, ck, rk, co, so, si, pr, co2, so2, si2, pr2, bo, upS S 20 1, tx, cl, wd, nu, fo, to, la, po, pt, sg, wt, pl, kd, vv, hd, rm, sp, le, mk, wo, mpn, mr, ts, tl, it, asd, ca, pa, da, sa, ra, rr, dr, sr, nC, nR, Fq, (pb_of pk9), (by unfold IvS; (refine ⟨?_, ?_, ?_, ?_, ?_, ?_, ?_, ?_, ?_, ?_, ?_, ?_, ?_, ?_, ?_, ?_, ?_, ?_, ?_, ?_, ?_, ?_, ?_, ?_, ?_, ?_, ?_, ?_⟩ <;> first | (simp only [upS, reduceIte, Nat.reduceEqDiff, eq_self, and_true, true_and, or_true, true_or]; done) | (simp only [upS, reduceIte, Nat.reduceEqDiff, eq_self, and_true, true_and, or_true, true_or]; omega) | omega)), (IvP_s hP), hT, hC, hG, hA, hR, hK, hN, hN2⟩
