set_option maxHeartbeats 4000000 in
set_option maxRecDepth 100000 in
theorem arm4 {E : En} {Γ : Ctx} {A : Nat → Prop} {b0 Ls : Nat} {xs0 : Nat → Int32} {i : Int} {k n q : Nat} {ws : va_W} {xo : Nat} {mo : Nat} {xa : Nat → Nat} {ad : Nat → Nat} {qa : Nat → Nat} {qi : Nat → Nat} {tk : Nat → Option Nat} {B : Nat → Int} {bw : Int → Int} (hL : LawC E Γ A b0 Ls xs0 i k n q tk qa B) (hg : Good E xo mo xa ad qa qi tk B bw q ws) (K : ∀ ws', Good E xo mo xa ad qa qi tk B bw (q + 1) ws' → J E 4 Γ (some A) (k + 24) (n + 67) ws' 1254 (lsL i b0 xo mo) []) : J E 4 Γ (some A) k n ws 264 (lsL i b0 xo mo) [] := by
  obtain ⟨G, hX, hb, hA0, hi, hkn, hq, htk6, hBs⟩ := hL
  refine Good_e hg (fun X U V Q T Z Y r0 tb cx kn pn ck rk co so si pr co2 so2 si2 pr2 bo S tx cl wd nu fo to la po pt sg wt pl kd vv hd rm sp le mk wo mpn mr ts tl it asd ca pa da sa ra rr dr sr nC nR Fq hws hS hP hT hC hG hA hR hK hN hN2 => ?_)
  have hs := hS
  unfold IvS at hs
  obtain ⟨a0, a1, a2, a3, a4, a5, a6, a7, a8, a9, a10, a11, a12, a13, a14, a15, a16, a17, a18, a19, a20, a21, a22, a23, a24, a25, a26, a27⟩ := hs
  obtain ⟨w1, e1⟩ : ∃ w, w = sv xs0 i 1 := ⟨_, rfl⟩
  have r1 : R32 w1 := sv_r e1
  obtain ⟨w2, e2⟩ : ∃ w, w = sv xs0 i 2 := ⟨_, rfl⟩
  have r2 : R32 w2 := sv_r e2
  have hth : -1 ≤ S 1 ∧ S 1 ≤ 3 := by omega
  have hms : 0 ≤ S 1 → MSum wd nu fo to sg cl Fq (S 1) := IvC_ms hC (by omega)
  have hwm : 0 ≤ S 1 → wfC (cM la po (S 1)) (pM pt (S 1)) := IvC_wm hC (by omega)
  have hw : S 20 = 0 ∨ S 20 = 1 := by omega
  have hpl := hA.1
  have hmk := hA.2
  have hsg := hG.1
  have hla := hG.2.2.1
  have hco := hN.1
  have KM : ∀ (ws1 : va_W) (v : Int), (v = (if ((0 ≤ w1 ∧ w1 ≤ 1) ∧ (0 ≤ w2 ∧ w2 ≤ 11) ∧ ¬ S 1 < 0) then smM wd nu cl Fq (S 1) (if w1 = 0 then 3 else 7) w2 (S 20) else -1)) → ws1.Perm (WL E xo mo xa ad tk B bw X U V Q T Z Y r0 tb cx kn pn ck rk co so si pr co2 so2 si2 pr2 bo S tx cl wd nu fo to la po pt sg wt pl kd vv hd rm sp le mk wo mpn mr ts tl it asd co so si pr co2 so2 si2 pr2 bo ++ WF E qa qi ca pa da sa ra rr dr sr nC nR la po pt kd vv hd rm ts tl it) → J E 4 Γ (some A) (k + 24) (n + 67) ws1 278 (lsL i b0 xo mo) [.int (iZ v)] := by
    intro ws1 v hv hws1
    refine j_aload_n G 2 rfl dL_278 ?_
    refine j_arg G hX hb hA0 hi e1 ⟨by decide, by decide⟩ dL_279 dL_280 dL_281 dL_282 dL_283 ?_
    refine j_arg G hX hb hA0 hi e2 ⟨by decide, by decide⟩ dL_284 dL_285 dL_286 dL_287 dL_288 ?_
    refine j_VMr (rest := [.int (iZ v)]) G (hws1.trans pk10) (k10_told (xl Γ) E _ _ _ _ _ _ _ _ _ _ Fq w1 w2 r1 r2 hth hms hsg hpl hw) mw10_told mlL_35 10 rfl rfl rfl ⟨Nat.le_of_ble_eq_true rfl, Nat.le_of_ble_eq_true rfl⟩ rfl rfl (Nat.le_of_ble_eq_true rfl) dL_289 ⟨by show (k + 24) + 0 ≤ 600000; omega, by show (n + 67) + 0 ≤ 7302250; omega⟩ (fun r wX hr => ?_)
    obtain ⟨v2, m_pl1, rfl, rfl, hm⟩ := hr
    refine j_widen (k' := k + 24) (n' := n + 67) ⟨by show (k + 24) + 0 ≤ k + 24; omega, by show (n + 67) + 0 ≤ n + 67; omega⟩ ?_
    have hvv : v2 = v := by
      rw [hv]
      rcases hm with ⟨c, h, _⟩ | ⟨c, h, _⟩
      · rw [if_pos c]; exact h
      · rw [if_neg c]; exact h
    subst hvv
    refine j_ieq (tgt := 1254) G dL_292 (by decide) ?_
    exact K _ ⟨X, U, V, Q, T, Z, Y, r0, tb, cx, kn, pn, ck, rk, co, so, si, pr, co2, so2, si2, pr2, bo, S, tx, cl, wd, nu, fo, to, la, po, pt, sg, wt, m_pl1, kd, vv, hd, rm, sp, le, mk, wo, mpn, mr, ts, tl, it, asd, ca, pa, da, sa, ra, rr, dr, sr, nC, nR, Fq, (pb_of pk10), hS, (IvP_s hP), hT, hC, hG, ⟨hm.elim (fun z => z.2.2) (fun z => z.2.2), hmk⟩, hR, hK, hN, hN2⟩
  refine j_aload_n G 1 rfl dL_264 ?_
  refine j_arg G hX hb hA0 hi e1 ⟨by decide, by decide⟩ dL_265 dL_266 dL_267 dL_268 dL_269 ?_
  refine j_arg G hX hb hA0 hi e2 ⟨by decide, by decide⟩ dL_270 dL_271 dL_272 dL_273 dL_274 ?_
  by_cases hcl : S 1 < 0
  ·
    refine j_VPr (rest := []) G (hws.trans pk3) (k9_toldn (xl Γ) E _ _ _ _ w1 w2 r1 r2 (by omega) (by omega)) mw9_told mlL_32 9 rfl rfl rfl ⟨Nat.le_of_ble_eq_true rfl, Nat.le_of_ble_eq_true rfl⟩ rfl rfl (Nat.le_of_ble_eq_true rfl) dL_275 ⟨by show k ≤ 600000; omega, by show n ≤ 7302250; omega⟩ (fun r hr => ?_)
    obtain ⟨v, rfl, hx⟩ := hr
    refine j_widen (k' := k + 24) (n' := n + 67) ⟨by omega, by omega⟩ ?_
    have hy : v = (if ((0 ≤ w1 ∧ w1 ≤ 1) ∧ (0 ≤ w2 ∧ w2 ≤ 11) ∧ ¬ S 1 < 0) then smM wd nu cl Fq (S 1) (if w1 = 0 then 3 else 7) w2 (S 20) else -1) := by
      rw [hx, if_neg (fun z => z.2.2 hcl)]
    exact KM _ v hy hws
  ·
    have ht0 : 0 ≤ S 1 := by omega
    obtain ⟨t, ht⟩ := Int.eq_ofNat_of_zero_le ht0
    have htn : t < nC := by omega
    obtain ⟨hc1, hc2, hc3, hc4, hc5⟩ := hC t htn
    have hu3e : U 3 = S 1 := by omega
    have hu3 : 0 ≤ U 3 ∧ U 3 < X 3 ∧ X 3 ≤ 4 := by omega
    have hck : ck (U 3).toNat = some (ca t) := by rw [show (U 3).toNat = t by omega]; exact hc1
    have hU1 : U 1 = 0 ∨ U 1 = 1 := by omega
    have hdr : ∀ j, 0 ≤ j → j < 24 → 0 ≤ dr t j ∧ dr t j ≤ 11988 := fun j h1 h2 => by rw [(hc5 j h1 h2).1]; exact smM_r hc2 _ _ _
    have hDW := dw_of (hms ht0) ht hc5 a3 a17
    have hu2 : 0 ≤ U 2 ∧ U 2 ≤ 40 := by omega
    refine j_VPr (rest := []) G ((hws.trans (op1 htn)).trans pk4) (k9_toldc (xl Γ) E _ _ _ _ _ _ _ _ _ _ _ _ _ w1 w2 r1 r2 hu3 hck hc3 hU1 hdr) mw9_told mlL_32 9 rfl rfl rfl ⟨Nat.le_of_ble_eq_true rfl, Nat.le_of_ble_eq_true rfl⟩ rfl rfl (Nat.le_of_ble_eq_true rfl) dL_275 ⟨by show k ≤ 600000; omega, by show n ≤ 7302250; omega⟩ (fun r hr => ?_)
    obtain ⟨v, rfl, hx⟩ := hr
    refine j_widen (k' := k + 24) (n' := n + 67) ⟨by omega, by omega⟩ ?_
    try rw [← ht] at hx
    have hy : v = (if ((0 ≤ w1 ∧ w1 ≤ 1) ∧ (0 ≤ w2 ∧ w2 ≤ 11) ∧ ¬ S 1 < 0) then smM wd nu cl Fq (S 1) (if w1 = 0 then 3 else 7) w2 (S 20) else -1) := by
      by_cases c : (0 ≤ w1 ∧ w1 ≤ 1) ∧ (0 ≤ w2 ∧ w2 ≤ 11)
      · have cc : (0 ≤ w1 ∧ w1 ≤ 1) ∧ (0 ≤ w2 ∧ w2 ≤ 11) ∧ ¬ S 1 < 0 := ⟨c.1, c.2, hcl⟩
        rw [hx, if_pos c, if_pos cc]
        obtain ⟨d1, d2, -, -⟩ := hDW w2 c.2.1 c.2.2
        by_cases z : w1 = 0
        · rw [if_pos z, if_pos z, d1]
        · rw [if_neg z, if_neg z, d2]
      · rw [hx, if_neg c, if_neg (fun z => c ⟨z.1, z.2.1⟩)]
    exact KM _ v hy hws
set_option maxHeartbeats 4000000 in
set_option maxRecDepth 100000 in
theorem arm5 {E : En} {Γ : Ctx} {A : Nat → Prop} {b0 Ls : Nat} {xs0 : Nat → Int32} {i : Int} {k n q : Nat} {ws : va_W} {xo : Nat} {mo : Nat} {xa : Nat → Nat} {ad : Nat → Nat} {qa : Nat → Nat} {qi : Nat → Nat} {tk : Nat → Option Nat} {B : Nat → Int} {bw : Int → Int} (hL : LawC E Γ A b0 Ls xs0 i k n q tk qa B) (hg : Good E xo mo xa ad qa qi tk B bw q ws) (K : ∀ ws', Good E xo mo xa ad qa qi tk B bw (q + 1) ws' → J E 4 Γ (some A) (k + 24) (n + 67) ws' 1254 (lsL i b0 xo mo) []) : J E 4 Γ (some A) k n ws 297 (lsL i b0 xo mo) [] := by
  obtain ⟨G, hX, hb, hA0, hi, hkn, hq, htk6, hBs⟩ := hL
  refine Good_e hg (fun X U V Q T Z Y r0 tb cx kn pn ck rk co so si pr co2 so2 si2 pr2 bo S tx cl wd nu fo to la po pt sg wt pl kd vv hd rm sp le mk wo mpn mr ts tl it asd ca pa da sa ra rr dr sr nC nR Fq hws hS hP hT hC hG hA hR hK hN hN2 => ?_)
  have hs := hS
  unfold IvS at hs
  obtain ⟨a0, a1, a2, a3, a4, a5, a6, a7, a8, a9, a10, a11, a12, a13, a14, a15, a16, a17, a18, a19, a20, a21, a22, a23, a24, a25, a26, a27⟩ := hs
  obtain ⟨w1, e1⟩ : ∃ w, w = sv xs0 i 1 := ⟨_, rfl⟩
  have r1 : R32 w1 := sv_r e1
  obtain ⟨w2, e2⟩ : ∃ w, w = sv xs0 i 2 := ⟨_, rfl⟩
  have r2 : R32 w2 := sv_r e2
  obtain ⟨w3, e3⟩ : ∃ w, w = sv xs0 i 3 := ⟨_, rfl⟩
  have r3 : R32 w3 := sv_r e3
  obtain ⟨w4, e4⟩ : ∃ w, w = sv xs0 i 4 := ⟨_, rfl⟩
  have r4 : R32 w4 := sv_r e4
  obtain ⟨w5, e5⟩ : ∃ w, w = sv xs0 i 5 := ⟨_, rfl⟩
  have r5 : R32 w5 := sv_r e5
  have hth : -1 ≤ S 1 ∧ S 1 ≤ 3 := by omega
  have hms : 0 ≤ S 1 → MSum wd nu fo to sg cl Fq (S 1) := IvC_ms hC (by omega)
  have hwm : 0 ≤ S 1 → wfC (cM la po (S 1)) (pM pt (S 1)) := IvC_wm hC (by omega)
  have hw : S 20 = 0 ∨ S 20 = 1 := by omega
  have hpl := hA.1
  have hmk := hA.2
  have hsg := hG.1
  have hla := hG.2.2.1
  have hco := hN.1
  have KM : ∀ (ws1 : va_W) (v : Int), ((pullOk (cM la po (S 1)) (S 1) w1 w2 w3 w4 w5 ∧ v = pulM (cM la po (S 1)) (pM pt (S 1)) w1 (la (9 * S 1 + 2) * (w3 - w4) + w5) (smM wd nu cl Fq (S 1) 3 w2 (S 20))) ∨ (¬ pullOk (cM la po (S 1)) (S 1) w1 w2 w3 w4 w5 ∧ v = -9223372036854775808)) → ws1.Perm (WL E xo mo xa ad tk B bw X U V Q T Z Y r0 tb cx kn pn ck rk co so si pr co2 so2 si2 pr2 bo S tx cl wd nu fo to la po pt sg wt pl kd vv hd rm sp le mk wo mpn mr ts tl it asd co so si pr co2 so2 si2 pr2 bo ++ WF E qa qi ca pa da sa ra rr dr sr nC nR la po pt kd vv hd rm ts tl it) → J E 4 Γ (some A) (k + 24) (n + 67) ws1 326 (lsL i b0 xo mo) [.long (lZ v)] := by
    intro ws1 v hv hws1
    refine j_aload_n G 2 rfl dL_326 ?_
    refine j_arg G hX hb hA0 hi e1 ⟨by decide, by decide⟩ dL_327 dL_328 dL_329 dL_330 dL_331 ?_
    refine j_arg G hX hb hA0 hi e2 ⟨by decide, by decide⟩ dL_332 dL_333 dL_334 dL_335 dL_336 ?_
    refine j_arg G hX hb hA0 hi e3 ⟨by decide, by decide⟩ dL_337 dL_338 dL_339 dL_340 dL_341 ?_
    refine j_arg G hX hb hA0 hi e4 ⟨by decide, by decide⟩ dL_342 dL_343 dL_344 dL_345 dL_346 ?_
    refine j_arg G hX hb hA0 hi e5 ⟨by decide, by decide⟩ dL_347 dL_348 dL_349 dL_350 dL_351 ?_
    refine j_VMr (rest := [.long (lZ v)]) G (hws1.trans pk11) (k10_pull (xl Γ) E _ _ _ _ _ _ _ _ _ _ _ _ _ Fq w1 w2 w3 w4 w5 r1 r2 r3 r4 r5 hth hms hwm hsg hpl hw) mw10_pull mlL_40 10 rfl rfl rfl ⟨Nat.le_of_ble_eq_true rfl, Nat.le_of_ble_eq_true rfl⟩ rfl rfl (Nat.le_of_ble_eq_true rfl) dL_352 ⟨by show (k + 24) + 0 ≤ 600000; omega, by show (n + 67) + 0 ≤ 7302250; omega⟩ (fun r wX hr => ?_)
    obtain ⟨v2, m_pl1, rfl, rfl, hm⟩ := hr
    refine j_widen (k' := k + 24) (n' := n + 67) ⟨by show (k + 24) + 0 ≤ k + 24; omega, by show (n + 67) + 0 ≤ n + 67; omega⟩ ?_
    have hvv : v2 = v := by
      rcases hv with ⟨c, h⟩ | ⟨c, h⟩ <;> rcases hm with ⟨d, g, _⟩ | ⟨d, g, _⟩
      · rw [h, g]
      · exact absurd c d
      · exact absurd d c
      · rw [h, g]
    subst hvv
    refine j_leq (tgt := 1254) G dL_355 dL_356 (by decide) ?_
    exact K _ ⟨X, U, V, Q, T, Z, Y, r0, tb, cx, kn, pn, ck, rk, co, so, si, pr, co2, so2, si2, pr2, bo, S, tx, cl, wd, nu, fo, to, la, po, pt, sg, wt, m_pl1, kd, vv, hd, rm, sp, le, mk, wo, mpn, mr, ts, tl, it, asd, ca, pa, da, sa, ra, rr, dr, sr, nC, nR, Fq, (pb_of pk11), hS, (IvP_s hP), hT, hC, hG, ⟨hm.elim (fun z => z.2.2) (fun z => z.2.2), hmk⟩, hR, hK, hN, hN2⟩
  refine j_aload_n G 1 rfl dL_297 ?_
  refine j_arg G hX hb hA0 hi e1 ⟨by decide, by decide⟩ dL_298 dL_299 dL_300 dL_301 dL_302 ?_
  refine j_arg G hX hb hA0 hi e2 ⟨by decide, by decide⟩ dL_303 dL_304 dL_305 dL_306 dL_307 ?_
  refine j_arg G hX hb hA0 hi e3 ⟨by decide, by decide⟩ dL_308 dL_309 dL_310 dL_311 dL_312 ?_
  refine j_arg G hX hb hA0 hi e4 ⟨by decide, by decide⟩ dL_313 dL_314 dL_315 dL_316 dL_317 ?_
  refine j_arg G hX hb hA0 hi e5 ⟨by decide, by decide⟩ dL_318 dL_319 dL_320 dL_321 dL_322 ?_
  by_cases hcl : S 1 < 0
  ·
    refine j_VPr (rest := []) G (hws.trans pk3) (k9_pulln (xl Γ) E _ _ _ _ w1 w2 w3 w4 w5 r1 r2 r3 r4 r5 (by omega) (by omega)) mw9_pull mlL_36 9 rfl rfl rfl ⟨Nat.le_of_ble_eq_true rfl, Nat.le_of_ble_eq_true rfl⟩ rfl rfl (Nat.le_of_ble_eq_true rfl) dL_323 ⟨by show k ≤ 600000; omega, by show n ≤ 7302250; omega⟩ (fun r hr => ?_)
    obtain ⟨v, rfl, hx⟩ := hr
    refine j_widen (k' := k + 24) (n' := n + 67) ⟨by omega, by omega⟩ ?_
    have hy : (pullOk (cM la po (S 1)) (S 1) w1 w2 w3 w4 w5 ∧ v = pulM (cM la po (S 1)) (pM pt (S 1)) w1 (la (9 * S 1 + 2) * (w3 - w4) + w5) (smM wd nu cl Fq (S 1) 3 w2 (S 20))) ∨ (¬ pullOk (cM la po (S 1)) (S 1) w1 w2 w3 w4 w5 ∧ v = -9223372036854775808) := by
      exact Or.inr ⟨fun z => z.1 hcl, hx⟩
    exact KM _ v hy hws
  ·
    have ht0 : 0 ≤ S 1 := by omega
    obtain ⟨t, ht⟩ := Int.eq_ofNat_of_zero_le ht0
    have htn : t < nC := by omega
    obtain ⟨hc1, hc2, hc3, hc4, hc5⟩ := hC t htn
    have hu3e : U 3 = S 1 := by omega
    have hu3 : 0 ≤ U 3 ∧ U 3 < X 3 ∧ X 3 ≤ 4 := by omega
    have hck : ck (U 3).toNat = some (ca t) := by rw [show (U 3).toNat = t by omega]; exact hc1
    have hU1 : U 1 = 0 ∨ U 1 = 1 := by omega
    have hdr : ∀ j, 0 ≤ j → j < 24 → 0 ≤ dr t j ∧ dr t j ≤ 11988 := fun j h1 h2 => by rw [(hc5 j h1 h2).1]; exact smM_r hc2 _ _ _
    have hDW := dw_of (hms ht0) ht hc5 a3 a17
    have hu2 : 0 ≤ U 2 ∧ U 2 ≤ 40 := by omega
    refine j_VPr (rest := []) G ((hws.trans (op1 htn)).trans pk4) (k9_pullc (xl Γ) E _ _ _ _ _ _ _ _ _ _ _ _ _ w1 w2 w3 w4 w5 r1 r2 r3 r4 r5 hu3 hck hc3 hU1 hdr) mw9_pull mlL_36 9 rfl rfl rfl ⟨Nat.le_of_ble_eq_true rfl, Nat.le_of_ble_eq_true rfl⟩ rfl rfl (Nat.le_of_ble_eq_true rfl) dL_323 ⟨by show k ≤ 600000; omega, by show n ≤ 7302250; omega⟩ (fun r hr => ?_)
    obtain ⟨v, rfl, hx⟩ := hr
    refine j_widen (k' := k + 24) (n' := n + 67) ⟨by omega, by omega⟩ ?_
    try rw [← ht] at hx
    have hy : (pullOk (cM la po (S 1)) (S 1) w1 w2 w3 w4 w5 ∧ v = pulM (cM la po (S 1)) (pM pt (S 1)) w1 (la (9 * S 1 + 2) * (w3 - w4) + w5) (smM wd nu cl Fq (S 1) 3 w2 (S 20))) ∨ (¬ pullOk (cM la po (S 1)) (S 1) w1 w2 w3 w4 w5 ∧ v = -9223372036854775808) := by
      rw [hu3e] at hx
      rcases hx with ⟨c, h⟩ | ⟨c, h⟩
      · rw [(hDW w2 c.2.2.1.1 c.2.2.1.2).1] at h
        exact Or.inl ⟨c, h⟩
      · exact Or.inr ⟨c, h⟩
    exact KM _ v hy hws
set_option maxHeartbeats 4000000 in
set_option maxRecDepth 100000 in
theorem arm6 {E : En} {Γ : Ctx} {A : Nat → Prop} {b0 Ls : Nat} {xs0 : Nat → Int32} {i : Int} {k n q : Nat} {ws : va_W} {xo : Nat} {mo : Nat} {xa : Nat → Nat} {ad : Nat → Nat} {qa : Nat → Nat} {qi : Nat → Nat} {tk : Nat → Option Nat} {B : Nat → Int} {bw : Int → Int} (hL : LawC E Γ A b0 Ls xs0 i k n q tk qa B) (hg : Good E xo mo xa ad qa qi tk B bw q ws) (K : ∀ ws', Good E xo mo xa ad qa qi tk B bw (q + 1) ws' → J E 4 Γ (some A) (k + 24) (n + 67) ws' 1254 (lsL i b0 xo mo) []) : J E 4 Γ (some A) k n ws 361 (lsL i b0 xo mo) [] := by
  obtain ⟨G, hX, hb, hA0, hi, hkn, hq, htk6, hBs⟩ := hL
  refine Good_e hg (fun X U V Q T Z Y r0 tb cx kn pn ck rk co so si pr co2 so2 si2 pr2 bo S tx cl wd nu fo to la po pt sg wt pl kd vv hd rm sp le mk wo mpn mr ts tl it asd ca pa da sa ra rr dr sr nC nR Fq hws hS hP hT hC hG hA hR hK hN hN2 => ?_)
  have hs := hS
  unfold IvS at hs
  obtain ⟨a0, a1, a2, a3, a4, a5, a6, a7, a8, a9, a10, a11, a12, a13, a14, a15, a16, a17, a18, a19, a20, a21, a22, a23, a24, a25, a26, a27⟩ := hs
  obtain ⟨w1, e1⟩ : ∃ w, w = sv xs0 i 1 := ⟨_, rfl⟩
  have r1 : R32 w1 := sv_r e1
  obtain ⟨w2, e2⟩ : ∃ w, w = sv xs0 i 2 := ⟨_, rfl⟩
  have r2 : R32 w2 := sv_r e2
  obtain ⟨w3, e3⟩ : ∃ w, w = sv xs0 i 3 := ⟨_, rfl⟩
  have r3 : R32 w3 := sv_r e3
  obtain ⟨w4, e4⟩ : ∃ w, w = sv xs0 i 4 := ⟨_, rfl⟩
  have r4 : R32 w4 := sv_r e4
  have hth : -1 ≤ S 1 ∧ S 1 ≤ 3 := by omega
  have hms : 0 ≤ S 1 → MSum wd nu fo to sg cl Fq (S 1) := IvC_ms hC (by omega)
  have hwm : 0 ≤ S 1 → wfC (cM la po (S 1)) (pM pt (S 1)) := IvC_wm hC (by omega)
  have hw : S 20 = 0 ∨ S 20 = 1 := by omega
  have hpl := hA.1
  have hmk := hA.2
  have hsg := hG.1
  have hla := hG.2.2.1
  have hco := hN.1
  have KM : ∀ (ws1 : va_W) (v : Int), (v = (if (0 ≤ w1 ∧ w1 ≤ 11) ∧ ¬ S 1 < 0 then (if ((0 ≤ w2 ∧ w2 ≤ 6) ∧ (0 ≤ w3 ∧ w3 ≤ 6)) ∧ (0 ≤ w4 ∧ w4 ≤ 99) then stopM (cM la po (S 1)) (pM pt (S 1)) (la (9 * S 1 + 2) * (w2 - w3) + w4) (smM wd nu cl Fq (S 1) 3 w1 (S 20)) else -2) else -1)) → ws1.Perm (WL E xo mo xa ad tk B bw X U V Q T Z Y r0 tb cx kn pn ck rk co so si pr co2 so2 si2 pr2 bo S tx cl wd nu fo to la po pt sg wt pl kd vv hd rm sp le mk wo mpn mr ts tl it asd co so si pr co2 so2 si2 pr2 bo ++ WF E qa qi ca pa da sa ra rr dr sr nC nR la po pt kd vv hd rm ts tl it) → J E 4 Γ (some A) (k + 24) (n + 67) ws1 385 (lsL i b0 xo mo) [.int (iZ v)] := by
    intro ws1 v hv hws1
    refine j_aload_n G 2 rfl dL_385 ?_
    refine j_arg G hX hb hA0 hi e1 ⟨by decide, by decide⟩ dL_386 dL_387 dL_388 dL_389 dL_390 ?_
    refine j_arg G hX hb hA0 hi e2 ⟨by decide, by decide⟩ dL_391 dL_392 dL_393 dL_394 dL_395 ?_
    refine j_arg G hX hb hA0 hi e3 ⟨by decide, by decide⟩ dL_396 dL_397 dL_398 dL_399 dL_400 ?_
    refine j_arg G hX hb hA0 hi e4 ⟨by decide, by decide⟩ dL_401 dL_402 dL_403 dL_404 dL_405 ?_
    refine j_VMr (rest := [.int (iZ v)]) G (hws1.trans pk11) (k10_stops (xl Γ) E _ _ _ _ _ _ _ _ _ _ _ _ _ Fq w1 w2 w3 w4 r1 r2 r3 r4 hth hms hwm hsg hpl hw) mw10_stops mlL_45 10 rfl rfl rfl ⟨Nat.le_of_ble_eq_true rfl, Nat.le_of_ble_eq_true rfl⟩ rfl rfl (Nat.le_of_ble_eq_true rfl) dL_406 ⟨by show (k + 24) + 0 ≤ 600000; omega, by show (n + 67) + 0 ≤ 7302250; omega⟩ (fun r wX hr => ?_)
    obtain ⟨v2, m_pl1, rfl, rfl, hm⟩ := hr
    refine j_widen (k' := k + 24) (n' := n + 67) ⟨by show (k + 24) + 0 ≤ k + 24; omega, by show (n + 67) + 0 ≤ n + 67; omega⟩ ?_
    have hvv : v2 = v := hm.1.trans hv.symm
    subst hvv
    refine j_ieq (tgt := 1254) G dL_409 (by decide) ?_
    exact K _ ⟨X, U, V, Q, T, Z, Y, r0, tb, cx, kn, pn, ck, rk, co, so, si, pr, co2, so2, si2, pr2, bo, S, tx, cl, wd, nu, fo, to, la, po, pt, sg, wt, m_pl1, kd, vv, hd, rm, sp, le, mk, wo, mpn, mr, ts, tl, it, asd, ca, pa, da, sa, ra, rr, dr, sr, nC, nR, Fq, (pb_of pk11), hS, (IvP_s hP), hT, hC, hG, ⟨hm.2, hmk⟩, hR, hK, hN, hN2⟩
  refine j_aload_n G 1 rfl dL_361 ?_
  refine j_arg G hX hb hA0 hi e1 ⟨by decide, by decide⟩ dL_362 dL_363 dL_364 dL_365 dL_366 ?_
  refine j_arg G hX hb hA0 hi e2 ⟨by decide, by decide⟩ dL_367 dL_368 dL_369 dL_370 dL_371 ?_
  refine j_arg G hX hb hA0 hi e3 ⟨by decide, by decide⟩ dL_372 dL_373 dL_374 dL_375 dL_376 ?_
  refine j_arg G hX hb hA0 hi e4 ⟨by decide, by decide⟩ dL_377 dL_378 dL_379 dL_380 dL_381 ?_
  by_cases hcl : S 1 < 0
  ·
    refine j_VPr (rest := []) G (hws.trans pk3) (k9_stopsn (xl Γ) E _ _ _ _ w1 w2 w3 w4 r1 r2 r3 r4 (by omega) (by omega)) mw9_stops mlL_41 9 rfl rfl rfl ⟨Nat.le_of_ble_eq_true rfl, Nat.le_of_ble_eq_true rfl⟩ rfl rfl (Nat.le_of_ble_eq_true rfl) dL_382 ⟨by show k ≤ 600000; omega, by show n ≤ 7302250; omega⟩ (fun r hr => ?_)
    obtain ⟨v, rfl, hx⟩ := hr
    refine j_widen (k' := k + 24) (n' := n + 67) ⟨by omega, by omega⟩ ?_
    have hy : v = (if (0 ≤ w1 ∧ w1 ≤ 11) ∧ ¬ S 1 < 0 then (if ((0 ≤ w2 ∧ w2 ≤ 6) ∧ (0 ≤ w3 ∧ w3 ≤ 6)) ∧ (0 ≤ w4 ∧ w4 ≤ 99) then stopM (cM la po (S 1)) (pM pt (S 1)) (la (9 * S 1 + 2) * (w2 - w3) + w4) (smM wd nu cl Fq (S 1) 3 w1 (S 20)) else -2) else -1) := by
      rw [hx, if_neg (fun z => z.2 hcl)]
    exact KM _ v hy hws
  ·
    have ht0 : 0 ≤ S 1 := by omega
    obtain ⟨t, ht⟩ := Int.eq_ofNat_of_zero_le ht0
    have htn : t < nC := by omega
    obtain ⟨hc1, hc2, hc3, hc4, hc5⟩ := hC t htn
    have hu3e : U 3 = S 1 := by omega
    have hu3 : 0 ≤ U 3 ∧ U 3 < X 3 ∧ X 3 ≤ 4 := by omega
    have hck : ck (U 3).toNat = some (ca t) := by rw [show (U 3).toNat = t by omega]; exact hc1
    have hU1 : U 1 = 0 ∨ U 1 = 1 := by omega
    have hdr : ∀ j, 0 ≤ j → j < 24 → 0 ≤ dr t j ∧ dr t j ≤ 11988 := fun j h1 h2 => by rw [(hc5 j h1 h2).1]; exact smM_r hc2 _ _ _
    have hDW := dw_of (hms ht0) ht hc5 a3 a17
    have hu2 : 0 ≤ U 2 ∧ U 2 ≤ 40 := by omega
    refine j_VPr (rest := []) G ((hws.trans (op1 htn)).trans pk4) (k9_stopsc (xl Γ) E _ _ _ _ _ _ _ _ _ _ _ _ _ w1 w2 w3 w4 r1 r2 r3 r4 hu3 hck hc3 hU1 hdr) mw9_stops mlL_41 9 rfl rfl rfl ⟨Nat.le_of_ble_eq_true rfl, Nat.le_of_ble_eq_true rfl⟩ rfl rfl (Nat.le_of_ble_eq_true rfl) dL_382 ⟨by show k ≤ 600000; omega, by show n ≤ 7302250; omega⟩ (fun r hr => ?_)
    obtain ⟨v, rfl, hx⟩ := hr
    refine j_widen (k' := k + 24) (n' := n + 67) ⟨by omega, by omega⟩ ?_
    try rw [← ht] at hx
    have hy : v = (if (0 ≤ w1 ∧ w1 ≤ 11) ∧ ¬ S 1 < 0 then (if ((0 ≤ w2 ∧ w2 ≤ 6) ∧ (0 ≤ w3 ∧ w3 ≤ 6)) ∧ (0 ≤ w4 ∧ w4 ≤ 99) then stopM (cM la po (S 1)) (pM pt (S 1)) (la (9 * S 1 + 2) * (w2 - w3) + w4) (smM wd nu cl Fq (S 1) 3 w1 (S 20)) else -2) else -1) := by
      by_cases c : 0 ≤ w1 ∧ w1 ≤ 11
      · have cc : (0 ≤ w1 ∧ w1 ≤ 11) ∧ ¬ S 1 < 0 := ⟨c, hcl⟩
        rw [(hDW w1 c.1 c.2).1] at hx
        exact (hx.trans (if_pos c)).trans (if_pos cc).symm
      · rw [hx, if_neg c, if_neg (fun z => c z.1)]
    exact KM _ v hy hws
set_option maxHeartbeats 4000000 in
set_option maxRecDepth 100000 in
theorem arm7 {E : En} {Γ : Ctx} {A : Nat → Prop} {b0 Ls : Nat} {xs0 : Nat → Int32} {i : Int} {k n q : Nat} {ws : va_W} {xo : Nat} {mo : Nat} {xa : Nat → Nat} {ad : Nat → Nat} {qa : Nat → Nat} {qi : Nat → Nat} {tk : Nat → Option Nat} {B : Nat → Int} {bw : Int → Int} (hL : LawC E Γ A b0 Ls xs0 i k n q tk qa B) (hg : Good E xo mo xa ad qa qi tk B bw q ws) (K : ∀ ws', Good E xo mo xa ad qa qi tk B bw (q + 1) ws' → J E 4 Γ (some A) (k + 24) (n + 67) ws' 1254 (lsL i b0 xo mo) []) : J E 4 Γ (some A) k n ws 414 (lsL i b0 xo mo) [] := by
  obtain ⟨G, hX, hb, hA0, hi, hkn, hq, htk6, hBs⟩ := hL
  refine Good_e hg (fun X U V Q T Z Y r0 tb cx kn pn ck rk co so si pr co2 so2 si2 pr2 bo S tx cl wd nu fo to la po pt sg wt pl kd vv hd rm sp le mk wo mpn mr ts tl it asd ca pa da sa ra rr dr sr nC nR Fq hws hS hP hT hC hG hA hR hK hN hN2 => ?_)
  have hs := hS
  unfold IvS at hs
  obtain ⟨a0, a1, a2, a3, a4, a5, a6, a7, a8, a9, a10, a11, a12, a13, a14, a15, a16, a17, a18, a19, a20, a21, a22, a23, a24, a25, a26, a27⟩ := hs
  obtain ⟨w1, e1⟩ : ∃ w, w = sv xs0 i 1 := ⟨_, rfl⟩
  have r1 : R32 w1 := sv_r e1
  obtain ⟨w2, e2⟩ : ∃ w, w = sv xs0 i 2 := ⟨_, rfl⟩
  have r2 : R32 w2 := sv_r e2
  obtain ⟨w3, e3⟩ : ∃ w, w = sv xs0 i 3 := ⟨_, rfl⟩
  have r3 : R32 w3 := sv_r e3
  have hth : -1 ≤ S 1 ∧ S 1 ≤ 3 := by omega
  have hms : 0 ≤ S 1 → MSum wd nu fo to sg cl Fq (S 1) := IvC_ms hC (by omega)
  have hwm : 0 ≤ S 1 → wfC (cM la po (S 1)) (pM pt (S 1)) := IvC_wm hC (by omega)
  have hw : S 20 = 0 ∨ S 20 = 1 := by omega
  have hpl := hA.1
  have hmk := hA.2
  have hsg := hG.1
  have hla := hG.2.2.1
  have hco := hN.1
  have KM : ∀ (ws1 : va_W) (v : Int), (v = (if (0 ≤ w1 ∧ w1 ≤ 11) ∧ ¬ S 1 < 0 then (if ((0 ≤ w2 ∧ w2 ≤ 6) ∧ (0 ≤ w3 ∧ w3 ≤ 6)) then lF (cM la po (S 1)) (pM pt (S 1)) (smM wd nu cl Fq (S 1) 3 w1 (S 20)) (w2 - w3) (la (9 * S 1 + 5)) else -2) else -1)) → ws1.Perm (WL E xo mo xa ad tk B bw X U V Q T Z Y r0 tb cx kn pn ck rk co so si pr co2 so2 si2 pr2 bo S tx cl wd nu fo to la po pt sg wt pl kd vv hd rm sp le mk wo mpn mr ts tl it asd co so si pr co2 so2 si2 pr2 bo ++ WF E qa qi ca pa da sa ra rr dr sr nC nR la po pt kd vv hd rm ts tl it) → J E 4 Γ (some A) (k + 24) (n + 67) ws1 433 (lsL i b0 xo mo) [.int (iZ v)] := by
    intro ws1 v hv hws1
    refine j_aload_n G 2 rfl dL_433 ?_
    refine j_arg G hX hb hA0 hi e1 ⟨by decide, by decide⟩ dL_434 dL_435 dL_436 dL_437 dL_438 ?_
    refine j_arg G hX hb hA0 hi e2 ⟨by decide, by decide⟩ dL_439 dL_440 dL_441 dL_442 dL_443 ?_
    refine j_arg G hX hb hA0 hi e3 ⟨by decide, by decide⟩ dL_444 dL_445 dL_446 dL_447 dL_448 ?_
    refine j_VMr (rest := [.int (iZ v)]) G (hws1.trans pk11) (k10_least (xl Γ) E _ _ _ _ _ _ _ _ _ _ _ _ _ Fq w1 w2 w3 r1 r2 r3 hth hms hwm hsg hpl hw) mw10_least mlL_50 10 rfl rfl rfl ⟨Nat.le_of_ble_eq_true rfl, Nat.le_of_ble_eq_true rfl⟩ rfl rfl (Nat.le_of_ble_eq_true rfl) dL_449 ⟨by show (k + 24) + 0 ≤ 600000; omega, by show (n + 67) + 0 ≤ 7302250; omega⟩ (fun r wX hr => ?_)
    obtain ⟨v2, m_pl1, rfl, rfl, hm⟩ := hr
    refine j_widen (k' := k + 24) (n' := n + 67) ⟨by show (k + 24) + 0 ≤ k + 24; omega, by show (n + 67) + 0 ≤ n + 67; omega⟩ ?_
    have hvv : v2 = v := hm.1.trans hv.symm
    subst hvv
    refine j_ieq (tgt := 1254) G dL_452 (by decide) ?_
    exact K _ ⟨X, U, V, Q, T, Z, Y, r0, tb, cx, kn, pn, ck, rk, co, so, si, pr, co2, so2, si2, pr2, bo, S, tx, cl, wd, nu, fo, to, la, po, pt, sg, wt, m_pl1, kd, vv, hd, rm, sp, le, mk, wo, mpn, mr, ts, tl, it, asd, ca, pa, da, sa, ra, rr, dr, sr, nC, nR, Fq, (pb_of pk11), hS, (IvP_s hP), hT, hC, hG, ⟨hm.2, hmk⟩, hR, hK, hN, hN2⟩
  refine j_aload_n G 1 rfl dL_414 ?_
  refine j_arg G hX hb hA0 hi e1 ⟨by decide, by decide⟩ dL_415 dL_416 dL_417 dL_418 dL_419 ?_
  refine j_arg G hX hb hA0 hi e2 ⟨by decide, by decide⟩ dL_420 dL_421 dL_422 dL_423 dL_424 ?_
  refine j_arg G hX hb hA0 hi e3 ⟨by decide, by decide⟩ dL_425 dL_426 dL_427 dL_428 dL_429 ?_
  by_cases hcl : S 1 < 0
  ·
    refine j_VPr (rest := []) G (hws.trans pk3) (k9_leastn (xl Γ) E _ _ _ _ w1 w2 w3 r1 r2 r3 (by omega) (by omega)) mw9_least mlL_46 9 rfl rfl rfl ⟨Nat.le_of_ble_eq_true rfl, Nat.le_of_ble_eq_true rfl⟩ rfl rfl (Nat.le_of_ble_eq_true rfl) dL_430 ⟨by show k ≤ 600000; omega, by show n ≤ 7302250; omega⟩ (fun r hr => ?_)
    obtain ⟨v, rfl, hx⟩ := hr
    refine j_widen (k' := k + 24) (n' := n + 67) ⟨by omega, by omega⟩ ?_
    have hy : v = (if (0 ≤ w1 ∧ w1 ≤ 11) ∧ ¬ S 1 < 0 then (if ((0 ≤ w2 ∧ w2 ≤ 6) ∧ (0 ≤ w3 ∧ w3 ≤ 6)) then lF (cM la po (S 1)) (pM pt (S 1)) (smM wd nu cl Fq (S 1) 3 w1 (S 20)) (w2 - w3) (la (9 * S 1 + 5)) else -2) else -1) := by
      rw [hx, if_neg (fun z => z.2 hcl)]
    exact KM _ v hy hws
  ·
    have ht0 : 0 ≤ S 1 := by omega
    obtain ⟨t, ht⟩ := Int.eq_ofNat_of_zero_le ht0
    have htn : t < nC := by omega
    obtain ⟨hc1, hc2, hc3, hc4, hc5⟩ := hC t htn
    have hu3e : U 3 = S 1 := by omega
    have hu3 : 0 ≤ U 3 ∧ U 3 < X 3 ∧ X 3 ≤ 4 := by omega
    have hck : ck (U 3).toNat = some (ca t) := by rw [show (U 3).toNat = t by omega]; exact hc1
    have hU1 : U 1 = 0 ∨ U 1 = 1 := by omega
    have hdr : ∀ j, 0 ≤ j → j < 24 → 0 ≤ dr t j ∧ dr t j ≤ 11988 := fun j h1 h2 => by rw [(hc5 j h1 h2).1]; exact smM_r hc2 _ _ _
    have hDW := dw_of (hms ht0) ht hc5 a3 a17
    have hu2 : 0 ≤ U 2 ∧ U 2 ≤ 40 := by omega
    refine j_VPr (rest := []) G ((hws.trans (op1 htn)).trans pk4) (k9_leastc (xl Γ) E _ _ _ _ _ _ _ _ _ _ _ _ _ w1 w2 w3 r1 r2 r3 hu3 hck hc3 hU1 hdr) mw9_least mlL_46 9 rfl rfl rfl ⟨Nat.le_of_ble_eq_true rfl, Nat.le_of_ble_eq_true rfl⟩ rfl rfl (Nat.le_of_ble_eq_true rfl) dL_430 ⟨by show k ≤ 600000; omega, by show n ≤ 7302250; omega⟩ (fun r hr => ?_)
    obtain ⟨v, rfl, hx⟩ := hr
    refine j_widen (k' := k + 24) (n' := n + 67) ⟨by omega, by omega⟩ ?_
    try rw [← ht] at hx
    have hy : v = (if (0 ≤ w1 ∧ w1 ≤ 11) ∧ ¬ S 1 < 0 then (if ((0 ≤ w2 ∧ w2 ≤ 6) ∧ (0 ≤ w3 ∧ w3 ≤ 6)) then lF (cM la po (S 1)) (pM pt (S 1)) (smM wd nu cl Fq (S 1) 3 w1 (S 20)) (w2 - w3) (la (9 * S 1 + 5)) else -2) else -1) := by
      by_cases c : 0 ≤ w1 ∧ w1 ≤ 11
      · have cc : (0 ≤ w1 ∧ w1 ≤ 11) ∧ ¬ S 1 < 0 := ⟨c, hcl⟩
        rw [(hDW w1 c.1 c.2).1] at hx
        exact (hx.trans (if_pos c)).trans (if_pos cc).symm
      · rw [hx, if_neg c, if_neg (fun z => c z.1)]
    exact KM _ v hy hws
set_option maxHeartbeats 4000000 in
set_option maxRecDepth 100000 in
theorem arm8 {E : En} {Γ : Ctx} {A : Nat → Prop} {b0 Ls : Nat} {xs0 : Nat → Int32} {i : Int} {k n q : Nat} {ws : va_W} {xo : Nat} {mo : Nat} {xa : Nat → Nat} {ad : Nat → Nat} {qa : Nat → Nat} {qi : Nat → Nat} {tk : Nat → Option Nat} {B : Nat → Int} {bw : Int → Int} (hL : LawC E Γ A b0 Ls xs0 i k n q tk qa B) (hg : Good E xo mo xa ad qa qi tk B bw q ws) (K : ∀ ws', Good E xo mo xa ad qa qi tk B bw (q + 1) ws' → J E 4 Γ (some A) (k + 24) (n + 67) ws' 1254 (lsL i b0 xo mo) []) : J E 4 Γ (some A) k n ws 457 (lsL i b0 xo mo) [] := by
  obtain ⟨G, hX, hb, hA0, hi, hkn, hq, htk6, hBs⟩ := hL
  refine Good_e hg (fun X U V Q T Z Y r0 tb cx kn pn ck rk co so si pr co2 so2 si2 pr2 bo S tx cl wd nu fo to la po pt sg wt pl kd vv hd rm sp le mk wo mpn mr ts tl it asd ca pa da sa ra rr dr sr nC nR Fq hws hS hP hT hC hG hA hR hK hN hN2 => ?_)
  have hs := hS
  unfold IvS at hs
  obtain ⟨a0, a1, a2, a3, a4, a5, a6, a7, a8, a9, a10, a11, a12, a13, a14, a15, a16, a17, a18, a19, a20, a21, a22, a23, a24, a25, a26, a27⟩ := hs
  obtain ⟨w1, e1⟩ : ∃ w, w = sv xs0 i 1 := ⟨_, rfl⟩
  have r1 : R32 w1 := sv_r e1
  obtain ⟨w2, e2⟩ : ∃ w, w = sv xs0 i 2 := ⟨_, rfl⟩
  have r2 : R32 w2 := sv_r e2
  obtain ⟨w3, e3⟩ : ∃ w, w = sv xs0 i 3 := ⟨_, rfl⟩
  have r3 : R32 w3 := sv_r e3
  have hth : -1 ≤ S 1 ∧ S 1 ≤ 3 := by omega
  have hms : 0 ≤ S 1 → MSum wd nu fo to sg cl Fq (S 1) := IvC_ms hC (by omega)
  have hwm : 0 ≤ S 1 → wfC (cM la po (S 1)) (pM pt (S 1)) := IvC_wm hC (by omega)
  have hw : S 20 = 0 ∨ S 20 = 1 := by omega
  have hpl := hA.1
  have hmk := hA.2
  have hsg := hG.1
  have hla := hG.2.2.1
  have hco := hN.1
  have KM : ∀ (ws1 : va_W) (v : Int), (v = (if (0 ≤ w1 ∧ w1 ≤ 11) ∧ ¬ S 1 < 0 then (if ((0 ≤ w2 ∧ w2 ≤ 6) ∧ (0 ≤ w3 ∧ w3 ≤ 6)) then jmF (cM la po (S 1)) (pM pt (S 1)) (smM wd nu cl Fq (S 1) 3 w1 (S 20)) (w2 - w3) (la (9 * S 1 + 5)) 99 1 else -2) else -1)) → ws1.Perm (WL E xo mo xa ad tk B bw X U V Q T Z Y r0 tb cx kn pn ck rk co so si pr co2 so2 si2 pr2 bo S tx cl wd nu fo to la po pt sg wt pl kd vv hd rm sp le mk wo mpn mr ts tl it asd co so si pr co2 so2 si2 pr2 bo ++ WF E qa qi ca pa da sa ra rr dr sr nC nR la po pt kd vv hd rm ts tl it) → J E 4 Γ (some A) (k + 24) (n + 67) ws1 476 (lsL i b0 xo mo) [.int (iZ v)] := by
    intro ws1 v hv hws1
    refine j_aload_n G 2 rfl dL_476 ?_
    refine j_arg G hX hb hA0 hi e1 ⟨by decide, by decide⟩ dL_477 dL_478 dL_479 dL_480 dL_481 ?_
    refine j_arg G hX hb hA0 hi e2 ⟨by decide, by decide⟩ dL_482 dL_483 dL_484 dL_485 dL_486 ?_
    refine j_arg G hX hb hA0 hi e3 ⟨by decide, by decide⟩ dL_487 dL_488 dL_489 dL_490 dL_491 ?_
    refine j_VMr (rest := [.int (iZ v)]) G (hws1.trans pk11) (k10_jump (xl Γ) E _ _ _ _ _ _ _ _ _ _ _ _ _ Fq w1 w2 w3 r1 r2 r3 hth hms hwm hsg hpl hw) mw10_jump mlL_54 10 rfl rfl rfl ⟨Nat.le_of_ble_eq_true rfl, Nat.le_of_ble_eq_true rfl⟩ rfl rfl (Nat.le_of_ble_eq_true rfl) dL_492 ⟨by show (k + 24) + 0 ≤ 600000; omega, by show (n + 67) + 0 ≤ 7302250; omega⟩ (fun r wX hr => ?_)
    obtain ⟨v2, m_pl1, rfl, rfl, hm⟩ := hr
    refine j_widen (k' := k + 24) (n' := n + 67) ⟨by show (k + 24) + 0 ≤ k + 24; omega, by show (n + 67) + 0 ≤ n + 67; omega⟩ ?_
    have hvv : v2 = v := hm.1.trans hv.symm
    subst hvv
    refine j_ieq (tgt := 1254) G dL_495 (by decide) ?_
    exact K _ ⟨X, U, V, Q, T, Z, Y, r0, tb, cx, kn, pn, ck, rk, co, so, si, pr, co2, so2, si2, pr2, bo, S, tx, cl, wd, nu, fo, to, la, po, pt, sg, wt, m_pl1, kd, vv, hd, rm, sp, le, mk, wo, mpn, mr, ts, tl, it, asd, ca, pa, da, sa, ra, rr, dr, sr, nC, nR, Fq, (pb_of pk11), hS, (IvP_s hP), hT, hC, hG, ⟨hm.2, hmk⟩, hR, hK, hN, hN2⟩
  refine j_aload_n G 1 rfl dL_457 ?_
  refine j_arg G hX hb hA0 hi e1 ⟨by decide, by decide⟩ dL_458 dL_459 dL_460 dL_461 dL_462 ?_
  refine j_arg G hX hb hA0 hi e2 ⟨by decide, by decide⟩ dL_463 dL_464 dL_465 dL_466 dL_467 ?_
  refine j_arg G hX hb hA0 hi e3 ⟨by decide, by decide⟩ dL_468 dL_469 dL_470 dL_471 dL_472 ?_
  by_cases hcl : S 1 < 0
  ·
    refine j_VPr (rest := []) G (hws.trans pk3) (k9_jumpn (xl Γ) E _ _ _ _ w1 w2 w3 r1 r2 r3 (by omega) (by omega)) mw9_jump mlL_51 9 rfl rfl rfl ⟨Nat.le_of_ble_eq_true rfl, Nat.le_of_ble_eq_true rfl⟩ rfl rfl (Nat.le_of_ble_eq_true rfl) dL_473 ⟨by show k ≤ 600000; omega, by show n ≤ 7302250; omega⟩ (fun r hr => ?_)
    obtain ⟨v, rfl, hx⟩ := hr
    refine j_widen (k' := k + 24) (n' := n + 67) ⟨by omega, by omega⟩ ?_
    have hy : v = (if (0 ≤ w1 ∧ w1 ≤ 11) ∧ ¬ S 1 < 0 then (if ((0 ≤ w2 ∧ w2 ≤ 6) ∧ (0 ≤ w3 ∧ w3 ≤ 6)) then jmF (cM la po (S 1)) (pM pt (S 1)) (smM wd nu cl Fq (S 1) 3 w1 (S 20)) (w2 - w3) (la (9 * S 1 + 5)) 99 1 else -2) else -1) := by
      rw [hx, if_neg (fun z => z.2 hcl)]
    exact KM _ v hy hws
  ·
    have ht0 : 0 ≤ S 1 := by omega
    obtain ⟨t, ht⟩ := Int.eq_ofNat_of_zero_le ht0
    have htn : t < nC := by omega
    obtain ⟨hc1, hc2, hc3, hc4, hc5⟩ := hC t htn
    have hu3e : U 3 = S 1 := by omega
    have hu3 : 0 ≤ U 3 ∧ U 3 < X 3 ∧ X 3 ≤ 4 := by omega
    have hck : ck (U 3).toNat = some (ca t) := by rw [show (U 3).toNat = t by omega]; exact hc1
    have hU1 : U 1 = 0 ∨ U 1 = 1 := by omega
    have hdr : ∀ j, 0 ≤ j → j < 24 → 0 ≤ dr t j ∧ dr t j ≤ 11988 := fun j h1 h2 => by rw [(hc5 j h1 h2).1]; exact smM_r hc2 _ _ _
    have hDW := dw_of (hms ht0) ht hc5 a3 a17
    have hu2 : 0 ≤ U 2 ∧ U 2 ≤ 40 := by omega
    refine j_VPr (rest := []) G ((hws.trans (op1 htn)).trans pk4) (k9_jumpc (xl Γ) E _ _ _ _ _ _ _ _ _ _ _ _ _ w1 w2 w3 r1 r2 r3 hu3 hck hc3 hU1 hdr) mw9_jump mlL_51 9 rfl rfl rfl ⟨Nat.le_of_ble_eq_true rfl, Nat.le_of_ble_eq_true rfl⟩ rfl rfl (Nat.le_of_ble_eq_true rfl) dL_473 ⟨by show k ≤ 600000; omega, by show n ≤ 7302250; omega⟩ (fun r hr => ?_)
    obtain ⟨v, rfl, hx⟩ := hr
    refine j_widen (k' := k + 24) (n' := n + 67) ⟨by omega, by omega⟩ ?_
    try rw [← ht] at hx
    have hy : v = (if (0 ≤ w1 ∧ w1 ≤ 11) ∧ ¬ S 1 < 0 then (if ((0 ≤ w2 ∧ w2 ≤ 6) ∧ (0 ≤ w3 ∧ w3 ≤ 6)) then jmF (cM la po (S 1)) (pM pt (S 1)) (smM wd nu cl Fq (S 1) 3 w1 (S 20)) (w2 - w3) (la (9 * S 1 + 5)) 99 1 else -2) else -1) := by
      by_cases c : 0 ≤ w1 ∧ w1 ≤ 11
      · have cc : (0 ≤ w1 ∧ w1 ≤ 11) ∧ ¬ S 1 < 0 := ⟨c, hcl⟩
        rw [(hDW w1 c.1 c.2).1] at hx
        exact (hx.trans (if_pos c)).trans (if_pos cc).symm
      · rw [hx, if_neg c, if_neg (fun z => c z.1)]
    exact KM _ v hy hws
set_option maxHeartbeats 4000000 in
set_option maxRecDepth 100000 in
theorem arm11 {E : En} {Γ : Ctx} {A : Nat → Prop} {b0 Ls : Nat} {xs0 : Nat → Int32} {i : Int} {k n q : Nat} {ws : va_W} {xo : Nat} {mo : Nat} {xa : Nat → Nat} {ad : Nat → Nat} {qa : Nat → Nat} {qi : Nat → Nat} {tk : Nat → Option Nat} {B : Nat → Int} {bw : Int → Int} (hL : LawC E Γ A b0 Ls xs0 i k n q tk qa B) (hg : Good E xo mo xa ad qa qi tk B bw q ws) (K : ∀ ws', Good E xo mo xa ad qa qi tk B bw (q + 1) ws' → J E 4 Γ (some A) (k + 24) (n + 67) ws' 1254 (lsL i b0 xo mo) []) : J E 4 Γ (some A) k n ws 582 (lsL i b0 xo mo) [] := by
  obtain ⟨G, hX, hb, hA0, hi, hkn, hq, htk6, hBs⟩ := hL
  refine Good_e hg (fun X U V Q T Z Y r0 tb cx kn pn ck rk co so si pr co2 so2 si2 pr2 bo S tx cl wd nu fo to la po pt sg wt pl kd vv hd rm sp le mk wo mpn mr ts tl it asd ca pa da sa ra rr dr sr nC nR Fq hws hS hP hT hC hG hA hR hK hN hN2 => ?_)
  have hs := hS
  unfold IvS at hs
  obtain ⟨a0, a1, a2, a3, a4, a5, a6, a7, a8, a9, a10, a11, a12, a13, a14, a15, a16, a17, a18, a19, a20, a21, a22, a23, a24, a25, a26, a27⟩ := hs
  obtain ⟨w1, e1⟩ : ∃ w, w = sv xs0 i 1 := ⟨_, rfl⟩
  have r1 : R32 w1 := sv_r e1
  have hth : -1 ≤ S 1 ∧ S 1 ≤ 3 := by omega
  have hms : 0 ≤ S 1 → MSum wd nu fo to sg cl Fq (S 1) := IvC_ms hC (by omega)
  have hwm : 0 ≤ S 1 → wfC (cM la po (S 1)) (pM pt (S 1)) := IvC_wm hC (by omega)
  have hw : S 20 = 0 ∨ S 20 = 1 := by omega
  have hpl := hA.1
  have hmk := hA.2
  have hsg := hG.1
  have hla := hG.2.2.1
  have hco := hN.1
  have KM : ∀ (ws1 : va_W) (u2 : Int) (v : Int), (v = pondA (S 21) (if S 1 < 0 then 0 else la (9 * S 1 + 8)) w1) → (u2 = pondN (S 21) (if S 1 < 0 then 0 else la (9 * S 1 + 8)) w1) → ws1.Perm (WL E xo mo xa ad tk B bw X (upS U 2 u2) V Q T Z Y r0 tb cx kn pn ck rk co so si pr co2 so2 si2 pr2 bo S tx cl wd nu fo to la po pt sg wt pl kd vv hd rm sp le mk wo mpn mr ts tl it asd co so si pr co2 so2 si2 pr2 bo ++ WF E qa qi ca pa da sa ra rr dr sr nC nR la po pt kd vv hd rm ts tl it) → J E 4 Γ (some A) (k + 24) (n + 67) ws1 591 (lsL i b0 xo mo) [.int (iZ v)] := by
    intro ws1 u2 v hv hu hws1
    refine j_aload_n G 2 rfl dL_591 ?_
    refine j_arg G hX hb hA0 hi e1 ⟨by decide, by decide⟩ dL_592 dL_593 dL_594 dL_595 dL_596 ?_
    refine j_VMr (rest := [.int (iZ v)]) G (hws1.trans pk12) (k10_pond (xl Γ) E _ _ _ _ w1 r1 hth hla) mw10_pond mlL_67 10 rfl rfl rfl ⟨Nat.le_of_ble_eq_true rfl, Nat.le_of_ble_eq_true rfl⟩ rfl rfl (Nat.le_of_ble_eq_true rfl) dL_597 ⟨by show (k + 24) + 0 ≤ 600000; omega, by show (n + 67) + 0 ≤ 7302250; omega⟩ (fun r wX hr => ?_)
    obtain ⟨v2, m_S1, rfl, rfl, hm⟩ := hr
    refine j_widen (k' := k + 24) (n' := n + 67) ⟨by show (k + 24) + 0 ≤ k + 24; omega, by show (n + 67) + 0 ≤ n + 67; omega⟩ ?_
    have hvv : v2 = v := hm.1.trans hv.symm
    subst hvv
    refine j_ieq (tgt := 1254) G dL_600 (by decide) ?_
    obtain ⟨hm1, hm2⟩ := hm
    have hmx : 0 ≤ (if S 1 < 0 then 0 else la (9 * S 1 + 8)) ∧ (if S 1 < 0 then 0 else la (9 * S 1 + 8)) ≤ 40 := by
      split
      · decide
      · exact hla (S 1) (by omega) (by omega)
    unfold pondN at hu
    by_cases c : 0 ≤ w1 ∧ w1 ≤ (if S 1 < 0 then 0 else la (9 * S 1 + 8))
    ·
      rw [if_pos c] at hu hm2
      subst hm2
      exact K _ ⟨X, upS U 2 u2, V, Q, T, Z, Y, r0, tb, cx, kn, pn, ck, rk, co, so, si, pr, co2, so2, si2, pr2, bo, _, tx, cl, wd, nu, fo, to, la, po, pt, sg, wt, pl, kd, vv, hd, rm, sp, le, mk, wo, mpn, mr, ts, tl, it, asd, ca, pa, da, sa, ra, rr, dr, sr, nC, nR, Fq, (pb_of pk12), (by unfold IvS; (refine ⟨?_, ?_, ?_, ?_, ?_, ?_, ?_, ?_, ?_, ?_, ?_, ?_, ?_, ?_, ?_, ?_, ?_, ?_, ?_, ?_, ?_, ?_, ?_, ?_, ?_, ?_, ?_, ?_⟩ <;> first | (simp only [upS, reduceIte, Nat.reduceEqDiff, eq_self, and_true, true_and, or_true, true_or]; done) | (simp only [upS, reduceIte, Nat.reduceEqDiff, eq_self, and_true, true_and, or_true, true_or]; omega) | omega)), (IvP_s hP), hT, hC, hG, hA, hR, hK, hN, hN2⟩
    ·
      rw [if_neg c] at hu hm2
      subst hm2
      exact K _ ⟨X, upS U 2 u2, V, Q, T, Z, Y, r0, tb, cx, kn, pn, ck, rk, co, so, si, pr, co2, so2, si2, pr2, bo, _, tx, cl, wd, nu, fo, to, la, po, pt, sg, wt, pl, kd, vv, hd, rm, sp, le, mk, wo, mpn, mr, ts, tl, it, asd, ca, pa, da, sa, ra, rr, dr, sr, nC, nR, Fq, (pb_of pk12), (by unfold IvS; (refine ⟨?_, ?_, ?_, ?_, ?_, ?_, ?_, ?_, ?_, ?_, ?_, ?_, ?_, ?_, ?_, ?_, ?_, ?_, ?_, ?_, ?_, ?_, ?_, ?_, ?_, ?_, ?_, ?_⟩ <;> first | (simp only [upS, reduceIte, Nat.reduceEqDiff, eq_self, and_true, true_and, or_true, true_or]; done) | (simp only [upS, reduceIte, Nat.reduceEqDiff, eq_self, and_true, true_and, or_true, true_or]; omega) | omega)), (IvP_s hP), hT, hC, hG, hA, hR, hK, hN, hN2⟩
  refine j_aload_n G 1 rfl dL_582 ?_
  refine j_arg G hX hb hA0 hi e1 ⟨by decide, by decide⟩ dL_583 dL_584 dL_585 dL_586 dL_587 ?_
  by_cases hcl : S 1 < 0
  ·
    refine j_VMr (rest := []) G (hws.trans pk3) (k9_pondn (xl Γ) E _ _ _ _ w1 r1 (by omega) (by omega)) mw9_pond mlL_64 9 rfl rfl rfl ⟨Nat.le_of_ble_eq_true rfl, Nat.le_of_ble_eq_true rfl⟩ rfl rfl (Nat.le_of_ble_eq_true rfl) dL_588 ⟨by show k + 0 ≤ 600000; omega, by show n + 0 ≤ 7302250; omega⟩ (fun r wX hr => ?_)
    obtain ⟨v, x_u2, rfl, rfl, hx⟩ := hr
    refine j_widen (k' := k + 24) (n' := n + 67) ⟨by show k + 0 ≤ k + 24; omega, by show n + 0 ≤ n + 67; omega⟩ ?_
    rw [a18] at hx
    exact KM _ x_u2 v (by rw [if_pos hcl]; exact hx.1) (by rw [if_pos hcl]; exact hx.2) (pb_of pk3)
  ·
    have ht0 : 0 ≤ S 1 := by omega
    obtain ⟨t, ht⟩ := Int.eq_ofNat_of_zero_le ht0
    have htn : t < nC := by omega
    obtain ⟨hc1, hc2, hc3, hc4, hc5⟩ := hC t htn
    have hu3e : U 3 = S 1 := by omega
    have hu3 : 0 ≤ U 3 ∧ U 3 < X 3 ∧ X 3 ≤ 4 := by omega
    have hck : ck (U 3).toNat = some (ca t) := by rw [show (U 3).toNat = t by omega]; exact hc1
    have hU1 : U 1 = 0 ∨ U 1 = 1 := by omega
    have hdr : ∀ j, 0 ≤ j → j < 24 → 0 ≤ dr t j ∧ dr t j ≤ 11988 := fun j h1 h2 => by rw [(hc5 j h1 h2).1]; exact smM_r hc2 _ _ _
    have hDW := dw_of (hms ht0) ht hc5 a3 a17
    have hu2 : 0 ≤ U 2 ∧ U 2 ≤ 40 := by omega
    refine j_VMr (rest := []) G ((hws.trans (op1 htn)).trans pk4) (k9_pondc (xl Γ) E _ _ _ _ _ _ _ _ _ _ _ _ _ w1 r1 hu3 hck hc3 hU1 hdr) mw9_pond mlL_64 9 rfl rfl rfl ⟨Nat.le_of_ble_eq_true rfl, Nat.le_of_ble_eq_true rfl⟩ rfl rfl (Nat.le_of_ble_eq_true rfl) dL_588 ⟨by show k + 0 ≤ 600000; omega, by show n + 0 ≤ 7302250; omega⟩ (fun r wX hr => ?_)
    obtain ⟨v, x_u2, rfl, rfl, hx⟩ := hr
    refine j_widen (k' := k + 24) (n' := n + 67) ⟨by show k + 0 ≤ k + 24; omega, by show n + 0 ≤ n + 67; omega⟩ ?_
    rw [a18, ← ht] at hx
    exact KM _ x_u2 v (by rw [if_neg hcl]; exact hx.1) (by rw [if_neg hcl]; exact hx.2) ((pb_of pk4).trans (op1 (f := fC E ca pa da sa la po pt dr sr) htn).symm)
