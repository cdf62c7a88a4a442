set_option maxHeartbeats 4000000 in
set_option maxRecDepth 100000 in
theorem arm17 {E : En} {Γ : Ctx} {A : Nat → Prop} {b0 Ls : Nat} {xs0 : Nat → Int32} {i : Int} {k n q : Nat} {ws : va_W} {xo : Nat} {mo : Nat} {xa : Nat → Nat} {ad : Nat → Nat} {qa : Nat → Nat} {qi : Nat → Nat} {tk : Nat → Option Nat} {B : Nat → Int} {bw : Int → Int} (hL : LawC E Γ A b0 Ls xs0 i k n q tk qa B) (hg : Good E xo mo xa ad qa qi tk B bw q ws) (K : ∀ ws', Good E xo mo xa ad qa qi tk B bw (q + 1) ws' → J E 4 Γ (some A) (k + 24) (n + 67) ws' 1254 (lsL i b0 xo mo) []) : J E 4 Γ (some A) k n ws 781 (lsL i b0 xo mo) [] := by
  obtain ⟨G, hX, hb, hA0, hi, hkn, hq, htk6, hBs⟩ := hL
  refine Good_e hg (fun X U V Q T Z Y r0 tb cx kn pn ck rk co so si pr co2 so2 si2 pr2 bo S tx cl wd nu fo to la po pt sg wt pl kd vv hd rm sp le mk wo mpn mr ts tl it asd ca pa da sa ra rr dr sr nC nR Fq hws hS hP hT hC hG hA hR hK hN hN2 => ?_)
  have hs := hS
  unfold IvS at hs
  obtain ⟨a0, a1, a2, a3, a4, a5, a6, a7, a8, a9, a10, a11, a12, a13, a14, a15, a16, a17, a18, a19, a20, a21, a22, a23, a24, a25, a26, a27⟩ := hs
  have hth : -1 ≤ S 1 ∧ S 1 ≤ 3 := by omega
  have hms : 0 ≤ S 1 → MSum wd nu fo to sg cl Fq (S 1) := IvC_ms hC (by omega)
  have hwm : 0 ≤ S 1 → wfC (cM la po (S 1)) (pM pt (S 1)) := IvC_wm hC (by omega)
  have hw : S 20 = 0 ∨ S 20 = 1 := by omega
  have hpl := hA.1
  have hmk := hA.2
  have hsg := hG.1
  have hla := hG.2.2.1
  have hco := hN.1
  have hfi := a4
  have hof := a6
  have hoo := hN.2
  have hru := a5
  have hrw := hR.2.2.1
  have hrr : ∀ j, 0 ≤ j → j < S 23 → (0 ≤ kd j ∧ kd j ≤ 6) ∧ (0 ≤ vv j ∧ vv j ≤ 20) ∧ (0 ≤ hd j ∧ hd j ≤ 12) := fun j h1 h2 => ⟨(hR.2.1 j h1 (by omega)).1, (hR.2.1 j h1 (by omega)).2.1, (hR.2.1 j h1 (by omega)).2.2.1⟩
  have hso : ∀ j, 0 ≤ j → j < 6 → -1 ≤ ts j ∧ ts j ≤ 4 := fun j h1 h2 => (hK.1 j h1 h2).1
  have hln : ∀ j, 0 ≤ j → j < 6 → 0 ≤ tl j ∧ tl j ≤ 60 := fun j h1 h2 => (hK.1 j h1 h2).2.1
  have hle := hln
  have hit := hK.2.1
  have KM : ∀ (ws1 : va_W) (T9 : Nat → Int) (r9 : Option Nat) (Y9 : Nat → Int) (cx9 : Int → Int) (pn9 : Int → Int) (kn9 : Int → Int) (Z9 : Nat → Int) (v : Int), (v = (if ¬ S 1 < 0 then whF (cM la po (S 1)) (pM pt (S 1)) (fun s => smM wd nu cl Fq (S 1) 3 s (S 20)) (fun s => smM wd nu cl Fq (S 1) 7 s (S 20)) co (81 * S 21) 6 1 else -1)) → (IvP Z9 kn9 (q + 1)) → ws1.Perm (WL E xo mo xa ad tk B bw X U V Q T9 Z9 Y9 r9 tb cx9 kn9 pn9 ck rk co so si pr co2 so2 si2 pr2 bo S tx cl wd nu fo to la po pt sg wt pl kd vv hd rm sp le mk wo mpn mr ts tl it asd co so si pr co2 so2 si2 pr2 bo ++ WF E qa qi ca pa da sa ra rr dr sr nC nR la po pt kd vv hd rm ts tl it) → J E 4 Γ (some A) (k + 24) (n + 67) ws1 785 (lsL i b0 xo mo) [.int (iZ v)] := by
    intro ws1 T9 r9 Y9 cx9 pn9 kn9 Z9 v hv hP1 hws1
    refine j_aload_n G 2 rfl dL_785 ?_
    refine j_VMr (rest := [.int (iZ v)]) G (hws1.trans pk27) (k10_whit (xl Γ) E _ _ _ _ _ _ _ _ _ _ _ _ _ _ _ _ _ _ _ _ _ _ hth hms hwm hco hsg hpl hw hmk hfi) mw10_whit mlL_91 10 rfl rfl rfl ⟨Nat.le_of_ble_eq_true rfl, Nat.le_of_ble_eq_true rfl⟩ rfl rfl (Nat.le_of_ble_eq_true rfl) dL_786 ⟨by show (k + 24) + 0 ≤ 600000; omega, by show (n + 67) + 0 ≤ 7302250; omega⟩ (fun r wX hr => ?_)
    obtain ⟨v2, m_pl1, m_sp1, m_le1, m_mk1, m_wo1, m_pn1, m_tk1, m_se1, m_mx1, m_ti1, m_nw, m_lo, m_dn, m_up, m_wa, m_su, m_sd, m_wt, m_sl, m_es, m_tr, rfl, rfl, hm⟩ := hr
    refine j_widen (k' := k + 24) (n' := n + 67) ⟨by show (k + 24) + 0 ≤ k + 24; omega, by show (n + 67) + 0 ≤ n + 67; omega⟩ ?_
    have hvv : v2 = v := hm.1.trans hv.symm
    subst hvv
    refine j_ieq (tgt := 1254) G dL_789 (by decide) ?_
    exact K _ ⟨X, U, V, Q, T9, Z9, Y9, r9, tb, cx9, kn9, pn9, ck, rk, co, so, si, pr, co2, so2, si2, pr2, bo, upS (upS (upS (upS (upS (upS (upS (upS (upS (upS (upS (upS (upS (upS (upS S 28 m_tk1) 29 m_se1) 30 m_mx1) 31 m_ti1) 34 m_nw) 35 m_lo) 36 m_dn) 37 m_up) 38 m_wa) 41 m_su) 42 m_sd) 43 m_wt) 44 m_sl) 45 m_es) 46 m_tr, tx, cl, wd, nu, fo, to, la, po, pt, sg, wt, m_pl1, kd, vv, hd, rm, m_sp1, m_le1, m_mk1, m_wo1, m_pn1, mr, ts, tl, it, asd, ca, pa, da, sa, ra, rr, dr, sr, nC, nR, Fq, (pb_of pk27), (by unfold IvS; (refine ⟨?_, ?_, ?_, ?_, ?_, ?_, ?_, ?_, ?_, ?_, ?_, ?_, ?_, ?_, ?_, ?_, ?_, ?_, ?_, ?_, ?_, ?_, ?_, ?_, ?_, ?_, ?_, ?_⟩ <;> first | (simp only [upS, reduceIte, Nat.reduceEqDiff, eq_self, and_true, true_and, or_true, true_or]; done) | (simp only [upS, reduceIte, Nat.reduceEqDiff, eq_self, and_true, true_and, or_true, true_or]; omega) | omega)), hP1, hT, hC, hG, ⟨hm.2.1, hm.2.2⟩, hR, hK, hN, hN2⟩
  refine j_aload_n G 1 rfl dL_781 ?_
  by_cases hcl : S 1 < 0
  ·
    refine j_VPr (rest := []) G (hws.trans pk3) (k9_whitn (xl Γ) E _ _ _ _ (by omega) (by omega)) mw9_whit mlL_88 9 rfl rfl rfl ⟨Nat.le_of_ble_eq_true rfl, Nat.le_of_ble_eq_true rfl⟩ rfl rfl (Nat.le_of_ble_eq_true rfl) dL_782 ⟨by show k ≤ 600000; omega, by show n ≤ 7302250; omega⟩ (fun r hr => ?_)
    obtain ⟨v, rfl, hx⟩ := hr
    refine j_widen (k' := k + 24) (n' := n + 67) ⟨by omega, by omega⟩ ?_
    have hy : v = (if ¬ S 1 < 0 then whF (cM la po (S 1)) (pM pt (S 1)) (fun s => smM wd nu cl Fq (S 1) 3 s (S 20)) (fun s => smM wd nu cl Fq (S 1) 7 s (S 20)) co (81 * S 21) 6 1 else -1) := by
      rw [hx, if_neg (fun z => z hcl)]
    exact KM _ T r0 Y cx pn kn Z v hy (IvP_s hP) hws
  ·
    have ht0 : 0 ≤ S 1 := by omega
    obtain ⟨t, ht⟩ := Int.eq_ofNat_of_zero_le ht0
    have htn : t < nC := by omega
    obtain ⟨hc1, hc2, hc3, hc4, hc5⟩ := hC t htn
    have hu3e : U 3 = S 1 := by omega
    have hu3 : 0 ≤ U 3 ∧ U 3 < X 3 ∧ X 3 ≤ 4 := by omega
    have hck : ck (U 3).toNat = some (ca t) := by rw [show (U 3).toNat = t by omega]; exact hc1
    have hU1 : U 1 = 0 ∨ U 1 = 1 := by omega
    have hdr : ∀ j, 0 ≤ j → j < 24 → 0 ≤ dr t j ∧ dr t j ≤ 11988 := fun j h1 h2 => by rw [(hc5 j h1 h2).1]; exact smM_r hc2 _ _ _
    have hDW := dw_of (hms ht0) ht hc5 a3 a17
    have hu2 : 0 ≤ U 2 ∧ U 2 ≤ 40 := by omega
    refine j_VMr (rest := []) G ((hws.trans (op1 htn)).trans pk28) (k9_whitc (xl Γ) E _ _ _ _ _ _ _ _ _ _ _ _ _ _ _ _ _ _ _ _ _ ((fun s => smM wd nu cl Fq (S 1) 3 s (S 20))) ((fun s => smM wd nu cl Fq (S 1) 7 s (S 20))) _ _ hu3 hck hc3 hU1 hdr hco (fun s h1 h2 => hDW s h1 h2) hP.1 (by have := hP.2; omega) hu2 hBs) mw9_whit mlL_88 9 rfl rfl rfl ⟨Nat.le_of_ble_eq_true rfl, Nat.le_of_ble_eq_true rfl⟩ rfl rfl (Nat.le_of_ble_eq_true rfl) dL_782 ⟨by show k + 0 ≤ 600000; omega, by show n + 0 ≤ 7302250; omega⟩ (fun r wX hr => ?_)
    obtain ⟨v, x_T1, x_r1, x_Y1, x_cx1, x_kn1, x_pn1, x_q1, x_q2, rfl, rfl, hx⟩ := hr
    refine j_widen (k' := k + 24) (n' := n + 67) ⟨by show k + 0 ≤ k + 24; omega, by show n + 0 ≤ n + 67; omega⟩ ?_
    rw [← ht] at hx
    have hy : v = (if ¬ S 1 < 0 then whF (cM la po (S 1)) (pM pt (S 1)) (fun s => smM wd nu cl Fq (S 1) 3 s (S 20)) (fun s => smM wd nu cl Fq (S 1) 7 s (S 20)) co (81 * S 21) 6 1 else -1) := by
      rw [hx.1, if_pos hcl, a18]
    exact KM _ x_T1 x_r1 x_Y1 x_cx1 x_pn1 x_kn1 (upS (upS Z 1 x_q1) 2 x_q2) v hy (IvP_n hP hx.2.1 hx.2.2 rfl) ((pb_of pk28).trans (op1 (f := fC E ca pa da sa la po pt dr sr) htn).symm)
set_option maxHeartbeats 4000000 in
set_option maxRecDepth 100000 in
theorem arm19 {E : En} {Γ : Ctx} {A : Nat → Prop} {b0 Ls : Nat} {xs0 : Nat → Int32} {i : Int} {k n q : Nat} {ws : va_W} {xo : Nat} {mo : Nat} {xa : Nat → Nat} {ad : Nat → Nat} {qa : Nat → Nat} {qi : Nat → Nat} {tk : Nat → Option Nat} {B : Nat → Int} {bw : Int → Int} (hL : LawC E Γ A b0 Ls xs0 i k n q tk qa B) (hg : Good E xo mo xa ad qa qi tk B bw q ws) (K : ∀ ws', Good E xo mo xa ad qa qi tk B bw (q + 1) ws' → J E 4 Γ (some A) (k + 24) (n + 67) ws' 1254 (lsL i b0 xo mo) []) : J E 4 Γ (some A) k n ws 837 (lsL i b0 xo mo) [] := by
  obtain ⟨G, hX, hb, hA0, hi, hkn, hq, htk6, hBs⟩ := hL
  refine Good_e hg (fun X U V Q T Z Y r0 tb cx kn pn ck rk co so si pr co2 so2 si2 pr2 bo S tx cl wd nu fo to la po pt sg wt pl kd vv hd rm sp le mk wo mpn mr ts tl it asd ca pa da sa ra rr dr sr nC nR Fq hws hS hP hT hC hG hA hR hK hN hN2 => ?_)
  have hs := hS
  unfold IvS at hs
  obtain ⟨a0, a1, a2, a3, a4, a5, a6, a7, a8, a9, a10, a11, a12, a13, a14, a15, a16, a17, a18, a19, a20, a21, a22, a23, a24, a25, a26, a27⟩ := hs
  obtain ⟨w1, e1⟩ : ∃ w, w = sv xs0 i 1 := ⟨_, rfl⟩
  have r1 : R32 w1 := sv_r e1
  have hth : -1 ≤ S 1 ∧ S 1 ≤ 3 := by omega
  have hms : 0 ≤ S 1 → MSum wd nu fo to sg cl Fq (S 1) := IvC_ms hC (by omega)
  have hwm : 0 ≤ S 1 → wfC (cM la po (S 1)) (pM pt (S 1)) := IvC_wm hC (by omega)
  have hw : S 20 = 0 ∨ S 20 = 1 := by omega
  have hpl := hA.1
  have hmk := hA.2
  have hsg := hG.1
  have hla := hG.2.2.1
  have hco := hN.1
  have hfi := a4
  have hof := a6
  have hoo := hN.2
  have hru := a5
  have hrw := hR.2.2.1
  have hrr : ∀ j, 0 ≤ j → j < S 23 → (0 ≤ kd j ∧ kd j ≤ 6) ∧ (0 ≤ vv j ∧ vv j ≤ 20) ∧ (0 ≤ hd j ∧ hd j ≤ 12) := fun j h1 h2 => ⟨(hR.2.1 j h1 (by omega)).1, (hR.2.1 j h1 (by omega)).2.1, (hR.2.1 j h1 (by omega)).2.2.1⟩
  have hso : ∀ j, 0 ≤ j → j < 6 → -1 ≤ ts j ∧ ts j ≤ 4 := fun j h1 h2 => (hK.1 j h1 h2).1
  have hln : ∀ j, 0 ≤ j → j < 6 → 0 ≤ tl j ∧ tl j ≤ 60 := fun j h1 h2 => (hK.1 j h1 h2).2.1
  have hle := hln
  have hit := hK.2.1
  have KM : ∀ (ws1 : va_W) (T9 : Nat → Int) (r9 : Option Nat) (Y9 : Nat → Int) (cx9 : Int → Int) (pn9 : Int → Int) (kn9 : Int → Int) (Z9 : Nat → Int) (v : Int), (v = (if ¬ S 1 < 0 then (if 0 ≤ w1 ∧ w1 ≤ 999 then byF (byW (cM la po (S 1)) (pM pt (S 1)) (fun s => smM wd nu cl Fq (S 1) 3 s (S 20)) (fun s => smM wd nu cl Fq (S 1) 7 s (S 20)) co so si (S 48) (81 * S 21)) (fun s => prF pr s (S 48).toNat) w1 (pw (S 48) - 0).toNat 0 0 (-1) 0 else -2) else -1)) → (IvP Z9 kn9 (q + 1)) → ws1.Perm (WL E xo mo xa ad tk B bw X U V Q T9 Z9 Y9 r9 tb cx9 kn9 pn9 ck rk co so si pr co2 so2 si2 pr2 bo S tx cl wd nu fo to la po pt sg wt pl kd vv hd rm sp le mk wo mpn mr ts tl it asd co so si pr co2 so2 si2 pr2 bo ++ WF E qa qi ca pa da sa ra rr dr sr nC nR la po pt kd vv hd rm ts tl it) → J E 4 Γ (some A) (k + 24) (n + 67) ws1 846 (lsL i b0 xo mo) [.int (iZ v)] := by
    intro ws1 T9 r9 Y9 cx9 pn9 kn9 Z9 v hv hP1 hws1
    refine j_aload_n G 2 rfl dL_846 ?_
    refine j_arg G hX hb hA0 hi e1 ⟨by decide, by decide⟩ dL_847 dL_848 dL_849 dL_850 dL_851 ?_
    refine j_VMr (rest := [.int (iZ v)]) G (hws1.trans pk29) (k10_buy (xl Γ) E _ _ _ _ _ _ _ _ _ _ _ _ _ _ _ _ _ _ _ _ _ _ _ w1 r1 hth hms hwm hco hsg hpl hw hmk hfi hof hoo) mw10_buy mlL_99 10 rfl rfl rfl ⟨Nat.le_of_ble_eq_true rfl, Nat.le_of_ble_eq_true rfl⟩ rfl rfl (Nat.le_of_ble_eq_true rfl) dL_852 ⟨by show (k + 24) + 0 ≤ 600000; omega, by show (n + 67) + 0 ≤ 7302250; omega⟩ (fun r wX hr => ?_)
    obtain ⟨v2, m_pl1, m_sp1, m_le1, m_mk1, m_wo1, m_mr1, m_tk1, m_se1, m_mx1, m_ti1, m_nw, m_lo, m_dn, m_up, m_wa, rfl, rfl, hm⟩ := hr
    refine j_widen (k' := k + 24) (n' := n + 67) ⟨by show (k + 24) + 0 ≤ k + 24; omega, by show (n + 67) + 0 ≤ n + 67; omega⟩ ?_
    have hvv : v2 = v := hm.1.trans hv.symm
    subst hvv
    refine j_ieq (tgt := 1254) G dL_855 (by decide) ?_
    exact K _ ⟨X, U, V, Q, T9, Z9, Y9, r9, tb, cx9, kn9, pn9, ck, rk, co, so, si, pr, co2, so2, si2, pr2, bo, upS (upS (upS (upS (upS (upS (upS (upS (upS S 28 m_tk1) 29 m_se1) 30 m_mx1) 31 m_ti1) 34 m_nw) 35 m_lo) 36 m_dn) 37 m_up) 38 m_wa, tx, cl, wd, nu, fo, to, la, po, pt, sg, wt, m_pl1, kd, vv, hd, rm, m_sp1, m_le1, m_mk1, m_wo1, mpn, m_mr1, ts, tl, it, asd, ca, pa, da, sa, ra, rr, dr, sr, nC, nR, Fq, (pb_of pk29), (by unfold IvS; (refine ⟨?_, ?_, ?_, ?_, ?_, ?_, ?_, ?_, ?_, ?_, ?_, ?_, ?_, ?_, ?_, ?_, ?_, ?_, ?_, ?_, ?_, ?_, ?_, ?_, ?_, ?_, ?_, ?_⟩ <;> first | (simp only [upS, reduceIte, Nat.reduceEqDiff, eq_self, and_true, true_and, or_true, true_or]; done) | (simp only [upS, reduceIte, Nat.reduceEqDiff, eq_self, and_true, true_and, or_true, true_or]; omega) | omega)), hP1, hT, hC, hG, ⟨hm.2.1, hm.2.2⟩, hR, hK, hN, hN2⟩
  refine j_aload_n G 1 rfl dL_837 ?_
  refine j_arg G hX hb hA0 hi e1 ⟨by decide, by decide⟩ dL_838 dL_839 dL_840 dL_841 dL_842 ?_
  by_cases hcl : S 1 < 0
  ·
    refine j_VPr (rest := []) G (hws.trans pk3) (k9_buyn (xl Γ) E _ _ _ _ w1 r1 (by omega) (by omega)) mw9_buy mlL_96 9 rfl rfl rfl ⟨Nat.le_of_ble_eq_true rfl, Nat.le_of_ble_eq_true rfl⟩ rfl rfl (Nat.le_of_ble_eq_true rfl) dL_843 ⟨by show k ≤ 600000; omega, by show n ≤ 7302250; omega⟩ (fun r hr => ?_)
    obtain ⟨v, rfl, hx⟩ := hr
    refine j_widen (k' := k + 24) (n' := n + 67) ⟨by omega, by omega⟩ ?_
    have hy : v = (if ¬ S 1 < 0 then (if 0 ≤ w1 ∧ w1 ≤ 999 then byF (byW (cM la po (S 1)) (pM pt (S 1)) (fun s => smM wd nu cl Fq (S 1) 3 s (S 20)) (fun s => smM wd nu cl Fq (S 1) 7 s (S 20)) co so si (S 48) (81 * S 21)) (fun s => prF pr s (S 48).toNat) w1 (pw (S 48) - 0).toNat 0 0 (-1) 0 else -2) else -1) := by
      rw [hx, if_neg (fun z => z hcl)]
    exact KM _ T r0 Y cx pn kn Z v hy (IvP_s hP) hws
  ·
    have ht0 : 0 ≤ S 1 := by omega
    obtain ⟨t, ht⟩ := Int.eq_ofNat_of_zero_le ht0
    have htn : t < nC := by omega
    obtain ⟨hc1, hc2, hc3, hc4, hc5⟩ := hC t htn
    have hu3e : U 3 = S 1 := by omega
    have hu3 : 0 ≤ U 3 ∧ U 3 < X 3 ∧ X 3 ≤ 4 := by omega
    have hck : ck (U 3).toNat = some (ca t) := by rw [show (U 3).toNat = t by omega]; exact hc1
    have hU1 : U 1 = 0 ∨ U 1 = 1 := by omega
    have hdr : ∀ j, 0 ≤ j → j < 24 → 0 ≤ dr t j ∧ dr t j ≤ 11988 := fun j h1 h2 => by rw [(hc5 j h1 h2).1]; exact smM_r hc2 _ _ _
    have hDW := dw_of (hms ht0) ht hc5 a3 a17
    have hu2 : 0 ≤ U 2 ∧ U 2 ≤ 40 := by omega
    refine j_VMr (rest := []) G ((hws.trans (op1 htn)).trans pk30) (k9_buyc (xl Γ) E _ _ _ _ _ _ _ _ _ _ _ _ _ _ _ _ _ _ _ _ _ ((fun s => smM wd nu cl Fq (S 1) 3 s (S 20))) ((fun s => smM wd nu cl Fq (S 1) 7 s (S 20))) _ _ _ w1 r1 hu3 hck hc3 hU1 hdr hco (fun s h1 h2 => hDW s h1 h2) hP.1 (by have := hP.2; omega) hu2 (by omega) (fun j h1 h2 => hN.2 j h1 (by omega))) mw9_buy mlL_96 9 rfl rfl rfl ⟨Nat.le_of_ble_eq_true rfl, Nat.le_of_ble_eq_true rfl⟩ rfl rfl (Nat.le_of_ble_eq_true rfl) dL_843 ⟨by show k + 0 ≤ 600000; omega, by show n + 0 ≤ 7302250; omega⟩ (fun r wX hr => ?_)
    obtain ⟨v, x_T1, x_r1, x_Y1, x_cx1, x_kn1, x_pn1, x_q1, x_q2, rfl, rfl, hx⟩ := hr
    refine j_widen (k' := k + 24) (n' := n + 67) ⟨by show k + 0 ≤ k + 24; omega, by show n + 0 ≤ n + 67; omega⟩ ?_
    rw [← ht] at hx
    have hy : v = (if ¬ S 1 < 0 then (if 0 ≤ w1 ∧ w1 ≤ 999 then byF (byW (cM la po (S 1)) (pM pt (S 1)) (fun s => smM wd nu cl Fq (S 1) 3 s (S 20)) (fun s => smM wd nu cl Fq (S 1) 7 s (S 20)) co so si (S 48) (81 * S 21)) (fun s => prF pr s (S 48).toNat) w1 (pw (S 48) - 0).toNat 0 0 (-1) 0 else -2) else -1) := by
      rw [hx.1, if_pos hcl, a18, a20]
    exact KM _ x_T1 x_r1 x_Y1 x_cx1 x_pn1 x_kn1 (upS (upS Z 1 x_q1) 2 x_q2) v hy (IvP_n hP hx.2.1 hx.2.2 rfl) ((pb_of pk30).trans (op1 (f := fC E ca pa da sa la po pt dr sr) htn).symm)
