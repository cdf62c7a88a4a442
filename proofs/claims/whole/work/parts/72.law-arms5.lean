set_option maxHeartbeats 4000000 in
set_option maxRecDepth 100000 in
theorem arm15 {E : En} {Γ : Ctx} {A : Nat → Prop} {b0 Ls : Nat} {xs0 : Nat → Int32} {i : Int} {k n q : Nat} {ws : va_W} {xo : Nat} {mo : Nat} {xa : Nat → Nat} {ad : Nat → Nat} {qa : Nat → Nat} {qi : Nat → Nat} {tk : Nat → Option Nat} {B : Nat → Int} {bw : Int → Int} (hL : LawC E Γ A b0 Ls xs0 i k n q tk qa B) (hg : Good E xo mo xa ad qa qi tk B bw q ws) (K : ∀ ws', Good E xo mo xa ad qa qi tk B bw (q + 1) ws' → J E 4 Γ (some A) (k + 24) (n + 67) ws' 1254 (lsL i b0 xo mo) []) : J E 4 Γ (some A) k n ws 704 (lsL i b0 xo mo) [] := by
  obtain ⟨G, hX, hb, hA0, hi, hkn, hq, htk6, hBs⟩ := hL
  refine Good_e hg (fun X U V Q T Z Y r0 tb cx kn pn ck rk co so si pr co2 so2 si2 pr2 bo S tx cl wd nu fo to la po pt sg wt pl kd vv hd rm sp le mk wo mpn mr ts tl it asd ca pa da sa ra rr dr sr nC nR Fq hws hS hP hT hC hG hA hR hK hN hN2 => ?_)
  have hs := hS
  unfold IvS at hs
  obtain ⟨a0, a1, a2, a3, a4, a5, a6, a7, a8, a9, a10, a11, a12, a13, a14, a15, a16, a17, a18, a19, a20, a21, a22, a23, a24, a25, a26, a27⟩ := hs
  obtain ⟨w1, e1⟩ : ∃ w, w = sv xs0 i 1 := ⟨_, rfl⟩
  have r1 : R32 w1 := sv_r e1
  obtain ⟨w2, e2⟩ : ∃ w, w = sv xs0 i 2 := ⟨_, rfl⟩
  have r2 : R32 w2 := sv_r e2
  obtain ⟨w3, e3⟩ : ∃ w, w = sv xs0 i 3 := ⟨_, rfl⟩
  have r3 : R32 w3 := sv_r e3
  obtain ⟨w4, e4⟩ : ∃ w, w = sv xs0 i 4 := ⟨_, rfl⟩
  have r4 : R32 w4 := sv_r e4
  obtain ⟨w5, e5⟩ : ∃ w, w = sv xs0 i 5 := ⟨_, rfl⟩
  have r5 : R32 w5 := sv_r e5
  have hth : -1 ≤ S 1 ∧ S 1 ≤ 3 := by omega
  have hms : 0 ≤ S 1 → MSum wd nu fo to sg cl Fq (S 1) := IvC_ms hC (by omega)
  have hwm : 0 ≤ S 1 → wfC (cM la po (S 1)) (pM pt (S 1)) := IvC_wm hC (by omega)
  have hw : S 20 = 0 ∨ S 20 = 1 := by omega
  have hpl := hA.1
  have hmk := hA.2
  have hsg := hG.1
  have hla := hG.2.2.1
  have hco := hN.1
  have hfi := a4
  have hof := a6
  have hoo := hN.2
  have hru := a5
  have hrw := hR.2.2.1
  have hrr : ∀ j, 0 ≤ j → j < S 23 → (0 ≤ kd j ∧ kd j ≤ 6) ∧ (0 ≤ vv j ∧ vv j ≤ 20) ∧ (0 ≤ hd j ∧ hd j ≤ 12) := fun j h1 h2 => ⟨(hR.2.1 j h1 (by omega)).1, (hR.2.1 j h1 (by omega)).2.1, (hR.2.1 j h1 (by omega)).2.2.1⟩
  have hso : ∀ j, 0 ≤ j → j < 6 → -1 ≤ ts j ∧ ts j ≤ 4 := fun j h1 h2 => (hK.1 j h1 h2).1
  have hln : ∀ j, 0 ≤ j → j < 6 → 0 ≤ tl j ∧ tl j ≤ 60 := fun j h1 h2 => (hK.1 j h1 h2).2.1
  have hle := hln
  have hit := hK.2.1
  have KM : ∀ (ws1 : va_W) (T9 : Nat → Int) (r9 : Option Nat) (Y9 : Nat → Int) (cx9 : Int → Int) (pn9 : Int → Int) (kn9 : Int → Int) (Z9 : Nat → Int) (v : Int), (v = (if (¬ S 1 < 0 ∧ (0 ≤ w1 ∧ w1 ≤ 11) ∧ (0 ≤ w2 ∧ w2 ≤ la (9 * S 1 + 8)) ∧ (0 ≤ w3 ∧ w3 ≤ 8) ∧ (0 ≤ w4 ∧ w4 ≤ 8) ∧ (0 ≤ w5 ∧ w5 ≤ 1)) then waN (kD (cM la po (S 1)) (pM pt (S 1)) (fun s => smM wd nu cl Fq (S 1) 3 s (S 20)) (fun s => smM wd nu cl Fq (S 1) 7 s (S 20)) co 0 0 0 0 1) w1 (81 * w2 + 9 * w3 + w4) w5 else -9223372036854775808)) → (IvP Z9 kn9 (q + 1)) → ws1.Perm (WL E xo mo xa ad tk B bw X U V Q T9 Z9 Y9 r9 tb cx9 kn9 pn9 ck rk co so si pr co2 so2 si2 pr2 bo S tx cl wd nu fo to la po pt sg wt pl kd vv hd rm sp le mk wo mpn mr ts tl it asd co so si pr co2 so2 si2 pr2 bo ++ WF E qa qi ca pa da sa ra rr dr sr nC nR la po pt kd vv hd rm ts tl it) → J E 4 Γ (some A) (k + 24) (n + 67) ws1 733 (lsL i b0 xo mo) [.long (lZ v)] := by
    intro ws1 T9 r9 Y9 cx9 pn9 kn9 Z9 v hv hP1 hws1
    refine j_aload_n G 2 rfl dL_733 ?_
    refine j_arg G hX hb hA0 hi e1 ⟨by decide, by decide⟩ dL_734 dL_735 dL_736 dL_737 dL_738 ?_
    refine j_arg G hX hb hA0 hi e2 ⟨by decide, by decide⟩ dL_739 dL_740 dL_741 dL_742 dL_743 ?_
    refine j_arg G hX hb hA0 hi e3 ⟨by decide, by decide⟩ dL_744 dL_745 dL_746 dL_747 dL_748 ?_
    refine j_arg G hX hb hA0 hi e4 ⟨by decide, by decide⟩ dL_749 dL_750 dL_751 dL_752 dL_753 ?_
    refine j_arg G hX hb hA0 hi e5 ⟨by decide, by decide⟩ dL_754 dL_755 dL_756 dL_757 dL_758 ?_
    refine j_VMr (rest := [.long (lZ v)]) G (hws1.trans pk25) (k10_waits (xl Γ) E _ _ _ _ _ _ _ _ _ _ _ _ _ _ _ _ _ _ _ w1 w2 w3 w4 w5 r1 r2 r3 r4 r5 hth hms hwm hco hsg hpl hw hmk) mw10_waits mlL_83 10 rfl rfl rfl ⟨Nat.le_of_ble_eq_true rfl, Nat.le_of_ble_eq_true rfl⟩ rfl rfl (Nat.le_of_ble_eq_true rfl) dL_759 ⟨by show (k + 24) + 0 ≤ 600000; omega, by show (n + 67) + 0 ≤ 7302250; omega⟩ (fun r wX hr => ?_)
    obtain ⟨v2, m_pl1, m_sp1, m_le1, m_mk1, m_wo1, m_tk1, m_se1, m_mx1, m_ti1, m_nw, m_lo, m_dn, m_up, m_wa, rfl, rfl, hm⟩ := hr
    refine j_widen (k' := k + 24) (n' := n + 67) ⟨by show (k + 24) + 0 ≤ k + 24; omega, by show (n + 67) + 0 ≤ n + 67; omega⟩ ?_
    have hvv : v2 = v := hm.1.trans hv.symm
    subst hvv
    refine j_leq (tgt := 1254) G dL_762 dL_763 (by decide) ?_
    exact K _ ⟨X, U, V, Q, T9, Z9, Y9, r9, tb, cx9, kn9, pn9, ck, rk, co, so, si, pr, co2, so2, si2, pr2, bo, upS (upS (upS (upS (upS (upS (upS (upS (upS S 28 m_tk1) 29 m_se1) 30 m_mx1) 31 m_ti1) 34 m_nw) 35 m_lo) 36 m_dn) 37 m_up) 38 m_wa, tx, cl, wd, nu, fo, to, la, po, pt, sg, wt, m_pl1, kd, vv, hd, rm, m_sp1, m_le1, m_mk1, m_wo1, mpn, mr, ts, tl, it, asd, ca, pa, da, sa, ra, rr, dr, sr, nC, nR, Fq, (pb_of pk25), (by unfold IvS; (refine ⟨?_, ?_, ?_, ?_, ?_, ?_, ?_, ?_, ?_, ?_, ?_, ?_, ?_, ?_, ?_, ?_, ?_, ?_, ?_, ?_, ?_, ?_, ?_, ?_, ?_, ?_, ?_, ?_⟩ <;> first | (simp only [upS, reduceIte, Nat.reduceEqDiff, eq_self, and_true, true_and, or_true, true_or]; done) | (simp only [upS, reduceIte, Nat.reduceEqDiff, eq_self, and_true, true_and, or_true, true_or]; omega) | omega)), hP1, hT, hC, hG, ⟨hm.2.1, hm.2.2⟩, hR, hK, hN, hN2⟩
  refine j_aload_n G 1 rfl dL_704 ?_
  refine j_arg G hX hb hA0 hi e1 ⟨by decide, by decide⟩ dL_705 dL_706 dL_707 dL_708 dL_709 ?_
  refine j_arg G hX hb hA0 hi e2 ⟨by decide, by decide⟩ dL_710 dL_711 dL_712 dL_713 dL_714 ?_
  refine j_arg G hX hb hA0 hi e3 ⟨by decide, by decide⟩ dL_715 dL_716 dL_717 dL_718 dL_719 ?_
  refine j_arg G hX hb hA0 hi e4 ⟨by decide, by decide⟩ dL_720 dL_721 dL_722 dL_723 dL_724 ?_
  refine j_arg G hX hb hA0 hi e5 ⟨by decide, by decide⟩ dL_725 dL_726 dL_727 dL_728 dL_729 ?_
  by_cases hcl : S 1 < 0
  ·
    refine j_VPr (rest := []) G (hws.trans pk3) (k9_waitsn (xl Γ) E _ _ _ _ w1 w2 w3 w4 w5 r1 r2 r3 r4 r5 (by omega) (by omega)) mw9_waits mlL_80 9 rfl rfl rfl ⟨Nat.le_of_ble_eq_true rfl, Nat.le_of_ble_eq_true rfl⟩ rfl rfl (Nat.le_of_ble_eq_true rfl) dL_730 ⟨by show k ≤ 600000; omega, by show n ≤ 7302250; omega⟩ (fun r hr => ?_)
    obtain ⟨v, rfl, hx⟩ := hr
    refine j_widen (k' := k + 24) (n' := n + 67) ⟨by omega, by omega⟩ ?_
    have hy : v = (if (¬ S 1 < 0 ∧ (0 ≤ w1 ∧ w1 ≤ 11) ∧ (0 ≤ w2 ∧ w2 ≤ la (9 * S 1 + 8)) ∧ (0 ≤ w3 ∧ w3 ≤ 8) ∧ (0 ≤ w4 ∧ w4 ≤ 8) ∧ (0 ≤ w5 ∧ w5 ≤ 1)) then waN (kD (cM la po (S 1)) (pM pt (S 1)) (fun s => smM wd nu cl Fq (S 1) 3 s (S 20)) (fun s => smM wd nu cl Fq (S 1) 7 s (S 20)) co 0 0 0 0 1) w1 (81 * w2 + 9 * w3 + w4) w5 else -9223372036854775808) := by
      rw [hx, if_neg (fun z => z.1 hcl)]
    exact KM _ T r0 Y cx pn kn Z v hy (IvP_s hP) hws
  ·
    have ht0 : 0 ≤ S 1 := by omega
    obtain ⟨t, ht⟩ := Int.eq_ofNat_of_zero_le ht0
    have htn : t < nC := by omega
    obtain ⟨hc1, hc2, hc3, hc4, hc5⟩ := hC t htn
    have hu3e : U 3 = S 1 := by omega
    have hu3 : 0 ≤ U 3 ∧ U 3 < X 3 ∧ X 3 ≤ 4 := by omega
    have hck : ck (U 3).toNat = some (ca t) := by rw [show (U 3).toNat = t by omega]; exact hc1
    have hU1 : U 1 = 0 ∨ U 1 = 1 := by omega
    have hdr : ∀ j, 0 ≤ j → j < 24 → 0 ≤ dr t j ∧ dr t j ≤ 11988 := fun j h1 h2 => by rw [(hc5 j h1 h2).1]; exact smM_r hc2 _ _ _
    have hDW := dw_of (hms ht0) ht hc5 a3 a17
    have hu2 : 0 ≤ U 2 ∧ U 2 ≤ 40 := by omega
    refine j_VMr (rest := []) G ((hws.trans (op1 htn)).trans pk26) (k9_waitsc (xl Γ) E _ _ _ _ _ _ _ _ _ _ _ _ _ _ _ _ _ _ _ _ _ ((fun s => smM wd nu cl Fq (S 1) 3 s (S 20))) ((fun s => smM wd nu cl Fq (S 1) 7 s (S 20))) w1 w2 w3 w4 w5 r1 r2 r3 r4 r5 hu3 hck hc3 hU1 hdr hco (fun s h1 h2 => hDW s h1 h2) hP.1 (by have := hP.2; omega) hu2) mw9_waits mlL_80 9 rfl rfl rfl ⟨Nat.le_of_ble_eq_true rfl, Nat.le_of_ble_eq_true rfl⟩ rfl rfl (Nat.le_of_ble_eq_true rfl) dL_730 ⟨by show k + 0 ≤ 600000; omega, by show n + 0 ≤ 7302250; omega⟩ (fun r wX hr => ?_)
    obtain ⟨v, x_T1, x_r1, x_Y1, x_cx1, x_kn1, x_pn1, x_q1, x_q2, rfl, rfl, hx⟩ := hr
    refine j_widen (k' := k + 24) (n' := n + 67) ⟨by show k + 0 ≤ k + 24; omega, by show n + 0 ≤ n + 67; omega⟩ ?_
    rw [← ht] at hx
    have hy : v = (if (¬ S 1 < 0 ∧ (0 ≤ w1 ∧ w1 ≤ 11) ∧ (0 ≤ w2 ∧ w2 ≤ la (9 * S 1 + 8)) ∧ (0 ≤ w3 ∧ w3 ≤ 8) ∧ (0 ≤ w4 ∧ w4 ≤ 8) ∧ (0 ≤ w5 ∧ w5 ≤ 1)) then waN (kD (cM la po (S 1)) (pM pt (S 1)) (fun s => smM wd nu cl Fq (S 1) 3 s (S 20)) (fun s => smM wd nu cl Fq (S 1) 7 s (S 20)) co 0 0 0 0 1) w1 (81 * w2 + 9 * w3 + w4) w5 else -9223372036854775808) := by
      by_cases c : (0 ≤ w1 ∧ w1 ≤ 11) ∧ (0 ≤ w2 ∧ w2 ≤ la (9 * S 1 + 8)) ∧ (0 ≤ w3 ∧ w3 ≤ 8) ∧ (0 ≤ w4 ∧ w4 ≤ 8) ∧ (0 ≤ w5 ∧ w5 ≤ 1)
      · rw [if_pos ⟨hcl, c⟩]; exact hx.1.trans (if_pos c)
      · rw [if_neg (fun z => c z.2)]; exact hx.1.trans (if_neg c)
    exact KM _ x_T1 x_r1 x_Y1 x_cx1 x_pn1 x_kn1 (upS (upS Z 1 x_q1) 2 x_q2) v hy (IvP_n hP hx.2.1 hx.2.2 rfl) ((pb_of pk26).trans (op1 (f := fC E ca pa da sa la po pt dr sr) htn).symm)
set_option maxHeartbeats 4000000 in
set_option maxRecDepth 100000 in
theorem arm16 {E : En} {Γ : Ctx} {A : Nat → Prop} {b0 Ls : Nat} {xs0 : Nat → Int32} {i : Int} {k n q : Nat} {ws : va_W} {xo : Nat} {mo : Nat} {xa : Nat → Nat} {ad : Nat → Nat} {qa : Nat → Nat} {qi : Nat → Nat} {tk : Nat → Option Nat} {B : Nat → Int} {bw : Int → Int} (hL : LawC E Γ A b0 Ls xs0 i k n q tk qa B) (hg : Good E xo mo xa ad qa qi tk B bw q ws) (K : ∀ ws', Good E xo mo xa ad qa qi tk B bw (q + 1) ws' → J E 4 Γ (some A) (k + 24) (n + 67) ws' 1254 (lsL i b0 xo mo) []) : J E 4 Γ (some A) k n ws 768 (lsL i b0 xo mo) [] := by
  obtain ⟨G, hX, hb, hA0, hi, hkn, hq, htk6, hBs⟩ := hL
  refine Good_e hg (fun X U V Q T Z Y r0 tb cx kn pn ck rk co so si pr co2 so2 si2 pr2 bo S tx cl wd nu fo to la po pt sg wt pl kd vv hd rm sp le mk wo mpn mr ts tl it asd ca pa da sa ra rr dr sr nC nR Fq hws hS hP hT hC hG hA hR hK hN hN2 => ?_)
  have hs := hS
  unfold IvS at hs
  obtain ⟨a0, a1, a2, a3, a4, a5, a6, a7, a8, a9, a10, a11, a12, a13, a14, a15, a16, a17, a18, a19, a20, a21, a22, a23, a24, a25, a26, a27⟩ := hs
  have hth : -1 ≤ S 1 ∧ S 1 ≤ 3 := by omega
  have hms : 0 ≤ S 1 → MSum wd nu fo to sg cl Fq (S 1) := IvC_ms hC (by omega)
  have hwm : 0 ≤ S 1 → wfC (cM la po (S 1)) (pM pt (S 1)) := IvC_wm hC (by omega)
  have hw : S 20 = 0 ∨ S 20 = 1 := by omega
  have hpl := hA.1
  have hmk := hA.2
  have hsg := hG.1
  have hla := hG.2.2.1
  have hco := hN.1
  have hfi := a4
  have hof := a6
  have hoo := hN.2
  have hru := a5
  have hrw := hR.2.2.1
  have hrr : ∀ j, 0 ≤ j → j < S 23 → (0 ≤ kd j ∧ kd j ≤ 6) ∧ (0 ≤ vv j ∧ vv j ≤ 20) ∧ (0 ≤ hd j ∧ hd j ≤ 12) := fun j h1 h2 => ⟨(hR.2.1 j h1 (by omega)).1, (hR.2.1 j h1 (by omega)).2.1, (hR.2.1 j h1 (by omega)).2.2.1⟩
  have hso : ∀ j, 0 ≤ j → j < 6 → -1 ≤ ts j ∧ ts j ≤ 4 := fun j h1 h2 => (hK.1 j h1 h2).1
  have hln : ∀ j, 0 ≤ j → j < 6 → 0 ≤ tl j ∧ tl j ≤ 60 := fun j h1 h2 => (hK.1 j h1 h2).2.1
  have hle := hln
  have hit := hK.2.1
  have KM : ∀ (ws1 : va_W) (T9 : Nat → Int) (r9 : Option Nat) (Y9 : Nat → Int) (cx9 : Int → Int) (pn9 : Int → Int) (kn9 : Int → Int) (Z9 : Nat → Int) (v : Int), (v = (if ¬ S 1 < 0 then beF (kB (cM la po (S 1)) (pM pt (S 1)) (fun s => smM wd nu cl Fq (S 1) 3 s (S 20)) (fun s => smM wd nu cl Fq (S 1) 7 s (S 20)) co 1) (81 * S 21) 12 0 0 (-1) else -1)) → (IvP Z9 kn9 (q + 1)) → ws1.Perm (WL E xo mo xa ad tk B bw X U V Q T9 Z9 Y9 r9 tb cx9 kn9 pn9 ck rk co so si pr co2 so2 si2 pr2 bo S tx cl wd nu fo to la po pt sg wt pl kd vv hd rm sp le mk wo mpn mr ts tl it asd co so si pr co2 so2 si2 pr2 bo ++ WF E qa qi ca pa da sa ra rr dr sr nC nR la po pt kd vv hd rm ts tl it) → J E 4 Γ (some A) (k + 24) (n + 67) ws1 772 (lsL i b0 xo mo) [.int (iZ v)] := by
    intro ws1 T9 r9 Y9 cx9 pn9 kn9 Z9 v hv hP1 hws1
    refine j_aload_n G 2 rfl dL_772 ?_
    refine j_VMr (rest := [.int (iZ v)]) G (hws1.trans pk27) (k10_bell (xl Γ) E _ _ _ _ _ _ _ _ _ _ _ _ _ _ _ _ _ _ _ _ _ _ hth hms hwm hco hsg hpl hw hmk hfi) mw10_bell mlL_87 10 rfl rfl rfl ⟨Nat.le_of_ble_eq_true rfl, Nat.le_of_ble_eq_true rfl⟩ rfl rfl (Nat.le_of_ble_eq_true rfl) dL_773 ⟨by show (k + 24) + 0 ≤ 600000; omega, by show (n + 67) + 0 ≤ 7302250; omega⟩ (fun r wX hr => ?_)
    obtain ⟨v2, m_pl1, m_sp1, m_le1, m_mk1, m_wo1, m_pn1, m_tk1, m_se1, m_mx1, m_ti1, m_nw, m_lo, m_dn, m_up, m_wa, m_su, m_sd, m_wt, m_sl, m_es, m_tr, rfl, rfl, hm⟩ := hr
    refine j_widen (k' := k + 24) (n' := n + 67) ⟨by show (k + 24) + 0 ≤ k + 24; omega, by show (n + 67) + 0 ≤ n + 67; omega⟩ ?_
    have hvv : v2 = v := hm.1.trans hv.symm
    subst hvv
    refine j_ieq (tgt := 1254) G dL_776 (by decide) ?_
    exact K _ ⟨X, U, V, Q, T9, Z9, Y9, r9, tb, cx9, kn9, pn9, ck, rk, co, so, si, pr, co2, so2, si2, pr2, bo, upS (upS (upS (upS (upS (upS (upS (upS (upS (upS (upS (upS (upS (upS (upS S 28 m_tk1) 29 m_se1) 30 m_mx1) 31 m_ti1) 34 m_nw) 35 m_lo) 36 m_dn) 37 m_up) 38 m_wa) 41 m_su) 42 m_sd) 43 m_wt) 44 m_sl) 45 m_es) 46 m_tr, tx, cl, wd, nu, fo, to, la, po, pt, sg, wt, m_pl1, kd, vv, hd, rm, m_sp1, m_le1, m_mk1, m_wo1, m_pn1, mr, ts, tl, it, asd, ca, pa, da, sa, ra, rr, dr, sr, nC, nR, Fq, (pb_of pk27), (by unfold IvS; (refine ⟨?_, ?_, ?_, ?_, ?_, ?_, ?_, ?_, ?_, ?_, ?_, ?_, ?_, ?_, ?_, ?_, ?_, ?_, ?_, ?_, ?_, ?_, ?_, ?_, ?_, ?_, ?_, ?_⟩ <;> first | (simp only [upS, reduceIte, Nat.reduceEqDiff, eq_self, and_true, true_and, or_true, true_or]; done) | (simp only [upS, reduceIte, Nat.reduceEqDiff, eq_self, and_true, true_and, or_true, true_or]; omega) | omega)), hP1, hT, hC, hG, ⟨hm.2.1, hm.2.2⟩, hR, hK, hN, hN2⟩
  refine j_aload_n G 1 rfl dL_768 ?_
  by_cases hcl : S 1 < 0
  ·
    refine j_VPr (rest := []) G (hws.trans pk3) (k9_belln (xl Γ) E _ _ _ _ (by omega) (by omega)) mw9_bell mlL_84 9 rfl rfl rfl ⟨Nat.le_of_ble_eq_true rfl, Nat.le_of_ble_eq_true rfl⟩ rfl rfl (Nat.le_of_ble_eq_true rfl) dL_769 ⟨by show k ≤ 600000; omega, by show n ≤ 7302250; omega⟩ (fun r hr => ?_)
    obtain ⟨v, rfl, hx⟩ := hr
    refine j_widen (k' := k + 24) (n' := n + 67) ⟨by omega, by omega⟩ ?_
    have hy : v = (if ¬ S 1 < 0 then beF (kB (cM la po (S 1)) (pM pt (S 1)) (fun s => smM wd nu cl Fq (S 1) 3 s (S 20)) (fun s => smM wd nu cl Fq (S 1) 7 s (S 20)) co 1) (81 * S 21) 12 0 0 (-1) else -1) := by
      rw [hx, if_neg (fun z => z hcl)]
    exact KM _ T r0 Y cx pn kn Z v hy (IvP_s hP) hws
  ·
    have ht0 : 0 ≤ S 1 := by omega
    obtain ⟨t, ht⟩ := Int.eq_ofNat_of_zero_le ht0
    have htn : t < nC := by omega
    obtain ⟨hc1, hc2, hc3, hc4, hc5⟩ := hC t htn
    have hu3e : U 3 = S 1 := by omega
    have hu3 : 0 ≤ U 3 ∧ U 3 < X 3 ∧ X 3 ≤ 4 := by omega
    have hck : ck (U 3).toNat = some (ca t) := by rw [show (U 3).toNat = t by omega]; exact hc1
    have hU1 : U 1 = 0 ∨ U 1 = 1 := by omega
    have hdr : ∀ j, 0 ≤ j → j < 24 → 0 ≤ dr t j ∧ dr t j ≤ 11988 := fun j h1 h2 => by rw [(hc5 j h1 h2).1]; exact smM_r hc2 _ _ _
    have hDW := dw_of (hms ht0) ht hc5 a3 a17
    have hu2 : 0 ≤ U 2 ∧ U 2 ≤ 40 := by omega
    refine j_VMr (rest := []) G ((hws.trans (op1 htn)).trans pk26) (k9_bellc (xl Γ) E _ _ _ _ _ _ _ _ _ _ _ _ _ _ _ _ _ _ _ _ _ ((fun s => smM wd nu cl Fq (S 1) 3 s (S 20))) ((fun s => smM wd nu cl Fq (S 1) 7 s (S 20))) hu3 hck hc3 hU1 hdr hco (fun s h1 h2 => hDW s h1 h2) hP.1 (by have := hP.2; omega) hu2) mw9_bell mlL_84 9 rfl rfl rfl ⟨Nat.le_of_ble_eq_true rfl, Nat.le_of_ble_eq_true rfl⟩ rfl rfl (Nat.le_of_ble_eq_true rfl) dL_769 ⟨by show k + 24 ≤ 600000; omega, by show n + 60 ≤ 7302250; omega⟩ (fun r wX hr => ?_)
    obtain ⟨v, x_T1, x_r1, x_Y1, x_cx1, x_kn1, x_pn1, x_q1, x_q2, rfl, rfl, hx⟩ := hr
    refine j_widen (k' := k + 24) (n' := n + 67) ⟨by show k + 24 ≤ k + 24; omega, by show n + 60 ≤ n + 67; omega⟩ ?_
    rw [← ht] at hx
    have hy : v = (if ¬ S 1 < 0 then beF (kB (cM la po (S 1)) (pM pt (S 1)) (fun s => smM wd nu cl Fq (S 1) 3 s (S 20)) (fun s => smM wd nu cl Fq (S 1) 7 s (S 20)) co 1) (81 * S 21) 12 0 0 (-1) else -1) := by
      rw [hx.1, if_pos hcl, a18]
    exact KM _ x_T1 x_r1 x_Y1 x_cx1 x_pn1 x_kn1 (upS (upS Z 1 x_q1) 2 x_q2) v hy (IvP_n hP hx.2.1 hx.2.2 rfl) ((pb_of pk26).trans (op1 (f := fC E ca pa da sa la po pt dr sr) htn).symm)
