set_option maxHeartbeats 4000000 in
set_option maxRecDepth 100000 in
theorem arm20 {E : En} {Γ : Ctx} {A : Nat → Prop} {b0 Ls : Nat} {xs0 : Nat → Int32} {i : Int} {k n q : Nat} {ws : va_W} {xo : Nat} {mo : Nat} {xa : Nat → Nat} {ad : Nat → Nat} {qa : Nat → Nat} {qi : Nat → Nat} {tk : Nat → Option Nat} {B : Nat → Int} {bw : Int → Int} (hL : LawC E Γ A b0 Ls xs0 i k n q tk qa B) (hg : Good E xo mo xa ad qa qi tk B bw q ws) (K : ∀ ws', Good E xo mo xa ad qa qi tk B bw (q + 1) ws' → J E 4 Γ (some A) (k + 24) (n + 67) ws' 1254 (lsL i b0 xo mo) []) : J E 4 Γ (some A) k n ws 860 (lsL i b0 xo mo) [] := by
  obtain ⟨G, hX, hb, hA0, hi, hkn, hq, htk6, hBs⟩ := hL
  refine Good_e hg (fun X U V Q T Z Y r0 tb cx kn pn ck rk co so si pr co2 so2 si2 pr2 bo S tx cl wd nu fo to la po pt sg wt pl kd vv hd rm sp le mk wo mpn mr ts tl it asd ca pa da sa ra rr dr sr nC nR Fq hws hS hP hT hC hG hA hR hK hN hN2 => ?_)
  have hs := hS
  unfold IvS at hs
  obtain ⟨a0, a1, a2, a3, a4, a5, a6, a7, a8, a9, a10, a11, a12, a13, a14, a15, a16, a17, a18, a19, a20, a21, a22, a23, a24, a25, a26, a27⟩ := hs
  obtain ⟨w1, e1⟩ : ∃ w, w = sv xs0 i 1 := ⟨_, rfl⟩
  have r1 : R32 w1 := sv_r e1
  obtain ⟨w2, e2⟩ : ∃ w, w = sv xs0 i 2 := ⟨_, rfl⟩
  have r2 : R32 w2 := sv_r e2
  have hth : -1 ≤ S 1 ∧ S 1 ≤ 3 := by omega
  have hms : 0 ≤ S 1 → MSum wd nu fo to sg cl Fq (S 1) := IvC_ms hC (by omega)
  have hwm : 0 ≤ S 1 → wfC (cM la po (S 1)) (pM pt (S 1)) := IvC_wm hC (by omega)
  have hw : S 20 = 0 ∨ S 20 = 1 := by omega
  have hpl := hA.1
  have hmk := hA.2
  have hsg := hG.1
  have hla := hG.2.2.1
  have hco := hN.1
  have hfi := a4
  have hof := a6
  have hoo := hN.2
  have hru := a5
  have hrw := hR.2.2.1
  have hrr : ∀ j, 0 ≤ j → j < S 23 → (0 ≤ kd j ∧ kd j ≤ 6) ∧ (0 ≤ vv j ∧ vv j ≤ 20) ∧ (0 ≤ hd j ∧ hd j ≤ 12) := fun j h1 h2 => ⟨(hR.2.1 j h1 (by omega)).1, (hR.2.1 j h1 (by omega)).2.1, (hR.2.1 j h1 (by omega)).2.2.1⟩
  have hso : ∀ j, 0 ≤ j → j < 6 → -1 ≤ ts j ∧ ts j ≤ 4 := fun j h1 h2 => (hK.1 j h1 h2).1
  have hln : ∀ j, 0 ≤ j → j < 6 → 0 ≤ tl j ∧ tl j ≤ 60 := fun j h1 h2 => (hK.1 j h1 h2).2.1
  have hle := hln
  have hit := hK.2.1
  have KM : ∀ (ws1 : va_W) (T9 : Nat → Int) (r9 : Option Nat) (Y9 : Nat → Int) (cx9 : Int → Int) (pn9 : Int → Int) (v : Int), (v = (if (0 ≤ w1 ∧ w1 ≤ 5) ∧ ¬ S 1 < 0 then (if 0 ≤ ts w1 ∧ ts w1 ≠ 2 then -12 else juF (cM la po (S 1)) (pM pt (S 1)) (fun s => smM wd nu cl Fq (S 1) 3 s (S 20)) (kD (cM la po (S 1)) (pM pt (S 1)) (fun s => smM wd nu cl Fq (S 1) 3 s (S 20)) (fun s => smM wd nu cl Fq (S 1) 7 s (S 20)) co 0 0 0 0 1) (ts w1) (tl w1) (60 * w1) w2 it 12 0 (81 * S 21)) else -1)) → ws1.Perm (WL E xo mo xa ad tk B bw X U V Q T9 Z Y9 r9 tb cx9 kn pn9 ck rk co so si pr co2 so2 si2 pr2 bo S tx cl wd nu fo to la po pt sg wt pl kd vv hd rm sp le mk wo mpn mr ts tl it asd co so si pr co2 so2 si2 pr2 bo ++ WF E qa qi ca pa da sa ra rr dr sr nC nR la po pt kd vv hd rm ts tl it) → J E 4 Γ (some A) (k + 24) (n + 67) ws1 874 (lsL i b0 xo mo) [.int (iZ v)] := by
    intro ws1 T9 r9 Y9 cx9 pn9 v hv hws1
    refine j_aload_n G 2 rfl dL_874 ?_
    refine j_arg G hX hb hA0 hi e1 ⟨by decide, by decide⟩ dL_875 dL_876 dL_877 dL_878 dL_879 ?_
    refine j_arg G hX hb hA0 hi e2 ⟨by decide, by decide⟩ dL_880 dL_881 dL_882 dL_883 dL_884 ?_
    refine j_VMr (rest := [.int (iZ v)]) G (hws1.trans pk34) (k10_judge (xl Γ) E _ _ _ _ _ _ _ _ _ _ _ _ _ _ _ _ _ _ _ _ w1 w2 r1 r2 hth hms hwm hco hsg hpl hw hfi hso hln hit) mw10_judge mlL_103 10 rfl rfl rfl ⟨Nat.le_of_ble_eq_true rfl, Nat.le_of_ble_eq_true rfl⟩ rfl rfl (Nat.le_of_ble_eq_true rfl) dL_885 ⟨by show (k + 24) + 0 ≤ 600000; omega, by show (n + 67) + 0 ≤ 7302250; omega⟩ (fun r wX hr => ?_)
    obtain ⟨v2, m_pl1, m_sp1, m_le1, m_tk1, m_se1, m_mx1, m_ti1, m_nw, m_lo, m_dn, m_up, m_wa, rfl, rfl, hm⟩ := hr
    refine j_widen (k' := k + 24) (n' := n + 67) ⟨by show (k + 24) + 0 ≤ k + 24; omega, by show (n + 67) + 0 ≤ n + 67; omega⟩ ?_
    have hvv : v2 = v := hm.1.trans hv.symm
    subst hvv
    refine j_ieq (tgt := 1254) G dL_888 (by decide) ?_
    exact K _ ⟨X, U, V, Q, T9, Z, Y9, r9, tb, cx9, kn, pn9, ck, rk, co, so, si, pr, co2, so2, si2, pr2, bo, upS (upS (upS (upS (upS (upS (upS (upS (upS S 28 m_tk1) 29 m_se1) 30 m_mx1) 31 m_ti1) 34 m_nw) 35 m_lo) 36 m_dn) 37 m_up) 38 m_wa, tx, cl, wd, nu, fo, to, la, po, pt, sg, wt, m_pl1, kd, vv, hd, rm, m_sp1, m_le1, mk, wo, mpn, mr, ts, tl, it, asd, ca, pa, da, sa, ra, rr, dr, sr, nC, nR, Fq, (pb_of pk34), (by unfold IvS; (refine ⟨?_, ?_, ?_, ?_, ?_, ?_, ?_, ?_, ?_, ?_, ?_, ?_, ?_, ?_, ?_, ?_, ?_, ?_, ?_, ?_, ?_, ?_, ?_, ?_, ?_, ?_, ?_, ?_⟩ <;> first | (simp only [upS, reduceIte, Nat.reduceEqDiff, eq_self, and_true, true_and, or_true, true_or]; done) | (simp only [upS, reduceIte, Nat.reduceEqDiff, eq_self, and_true, true_and, or_true, true_or]; omega) | omega)), (IvP_s hP), hT, hC, hG, ⟨hm.2, hmk⟩, hR, hK, hN, hN2⟩
  refine j_aload_n G 1 rfl dL_860 ?_
  refine j_arg G hX hb hA0 hi e1 ⟨by decide, by decide⟩ dL_861 dL_862 dL_863 dL_864 dL_865 ?_
  refine j_arg G hX hb hA0 hi e2 ⟨by decide, by decide⟩ dL_866 dL_867 dL_868 dL_869 dL_870 ?_
  by_cases hcl : S 1 < 0
  ·
    refine j_VPr (rest := []) G (hws.trans pk3) (k9_judgen (xl Γ) E _ _ _ _ w1 w2 r1 r2 (by omega) (by omega)) mw9_judge mlL_100 9 rfl rfl rfl ⟨Nat.le_of_ble_eq_true rfl, Nat.le_of_ble_eq_true rfl⟩ rfl rfl (Nat.le_of_ble_eq_true rfl) dL_871 ⟨by show k ≤ 600000; omega, by show n ≤ 7302250; omega⟩ (fun r hr => ?_)
    obtain ⟨v, rfl, hx⟩ := hr
    refine j_widen (k' := k + 24) (n' := n + 67) ⟨by omega, by omega⟩ ?_
    have hy : v = (if (0 ≤ w1 ∧ w1 ≤ 5) ∧ ¬ S 1 < 0 then (if 0 ≤ ts w1 ∧ ts w1 ≠ 2 then -12 else juF (cM la po (S 1)) (pM pt (S 1)) (fun s => smM wd nu cl Fq (S 1) 3 s (S 20)) (kD (cM la po (S 1)) (pM pt (S 1)) (fun s => smM wd nu cl Fq (S 1) 3 s (S 20)) (fun s => smM wd nu cl Fq (S 1) 7 s (S 20)) co 0 0 0 0 1) (ts w1) (tl w1) (60 * w1) w2 it 12 0 (81 * S 21)) else -1) := by
      rw [hx, if_neg (fun z => z.2 hcl)]
    exact KM _ T r0 Y cx pn v hy hws
  ·
    have ht0 : 0 ≤ S 1 := by omega
    obtain ⟨t, ht⟩ := Int.eq_ofNat_of_zero_le ht0
    have htn : t < nC := by omega
    obtain ⟨hc1, hc2, hc3, hc4, hc5⟩ := hC t htn
    have hu3e : U 3 = S 1 := by omega
    have hu3 : 0 ≤ U 3 ∧ U 3 < X 3 ∧ X 3 ≤ 4 := by omega
    have hck : ck (U 3).toNat = some (ca t) := by rw [show (U 3).toNat = t by omega]; exact hc1
    have hU1 : U 1 = 0 ∨ U 1 = 1 := by omega
    have hdr : ∀ j, 0 ≤ j → j < 24 → 0 ≤ dr t j ∧ dr t j ≤ 11988 := fun j h1 h2 => by rw [(hc5 j h1 h2).1]; exact smM_r hc2 _ _ _
    have hDW := dw_of (hms ht0) ht hc5 a3 a17
    have hu2 : 0 ≤ U 2 ∧ U 2 ≤ 40 := by omega
    by_cases htq : 0 ≤ w1 ∧ w1 ≤ 5
    ·
      obtain ⟨u, hu⟩ := Int.eq_ofNat_of_zero_le htq.1
      have hu6 : u < 6 := by omega
      have htk : tk w1.toNat = some (qa u) := by rw [show w1.toNat = u by omega]; exact htk6 u hu6
      have hLu := hK.1 u (by omega) (by omega)
      refine j_VMr (rest := []) G (((hws.trans (op1 htn)).trans (op3 hu6)).trans pk35) (k9_judgec (xl Γ) E _ _ _ _ _ _ _ _ _ _ _ _ _ _ _ _ _ _ _ _ _ ((fun s => smM wd nu cl Fq (S 1) 3 s (S 20))) ((fun s => smM wd nu cl Fq (S 1) 7 s (S 20))) _ _ _ _ _ w1 w2 r1 r2 hu3 hck hc3 hU1 hdr hco (fun s h1 h2 => hDW s h1 h2) hP.1 (by have := hP.2; omega) hu2 htq htk hLu (fun j h1 h2 h3 => tI_r32 hK hu6 h3 j)) mw9_judge mlL_100 9 rfl rfl rfl ⟨Nat.le_of_ble_eq_true rfl, Nat.le_of_ble_eq_true rfl⟩ rfl rfl (Nat.le_of_ble_eq_true rfl) dL_871 ⟨by show k + 0 ≤ 600000; omega, by show n + 0 ≤ 7302250; omega⟩ (fun r wX hr => ?_)
      obtain ⟨v, x_T1, x_r1, x_Y1, x_cx1, x_pn1, rfl, rfl, hx⟩ := hr
      refine j_widen (k' := k + 24) (n' := n + 67) ⟨by show k + 0 ≤ k + 24; omega, by show n + 0 ≤ n + 67; omega⟩ ?_
      rw [← ht] at hx
      have hy : v = (if (0 ≤ w1 ∧ w1 ≤ 5) ∧ ¬ S 1 < 0 then (if 0 ≤ ts w1 ∧ ts w1 ≠ 2 then -12 else juF (cM la po (S 1)) (pM pt (S 1)) (fun s => smM wd nu cl Fq (S 1) 3 s (S 20)) (kD (cM la po (S 1)) (pM pt (S 1)) (fun s => smM wd nu cl Fq (S 1) 3 s (S 20)) (fun s => smM wd nu cl Fq (S 1) 7 s (S 20)) co 0 0 0 0 1) (ts w1) (tl w1) (60 * w1) w2 it 12 0 (81 * S 21)) else -1) := by
        rw [if_pos ⟨htq, hcl⟩]
        refine hx.trans ?_
        rw [a18, hu]
        by_cases c : 0 ≤ ts u ∧ ts u ≠ 2
        · rw [if_pos c]; exact if_pos c
        · rw [if_neg c]; exact (if_neg c).trans (juF_c hLu.2.1.2 12 0 _ (Int.le_refl 0))
      exact KM _ x_T1 x_r1 x_Y1 x_cx1 x_pn1 v hy ((pb_of pk35).trans ((op3 (f := fT E qa qi ts tl it) hu6).symm.trans (op1 (f := fC E ca pa da sa la po pt dr sr) htn).symm))
    ·
      refine j_VPr (rest := []) G ((hws.trans (op1 htn)).trans pk4) (k9_judget (xl Γ) E _ _ _ _ _ _ _ _ _ _ _ _ _ w1 w2 r1 r2 hu3 hck hc3 hU1 hdr htq) mw9_judge mlL_100 9 rfl rfl rfl ⟨Nat.le_of_ble_eq_true rfl, Nat.le_of_ble_eq_true rfl⟩ rfl rfl (Nat.le_of_ble_eq_true rfl) dL_871 ⟨by show k ≤ 600000; omega, by show n ≤ 7302250; omega⟩ (fun r hr => ?_)
      obtain ⟨v, rfl, hx⟩ := hr
      refine j_widen (k' := k + 24) (n' := n + 67) ⟨by omega, by omega⟩ ?_
      have hy : v = (if (0 ≤ w1 ∧ w1 ≤ 5) ∧ ¬ S 1 < 0 then (if 0 ≤ ts w1 ∧ ts w1 ≠ 2 then -12 else juF (cM la po (S 1)) (pM pt (S 1)) (fun s => smM wd nu cl Fq (S 1) 3 s (S 20)) (kD (cM la po (S 1)) (pM pt (S 1)) (fun s => smM wd nu cl Fq (S 1) 3 s (S 20)) (fun s => smM wd nu cl Fq (S 1) 7 s (S 20)) co 0 0 0 0 1) (ts w1) (tl w1) (60 * w1) w2 it 12 0 (81 * S 21)) else -1) := by
        rw [hx, if_neg (fun z => htq z.1)]
      exact KM _ T r0 Y cx pn v hy hws
