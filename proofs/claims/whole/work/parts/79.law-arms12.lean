set_option maxHeartbeats 4000000 in
set_option maxRecDepth 100000 in
theorem arm1 {E : En} {Γ : Ctx} {A : Nat → Prop} {b0 Ls : Nat} {xs0 : Nat → Int32} {i : Int} {k n q : Nat} {ws : va_W} {xo : Nat} {mo : Nat} {xa : Nat → Nat} {ad : Nat → Nat} {qa : Nat → Nat} {qi : Nat → Nat} {tk : Nat → Option Nat} {B : Nat → Int} {bw : Int → Int} (hL : LawC E Γ A b0 Ls xs0 i k n q tk qa B) (hg : Good E xo mo xa ad qa qi tk B bw q ws) (K : ∀ ws', Good E xo mo xa ad qa qi tk B bw (q + 1) ws' → J E 4 Γ (some A) (k + 24) (n + 67) ws' 1254 (lsL i b0 xo mo) []) : J E 4 Γ (some A) k n ws 205 (lsL i b0 xo mo) [] := by
  obtain ⟨G, hX, hb, hA0, hi, hkn, hq, htk6, hBs⟩ := hL
  refine Good_e hg (fun X U V Q T Z Y r0 tb cx kn pn ck rk co so si pr co2 so2 si2 pr2 bo S tx cl wd nu fo to la po pt sg wt pl kd vv hd rm sp le mk wo mpn mr ts tl it asd ca pa da sa ra rr dr sr nC nR Fq hws hS hP hT hC hG hA hR hK hN hN2 => ?_)
  have hs := hS
  unfold IvS at hs
  obtain ⟨a0, a1, a2, a3, a4, a5, a6, a7, a8, a9, a10, a11, a12, a13, a14, a15, a16, a17, a18, a19, a20, a21, a22, a23, a24, a25, a26, a27⟩ := hs
  obtain ⟨hg1, hg2, hg3, hg4⟩ := hG
  have KMf : ∀ (ws1 : va_W) (v : Int), (S 0 = 4) → (v = -4) → ws1.Perm (WL E xo mo xa ad tk B bw X U V Q T Z Y r0 tb cx kn pn ck rk co so si pr co2 so2 si2 pr2 bo S tx cl wd nu fo to la po pt sg wt pl kd vv hd rm sp le mk wo mpn mr ts tl it asd co so si pr co2 so2 si2 pr2 bo ++ WF E qa qi ca pa da sa ra rr dr sr nC nR la po pt kd vv hd rm ts tl it) → J E 4 Γ (some A) (k + 24) (n + 67) ws1 209 (lsL i b0 xo mo) [.int (iZ v)] := by
    intro ws1 v h4 hv hws1
    refine j_aload_n G 2 rfl dL_209 ?_
    refine j_VMr (rest := [.int (iZ v)]) G (hws1.trans pk45) (k10_cliff (xl Γ) E _ _ _ _ _ _ _ _ _ _ _ _ _ _ (fun j h1 h2 => ⟨(hT j h1 h2).2.1, (hT j h1 h2).2.2⟩) a2 a0 a4 hg1 hg2 (fun j h1 h2 => hg4 j (by omega) h2)) mw10_cliff mlL_22 10 rfl rfl rfl ⟨Nat.le_of_ble_eq_true rfl, Nat.le_of_ble_eq_true rfl⟩ rfl rfl (Nat.le_of_ble_eq_true rfl) dL_210 ⟨by show (k + 24) + 0 ≤ 600000; omega, by show (n + 67) + 0 ≤ 7302250; omega⟩ (fun r wX hr => ?_)
    obtain ⟨v2, m_wd1, m_nu1, m_fo1, m_to1, m_sg1, m_wt1, m_cl1, m_la1, m_po1, m_pt1, m_az1, m_dg1, m_e1, m_w1, m_o1, m_fd1, m_c1, m_t1, m_f1, rfl, rfl, hm⟩ := hr
    refine j_widen (k' := k + 24) (n' := n + 67) ⟨by show (k + 24) + 0 ≤ k + 24; omega, by show (n + 67) + 0 ≤ n + 67; omega⟩ ?_
    rcases hm with ⟨g0, hm, rfl, rfl, rfl, rfl, rfl, rfl, rfl, rfl, rfl, rfl, g1, g2, g3, g4⟩ | ⟨⟨g0, -⟩, -⟩ | ⟨⟨g0, -⟩, -⟩
    ·
      have hvv : v2 = v := hm.trans hv.symm
      subst hvv
      refine j_ieq (tgt := 1254) G dL_213 (by decide) ?_
      exact K _ ⟨X, U, V, Q, T, Z, Y, r0, tb, cx, kn, pn, ck, rk, co, so, si, pr, co2, so2, si2, pr2, bo, upS (upS (upS (upS (upS (upS (upS (upS (upS S 3 m_az1) 4 m_dg1) 16 m_e1) 17 m_w1) 18 m_o1) 2 m_fd1) 0 m_c1) 1 m_t1) 21 m_f1, tx, _, _, _, _, _, _, _, _, _, _, pl, kd, vv, hd, rm, sp, le, mk, wo, mpn, mr, ts, tl, it, asd, ca, pa, da, sa, ra, rr, dr, sr, nC, nR, Fq, (pb_of pk45), (by unfold IvS; (refine ⟨?_, ?_, ?_, ?_, ?_, ?_, ?_, ?_, ?_, ?_, ?_, ?_, ?_, ?_, ?_, ?_, ?_, ?_, ?_, ?_, ?_, ?_, ?_, ?_, ?_, ?_, ?_, ?_⟩ <;> first | (simp only [upS, reduceIte, Nat.reduceEqDiff, eq_self, and_true, true_and, or_true, true_or]; done) | (simp only [upS, reduceIte, Nat.reduceEqDiff, eq_self, and_true, true_and, or_true, true_or]; omega) | omega)), (IvP_s hP), hT, hC, ⟨hg1, hg2, hg3, hg4⟩, hA, hR, hK, hN, hN2⟩
    · exact absurd h4 (by omega)
    · exact absurd h4 (by omega)
  have KMe : ∀ (ws1 : va_W) (v : Int), (S 0 < 4) → ((txF tx (S 2) 12 0).1 = 0) → (v = -10 - (txF tx (S 2) 12 0).2) → ws1.Perm (WL E xo mo xa ad tk B bw (upS X 1 0) U V Q T Z Y r0 tb cx kn pn ck rk co so si pr co2 so2 si2 pr2 bo S tx cl wd nu fo to la po pt sg wt pl kd vv hd rm sp le mk wo mpn mr ts tl it asd co so si pr co2 so2 si2 pr2 bo ++ WF E qa qi ca pa da sa ra rr dr sr nC nR la po pt kd vv hd rm ts tl it) → J E 4 Γ (some A) (k + 24) (n + 67) ws1 209 (lsL i b0 xo mo) [.int (iZ v)] := by
    intro ws1 v h4 htx hv hws1
    refine j_aload_n G 2 rfl dL_209 ?_
    refine j_VMr (rest := [.int (iZ v)]) G (hws1.trans pk45) (k10_cliff (xl Γ) E _ _ _ _ _ _ _ _ _ _ _ _ _ _ (fun j h1 h2 => ⟨(hT j h1 h2).2.1, (hT j h1 h2).2.2⟩) a2 a0 a4 hg1 hg2 (fun j h1 h2 => hg4 j (by omega) h2)) mw10_cliff mlL_22 10 rfl rfl rfl ⟨Nat.le_of_ble_eq_true rfl, Nat.le_of_ble_eq_true rfl⟩ rfl rfl (Nat.le_of_ble_eq_true rfl) dL_210 ⟨by show (k + 24) + 0 ≤ 600000; omega, by show (n + 67) + 0 ≤ 7302250; omega⟩ (fun r wX hr => ?_)
    obtain ⟨v2, m_wd1, m_nu1, m_fo1, m_to1, m_sg1, m_wt1, m_cl1, m_la1, m_po1, m_pt1, m_az1, m_dg1, m_e1, m_w1, m_o1, m_fd1, m_c1, m_t1, m_f1, rfl, rfl, hm⟩ := hr
    refine j_widen (k' := k + 24) (n' := n + 67) ⟨by show (k + 24) + 0 ≤ k + 24; omega, by show (n + 67) + 0 ≤ n + 67; omega⟩ ?_
    rcases hm with ⟨g0, -⟩ | ⟨⟨g0, g1, hm, rfl, rfl, rfl, g2, g3, g4, g5⟩, ⟨b1, b2, b3, b4, b5, b6⟩, b7, b8⟩ | ⟨⟨g0, g1, -⟩, -⟩
    · exact absurd g0 (by omega)
    ·
      have hvv : v2 = v := hm.trans hv.symm
      subst hvv
      refine j_ieq (tgt := 1254) G dL_213 (by decide) ?_
      exact K _ ⟨upS X 1 0, U, V, Q, T, Z, Y, r0, tb, cx, kn, pn, ck, rk, co, so, si, pr, co2, so2, si2, pr2, bo, upS (upS (upS (upS (upS (upS (upS (upS (upS S 3 m_az1) 4 m_dg1) 16 m_e1) 17 m_w1) 18 m_o1) 2 m_fd1) 0 m_c1) 1 m_t1) 21 m_f1, tx, m_cl1, m_wd1, m_nu1, m_fo1, m_to1, _, _, _, m_sg1, m_wt1, pl, kd, vv, hd, rm, sp, le, mk, wo, mpn, mr, ts, tl, it, asd, ca, pa, da, sa, ra, rr, dr, sr, nC, nR, Fq, (pb_of pk45), (by unfold IvS; (refine ⟨?_, ?_, ?_, ?_, ?_, ?_, ?_, ?_, ?_, ?_, ?_, ?_, ?_, ?_, ?_, ?_, ?_, ?_, ?_, ?_, ?_, ?_, ?_, ?_, ?_, ?_, ?_, ?_⟩ <;> first | (simp only [upS, reduceIte, Nat.reduceEqDiff, eq_self, and_true, true_and, or_true, true_or]; done) | (simp only [upS, reduceIte, Nat.reduceEqDiff, eq_self, and_true, true_and, or_true, true_or]; omega) | omega)), (IvP_s hP), hT, (IvC_out a26 hC b1 b2 b3 b4 b5 b6 Out.rf Only.rf Out.rf (fun t _ => ⟨rfl, rfl, rfl, rfl⟩) (fun c _ => rfl)), ⟨b7, b8, hg3, hg4⟩, hA, hR, hK, hN, hN2⟩
    · exact absurd g1 (by omega)
  have KMs : ∀ (ws1 : va_W) (ca9 : Nat) (pa9 : Nat) (da9 : Nat) (sa9 : Nat) (dr9 : Int → Int) (sr9 : Int → Int) (v : Int), (S 0 < 4) → ((txF tx (S 2) 12 0).1 = 1) → (v = S 0) → (∀ j, 0 ≤ j → j < 24 → dr9 j = swF tx (S 2) 3 j (txF tx (S 2) 12 0).2.toNat ∧ sr9 j = swF tx (S 2) 7 j (txF tx (S 2) 12 0).2.toNat) → ws1.Perm ((WL E xo mo xa ad tk B bw (upS (upS X 1 0) 3 (X 3 + 1)) (upS (upS U 3 (X 3)) 2 (min (U 2) ((cvE (cvF (fun i => hdK tx (S 2) (cpos tx (S 2) i)) (fun i => clN tx (S 2) (cpos tx (S 2) i)) (txF tx (S 2) 12 0).2.toNat)).1 7))) V Q T Z Y r0 tb cx kn pn (va_up ck (X 3).toNat (some ca9)) rk co so si pr co2 so2 si2 pr2 bo S tx cl wd nu fo to la po pt sg wt pl kd vv hd rm sp le mk wo mpn mr ts tl it asd co so si pr co2 so2 si2 pr2 bo ++ ((ca9, o1 (some pa9) (some da9) (some sa9) (cvE (cvF (fun i => hdK tx (S 2) (cpos tx (S 2) i)) (fun i => clN tx (S 2) (cpos tx (S 2) i)) (txF tx (S 2) 12 0).2.toNat)).1) :: (pa9, aInt E 5 (cvE (cvF (fun i => hdK tx (S 2) (cpos tx (S 2) i)) (fun i => clN tx (S 2) (cpos tx (S 2) i)) (txF tx (S 2) 12 0).2.toNat)).2) :: (da9, aInt E 24 dr9) :: (sa9, aInt E 24 sr9) :: [])) ++ WF E qa qi ca pa da sa ra rr dr sr nC nR la po pt kd vv hd rm ts tl it) → J E 4 Γ (some A) (k + 24) (n + 67) ws1 209 (lsL i b0 xo mo) [.int (iZ v)] := by
    intro ws1 ca9 pa9 da9 sa9 dr9 sr9 v h4 htx hv hd9 hws1
    refine j_aload_n G 2 rfl dL_209 ?_
    refine j_VMr (rest := [.int (iZ v)]) G (hws1.trans pk46) (k10_cliff (xl Γ) E _ _ _ _ _ _ _ _ _ _ _ _ _ _ (fun j h1 h2 => ⟨(hT j h1 h2).2.1, (hT j h1 h2).2.2⟩) a2 a0 a4 hg1 hg2 (fun j h1 h2 => hg4 j (by omega) h2)) mw10_cliff mlL_22 10 rfl rfl rfl ⟨Nat.le_of_ble_eq_true rfl, Nat.le_of_ble_eq_true rfl⟩ rfl rfl (Nat.le_of_ble_eq_true rfl) dL_210 ⟨by show (k + 24) + 0 ≤ 600000; omega, by show (n + 67) + 0 ≤ 7302250; omega⟩ (fun r wX hr => ?_)
    obtain ⟨v2, m_wd1, m_nu1, m_fo1, m_to1, m_sg1, m_wt1, m_cl1, m_la1, m_po1, m_pt1, m_az1, m_dg1, m_e1, m_w1, m_o1, m_fd1, m_c1, m_t1, m_f1, rfl, rfl, hm⟩ := hr
    refine j_widen (k' := k + 24) (n' := n + 67) ⟨by show (k + 24) + 0 ≤ k + 24; omega, by show (n + 67) + 0 ≤ n + 67; omega⟩ ?_
    rcases hm with ⟨g0, -⟩ | ⟨⟨g0, g1, -⟩, -⟩ | ⟨⟨g0, g1, hm, gN, gN2, gC, gR, gW, g2, g3, g4, g5⟩, ⟨b1, b2, b3, b4, b5, b6⟩, ⟨b7, b8⟩, b9, bA, bB⟩
    · exact absurd g0 (by omega)
    · exact absurd g1 (by omega)
    ·
      have hvv : v2 = v := hm.trans hv.symm
      subst hvv
      refine j_ieq (tgt := 1254) G dL_213 (by decide) ?_
      rw [← gN] at hd9
      have h7 : (cvE (cvF (fun i => hdK tx (S 2) (cpos tx (S 2) i)) (fun i => clN tx (S 2) (cpos tx (S 2) i)) (txF tx (S 2) 12 0).2.toNat)).1 7 = m_la1 (9 * S 0 + 8) := by rw [← gN]; exact gR.2.2.2.2.2.2.1.symm
      have hw7 : 0 ≤ m_la1 (9 * S 0 + 8) ∧ m_la1 (9 * S 0 + 8) ≤ 40 := gW.2.2.2.2.2.2.2
      refine j_Perm (pb_of pk46) ?_
      refine j_ext2 (ws' := (WL E xo mo xa ad tk B bw (upS (upS X 1 0) 3 (X 3 + 1)) (upS (upS U 3 (X 3)) 2 (min (U 2) ((cvE (cvF (fun i => hdK tx (S 2) (cpos tx (S 2) i)) (fun i => clN tx (S 2) (cpos tx (S 2) i)) (txF tx (S 2) 12 0).2.toNat)).1 7))) V Q T Z Y r0 tb cx kn pn (va_up ck (X 3).toNat (some ca9)) rk co so si pr co2 so2 si2 pr2 bo (upS (upS (upS (upS (upS (upS (upS (upS (upS S 3 m_az1) 4 m_dg1) 16 m_e1) 17 m_w1) 18 m_o1) 2 m_fd1) 0 m_c1) 1 m_t1) 21 m_f1) tx m_cl1 m_wd1 m_nu1 m_fo1 m_to1 m_la1 m_po1 m_pt1 m_sg1 m_wt1 pl kd vv hd rm sp le mk wo mpn mr ts tl it asd co so si pr co2 so2 si2 pr2 bo ++ fC E (va_up ca nC ca9) (va_up pa nC pa9) (va_up da nC da9) (va_up sa nC sa9) m_la1 m_po1 m_pt1 (va_up dr nC dr9) (va_up sr nC sr9) nC) ++ (fam nC (fC E (va_up ca nC ca9) (va_up pa nC pa9) (va_up da nC da9) (va_up sa nC sa9) m_la1 m_po1 m_pt1 (va_up dr nC dr9) (va_up sr nC sr9)) ++ (fam nR (fR E ra rr kd vv hd rm) ++ fam 6 (fT E qa qi ts tl it)))) (fun H hH => ?_) ?_ ?_
      · exact cl_ext a26 hH (by rw [gN] at gR; exact gR) b9 bA bB
      · exact cl_adr
      · exact K _ ⟨upS (upS X 1 0) 3 (X 3 + 1), upS (upS U 3 (X 3)) 2 (min (U 2) ((cvE (cvF (fun i => hdK tx (S 2) (cpos tx (S 2) i)) (fun i => clN tx (S 2) (cpos tx (S 2) i)) (txF tx (S 2) 12 0).2.toNat)).1 7)), V, Q, T, Z, Y, r0, tb, cx, kn, pn, va_up ck (X 3).toNat (some ca9), rk, co, so, si, pr, co2, so2, si2, pr2, bo, upS (upS (upS (upS (upS (upS (upS (upS (upS S 3 m_az1) 4 m_dg1) 16 m_e1) 17 m_w1) 18 m_o1) 2 m_fd1) 0 m_c1) 1 m_t1) 21 m_f1, tx, m_cl1, m_wd1, m_nu1, m_fo1, m_to1, m_la1, m_po1, m_pt1, m_sg1, m_wt1, pl, kd, vv, hd, rm, sp, le, mk, wo, mpn, mr, ts, tl, it, asd, (va_up ca nC ca9), (va_up pa nC pa9), (va_up da nC da9), (va_up sa nC sa9), ra, rr, (va_up dr nC dr9), (va_up sr nC sr9), (nC + 1), nR, (FqN Fq tx (S 2) nC), (op1p (fun _ _ => rfl)), (by unfold IvS; (refine ⟨?_, ?_, ?_, ?_, ?_, ?_, ?_, ?_, ?_, ?_, ?_, ?_, ?_, ?_, ?_, ?_, ?_, ?_, ?_, ?_, ?_, ?_, ?_, ?_, ?_, ?_, ?_, ?_⟩ <;> first | (simp only [upS, reduceIte, Nat.reduceEqDiff, eq_self, and_true, true_and, or_true, true_or]; rw [h7]; omega) | (simp only [upS, reduceIte, Nat.reduceEqDiff, eq_self, and_true, true_and, or_true, true_or]; done) | (simp only [upS, reduceIte, Nat.reduceEqDiff, eq_self, and_true, true_and, or_true, true_or]; omega) | omega)), (IvP_s hP), hT, (IvC_new a26 hC b1 b2 b3 b4 b5 b6 b9 bA bB (by rw [a14, a26]) gN2 gC gW hd9 (by omega)), (IvG_new a26 (by omega) ⟨hg3, hg4⟩ b7 b8 b9 bB hw7), hA, hR, hK, hN, hN2⟩
  refine j_aload_n G 1 rfl dL_205 ?_
  have h01 := txF_01 tx (S 2) 12 0
  by_cases h4 : S 0 = 4
  ·
    refine j_VPr (rest := []) G (hws.trans pk15) (k9_clifff (xl Γ) E _ _ _ (by omega)) mw9_cliff mlL_18 9 rfl rfl rfl ⟨Nat.le_of_ble_eq_true rfl, Nat.le_of_ble_eq_true rfl⟩ rfl rfl (Nat.le_of_ble_eq_true rfl) dL_206 ⟨by show k ≤ 600000; omega, by show n ≤ 7302250; omega⟩ (fun r hr => ?_)
    obtain ⟨v, rfl, hx⟩ := hr
    refine j_widen (k' := k + 24) (n' := n + 67) ⟨by omega, by omega⟩ ?_
    exact KMf _ v h4 hx hws
  · rcases h01 with hz | hz
    ·
      refine j_VMr (rest := []) G (hws.trans pk1) (k9_cliffe (xl Γ) E _ _ _ _ tx (by omega) (by omega) hT (by rw [a13]; exact hz)) mw9_cliff mlL_18 9 rfl rfl rfl ⟨Nat.le_of_ble_eq_true rfl, Nat.le_of_ble_eq_true rfl⟩ rfl rfl (Nat.le_of_ble_eq_true rfl) dL_206 ⟨by show k + 5 ≤ 600000; omega, by show n + 67 ≤ 7302250; omega⟩ (fun r wX hr => ?_)
      obtain ⟨v, rfl, rfl, hx⟩ := hr
      refine j_widen (k' := k + 24) (n' := n + 67) ⟨by show k + 5 ≤ k + 24; omega, by show n + 67 ≤ n + 67; omega⟩ ?_
      rw [a13] at hx
      exact KMe _ v (by omega) hz hx (pb_of pk1)
    ·
      refine j_VMr (rest := []) G (hws.trans pk47) (k9_cliffs (xl Γ) E _ _ _ _ _ _ tx (by omega) (by omega) hT (by rw [a13]; exact hz) (by omega)) mw9_cliff mlL_18 9 rfl rfl rfl ⟨Nat.le_of_ble_eq_true rfl, Nat.le_of_ble_eq_true rfl⟩ rfl rfl (Nat.le_of_ble_eq_true rfl) dL_206 ⟨by show k + 5 ≤ 600000; omega, by show n + 67 ≤ 7302250; omega⟩ (fun r wX hr => ?_)
      obtain ⟨x_ca, x_pa, x_da, x_sa, x_C1, x_P1, x_dr1, x_sr1, rfl, rfl, hx⟩ := hr
      refine j_widen (k' := k + 24) (n' := n + 67) ⟨by show k + 5 ≤ k + 24; omega, by show n + 67 ≤ n + 67; omega⟩ ?_
      rw [a13] at hx
      obtain ⟨-, rfl, rfl, hx4⟩ := hx
      exact KMs _ x_ca x_pa x_da x_sa x_dr1 x_sr1 (X 3) (by omega) hz a14 hx4 (pb_of pk48)
