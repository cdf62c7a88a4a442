set_option maxHeartbeats 4000000 in
set_option maxRecDepth 100000 in
theorem arm27 {E : En} {Γ : Ctx} {A : Nat → Prop} {b0 Ls : Nat} {xs0 : Nat → Int32} {i : Int} {k n q : Nat} {ws : va_W} {xo : Nat} {mo : Nat} {xa : Nat → Nat} {ad : Nat → Nat} {qa : Nat → Nat} {qi : Nat → Nat} {tk : Nat → Option Nat} {B : Nat → Int} {bw : Int → Int} (hL : LawC E Γ A b0 Ls xs0 i k n q tk qa B) (hg : Good E xo mo xa ad qa qi tk B bw q ws) (K : ∀ ws', Good E xo mo xa ad qa qi tk B bw (q + 1) ws' → J E 4 Γ (some A) (k + 24) (n + 67) ws' 1254 (lsL i b0 xo mo) []) : J E 4 Γ (some A) k n ws 1041 (lsL i b0 xo mo) [] := by
  obtain ⟨G, hX, hb, hA0, hi, hkn, hq, htk6, hBs⟩ := hL
  refine Good_e hg (fun X U V Q T Z Y r0 tb cx kn pn ck rk co so si pr co2 so2 si2 pr2 bo S tx cl wd nu fo to la po pt sg wt pl kd vv hd rm sp le mk wo mpn mr ts tl it asd ca pa da sa ra rr dr sr nC nR Fq hws hS hP hT hC hG hA hR hK hN hN2 => ?_)
  have hs := hS
  unfold IvS at hs
  obtain ⟨a0, a1, a2, a3, a4, a5, a6, a7, a8, a9, a10, a11, a12, a13, a14, a15, a16, a17, a18, a19, a20, a21, a22, a23, a24, a25, a26, a27⟩ := hs
  obtain ⟨w1, e1⟩ : ∃ w, w = sv xs0 i 1 := ⟨_, rfl⟩
  have r1 : R32 w1 := sv_r e1
  obtain ⟨w2, e2⟩ : ∃ w, w = sv xs0 i 2 := ⟨_, rfl⟩
  have r2 : R32 w2 := sv_r e2
  obtain ⟨w3, e3⟩ : ∃ w, w = sv xs0 i 3 := ⟨_, rfl⟩
  have r3 : R32 w3 := sv_r e3
  have KM : ∀ (ws1 : va_W) (ts9 : Int → Int) (tl9 : Int → Int) (it9 : Int → Int) (v : Int), (v = tapeA w1 w2 w3) → ((tapeOk w1 w2 w3 ∧ ts9 = upI ts w1 w2 ∧ tl9 = upI tl w1 (tapeL w2 w3) ∧ it9 = tapeI it w1) ∨ (¬ tapeOk w1 w2 w3 ∧ ts9 = ts ∧ tl9 = tl ∧ it9 = it)) → ws1.Perm (WL E xo mo xa ad tk B bw X U V Q T Z Y r0 tb cx kn pn ck rk co so si pr co2 so2 si2 pr2 bo S tx cl wd nu fo to la po pt sg wt pl kd vv hd rm sp le mk wo mpn mr ts tl it asd co so si pr co2 so2 si2 pr2 bo ++ WF E qa qi ca pa da sa ra rr dr sr nC nR la po pt kd vv hd rm ts9 tl9 it9) → J E 4 Γ (some A) (k + 24) (n + 67) ws1 1060 (lsL i b0 xo mo) [.int (iZ v)] := by
    intro ws1 ts9 tl9 it9 v hv hx2 hws1
    refine j_aload_n G 2 rfl dL_1060 ?_
    refine j_arg G hX hb hA0 hi e1 ⟨by decide, by decide⟩ dL_1061 dL_1062 dL_1063 dL_1064 dL_1065 ?_
    refine j_arg G hX hb hA0 hi e2 ⟨by decide, by decide⟩ dL_1066 dL_1067 dL_1068 dL_1069 dL_1070 ?_
    refine j_arg G hX hb hA0 hi e3 ⟨by decide, by decide⟩ dL_1071 dL_1072 dL_1073 dL_1074 dL_1075 ?_
    refine j_VMr (rest := [.int (iZ v)]) G (hws1.trans pk36) (k10_tape (xl Γ) E _ _ _ _ _ _ w1 w2 w3 r1 r2 r3) mw10_tape mlL_131 10 rfl rfl rfl ⟨Nat.le_of_ble_eq_true rfl, Nat.le_of_ble_eq_true rfl⟩ rfl rfl (Nat.le_of_ble_eq_true rfl) dL_1076 ⟨by show (k + 24) + 0 ≤ 600000; omega, by show (n + 67) + 0 ≤ 7302250; omega⟩ (fun r wX hr => ?_)
    obtain ⟨v2, m_so1, m_le1, m_it1, rfl, rfl, hm⟩ := hr
    refine j_widen (k' := k + 24) (n' := n + 67) ⟨by show (k + 24) + 0 ≤ k + 24; omega, by show (n + 67) + 0 ≤ n + 67; omega⟩ ?_
    obtain ⟨hm, hm2⟩ := hm
    have hvv : v2 = v := hm.trans hv.symm
    subst hvv
    refine j_ieq (tgt := 1254) G dL_1079 (by decide) ?_
    rcases hx2 with ⟨f0, rfl, rfl, rfl⟩ | ⟨f0, rfl, rfl, rfl⟩ <;> rcases hm2 with ⟨g0, rfl, rfl, rfl⟩ | ⟨g0, rfl, rfl, rfl⟩
    · exact K _ ⟨X, U, V, Q, T, Z, Y, r0, tb, cx, kn, pn, ck, rk, co, so, si, pr, co2, so2, si2, pr2, bo, S, tx, cl, wd, nu, fo, to, la, po, pt, sg, wt, pl, kd, vv, hd, rm, sp, le, mk, wo, mpn, mr, _, _, _, asd, ca, pa, da, sa, ra, rr, dr, sr, nC, nR, Fq, (pb_of pk36), hS, (IvP_s hP), hT, hC, hG, hA, hR, (IvK_t hK f0), hN, hN2⟩
    · exact absurd f0 g0
    · exact absurd g0 f0
    · exact K _ ⟨X, U, V, Q, T, Z, Y, r0, tb, cx, kn, pn, ck, rk, co, so, si, pr, co2, so2, si2, pr2, bo, S, tx, cl, wd, nu, fo, to, la, po, pt, sg, wt, pl, kd, vv, hd, rm, sp, le, mk, wo, mpn, mr, _, _, _, asd, ca, pa, da, sa, ra, rr, dr, sr, nC, nR, Fq, (pb_of pk36), hS, (IvP_s hP), hT, hC, hG, hA, hR, hK, hN, hN2⟩
  refine j_aload_n G 1 rfl dL_1041 ?_
  refine j_arg G hX hb hA0 hi e1 ⟨by decide, by decide⟩ dL_1042 dL_1043 dL_1044 dL_1045 dL_1046 ?_
  refine j_arg G hX hb hA0 hi e2 ⟨by decide, by decide⟩ dL_1047 dL_1048 dL_1049 dL_1050 dL_1051 ?_
  refine j_arg G hX hb hA0 hi e3 ⟨by decide, by decide⟩ dL_1052 dL_1053 dL_1054 dL_1055 dL_1056 ?_
  by_cases htq : 0 ≤ w1 ∧ w1 ≤ 5
  ·
    obtain ⟨u, hu⟩ := Int.eq_ofNat_of_zero_le htq.1
    have hu6 : u < 6 := by omega
    have htk : tk w1.toNat = some (qa u) := by rw [show w1.toNat = u by omega]; exact htk6 u hu6
    have hLu := hK.1 u (by omega) (by omega)
    refine j_VMr (rest := []) G ((hws.trans (op3 hu6)).trans pk37) (k9_tapec (xl Γ) E _ _ _ _ _ _ _ _ w1 w2 w3 r1 r2 r3 htq htk hLu) mw9_tape mlL_128 9 rfl rfl rfl ⟨Nat.le_of_ble_eq_true rfl, Nat.le_of_ble_eq_true rfl⟩ rfl rfl (Nat.le_of_ble_eq_true rfl) dL_1057 ⟨by show k + 0 ≤ 600000; omega, by show n + 0 ≤ 7302250; omega⟩ (fun r wX hr => ?_)
    obtain ⟨v, x_l0, x_l1, x_it1, rfl, rfl, hx⟩ := hr
    refine j_widen (k' := k + 24) (n' := n + 67) ⟨by show k + 0 ≤ k + 24; omega, by show n + 0 ≤ n + 67; omega⟩ ?_
    rcases hx with ⟨hv, ⟨f0, f1, f2, f3⟩ | ⟨f0, f1, f2, f3⟩⟩
    · refine KM _ (upI ts w1 w2) (upI tl w1 (tapeL w2 w3)) (tapeI it w1) v hv (Or.inl ⟨f0, rfl, rfl, rfl⟩) ((pb_of pk37).trans (op3c (g := fT E qa qi (upI ts w1 w2) (upI tl w1 (tapeL w2 w3)) (tapeI it w1)) hu6 ?_ ?_))
      · rw [f1, f2, f3]; exact fT_tape hu
      · intro j h1 h2; exact fT_other hu h1 h2
    · refine KM _ ts tl it v hv (Or.inr ⟨f0, rfl, rfl, rfl⟩) ((pb_of pk37).trans (op3c (g := fT E qa qi ts tl it) hu6 ?_ ?_))
      · rw [f1, f2, f3]; exact fT_same
      · intro j h1 h2; rfl
  ·
    refine j_VPr (rest := []) G (hws.trans pk15) (k9_tapen (xl Γ) E _ _ _ w1 w2 w3 r1 r2 r3 htq) mw9_tape mlL_128 9 rfl rfl rfl ⟨Nat.le_of_ble_eq_true rfl, Nat.le_of_ble_eq_true rfl⟩ rfl rfl (Nat.le_of_ble_eq_true rfl) dL_1057 ⟨by show k ≤ 600000; omega, by show n ≤ 7302250; omega⟩ (fun r hr => ?_)
    obtain ⟨v, rfl, hx⟩ := hr
    refine j_widen (k' := k + 24) (n' := n + 67) ⟨by omega, by omega⟩ ?_
    exact KM _ ts tl it v (by rw [hx]; unfold tapeA; rw [if_neg htq]) (Or.inr ⟨fun z => htq z.1, rfl, rfl, rfl⟩) hws
set_option maxHeartbeats 4000000 in
set_option maxRecDepth 100000 in
theorem arm29 {E : En} {Γ : Ctx} {A : Nat → Prop} {b0 Ls : Nat} {xs0 : Nat → Int32} {i : Int} {k n q : Nat} {ws : va_W} {xo : Nat} {mo : Nat} {xa : Nat → Nat} {ad : Nat → Nat} {qa : Nat → Nat} {qi : Nat → Nat} {tk : Nat → Option Nat} {B : Nat → Int} {bw : Int → Int} (hL : LawC E Γ A b0 Ls xs0 i k n q tk qa B) (hg : Good E xo mo xa ad qa qi tk B bw q ws) (K : ∀ ws', Good E xo mo xa ad qa qi tk B bw (q + 1) ws' → J E 4 Γ (some A) (k + 24) (n + 67) ws' 1254 (lsL i b0 xo mo) []) : J E 4 Γ (some A) k n ws 1157 (lsL i b0 xo mo) [] := by
  obtain ⟨G, hX, hb, hA0, hi, hkn, hq, htk6, hBs⟩ := hL
  refine Good_e hg (fun X U V Q T Z Y r0 tb cx kn pn ck rk co so si pr co2 so2 si2 pr2 bo S tx cl wd nu fo to la po pt sg wt pl kd vv hd rm sp le mk wo mpn mr ts tl it asd ca pa da sa ra rr dr sr nC nR Fq hws hS hP hT hC hG hA hR hK hN hN2 => ?_)
  have hs := hS
  unfold IvS at hs
  obtain ⟨a0, a1, a2, a3, a4, a5, a6, a7, a8, a9, a10, a11, a12, a13, a14, a15, a16, a17, a18, a19, a20, a21, a22, a23, a24, a25, a26, a27⟩ := hs
  obtain ⟨w1, e1⟩ : ∃ w, w = sv xs0 i 1 := ⟨_, rfl⟩
  have r1 : R32 w1 := sv_r e1
  obtain ⟨w2, e2⟩ : ∃ w, w = sv xs0 i 2 := ⟨_, rfl⟩
  have r2 : R32 w2 := sv_r e2
  have hso : ∀ j, 0 ≤ j → j < 6 → -1 ≤ ts j ∧ ts j ≤ 4 := fun j h1 h2 => (hK.1 j h1 h2).1
  have hln : ∀ j, 0 ≤ j → j < 6 → 0 ≤ tl j ∧ tl j ≤ 60 := fun j h1 h2 => (hK.1 j h1 h2).2.1
  have hle := hln
  have hit := hK.2.1
  have KM : ∀ (ws1 : va_W) (v : Int), ((readOk ts tl w1 w2 ∧ v = it (60 * w1 + w2)) ∨ (¬ readOk ts tl w1 w2 ∧ v = -9223372036854775808)) → ws1.Perm (WL E xo mo xa ad tk B bw X U V Q T Z Y r0 tb cx kn pn ck rk co so si pr co2 so2 si2 pr2 bo S tx cl wd nu fo to la po pt sg wt pl kd vv hd rm sp le mk wo mpn mr ts tl it asd co so si pr co2 so2 si2 pr2 bo ++ WF E qa qi ca pa da sa ra rr dr sr nC nR la po pt kd vv hd rm ts tl it) → J E 4 Γ (some A) (k + 24) (n + 67) ws1 1171 (lsL i b0 xo mo) [.long (lZ v)] := by
    intro ws1 v hv hws1
    refine j_aload_n G 2 rfl dL_1171 ?_
    refine j_arg G hX hb hA0 hi e1 ⟨by decide, by decide⟩ dL_1172 dL_1173 dL_1174 dL_1175 dL_1176 ?_
    refine j_arg G hX hb hA0 hi e2 ⟨by decide, by decide⟩ dL_1177 dL_1178 dL_1179 dL_1180 dL_1181 ?_
    refine j_VPr (rest := [.long (lZ v)]) G (hws1.trans pk36) (k10_read (xl Γ) E _ _ _ _ _ _ w1 w2 r1 r2 hso hle) mw10_read mlL_143 10 rfl rfl rfl ⟨Nat.le_of_ble_eq_true rfl, Nat.le_of_ble_eq_true rfl⟩ rfl rfl (Nat.le_of_ble_eq_true rfl) dL_1182 ⟨by show (k + 24) ≤ 600000; omega, by show (n + 67) ≤ 7302250; omega⟩ (fun r hr => ?_)
    obtain ⟨v2, rfl, hm⟩ := hr
    have hvv : v2 = v := by
      rcases hv with ⟨c, h⟩ | ⟨c, h⟩ <;> rcases hm with ⟨d, g⟩ | ⟨d, g⟩
      · rw [h, g]
      · exact absurd c d
      · exact absurd d c
      · rw [h, g]
    subst hvv
    refine j_leq (tgt := 1254) G dL_1185 dL_1186 (by decide) ?_
    exact K _ ⟨X, U, V, Q, T, Z, Y, r0, tb, cx, kn, pn, ck, rk, co, so, si, pr, co2, so2, si2, pr2, bo, S, tx, cl, wd, nu, fo, to, la, po, pt, sg, wt, pl, kd, vv, hd, rm, sp, le, mk, wo, mpn, mr, ts, tl, it, asd, ca, pa, da, sa, ra, rr, dr, sr, nC, nR, Fq, hws1, hS, (IvP_s hP), hT, hC, hG, hA, hR, hK, hN, hN2⟩
  refine j_aload_n G 1 rfl dL_1157 ?_
  refine j_arg G hX hb hA0 hi e1 ⟨by decide, by decide⟩ dL_1158 dL_1159 dL_1160 dL_1161 dL_1162 ?_
  refine j_arg G hX hb hA0 hi e2 ⟨by decide, by decide⟩ dL_1163 dL_1164 dL_1165 dL_1166 dL_1167 ?_
  by_cases htq : 0 ≤ w1 ∧ w1 ≤ 5
  ·
    obtain ⟨u, hu⟩ := Int.eq_ofNat_of_zero_le htq.1
    have hu6 : u < 6 := by omega
    have htk : tk w1.toNat = some (qa u) := by rw [show w1.toNat = u by omega]; exact htk6 u hu6
    have hLu := hK.1 u (by omega) (by omega)
    refine j_VPr (rest := []) G ((hws.trans (op3 hu6)).trans pk37) (k9_readc (xl Γ) E _ _ _ _ _ _ _ _ w1 w2 r1 r2 htq htk hLu) mw9_read mlL_139 9 rfl rfl rfl ⟨Nat.le_of_ble_eq_true rfl, Nat.le_of_ble_eq_true rfl⟩ rfl rfl (Nat.le_of_ble_eq_true rfl) dL_1168 ⟨by show k ≤ 600000; omega, by show n ≤ 7302250; omega⟩ (fun r hr => ?_)
    obtain ⟨v, rfl, hx⟩ := hr
    refine j_widen (k' := k + 24) (n' := n + 67) ⟨by omega, by omega⟩ ?_
    by_cases c : ¬ tU ts tl u 0 < 0 ∧ (0 ≤ w2 ∧ w2 < tU ts tl u 1)
    · rw [if_pos c] at hx
      have c1 : ¬ ts u < 0 := c.1
      have c2 : w2 < tl u := c.2.2
      have hl := hLu.2.1
      have e : tI it u w2 = it (60 * w1 + w2) := by rw [hu]; exact if_pos ⟨c.2.1, by omega⟩
      exact KM _ v (Or.inl ⟨⟨htq, by rw [hu]; exact c1, by rw [hu]; exact ⟨c.2.1, by omega⟩⟩, by rw [hx, e]⟩) hws
    · rw [if_neg c] at hx
      refine KM _ v (Or.inr ⟨fun z => c ?_, hx⟩) hws
      obtain ⟨z1, z2, z3⟩ := z
      rw [hu] at z2 z3
      exact ⟨z2, z3.1, by show w2 < tl u; omega⟩
  ·
    refine j_VPr (rest := []) G (hws.trans pk15) (k9_readn (xl Γ) E _ _ _ w1 w2 r1 r2 htq) mw9_read mlL_139 9 rfl rfl rfl ⟨Nat.le_of_ble_eq_true rfl, Nat.le_of_ble_eq_true rfl⟩ rfl rfl (Nat.le_of_ble_eq_true rfl) dL_1168 ⟨by show k ≤ 600000; omega, by show n ≤ 7302250; omega⟩ (fun r hr => ?_)
    obtain ⟨v, rfl, hx⟩ := hr
    refine j_widen (k' := k + 24) (n' := n + 67) ⟨by omega, by omega⟩ ?_
    exact KM _ v (Or.inr ⟨fun z => htq z.1, hx⟩) hws
