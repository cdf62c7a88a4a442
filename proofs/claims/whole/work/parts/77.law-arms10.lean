set_option maxHeartbeats 4000000 in
set_option maxRecDepth 100000 in
theorem arm28 {E : En} {Γ : Ctx} {A : Nat → Prop} {b0 Ls : Nat} {xs0 : Nat → Int32} {i : Int} {k n q : Nat} {ws : va_W} {xo : Nat} {mo : Nat} {xa : Nat → Nat} {ad : Nat → Nat} {qa : Nat → Nat} {qi : Nat → Nat} {tk : Nat → Option Nat} {B : Nat → Int} {bw : Int → Int} (hL : LawC E Γ A b0 Ls xs0 i k n q tk qa B) (hg : Good E xo mo xa ad qa qi tk B bw q ws) (K : ∀ ws', Good E xo mo xa ad qa qi tk B bw (q + 1) ws' → J E 4 Γ (some A) (k + 24) (n + 67) ws' 1254 (lsL i b0 xo mo) []) : J E 4 Γ (some A) k n ws 1084 (lsL i b0 xo mo) [] := by
  obtain ⟨G, hX, hb, hA0, hi, hkn, hq, htk6, hBs⟩ := hL
  refine Good_e hg (fun X U V Q T Z Y r0 tb cx kn pn ck rk co so si pr co2 so2 si2 pr2 bo S tx cl wd nu fo to la po pt sg wt pl kd vv hd rm sp le mk wo mpn mr ts tl it asd ca pa da sa ra rr dr sr nC nR Fq hws hS hP hT hC hG hA hR hK hN hN2 => ?_)
  have hs := hS
  unfold IvS at hs
  obtain ⟨a0, a1, a2, a3, a4, a5, a6, a7, a8, a9, a10, a11, a12, a13, a14, a15, a16, a17, a18, a19, a20, a21, a22, a23, a24, a25, a26, a27⟩ := hs
  obtain ⟨w1, e1⟩ : ∃ w, w = sv xs0 i 1 := ⟨_, rfl⟩
  have r1 : R32 w1 := sv_r e1
  obtain ⟨w2, e2⟩ : ∃ w, w = sv xs0 i 2 := ⟨_, rfl⟩
  have r2 : R32 w2 := sv_r e2
  obtain ⟨w3, e3⟩ : ∃ w, w = sv xs0 i 3 := ⟨_, rfl⟩
  have r3 : R32 w3 := sv_r e3
  obtain ⟨w4, e4⟩ : ∃ w, w = sv xs0 i 4 := ⟨_, rfl⟩
  have r4 : R32 w4 := sv_r e4
  have hso : ∀ j, 0 ≤ j → j < 6 → -1 ≤ ts j ∧ ts j ≤ 4 := fun j h1 h2 => (hK.1 j h1 h2).1
  have hln : ∀ j, 0 ≤ j → j < 6 → 0 ≤ tl j ∧ tl j ≤ 60 := fun j h1 h2 => (hK.1 j h1 h2).2.1
  have hle := hln
  have hit := hK.2.1
  obtain ⟨ww, eW⟩ : ∃ z, z = ((((iZ w3).toInt64 <<< ((iZ 32).toInt64 &&& 63)) ||| ((iZ w4).toInt64 &&& lZ 4294967295)).toInt) := ⟨_, rfl⟩
  have rW9 : R64 ww := by rw [eW]; exact lZ_r _
  have KM : ∀ (ws1 : va_W) (it9 : Int → Int) (v : Int), (v = itemA ts tl w1 w2) → ((itemOk ts tl w1 w2 ∧ it9 = upI it (60 * w1 + w2) (nar (ts w1) ww)) ∨ (¬ itemOk ts tl w1 w2 ∧ it9 = it)) → ws1.Perm (WL E xo mo xa ad tk B bw X U V Q T Z Y r0 tb cx kn pn ck rk co so si pr co2 so2 si2 pr2 bo S tx cl wd nu fo to la po pt sg wt pl kd vv hd rm sp le mk wo mpn mr ts tl it asd co so si pr co2 so2 si2 pr2 bo ++ WF E qa qi ca pa da sa ra rr dr sr nC nR la po pt kd vv hd rm ts tl it9) → J E 4 Γ (some A) (k + 24) (n + 67) ws1 1118 (lsL i b0 xo mo) [.int (iZ v)] := by
    intro ws1 it9 v hv hx2 hws1
    refine j_aload_n G 2 rfl dL_1118 ?_
    refine j_arg G hX hb hA0 hi e1 ⟨by decide, by decide⟩ dL_1119 dL_1120 dL_1121 dL_1122 dL_1123 ?_
    refine j_arg G hX hb hA0 hi e2 ⟨by decide, by decide⟩ dL_1124 dL_1125 dL_1126 dL_1127 dL_1128 ?_
    refine j_arg G hX hb hA0 hi e3 ⟨by decide, by decide⟩ dL_1129 dL_1130 dL_1131 dL_1132 dL_1133 ?_
    refine r_i2l G dL_1134 ?_
    refine j_bipush G dL_1135 rfl ?_
    refine r_lshl G dL_1137 ?_
    refine j_arg G hX hb hA0 hi e4 ⟨by decide, by decide⟩ dL_1138 dL_1139 dL_1140 dL_1141 dL_1142 ?_
    refine r_i2l G dL_1143 ?_
    refine j_ldc2 G 4294967295 ctL_132 (by decide) dL_1144 ?_
    refine r_land G dL_1147 ?_
    refine r_lor G dL_1148 ?_
    refine j_topl (y := lZ ww) (by rw [eW]; exact (lZ_of _).symm) ?_
    refine j_VMr (rest := [.int (iZ v)]) G (hws1.trans pk36) (k10_item (xl Γ) E _ _ _ _ _ _ w1 w2 ww r1 r2 rW9 hso hle) mw10_item mlL_138 10 rfl rfl rfl ⟨Nat.le_of_ble_eq_true rfl, Nat.le_of_ble_eq_true rfl⟩ rfl rfl (Nat.le_of_ble_eq_true rfl) dL_1149 ⟨by show (k + 24) + 0 ≤ 600000; omega, by show (n + 67) + 0 ≤ 7302250; omega⟩ (fun r wX hr => ?_)
    obtain ⟨v2, m_it1, rfl, rfl, hm⟩ := hr
    refine j_widen (k' := k + 24) (n' := n + 67) ⟨by show (k + 24) + 0 ≤ k + 24; omega, by show (n + 67) + 0 ≤ n + 67; omega⟩ ?_
    obtain ⟨hm, hm2⟩ := hm
    have hvv : v2 = v := hm.trans hv.symm
    subst hvv
    refine j_ieq (tgt := 1254) G dL_1152 (by decide) ?_
    rcases hx2 with ⟨f0, rfl⟩ | ⟨f0, rfl⟩ <;> rcases hm2 with ⟨g0, rfl⟩ | ⟨g0, rfl⟩
    · exact K _ ⟨X, U, V, Q, T, Z, Y, r0, tb, cx, kn, pn, ck, rk, co, so, si, pr, co2, so2, si2, pr2, bo, S, tx, cl, wd, nu, fo, to, la, po, pt, sg, wt, pl, kd, vv, hd, rm, sp, le, mk, wo, mpn, mr, ts, tl, _, asd, ca, pa, da, sa, ra, rr, dr, sr, nC, nR, Fq, (pb_of pk36), hS, (IvP_s hP), hT, hC, hG, hA, hR, (IvK_i hK f0 rW9), hN, hN2⟩
    · exact absurd f0 g0
    · exact absurd g0 f0
    · exact K _ ⟨X, U, V, Q, T, Z, Y, r0, tb, cx, kn, pn, ck, rk, co, so, si, pr, co2, so2, si2, pr2, bo, S, tx, cl, wd, nu, fo, to, la, po, pt, sg, wt, pl, kd, vv, hd, rm, sp, le, mk, wo, mpn, mr, ts, tl, _, asd, ca, pa, da, sa, ra, rr, dr, sr, nC, nR, Fq, (pb_of pk36), hS, (IvP_s hP), hT, hC, hG, hA, hR, hK, hN, hN2⟩
  refine j_aload_n G 1 rfl dL_1084 ?_
  refine j_arg G hX hb hA0 hi e1 ⟨by decide, by decide⟩ dL_1085 dL_1086 dL_1087 dL_1088 dL_1089 ?_
  refine j_arg G hX hb hA0 hi e2 ⟨by decide, by decide⟩ dL_1090 dL_1091 dL_1092 dL_1093 dL_1094 ?_
  refine j_arg G hX hb hA0 hi e3 ⟨by decide, by decide⟩ dL_1095 dL_1096 dL_1097 dL_1098 dL_1099 ?_
  refine r_i2l G dL_1100 ?_
  refine j_bipush G dL_1101 rfl ?_
  refine r_lshl G dL_1103 ?_
  refine j_arg G hX hb hA0 hi e4 ⟨by decide, by decide⟩ dL_1104 dL_1105 dL_1106 dL_1107 dL_1108 ?_
  refine r_i2l G dL_1109 ?_
  refine j_ldc2 G 4294967295 ctL_132 (by decide) dL_1110 ?_
  refine r_land G dL_1113 ?_
  refine r_lor G dL_1114 ?_
  refine j_topl (y := lZ ww) (by rw [eW]; exact (lZ_of _).symm) ?_
  by_cases htq : 0 ≤ w1 ∧ w1 ≤ 5
  ·
    obtain ⟨u, hu⟩ := Int.eq_ofNat_of_zero_le htq.1
    have hu6 : u < 6 := by omega
    have htk : tk w1.toNat = some (qa u) := by rw [show w1.toNat = u by omega]; exact htk6 u hu6
    have hLu := hK.1 u (by omega) (by omega)
    refine j_VMr (rest := []) G ((hws.trans (op3 hu6)).trans pk37) (k9_itemc (xl Γ) E _ _ _ _ _ _ _ _ w1 w2 ww r1 r2 rW9 htq htk hLu) mw9_item mlL_134 9 rfl rfl rfl ⟨Nat.le_of_ble_eq_true rfl, Nat.le_of_ble_eq_true rfl⟩ rfl rfl (Nat.le_of_ble_eq_true rfl) dL_1115 ⟨by show k + 0 ≤ 600000; omega, by show n + 0 ≤ 7302250; omega⟩ (fun r wX hr => ?_)
    obtain ⟨v, x_it1, rfl, rfl, hx⟩ := hr
    refine j_widen (k' := k + 24) (n' := n + 67) ⟨by show k + 0 ≤ k + 24; omega, by show n + 0 ≤ n + 67; omega⟩ ?_
    have c0 : tU ts tl u 0 = ts w1 := by rw [hu]; rfl
    have c1 : tU ts tl u 1 = tl w1 := by rw [hu]; rfl
    have hl : tl w1 ≤ 60 := by rw [hu]; exact hLu.2.1.2
    rw [c0, c1] at hx
    rcases hx with ⟨f0, f1, hv, f3⟩ | ⟨f0, hv, f3⟩
    · refine KM _ (upI it (60 * w1 + w2) (nar (ts w1) ww)) v (by rw [hv]; unfold itemA; rw [if_pos htq, if_neg f0, if_pos ⟨f1.1, by omega⟩]) (Or.inl ⟨⟨htq, f0, f1.1, by omega⟩, rfl⟩) ((pb_of pk37).trans (op3c (g := fT E qa qi ts tl (upI it (60 * w1 + w2) (nar (ts w1) ww))) hu6 ?_ ?_))
      · rw [f3]; exact fT_item hu ⟨f1.1, by omega⟩
      · intro j h1 h2; exact fT_oi hu ⟨f1.1, by omega⟩ h2
    · refine KM _ it v (by rw [hv]; unfold itemA; (repeat' split) <;> omega) (Or.inr ⟨fun z => f0 ⟨z.2.1, z.2.2.1, by have := z.2.2.2; omega⟩, rfl⟩) ((pb_of pk37).trans (op3c (g := fT E qa qi ts tl it) hu6 ?_ ?_))
      · rw [f3]; rfl
      · intro j h1 h2; rfl
  ·
    refine j_VPr (rest := []) G (hws.trans pk15) (k9_itemn (xl Γ) E _ _ _ w1 w2 ww r1 r2 rW9 htq) mw9_item mlL_134 9 rfl rfl rfl ⟨Nat.le_of_ble_eq_true rfl, Nat.le_of_ble_eq_true rfl⟩ rfl rfl (Nat.le_of_ble_eq_true rfl) dL_1115 ⟨by show k ≤ 600000; omega, by show n ≤ 7302250; omega⟩ (fun r hr => ?_)
    obtain ⟨v, rfl, hx⟩ := hr
    refine j_widen (k' := k + 24) (n' := n + 67) ⟨by omega, by omega⟩ ?_
    exact KM _ it v (by rw [hx]; unfold itemA; rw [if_neg htq]) (Or.inr ⟨fun z => htq z.1, rfl⟩) hws
set_option maxHeartbeats 4000000 in
set_option maxRecDepth 100000 in
theorem arm30 {E : En} {Γ : Ctx} {A : Nat → Prop} {b0 Ls : Nat} {xs0 : Nat → Int32} {i : Int} {k n q : Nat} {ws : va_W} {xo : Nat} {mo : Nat} {xa : Nat → Nat} {ad : Nat → Nat} {qa : Nat → Nat} {qi : Nat → Nat} {tk : Nat → Option Nat} {B : Nat → Int} {bw : Int → Int} (hL : LawC E Γ A b0 Ls xs0 i k n q tk qa B) (hg : Good E xo mo xa ad qa qi tk B bw q ws) (K : ∀ ws', Good E xo mo xa ad qa qi tk B bw (q + 1) ws' → J E 4 Γ (some A) (k + 24) (n + 67) ws' 1254 (lsL i b0 xo mo) []) : J E 4 Γ (some A) k n ws 1191 (lsL i b0 xo mo) [] := by
  obtain ⟨G, hX, hb, hA0, hi, hkn, hq, htk6, hBs⟩ := hL
  refine Good_e hg (fun X U V Q T Z Y r0 tb cx kn pn ck rk co so si pr co2 so2 si2 pr2 bo S tx cl wd nu fo to la po pt sg wt pl kd vv hd rm sp le mk wo mpn mr ts tl it asd ca pa da sa ra rr dr sr nC nR Fq hws hS hP hT hC hG hA hR hK hN hN2 => ?_)
  have hs := hS
  unfold IvS at hs
  obtain ⟨a0, a1, a2, a3, a4, a5, a6, a7, a8, a9, a10, a11, a12, a13, a14, a15, a16, a17, a18, a19, a20, a21, a22, a23, a24, a25, a26, a27⟩ := hs
  obtain ⟨w1, e1⟩ : ∃ w, w = sv xs0 i 1 := ⟨_, rfl⟩
  have r1 : R32 w1 := sv_r e1
  obtain ⟨w2, e2⟩ : ∃ w, w = sv xs0 i 2 := ⟨_, rfl⟩
  have r2 : R32 w2 := sv_r e2
  obtain ⟨w3, e3⟩ : ∃ w, w = sv xs0 i 3 := ⟨_, rfl⟩
  have r3 : R32 w3 := sv_r e3
  obtain ⟨w4, e4⟩ : ∃ w, w = sv xs0 i 4 := ⟨_, rfl⟩
  have r4 : R32 w4 := sv_r e4
  obtain ⟨w5, e5⟩ : ∃ w, w = sv xs0 i 5 := ⟨_, rfl⟩
  have r5 : R32 w5 := sv_r e5
  have hso : ∀ j, 0 ≤ j → j < 6 → -1 ≤ ts j ∧ ts j ≤ 4 := fun j h1 h2 => (hK.1 j h1 h2).1
  have hln : ∀ j, 0 ≤ j → j < 6 → 0 ≤ tl j ∧ tl j ≤ 60 := fun j h1 h2 => (hK.1 j h1 h2).2.1
  have hle := hln
  have hit := hK.2.1
  have KM : ∀ (ws1 : va_W) (it9 : Int → Int) (v : Int), (v = shiftA ts tl w1 w2 w3 w4 w5) → ((shiftOk ts tl w1 w2 w3 w4 w5 ∧ it9 = shiftI it w1 w2 w3 w4 w5) ∨ (¬ shiftOk ts tl w1 w2 w3 w4 w5 ∧ it9 = it)) → ws1.Perm (WL E xo mo xa ad tk B bw X U V Q T Z Y r0 tb cx kn pn ck rk co so si pr co2 so2 si2 pr2 bo S tx cl wd nu fo to la po pt sg wt pl kd vv hd rm sp le mk wo mpn mr ts tl it asd co so si pr co2 so2 si2 pr2 bo ++ WF E qa qi ca pa da sa ra rr dr sr nC nR la po pt kd vv hd rm ts tl it9) → J E 4 Γ (some A) (k + 24) (n + 67) ws1 1220 (lsL i b0 xo mo) [.int (iZ v)] := by
    intro ws1 it9 v hv hx2 hws1
    refine j_aload_n G 2 rfl dL_1220 ?_
    refine j_arg G hX hb hA0 hi e1 ⟨by decide, by decide⟩ dL_1221 dL_1222 dL_1223 dL_1224 dL_1225 ?_
    refine j_arg G hX hb hA0 hi e2 ⟨by decide, by decide⟩ dL_1226 dL_1227 dL_1228 dL_1229 dL_1230 ?_
    refine j_arg G hX hb hA0 hi e3 ⟨by decide, by decide⟩ dL_1231 dL_1232 dL_1233 dL_1234 dL_1235 ?_
    refine j_arg G hX hb hA0 hi e4 ⟨by decide, by decide⟩ dL_1236 dL_1237 dL_1238 dL_1239 dL_1240 ?_
    refine j_arg G hX hb hA0 hi e5 ⟨by decide, by decide⟩ dL_1241 dL_1242 dL_1243 dL_1244 dL_1245 ?_
    refine j_VMr (rest := [.int (iZ v)]) G (hws1.trans pk38) (k10_shift (xl Γ) E _ _ _ _ _ _ _ w1 w2 w3 w4 w5 r1 r2 r3 r4 r5 hso hle) mw10_shift mlL_148 10 rfl rfl rfl ⟨Nat.le_of_ble_eq_true rfl, Nat.le_of_ble_eq_true rfl⟩ rfl rfl (Nat.le_of_ble_eq_true rfl) dL_1246 ⟨by show (k + 24) + 0 ≤ 600000; omega, by show (n + 67) + 0 ≤ 7302250; omega⟩ (fun r wX hr => ?_)
    obtain ⟨v2, m_it1, m_asd1, rfl, rfl, hm⟩ := hr
    refine j_widen (k' := k + 24) (n' := n + 67) ⟨by show (k + 24) + 0 ≤ k + 24; omega, by show (n + 67) + 0 ≤ n + 67; omega⟩ ?_
    obtain ⟨hm, hm2⟩ := hm
    have hvv : v2 = v := hm.trans hv.symm
    subst hvv
    refine j_ieq (tgt := 1254) G dL_1249 (by decide) ?_
    rcases hx2 with ⟨f0, rfl⟩ | ⟨f0, rfl⟩ <;> rcases hm2 with ⟨g0, rfl⟩ | ⟨g0, rfl⟩
    · exact K _ ⟨X, U, V, Q, T, Z, Y, r0, tb, cx, kn, pn, ck, rk, co, so, si, pr, co2, so2, si2, pr2, bo, S, tx, cl, wd, nu, fo, to, la, po, pt, sg, wt, pl, kd, vv, hd, rm, sp, le, mk, wo, mpn, mr, ts, tl, _, _, ca, pa, da, sa, ra, rr, dr, sr, nC, nR, Fq, (pb_of pk38), hS, (IvP_s hP), hT, hC, hG, hA, hR, (IvK_s hK f0), hN, hN2⟩
    · exact absurd f0 g0
    · exact absurd g0 f0
    · exact K _ ⟨X, U, V, Q, T, Z, Y, r0, tb, cx, kn, pn, ck, rk, co, so, si, pr, co2, so2, si2, pr2, bo, S, tx, cl, wd, nu, fo, to, la, po, pt, sg, wt, pl, kd, vv, hd, rm, sp, le, mk, wo, mpn, mr, ts, tl, _, _, ca, pa, da, sa, ra, rr, dr, sr, nC, nR, Fq, (pb_of pk38), hS, (IvP_s hP), hT, hC, hG, hA, hR, hK, hN, hN2⟩
  refine j_aload_n G 1 rfl dL_1191 ?_
  refine j_arg G hX hb hA0 hi e1 ⟨by decide, by decide⟩ dL_1192 dL_1193 dL_1194 dL_1195 dL_1196 ?_
  refine j_arg G hX hb hA0 hi e2 ⟨by decide, by decide⟩ dL_1197 dL_1198 dL_1199 dL_1200 dL_1201 ?_
  refine j_arg G hX hb hA0 hi e3 ⟨by decide, by decide⟩ dL_1202 dL_1203 dL_1204 dL_1205 dL_1206 ?_
  refine j_arg G hX hb hA0 hi e4 ⟨by decide, by decide⟩ dL_1207 dL_1208 dL_1209 dL_1210 dL_1211 ?_
  refine j_arg G hX hb hA0 hi e5 ⟨by decide, by decide⟩ dL_1212 dL_1213 dL_1214 dL_1215 dL_1216 ?_
  by_cases htq2 : (0 ≤ w1 ∧ w1 ≤ 5) ∧ (0 ≤ w3 ∧ w3 ≤ 5)
  ·
    obtain ⟨htq, hoq⟩ := htq2
    obtain ⟨u, hu⟩ := Int.eq_ofNat_of_zero_le htq.1
    have hu6 : u < 6 := by omega
    have htk : tk w1.toNat = some (qa u) := by rw [show w1.toNat = u by omega]; exact htk6 u hu6
    have hLu := hK.1 u (by omega) (by omega)
    obtain ⟨z, hz⟩ := Int.eq_ofNat_of_zero_le hoq.1
    have hz6 : z < 6 := by omega
    have hto : tk w3.toNat = some (qa z) := by rw [show w3.toNat = z by omega]; exact htk6 z hz6
    have hLz := hK.1 z (by omega) (by omega)
    have c0 : tU ts tl u 0 = ts w1 := by rw [hu]; rfl
    have c1 : tU ts tl u 1 = tl w1 := by rw [hu]; rfl
    have d0 : tU ts tl z 0 = ts w3 := by rw [hz]; rfl
    have d1 : tU ts tl z 1 = tl w3 := by rw [hz]; rfl
    have hl : tl w1 ≤ 60 := by rw [hu]; exact hLu.2.1.2
    have hl2 : tl w3 ≤ 60 := by rw [hz]; exact hLz.2.1.2
    by_cases hzu : z = u
    ·
      subst hzu
      have e13 : w1 = w3 := by omega
      refine j_VMr (rest := []) G ((hws.trans (op3 hu6)).trans pk37) (k9_shifts (xl Γ) E _ _ _ _ _ _ _ _ w1 w2 w3 w4 w5 r1 r2 r3 r4 r5 htq htk hLu hoq hto) mw9_shift mlL_144 9 rfl rfl rfl ⟨Nat.le_of_ble_eq_true rfl, Nat.le_of_ble_eq_true rfl⟩ rfl rfl (Nat.le_of_ble_eq_true rfl) dL_1217 ⟨by show k + 0 ≤ 600000; omega, by show n + 0 ≤ 7302250; omega⟩ (fun r wX hr => ?_)
      obtain ⟨v, x_it1, rfl, rfl, hx⟩ := hr
      refine j_widen (k' := k + 24) (n' := n + 67) ⟨by show k + 0 ≤ k + 24; omega, by show n + 0 ≤ n + 67; omega⟩ ?_
      rw [c0, c1] at hx
      rcases hx with ⟨f0, hv, f3⟩ | ⟨f0, hv, f3⟩
      · refine KM _ (shiftI it w1 w2 w3 w4 w5) v (by rw [hv]; unfold shiftA; rw [← e13]; (repeat' split) <;> omega) (Or.inl ⟨⟨⟨htq, hoq⟩, ⟨f0.1, e13 ▸ f0.1⟩, by rw [e13], by rw [← e13]; exact f0.2.2.2⟩, rfl⟩) ((pb_of pk37).trans (op3c (g := fT E qa qi ts tl (shiftI it w1 w2 w3 w4 w5)) hu6 ?_ ?_))
        · rw [f3]; exact fT_sh hu hz (by omega) (by omega)
        · intro j h1 h2; exact fT_os hz (by omega) h2
      · refine KM _ it v (by rw [hv]; unfold shiftA; rw [← e13]; (repeat' split) <;> omega) (Or.inr ⟨fun y => f0 ⟨y.2.1.1, y.2.1.1, rfl, by have q9 := y.2.2.2; rw [← e13] at q9; exact q9⟩, rfl⟩) ((pb_of pk37).trans (op3c (g := fT E qa qi ts tl it) hu6 ?_ ?_))
        · rw [f3]; rfl
        · intro j h1 h2; rfl
    ·
      refine j_VMr (rest := []) G ((hws.trans (op3y hu6 hz6 hzu)).trans pk39) (k9_shiftd (xl Γ) E _ _ _ _ _ _ _ _ _ _ _ _ w1 w2 w3 w4 w5 r1 r2 r3 r4 r5 htq htk hLu hoq hto hLz) mw9_shift mlL_144 9 rfl rfl rfl ⟨Nat.le_of_ble_eq_true rfl, Nat.le_of_ble_eq_true rfl⟩ rfl rfl (Nat.le_of_ble_eq_true rfl) dL_1217 ⟨by show k + 0 ≤ 600000; omega, by show n + 0 ≤ 7302250; omega⟩ (fun r wX hr => ?_)
      obtain ⟨v, x_it1, rfl, rfl, hx⟩ := hr
      refine j_widen (k' := k + 24) (n' := n + 67) ⟨by show k + 0 ≤ k + 24; omega, by show n + 0 ≤ n + 67; omega⟩ ?_
      rw [c0, c1, d0, d1] at hx
      rcases hx with ⟨f0, hv, f3⟩ | ⟨f0, hv, f3⟩
      · refine KM _ (shiftI it w1 w2 w3 w4 w5) v (by rw [hv]; unfold shiftA; (repeat' split) <;> omega) (Or.inl ⟨⟨⟨htq, hoq⟩, ⟨f0.1, f0.2.1⟩, f0.2.2.1, f0.2.2.2⟩, rfl⟩) ((pb_of pk39).trans (op3yc (g := fT E qa qi ts tl (shiftI it w1 w2 w3 w4 w5)) hu6 hz6 hzu ?_ ?_))
        · rw [f3]; exact fT_sh2 hu hz (by omega) (by omega) hzu
        · intro j h1 h2 h3; exact fT_os hz (by omega) h3
      · refine KM _ it v (by rw [hv]; unfold shiftA; (repeat' split) <;> omega) (Or.inr ⟨fun y => f0 ⟨y.2.1.1, y.2.1.2, y.2.2.1, y.2.2.2⟩, rfl⟩) ((pb_of pk39).trans (op3yc (g := fT E qa qi ts tl it) hu6 hz6 hzu ?_ ?_))
        · rw [f3]; rfl
        · intro j h1 h2 h3; rfl
  ·
    refine j_VPr (rest := []) G (hws.trans pk15) (k9_shiftn (xl Γ) E _ _ _ w1 w2 w3 w4 w5 r1 r2 r3 r4 r5 htq2) mw9_shift mlL_144 9 rfl rfl rfl ⟨Nat.le_of_ble_eq_true rfl, Nat.le_of_ble_eq_true rfl⟩ rfl rfl (Nat.le_of_ble_eq_true rfl) dL_1217 ⟨by show k ≤ 600000; omega, by show n ≤ 7302250; omega⟩ (fun r hr => ?_)
    obtain ⟨v, rfl, hx⟩ := hr
    refine j_widen (k' := k + 24) (n' := n + 67) ⟨by omega, by omega⟩ ?_
    exact KM _ it v (by rw [hx]; unfold shiftA; rw [if_neg htq2]) (Or.inr ⟨fun z => htq2 z.1, rfl⟩) hws
