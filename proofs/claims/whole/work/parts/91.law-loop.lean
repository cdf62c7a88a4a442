/-! the law's loop -/
theorem Good_s {E : En} {xo : Nat} {mo : Nat} {xa : Nat → Nat} {ad : Nat → Nat} {qa : Nat → Nat} {qi : Nat → Nat} {tk : Nat → Option Nat} {B : Nat → Int} {bw : Int → Int} {q : Nat} {ws : va_W} (h : Good E xo mo xa ad qa qi tk B bw q ws) : Good E xo mo xa ad qa qi tk B bw (q + 1) ws := Good_e h (fun X U V Q T Z Y r0 tb cx kn pn ck rk co so si pr co2 so2 si2 pr2 bo S tx cl wd nu fo to la po pt sg wt pl kd vv hd rm sp le mk wo mpn mr ts tl it asd ca pa da sa ra rr dr sr nC nR Fq hws hS hP hT hC hG hA hR hK hN hN2 => ⟨X, U, V, Q, T, Z, Y, r0, tb, cx, kn, pn, ck, rk, co, so, si, pr, co2, so2, si2, pr2, bo, S, tx, cl, wd, nu, fo, to, la, po, pt, sg, wt, pl, kd, vv, hd, rm, sp, le, mk, wo, mpn, mr, ts, tl, it, asd, ca, pa, da, sa, ra, rr, dr, sr, nC, nR, Fq, hws, hS, (IvP_s hP), hT, hC, hG, hA, hR, hK, hN, hN2⟩)
theorem j_IMr {E : En} {nL : Nat} {Γ : Ctx} {cc : ByteArray} {own : String} {rm : Room} {k n : Nat} {ws : va_W} {pc : Nat} {ls : List (Nat × Value)} {st : List Value} {y : MethodName} {c : ByteArray} {ml np idx b : Nat} {As rest : List Value} {wr : va_W} {rm' : Room} (G : Gd E nL Γ cc own rm) {A : Nat → Prop} {post : Option Value → va_W → Prop} {e : va_E} {w0 : va_W} (hw : ws.Perm ((b, e) :: w0 ++ wr)) (hC : Cm (xl Γ) E y c ml none rm' (.ref b :: As) ((b, e) :: w0) post) (M : MI y c ml np) (hlk : Cond.methodLink own idx y ∈ TT) (hR : fitR rm' rm ml) (hn : As.length = np) (hst : st = As.reverse ++ .ref b :: rest) (hcat : (rest.map fun v => v.category).sum ≤ 8) (d : decode cc pc = .ok (.invokespecial idx, 3)) (hk : k + rm'.cells ≤ rm.cells ∧ n + rm'.slots ≤ rm.slots)
    (kk : ∀ r w1, post r w1 → J E nL Γ (some A) (k + rm'.cells) (n + rm'.slots) (wr ++ w1) (pc + 3) ls (r.toList ++ rest)) : J E nL Γ (some A) k n ws pc ls st :=
  j_Perm hw (j_IM G hC M hlk (List.range ((b, e) :: w0).length) ((List.range wr.length).map (fun i => ((b, e) :: w0).length + i)) ap_l ap_r ⟨va_nd_n _ List.nodup_range, va_nd_n _ (by
      rw [List.nodup_iff_pairwise_ne, List.pairwise_map]
      exact (List.nodup_iff_pairwise_ne.mp (List.nodup_range (n := wr.length))).imp (fun h q => h (by omega)))⟩ (fun i hi hj => by
      simp only [List.mem_map, List.mem_range] at hi hj
      obtain ⟨z, _, rfl⟩ := hi
      omega) hR hn hst hcat d hk kk)
set_option maxHeartbeats 4000000 in
set_option maxRecDepth 100000 in
theorem law_loop {E : En} {Γ : Ctx} {A : Nat → Prop} {b0 Ls : Nat} {xs0 : Nat → Int32} {xo : Nat} {mo : Nat} {xa : Nat → Nat} {ad : Nat → Nat} {qa : Nat → Nat} {qi : Nat → Nat} {tk : Nat → Option Nat} {B : Nat → Int} {bw : Int → Int} (G : Gd E 4 Γ code "CliffCarsLaw" room_1) (hX : va_X b0 Ls xs0 (xs Γ) (xs Γ).heap) (hb : b0 < (xs Γ).heap.size) (hA0 : ¬ A b0) (hLs : Ls ≤ 3072) (htk6 : ∀ t : Nat, t < 6 → tk t = some (qa t)) (hBs : B 0 = 4 ∧ B 1 = 0 ∧ B 4 = 0) (hend : ∀ (k n : Nat) (ws : va_W) (ls : List (Nat × Value)), k ≤ 600000 → n ≤ 7302250 → J E 4 Γ (some A) k n ws 1260 ls []) : ∀ (r q k n : Nat) (i : Int) (ws : va_W), r + q = 513 → i = 6 * (q : Int) → k = 100 + 24 * q → n = 160000 + 67 * q → Good E xo mo xa ad qa qi tk B bw q ws → J E 4 Γ (some A) k n ws 18 (lsL i b0 xo mo) [] := by
  intro r
  induction r with
  | zero =>
    intro q k n i ws hr hi hk hn hg
    refine j_iload_n G 3 rfl dL_18 ?_
    refine j_aload_n G 0 rfl dL_19 ?_
    refine j_scn G hX hb hA0 dL_20 ?_
    refine j_bipush G dL_21 rfl ?_
    refine j_isub G dL_23 ?_
    refine j_icmp_gt (tgt := 1260) G dL_24 (by decide) (by omega) (by omega) (fun h => hend _ _ _ _ (by omega) (by omega)) (fun h => absurd (show (Ls : Int) ≤ 3072 by omega) (by omega))
  | succ r ih =>
    intro q k n i ws hr hi hk hn hg
    refine j_iload_n G 3 rfl dL_18 ?_
    refine j_aload_n G 0 rfl dL_19 ?_
    refine j_scn G hX hb hA0 dL_20 ?_
    refine j_bipush G dL_21 rfl ?_
    refine j_isub G dL_23 ?_
    refine j_icmp_gt (tgt := 1260) G dL_24 (by decide) (by omega) (by omega) (fun h => hend _ _ _ _ (by omega) (by omega)) (fun h => ?_)
    have hL : LawC E Γ A b0 Ls xs0 i k n q tk qa B := ⟨G, hX, hb, hA0, ⟨by omega, by omega, by omega⟩, ⟨by omega, by omega⟩, by omega, htk6, hBs⟩
    have K : ∀ ws', Good E xo mo xa ad qa qi tk B bw (q + 1) ws' → J E 4 Γ (some A) (k + 24) (n + 67) ws' 1254 (lsL i b0 xo mo) [] := fun ws' hg' => by
      refine j_iinc G dL_1254 3 rfl (by decide) rfl ?_
      refine j_goto (tgt := 18) G dL_1257 (by decide) ?_
      refine j_locs (ls' := lsL (i + 6) b0 xo mo) [1, 2, 3, 0] rfl ?_
      exact ih (q + 1) (k + 24) (n + 67) (i + 6) ws' (by omega) (by omega) (by omega) (by omega) hg'
    refine j_aload_n G 0 rfl dL_27 ?_
    refine j_iload_n G 3 rfl dL_28 ?_
    refine j_sld G hX hb hA0 ⟨by omega, by omega, by omega⟩ dL_29 ?_
    refine j_bipush G dL_30 rfl ?_
    refine r_iand G dL_32 ?_
    refine j_top (y := iZ ((xs0 i.toNat &&& iZ 31).toInt)) (iZ_of _).symm ?_
    obtain ⟨z, hz⟩ : ∃ z, z = (xs0 i.toNat &&& iZ 31).toInt := ⟨_, rfl⟩
    have hzr : R32 z := by rw [hz]; exact iZ_r _
    rw [← hz]
    rcases (show z = 0 ∨ z = 1 ∨ z = 2 ∨ z = 3 ∨ z = 4 ∨ z = 5 ∨ z = 6 ∨ z = 7 ∨ z = 8 ∨ z = 9 ∨ z = 10 ∨ z = 11 ∨ z = 12 ∨ z = 13 ∨ z = 14 ∨ z = 15 ∨ z = 16 ∨ z = 17 ∨ z = 18 ∨ z = 19 ∨ z = 20 ∨ z = 21 ∨ z = 22 ∨ z = 23 ∨ z = 24 ∨ z = 25 ∨ z = 26 ∨ z = 27 ∨ z = 28 ∨ z = 29 ∨ z = 30 ∨ (z < 0 ∨ 30 < z) by omega) with hc | hc | hc | hc | hc | hc | hc | hc | hc | hc | hc | hc | hc | hc | hc | hc | hc | hc | hc | hc | hc | hc | hc | hc | hc | hc | hc | hc | hc | hc | hc | hc
    · refine j_tabIn (tgt := 172) G dL_33 hzr 0 hc ⟨by decide, by decide⟩ rfl (by decide) ?_
      exact arm0 hL hg K
    · refine j_tabIn (tgt := 205) G dL_33 hzr 1 hc ⟨by decide, by decide⟩ rfl (by decide) ?_
      exact arm1 hL hg K
    · refine j_tabIn (tgt := 218) G dL_33 hzr 2 hc ⟨by decide, by decide⟩ rfl (by decide) ?_
      exact arm2 hL hg K
    · refine j_tabIn (tgt := 241) G dL_33 hzr 3 hc ⟨by decide, by decide⟩ rfl (by decide) ?_
      exact arm3 hL hg K
    · refine j_tabIn (tgt := 264) G dL_33 hzr 4 hc ⟨by decide, by decide⟩ rfl (by decide) ?_
      exact arm4 hL hg K
    · refine j_tabIn (tgt := 297) G dL_33 hzr 5 hc ⟨by decide, by decide⟩ rfl (by decide) ?_
      exact arm5 hL hg K
    · refine j_tabIn (tgt := 361) G dL_33 hzr 6 hc ⟨by decide, by decide⟩ rfl (by decide) ?_
      exact arm6 hL hg K
    · refine j_tabIn (tgt := 414) G dL_33 hzr 7 hc ⟨by decide, by decide⟩ rfl (by decide) ?_
      exact arm7 hL hg K
    · refine j_tabIn (tgt := 457) G dL_33 hzr 8 hc ⟨by decide, by decide⟩ rfl (by decide) ?_
      exact arm8 hL hg K
    · refine j_tabIn (tgt := 500) G dL_33 hzr 9 hc ⟨by decide, by decide⟩ rfl (by decide) ?_
      exact arm9 hL hg K
    · refine j_tabIn (tgt := 543) G dL_33 hzr 10 hc ⟨by decide, by decide⟩ rfl (by decide) ?_
      exact arm10 hL hg K
    · refine j_tabIn (tgt := 582) G dL_33 hzr 11 hc ⟨by decide, by decide⟩ rfl (by decide) ?_
      exact arm11 hL hg K
    · refine j_tabIn (tgt := 605) G dL_33 hzr 12 hc ⟨by decide, by decide⟩ rfl (by decide) ?_
      exact arm12 hL hg K
    · refine j_tabIn (tgt := 638) G dL_33 hzr 13 hc ⟨by decide, by decide⟩ rfl (by decide) ?_
      exact arm13 hL hg K
    · refine j_tabIn (tgt := 671) G dL_33 hzr 14 hc ⟨by decide, by decide⟩ rfl (by decide) ?_
      exact arm14 hL hg K
    · refine j_tabIn (tgt := 704) G dL_33 hzr 15 hc ⟨by decide, by decide⟩ rfl (by decide) ?_
      exact arm15 hL hg K
    · refine j_tabIn (tgt := 768) G dL_33 hzr 16 hc ⟨by decide, by decide⟩ rfl (by decide) ?_
      exact arm16 hL hg K
    · refine j_tabIn (tgt := 781) G dL_33 hzr 17 hc ⟨by decide, by decide⟩ rfl (by decide) ?_
      exact arm17 hL hg K
    · refine j_tabIn (tgt := 794) G dL_33 hzr 18 hc ⟨by decide, by decide⟩ rfl (by decide) ?_
      exact arm18 hL hg K
    · refine j_tabIn (tgt := 837) G dL_33 hzr 19 hc ⟨by decide, by decide⟩ rfl (by decide) ?_
      exact arm19 hL hg K
    · refine j_tabIn (tgt := 860) G dL_33 hzr 20 hc ⟨by decide, by decide⟩ rfl (by decide) ?_
      exact arm20 hL hg K
    · refine j_tabIn (tgt := 893) G dL_33 hzr 21 hc ⟨by decide, by decide⟩ rfl (by decide) ?_
      exact arm21 hL hg K
    · refine j_tabIn (tgt := 906) G dL_33 hzr 22 hc ⟨by decide, by decide⟩ rfl (by decide) ?_
      exact arm22 hL hg K
    · refine j_tabIn (tgt := 919) G dL_33 hzr 23 hc ⟨by decide, by decide⟩ rfl (by decide) ?_
      exact arm23 hL hg K
    · refine j_tabIn (tgt := 962) G dL_33 hzr 24 hc ⟨by decide, by decide⟩ rfl (by decide) ?_
      exact arm24 hL hg K
    · refine j_tabIn (tgt := 985) G dL_33 hzr 25 hc ⟨by decide, by decide⟩ rfl (by decide) ?_
      exact arm25 hL hg K
    · refine j_tabIn (tgt := 1018) G dL_33 hzr 26 hc ⟨by decide, by decide⟩ rfl (by decide) ?_
      exact arm26 hL hg K
    · refine j_tabIn (tgt := 1041) G dL_33 hzr 27 hc ⟨by decide, by decide⟩ rfl (by decide) ?_
      exact arm27 hL hg K
    · refine j_tabIn (tgt := 1084) G dL_33 hzr 28 hc ⟨by decide, by decide⟩ rfl (by decide) ?_
      exact arm28 hL hg K
    · refine j_tabIn (tgt := 1157) G dL_33 hzr 29 hc ⟨by decide, by decide⟩ rfl (by decide) ?_
      exact arm29 hL hg K
    · refine j_tabIn (tgt := 1191) G dL_33 hzr 30 hc ⟨by decide, by decide⟩ rfl (by decide) ?_
      exact arm30 hL hg K
    · refine j_tabOut (tgt := 1254) G dL_33 hzr hc (by decide) ?_
      exact j_widen ⟨by omega, by omega⟩ (K ws (Good_s hg))
