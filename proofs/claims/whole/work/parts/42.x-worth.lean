/-- how long a row of longs is -/
theorem j_alenL {E : En} {nL : Nat} {Γ : Ctx} {cc : ByteArray} {own : String} {rm : Room} {md : Option (Nat → Prop)} {k n : Nat} {ws : va_W} {pc : Nat} {ls : List (Nat × Value)} {st : List Value} (G : Gd E nL Γ cc own rm) (q : Nat) {a N : Nat} {g : Int → Int} (he : ws[q]? = some (a, aLng E N g)) (d : decode cc pc = .ok (.arraylength, 1)) (kk : J E nL Γ md k n ws (pc + 1) ls (.int (iZ (N : Int)) :: st)) : J E nL Γ md k n ws pc ls (.ref a :: st) := fun H locs hP hD hS L hL => va_alen G.1 G.2.1 G.2.2.2.2.2.1.1 hP q 1 he rfl (v := iZ (N : Int)) Int32.ofInt_eq_ofNat.symm d (kk H locs hP hD hS L hL)
/-- the kept worths: edition ed above, worth below -/
def KnK (K : Dy) (sp ed : Int) (kn : Int → Int) : Prop := (0 ≤ ed ∧ ed ≤ 100000000) ∧ ∀ j, 0 ≤ j → j < 39852 → (0 ≤ kn j ∧ kn j / 1048576 ≤ ed) ∧ (kn j / 1048576 = ed → kn j % 1048576 = Vn K sp (j / 3321) (j % 3321))
theorem KnK.up {K : Dy} {sp ed j v : Int} {kn : Int → Int} (h : KnK K sp ed kn) (hj : 0 ≤ j) (hj2 : j < 39852) (hv : v = Vn K sp (j / 3321) (j % 3321)) (hr : 0 ≤ v ∧ v ≤ 1048575) : KnK K sp ed (upI kn j (ed * 1048576 + v)) := ⟨h.1, fun i h1 h2 => by
  by_cases hi : i = j
  · subst hi; rw [upI_eq]; have := h.1; omega
  · rw [upI_ne hi]; exact h.2 i h1 h2⟩
/-- a trip's worth from the state in which all have come -/
def tpF (K : Dy) (sp s p a b : Int) : Int := if min a K.se + min b K.se = 0 ∨ K.lw s (min a K.se) (min b K.se) = -5 ∨ p - K.lw s (min a K.se) (min b K.se) < sp then -99999 else 100 * min b K.se + Vn K sp (s + 1) (81 * (p - K.lw s (min a K.se) (min b K.se)) + 9 * (a - min a K.se) + (b - min b K.se))
section
variable {K : Dy} {sp s p a b : Int}
theorem st_p (ha : 0 ≤ a ∧ a ≤ 8) (hb : 0 ≤ b ∧ b ≤ 8) : (81 * p + 9 * a + b) / 81 = p ∧ (81 * p + 9 * a + b) / 9 % 9 = a ∧ (81 * p + 9 * a + b) % 9 = b := ⟨by omega, by omega, by omega⟩
theorem st_now (ha : 0 ≤ a ∧ a ≤ 8) (hb : 0 ≤ b ∧ b ≤ 8) : dF K s (81 * p + 9 * a + b) = min K.mx (p + K.sp s) ∧ dA K s (81 * p + 9 * a + b) = min 8 (a + K.ca s) ∧ dB K s (81 * p + 9 * a + b) = min 8 (b + K.cb s) := by
  have h := st_p (p := p) ha hb
  unfold dF dA dB
  rw [h.1, h.2.1, h.2.2]; exact ⟨rfl, rfl, rfl⟩
/-- the trip of a step out of the state st -/
theorem tp_e {st : Int} (hok : okD K) (hs : 0 ≤ s ∧ s ≤ 11) (ht : 0 ≤ st ∧ st ≤ 3320) : tpF K sp s (dF K s st) (dA K s st) (dB K s st) = if dCan K s st sp then 100 * dUp K s st + Vn K sp (s + 1) (dGone K s st) else -99999 := by
  have e := dR hok hs ht
  have hw : dW K s st = if dDn K s st + dUp K s st = 0 then -5 else K.lw s (dDn K s st) (dUp K s st) := rfl
  have hl := (hok.2.2.2 s hs.1 hs.2).2.2.2 (dDn K s st) (dUp K s st) e.2.2.2.1.1 (by unfold dDn; omega) e.2.2.2.2.1.1 (by unfold dUp; omega)
  show (if dDn K s st + dUp K s st = 0 ∨ K.lw s (dDn K s st) (dUp K s st) = -5 ∨ dF K s st - K.lw s (dDn K s st) (dUp K s st) < sp then -99999 else 100 * dUp K s st + Vn K sp (s + 1) (81 * (dF K s st - K.lw s (dDn K s st) (dUp K s st)) + 9 * (dA K s st - dDn K s st) + (dB K s st - dUp K s st))) = _
  by_cases hz : dDn K s st + dUp K s st = 0
  · rw [if_pos hz] at hw
    rw [if_pos (Or.inl hz), if_neg (by intro q; have := q.1; omega)]
  · rw [if_neg hz] at hw
    by_cases hc : K.lw s (dDn K s st) (dUp K s st) = -5 ∨ dF K s st - K.lw s (dDn K s st) (dUp K s st) < sp
    · rw [if_pos (Or.inr hc), if_neg (by intro q; have := q.1; have := q.2; omega)]
    · rw [if_neg (by omega), if_pos ⟨by omega, by omega⟩]
      congr 2
      unfold dGone
      omega
theorem tp_r {st : Int} (hok : okD K) (hs : 0 ≤ s ∧ s ≤ 11) (ht : 0 ≤ st ∧ st ≤ 3320) (h0 : 0 ≤ sp) : tpF K sp s (dF K s st) (dA K s st) (dB K s st) = -99999 ∨ (0 ≤ tpF K sp s (dF K s st) (dA K s st) (dB K s st) ∧ tpF K sp s (dF K s st) (dA K s st) (dB K s st) ≤ 8000) := by
  rw [tp_e hok hs ht]
  by_cases hc : dCan K s st sp
  · rw [if_pos hc]
    have e := dR hok hs ht
    have := Vn_r (spare := sp) hok h0 (s := s + 1) (by omega) (dGone_r hok hs ht h0 hc)
    omega
  · rw [if_neg hc]; exact Or.inl rfl
theorem vn_max {st x y : Int} (hok : okD K) (hs : 0 ≤ s ∧ s ≤ 11) (ht : 0 ≤ st ∧ st ≤ 3320) (h0 : 0 ≤ sp) (hx : x = Vn K sp (s + 1) (dNow K s st)) (hy : y = tpF K sp s (dF K s st) (dA K s st) (dB K s st)) : max x y = Vn K sp s st := by
  have hr := Vn_r (spare := sp) hok h0 (s := s + 1) (by omega) (dNow_r hok hs ht)
  rw [tp_e hok hs ht] at hy
  rw [Vn_s hs.2, ← hx]
  rw [← hx] at hr
  by_cases hc : dCan K s st sp
  · rw [if_pos hc] at hy
    rw [if_pos hc, ← hy]
    split <;> omega
  · rw [if_neg hc] at hy
    rw [if_neg hc, if_neg (by omega)]; omega
/-- a state in which all have come, as its own step's -/
theorem tp_now {p a b : Int} (hp : 0 ≤ p ∧ p ≤ 40) (ha : 0 ≤ a ∧ a ≤ 8) (hb : 0 ≤ b ∧ b ≤ 8) (hok : okD K) (hs : 0 ≤ s ∧ s ≤ 11) (h0 : 0 ≤ sp) : tpF K sp s p a b = -99999 ∨ (0 ≤ tpF K sp s p a b ∧ tpF K sp s p a b ≤ 8000) := by
  unfold tpF
  have k2 := hok.2.1
  have hl := (hok.2.2.2 s hs.1 hs.2).2.2.2 (min a K.se) (min b K.se) (by omega) (by omega) (by omega) (by omega)
  split
  · exact Or.inl rfl
  · have := Vn_r (spare := sp) hok h0 (s := s + 1) (by omega) (st := 81 * (p - K.lw s (min a K.se) (min b K.se)) + 9 * (a - min a K.se) + (b - min b K.se)) (by omega)
    omega
end
theorem d3_worthFrom_0 : decode c3_worthFrom 0 = .ok (.iload_n 1, 1) := by decide +kernel
theorem d3_worthFrom_1 : decode c3_worthFrom 1 = .ok (.bipush 41, 2) := by decide +kernel
theorem d3_worthFrom_3 : decode c3_worthFrom 3 = .ok (.imul, 1) := by decide +kernel
theorem d3_worthFrom_4 : decode c3_worthFrom 4 = .ok (.iload_n 2, 1) := by decide +kernel
theorem d3_worthFrom_5 : decode c3_worthFrom 5 = .ok (.iadd, 1) := by decide +kernel
theorem d3_worthFrom_6 : decode c3_worthFrom 6 = .ok (.bipush 9, 2) := by decide +kernel
theorem d3_worthFrom_8 : decode c3_worthFrom 8 = .ok (.imul, 1) := by decide +kernel
theorem d3_worthFrom_9 : decode c3_worthFrom 9 = .ok (.iload_n 3, 1) := by decide +kernel
theorem d3_worthFrom_10 : decode c3_worthFrom 10 = .ok (.iadd, 1) := by decide +kernel
theorem d3_worthFrom_11 : decode c3_worthFrom 11 = .ok (.bipush 9, 2) := by decide +kernel
theorem d3_worthFrom_13 : decode c3_worthFrom 13 = .ok (.imul, 1) := by decide +kernel
theorem d3_worthFrom_14 : decode c3_worthFrom 14 = .ok (.iload 4, 2) := by decide +kernel
theorem d3_worthFrom_16 : decode c3_worthFrom 16 = .ok (.iadd, 1) := by decide +kernel
theorem d3_worthFrom_17 : decode c3_worthFrom 17 = .ok (.istore 5, 2) := by decide +kernel
theorem d3_worthFrom_19 : decode c3_worthFrom 19 = .ok (.iload_n 1, 1) := by decide +kernel
theorem d3_worthFrom_20 : decode c3_worthFrom 20 = .ok (.bipush 12, 2) := by decide +kernel
theorem d3_worthFrom_22 : decode c3_worthFrom 22 = .ok (.if_icmp .ge 18, 3) := by decide +kernel
theorem d3_worthFrom_40 : decode c3_worthFrom 40 = .ok (.iload_n 2, 1) := by decide +kernel
theorem d3_worthFrom_41 : decode c3_worthFrom 41 = .ok (.ireturn, 1) := by decide +kernel
theorem mw3_worthFrom : MS y3_worthFrom c3_worthFrom 11 (some .int) 5 := ⟨cd3_worthFrom, ini3, na3_worthFrom, st3_worthFrom⟩
set_option maxHeartbeats 4000000 in
set_option maxRecDepth 100000 in
theorem k3_worthFrom_0 (l : Launch) (E : En) (la : Nat) (ka : Nat) (Q : Nat → Int) (ta : Nat) (oa : Nat) (T : Nat → Int) (ca : Nat) (pa : Nat) (da : Nat) (sa : Nat) (C : Nat → Int) (P : Int → Int) (dr : Int → Int) (sr : Int → Int) (co : Int → Int) (K : Dy) (kn : Int → Int) (step : Int) (p : Int) (a : Int) (b : Int) (htm : TmK K T C P dr sr co) (hkn : KnK K (Q 1) (Q 2) kn) (hsp : 0 ≤ Q 1 ∧ Q 1 ≤ 20) (hst : 12 ≤ step ∧ step ≤ 12) (hp : 0 ≤ p ∧ p ≤ 40) (ha : 0 ≤ a ∧ a ≤ 8) (hb : 0 ≤ b ∧ b ≤ 8) : Cm l E y3_worthFrom c3_worthFrom 11 (some .int) { frames := 0, cells := 0, slots := 0, locals := 0 } [.ref la, .int (iZ step), .int (iZ p), .int (iZ a), .int (iZ b)] [(la, o3 (some ta) (some ka) Q), (ka, aLng E 39852 kn), (ta, o7 (some ca) (some oa) T), (oa, aInt E 24 co), (ca, o1 (some pa) (some da) (some sa) C), (pa, aInt E 5 P), (da, aInt E 24 dr), (sa, aInt E 24 sr)] (fun r ws => ∃ (v : Int), ∃ (kn1 : Int → Int), r = some (.int (iZ v)) ∧ ws = [(la, o3 (some ta) (some ka) Q), (ka, aLng E 39852 kn1), (ta, o7 (some ca) (some oa) T), (oa, aInt E 24 co), (ca, o1 (some pa) (some da) (some sa) C), (pa, aInt E 5 P), (da, aInt E 24 dr), (sa, aInt E 24 sr)] ∧ (v = Vn K (Q 1) step (81 * p + 9 * a + b) ∧ KnK K (Q 1) (Q 2) kn1 ∧ (0 ≤ v ∧ v ≤ 7240))) := by
  refine Cm.of (by decide +kernel) (Nat.le_of_ble_eq_true rfl) (fun Γ A hl hargs hin G F => ?_)
  subst hl
  have tok := htm.2.1
  refine j_iload_n G 1 rfl d3_worthFrom_0 ?_
  refine j_bipush G d3_worthFrom_1 rfl ?_
  refine j_imul G d3_worthFrom_3 ?_
  refine j_iload_n G 2 rfl d3_worthFrom_4 ?_
  refine j_iadd G d3_worthFrom_5 ?_
  refine j_bipush G d3_worthFrom_6 rfl ?_
  refine j_imul G d3_worthFrom_8 ?_
  refine j_iload_n G 3 rfl d3_worthFrom_9 ?_
  refine j_iadd G d3_worthFrom_10 ?_
  refine j_bipush G d3_worthFrom_11 rfl ?_
  refine j_imul G d3_worthFrom_13 ?_
  refine j_iload G 4 rfl d3_worthFrom_14 ?_
  refine j_iadd G d3_worthFrom_16 ?_
  refine j_nm (fun pl epl => ?_)
  refine j_istore G d3_worthFrom_17 (by decide) rfl ?_
  refine j_iload_n G 2 rfl d3_worthFrom_19 ?_
  refine j_bipush G d3_worthFrom_20 rfl ?_
  refine j_icmp_ge (tgt := 40) G d3_worthFrom_22 (by decide) (by omega) (by decide) (fun h1 => ?_) (fun h1 => ?_)
  ·
    have he : step = 12 := by omega
    refine j_iload_n G 3 rfl d3_worthFrom_40 ?_
    exact j_iret G F d3_worthFrom_41 ⟨p, kn, rfl, rfl, (by refine ⟨?_, hkn, by omega⟩; rw [he, Vn_e]; omega)⟩
  ·
    exact absurd h1 (by omega)
theorem d3_worthOfTrip_0 : decode c3_worthOfTrip 0 = .ok (.aload_n 0, 1) := by decide +kernel
theorem d3_worthOfTrip_1 : decode c3_worthOfTrip 1 = .ok (.getfield 16, 3) := by decide +kernel
theorem d3_worthOfTrip_4 : decode c3_worthOfTrip 4 = .ok (.iload_n 3, 1) := by decide +kernel
theorem d3_worthOfTrip_5 : decode c3_worthOfTrip 5 = .ok (.invokevirtual 57, 3) := by decide +kernel
theorem d3_worthOfTrip_8 : decode c3_worthOfTrip 8 = .ok (.istore 5, 2) := by decide +kernel
theorem d3_worthOfTrip_10 : decode c3_worthOfTrip 10 = .ok (.aload_n 0, 1) := by decide +kernel
theorem d3_worthOfTrip_11 : decode c3_worthOfTrip 11 = .ok (.getfield 16, 3) := by decide +kernel
theorem d3_worthOfTrip_14 : decode c3_worthOfTrip 14 = .ok (.iload 4, 2) := by decide +kernel
theorem d3_worthOfTrip_16 : decode c3_worthOfTrip 16 = .ok (.invokevirtual 57, 3) := by decide +kernel
theorem d3_worthOfTrip_19 : decode c3_worthOfTrip 19 = .ok (.istore 6, 2) := by decide +kernel
theorem d3_worthOfTrip_21 : decode c3_worthOfTrip 21 = .ok (.aload_n 0, 1) := by decide +kernel
theorem d3_worthOfTrip_22 : decode c3_worthOfTrip 22 = .ok (.getfield 16, 3) := by decide +kernel
theorem d3_worthOfTrip_25 : decode c3_worthOfTrip 25 = .ok (.iload_n 1, 1) := by decide +kernel
theorem d3_worthOfTrip_26 : decode c3_worthOfTrip 26 = .ok (.iload 5, 2) := by decide +kernel
theorem d3_worthOfTrip_28 : decode c3_worthOfTrip 28 = .ok (.iload 6, 2) := by decide +kernel
theorem d3_worthOfTrip_30 : decode c3_worthOfTrip 30 = .ok (.invokevirtual 60, 3) := by decide +kernel
theorem d3_worthOfTrip_33 : decode c3_worthOfTrip 33 = .ok (.istore 7, 2) := by decide +kernel
theorem d3_worthOfTrip_35 : decode c3_worthOfTrip 35 = .ok (.iload 5, 2) := by decide +kernel
theorem d3_worthOfTrip_37 : decode c3_worthOfTrip 37 = .ok (.iload 6, 2) := by decide +kernel
theorem d3_worthOfTrip_39 : decode c3_worthOfTrip 39 = .ok (.iadd, 1) := by decide +kernel
theorem d3_worthOfTrip_40 : decode c3_worthOfTrip 40 = .ok (.ifCond .eq 21, 3) := by decide +kernel
theorem d3_worthOfTrip_43 : decode c3_worthOfTrip 43 = .ok (.iload 7, 2) := by decide +kernel
theorem d3_worthOfTrip_45 : decode c3_worthOfTrip 45 = .ok (.bipush (-5), 2) := by decide +kernel
theorem d3_worthOfTrip_47 : decode c3_worthOfTrip 47 = .ok (.if_icmp .eq 14, 3) := by decide +kernel
theorem d3_worthOfTrip_50 : decode c3_worthOfTrip 50 = .ok (.iload_n 2, 1) := by decide +kernel
theorem d3_worthOfTrip_51 : decode c3_worthOfTrip 51 = .ok (.iload 7, 2) := by decide +kernel
theorem d3_worthOfTrip_53 : decode c3_worthOfTrip 53 = .ok (.isub, 1) := by decide +kernel
theorem d3_worthOfTrip_54 : decode c3_worthOfTrip 54 = .ok (.aload_n 0, 1) := by decide +kernel
theorem d3_worthOfTrip_55 : decode c3_worthOfTrip 55 = .ok (.getfield 20, 3) := by decide +kernel
theorem d3_worthOfTrip_58 : decode c3_worthOfTrip 58 = .ok (.if_icmp .ge 6, 3) := by decide +kernel
theorem d3_worthOfTrip_61 : decode c3_worthOfTrip 61 = .ok (.ldc 64, 2) := by decide +kernel
theorem d3_worthOfTrip_63 : decode c3_worthOfTrip 63 = .ok (.ireturn, 1) := by decide +kernel
theorem d3_worthOfTrip_64 : decode c3_worthOfTrip 64 = .ok (.bipush 100, 2) := by decide +kernel
theorem d3_worthOfTrip_66 : decode c3_worthOfTrip 66 = .ok (.iload 6, 2) := by decide +kernel
theorem d3_worthOfTrip_68 : decode c3_worthOfTrip 68 = .ok (.imul, 1) := by decide +kernel
theorem d3_worthOfTrip_69 : decode c3_worthOfTrip 69 = .ok (.aload_n 0, 1) := by decide +kernel
theorem d3_worthOfTrip_70 : decode c3_worthOfTrip 70 = .ok (.iload_n 1, 1) := by decide +kernel
theorem d3_worthOfTrip_71 : decode c3_worthOfTrip 71 = .ok (.iconst 1, 1) := by decide +kernel
theorem d3_worthOfTrip_72 : decode c3_worthOfTrip 72 = .ok (.iadd, 1) := by decide +kernel
theorem d3_worthOfTrip_73 : decode c3_worthOfTrip 73 = .ok (.iload_n 2, 1) := by decide +kernel
theorem d3_worthOfTrip_74 : decode c3_worthOfTrip 74 = .ok (.iload 7, 2) := by decide +kernel
theorem d3_worthOfTrip_76 : decode c3_worthOfTrip 76 = .ok (.isub, 1) := by decide +kernel
theorem d3_worthOfTrip_77 : decode c3_worthOfTrip 77 = .ok (.iload_n 3, 1) := by decide +kernel
theorem d3_worthOfTrip_78 : decode c3_worthOfTrip 78 = .ok (.iload 5, 2) := by decide +kernel
theorem d3_worthOfTrip_80 : decode c3_worthOfTrip 80 = .ok (.isub, 1) := by decide +kernel
theorem d3_worthOfTrip_81 : decode c3_worthOfTrip 81 = .ok (.iload 4, 2) := by decide +kernel
theorem d3_worthOfTrip_83 : decode c3_worthOfTrip 83 = .ok (.iload 6, 2) := by decide +kernel
theorem d3_worthOfTrip_85 : decode c3_worthOfTrip 85 = .ok (.isub, 1) := by decide +kernel
theorem d3_worthOfTrip_86 : decode c3_worthOfTrip 86 = .ok (.invokestatic 45, 3) := by decide +kernel
theorem d3_worthOfTrip_89 : decode c3_worthOfTrip 89 = .ok (.iadd, 1) := by decide +kernel
theorem d3_worthOfTrip_90 : decode c3_worthOfTrip 90 = .ok (.ireturn, 1) := by decide +kernel
theorem mw3_worthOfTrip : MS y3_worthOfTrip c3_worthOfTrip 8 (some .int) 5 := ⟨cd3_worthOfTrip, ini3, na3_worthOfTrip, st3_worthOfTrip⟩
set_option maxHeartbeats 4000000 in
set_option maxRecDepth 100000 in
theorem k3_worthOfTrip_1 (l : Launch) (E : En) (la : Nat) (ka : Nat) (Q : Nat → Int) (ta : Nat) (oa : Nat) (T : Nat → Int) (ca : Nat) (pa : Nat) (da : Nat) (sa : Nat) (C : Nat → Int) (P : Int → Int) (dr : Int → Int) (sr : Int → Int) (co : Int → Int) (K : Dy) (kn : Int → Int) (step : Int) (p : Int) (a : Int) (b : Int) (htm : TmK K T C P dr sr co) (hkn : KnK K (Q 1) (Q 2) kn) (hsp : 0 ≤ Q 1 ∧ Q 1 ≤ 20) (hst : 11 ≤ step ∧ step ≤ 11) (hp : 0 ≤ p ∧ p ≤ 40) (ha : 0 ≤ a ∧ a ≤ 8) (hb : 0 ≤ b ∧ b ≤ 8) : Cm l E y3_worthOfTrip c3_worthOfTrip 8 (some .int) { frames := 3, cells := 0, slots := 0, locals := 74 } [.ref la, .int (iZ step), .int (iZ p), .int (iZ a), .int (iZ b)] [(la, o3 (some ta) (some ka) Q), (ka, aLng E 39852 kn), (ta, o7 (some ca) (some oa) T), (oa, aInt E 24 co), (ca, o1 (some pa) (some da) (some sa) C), (pa, aInt E 5 P), (da, aInt E 24 dr), (sa, aInt E 24 sr)] (fun r ws => ∃ (v : Int), ∃ (kn1 : Int → Int), r = some (.int (iZ v)) ∧ ws = [(la, o3 (some ta) (some ka) Q), (ka, aLng E 39852 kn1), (ta, o7 (some ca) (some oa) T), (oa, aInt E 24 co), (ca, o1 (some pa) (some da) (some sa) C), (pa, aInt E 5 P), (da, aInt E 24 dr), (sa, aInt E 24 sr)] ∧ (v = tpF K (Q 1) step p a b ∧ KnK K (Q 1) (Q 2) kn1 ∧ (v = -99999 ∨ (0 ≤ v ∧ v ≤ 8000)))) := by
  refine Cm.of (by decide +kernel) (Nat.le_of_ble_eq_true rfl) (fun Γ A hl hargs hin G F => ?_)
  subst hl
  have tok := htm.2.1
  have tse := tok.2.1
  refine j_aload_n G 0 rfl d3_worthOfTrip_0 ?_
  refine j_get G 0 3 0 in3 fl3_16 d3_worthOfTrip_1 rfl rfl (by decide) (v := .ref ta) rfl rfl ?_
  refine j_iload_n G 3 rfl d3_worthOfTrip_4 ?_
  refine j_VP G (k7_seated (xl Γ) E ta oa T ca pa da sa C P dr sr co K a (by first | assumption | omega | (simp only [upS, reduceIte, Nat.reduceEqDiff, eq_self, List.length_cons, List.length_nil, List.length_append] <;> omega)) (by first | assumption | omega | (simp only [upS, reduceIte, Nat.reduceEqDiff, eq_self, List.length_cons, List.length_nil, List.length_append] <;> omega))) mw7_seated ml3_57 [2, 3, 4, 5, 6, 7] rfl 2 7 rfl rfl rfl ⟨Nat.le_of_ble_eq_true rfl, Nat.le_of_ble_eq_true rfl⟩ rfl (rest := []) rfl (Nat.le_of_ble_eq_true rfl) d3_worthOfTrip_5 ⟨Nat.le_of_ble_eq_true rfl, Nat.le_of_ble_eq_true rfl⟩ (fun r hr => ?_)
  obtain ⟨v2, rfl, ⟨hq1_0, hq1_1, hq1_2, hq1_3, hq1_4⟩⟩ := hr
  have hd0 := hq1_0
  have hd1 := hq1_1
  have hd2 := hq1_2
  have hd3 := hq1_3
  have hd4 := hq1_4
  refine j_istore G d3_worthOfTrip_8 (by decide) rfl ?_
  refine j_aload_n G 1 rfl d3_worthOfTrip_10 ?_
  refine j_get G 0 3 0 in3 fl3_16 d3_worthOfTrip_11 rfl rfl (by decide) (v := .ref ta) rfl rfl ?_
  refine j_iload G 5 rfl d3_worthOfTrip_14 ?_
  refine j_VP G (k7_seated (xl Γ) E ta oa T ca pa da sa C P dr sr co K b (by first | assumption | omega | (simp only [upS, reduceIte, Nat.reduceEqDiff, eq_self, List.length_cons, List.length_nil, List.length_append] <;> omega)) (by first | assumption | omega | (simp only [upS, reduceIte, Nat.reduceEqDiff, eq_self, List.length_cons, List.length_nil, List.length_append] <;> omega))) mw7_seated ml3_57 [2, 3, 4, 5, 6, 7] rfl 2 7 rfl rfl rfl ⟨Nat.le_of_ble_eq_true rfl, Nat.le_of_ble_eq_true rfl⟩ rfl (rest := []) rfl (Nat.le_of_ble_eq_true rfl) d3_worthOfTrip_16 ⟨Nat.le_of_ble_eq_true rfl, Nat.le_of_ble_eq_true rfl⟩ (fun r hr => ?_)
  obtain ⟨v4, rfl, ⟨hq3_0, hq3_1, hq3_2, hq3_3, hq3_4⟩⟩ := hr
  have hu0 := hq3_0
  have hu1 := hq3_1
  have hu2 := hq3_2
  have hu3 := hq3_3
  have hu4 := hq3_4
  refine j_istore G d3_worthOfTrip_19 (by decide) rfl ?_
  refine j_aload_n G 2 rfl d3_worthOfTrip_21 ?_
  refine j_get G 0 3 0 in3 fl3_16 d3_worthOfTrip_22 rfl rfl (by decide) (v := .ref ta) rfl rfl ?_
  refine j_iload_n G 3 rfl d3_worthOfTrip_25 ?_
  refine j_iload G 1 rfl d3_worthOfTrip_26 ?_
  refine j_iload G 0 rfl d3_worthOfTrip_28 ?_
  refine j_VP G (k7_leastFor (xl Γ) E ta oa T ca pa da sa C P dr sr co K step v2 v4 (by first | assumption | omega | (simp only [upS, reduceIte, Nat.reduceEqDiff, eq_self, List.length_cons, List.length_nil, List.length_append] <;> omega)) (by first | assumption | omega | (simp only [upS, reduceIte, Nat.reduceEqDiff, eq_self, List.length_cons, List.length_nil, List.length_append] <;> omega)) (by first | assumption | omega | (simp only [upS, reduceIte, Nat.reduceEqDiff, eq_self, List.length_cons, List.length_nil, List.length_append] <;> omega)) (by first | assumption | omega | (simp only [upS, reduceIte, Nat.reduceEqDiff, eq_self, List.length_cons, List.length_nil, List.length_append] <;> omega))) mw7_leastFor ml3_60 [2, 3, 4, 5, 6, 7] rfl 2 7 rfl rfl rfl ⟨Nat.le_of_ble_eq_true rfl, Nat.le_of_ble_eq_true rfl⟩ rfl (rest := []) rfl (Nat.le_of_ble_eq_true rfl) d3_worthOfTrip_30 ⟨Nat.le_of_ble_eq_true rfl, Nat.le_of_ble_eq_true rfl⟩ (fun r hr => ?_)
  obtain ⟨v6, rfl, ⟨hq5_0, hq5_1⟩⟩ := hr
  have hw0 := hq5_0
  have hw1 := hq5_1
  refine j_istore G d3_worthOfTrip_33 (by decide) rfl ?_
  refine j_iload G 2 rfl d3_worthOfTrip_35 ?_
  refine j_iload G 1 rfl d3_worthOfTrip_37 ?_
  refine j_iadd G d3_worthOfTrip_39 ?_
  refine j_if_eq (tgt := 61) G d3_worthOfTrip_40 (by decide) (by omega) (fun h7 => ?_) (fun h7 => ?_)
  ·
    refine j_ldc G (-99999) ct3_64 (by decide) d3_worthOfTrip_61 ?_
    exact j_iret G F d3_worthOfTrip_63 ⟨(-99999), kn, rfl, rfl, (by refine ⟨?_, hkn, Or.inl rfl⟩; unfold tpF; rw [← hd0, ← hu0, ← hw0, if_pos (by omega)])⟩
  ·
    refine j_iload G 0 rfl d3_worthOfTrip_43 ?_
    refine j_bipush G d3_worthOfTrip_45 rfl ?_
    refine j_icmp_eq (tgt := 61) G d3_worthOfTrip_47 (by decide) (by omega) (by decide) (fun h8 => ?_) (fun h8 => ?_)
    ·
      refine j_ldc G (-99999) ct3_64 (by decide) d3_worthOfTrip_61 ?_
      exact j_iret G F d3_worthOfTrip_63 ⟨(-99999), kn, rfl, rfl, (by refine ⟨?_, hkn, Or.inl rfl⟩; unfold tpF; rw [← hd0, ← hu0, ← hw0, if_pos (by omega)])⟩
    ·
      refine j_iload_n G 5 rfl d3_worthOfTrip_50 ?_
      refine j_iload G 0 rfl d3_worthOfTrip_51 ?_
      refine j_isub G d3_worthOfTrip_53 ?_
      refine j_aload_n G 3 rfl d3_worthOfTrip_54 ?_
      refine j_get G 0 3 1 in3 fl3_20 d3_worthOfTrip_55 rfl rfl (by decide) (v := .int (iZ (Q 1))) rfl rfl ?_
      refine j_icmp_ge (tgt := 64) G d3_worthOfTrip_58 (by decide) (by omega) (by omega) (fun h9 => ?_) (fun h9 => ?_)
      ·
        refine j_bipush G d3_worthOfTrip_64 rfl ?_
        refine j_iload G 1 rfl d3_worthOfTrip_66 ?_
        refine j_imul G d3_worthOfTrip_68 ?_
        refine j_aload_n G 3 rfl d3_worthOfTrip_69 ?_
        refine j_iload_n G 4 rfl d3_worthOfTrip_70 ?_
        refine j_iconst G d3_worthOfTrip_71 ?_
        refine j_iadd G d3_worthOfTrip_72 ?_
        refine j_iload_n G 5 rfl d3_worthOfTrip_73 ?_
        refine j_iload G 0 rfl d3_worthOfTrip_74 ?_
        refine j_isub G d3_worthOfTrip_76 ?_
        refine j_iload_n G 6 rfl d3_worthOfTrip_77 ?_
        refine j_iload G 2 rfl d3_worthOfTrip_78 ?_
        refine j_isub G d3_worthOfTrip_80 ?_
        refine j_iload G 7 rfl d3_worthOfTrip_81 ?_
        refine j_iload G 1 rfl d3_worthOfTrip_83 ?_
        refine j_isub G d3_worthOfTrip_85 ?_
        refine j_SM G (rm' := { frames := 0, cells := 0, slots := 0, locals := 0 }) (wc := [(la, o3 (some ta) (some ka) Q), (ka, aLng E 39852 kn), (ta, o7 (some ca) (some oa) T), (oa, aInt E 24 co), (ca, o1 (some pa) (some da) (some sa) C), (pa, aInt E 5 P), (da, aInt E 24 dr), (sa, aInt E 24 sr)]) (wr := []) (k3_worthFrom_0 (xl Γ) E la ka Q ta oa T ca pa da sa C P dr sr co K kn (step + 1) (p - v6) (a - v2) (b - v4) (by first | assumption | omega | (simp only [upS, reduceIte, Nat.reduceEqDiff, eq_self, List.length_cons, List.length_nil, List.length_append] <;> omega)) (by first | assumption | omega | (simp only [upS, reduceIte, Nat.reduceEqDiff, eq_self, List.length_cons, List.length_nil, List.length_append] <;> omega)) (by first | assumption | omega | (simp only [upS, reduceIte, Nat.reduceEqDiff, eq_self, List.length_cons, List.length_nil, List.length_append] <;> omega)) (by first | assumption | omega | (simp only [upS, reduceIte, Nat.reduceEqDiff, eq_self, List.length_cons, List.length_nil, List.length_append] <;> omega)) (by first | assumption | omega | (simp only [upS, reduceIte, Nat.reduceEqDiff, eq_self, List.length_cons, List.length_nil, List.length_append] <;> omega)) (by first | assumption | omega | (simp only [upS, reduceIte, Nat.reduceEqDiff, eq_self, List.length_cons, List.length_nil, List.length_append] <;> omega)) (by first | assumption | omega | (simp only [upS, reduceIte, Nat.reduceEqDiff, eq_self, List.length_cons, List.length_nil, List.length_append] <;> omega))) mw3_worthFrom ml3_45 [0, 1, 2, 3, 4, 5, 6, 7] [] rfl rfl ⟨rfl, rfl⟩ (by decide) ⟨Nat.le_of_ble_eq_true rfl, Nat.le_of_ble_eq_true rfl⟩ rfl (rest := [.int (iZ (100 * v4))]) rfl (Nat.le_of_ble_eq_true rfl) d3_worthOfTrip_86 ⟨Nat.le_of_ble_eq_true rfl, Nat.le_of_ble_eq_true rfl⟩ (fun r w1 hr => ?_)
        obtain ⟨v11, kn1_12, rfl, rfl, ⟨hq10_0, hq10_1, hq10_2⟩⟩ := hr
        refine j_eq (ws' := [(la, o3 (some ta) (some ka) Q), (ka, aLng E 39852 kn1_12), (ta, o7 (some ca) (some oa) T), (oa, aInt E 24 co), (ca, o1 (some pa) (some da) (some sa) C), (pa, aInt E 5 P), (da, aInt E 24 dr), (sa, aInt E 24 sr)]) rfl rfl rfl ?_
        have hn0 := hq10_0
        have hn1 := hq10_1
        have hn2 := hq10_2
        refine j_iadd G d3_worthOfTrip_89 ?_
        exact j_iret G F d3_worthOfTrip_90 ⟨(100 * v4) + v11, kn1_12, rfl, rfl, (by refine ⟨?_, hn1, by omega⟩; unfold tpF; rw [← hd0, ← hu0, ← hw0, if_neg (by omega), hn0])⟩
      ·
        refine j_ldc G (-99999) ct3_64 (by decide) d3_worthOfTrip_61 ?_
        exact j_iret G F d3_worthOfTrip_63 ⟨(-99999), kn, rfl, rfl, (by refine ⟨?_, hkn, Or.inl rfl⟩; unfold tpF; rw [← hd0, ← hu0, ← hw0, if_pos (by omega)])⟩
theorem d3_worthFrom_25 : decode c3_worthFrom 25 = .ok (.iload 5, 2) := by decide +kernel
theorem d3_worthFrom_27 : decode c3_worthFrom 27 = .ok (.ifCond .lt 13, 3) := by decide +kernel
theorem d3_worthFrom_30 : decode c3_worthFrom 30 = .ok (.iload 5, 2) := by decide +kernel
theorem d3_worthFrom_32 : decode c3_worthFrom 32 = .ok (.aload_n 0, 1) := by decide +kernel
theorem d3_worthFrom_33 : decode c3_worthFrom 33 = .ok (.getfield 12, 3) := by decide +kernel
theorem d3_worthFrom_36 : decode c3_worthFrom 36 = .ok (.arraylength, 1) := by decide +kernel
theorem d3_worthFrom_37 : decode c3_worthFrom 37 = .ok (.if_icmp .lt 5, 3) := by decide +kernel
theorem d3_worthFrom_42 : decode c3_worthFrom 42 = .ok (.aload_n 0, 1) := by decide +kernel
theorem d3_worthFrom_43 : decode c3_worthFrom 43 = .ok (.getfield 12, 3) := by decide +kernel
theorem d3_worthFrom_46 : decode c3_worthFrom 46 = .ok (.iload 5, 2) := by decide +kernel
theorem d3_worthFrom_48 : decode c3_worthFrom 48 = .ok (.laload, 1) := by decide +kernel
theorem d3_worthFrom_49 : decode c3_worthFrom 49 = .ok (.bipush 20, 2) := by decide +kernel
theorem d3_worthFrom_51 : decode c3_worthFrom 51 = .ok (.lshr, 1) := by decide +kernel
theorem d3_worthFrom_52 : decode c3_worthFrom 52 = .ok (.aload_n 0, 1) := by decide +kernel
theorem d3_worthFrom_53 : decode c3_worthFrom 53 = .ok (.getfield 24, 3) := by decide +kernel
theorem d3_worthFrom_56 : decode c3_worthFrom 56 = .ok (.lcmp, 1) := by decide +kernel
theorem d3_worthFrom_57 : decode c3_worthFrom 57 = .ok (.ifCond .ne 15, 3) := by decide +kernel
theorem d3_worthFrom_60 : decode c3_worthFrom 60 = .ok (.aload_n 0, 1) := by decide +kernel
theorem d3_worthFrom_61 : decode c3_worthFrom 61 = .ok (.getfield 12, 3) := by decide +kernel
theorem d3_worthFrom_64 : decode c3_worthFrom 64 = .ok (.iload 5, 2) := by decide +kernel
theorem d3_worthFrom_66 : decode c3_worthFrom 66 = .ok (.laload, 1) := by decide +kernel
theorem d3_worthFrom_67 : decode c3_worthFrom 67 = .ok (.l2i, 1) := by decide +kernel
theorem d3_worthFrom_68 : decode c3_worthFrom 68 = .ok (.ldc 28, 2) := by decide +kernel
theorem d3_worthFrom_70 : decode c3_worthFrom 70 = .ok (.iand, 1) := by decide +kernel
theorem d3_worthFrom_71 : decode c3_worthFrom 71 = .ok (.ireturn, 1) := by decide +kernel
theorem d3_worthFrom_72 : decode c3_worthFrom 72 = .ok (.aload_n 0, 1) := by decide +kernel
theorem d3_worthFrom_73 : decode c3_worthFrom 73 = .ok (.getfield 16, 3) := by decide +kernel
theorem d3_worthFrom_76 : decode c3_worthFrom 76 = .ok (.iload_n 1, 1) := by decide +kernel
theorem d3_worthFrom_77 : decode c3_worthFrom 77 = .ok (.iload_n 2, 1) := by decide +kernel
theorem d3_worthFrom_78 : decode c3_worthFrom 78 = .ok (.invokevirtual 29, 3) := by decide +kernel
theorem d3_worthFrom_81 : decode c3_worthFrom 81 = .ok (.istore 6, 2) := by decide +kernel
theorem d3_worthFrom_83 : decode c3_worthFrom 83 = .ok (.iload_n 3, 1) := by decide +kernel
theorem d3_worthFrom_84 : decode c3_worthFrom 84 = .ok (.aload_n 0, 1) := by decide +kernel
theorem d3_worthFrom_85 : decode c3_worthFrom 85 = .ok (.getfield 16, 3) := by decide +kernel
theorem d3_worthFrom_88 : decode c3_worthFrom 88 = .ok (.iload_n 1, 1) := by decide +kernel
theorem d3_worthFrom_89 : decode c3_worthFrom 89 = .ok (.invokevirtual 35, 3) := by decide +kernel
theorem d3_worthFrom_92 : decode c3_worthFrom 92 = .ok (.iadd, 1) := by decide +kernel
theorem d3_worthFrom_93 : decode c3_worthFrom 93 = .ok (.invokestatic 39, 3) := by decide +kernel
theorem d3_worthFrom_96 : decode c3_worthFrom 96 = .ok (.istore 7, 2) := by decide +kernel
theorem d3_worthFrom_98 : decode c3_worthFrom 98 = .ok (.iload 4, 2) := by decide +kernel
theorem d3_worthFrom_100 : decode c3_worthFrom 100 = .ok (.aload_n 0, 1) := by decide +kernel
theorem d3_worthFrom_101 : decode c3_worthFrom 101 = .ok (.getfield 16, 3) := by decide +kernel
theorem d3_worthFrom_104 : decode c3_worthFrom 104 = .ok (.iload_n 1, 1) := by decide +kernel
theorem d3_worthFrom_105 : decode c3_worthFrom 105 = .ok (.invokevirtual 42, 3) := by decide +kernel
theorem d3_worthFrom_108 : decode c3_worthFrom 108 = .ok (.iadd, 1) := by decide +kernel
theorem d3_worthFrom_109 : decode c3_worthFrom 109 = .ok (.invokestatic 39, 3) := by decide +kernel
theorem d3_worthFrom_112 : decode c3_worthFrom 112 = .ok (.istore 8, 2) := by decide +kernel
theorem d3_worthFrom_114 : decode c3_worthFrom 114 = .ok (.aload_n 0, 1) := by decide +kernel
theorem d3_worthFrom_115 : decode c3_worthFrom 115 = .ok (.iload_n 1, 1) := by decide +kernel
theorem d3_worthFrom_116 : decode c3_worthFrom 116 = .ok (.iconst 1, 1) := by decide +kernel
theorem d3_worthFrom_117 : decode c3_worthFrom 117 = .ok (.iadd, 1) := by decide +kernel
theorem d3_worthFrom_118 : decode c3_worthFrom 118 = .ok (.iload 6, 2) := by decide +kernel
theorem d3_worthFrom_120 : decode c3_worthFrom 120 = .ok (.iload 7, 2) := by decide +kernel
theorem d3_worthFrom_122 : decode c3_worthFrom 122 = .ok (.iload 8, 2) := by decide +kernel
theorem d3_worthFrom_124 : decode c3_worthFrom 124 = .ok (.invokestatic 45, 3) := by decide +kernel
theorem d3_worthFrom_127 : decode c3_worthFrom 127 = .ok (.istore 9, 2) := by decide +kernel
theorem d3_worthFrom_129 : decode c3_worthFrom 129 = .ok (.iload 9, 2) := by decide +kernel
theorem d3_worthFrom_131 : decode c3_worthFrom 131 = .ok (.aload_n 0, 1) := by decide +kernel
theorem d3_worthFrom_132 : decode c3_worthFrom 132 = .ok (.iload_n 1, 1) := by decide +kernel
theorem d3_worthFrom_133 : decode c3_worthFrom 133 = .ok (.iload 6, 2) := by decide +kernel
theorem d3_worthFrom_135 : decode c3_worthFrom 135 = .ok (.iload 7, 2) := by decide +kernel
theorem d3_worthFrom_137 : decode c3_worthFrom 137 = .ok (.iload 8, 2) := by decide +kernel
theorem d3_worthFrom_139 : decode c3_worthFrom 139 = .ok (.invokestatic 49, 3) := by decide +kernel
theorem d3_worthFrom_142 : decode c3_worthFrom 142 = .ok (.invokestatic 52, 3) := by decide +kernel
theorem d3_worthFrom_145 : decode c3_worthFrom 145 = .ok (.istore 10, 2) := by decide +kernel
theorem d3_worthFrom_147 : decode c3_worthFrom 147 = .ok (.aload_n 0, 1) := by decide +kernel
theorem d3_worthFrom_148 : decode c3_worthFrom 148 = .ok (.getfield 12, 3) := by decide +kernel
theorem d3_worthFrom_151 : decode c3_worthFrom 151 = .ok (.iload 5, 2) := by decide +kernel
theorem d3_worthFrom_153 : decode c3_worthFrom 153 = .ok (.aload_n 0, 1) := by decide +kernel
theorem d3_worthFrom_154 : decode c3_worthFrom 154 = .ok (.getfield 24, 3) := by decide +kernel
theorem d3_worthFrom_157 : decode c3_worthFrom 157 = .ok (.bipush 20, 2) := by decide +kernel
theorem d3_worthFrom_159 : decode c3_worthFrom 159 = .ok (.lshl, 1) := by decide +kernel
theorem d3_worthFrom_160 : decode c3_worthFrom 160 = .ok (.iload 10, 2) := by decide +kernel
theorem d3_worthFrom_162 : decode c3_worthFrom 162 = .ok (.i2l, 1) := by decide +kernel
theorem d3_worthFrom_163 : decode c3_worthFrom 163 = .ok (.lor, 1) := by decide +kernel
theorem d3_worthFrom_164 : decode c3_worthFrom 164 = .ok (.lastore, 1) := by decide +kernel
theorem d3_worthFrom_165 : decode c3_worthFrom 165 = .ok (.iload 10, 2) := by decide +kernel
theorem d3_worthFrom_167 : decode c3_worthFrom 167 = .ok (.ireturn, 1) := by decide +kernel
set_option maxHeartbeats 4000000 in
set_option maxRecDepth 100000 in
theorem k3_worthFrom_1 (l : Launch) (E : En) (la : Nat) (ka : Nat) (Q : Nat → Int) (ta : Nat) (oa : Nat) (T : Nat → Int) (ca : Nat) (pa : Nat) (da : Nat) (sa : Nat) (C : Nat → Int) (P : Int → Int) (dr : Int → Int) (sr : Int → Int) (co : Int → Int) (K : Dy) (kn : Int → Int) (step : Int) (p : Int) (a : Int) (b : Int) (htm : TmK K T C P dr sr co) (hkn : KnK K (Q 1) (Q 2) kn) (hsp : 0 ≤ Q 1 ∧ Q 1 ≤ 20) (hst : 11 ≤ step ∧ step ≤ 12) (hp : 0 ≤ p ∧ p ≤ 40) (ha : 0 ≤ a ∧ a ≤ 8) (hb : 0 ≤ b ∧ b ≤ 8) : Cm l E y3_worthFrom c3_worthFrom 11 (some .int) { frames := 4, cells := 0, slots := 0, locals := 101 } [.ref la, .int (iZ step), .int (iZ p), .int (iZ a), .int (iZ b)] [(la, o3 (some ta) (some ka) Q), (ka, aLng E 39852 kn), (ta, o7 (some ca) (some oa) T), (oa, aInt E 24 co), (ca, o1 (some pa) (some da) (some sa) C), (pa, aInt E 5 P), (da, aInt E 24 dr), (sa, aInt E 24 sr)] (fun r ws => ∃ (v : Int), ∃ (kn1 : Int → Int), r = some (.int (iZ v)) ∧ ws = [(la, o3 (some ta) (some ka) Q), (ka, aLng E 39852 kn1), (ta, o7 (some ca) (some oa) T), (oa, aInt E 24 co), (ca, o1 (some pa) (some da) (some sa) C), (pa, aInt E 5 P), (da, aInt E 24 dr), (sa, aInt E 24 sr)] ∧ (v = Vn K (Q 1) step (81 * p + 9 * a + b) ∧ KnK K (Q 1) (Q 2) kn1 ∧ (0 ≤ v ∧ v ≤ 7240))) := by
  refine Cm.of (by decide +kernel) (Nat.le_of_ble_eq_true rfl) (fun Γ A hl hargs hin G F => ?_)
  subst hl
  have tok := htm.2.1
  refine j_iload_n G 1 rfl d3_worthFrom_0 ?_
  refine j_bipush G d3_worthFrom_1 rfl ?_
  refine j_imul G d3_worthFrom_3 ?_
  refine j_iload_n G 2 rfl d3_worthFrom_4 ?_
  refine j_iadd G d3_worthFrom_5 ?_
  refine j_bipush G d3_worthFrom_6 rfl ?_
  refine j_imul G d3_worthFrom_8 ?_
  refine j_iload_n G 3 rfl d3_worthFrom_9 ?_
  refine j_iadd G d3_worthFrom_10 ?_
  refine j_bipush G d3_worthFrom_11 rfl ?_
  refine j_imul G d3_worthFrom_13 ?_
  refine j_iload G 4 rfl d3_worthFrom_14 ?_
  refine j_iadd G d3_worthFrom_16 ?_
  refine j_nm (fun pl epl => ?_)
  refine j_istore G d3_worthFrom_17 (by decide) rfl ?_
  refine j_iload_n G 2 rfl d3_worthFrom_19 ?_
  have hpl : pl = 3321 * step + (81 * p + 9 * a + b) := by omega
  refine j_bipush G d3_worthFrom_20 rfl ?_
  refine j_icmp_ge (tgt := 40) G d3_worthFrom_22 (by decide) (by omega) (by decide) (fun h1 => ?_) (fun h1 => ?_)
  ·
    have he : step = 12 := by omega
    refine j_iload_n G 3 rfl d3_worthFrom_40 ?_
    exact j_iret G F d3_worthFrom_41 ⟨p, kn, rfl, rfl, (by refine ⟨?_, hkn, by omega⟩; rw [he, Vn_e]; omega)⟩
  ·
    have hj : 0 ≤ pl ∧ pl < 39852 := by omega
    have hs11 : 0 ≤ step ∧ step ≤ 11 := by omega
    have hnw := st_now (K := K) (s := step) (p := p) ha hb
    have hdr := dR tok hs11 (st := (81 * p + 9 * a + b)) (by omega)
    have hnr := dNow_r tok hs11 (st := (81 * p + 9 * a + b)) (by omega)
    refine j_iload G 0 rfl d3_worthFrom_25 ?_
    refine j_if_lt (tgt := 40) G d3_worthFrom_27 (by decide) (by omega) (fun h2 => ?_) (fun h2 => ?_)
    ·
      exact absurd h2 (by omega)
    ·
      refine j_iload G 0 rfl d3_worthFrom_30 ?_
      refine j_aload_n G 1 rfl d3_worthFrom_32 ?_
      refine j_get G 0 3 3 in3 fl3_12 d3_worthFrom_33 rfl rfl (by decide) (v := .ref ka) rfl rfl ?_
      refine j_alenL G 1 rfl d3_worthFrom_36 ?_
      refine j_icmp_lt (tgt := 42) G d3_worthFrom_37 (by decide) (by omega) (by decide) (fun h3 => ?_) (fun h3 => ?_)
      ·
        have hje : pl / 3321 = step ∧ pl % 3321 = (81 * p + 9 * a + b) := by omega
        have hkj := hkn.2 pl hj.1 hj.2
        have hed := hkn.1
        refine j_aload_n G 1 rfl d3_worthFrom_42 ?_
        refine j_get G 0 3 3 in3 fl3_12 d3_worthFrom_43 rfl rfl (by decide) (v := .ref ka) rfl rfl ?_
        refine j_iload G 0 rfl d3_worthFrom_46 ?_
        refine j_lald G 1 rfl (by omega) d3_worthFrom_48 ?_
        refine j_bipush G d3_worthFrom_49 rfl ?_
        refine r_lshr G d3_worthFrom_51 ?_
        refine j_topl (y := (lZ (kn pl / 1048576))) (kn_hi (by omega) (by omega)) ?_
        refine j_aload_n G 1 rfl d3_worthFrom_52 ?_
        refine j_get G 0 3 2 in3 fl3_24 d3_worthFrom_53 rfl rfl (by decide) (v := .long (lZ (Q 2))) rfl rfl ?_
        refine j_lcmp G d3_worthFrom_56 (by omega) (by omega) ?_
        refine j_if_ne (tgt := 72) G d3_worthFrom_57 (by decide) (by split <;> first | decide | (split <;> decide)) (fun h4 => ?_) (fun h4 => ?_)
        ·
          have h4 : (kn pl / 1048576) ≠ (Q 2) := by
            revert h4; split <;> (try split) <;> intro h4 <;> omega
          refine j_aload_n G 1 rfl d3_worthFrom_72 ?_
          refine j_get G 0 3 0 in3 fl3_16 d3_worthFrom_73 rfl rfl (by decide) (v := .ref ta) rfl rfl ?_
          refine j_iload_n G 2 rfl d3_worthFrom_76 ?_
          refine j_iload_n G 3 rfl d3_worthFrom_77 ?_
          refine j_VP G (k7_pondWithSpring (xl Γ) E ta oa T ca pa da sa C P dr sr co K step p (by first | assumption | omega | (simp only [upS, reduceIte, Nat.reduceEqDiff, eq_self, List.length_cons, List.length_nil, List.length_append] <;> omega)) (by first | assumption | omega | (simp only [upS, reduceIte, Nat.reduceEqDiff, eq_self, List.length_cons, List.length_nil, List.length_append] <;> omega)) (by first | assumption | omega | (simp only [upS, reduceIte, Nat.reduceEqDiff, eq_self, List.length_cons, List.length_nil, List.length_append] <;> omega))) mw7_pondWithSpring ml3_29 [2, 3, 4, 5, 6, 7] rfl 2 7 rfl rfl rfl ⟨Nat.le_of_ble_eq_true rfl, Nat.le_of_ble_eq_true rfl⟩ rfl (rest := []) rfl (Nat.le_of_ble_eq_true rfl) d3_worthFrom_78 ⟨Nat.le_of_ble_eq_true rfl, Nat.le_of_ble_eq_true rfl⟩ (fun r hr => ?_)
          obtain ⟨v6, rfl, ⟨hq5_0, hq5_1, hq5_2⟩⟩ := hr
          have hf2 := hq5_1
          have hF : dF K step (81 * p + 9 * a + b) = v6 := by have := hq5_0; omega
          refine j_istore G d3_worthFrom_81 (by decide) rfl ?_
          refine j_iload_n G 5 rfl d3_worthFrom_83 ?_
          refine j_aload_n G 2 rfl d3_worthFrom_84 ?_
          refine j_get G 0 3 0 in3 fl3_16 d3_worthFrom_85 rfl rfl (by decide) (v := .ref ta) rfl rfl ?_
          refine j_iload_n G 3 rfl d3_worthFrom_88 ?_
          refine j_VP G (k7_comingAbove (xl Γ) E ta oa T ca pa da sa C P dr sr co K step (by first | assumption | omega | (simp only [upS, reduceIte, Nat.reduceEqDiff, eq_self, List.length_cons, List.length_nil, List.length_append] <;> omega)) (by first | assumption | omega | (simp only [upS, reduceIte, Nat.reduceEqDiff, eq_self, List.length_cons, List.length_nil, List.length_append] <;> omega))) mw7_comingAbove ml3_35 [2, 3, 4, 5, 6, 7] rfl 2 7 rfl rfl rfl ⟨Nat.le_of_ble_eq_true rfl, Nat.le_of_ble_eq_true rfl⟩ rfl (rest := [.int (iZ a)]) rfl (Nat.le_of_ble_eq_true rfl) d3_worthFrom_89 ⟨Nat.le_of_ble_eq_true rfl, Nat.le_of_ble_eq_true rfl⟩ (fun r hr => ?_)
          obtain ⟨v8, rfl, ⟨hq7_0, hq7_1, hq7_2⟩⟩ := hr
          have hca := hq7_0
          have hcb := hq7_1
          refine j_iadd G d3_worthFrom_92 ?_
          refine j_SP G (k3_waiting (xl Γ) E (a + v8) (by first | assumption | omega | (simp only [upS, reduceIte, Nat.reduceEqDiff, eq_self, List.length_cons, List.length_nil, List.length_append] <;> omega))) mw3_waiting ml3_39 [] rfl ⟨Nat.le_of_ble_eq_true rfl, Nat.le_of_ble_eq_true rfl⟩ rfl (rest := []) rfl (Nat.le_of_ble_eq_true rfl) d3_worthFrom_93 ⟨Nat.le_of_ble_eq_true rfl, Nat.le_of_ble_eq_true rfl⟩ (fun r hr => ?_)
          obtain ⟨v10, rfl, hq9⟩ := hr
          have hA : dA K step (81 * p + 9 * a + b) = v10 := by have := hq9; omega
          have hta := hq9
          refine j_istore G d3_worthFrom_96 (by decide) rfl ?_
          refine j_iload G 7 rfl d3_worthFrom_98 ?_
          refine j_aload_n G 3 rfl d3_worthFrom_100 ?_
          refine j_get G 0 3 0 in3 fl3_16 d3_worthFrom_101 rfl rfl (by decide) (v := .ref ta) rfl rfl ?_
          refine j_iload_n G 4 rfl d3_worthFrom_104 ?_
          refine j_VP G (k7_comingBelow (xl Γ) E ta oa T ca pa da sa C P dr sr co K step (by first | assumption | omega | (simp only [upS, reduceIte, Nat.reduceEqDiff, eq_self, List.length_cons, List.length_nil, List.length_append] <;> omega)) (by first | assumption | omega | (simp only [upS, reduceIte, Nat.reduceEqDiff, eq_self, List.length_cons, List.length_nil, List.length_append] <;> omega))) mw7_comingBelow ml3_42 [2, 3, 4, 5, 6, 7] rfl 2 7 rfl rfl rfl ⟨Nat.le_of_ble_eq_true rfl, Nat.le_of_ble_eq_true rfl⟩ rfl (rest := [.int (iZ b)]) rfl (Nat.le_of_ble_eq_true rfl) d3_worthFrom_105 ⟨Nat.le_of_ble_eq_true rfl, Nat.le_of_ble_eq_true rfl⟩ (fun r hr => ?_)
          obtain ⟨v12, rfl, ⟨hq11_0, hq11_1, hq11_2⟩⟩ := hr
          have hda := hq11_0
          have hdb := hq11_1
          refine j_iadd G d3_worthFrom_108 ?_
          refine j_SP G (k3_waiting (xl Γ) E (b + v12) (by first | assumption | omega | (simp only [upS, reduceIte, Nat.reduceEqDiff, eq_self, List.length_cons, List.length_nil, List.length_append] <;> omega))) mw3_waiting ml3_39 [] rfl ⟨Nat.le_of_ble_eq_true rfl, Nat.le_of_ble_eq_true rfl⟩ rfl (rest := []) rfl (Nat.le_of_ble_eq_true rfl) d3_worthFrom_109 ⟨Nat.le_of_ble_eq_true rfl, Nat.le_of_ble_eq_true rfl⟩ (fun r hr => ?_)
          obtain ⟨v14, rfl, hq13⟩ := hr
          have hB : dB K step (81 * p + 9 * a + b) = v14 := by have := hq13; omega
          have htb := hq13
          refine j_istore G d3_worthFrom_112 (by decide) rfl ?_
          refine j_aload_n G 4 rfl d3_worthFrom_114 ?_
          refine j_iload_n G 5 rfl d3_worthFrom_115 ?_
          refine j_iconst G d3_worthFrom_116 ?_
          refine j_iadd G d3_worthFrom_117 ?_
          refine j_iload G 2 rfl d3_worthFrom_118 ?_
          refine j_iload G 1 rfl d3_worthFrom_120 ?_
          refine j_iload G 0 rfl d3_worthFrom_122 ?_
          refine j_SM G (rm' := { frames := 0, cells := 0, slots := 0, locals := 0 }) (wc := [(la, o3 (some ta) (some ka) Q), (ka, aLng E 39852 kn), (ta, o7 (some ca) (some oa) T), (oa, aInt E 24 co), (ca, o1 (some pa) (some da) (some sa) C), (pa, aInt E 5 P), (da, aInt E 24 dr), (sa, aInt E 24 sr)]) (wr := []) (k3_worthFrom_0 (xl Γ) E la ka Q ta oa T ca pa da sa C P dr sr co K kn (step + 1) v6 v10 v14 (by first | assumption | omega | (simp only [upS, reduceIte, Nat.reduceEqDiff, eq_self, List.length_cons, List.length_nil, List.length_append] <;> omega)) (by first | assumption | omega | (simp only [upS, reduceIte, Nat.reduceEqDiff, eq_self, List.length_cons, List.length_nil, List.length_append] <;> omega)) (by first | assumption | omega | (simp only [upS, reduceIte, Nat.reduceEqDiff, eq_self, List.length_cons, List.length_nil, List.length_append] <;> omega)) (by first | assumption | omega | (simp only [upS, reduceIte, Nat.reduceEqDiff, eq_self, List.length_cons, List.length_nil, List.length_append] <;> omega)) (by first | assumption | omega | (simp only [upS, reduceIte, Nat.reduceEqDiff, eq_self, List.length_cons, List.length_nil, List.length_append] <;> omega)) (by first | assumption | omega | (simp only [upS, reduceIte, Nat.reduceEqDiff, eq_self, List.length_cons, List.length_nil, List.length_append] <;> omega)) (by first | assumption | omega | (simp only [upS, reduceIte, Nat.reduceEqDiff, eq_self, List.length_cons, List.length_nil, List.length_append] <;> omega))) mw3_worthFrom ml3_45 [0, 1, 2, 3, 4, 5, 6, 7] [] rfl rfl ⟨rfl, rfl⟩ (by decide) ⟨Nat.le_of_ble_eq_true rfl, Nat.le_of_ble_eq_true rfl⟩ rfl (rest := []) rfl (Nat.le_of_ble_eq_true rfl) d3_worthFrom_124 ⟨Nat.le_of_ble_eq_true rfl, Nat.le_of_ble_eq_true rfl⟩ (fun r w1 hr => ?_)
          obtain ⟨v16, kn1_17, rfl, rfl, ⟨hq15_0, hq15_1, hq15_2⟩⟩ := hr
          refine j_eq (ws' := [(la, o3 (some ta) (some ka) Q), (ka, aLng E 39852 kn1_17), (ta, o7 (some ca) (some oa) T), (oa, aInt E 24 co), (ca, o1 (some pa) (some da) (some sa) C), (pa, aInt E 5 P), (da, aInt E 24 dr), (sa, aInt E 24 sr)]) rfl rfl rfl ?_
          have hn0 : v16 = Vn K (Q 1) (step + 1) (dNow K step (81 * p + 9 * a + b)) := by rw [hq15_0]; congr 1; unfold dNow; omega
          have hn1 := hq15_1
          have hn2 := hq15_2
          refine j_istore G d3_worthFrom_127 (by decide) rfl ?_
          refine j_iload G 0 rfl d3_worthFrom_129 ?_
          refine j_aload_n G 5 rfl d3_worthFrom_131 ?_
          refine j_iload_n G 6 rfl d3_worthFrom_132 ?_
          refine j_iload G 3 rfl d3_worthFrom_133 ?_
          refine j_iload G 2 rfl d3_worthFrom_135 ?_
          refine j_iload G 1 rfl d3_worthFrom_137 ?_
          refine j_SM G (rm' := { frames := 3, cells := 0, slots := 0, locals := 74 }) (wc := [(la, o3 (some ta) (some ka) Q), (ka, aLng E 39852 kn1_17), (ta, o7 (some ca) (some oa) T), (oa, aInt E 24 co), (ca, o1 (some pa) (some da) (some sa) C), (pa, aInt E 5 P), (da, aInt E 24 dr), (sa, aInt E 24 sr)]) (wr := []) (k3_worthOfTrip_1 (xl Γ) E la ka Q ta oa T ca pa da sa C P dr sr co K kn1_17 step v6 v10 v14 (by first | assumption | omega | (simp only [upS, reduceIte, Nat.reduceEqDiff, eq_self, List.length_cons, List.length_nil, List.length_append] <;> omega)) (by first | assumption | omega | (simp only [upS, reduceIte, Nat.reduceEqDiff, eq_self, List.length_cons, List.length_nil, List.length_append] <;> omega)) (by first | assumption | omega | (simp only [upS, reduceIte, Nat.reduceEqDiff, eq_self, List.length_cons, List.length_nil, List.length_append] <;> omega)) (by first | assumption | omega | (simp only [upS, reduceIte, Nat.reduceEqDiff, eq_self, List.length_cons, List.length_nil, List.length_append] <;> omega)) (by first | assumption | omega | (simp only [upS, reduceIte, Nat.reduceEqDiff, eq_self, List.length_cons, List.length_nil, List.length_append] <;> omega)) (by first | assumption | omega | (simp only [upS, reduceIte, Nat.reduceEqDiff, eq_self, List.length_cons, List.length_nil, List.length_append] <;> omega)) (by first | assumption | omega | (simp only [upS, reduceIte, Nat.reduceEqDiff, eq_self, List.length_cons, List.length_nil, List.length_append] <;> omega))) mw3_worthOfTrip ml3_49 [0, 1, 2, 3, 4, 5, 6, 7] [] rfl rfl ⟨rfl, rfl⟩ (by decide) ⟨Nat.le_of_ble_eq_true rfl, Nat.le_of_ble_eq_true rfl⟩ rfl (rest := [.int (iZ v16)]) rfl (Nat.le_of_ble_eq_true rfl) d3_worthFrom_139 ⟨Nat.le_of_ble_eq_true rfl, Nat.le_of_ble_eq_true rfl⟩ (fun r w1 hr => ?_)
          obtain ⟨v19, kn1_20, rfl, rfl, ⟨hq18_0, hq18_1, hq18_2⟩⟩ := hr
          refine j_eq (ws' := [(la, o3 (some ta) (some ka) Q), (ka, aLng E 39852 kn1_20), (ta, o7 (some ca) (some oa) T), (oa, aInt E 24 co), (ca, o1 (some pa) (some da) (some sa) C), (pa, aInt E 5 P), (da, aInt E 24 dr), (sa, aInt E 24 sr)]) rfl rfl rfl ?_
          have ht0 : v19 = tpF K (Q 1) step (dF K step (81 * p + 9 * a + b)) (dA K step (81 * p + 9 * a + b)) (dB K step (81 * p + 9 * a + b)) := by rw [hF, hA, hB]; exact hq18_0
          have ht1 := hq18_1
          have ht2 := hq18_2
          refine j_mmax G ml3_52 (by omega) (by omega) ⟨Nat.le_of_ble_eq_true rfl, Nat.le_of_ble_eq_true rfl⟩ ⟨Nat.le_of_ble_eq_true rfl, Nat.le_of_ble_eq_true rfl⟩ d3_worthFrom_142 ?_
          have hmx := vn_max tok hs11 (by omega) hsp.1 hn0 ht0
          have hmr := Vn_r tok hsp.1 (s := step) (st := (81 * p + 9 * a + b)) (by omega) (by omega)
          refine j_istore G d3_worthFrom_145 (by decide) rfl ?_
          refine j_aload_n G 6 rfl d3_worthFrom_147 ?_
          refine j_get G 0 3 3 in3 fl3_12 d3_worthFrom_148 rfl rfl (by decide) (v := .ref ka) rfl rfl ?_
          refine j_iload G 5 rfl d3_worthFrom_151 ?_
          refine j_aload_n G 6 rfl d3_worthFrom_153 ?_
          refine j_get G 0 3 2 in3 fl3_24 d3_worthFrom_154 rfl rfl (by decide) (v := .long (lZ (Q 2))) rfl rfl ?_
          refine j_bipush G d3_worthFrom_157 rfl ?_
          refine r_lshl G d3_worthFrom_159 ?_
          refine j_topl (y := (lZ (Q 2 * 1048576))) (kn_sh (by omega) (by omega)) ?_
          refine j_iload G 0 rfl d3_worthFrom_160 ?_
          refine j_i2l G d3_worthFrom_162 (by omega) ?_
          refine r_lor G d3_worthFrom_163 ?_
          refine j_topl (y := (lZ (Q 2 * 1048576 + (max v16 v19)))) (kn_or (by omega) (by omega) (by omega) (by omega)) ?_
          refine j_last G 1 rfl (by omega) d3_worthFrom_164 ?_
          refine j_iload G 0 rfl d3_worthFrom_165 ?_
          exact j_iret G F d3_worthFrom_167 ⟨max v16 v19, (upI kn1_20 pl (Q 2 * 1048576 + (max v16 v19))), rfl, rfl, (by exact ⟨hmx, KnK.up ht1 hj.1 hj.2 (by rw [hje.1, hje.2]; exact hmx) (by omega), by omega⟩)⟩
        ·
          have h4 : ¬ ((kn pl / 1048576) ≠ (Q 2)) := by
            revert h4; split <;> (try split) <;> intro h4 <;> omega
          have hvv := hkj.2 (by omega)
          rw [hje.1, hje.2] at hvv
          have hvr := Vn_r tok hsp.1 (s := step) (st := (81 * p + 9 * a + b)) (by omega) (by omega)
          refine j_aload_n G 1 rfl d3_worthFrom_60 ?_
          refine j_get G 0 3 3 in3 fl3_12 d3_worthFrom_61 rfl rfl (by decide) (v := .ref ka) rfl rfl ?_
          refine j_iload G 0 rfl d3_worthFrom_64 ?_
          refine j_lald G 1 rfl (by omega) d3_worthFrom_66 ?_
          refine j_l2i G d3_worthFrom_67 ?_
          refine j_ldc G 1048575 ct3_28 (by decide) d3_worthFrom_68 ?_
          refine r_iand G d3_worthFrom_70 ?_
          refine j_top (y := (iZ (kn pl % 1048576))) (kn_lo (by omega) (by omega)) ?_
          exact j_iret G F d3_worthFrom_71 ⟨kn pl % 1048576, kn, rfl, rfl, (by exact ⟨hvv, hkn, by omega⟩)⟩
      ·
        exact absurd h3 (by omega)
set_option maxHeartbeats 4000000 in
set_option maxRecDepth 100000 in
theorem k3_worthOfTrip_2 (l : Launch) (E : En) (la : Nat) (ka : Nat) (Q : Nat → Int) (ta : Nat) (oa : Nat) (T : Nat → Int) (ca : Nat) (pa : Nat) (da : Nat) (sa : Nat) (C : Nat → Int) (P : Int → Int) (dr : Int → Int) (sr : Int → Int) (co : Int → Int) (K : Dy) (kn : Int → Int) (step : Int) (p : Int) (a : Int) (b : Int) (htm : TmK K T C P dr sr co) (hkn : KnK K (Q 1) (Q 2) kn) (hsp : 0 ≤ Q 1 ∧ Q 1 ≤ 20) (hst : 10 ≤ step ∧ step ≤ 11) (hp : 0 ≤ p ∧ p ≤ 40) (ha : 0 ≤ a ∧ a ≤ 8) (hb : 0 ≤ b ∧ b ≤ 8) : Cm l E y3_worthOfTrip c3_worthOfTrip 8 (some .int) { frames := 5, cells := 0, slots := 0, locals := 131 } [.ref la, .int (iZ step), .int (iZ p), .int (iZ a), .int (iZ b)] [(la, o3 (some ta) (some ka) Q), (ka, aLng E 39852 kn), (ta, o7 (some ca) (some oa) T), (oa, aInt E 24 co), (ca, o1 (some pa) (some da) (some sa) C), (pa, aInt E 5 P), (da, aInt E 24 dr), (sa, aInt E 24 sr)] (fun r ws => ∃ (v : Int), ∃ (kn1 : Int → Int), r = some (.int (iZ v)) ∧ ws = [(la, o3 (some ta) (some ka) Q), (ka, aLng E 39852 kn1), (ta, o7 (some ca) (some oa) T), (oa, aInt E 24 co), (ca, o1 (some pa) (some da) (some sa) C), (pa, aInt E 5 P), (da, aInt E 24 dr), (sa, aInt E 24 sr)] ∧ (v = tpF K (Q 1) step p a b ∧ KnK K (Q 1) (Q 2) kn1 ∧ (v = -99999 ∨ (0 ≤ v ∧ v ≤ 8000)))) := by
  refine Cm.of (by decide +kernel) (Nat.le_of_ble_eq_true rfl) (fun Γ A hl hargs hin G F => ?_)
  subst hl
  have tok := htm.2.1
  have tse := tok.2.1
  refine j_aload_n G 0 rfl d3_worthOfTrip_0 ?_
  refine j_get G 0 3 0 in3 fl3_16 d3_worthOfTrip_1 rfl rfl (by decide) (v := .ref ta) rfl rfl ?_
  refine j_iload_n G 3 rfl d3_worthOfTrip_4 ?_
  refine j_VP G (k7_seated (xl Γ) E ta oa T ca pa da sa C P dr sr co K a (by first | assumption | omega | (simp only [upS, reduceIte, Nat.reduceEqDiff, eq_self, List.length_cons, List.length_nil, List.length_append] <;> omega)) (by first | assumption | omega | (simp only [upS, reduceIte, Nat.reduceEqDiff, eq_self, List.length_cons, List.length_nil, List.length_append] <;> omega))) mw7_seated ml3_57 [2, 3, 4, 5, 6, 7] rfl 2 7 rfl rfl rfl ⟨Nat.le_of_ble_eq_true rfl, Nat.le_of_ble_eq_true rfl⟩ rfl (rest := []) rfl (Nat.le_of_ble_eq_true rfl) d3_worthOfTrip_5 ⟨Nat.le_of_ble_eq_true rfl, Nat.le_of_ble_eq_true rfl⟩ (fun r hr => ?_)
  obtain ⟨v2, rfl, ⟨hq1_0, hq1_1, hq1_2, hq1_3, hq1_4⟩⟩ := hr
  have hd0 := hq1_0
  have hd1 := hq1_1
  have hd2 := hq1_2
  have hd3 := hq1_3
  have hd4 := hq1_4
  refine j_istore G d3_worthOfTrip_8 (by decide) rfl ?_
  refine j_aload_n G 1 rfl d3_worthOfTrip_10 ?_
  refine j_get G 0 3 0 in3 fl3_16 d3_worthOfTrip_11 rfl rfl (by decide) (v := .ref ta) rfl rfl ?_
  refine j_iload G 5 rfl d3_worthOfTrip_14 ?_
  refine j_VP G (k7_seated (xl Γ) E ta oa T ca pa da sa C P dr sr co K b (by first | assumption | omega | (simp only [upS, reduceIte, Nat.reduceEqDiff, eq_self, List.length_cons, List.length_nil, List.length_append] <;> omega)) (by first | assumption | omega | (simp only [upS, reduceIte, Nat.reduceEqDiff, eq_self, List.length_cons, List.length_nil, List.length_append] <;> omega))) mw7_seated ml3_57 [2, 3, 4, 5, 6, 7] rfl 2 7 rfl rfl rfl ⟨Nat.le_of_ble_eq_true rfl, Nat.le_of_ble_eq_true rfl⟩ rfl (rest := []) rfl (Nat.le_of_ble_eq_true rfl) d3_worthOfTrip_16 ⟨Nat.le_of_ble_eq_true rfl, Nat.le_of_ble_eq_true rfl⟩ (fun r hr => ?_)
  obtain ⟨v4, rfl, ⟨hq3_0, hq3_1, hq3_2, hq3_3, hq3_4⟩⟩ := hr
  have hu0 := hq3_0
  have hu1 := hq3_1
  have hu2 := hq3_2
  have hu3 := hq3_3
  have hu4 := hq3_4
  refine j_istore G d3_worthOfTrip_19 (by decide) rfl ?_
  refine j_aload_n G 2 rfl d3_worthOfTrip_21 ?_
  refine j_get G 0 3 0 in3 fl3_16 d3_worthOfTrip_22 rfl rfl (by decide) (v := .ref ta) rfl rfl ?_
  refine j_iload_n G 3 rfl d3_worthOfTrip_25 ?_
  refine j_iload G 1 rfl d3_worthOfTrip_26 ?_
  refine j_iload G 0 rfl d3_worthOfTrip_28 ?_
  refine j_VP G (k7_leastFor (xl Γ) E ta oa T ca pa da sa C P dr sr co K step v2 v4 (by first | assumption | omega | (simp only [upS, reduceIte, Nat.reduceEqDiff, eq_self, List.length_cons, List.length_nil, List.length_append] <;> omega)) (by first | assumption | omega | (simp only [upS, reduceIte, Nat.reduceEqDiff, eq_self, List.length_cons, List.length_nil, List.length_append] <;> omega)) (by first | assumption | omega | (simp only [upS, reduceIte, Nat.reduceEqDiff, eq_self, List.length_cons, List.length_nil, List.length_append] <;> omega)) (by first | assumption | omega | (simp only [upS, reduceIte, Nat.reduceEqDiff, eq_self, List.length_cons, List.length_nil, List.length_append] <;> omega))) mw7_leastFor ml3_60 [2, 3, 4, 5, 6, 7] rfl 2 7 rfl rfl rfl ⟨Nat.le_of_ble_eq_true rfl, Nat.le_of_ble_eq_true rfl⟩ rfl (rest := []) rfl (Nat.le_of_ble_eq_true rfl) d3_worthOfTrip_30 ⟨Nat.le_of_ble_eq_true rfl, Nat.le_of_ble_eq_true rfl⟩ (fun r hr => ?_)
  obtain ⟨v6, rfl, ⟨hq5_0, hq5_1⟩⟩ := hr
  have hw0 := hq5_0
  have hw1 := hq5_1
  refine j_istore G d3_worthOfTrip_33 (by decide) rfl ?_
  refine j_iload G 2 rfl d3_worthOfTrip_35 ?_
  refine j_iload G 1 rfl d3_worthOfTrip_37 ?_
  refine j_iadd G d3_worthOfTrip_39 ?_
  refine j_if_eq (tgt := 61) G d3_worthOfTrip_40 (by decide) (by omega) (fun h7 => ?_) (fun h7 => ?_)
  ·
    refine j_ldc G (-99999) ct3_64 (by decide) d3_worthOfTrip_61 ?_
    exact j_iret G F d3_worthOfTrip_63 ⟨(-99999), kn, rfl, rfl, (by refine ⟨?_, hkn, Or.inl rfl⟩; unfold tpF; rw [← hd0, ← hu0, ← hw0, if_pos (by omega)])⟩
  ·
    refine j_iload G 0 rfl d3_worthOfTrip_43 ?_
    refine j_bipush G d3_worthOfTrip_45 rfl ?_
    refine j_icmp_eq (tgt := 61) G d3_worthOfTrip_47 (by decide) (by omega) (by decide) (fun h8 => ?_) (fun h8 => ?_)
    ·
      refine j_ldc G (-99999) ct3_64 (by decide) d3_worthOfTrip_61 ?_
      exact j_iret G F d3_worthOfTrip_63 ⟨(-99999), kn, rfl, rfl, (by refine ⟨?_, hkn, Or.inl rfl⟩; unfold tpF; rw [← hd0, ← hu0, ← hw0, if_pos (by omega)])⟩
    ·
      refine j_iload_n G 5 rfl d3_worthOfTrip_50 ?_
      refine j_iload G 0 rfl d3_worthOfTrip_51 ?_
      refine j_isub G d3_worthOfTrip_53 ?_
      refine j_aload_n G 3 rfl d3_worthOfTrip_54 ?_
      refine j_get G 0 3 1 in3 fl3_20 d3_worthOfTrip_55 rfl rfl (by decide) (v := .int (iZ (Q 1))) rfl rfl ?_
      refine j_icmp_ge (tgt := 64) G d3_worthOfTrip_58 (by decide) (by omega) (by omega) (fun h9 => ?_) (fun h9 => ?_)
      ·
        refine j_bipush G d3_worthOfTrip_64 rfl ?_
        refine j_iload G 1 rfl d3_worthOfTrip_66 ?_
        refine j_imul G d3_worthOfTrip_68 ?_
        refine j_aload_n G 3 rfl d3_worthOfTrip_69 ?_
        refine j_iload_n G 4 rfl d3_worthOfTrip_70 ?_
        refine j_iconst G d3_worthOfTrip_71 ?_
        refine j_iadd G d3_worthOfTrip_72 ?_
        refine j_iload_n G 5 rfl d3_worthOfTrip_73 ?_
        refine j_iload G 0 rfl d3_worthOfTrip_74 ?_
        refine j_isub G d3_worthOfTrip_76 ?_
        refine j_iload_n G 6 rfl d3_worthOfTrip_77 ?_
        refine j_iload G 2 rfl d3_worthOfTrip_78 ?_
        refine j_isub G d3_worthOfTrip_80 ?_
        refine j_iload G 7 rfl d3_worthOfTrip_81 ?_
        refine j_iload G 1 rfl d3_worthOfTrip_83 ?_
        refine j_isub G d3_worthOfTrip_85 ?_
        refine j_SM G (rm' := { frames := 4, cells := 0, slots := 0, locals := 101 }) (wc := [(la, o3 (some ta) (some ka) Q), (ka, aLng E 39852 kn), (ta, o7 (some ca) (some oa) T), (oa, aInt E 24 co), (ca, o1 (some pa) (some da) (some sa) C), (pa, aInt E 5 P), (da, aInt E 24 dr), (sa, aInt E 24 sr)]) (wr := []) (k3_worthFrom_1 (xl Γ) E la ka Q ta oa T ca pa da sa C P dr sr co K kn (step + 1) (p - v6) (a - v2) (b - v4) (by first | assumption | omega | (simp only [upS, reduceIte, Nat.reduceEqDiff, eq_self, List.length_cons, List.length_nil, List.length_append] <;> omega)) (by first | assumption | omega | (simp only [upS, reduceIte, Nat.reduceEqDiff, eq_self, List.length_cons, List.length_nil, List.length_append] <;> omega)) (by first | assumption | omega | (simp only [upS, reduceIte, Nat.reduceEqDiff, eq_self, List.length_cons, List.length_nil, List.length_append] <;> omega)) (by first | assumption | omega | (simp only [upS, reduceIte, Nat.reduceEqDiff, eq_self, List.length_cons, List.length_nil, List.length_append] <;> omega)) (by first | assumption | omega | (simp only [upS, reduceIte, Nat.reduceEqDiff, eq_self, List.length_cons, List.length_nil, List.length_append] <;> omega)) (by first | assumption | omega | (simp only [upS, reduceIte, Nat.reduceEqDiff, eq_self, List.length_cons, List.length_nil, List.length_append] <;> omega)) (by first | assumption | omega | (simp only [upS, reduceIte, Nat.reduceEqDiff, eq_self, List.length_cons, List.length_nil, List.length_append] <;> omega))) mw3_worthFrom ml3_45 [0, 1, 2, 3, 4, 5, 6, 7] [] rfl rfl ⟨rfl, rfl⟩ (by decide) ⟨Nat.le_of_ble_eq_true rfl, Nat.le_of_ble_eq_true rfl⟩ rfl (rest := [.int (iZ (100 * v4))]) rfl (Nat.le_of_ble_eq_true rfl) d3_worthOfTrip_86 ⟨Nat.le_of_ble_eq_true rfl, Nat.le_of_ble_eq_true rfl⟩ (fun r w1 hr => ?_)
        obtain ⟨v11, kn1_12, rfl, rfl, ⟨hq10_0, hq10_1, hq10_2⟩⟩ := hr
        refine j_eq (ws' := [(la, o3 (some ta) (some ka) Q), (ka, aLng E 39852 kn1_12), (ta, o7 (some ca) (some oa) T), (oa, aInt E 24 co), (ca, o1 (some pa) (some da) (some sa) C), (pa, aInt E 5 P), (da, aInt E 24 dr), (sa, aInt E 24 sr)]) rfl rfl rfl ?_
        have hn0 := hq10_0
        have hn1 := hq10_1
        have hn2 := hq10_2
        refine j_iadd G d3_worthOfTrip_89 ?_
        exact j_iret G F d3_worthOfTrip_90 ⟨(100 * v4) + v11, kn1_12, rfl, rfl, (by refine ⟨?_, hn1, by omega⟩; unfold tpF; rw [← hd0, ← hu0, ← hw0, if_neg (by omega), hn0])⟩
      ·
        refine j_ldc G (-99999) ct3_64 (by decide) d3_worthOfTrip_61 ?_
        exact j_iret G F d3_worthOfTrip_63 ⟨(-99999), kn, rfl, rfl, (by refine ⟨?_, hkn, Or.inl rfl⟩; unfold tpF; rw [← hd0, ← hu0, ← hw0, if_pos (by omega)])⟩
set_option maxHeartbeats 4000000 in
set_option maxRecDepth 100000 in
theorem k3_worthFrom_2 (l : Launch) (E : En) (la : Nat) (ka : Nat) (Q : Nat → Int) (ta : Nat) (oa : Nat) (T : Nat → Int) (ca : Nat) (pa : Nat) (da : Nat) (sa : Nat) (C : Nat → Int) (P : Int → Int) (dr : Int → Int) (sr : Int → Int) (co : Int → Int) (K : Dy) (kn : Int → Int) (step : Int) (p : Int) (a : Int) (b : Int) (htm : TmK K T C P dr sr co) (hkn : KnK K (Q 1) (Q 2) kn) (hsp : 0 ≤ Q 1 ∧ Q 1 ≤ 20) (hst : 10 ≤ step ∧ step ≤ 12) (hp : 0 ≤ p ∧ p ≤ 40) (ha : 0 ≤ a ∧ a ≤ 8) (hb : 0 ≤ b ∧ b ≤ 8) : Cm l E y3_worthFrom c3_worthFrom 11 (some .int) { frames := 6, cells := 0, slots := 0, locals := 158 } [.ref la, .int (iZ step), .int (iZ p), .int (iZ a), .int (iZ b)] [(la, o3 (some ta) (some ka) Q), (ka, aLng E 39852 kn), (ta, o7 (some ca) (some oa) T), (oa, aInt E 24 co), (ca, o1 (some pa) (some da) (some sa) C), (pa, aInt E 5 P), (da, aInt E 24 dr), (sa, aInt E 24 sr)] (fun r ws => ∃ (v : Int), ∃ (kn1 : Int → Int), r = some (.int (iZ v)) ∧ ws = [(la, o3 (some ta) (some ka) Q), (ka, aLng E 39852 kn1), (ta, o7 (some ca) (some oa) T), (oa, aInt E 24 co), (ca, o1 (some pa) (some da) (some sa) C), (pa, aInt E 5 P), (da, aInt E 24 dr), (sa, aInt E 24 sr)] ∧ (v = Vn K (Q 1) step (81 * p + 9 * a + b) ∧ KnK K (Q 1) (Q 2) kn1 ∧ (0 ≤ v ∧ v ≤ 7240))) := by
  refine Cm.of (by decide +kernel) (Nat.le_of_ble_eq_true rfl) (fun Γ A hl hargs hin G F => ?_)
  subst hl
  have tok := htm.2.1
  refine j_iload_n G 1 rfl d3_worthFrom_0 ?_
  refine j_bipush G d3_worthFrom_1 rfl ?_
  refine j_imul G d3_worthFrom_3 ?_
  refine j_iload_n G 2 rfl d3_worthFrom_4 ?_
  refine j_iadd G d3_worthFrom_5 ?_
  refine j_bipush G d3_worthFrom_6 rfl ?_
  refine j_imul G d3_worthFrom_8 ?_
  refine j_iload_n G 3 rfl d3_worthFrom_9 ?_
  refine j_iadd G d3_worthFrom_10 ?_
  refine j_bipush G d3_worthFrom_11 rfl ?_
  refine j_imul G d3_worthFrom_13 ?_
  refine j_iload G 4 rfl d3_worthFrom_14 ?_
  refine j_iadd G d3_worthFrom_16 ?_
  refine j_nm (fun pl epl => ?_)
  refine j_istore G d3_worthFrom_17 (by decide) rfl ?_
  refine j_iload_n G 2 rfl d3_worthFrom_19 ?_
  have hpl : pl = 3321 * step + (81 * p + 9 * a + b) := by omega
  refine j_bipush G d3_worthFrom_20 rfl ?_
  refine j_icmp_ge (tgt := 40) G d3_worthFrom_22 (by decide) (by omega) (by decide) (fun h1 => ?_) (fun h1 => ?_)
  ·
    have he : step = 12 := by omega
    refine j_iload_n G 3 rfl d3_worthFrom_40 ?_
    exact j_iret G F d3_worthFrom_41 ⟨p, kn, rfl, rfl, (by refine ⟨?_, hkn, by omega⟩; rw [he, Vn_e]; omega)⟩
  ·
    have hj : 0 ≤ pl ∧ pl < 39852 := by omega
    have hs11 : 0 ≤ step ∧ step ≤ 11 := by omega
    have hnw := st_now (K := K) (s := step) (p := p) ha hb
    have hdr := dR tok hs11 (st := (81 * p + 9 * a + b)) (by omega)
    have hnr := dNow_r tok hs11 (st := (81 * p + 9 * a + b)) (by omega)
    refine j_iload G 0 rfl d3_worthFrom_25 ?_
    refine j_if_lt (tgt := 40) G d3_worthFrom_27 (by decide) (by omega) (fun h2 => ?_) (fun h2 => ?_)
    ·
      exact absurd h2 (by omega)
    ·
      refine j_iload G 0 rfl d3_worthFrom_30 ?_
      refine j_aload_n G 1 rfl d3_worthFrom_32 ?_
      refine j_get G 0 3 3 in3 fl3_12 d3_worthFrom_33 rfl rfl (by decide) (v := .ref ka) rfl rfl ?_
      refine j_alenL G 1 rfl d3_worthFrom_36 ?_
      refine j_icmp_lt (tgt := 42) G d3_worthFrom_37 (by decide) (by omega) (by decide) (fun h3 => ?_) (fun h3 => ?_)
      ·
        have hje : pl / 3321 = step ∧ pl % 3321 = (81 * p + 9 * a + b) := by omega
        have hkj := hkn.2 pl hj.1 hj.2
        have hed := hkn.1
        refine j_aload_n G 1 rfl d3_worthFrom_42 ?_
        refine j_get G 0 3 3 in3 fl3_12 d3_worthFrom_43 rfl rfl (by decide) (v := .ref ka) rfl rfl ?_
        refine j_iload G 0 rfl d3_worthFrom_46 ?_
        refine j_lald G 1 rfl (by omega) d3_worthFrom_48 ?_
        refine j_bipush G d3_worthFrom_49 rfl ?_
        refine r_lshr G d3_worthFrom_51 ?_
        refine j_topl (y := (lZ (kn pl / 1048576))) (kn_hi (by omega) (by omega)) ?_
        refine j_aload_n G 1 rfl d3_worthFrom_52 ?_
        refine j_get G 0 3 2 in3 fl3_24 d3_worthFrom_53 rfl rfl (by decide) (v := .long (lZ (Q 2))) rfl rfl ?_
        refine j_lcmp G d3_worthFrom_56 (by omega) (by omega) ?_
        refine j_if_ne (tgt := 72) G d3_worthFrom_57 (by decide) (by split <;> first | decide | (split <;> decide)) (fun h4 => ?_) (fun h4 => ?_)
        ·
          have h4 : (kn pl / 1048576) ≠ (Q 2) := by
            revert h4; split <;> (try split) <;> intro h4 <;> omega
          refine j_aload_n G 1 rfl d3_worthFrom_72 ?_
          refine j_get G 0 3 0 in3 fl3_16 d3_worthFrom_73 rfl rfl (by decide) (v := .ref ta) rfl rfl ?_
          refine j_iload_n G 2 rfl d3_worthFrom_76 ?_
          refine j_iload_n G 3 rfl d3_worthFrom_77 ?_
          refine j_VP G (k7_pondWithSpring (xl Γ) E ta oa T ca pa da sa C P dr sr co K step p (by first | assumption | omega | (simp only [upS, reduceIte, Nat.reduceEqDiff, eq_self, List.length_cons, List.length_nil, List.length_append] <;> omega)) (by first | assumption | omega | (simp only [upS, reduceIte, Nat.reduceEqDiff, eq_self, List.length_cons, List.length_nil, List.length_append] <;> omega)) (by first | assumption | omega | (simp only [upS, reduceIte, Nat.reduceEqDiff, eq_self, List.length_cons, List.length_nil, List.length_append] <;> omega))) mw7_pondWithSpring ml3_29 [2, 3, 4, 5, 6, 7] rfl 2 7 rfl rfl rfl ⟨Nat.le_of_ble_eq_true rfl, Nat.le_of_ble_eq_true rfl⟩ rfl (rest := []) rfl (Nat.le_of_ble_eq_true rfl) d3_worthFrom_78 ⟨Nat.le_of_ble_eq_true rfl, Nat.le_of_ble_eq_true rfl⟩ (fun r hr => ?_)
          obtain ⟨v6, rfl, ⟨hq5_0, hq5_1, hq5_2⟩⟩ := hr
          have hf2 := hq5_1
          have hF : dF K step (81 * p + 9 * a + b) = v6 := by have := hq5_0; omega
          refine j_istore G d3_worthFrom_81 (by decide) rfl ?_
          refine j_iload_n G 5 rfl d3_worthFrom_83 ?_
          refine j_aload_n G 2 rfl d3_worthFrom_84 ?_
          refine j_get G 0 3 0 in3 fl3_16 d3_worthFrom_85 rfl rfl (by decide) (v := .ref ta) rfl rfl ?_
          refine j_iload_n G 3 rfl d3_worthFrom_88 ?_
          refine j_VP G (k7_comingAbove (xl Γ) E ta oa T ca pa da sa C P dr sr co K step (by first | assumption | omega | (simp only [upS, reduceIte, Nat.reduceEqDiff, eq_self, List.length_cons, List.length_nil, List.length_append] <;> omega)) (by first | assumption | omega | (simp only [upS, reduceIte, Nat.reduceEqDiff, eq_self, List.length_cons, List.length_nil, List.length_append] <;> omega))) mw7_comingAbove ml3_35 [2, 3, 4, 5, 6, 7] rfl 2 7 rfl rfl rfl ⟨Nat.le_of_ble_eq_true rfl, Nat.le_of_ble_eq_true rfl⟩ rfl (rest := [.int (iZ a)]) rfl (Nat.le_of_ble_eq_true rfl) d3_worthFrom_89 ⟨Nat.le_of_ble_eq_true rfl, Nat.le_of_ble_eq_true rfl⟩ (fun r hr => ?_)
          obtain ⟨v8, rfl, ⟨hq7_0, hq7_1, hq7_2⟩⟩ := hr
          have hca := hq7_0
          have hcb := hq7_1
          refine j_iadd G d3_worthFrom_92 ?_
          refine j_SP G (k3_waiting (xl Γ) E (a + v8) (by first | assumption | omega | (simp only [upS, reduceIte, Nat.reduceEqDiff, eq_self, List.length_cons, List.length_nil, List.length_append] <;> omega))) mw3_waiting ml3_39 [] rfl ⟨Nat.le_of_ble_eq_true rfl, Nat.le_of_ble_eq_true rfl⟩ rfl (rest := []) rfl (Nat.le_of_ble_eq_true rfl) d3_worthFrom_93 ⟨Nat.le_of_ble_eq_true rfl, Nat.le_of_ble_eq_true rfl⟩ (fun r hr => ?_)
          obtain ⟨v10, rfl, hq9⟩ := hr
          have hA : dA K step (81 * p + 9 * a + b) = v10 := by have := hq9; omega
          have hta := hq9
          refine j_istore G d3_worthFrom_96 (by decide) rfl ?_
          refine j_iload G 7 rfl d3_worthFrom_98 ?_
          refine j_aload_n G 3 rfl d3_worthFrom_100 ?_
          refine j_get G 0 3 0 in3 fl3_16 d3_worthFrom_101 rfl rfl (by decide) (v := .ref ta) rfl rfl ?_
          refine j_iload_n G 4 rfl d3_worthFrom_104 ?_
          refine j_VP G (k7_comingBelow (xl Γ) E ta oa T ca pa da sa C P dr sr co K step (by first | assumption | omega | (simp only [upS, reduceIte, Nat.reduceEqDiff, eq_self, List.length_cons, List.length_nil, List.length_append] <;> omega)) (by first | assumption | omega | (simp only [upS, reduceIte, Nat.reduceEqDiff, eq_self, List.length_cons, List.length_nil, List.length_append] <;> omega))) mw7_comingBelow ml3_42 [2, 3, 4, 5, 6, 7] rfl 2 7 rfl rfl rfl ⟨Nat.le_of_ble_eq_true rfl, Nat.le_of_ble_eq_true rfl⟩ rfl (rest := [.int (iZ b)]) rfl (Nat.le_of_ble_eq_true rfl) d3_worthFrom_105 ⟨Nat.le_of_ble_eq_true rfl, Nat.le_of_ble_eq_true rfl⟩ (fun r hr => ?_)
          obtain ⟨v12, rfl, ⟨hq11_0, hq11_1, hq11_2⟩⟩ := hr
          have hda := hq11_0
          have hdb := hq11_1
          refine j_iadd G d3_worthFrom_108 ?_
          refine j_SP G (k3_waiting (xl Γ) E (b + v12) (by first | assumption | omega | (simp only [upS, reduceIte, Nat.reduceEqDiff, eq_self, List.length_cons, List.length_nil, List.length_append] <;> omega))) mw3_waiting ml3_39 [] rfl ⟨Nat.le_of_ble_eq_true rfl, Nat.le_of_ble_eq_true rfl⟩ rfl (rest := []) rfl (Nat.le_of_ble_eq_true rfl) d3_worthFrom_109 ⟨Nat.le_of_ble_eq_true rfl, Nat.le_of_ble_eq_true rfl⟩ (fun r hr => ?_)
          obtain ⟨v14, rfl, hq13⟩ := hr
          have hB : dB K step (81 * p + 9 * a + b) = v14 := by have := hq13; omega
          have htb := hq13
          refine j_istore G d3_worthFrom_112 (by decide) rfl ?_
          refine j_aload_n G 4 rfl d3_worthFrom_114 ?_
          refine j_iload_n G 5 rfl d3_worthFrom_115 ?_
          refine j_iconst G d3_worthFrom_116 ?_
          refine j_iadd G d3_worthFrom_117 ?_
          refine j_iload G 2 rfl d3_worthFrom_118 ?_
          refine j_iload G 1 rfl d3_worthFrom_120 ?_
          refine j_iload G 0 rfl d3_worthFrom_122 ?_
          refine j_SM G (rm' := { frames := 4, cells := 0, slots := 0, locals := 101 }) (wc := [(la, o3 (some ta) (some ka) Q), (ka, aLng E 39852 kn), (ta, o7 (some ca) (some oa) T), (oa, aInt E 24 co), (ca, o1 (some pa) (some da) (some sa) C), (pa, aInt E 5 P), (da, aInt E 24 dr), (sa, aInt E 24 sr)]) (wr := []) (k3_worthFrom_1 (xl Γ) E la ka Q ta oa T ca pa da sa C P dr sr co K kn (step + 1) v6 v10 v14 (by first | assumption | omega | (simp only [upS, reduceIte, Nat.reduceEqDiff, eq_self, List.length_cons, List.length_nil, List.length_append] <;> omega)) (by first | assumption | omega | (simp only [upS, reduceIte, Nat.reduceEqDiff, eq_self, List.length_cons, List.length_nil, List.length_append] <;> omega)) (by first | assumption | omega | (simp only [upS, reduceIte, Nat.reduceEqDiff, eq_self, List.length_cons, List.length_nil, List.length_append] <;> omega)) (by first | assumption | omega | (simp only [upS, reduceIte, Nat.reduceEqDiff, eq_self, List.length_cons, List.length_nil, List.length_append] <;> omega)) (by first | assumption | omega | (simp only [upS, reduceIte, Nat.reduceEqDiff, eq_self, List.length_cons, List.length_nil, List.length_append] <;> omega)) (by first | assumption | omega | (simp only [upS, reduceIte, Nat.reduceEqDiff, eq_self, List.length_cons, List.length_nil, List.length_append] <;> omega)) (by first | assumption | omega | (simp only [upS, reduceIte, Nat.reduceEqDiff, eq_self, List.length_cons, List.length_nil, List.length_append] <;> omega))) mw3_worthFrom ml3_45 [0, 1, 2, 3, 4, 5, 6, 7] [] rfl rfl ⟨rfl, rfl⟩ (by decide) ⟨Nat.le_of_ble_eq_true rfl, Nat.le_of_ble_eq_true rfl⟩ rfl (rest := []) rfl (Nat.le_of_ble_eq_true rfl) d3_worthFrom_124 ⟨Nat.le_of_ble_eq_true rfl, Nat.le_of_ble_eq_true rfl⟩ (fun r w1 hr => ?_)
          obtain ⟨v16, kn1_17, rfl, rfl, ⟨hq15_0, hq15_1, hq15_2⟩⟩ := hr
          refine j_eq (ws' := [(la, o3 (some ta) (some ka) Q), (ka, aLng E 39852 kn1_17), (ta, o7 (some ca) (some oa) T), (oa, aInt E 24 co), (ca, o1 (some pa) (some da) (some sa) C), (pa, aInt E 5 P), (da, aInt E 24 dr), (sa, aInt E 24 sr)]) rfl rfl rfl ?_
          have hn0 : v16 = Vn K (Q 1) (step + 1) (dNow K step (81 * p + 9 * a + b)) := by rw [hq15_0]; congr 1; unfold dNow; omega
          have hn1 := hq15_1
          have hn2 := hq15_2
          refine j_istore G d3_worthFrom_127 (by decide) rfl ?_
          refine j_iload G 0 rfl d3_worthFrom_129 ?_
          refine j_aload_n G 5 rfl d3_worthFrom_131 ?_
          refine j_iload_n G 6 rfl d3_worthFrom_132 ?_
          refine j_iload G 3 rfl d3_worthFrom_133 ?_
          refine j_iload G 2 rfl d3_worthFrom_135 ?_
          refine j_iload G 1 rfl d3_worthFrom_137 ?_
          refine j_SM G (rm' := { frames := 5, cells := 0, slots := 0, locals := 131 }) (wc := [(la, o3 (some ta) (some ka) Q), (ka, aLng E 39852 kn1_17), (ta, o7 (some ca) (some oa) T), (oa, aInt E 24 co), (ca, o1 (some pa) (some da) (some sa) C), (pa, aInt E 5 P), (da, aInt E 24 dr), (sa, aInt E 24 sr)]) (wr := []) (k3_worthOfTrip_2 (xl Γ) E la ka Q ta oa T ca pa da sa C P dr sr co K kn1_17 step v6 v10 v14 (by first | assumption | omega | (simp only [upS, reduceIte, Nat.reduceEqDiff, eq_self, List.length_cons, List.length_nil, List.length_append] <;> omega)) (by first | assumption | omega | (simp only [upS, reduceIte, Nat.reduceEqDiff, eq_self, List.length_cons, List.length_nil, List.length_append] <;> omega)) (by first | assumption | omega | (simp only [upS, reduceIte, Nat.reduceEqDiff, eq_self, List.length_cons, List.length_nil, List.length_append] <;> omega)) (by first | assumption | omega | (simp only [upS, reduceIte, Nat.reduceEqDiff, eq_self, List.length_cons, List.length_nil, List.length_append] <;> omega)) (by first | assumption | omega | (simp only [upS, reduceIte, Nat.reduceEqDiff, eq_self, List.length_cons, List.length_nil, List.length_append] <;> omega)) (by first | assumption | omega | (simp only [upS, reduceIte, Nat.reduceEqDiff, eq_self, List.length_cons, List.length_nil, List.length_append] <;> omega)) (by first | assumption | omega | (simp only [upS, reduceIte, Nat.reduceEqDiff, eq_self, List.length_cons, List.length_nil, List.length_append] <;> omega))) mw3_worthOfTrip ml3_49 [0, 1, 2, 3, 4, 5, 6, 7] [] rfl rfl ⟨rfl, rfl⟩ (by decide) ⟨Nat.le_of_ble_eq_true rfl, Nat.le_of_ble_eq_true rfl⟩ rfl (rest := [.int (iZ v16)]) rfl (Nat.le_of_ble_eq_true rfl) d3_worthFrom_139 ⟨Nat.le_of_ble_eq_true rfl, Nat.le_of_ble_eq_true rfl⟩ (fun r w1 hr => ?_)
          obtain ⟨v19, kn1_20, rfl, rfl, ⟨hq18_0, hq18_1, hq18_2⟩⟩ := hr
          refine j_eq (ws' := [(la, o3 (some ta) (some ka) Q), (ka, aLng E 39852 kn1_20), (ta, o7 (some ca) (some oa) T), (oa, aInt E 24 co), (ca, o1 (some pa) (some da) (some sa) C), (pa, aInt E 5 P), (da, aInt E 24 dr), (sa, aInt E 24 sr)]) rfl rfl rfl ?_
          have ht0 : v19 = tpF K (Q 1) step (dF K step (81 * p + 9 * a + b)) (dA K step (81 * p + 9 * a + b)) (dB K step (81 * p + 9 * a + b)) := by rw [hF, hA, hB]; exact hq18_0
          have ht1 := hq18_1
          have ht2 := hq18_2
          refine j_mmax G ml3_52 (by omega) (by omega) ⟨Nat.le_of_ble_eq_true rfl, Nat.le_of_ble_eq_true rfl⟩ ⟨Nat.le_of_ble_eq_true rfl, Nat.le_of_ble_eq_true rfl⟩ d3_worthFrom_142 ?_
          have hmx := vn_max tok hs11 (by omega) hsp.1 hn0 ht0
          have hmr := Vn_r tok hsp.1 (s := step) (st := (81 * p + 9 * a + b)) (by omega) (by omega)
          refine j_istore G d3_worthFrom_145 (by decide) rfl ?_
          refine j_aload_n G 6 rfl d3_worthFrom_147 ?_
          refine j_get G 0 3 3 in3 fl3_12 d3_worthFrom_148 rfl rfl (by decide) (v := .ref ka) rfl rfl ?_
          refine j_iload G 5 rfl d3_worthFrom_151 ?_
          refine j_aload_n G 6 rfl d3_worthFrom_153 ?_
          refine j_get G 0 3 2 in3 fl3_24 d3_worthFrom_154 rfl rfl (by decide) (v := .long (lZ (Q 2))) rfl rfl ?_
          refine j_bipush G d3_worthFrom_157 rfl ?_
          refine r_lshl G d3_worthFrom_159 ?_
          refine j_topl (y := (lZ (Q 2 * 1048576))) (kn_sh (by omega) (by omega)) ?_
          refine j_iload G 0 rfl d3_worthFrom_160 ?_
          refine j_i2l G d3_worthFrom_162 (by omega) ?_
          refine r_lor G d3_worthFrom_163 ?_
          refine j_topl (y := (lZ (Q 2 * 1048576 + (max v16 v19)))) (kn_or (by omega) (by omega) (by omega) (by omega)) ?_
          refine j_last G 1 rfl (by omega) d3_worthFrom_164 ?_
          refine j_iload G 0 rfl d3_worthFrom_165 ?_
          exact j_iret G F d3_worthFrom_167 ⟨max v16 v19, (upI kn1_20 pl (Q 2 * 1048576 + (max v16 v19))), rfl, rfl, (by exact ⟨hmx, KnK.up ht1 hj.1 hj.2 (by rw [hje.1, hje.2]; exact hmx) (by omega), by omega⟩)⟩
        ·
          have h4 : ¬ ((kn pl / 1048576) ≠ (Q 2)) := by
            revert h4; split <;> (try split) <;> intro h4 <;> omega
          have hvv := hkj.2 (by omega)
          rw [hje.1, hje.2] at hvv
          have hvr := Vn_r tok hsp.1 (s := step) (st := (81 * p + 9 * a + b)) (by omega) (by omega)
          refine j_aload_n G 1 rfl d3_worthFrom_60 ?_
          refine j_get G 0 3 3 in3 fl3_12 d3_worthFrom_61 rfl rfl (by decide) (v := .ref ka) rfl rfl ?_
          refine j_iload G 0 rfl d3_worthFrom_64 ?_
          refine j_lald G 1 rfl (by omega) d3_worthFrom_66 ?_
          refine j_l2i G d3_worthFrom_67 ?_
          refine j_ldc G 1048575 ct3_28 (by decide) d3_worthFrom_68 ?_
          refine r_iand G d3_worthFrom_70 ?_
          refine j_top (y := (iZ (kn pl % 1048576))) (kn_lo (by omega) (by omega)) ?_
          exact j_iret G F d3_worthFrom_71 ⟨kn pl % 1048576, kn, rfl, rfl, (by exact ⟨hvv, hkn, by omega⟩)⟩
      ·
        exact absurd h3 (by omega)
set_option maxHeartbeats 4000000 in
set_option maxRecDepth 100000 in
theorem k3_worthOfTrip_3 (l : Launch) (E : En) (la : Nat) (ka : Nat) (Q : Nat → Int) (ta : Nat) (oa : Nat) (T : Nat → Int) (ca : Nat) (pa : Nat) (da : Nat) (sa : Nat) (C : Nat → Int) (P : Int → Int) (dr : Int → Int) (sr : Int → Int) (co : Int → Int) (K : Dy) (kn : Int → Int) (step : Int) (p : Int) (a : Int) (b : Int) (htm : TmK K T C P dr sr co) (hkn : KnK K (Q 1) (Q 2) kn) (hsp : 0 ≤ Q 1 ∧ Q 1 ≤ 20) (hst : 9 ≤ step ∧ step ≤ 11) (hp : 0 ≤ p ∧ p ≤ 40) (ha : 0 ≤ a ∧ a ≤ 8) (hb : 0 ≤ b ∧ b ≤ 8) : Cm l E y3_worthOfTrip c3_worthOfTrip 8 (some .int) { frames := 7, cells := 0, slots := 0, locals := 188 } [.ref la, .int (iZ step), .int (iZ p), .int (iZ a), .int (iZ b)] [(la, o3 (some ta) (some ka) Q), (ka, aLng E 39852 kn), (ta, o7 (some ca) (some oa) T), (oa, aInt E 24 co), (ca, o1 (some pa) (some da) (some sa) C), (pa, aInt E 5 P), (da, aInt E 24 dr), (sa, aInt E 24 sr)] (fun r ws => ∃ (v : Int), ∃ (kn1 : Int → Int), r = some (.int (iZ v)) ∧ ws = [(la, o3 (some ta) (some ka) Q), (ka, aLng E 39852 kn1), (ta, o7 (some ca) (some oa) T), (oa, aInt E 24 co), (ca, o1 (some pa) (some da) (some sa) C), (pa, aInt E 5 P), (da, aInt E 24 dr), (sa, aInt E 24 sr)] ∧ (v = tpF K (Q 1) step p a b ∧ KnK K (Q 1) (Q 2) kn1 ∧ (v = -99999 ∨ (0 ≤ v ∧ v ≤ 8000)))) := by
  refine Cm.of (by decide +kernel) (Nat.le_of_ble_eq_true rfl) (fun Γ A hl hargs hin G F => ?_)
  subst hl
  have tok := htm.2.1
  have tse := tok.2.1
  refine j_aload_n G 0 rfl d3_worthOfTrip_0 ?_
  refine j_get G 0 3 0 in3 fl3_16 d3_worthOfTrip_1 rfl rfl (by decide) (v := .ref ta) rfl rfl ?_
  refine j_iload_n G 3 rfl d3_worthOfTrip_4 ?_
  refine j_VP G (k7_seated (xl Γ) E ta oa T ca pa da sa C P dr sr co K a (by first | assumption | omega | (simp only [upS, reduceIte, Nat.reduceEqDiff, eq_self, List.length_cons, List.length_nil, List.length_append] <;> omega)) (by first | assumption | omega | (simp only [upS, reduceIte, Nat.reduceEqDiff, eq_self, List.length_cons, List.length_nil, List.length_append] <;> omega))) mw7_seated ml3_57 [2, 3, 4, 5, 6, 7] rfl 2 7 rfl rfl rfl ⟨Nat.le_of_ble_eq_true rfl, Nat.le_of_ble_eq_true rfl⟩ rfl (rest := []) rfl (Nat.le_of_ble_eq_true rfl) d3_worthOfTrip_5 ⟨Nat.le_of_ble_eq_true rfl, Nat.le_of_ble_eq_true rfl⟩ (fun r hr => ?_)
  obtain ⟨v2, rfl, ⟨hq1_0, hq1_1, hq1_2, hq1_3, hq1_4⟩⟩ := hr
  have hd0 := hq1_0
  have hd1 := hq1_1
  have hd2 := hq1_2
  have hd3 := hq1_3
  have hd4 := hq1_4
  refine j_istore G d3_worthOfTrip_8 (by decide) rfl ?_
  refine j_aload_n G 1 rfl d3_worthOfTrip_10 ?_
  refine j_get G 0 3 0 in3 fl3_16 d3_worthOfTrip_11 rfl rfl (by decide) (v := .ref ta) rfl rfl ?_
  refine j_iload G 5 rfl d3_worthOfTrip_14 ?_
  refine j_VP G (k7_seated (xl Γ) E ta oa T ca pa da sa C P dr sr co K b (by first | assumption | omega | (simp only [upS, reduceIte, Nat.reduceEqDiff, eq_self, List.length_cons, List.length_nil, List.length_append] <;> omega)) (by first | assumption | omega | (simp only [upS, reduceIte, Nat.reduceEqDiff, eq_self, List.length_cons, List.length_nil, List.length_append] <;> omega))) mw7_seated ml3_57 [2, 3, 4, 5, 6, 7] rfl 2 7 rfl rfl rfl ⟨Nat.le_of_ble_eq_true rfl, Nat.le_of_ble_eq_true rfl⟩ rfl (rest := []) rfl (Nat.le_of_ble_eq_true rfl) d3_worthOfTrip_16 ⟨Nat.le_of_ble_eq_true rfl, Nat.le_of_ble_eq_true rfl⟩ (fun r hr => ?_)
  obtain ⟨v4, rfl, ⟨hq3_0, hq3_1, hq3_2, hq3_3, hq3_4⟩⟩ := hr
  have hu0 := hq3_0
  have hu1 := hq3_1
  have hu2 := hq3_2
  have hu3 := hq3_3
  have hu4 := hq3_4
  refine j_istore G d3_worthOfTrip_19 (by decide) rfl ?_
  refine j_aload_n G 2 rfl d3_worthOfTrip_21 ?_
  refine j_get G 0 3 0 in3 fl3_16 d3_worthOfTrip_22 rfl rfl (by decide) (v := .ref ta) rfl rfl ?_
  refine j_iload_n G 3 rfl d3_worthOfTrip_25 ?_
  refine j_iload G 1 rfl d3_worthOfTrip_26 ?_
  refine j_iload G 0 rfl d3_worthOfTrip_28 ?_
  refine j_VP G (k7_leastFor (xl Γ) E ta oa T ca pa da sa C P dr sr co K step v2 v4 (by first | assumption | omega | (simp only [upS, reduceIte, Nat.reduceEqDiff, eq_self, List.length_cons, List.length_nil, List.length_append] <;> omega)) (by first | assumption | omega | (simp only [upS, reduceIte, Nat.reduceEqDiff, eq_self, List.length_cons, List.length_nil, List.length_append] <;> omega)) (by first | assumption | omega | (simp only [upS, reduceIte, Nat.reduceEqDiff, eq_self, List.length_cons, List.length_nil, List.length_append] <;> omega)) (by first | assumption | omega | (simp only [upS, reduceIte, Nat.reduceEqDiff, eq_self, List.length_cons, List.length_nil, List.length_append] <;> omega))) mw7_leastFor ml3_60 [2, 3, 4, 5, 6, 7] rfl 2 7 rfl rfl rfl ⟨Nat.le_of_ble_eq_true rfl, Nat.le_of_ble_eq_true rfl⟩ rfl (rest := []) rfl (Nat.le_of_ble_eq_true rfl) d3_worthOfTrip_30 ⟨Nat.le_of_ble_eq_true rfl, Nat.le_of_ble_eq_true rfl⟩ (fun r hr => ?_)
  obtain ⟨v6, rfl, ⟨hq5_0, hq5_1⟩⟩ := hr
  have hw0 := hq5_0
  have hw1 := hq5_1
  refine j_istore G d3_worthOfTrip_33 (by decide) rfl ?_
  refine j_iload G 2 rfl d3_worthOfTrip_35 ?_
  refine j_iload G 1 rfl d3_worthOfTrip_37 ?_
  refine j_iadd G d3_worthOfTrip_39 ?_
  refine j_if_eq (tgt := 61) G d3_worthOfTrip_40 (by decide) (by omega) (fun h7 => ?_) (fun h7 => ?_)
  ·
    refine j_ldc G (-99999) ct3_64 (by decide) d3_worthOfTrip_61 ?_
    exact j_iret G F d3_worthOfTrip_63 ⟨(-99999), kn, rfl, rfl, (by refine ⟨?_, hkn, Or.inl rfl⟩; unfold tpF; rw [← hd0, ← hu0, ← hw0, if_pos (by omega)])⟩
  ·
    refine j_iload G 0 rfl d3_worthOfTrip_43 ?_
    refine j_bipush G d3_worthOfTrip_45 rfl ?_
    refine j_icmp_eq (tgt := 61) G d3_worthOfTrip_47 (by decide) (by omega) (by decide) (fun h8 => ?_) (fun h8 => ?_)
    ·
      refine j_ldc G (-99999) ct3_64 (by decide) d3_worthOfTrip_61 ?_
      exact j_iret G F d3_worthOfTrip_63 ⟨(-99999), kn, rfl, rfl, (by refine ⟨?_, hkn, Or.inl rfl⟩; unfold tpF; rw [← hd0, ← hu0, ← hw0, if_pos (by omega)])⟩
    ·
      refine j_iload_n G 5 rfl d3_worthOfTrip_50 ?_
      refine j_iload G 0 rfl d3_worthOfTrip_51 ?_
      refine j_isub G d3_worthOfTrip_53 ?_
      refine j_aload_n G 3 rfl d3_worthOfTrip_54 ?_
      refine j_get G 0 3 1 in3 fl3_20 d3_worthOfTrip_55 rfl rfl (by decide) (v := .int (iZ (Q 1))) rfl rfl ?_
      refine j_icmp_ge (tgt := 64) G d3_worthOfTrip_58 (by decide) (by omega) (by omega) (fun h9 => ?_) (fun h9 => ?_)
      ·
        refine j_bipush G d3_worthOfTrip_64 rfl ?_
        refine j_iload G 1 rfl d3_worthOfTrip_66 ?_
        refine j_imul G d3_worthOfTrip_68 ?_
        refine j_aload_n G 3 rfl d3_worthOfTrip_69 ?_
        refine j_iload_n G 4 rfl d3_worthOfTrip_70 ?_
        refine j_iconst G d3_worthOfTrip_71 ?_
        refine j_iadd G d3_worthOfTrip_72 ?_
        refine j_iload_n G 5 rfl d3_worthOfTrip_73 ?_
        refine j_iload G 0 rfl d3_worthOfTrip_74 ?_
        refine j_isub G d3_worthOfTrip_76 ?_
        refine j_iload_n G 6 rfl d3_worthOfTrip_77 ?_
        refine j_iload G 2 rfl d3_worthOfTrip_78 ?_
        refine j_isub G d3_worthOfTrip_80 ?_
        refine j_iload G 7 rfl d3_worthOfTrip_81 ?_
        refine j_iload G 1 rfl d3_worthOfTrip_83 ?_
        refine j_isub G d3_worthOfTrip_85 ?_
        refine j_SM G (rm' := { frames := 6, cells := 0, slots := 0, locals := 158 }) (wc := [(la, o3 (some ta) (some ka) Q), (ka, aLng E 39852 kn), (ta, o7 (some ca) (some oa) T), (oa, aInt E 24 co), (ca, o1 (some pa) (some da) (some sa) C), (pa, aInt E 5 P), (da, aInt E 24 dr), (sa, aInt E 24 sr)]) (wr := []) (k3_worthFrom_2 (xl Γ) E la ka Q ta oa T ca pa da sa C P dr sr co K kn (step + 1) (p - v6) (a - v2) (b - v4) (by first | assumption | omega | (simp only [upS, reduceIte, Nat.reduceEqDiff, eq_self, List.length_cons, List.length_nil, List.length_append] <;> omega)) (by first | assumption | omega | (simp only [upS, reduceIte, Nat.reduceEqDiff, eq_self, List.length_cons, List.length_nil, List.length_append] <;> omega)) (by first | assumption | omega | (simp only [upS, reduceIte, Nat.reduceEqDiff, eq_self, List.length_cons, List.length_nil, List.length_append] <;> omega)) (by first | assumption | omega | (simp only [upS, reduceIte, Nat.reduceEqDiff, eq_self, List.length_cons, List.length_nil, List.length_append] <;> omega)) (by first | assumption | omega | (simp only [upS, reduceIte, Nat.reduceEqDiff, eq_self, List.length_cons, List.length_nil, List.length_append] <;> omega)) (by first | assumption | omega | (simp only [upS, reduceIte, Nat.reduceEqDiff, eq_self, List.length_cons, List.length_nil, List.length_append] <;> omega)) (by first | assumption | omega | (simp only [upS, reduceIte, Nat.reduceEqDiff, eq_self, List.length_cons, List.length_nil, List.length_append] <;> omega))) mw3_worthFrom ml3_45 [0, 1, 2, 3, 4, 5, 6, 7] [] rfl rfl ⟨rfl, rfl⟩ (by decide) ⟨Nat.le_of_ble_eq_true rfl, Nat.le_of_ble_eq_true rfl⟩ rfl (rest := [.int (iZ (100 * v4))]) rfl (Nat.le_of_ble_eq_true rfl) d3_worthOfTrip_86 ⟨Nat.le_of_ble_eq_true rfl, Nat.le_of_ble_eq_true rfl⟩ (fun r w1 hr => ?_)
        obtain ⟨v11, kn1_12, rfl, rfl, ⟨hq10_0, hq10_1, hq10_2⟩⟩ := hr
        refine j_eq (ws' := [(la, o3 (some ta) (some ka) Q), (ka, aLng E 39852 kn1_12), (ta, o7 (some ca) (some oa) T), (oa, aInt E 24 co), (ca, o1 (some pa) (some da) (some sa) C), (pa, aInt E 5 P), (da, aInt E 24 dr), (sa, aInt E 24 sr)]) rfl rfl rfl ?_
        have hn0 := hq10_0
        have hn1 := hq10_1
        have hn2 := hq10_2
        refine j_iadd G d3_worthOfTrip_89 ?_
        exact j_iret G F d3_worthOfTrip_90 ⟨(100 * v4) + v11, kn1_12, rfl, rfl, (by refine ⟨?_, hn1, by omega⟩; unfold tpF; rw [← hd0, ← hu0, ← hw0, if_neg (by omega), hn0])⟩
      ·
        refine j_ldc G (-99999) ct3_64 (by decide) d3_worthOfTrip_61 ?_
        exact j_iret G F d3_worthOfTrip_63 ⟨(-99999), kn, rfl, rfl, (by refine ⟨?_, hkn, Or.inl rfl⟩; unfold tpF; rw [← hd0, ← hu0, ← hw0, if_pos (by omega)])⟩
set_option maxHeartbeats 4000000 in
set_option maxRecDepth 100000 in
theorem k3_worthFrom_3 (l : Launch) (E : En) (la : Nat) (ka : Nat) (Q : Nat → Int) (ta : Nat) (oa : Nat) (T : Nat → Int) (ca : Nat) (pa : Nat) (da : Nat) (sa : Nat) (C : Nat → Int) (P : Int → Int) (dr : Int → Int) (sr : Int → Int) (co : Int → Int) (K : Dy) (kn : Int → Int) (step : Int) (p : Int) (a : Int) (b : Int) (htm : TmK K T C P dr sr co) (hkn : KnK K (Q 1) (Q 2) kn) (hsp : 0 ≤ Q 1 ∧ Q 1 ≤ 20) (hst : 9 ≤ step ∧ step ≤ 12) (hp : 0 ≤ p ∧ p ≤ 40) (ha : 0 ≤ a ∧ a ≤ 8) (hb : 0 ≤ b ∧ b ≤ 8) : Cm l E y3_worthFrom c3_worthFrom 11 (some .int) { frames := 8, cells := 0, slots := 0, locals := 215 } [.ref la, .int (iZ step), .int (iZ p), .int (iZ a), .int (iZ b)] [(la, o3 (some ta) (some ka) Q), (ka, aLng E 39852 kn), (ta, o7 (some ca) (some oa) T), (oa, aInt E 24 co), (ca, o1 (some pa) (some da) (some sa) C), (pa, aInt E 5 P), (da, aInt E 24 dr), (sa, aInt E 24 sr)] (fun r ws => ∃ (v : Int), ∃ (kn1 : Int → Int), r = some (.int (iZ v)) ∧ ws = [(la, o3 (some ta) (some ka) Q), (ka, aLng E 39852 kn1), (ta, o7 (some ca) (some oa) T), (oa, aInt E 24 co), (ca, o1 (some pa) (some da) (some sa) C), (pa, aInt E 5 P), (da, aInt E 24 dr), (sa, aInt E 24 sr)] ∧ (v = Vn K (Q 1) step (81 * p + 9 * a + b) ∧ KnK K (Q 1) (Q 2) kn1 ∧ (0 ≤ v ∧ v ≤ 7240))) := by
  refine Cm.of (by decide +kernel) (Nat.le_of_ble_eq_true rfl) (fun Γ A hl hargs hin G F => ?_)
  subst hl
  have tok := htm.2.1
  refine j_iload_n G 1 rfl d3_worthFrom_0 ?_
  refine j_bipush G d3_worthFrom_1 rfl ?_
  refine j_imul G d3_worthFrom_3 ?_
  refine j_iload_n G 2 rfl d3_worthFrom_4 ?_
  refine j_iadd G d3_worthFrom_5 ?_
  refine j_bipush G d3_worthFrom_6 rfl ?_
  refine j_imul G d3_worthFrom_8 ?_
  refine j_iload_n G 3 rfl d3_worthFrom_9 ?_
  refine j_iadd G d3_worthFrom_10 ?_
  refine j_bipush G d3_worthFrom_11 rfl ?_
  refine j_imul G d3_worthFrom_13 ?_
  refine j_iload G 4 rfl d3_worthFrom_14 ?_
  refine j_iadd G d3_worthFrom_16 ?_
  refine j_nm (fun pl epl => ?_)
  refine j_istore G d3_worthFrom_17 (by decide) rfl ?_
  refine j_iload_n G 2 rfl d3_worthFrom_19 ?_
  have hpl : pl = 3321 * step + (81 * p + 9 * a + b) := by omega
  refine j_bipush G d3_worthFrom_20 rfl ?_
  refine j_icmp_ge (tgt := 40) G d3_worthFrom_22 (by decide) (by omega) (by decide) (fun h1 => ?_) (fun h1 => ?_)
  ·
    have he : step = 12 := by omega
    refine j_iload_n G 3 rfl d3_worthFrom_40 ?_
    exact j_iret G F d3_worthFrom_41 ⟨p, kn, rfl, rfl, (by refine ⟨?_, hkn, by omega⟩; rw [he, Vn_e]; omega)⟩
  ·
    have hj : 0 ≤ pl ∧ pl < 39852 := by omega
    have hs11 : 0 ≤ step ∧ step ≤ 11 := by omega
    have hnw := st_now (K := K) (s := step) (p := p) ha hb
    have hdr := dR tok hs11 (st := (81 * p + 9 * a + b)) (by omega)
    have hnr := dNow_r tok hs11 (st := (81 * p + 9 * a + b)) (by omega)
    refine j_iload G 0 rfl d3_worthFrom_25 ?_
    refine j_if_lt (tgt := 40) G d3_worthFrom_27 (by decide) (by omega) (fun h2 => ?_) (fun h2 => ?_)
    ·
      exact absurd h2 (by omega)
    ·
      refine j_iload G 0 rfl d3_worthFrom_30 ?_
      refine j_aload_n G 1 rfl d3_worthFrom_32 ?_
      refine j_get G 0 3 3 in3 fl3_12 d3_worthFrom_33 rfl rfl (by decide) (v := .ref ka) rfl rfl ?_
      refine j_alenL G 1 rfl d3_worthFrom_36 ?_
      refine j_icmp_lt (tgt := 42) G d3_worthFrom_37 (by decide) (by omega) (by decide) (fun h3 => ?_) (fun h3 => ?_)
      ·
        have hje : pl / 3321 = step ∧ pl % 3321 = (81 * p + 9 * a + b) := by omega
        have hkj := hkn.2 pl hj.1 hj.2
        have hed := hkn.1
        refine j_aload_n G 1 rfl d3_worthFrom_42 ?_
        refine j_get G 0 3 3 in3 fl3_12 d3_worthFrom_43 rfl rfl (by decide) (v := .ref ka) rfl rfl ?_
        refine j_iload G 0 rfl d3_worthFrom_46 ?_
        refine j_lald G 1 rfl (by omega) d3_worthFrom_48 ?_
        refine j_bipush G d3_worthFrom_49 rfl ?_
        refine r_lshr G d3_worthFrom_51 ?_
        refine j_topl (y := (lZ (kn pl / 1048576))) (kn_hi (by omega) (by omega)) ?_
        refine j_aload_n G 1 rfl d3_worthFrom_52 ?_
        refine j_get G 0 3 2 in3 fl3_24 d3_worthFrom_53 rfl rfl (by decide) (v := .long (lZ (Q 2))) rfl rfl ?_
        refine j_lcmp G d3_worthFrom_56 (by omega) (by omega) ?_
        refine j_if_ne (tgt := 72) G d3_worthFrom_57 (by decide) (by split <;> first | decide | (split <;> decide)) (fun h4 => ?_) (fun h4 => ?_)
        ·
          have h4 : (kn pl / 1048576) ≠ (Q 2) := by
            revert h4; split <;> (try split) <;> intro h4 <;> omega
          refine j_aload_n G 1 rfl d3_worthFrom_72 ?_
          refine j_get G 0 3 0 in3 fl3_16 d3_worthFrom_73 rfl rfl (by decide) (v := .ref ta) rfl rfl ?_
          refine j_iload_n G 2 rfl d3_worthFrom_76 ?_
          refine j_iload_n G 3 rfl d3_worthFrom_77 ?_
          refine j_VP G (k7_pondWithSpring (xl Γ) E ta oa T ca pa da sa C P dr sr co K step p (by first | assumption | omega | (simp only [upS, reduceIte, Nat.reduceEqDiff, eq_self, List.length_cons, List.length_nil, List.length_append] <;> omega)) (by first | assumption | omega | (simp only [upS, reduceIte, Nat.reduceEqDiff, eq_self, List.length_cons, List.length_nil, List.length_append] <;> omega)) (by first | assumption | omega | (simp only [upS, reduceIte, Nat.reduceEqDiff, eq_self, List.length_cons, List.length_nil, List.length_append] <;> omega))) mw7_pondWithSpring ml3_29 [2, 3, 4, 5, 6, 7] rfl 2 7 rfl rfl rfl ⟨Nat.le_of_ble_eq_true rfl, Nat.le_of_ble_eq_true rfl⟩ rfl (rest := []) rfl (Nat.le_of_ble_eq_true rfl) d3_worthFrom_78 ⟨Nat.le_of_ble_eq_true rfl, Nat.le_of_ble_eq_true rfl⟩ (fun r hr => ?_)
          obtain ⟨v6, rfl, ⟨hq5_0, hq5_1, hq5_2⟩⟩ := hr
          have hf2 := hq5_1
          have hF : dF K step (81 * p + 9 * a + b) = v6 := by have := hq5_0; omega
          refine j_istore G d3_worthFrom_81 (by decide) rfl ?_
          refine j_iload_n G 5 rfl d3_worthFrom_83 ?_
          refine j_aload_n G 2 rfl d3_worthFrom_84 ?_
          refine j_get G 0 3 0 in3 fl3_16 d3_worthFrom_85 rfl rfl (by decide) (v := .ref ta) rfl rfl ?_
          refine j_iload_n G 3 rfl d3_worthFrom_88 ?_
          refine j_VP G (k7_comingAbove (xl Γ) E ta oa T ca pa da sa C P dr sr co K step (by first | assumption | omega | (simp only [upS, reduceIte, Nat.reduceEqDiff, eq_self, List.length_cons, List.length_nil, List.length_append] <;> omega)) (by first | assumption | omega | (simp only [upS, reduceIte, Nat.reduceEqDiff, eq_self, List.length_cons, List.length_nil, List.length_append] <;> omega))) mw7_comingAbove ml3_35 [2, 3, 4, 5, 6, 7] rfl 2 7 rfl rfl rfl ⟨Nat.le_of_ble_eq_true rfl, Nat.le_of_ble_eq_true rfl⟩ rfl (rest := [.int (iZ a)]) rfl (Nat.le_of_ble_eq_true rfl) d3_worthFrom_89 ⟨Nat.le_of_ble_eq_true rfl, Nat.le_of_ble_eq_true rfl⟩ (fun r hr => ?_)
          obtain ⟨v8, rfl, ⟨hq7_0, hq7_1, hq7_2⟩⟩ := hr
          have hca := hq7_0
          have hcb := hq7_1
          refine j_iadd G d3_worthFrom_92 ?_
          refine j_SP G (k3_waiting (xl Γ) E (a + v8) (by first | assumption | omega | (simp only [upS, reduceIte, Nat.reduceEqDiff, eq_self, List.length_cons, List.length_nil, List.length_append] <;> omega))) mw3_waiting ml3_39 [] rfl ⟨Nat.le_of_ble_eq_true rfl, Nat.le_of_ble_eq_true rfl⟩ rfl (rest := []) rfl (Nat.le_of_ble_eq_true rfl) d3_worthFrom_93 ⟨Nat.le_of_ble_eq_true rfl, Nat.le_of_ble_eq_true rfl⟩ (fun r hr => ?_)
          obtain ⟨v10, rfl, hq9⟩ := hr
          have hA : dA K step (81 * p + 9 * a + b) = v10 := by have := hq9; omega
          have hta := hq9
          refine j_istore G d3_worthFrom_96 (by decide) rfl ?_
          refine j_iload G 7 rfl d3_worthFrom_98 ?_
          refine j_aload_n G 3 rfl d3_worthFrom_100 ?_
          refine j_get G 0 3 0 in3 fl3_16 d3_worthFrom_101 rfl rfl (by decide) (v := .ref ta) rfl rfl ?_
          refine j_iload_n G 4 rfl d3_worthFrom_104 ?_
          refine j_VP G (k7_comingBelow (xl Γ) E ta oa T ca pa da sa C P dr sr co K step (by first | assumption | omega | (simp only [upS, reduceIte, Nat.reduceEqDiff, eq_self, List.length_cons, List.length_nil, List.length_append] <;> omega)) (by first | assumption | omega | (simp only [upS, reduceIte, Nat.reduceEqDiff, eq_self, List.length_cons, List.length_nil, List.length_append] <;> omega))) mw7_comingBelow ml3_42 [2, 3, 4, 5, 6, 7] rfl 2 7 rfl rfl rfl ⟨Nat.le_of_ble_eq_true rfl, Nat.le_of_ble_eq_true rfl⟩ rfl (rest := [.int (iZ b)]) rfl (Nat.le_of_ble_eq_true rfl) d3_worthFrom_105 ⟨Nat.le_of_ble_eq_true rfl, Nat.le_of_ble_eq_true rfl⟩ (fun r hr => ?_)
          obtain ⟨v12, rfl, ⟨hq11_0, hq11_1, hq11_2⟩⟩ := hr
          have hda := hq11_0
          have hdb := hq11_1
          refine j_iadd G d3_worthFrom_108 ?_
          refine j_SP G (k3_waiting (xl Γ) E (b + v12) (by first | assumption | omega | (simp only [upS, reduceIte, Nat.reduceEqDiff, eq_self, List.length_cons, List.length_nil, List.length_append] <;> omega))) mw3_waiting ml3_39 [] rfl ⟨Nat.le_of_ble_eq_true rfl, Nat.le_of_ble_eq_true rfl⟩ rfl (rest := []) rfl (Nat.le_of_ble_eq_true rfl) d3_worthFrom_109 ⟨Nat.le_of_ble_eq_true rfl, Nat.le_of_ble_eq_true rfl⟩ (fun r hr => ?_)
          obtain ⟨v14, rfl, hq13⟩ := hr
          have hB : dB K step (81 * p + 9 * a + b) = v14 := by have := hq13; omega
          have htb := hq13
          refine j_istore G d3_worthFrom_112 (by decide) rfl ?_
          refine j_aload_n G 4 rfl d3_worthFrom_114 ?_
          refine j_iload_n G 5 rfl d3_worthFrom_115 ?_
          refine j_iconst G d3_worthFrom_116 ?_
          refine j_iadd G d3_worthFrom_117 ?_
          refine j_iload G 2 rfl d3_worthFrom_118 ?_
          refine j_iload G 1 rfl d3_worthFrom_120 ?_
          refine j_iload G 0 rfl d3_worthFrom_122 ?_
          refine j_SM G (rm' := { frames := 6, cells := 0, slots := 0, locals := 158 }) (wc := [(la, o3 (some ta) (some ka) Q), (ka, aLng E 39852 kn), (ta, o7 (some ca) (some oa) T), (oa, aInt E 24 co), (ca, o1 (some pa) (some da) (some sa) C), (pa, aInt E 5 P), (da, aInt E 24 dr), (sa, aInt E 24 sr)]) (wr := []) (k3_worthFrom_2 (xl Γ) E la ka Q ta oa T ca pa da sa C P dr sr co K kn (step + 1) v6 v10 v14 (by first | assumption | omega | (simp only [upS, reduceIte, Nat.reduceEqDiff, eq_self, List.length_cons, List.length_nil, List.length_append] <;> omega)) (by first | assumption | omega | (simp only [upS, reduceIte, Nat.reduceEqDiff, eq_self, List.length_cons, List.length_nil, List.length_append] <;> omega)) (by first | assumption | omega | (simp only [upS, reduceIte, Nat.reduceEqDiff, eq_self, List.length_cons, List.length_nil, List.length_append] <;> omega)) (by first | assumption | omega | (simp only [upS, reduceIte, Nat.reduceEqDiff, eq_self, List.length_cons, List.length_nil, List.length_append] <;> omega)) (by first | assumption | omega | (simp only [upS, reduceIte, Nat.reduceEqDiff, eq_self, List.length_cons, List.length_nil, List.length_append] <;> omega)) (by first | assumption | omega | (simp only [upS, reduceIte, Nat.reduceEqDiff, eq_self, List.length_cons, List.length_nil, List.length_append] <;> omega)) (by first | assumption | omega | (simp only [upS, reduceIte, Nat.reduceEqDiff, eq_self, List.length_cons, List.length_nil, List.length_append] <;> omega))) mw3_worthFrom ml3_45 [0, 1, 2, 3, 4, 5, 6, 7] [] rfl rfl ⟨rfl, rfl⟩ (by decide) ⟨Nat.le_of_ble_eq_true rfl, Nat.le_of_ble_eq_true rfl⟩ rfl (rest := []) rfl (Nat.le_of_ble_eq_true rfl) d3_worthFrom_124 ⟨Nat.le_of_ble_eq_true rfl, Nat.le_of_ble_eq_true rfl⟩ (fun r w1 hr => ?_)
          obtain ⟨v16, kn1_17, rfl, rfl, ⟨hq15_0, hq15_1, hq15_2⟩⟩ := hr
          refine j_eq (ws' := [(la, o3 (some ta) (some ka) Q), (ka, aLng E 39852 kn1_17), (ta, o7 (some ca) (some oa) T), (oa, aInt E 24 co), (ca, o1 (some pa) (some da) (some sa) C), (pa, aInt E 5 P), (da, aInt E 24 dr), (sa, aInt E 24 sr)]) rfl rfl rfl ?_
          have hn0 : v16 = Vn K (Q 1) (step + 1) (dNow K step (81 * p + 9 * a + b)) := by rw [hq15_0]; congr 1; unfold dNow; omega
          have hn1 := hq15_1
          have hn2 := hq15_2
          refine j_istore G d3_worthFrom_127 (by decide) rfl ?_
          refine j_iload G 0 rfl d3_worthFrom_129 ?_
          refine j_aload_n G 5 rfl d3_worthFrom_131 ?_
          refine j_iload_n G 6 rfl d3_worthFrom_132 ?_
          refine j_iload G 3 rfl d3_worthFrom_133 ?_
          refine j_iload G 2 rfl d3_worthFrom_135 ?_
          refine j_iload G 1 rfl d3_worthFrom_137 ?_
          refine j_SM G (rm' := { frames := 7, cells := 0, slots := 0, locals := 188 }) (wc := [(la, o3 (some ta) (some ka) Q), (ka, aLng E 39852 kn1_17), (ta, o7 (some ca) (some oa) T), (oa, aInt E 24 co), (ca, o1 (some pa) (some da) (some sa) C), (pa, aInt E 5 P), (da, aInt E 24 dr), (sa, aInt E 24 sr)]) (wr := []) (k3_worthOfTrip_3 (xl Γ) E la ka Q ta oa T ca pa da sa C P dr sr co K kn1_17 step v6 v10 v14 (by first | assumption | omega | (simp only [upS, reduceIte, Nat.reduceEqDiff, eq_self, List.length_cons, List.length_nil, List.length_append] <;> omega)) (by first | assumption | omega | (simp only [upS, reduceIte, Nat.reduceEqDiff, eq_self, List.length_cons, List.length_nil, List.length_append] <;> omega)) (by first | assumption | omega | (simp only [upS, reduceIte, Nat.reduceEqDiff, eq_self, List.length_cons, List.length_nil, List.length_append] <;> omega)) (by first | assumption | omega | (simp only [upS, reduceIte, Nat.reduceEqDiff, eq_self, List.length_cons, List.length_nil, List.length_append] <;> omega)) (by first | assumption | omega | (simp only [upS, reduceIte, Nat.reduceEqDiff, eq_self, List.length_cons, List.length_nil, List.length_append] <;> omega)) (by first | assumption | omega | (simp only [upS, reduceIte, Nat.reduceEqDiff, eq_self, List.length_cons, List.length_nil, List.length_append] <;> omega)) (by first | assumption | omega | (simp only [upS, reduceIte, Nat.reduceEqDiff, eq_self, List.length_cons, List.length_nil, List.length_append] <;> omega))) mw3_worthOfTrip ml3_49 [0, 1, 2, 3, 4, 5, 6, 7] [] rfl rfl ⟨rfl, rfl⟩ (by decide) ⟨Nat.le_of_ble_eq_true rfl, Nat.le_of_ble_eq_true rfl⟩ rfl (rest := [.int (iZ v16)]) rfl (Nat.le_of_ble_eq_true rfl) d3_worthFrom_139 ⟨Nat.le_of_ble_eq_true rfl, Nat.le_of_ble_eq_true rfl⟩ (fun r w1 hr => ?_)
          obtain ⟨v19, kn1_20, rfl, rfl, ⟨hq18_0, hq18_1, hq18_2⟩⟩ := hr
          refine j_eq (ws' := [(la, o3 (some ta) (some ka) Q), (ka, aLng E 39852 kn1_20), (ta, o7 (some ca) (some oa) T), (oa, aInt E 24 co), (ca, o1 (some pa) (some da) (some sa) C), (pa, aInt E 5 P), (da, aInt E 24 dr), (sa, aInt E 24 sr)]) rfl rfl rfl ?_
          have ht0 : v19 = tpF K (Q 1) step (dF K step (81 * p + 9 * a + b)) (dA K step (81 * p + 9 * a + b)) (dB K step (81 * p + 9 * a + b)) := by rw [hF, hA, hB]; exact hq18_0
          have ht1 := hq18_1
          have ht2 := hq18_2
          refine j_mmax G ml3_52 (by omega) (by omega) ⟨Nat.le_of_ble_eq_true rfl, Nat.le_of_ble_eq_true rfl⟩ ⟨Nat.le_of_ble_eq_true rfl, Nat.le_of_ble_eq_true rfl⟩ d3_worthFrom_142 ?_
          have hmx := vn_max tok hs11 (by omega) hsp.1 hn0 ht0
          have hmr := Vn_r tok hsp.1 (s := step) (st := (81 * p + 9 * a + b)) (by omega) (by omega)
          refine j_istore G d3_worthFrom_145 (by decide) rfl ?_
          refine j_aload_n G 6 rfl d3_worthFrom_147 ?_
          refine j_get G 0 3 3 in3 fl3_12 d3_worthFrom_148 rfl rfl (by decide) (v := .ref ka) rfl rfl ?_
          refine j_iload G 5 rfl d3_worthFrom_151 ?_
          refine j_aload_n G 6 rfl d3_worthFrom_153 ?_
          refine j_get G 0 3 2 in3 fl3_24 d3_worthFrom_154 rfl rfl (by decide) (v := .long (lZ (Q 2))) rfl rfl ?_
          refine j_bipush G d3_worthFrom_157 rfl ?_
          refine r_lshl G d3_worthFrom_159 ?_
          refine j_topl (y := (lZ (Q 2 * 1048576))) (kn_sh (by omega) (by omega)) ?_
          refine j_iload G 0 rfl d3_worthFrom_160 ?_
          refine j_i2l G d3_worthFrom_162 (by omega) ?_
          refine r_lor G d3_worthFrom_163 ?_
          refine j_topl (y := (lZ (Q 2 * 1048576 + (max v16 v19)))) (kn_or (by omega) (by omega) (by omega) (by omega)) ?_
          refine j_last G 1 rfl (by omega) d3_worthFrom_164 ?_
          refine j_iload G 0 rfl d3_worthFrom_165 ?_
          exact j_iret G F d3_worthFrom_167 ⟨max v16 v19, (upI kn1_20 pl (Q 2 * 1048576 + (max v16 v19))), rfl, rfl, (by exact ⟨hmx, KnK.up ht1 hj.1 hj.2 (by rw [hje.1, hje.2]; exact hmx) (by omega), by omega⟩)⟩
        ·
          have h4 : ¬ ((kn pl / 1048576) ≠ (Q 2)) := by
            revert h4; split <;> (try split) <;> intro h4 <;> omega
          have hvv := hkj.2 (by omega)
          rw [hje.1, hje.2] at hvv
          have hvr := Vn_r tok hsp.1 (s := step) (st := (81 * p + 9 * a + b)) (by omega) (by omega)
          refine j_aload_n G 1 rfl d3_worthFrom_60 ?_
          refine j_get G 0 3 3 in3 fl3_12 d3_worthFrom_61 rfl rfl (by decide) (v := .ref ka) rfl rfl ?_
          refine j_iload G 0 rfl d3_worthFrom_64 ?_
          refine j_lald G 1 rfl (by omega) d3_worthFrom_66 ?_
          refine j_l2i G d3_worthFrom_67 ?_
          refine j_ldc G 1048575 ct3_28 (by decide) d3_worthFrom_68 ?_
          refine r_iand G d3_worthFrom_70 ?_
          refine j_top (y := (iZ (kn pl % 1048576))) (kn_lo (by omega) (by omega)) ?_
          exact j_iret G F d3_worthFrom_71 ⟨kn pl % 1048576, kn, rfl, rfl, (by exact ⟨hvv, hkn, by omega⟩)⟩
      ·
        exact absurd h3 (by omega)
set_option maxHeartbeats 4000000 in
set_option maxRecDepth 100000 in
theorem k3_worthOfTrip_4 (l : Launch) (E : En) (la : Nat) (ka : Nat) (Q : Nat → Int) (ta : Nat) (oa : Nat) (T : Nat → Int) (ca : Nat) (pa : Nat) (da : Nat) (sa : Nat) (C : Nat → Int) (P : Int → Int) (dr : Int → Int) (sr : Int → Int) (co : Int → Int) (K : Dy) (kn : Int → Int) (step : Int) (p : Int) (a : Int) (b : Int) (htm : TmK K T C P dr sr co) (hkn : KnK K (Q 1) (Q 2) kn) (hsp : 0 ≤ Q 1 ∧ Q 1 ≤ 20) (hst : 8 ≤ step ∧ step ≤ 11) (hp : 0 ≤ p ∧ p ≤ 40) (ha : 0 ≤ a ∧ a ≤ 8) (hb : 0 ≤ b ∧ b ≤ 8) : Cm l E y3_worthOfTrip c3_worthOfTrip 8 (some .int) { frames := 9, cells := 0, slots := 0, locals := 245 } [.ref la, .int (iZ step), .int (iZ p), .int (iZ a), .int (iZ b)] [(la, o3 (some ta) (some ka) Q), (ka, aLng E 39852 kn), (ta, o7 (some ca) (some oa) T), (oa, aInt E 24 co), (ca, o1 (some pa) (some da) (some sa) C), (pa, aInt E 5 P), (da, aInt E 24 dr), (sa, aInt E 24 sr)] (fun r ws => ∃ (v : Int), ∃ (kn1 : Int → Int), r = some (.int (iZ v)) ∧ ws = [(la, o3 (some ta) (some ka) Q), (ka, aLng E 39852 kn1), (ta, o7 (some ca) (some oa) T), (oa, aInt E 24 co), (ca, o1 (some pa) (some da) (some sa) C), (pa, aInt E 5 P), (da, aInt E 24 dr), (sa, aInt E 24 sr)] ∧ (v = tpF K (Q 1) step p a b ∧ KnK K (Q 1) (Q 2) kn1 ∧ (v = -99999 ∨ (0 ≤ v ∧ v ≤ 8000)))) := by
  refine Cm.of (by decide +kernel) (Nat.le_of_ble_eq_true rfl) (fun Γ A hl hargs hin G F => ?_)
  subst hl
  have tok := htm.2.1
  have tse := tok.2.1
  refine j_aload_n G 0 rfl d3_worthOfTrip_0 ?_
  refine j_get G 0 3 0 in3 fl3_16 d3_worthOfTrip_1 rfl rfl (by decide) (v := .ref ta) rfl rfl ?_
  refine j_iload_n G 3 rfl d3_worthOfTrip_4 ?_
  refine j_VP G (k7_seated (xl Γ) E ta oa T ca pa da sa C P dr sr co K a (by first | assumption | omega | (simp only [upS, reduceIte, Nat.reduceEqDiff, eq_self, List.length_cons, List.length_nil, List.length_append] <;> omega)) (by first | assumption | omega | (simp only [upS, reduceIte, Nat.reduceEqDiff, eq_self, List.length_cons, List.length_nil, List.length_append] <;> omega))) mw7_seated ml3_57 [2, 3, 4, 5, 6, 7] rfl 2 7 rfl rfl rfl ⟨Nat.le_of_ble_eq_true rfl, Nat.le_of_ble_eq_true rfl⟩ rfl (rest := []) rfl (Nat.le_of_ble_eq_true rfl) d3_worthOfTrip_5 ⟨Nat.le_of_ble_eq_true rfl, Nat.le_of_ble_eq_true rfl⟩ (fun r hr => ?_)
  obtain ⟨v2, rfl, ⟨hq1_0, hq1_1, hq1_2, hq1_3, hq1_4⟩⟩ := hr
  have hd0 := hq1_0
  have hd1 := hq1_1
  have hd2 := hq1_2
  have hd3 := hq1_3
  have hd4 := hq1_4
  refine j_istore G d3_worthOfTrip_8 (by decide) rfl ?_
  refine j_aload_n G 1 rfl d3_worthOfTrip_10 ?_
  refine j_get G 0 3 0 in3 fl3_16 d3_worthOfTrip_11 rfl rfl (by decide) (v := .ref ta) rfl rfl ?_
  refine j_iload G 5 rfl d3_worthOfTrip_14 ?_
  refine j_VP G (k7_seated (xl Γ) E ta oa T ca pa da sa C P dr sr co K b (by first | assumption | omega | (simp only [upS, reduceIte, Nat.reduceEqDiff, eq_self, List.length_cons, List.length_nil, List.length_append] <;> omega)) (by first | assumption | omega | (simp only [upS, reduceIte, Nat.reduceEqDiff, eq_self, List.length_cons, List.length_nil, List.length_append] <;> omega))) mw7_seated ml3_57 [2, 3, 4, 5, 6, 7] rfl 2 7 rfl rfl rfl ⟨Nat.le_of_ble_eq_true rfl, Nat.le_of_ble_eq_true rfl⟩ rfl (rest := []) rfl (Nat.le_of_ble_eq_true rfl) d3_worthOfTrip_16 ⟨Nat.le_of_ble_eq_true rfl, Nat.le_of_ble_eq_true rfl⟩ (fun r hr => ?_)
  obtain ⟨v4, rfl, ⟨hq3_0, hq3_1, hq3_2, hq3_3, hq3_4⟩⟩ := hr
  have hu0 := hq3_0
  have hu1 := hq3_1
  have hu2 := hq3_2
  have hu3 := hq3_3
  have hu4 := hq3_4
  refine j_istore G d3_worthOfTrip_19 (by decide) rfl ?_
  refine j_aload_n G 2 rfl d3_worthOfTrip_21 ?_
  refine j_get G 0 3 0 in3 fl3_16 d3_worthOfTrip_22 rfl rfl (by decide) (v := .ref ta) rfl rfl ?_
  refine j_iload_n G 3 rfl d3_worthOfTrip_25 ?_
  refine j_iload G 1 rfl d3_worthOfTrip_26 ?_
  refine j_iload G 0 rfl d3_worthOfTrip_28 ?_
  refine j_VP G (k7_leastFor (xl Γ) E ta oa T ca pa da sa C P dr sr co K step v2 v4 (by first | assumption | omega | (simp only [upS, reduceIte, Nat.reduceEqDiff, eq_self, List.length_cons, List.length_nil, List.length_append] <;> omega)) (by first | assumption | omega | (simp only [upS, reduceIte, Nat.reduceEqDiff, eq_self, List.length_cons, List.length_nil, List.length_append] <;> omega)) (by first | assumption | omega | (simp only [upS, reduceIte, Nat.reduceEqDiff, eq_self, List.length_cons, List.length_nil, List.length_append] <;> omega)) (by first | assumption | omega | (simp only [upS, reduceIte, Nat.reduceEqDiff, eq_self, List.length_cons, List.length_nil, List.length_append] <;> omega))) mw7_leastFor ml3_60 [2, 3, 4, 5, 6, 7] rfl 2 7 rfl rfl rfl ⟨Nat.le_of_ble_eq_true rfl, Nat.le_of_ble_eq_true rfl⟩ rfl (rest := []) rfl (Nat.le_of_ble_eq_true rfl) d3_worthOfTrip_30 ⟨Nat.le_of_ble_eq_true rfl, Nat.le_of_ble_eq_true rfl⟩ (fun r hr => ?_)
  obtain ⟨v6, rfl, ⟨hq5_0, hq5_1⟩⟩ := hr
  have hw0 := hq5_0
  have hw1 := hq5_1
  refine j_istore G d3_worthOfTrip_33 (by decide) rfl ?_
  refine j_iload G 2 rfl d3_worthOfTrip_35 ?_
  refine j_iload G 1 rfl d3_worthOfTrip_37 ?_
  refine j_iadd G d3_worthOfTrip_39 ?_
  refine j_if_eq (tgt := 61) G d3_worthOfTrip_40 (by decide) (by omega) (fun h7 => ?_) (fun h7 => ?_)
  ·
    refine j_ldc G (-99999) ct3_64 (by decide) d3_worthOfTrip_61 ?_
    exact j_iret G F d3_worthOfTrip_63 ⟨(-99999), kn, rfl, rfl, (by refine ⟨?_, hkn, Or.inl rfl⟩; unfold tpF; rw [← hd0, ← hu0, ← hw0, if_pos (by omega)])⟩
  ·
    refine j_iload G 0 rfl d3_worthOfTrip_43 ?_
    refine j_bipush G d3_worthOfTrip_45 rfl ?_
    refine j_icmp_eq (tgt := 61) G d3_worthOfTrip_47 (by decide) (by omega) (by decide) (fun h8 => ?_) (fun h8 => ?_)
    ·
      refine j_ldc G (-99999) ct3_64 (by decide) d3_worthOfTrip_61 ?_
      exact j_iret G F d3_worthOfTrip_63 ⟨(-99999), kn, rfl, rfl, (by refine ⟨?_, hkn, Or.inl rfl⟩; unfold tpF; rw [← hd0, ← hu0, ← hw0, if_pos (by omega)])⟩
    ·
      refine j_iload_n G 5 rfl d3_worthOfTrip_50 ?_
      refine j_iload G 0 rfl d3_worthOfTrip_51 ?_
      refine j_isub G d3_worthOfTrip_53 ?_
      refine j_aload_n G 3 rfl d3_worthOfTrip_54 ?_
      refine j_get G 0 3 1 in3 fl3_20 d3_worthOfTrip_55 rfl rfl (by decide) (v := .int (iZ (Q 1))) rfl rfl ?_
      refine j_icmp_ge (tgt := 64) G d3_worthOfTrip_58 (by decide) (by omega) (by omega) (fun h9 => ?_) (fun h9 => ?_)
      ·
        refine j_bipush G d3_worthOfTrip_64 rfl ?_
        refine j_iload G 1 rfl d3_worthOfTrip_66 ?_
        refine j_imul G d3_worthOfTrip_68 ?_
        refine j_aload_n G 3 rfl d3_worthOfTrip_69 ?_
        refine j_iload_n G 4 rfl d3_worthOfTrip_70 ?_
        refine j_iconst G d3_worthOfTrip_71 ?_
        refine j_iadd G d3_worthOfTrip_72 ?_
        refine j_iload_n G 5 rfl d3_worthOfTrip_73 ?_
        refine j_iload G 0 rfl d3_worthOfTrip_74 ?_
        refine j_isub G d3_worthOfTrip_76 ?_
        refine j_iload_n G 6 rfl d3_worthOfTrip_77 ?_
        refine j_iload G 2 rfl d3_worthOfTrip_78 ?_
        refine j_isub G d3_worthOfTrip_80 ?_
        refine j_iload G 7 rfl d3_worthOfTrip_81 ?_
        refine j_iload G 1 rfl d3_worthOfTrip_83 ?_
        refine j_isub G d3_worthOfTrip_85 ?_
        refine j_SM G (rm' := { frames := 8, cells := 0, slots := 0, locals := 215 }) (wc := [(la, o3 (some ta) (some ka) Q), (ka, aLng E 39852 kn), (ta, o7 (some ca) (some oa) T), (oa, aInt E 24 co), (ca, o1 (some pa) (some da) (some sa) C), (pa, aInt E 5 P), (da, aInt E 24 dr), (sa, aInt E 24 sr)]) (wr := []) (k3_worthFrom_3 (xl Γ) E la ka Q ta oa T ca pa da sa C P dr sr co K kn (step + 1) (p - v6) (a - v2) (b - v4) (by first | assumption | omega | (simp only [upS, reduceIte, Nat.reduceEqDiff, eq_self, List.length_cons, List.length_nil, List.length_append] <;> omega)) (by first | assumption | omega | (simp only [upS, reduceIte, Nat.reduceEqDiff, eq_self, List.length_cons, List.length_nil, List.length_append] <;> omega)) (by first | assumption | omega | (simp only [upS, reduceIte, Nat.reduceEqDiff, eq_self, List.length_cons, List.length_nil, List.length_append] <;> omega)) (by first | assumption | omega | (simp only [upS, reduceIte, Nat.reduceEqDiff, eq_self, List.length_cons, List.length_nil, List.length_append] <;> omega)) (by first | assumption | omega | (simp only [upS, reduceIte, Nat.reduceEqDiff, eq_self, List.length_cons, List.length_nil, List.length_append] <;> omega)) (by first | assumption | omega | (simp only [upS, reduceIte, Nat.reduceEqDiff, eq_self, List.length_cons, List.length_nil, List.length_append] <;> omega)) (by first | assumption | omega | (simp only [upS, reduceIte, Nat.reduceEqDiff, eq_self, List.length_cons, List.length_nil, List.length_append] <;> omega))) mw3_worthFrom ml3_45 [0, 1, 2, 3, 4, 5, 6, 7] [] rfl rfl ⟨rfl, rfl⟩ (by decide) ⟨Nat.le_of_ble_eq_true rfl, Nat.le_of_ble_eq_true rfl⟩ rfl (rest := [.int (iZ (100 * v4))]) rfl (Nat.le_of_ble_eq_true rfl) d3_worthOfTrip_86 ⟨Nat.le_of_ble_eq_true rfl, Nat.le_of_ble_eq_true rfl⟩ (fun r w1 hr => ?_)
        obtain ⟨v11, kn1_12, rfl, rfl, ⟨hq10_0, hq10_1, hq10_2⟩⟩ := hr
        refine j_eq (ws' := [(la, o3 (some ta) (some ka) Q), (ka, aLng E 39852 kn1_12), (ta, o7 (some ca) (some oa) T), (oa, aInt E 24 co), (ca, o1 (some pa) (some da) (some sa) C), (pa, aInt E 5 P), (da, aInt E 24 dr), (sa, aInt E 24 sr)]) rfl rfl rfl ?_
        have hn0 := hq10_0
        have hn1 := hq10_1
        have hn2 := hq10_2
        refine j_iadd G d3_worthOfTrip_89 ?_
        exact j_iret G F d3_worthOfTrip_90 ⟨(100 * v4) + v11, kn1_12, rfl, rfl, (by refine ⟨?_, hn1, by omega⟩; unfold tpF; rw [← hd0, ← hu0, ← hw0, if_neg (by omega), hn0])⟩
      ·
        refine j_ldc G (-99999) ct3_64 (by decide) d3_worthOfTrip_61 ?_
        exact j_iret G F d3_worthOfTrip_63 ⟨(-99999), kn, rfl, rfl, (by refine ⟨?_, hkn, Or.inl rfl⟩; unfold tpF; rw [← hd0, ← hu0, ← hw0, if_pos (by omega)])⟩
set_option maxHeartbeats 4000000 in
set_option maxRecDepth 100000 in
theorem k3_worthFrom_4 (l : Launch) (E : En) (la : Nat) (ka : Nat) (Q : Nat → Int) (ta : Nat) (oa : Nat) (T : Nat → Int) (ca : Nat) (pa : Nat) (da : Nat) (sa : Nat) (C : Nat → Int) (P : Int → Int) (dr : Int → Int) (sr : Int → Int) (co : Int → Int) (K : Dy) (kn : Int → Int) (step : Int) (p : Int) (a : Int) (b : Int) (htm : TmK K T C P dr sr co) (hkn : KnK K (Q 1) (Q 2) kn) (hsp : 0 ≤ Q 1 ∧ Q 1 ≤ 20) (hst : 8 ≤ step ∧ step ≤ 12) (hp : 0 ≤ p ∧ p ≤ 40) (ha : 0 ≤ a ∧ a ≤ 8) (hb : 0 ≤ b ∧ b ≤ 8) : Cm l E y3_worthFrom c3_worthFrom 11 (some .int) { frames := 10, cells := 0, slots := 0, locals := 272 } [.ref la, .int (iZ step), .int (iZ p), .int (iZ a), .int (iZ b)] [(la, o3 (some ta) (some ka) Q), (ka, aLng E 39852 kn), (ta, o7 (some ca) (some oa) T), (oa, aInt E 24 co), (ca, o1 (some pa) (some da) (some sa) C), (pa, aInt E 5 P), (da, aInt E 24 dr), (sa, aInt E 24 sr)] (fun r ws => ∃ (v : Int), ∃ (kn1 : Int → Int), r = some (.int (iZ v)) ∧ ws = [(la, o3 (some ta) (some ka) Q), (ka, aLng E 39852 kn1), (ta, o7 (some ca) (some oa) T), (oa, aInt E 24 co), (ca, o1 (some pa) (some da) (some sa) C), (pa, aInt E 5 P), (da, aInt E 24 dr), (sa, aInt E 24 sr)] ∧ (v = Vn K (Q 1) step (81 * p + 9 * a + b) ∧ KnK K (Q 1) (Q 2) kn1 ∧ (0 ≤ v ∧ v ≤ 7240))) := by
  refine Cm.of (by decide +kernel) (Nat.le_of_ble_eq_true rfl) (fun Γ A hl hargs hin G F => ?_)
  subst hl
  have tok := htm.2.1
  refine j_iload_n G 1 rfl d3_worthFrom_0 ?_
  refine j_bipush G d3_worthFrom_1 rfl ?_
  refine j_imul G d3_worthFrom_3 ?_
  refine j_iload_n G 2 rfl d3_worthFrom_4 ?_
  refine j_iadd G d3_worthFrom_5 ?_
  refine j_bipush G d3_worthFrom_6 rfl ?_
  refine j_imul G d3_worthFrom_8 ?_
  refine j_iload_n G 3 rfl d3_worthFrom_9 ?_
  refine j_iadd G d3_worthFrom_10 ?_
  refine j_bipush G d3_worthFrom_11 rfl ?_
  refine j_imul G d3_worthFrom_13 ?_
  refine j_iload G 4 rfl d3_worthFrom_14 ?_
  refine j_iadd G d3_worthFrom_16 ?_
  refine j_nm (fun pl epl => ?_)
  refine j_istore G d3_worthFrom_17 (by decide) rfl ?_
  refine j_iload_n G 2 rfl d3_worthFrom_19 ?_
  have hpl : pl = 3321 * step + (81 * p + 9 * a + b) := by omega
  refine j_bipush G d3_worthFrom_20 rfl ?_
  refine j_icmp_ge (tgt := 40) G d3_worthFrom_22 (by decide) (by omega) (by decide) (fun h1 => ?_) (fun h1 => ?_)
  ·
    have he : step = 12 := by omega
    refine j_iload_n G 3 rfl d3_worthFrom_40 ?_
    exact j_iret G F d3_worthFrom_41 ⟨p, kn, rfl, rfl, (by refine ⟨?_, hkn, by omega⟩; rw [he, Vn_e]; omega)⟩
  ·
    have hj : 0 ≤ pl ∧ pl < 39852 := by omega
    have hs11 : 0 ≤ step ∧ step ≤ 11 := by omega
    have hnw := st_now (K := K) (s := step) (p := p) ha hb
    have hdr := dR tok hs11 (st := (81 * p + 9 * a + b)) (by omega)
    have hnr := dNow_r tok hs11 (st := (81 * p + 9 * a + b)) (by omega)
    refine j_iload G 0 rfl d3_worthFrom_25 ?_
    refine j_if_lt (tgt := 40) G d3_worthFrom_27 (by decide) (by omega) (fun h2 => ?_) (fun h2 => ?_)
    ·
      exact absurd h2 (by omega)
    ·
      refine j_iload G 0 rfl d3_worthFrom_30 ?_
      refine j_aload_n G 1 rfl d3_worthFrom_32 ?_
      refine j_get G 0 3 3 in3 fl3_12 d3_worthFrom_33 rfl rfl (by decide) (v := .ref ka) rfl rfl ?_
      refine j_alenL G 1 rfl d3_worthFrom_36 ?_
      refine j_icmp_lt (tgt := 42) G d3_worthFrom_37 (by decide) (by omega) (by decide) (fun h3 => ?_) (fun h3 => ?_)
      ·
        have hje : pl / 3321 = step ∧ pl % 3321 = (81 * p + 9 * a + b) := by omega
        have hkj := hkn.2 pl hj.1 hj.2
        have hed := hkn.1
        refine j_aload_n G 1 rfl d3_worthFrom_42 ?_
        refine j_get G 0 3 3 in3 fl3_12 d3_worthFrom_43 rfl rfl (by decide) (v := .ref ka) rfl rfl ?_
        refine j_iload G 0 rfl d3_worthFrom_46 ?_
        refine j_lald G 1 rfl (by omega) d3_worthFrom_48 ?_
        refine j_bipush G d3_worthFrom_49 rfl ?_
        refine r_lshr G d3_worthFrom_51 ?_
        refine j_topl (y := (lZ (kn pl / 1048576))) (kn_hi (by omega) (by omega)) ?_
        refine j_aload_n G 1 rfl d3_worthFrom_52 ?_
        refine j_get G 0 3 2 in3 fl3_24 d3_worthFrom_53 rfl rfl (by decide) (v := .long (lZ (Q 2))) rfl rfl ?_
        refine j_lcmp G d3_worthFrom_56 (by omega) (by omega) ?_
        refine j_if_ne (tgt := 72) G d3_worthFrom_57 (by decide) (by split <;> first | decide | (split <;> decide)) (fun h4 => ?_) (fun h4 => ?_)
        ·
          have h4 : (kn pl / 1048576) ≠ (Q 2) := by
            revert h4; split <;> (try split) <;> intro h4 <;> omega
          refine j_aload_n G 1 rfl d3_worthFrom_72 ?_
          refine j_get G 0 3 0 in3 fl3_16 d3_worthFrom_73 rfl rfl (by decide) (v := .ref ta) rfl rfl ?_
          refine j_iload_n G 2 rfl d3_worthFrom_76 ?_
          refine j_iload_n G 3 rfl d3_worthFrom_77 ?_
          refine j_VP G (k7_pondWithSpring (xl Γ) E ta oa T ca pa da sa C P dr sr co K step p (by first | assumption | omega | (simp only [upS, reduceIte, Nat.reduceEqDiff, eq_self, List.length_cons, List.length_nil, List.length_append] <;> omega)) (by first | assumption | omega | (simp only [upS, reduceIte, Nat.reduceEqDiff, eq_self, List.length_cons, List.length_nil, List.length_append] <;> omega)) (by first | assumption | omega | (simp only [upS, reduceIte, Nat.reduceEqDiff, eq_self, List.length_cons, List.length_nil, List.length_append] <;> omega))) mw7_pondWithSpring ml3_29 [2, 3, 4, 5, 6, 7] rfl 2 7 rfl rfl rfl ⟨Nat.le_of_ble_eq_true rfl, Nat.le_of_ble_eq_true rfl⟩ rfl (rest := []) rfl (Nat.le_of_ble_eq_true rfl) d3_worthFrom_78 ⟨Nat.le_of_ble_eq_true rfl, Nat.le_of_ble_eq_true rfl⟩ (fun r hr => ?_)
          obtain ⟨v6, rfl, ⟨hq5_0, hq5_1, hq5_2⟩⟩ := hr
          have hf2 := hq5_1
          have hF : dF K step (81 * p + 9 * a + b) = v6 := by have := hq5_0; omega
          refine j_istore G d3_worthFrom_81 (by decide) rfl ?_
          refine j_iload_n G 5 rfl d3_worthFrom_83 ?_
          refine j_aload_n G 2 rfl d3_worthFrom_84 ?_
          refine j_get G 0 3 0 in3 fl3_16 d3_worthFrom_85 rfl rfl (by decide) (v := .ref ta) rfl rfl ?_
          refine j_iload_n G 3 rfl d3_worthFrom_88 ?_
          refine j_VP G (k7_comingAbove (xl Γ) E ta oa T ca pa da sa C P dr sr co K step (by first | assumption | omega | (simp only [upS, reduceIte, Nat.reduceEqDiff, eq_self, List.length_cons, List.length_nil, List.length_append] <;> omega)) (by first | assumption | omega | (simp only [upS, reduceIte, Nat.reduceEqDiff, eq_self, List.length_cons, List.length_nil, List.length_append] <;> omega))) mw7_comingAbove ml3_35 [2, 3, 4, 5, 6, 7] rfl 2 7 rfl rfl rfl ⟨Nat.le_of_ble_eq_true rfl, Nat.le_of_ble_eq_true rfl⟩ rfl (rest := [.int (iZ a)]) rfl (Nat.le_of_ble_eq_true rfl) d3_worthFrom_89 ⟨Nat.le_of_ble_eq_true rfl, Nat.le_of_ble_eq_true rfl⟩ (fun r hr => ?_)
          obtain ⟨v8, rfl, ⟨hq7_0, hq7_1, hq7_2⟩⟩ := hr
          have hca := hq7_0
          have hcb := hq7_1
          refine j_iadd G d3_worthFrom_92 ?_
          refine j_SP G (k3_waiting (xl Γ) E (a + v8) (by first | assumption | omega | (simp only [upS, reduceIte, Nat.reduceEqDiff, eq_self, List.length_cons, List.length_nil, List.length_append] <;> omega))) mw3_waiting ml3_39 [] rfl ⟨Nat.le_of_ble_eq_true rfl, Nat.le_of_ble_eq_true rfl⟩ rfl (rest := []) rfl (Nat.le_of_ble_eq_true rfl) d3_worthFrom_93 ⟨Nat.le_of_ble_eq_true rfl, Nat.le_of_ble_eq_true rfl⟩ (fun r hr => ?_)
          obtain ⟨v10, rfl, hq9⟩ := hr
          have hA : dA K step (81 * p + 9 * a + b) = v10 := by have := hq9; omega
          have hta := hq9
          refine j_istore G d3_worthFrom_96 (by decide) rfl ?_
          refine j_iload G 7 rfl d3_worthFrom_98 ?_
          refine j_aload_n G 3 rfl d3_worthFrom_100 ?_
          refine j_get G 0 3 0 in3 fl3_16 d3_worthFrom_101 rfl rfl (by decide) (v := .ref ta) rfl rfl ?_
          refine j_iload_n G 4 rfl d3_worthFrom_104 ?_
          refine j_VP G (k7_comingBelow (xl Γ) E ta oa T ca pa da sa C P dr sr co K step (by first | assumption | omega | (simp only [upS, reduceIte, Nat.reduceEqDiff, eq_self, List.length_cons, List.length_nil, List.length_append] <;> omega)) (by first | assumption | omega | (simp only [upS, reduceIte, Nat.reduceEqDiff, eq_self, List.length_cons, List.length_nil, List.length_append] <;> omega))) mw7_comingBelow ml3_42 [2, 3, 4, 5, 6, 7] rfl 2 7 rfl rfl rfl ⟨Nat.le_of_ble_eq_true rfl, Nat.le_of_ble_eq_true rfl⟩ rfl (rest := [.int (iZ b)]) rfl (Nat.le_of_ble_eq_true rfl) d3_worthFrom_105 ⟨Nat.le_of_ble_eq_true rfl, Nat.le_of_ble_eq_true rfl⟩ (fun r hr => ?_)
          obtain ⟨v12, rfl, ⟨hq11_0, hq11_1, hq11_2⟩⟩ := hr
          have hda := hq11_0
          have hdb := hq11_1
          refine j_iadd G d3_worthFrom_108 ?_
          refine j_SP G (k3_waiting (xl Γ) E (b + v12) (by first | assumption | omega | (simp only [upS, reduceIte, Nat.reduceEqDiff, eq_self, List.length_cons, List.length_nil, List.length_append] <;> omega))) mw3_waiting ml3_39 [] rfl ⟨Nat.le_of_ble_eq_true rfl, Nat.le_of_ble_eq_true rfl⟩ rfl (rest := []) rfl (Nat.le_of_ble_eq_true rfl) d3_worthFrom_109 ⟨Nat.le_of_ble_eq_true rfl, Nat.le_of_ble_eq_true rfl⟩ (fun r hr => ?_)
          obtain ⟨v14, rfl, hq13⟩ := hr
          have hB : dB K step (81 * p + 9 * a + b) = v14 := by have := hq13; omega
          have htb := hq13
          refine j_istore G d3_worthFrom_112 (by decide) rfl ?_
          refine j_aload_n G 4 rfl d3_worthFrom_114 ?_
          refine j_iload_n G 5 rfl d3_worthFrom_115 ?_
          refine j_iconst G d3_worthFrom_116 ?_
          refine j_iadd G d3_worthFrom_117 ?_
          refine j_iload G 2 rfl d3_worthFrom_118 ?_
          refine j_iload G 1 rfl d3_worthFrom_120 ?_
          refine j_iload G 0 rfl d3_worthFrom_122 ?_
          refine j_SM G (rm' := { frames := 8, cells := 0, slots := 0, locals := 215 }) (wc := [(la, o3 (some ta) (some ka) Q), (ka, aLng E 39852 kn), (ta, o7 (some ca) (some oa) T), (oa, aInt E 24 co), (ca, o1 (some pa) (some da) (some sa) C), (pa, aInt E 5 P), (da, aInt E 24 dr), (sa, aInt E 24 sr)]) (wr := []) (k3_worthFrom_3 (xl Γ) E la ka Q ta oa T ca pa da sa C P dr sr co K kn (step + 1) v6 v10 v14 (by first | assumption | omega | (simp only [upS, reduceIte, Nat.reduceEqDiff, eq_self, List.length_cons, List.length_nil, List.length_append] <;> omega)) (by first | assumption | omega | (simp only [upS, reduceIte, Nat.reduceEqDiff, eq_self, List.length_cons, List.length_nil, List.length_append] <;> omega)) (by first | assumption | omega | (simp only [upS, reduceIte, Nat.reduceEqDiff, eq_self, List.length_cons, List.length_nil, List.length_append] <;> omega)) (by first | assumption | omega | (simp only [upS, reduceIte, Nat.reduceEqDiff, eq_self, List.length_cons, List.length_nil, List.length_append] <;> omega)) (by first | assumption | omega | (simp only [upS, reduceIte, Nat.reduceEqDiff, eq_self, List.length_cons, List.length_nil, List.length_append] <;> omega)) (by first | assumption | omega | (simp only [upS, reduceIte, Nat.reduceEqDiff, eq_self, List.length_cons, List.length_nil, List.length_append] <;> omega)) (by first | assumption | omega | (simp only [upS, reduceIte, Nat.reduceEqDiff, eq_self, List.length_cons, List.length_nil, List.length_append] <;> omega))) mw3_worthFrom ml3_45 [0, 1, 2, 3, 4, 5, 6, 7] [] rfl rfl ⟨rfl, rfl⟩ (by decide) ⟨Nat.le_of_ble_eq_true rfl, Nat.le_of_ble_eq_true rfl⟩ rfl (rest := []) rfl (Nat.le_of_ble_eq_true rfl) d3_worthFrom_124 ⟨Nat.le_of_ble_eq_true rfl, Nat.le_of_ble_eq_true rfl⟩ (fun r w1 hr => ?_)
          obtain ⟨v16, kn1_17, rfl, rfl, ⟨hq15_0, hq15_1, hq15_2⟩⟩ := hr
          refine j_eq (ws' := [(la, o3 (some ta) (some ka) Q), (ka, aLng E 39852 kn1_17), (ta, o7 (some ca) (some oa) T), (oa, aInt E 24 co), (ca, o1 (some pa) (some da) (some sa) C), (pa, aInt E 5 P), (da, aInt E 24 dr), (sa, aInt E 24 sr)]) rfl rfl rfl ?_
          have hn0 : v16 = Vn K (Q 1) (step + 1) (dNow K step (81 * p + 9 * a + b)) := by rw [hq15_0]; congr 1; unfold dNow; omega
          have hn1 := hq15_1
          have hn2 := hq15_2
          refine j_istore G d3_worthFrom_127 (by decide) rfl ?_
          refine j_iload G 0 rfl d3_worthFrom_129 ?_
          refine j_aload_n G 5 rfl d3_worthFrom_131 ?_
          refine j_iload_n G 6 rfl d3_worthFrom_132 ?_
          refine j_iload G 3 rfl d3_worthFrom_133 ?_
          refine j_iload G 2 rfl d3_worthFrom_135 ?_
          refine j_iload G 1 rfl d3_worthFrom_137 ?_
          refine j_SM G (rm' := { frames := 9, cells := 0, slots := 0, locals := 245 }) (wc := [(la, o3 (some ta) (some ka) Q), (ka, aLng E 39852 kn1_17), (ta, o7 (some ca) (some oa) T), (oa, aInt E 24 co), (ca, o1 (some pa) (some da) (some sa) C), (pa, aInt E 5 P), (da, aInt E 24 dr), (sa, aInt E 24 sr)]) (wr := []) (k3_worthOfTrip_4 (xl Γ) E la ka Q ta oa T ca pa da sa C P dr sr co K kn1_17 step v6 v10 v14 (by first | assumption | omega | (simp only [upS, reduceIte, Nat.reduceEqDiff, eq_self, List.length_cons, List.length_nil, List.length_append] <;> omega)) (by first | assumption | omega | (simp only [upS, reduceIte, Nat.reduceEqDiff, eq_self, List.length_cons, List.length_nil, List.length_append] <;> omega)) (by first | assumption | omega | (simp only [upS, reduceIte, Nat.reduceEqDiff, eq_self, List.length_cons, List.length_nil, List.length_append] <;> omega)) (by first | assumption | omega | (simp only [upS, reduceIte, Nat.reduceEqDiff, eq_self, List.length_cons, List.length_nil, List.length_append] <;> omega)) (by first | assumption | omega | (simp only [upS, reduceIte, Nat.reduceEqDiff, eq_self, List.length_cons, List.length_nil, List.length_append] <;> omega)) (by first | assumption | omega | (simp only [upS, reduceIte, Nat.reduceEqDiff, eq_self, List.length_cons, List.length_nil, List.length_append] <;> omega)) (by first | assumption | omega | (simp only [upS, reduceIte, Nat.reduceEqDiff, eq_self, List.length_cons, List.length_nil, List.length_append] <;> omega))) mw3_worthOfTrip ml3_49 [0, 1, 2, 3, 4, 5, 6, 7] [] rfl rfl ⟨rfl, rfl⟩ (by decide) ⟨Nat.le_of_ble_eq_true rfl, Nat.le_of_ble_eq_true rfl⟩ rfl (rest := [.int (iZ v16)]) rfl (Nat.le_of_ble_eq_true rfl) d3_worthFrom_139 ⟨Nat.le_of_ble_eq_true rfl, Nat.le_of_ble_eq_true rfl⟩ (fun r w1 hr => ?_)
          obtain ⟨v19, kn1_20, rfl, rfl, ⟨hq18_0, hq18_1, hq18_2⟩⟩ := hr
          refine j_eq (ws' := [(la, o3 (some ta) (some ka) Q), (ka, aLng E 39852 kn1_20), (ta, o7 (some ca) (some oa) T), (oa, aInt E 24 co), (ca, o1 (some pa) (some da) (some sa) C), (pa, aInt E 5 P), (da, aInt E 24 dr), (sa, aInt E 24 sr)]) rfl rfl rfl ?_
          have ht0 : v19 = tpF K (Q 1) step (dF K step (81 * p + 9 * a + b)) (dA K step (81 * p + 9 * a + b)) (dB K step (81 * p + 9 * a + b)) := by rw [hF, hA, hB]; exact hq18_0
          have ht1 := hq18_1
          have ht2 := hq18_2
          refine j_mmax G ml3_52 (by omega) (by omega) ⟨Nat.le_of_ble_eq_true rfl, Nat.le_of_ble_eq_true rfl⟩ ⟨Nat.le_of_ble_eq_true rfl, Nat.le_of_ble_eq_true rfl⟩ d3_worthFrom_142 ?_
          have hmx := vn_max tok hs11 (by omega) hsp.1 hn0 ht0
          have hmr := Vn_r tok hsp.1 (s := step) (st := (81 * p + 9 * a + b)) (by omega) (by omega)
          refine j_istore G d3_worthFrom_145 (by decide) rfl ?_
          refine j_aload_n G 6 rfl d3_worthFrom_147 ?_
          refine j_get G 0 3 3 in3 fl3_12 d3_worthFrom_148 rfl rfl (by decide) (v := .ref ka) rfl rfl ?_
          refine j_iload G 5 rfl d3_worthFrom_151 ?_
          refine j_aload_n G 6 rfl d3_worthFrom_153 ?_
          refine j_get G 0 3 2 in3 fl3_24 d3_worthFrom_154 rfl rfl (by decide) (v := .long (lZ (Q 2))) rfl rfl ?_
          refine j_bipush G d3_worthFrom_157 rfl ?_
          refine r_lshl G d3_worthFrom_159 ?_
          refine j_topl (y := (lZ (Q 2 * 1048576))) (kn_sh (by omega) (by omega)) ?_
          refine j_iload G 0 rfl d3_worthFrom_160 ?_
          refine j_i2l G d3_worthFrom_162 (by omega) ?_
          refine r_lor G d3_worthFrom_163 ?_
          refine j_topl (y := (lZ (Q 2 * 1048576 + (max v16 v19)))) (kn_or (by omega) (by omega) (by omega) (by omega)) ?_
          refine j_last G 1 rfl (by omega) d3_worthFrom_164 ?_
          refine j_iload G 0 rfl d3_worthFrom_165 ?_
          exact j_iret G F d3_worthFrom_167 ⟨max v16 v19, (upI kn1_20 pl (Q 2 * 1048576 + (max v16 v19))), rfl, rfl, (by exact ⟨hmx, KnK.up ht1 hj.1 hj.2 (by rw [hje.1, hje.2]; exact hmx) (by omega), by omega⟩)⟩
        ·
          have h4 : ¬ ((kn pl / 1048576) ≠ (Q 2)) := by
            revert h4; split <;> (try split) <;> intro h4 <;> omega
          have hvv := hkj.2 (by omega)
          rw [hje.1, hje.2] at hvv
          have hvr := Vn_r tok hsp.1 (s := step) (st := (81 * p + 9 * a + b)) (by omega) (by omega)
          refine j_aload_n G 1 rfl d3_worthFrom_60 ?_
          refine j_get G 0 3 3 in3 fl3_12 d3_worthFrom_61 rfl rfl (by decide) (v := .ref ka) rfl rfl ?_
          refine j_iload G 0 rfl d3_worthFrom_64 ?_
          refine j_lald G 1 rfl (by omega) d3_worthFrom_66 ?_
          refine j_l2i G d3_worthFrom_67 ?_
          refine j_ldc G 1048575 ct3_28 (by decide) d3_worthFrom_68 ?_
          refine r_iand G d3_worthFrom_70 ?_
          refine j_top (y := (iZ (kn pl % 1048576))) (kn_lo (by omega) (by omega)) ?_
          exact j_iret G F d3_worthFrom_71 ⟨kn pl % 1048576, kn, rfl, rfl, (by exact ⟨hvv, hkn, by omega⟩)⟩
      ·
        exact absurd h3 (by omega)
set_option maxHeartbeats 4000000 in
set_option maxRecDepth 100000 in
theorem k3_worthOfTrip_5 (l : Launch) (E : En) (la : Nat) (ka : Nat) (Q : Nat → Int) (ta : Nat) (oa : Nat) (T : Nat → Int) (ca : Nat) (pa : Nat) (da : Nat) (sa : Nat) (C : Nat → Int) (P : Int → Int) (dr : Int → Int) (sr : Int → Int) (co : Int → Int) (K : Dy) (kn : Int → Int) (step : Int) (p : Int) (a : Int) (b : Int) (htm : TmK K T C P dr sr co) (hkn : KnK K (Q 1) (Q 2) kn) (hsp : 0 ≤ Q 1 ∧ Q 1 ≤ 20) (hst : 7 ≤ step ∧ step ≤ 11) (hp : 0 ≤ p ∧ p ≤ 40) (ha : 0 ≤ a ∧ a ≤ 8) (hb : 0 ≤ b ∧ b ≤ 8) : Cm l E y3_worthOfTrip c3_worthOfTrip 8 (some .int) { frames := 11, cells := 0, slots := 0, locals := 302 } [.ref la, .int (iZ step), .int (iZ p), .int (iZ a), .int (iZ b)] [(la, o3 (some ta) (some ka) Q), (ka, aLng E 39852 kn), (ta, o7 (some ca) (some oa) T), (oa, aInt E 24 co), (ca, o1 (some pa) (some da) (some sa) C), (pa, aInt E 5 P), (da, aInt E 24 dr), (sa, aInt E 24 sr)] (fun r ws => ∃ (v : Int), ∃ (kn1 : Int → Int), r = some (.int (iZ v)) ∧ ws = [(la, o3 (some ta) (some ka) Q), (ka, aLng E 39852 kn1), (ta, o7 (some ca) (some oa) T), (oa, aInt E 24 co), (ca, o1 (some pa) (some da) (some sa) C), (pa, aInt E 5 P), (da, aInt E 24 dr), (sa, aInt E 24 sr)] ∧ (v = tpF K (Q 1) step p a b ∧ KnK K (Q 1) (Q 2) kn1 ∧ (v = -99999 ∨ (0 ≤ v ∧ v ≤ 8000)))) := by
  refine Cm.of (by decide +kernel) (Nat.le_of_ble_eq_true rfl) (fun Γ A hl hargs hin G F => ?_)
  subst hl
  have tok := htm.2.1
  have tse := tok.2.1
  refine j_aload_n G 0 rfl d3_worthOfTrip_0 ?_
  refine j_get G 0 3 0 in3 fl3_16 d3_worthOfTrip_1 rfl rfl (by decide) (v := .ref ta) rfl rfl ?_
  refine j_iload_n G 3 rfl d3_worthOfTrip_4 ?_
  refine j_VP G (k7_seated (xl Γ) E ta oa T ca pa da sa C P dr sr co K a (by first | assumption | omega | (simp only [upS, reduceIte, Nat.reduceEqDiff, eq_self, List.length_cons, List.length_nil, List.length_append] <;> omega)) (by first | assumption | omega | (simp only [upS, reduceIte, Nat.reduceEqDiff, eq_self, List.length_cons, List.length_nil, List.length_append] <;> omega))) mw7_seated ml3_57 [2, 3, 4, 5, 6, 7] rfl 2 7 rfl rfl rfl ⟨Nat.le_of_ble_eq_true rfl, Nat.le_of_ble_eq_true rfl⟩ rfl (rest := []) rfl (Nat.le_of_ble_eq_true rfl) d3_worthOfTrip_5 ⟨Nat.le_of_ble_eq_true rfl, Nat.le_of_ble_eq_true rfl⟩ (fun r hr => ?_)
  obtain ⟨v2, rfl, ⟨hq1_0, hq1_1, hq1_2, hq1_3, hq1_4⟩⟩ := hr
  have hd0 := hq1_0
  have hd1 := hq1_1
  have hd2 := hq1_2
  have hd3 := hq1_3
  have hd4 := hq1_4
  refine j_istore G d3_worthOfTrip_8 (by decide) rfl ?_
  refine j_aload_n G 1 rfl d3_worthOfTrip_10 ?_
  refine j_get G 0 3 0 in3 fl3_16 d3_worthOfTrip_11 rfl rfl (by decide) (v := .ref ta) rfl rfl ?_
  refine j_iload G 5 rfl d3_worthOfTrip_14 ?_
  refine j_VP G (k7_seated (xl Γ) E ta oa T ca pa da sa C P dr sr co K b (by first | assumption | omega | (simp only [upS, reduceIte, Nat.reduceEqDiff, eq_self, List.length_cons, List.length_nil, List.length_append] <;> omega)) (by first | assumption | omega | (simp only [upS, reduceIte, Nat.reduceEqDiff, eq_self, List.length_cons, List.length_nil, List.length_append] <;> omega))) mw7_seated ml3_57 [2, 3, 4, 5, 6, 7] rfl 2 7 rfl rfl rfl ⟨Nat.le_of_ble_eq_true rfl, Nat.le_of_ble_eq_true rfl⟩ rfl (rest := []) rfl (Nat.le_of_ble_eq_true rfl) d3_worthOfTrip_16 ⟨Nat.le_of_ble_eq_true rfl, Nat.le_of_ble_eq_true rfl⟩ (fun r hr => ?_)
  obtain ⟨v4, rfl, ⟨hq3_0, hq3_1, hq3_2, hq3_3, hq3_4⟩⟩ := hr
  have hu0 := hq3_0
  have hu1 := hq3_1
  have hu2 := hq3_2
  have hu3 := hq3_3
  have hu4 := hq3_4
  refine j_istore G d3_worthOfTrip_19 (by decide) rfl ?_
  refine j_aload_n G 2 rfl d3_worthOfTrip_21 ?_
  refine j_get G 0 3 0 in3 fl3_16 d3_worthOfTrip_22 rfl rfl (by decide) (v := .ref ta) rfl rfl ?_
  refine j_iload_n G 3 rfl d3_worthOfTrip_25 ?_
  refine j_iload G 1 rfl d3_worthOfTrip_26 ?_
  refine j_iload G 0 rfl d3_worthOfTrip_28 ?_
  refine j_VP G (k7_leastFor (xl Γ) E ta oa T ca pa da sa C P dr sr co K step v2 v4 (by first | assumption | omega | (simp only [upS, reduceIte, Nat.reduceEqDiff, eq_self, List.length_cons, List.length_nil, List.length_append] <;> omega)) (by first | assumption | omega | (simp only [upS, reduceIte, Nat.reduceEqDiff, eq_self, List.length_cons, List.length_nil, List.length_append] <;> omega)) (by first | assumption | omega | (simp only [upS, reduceIte, Nat.reduceEqDiff, eq_self, List.length_cons, List.length_nil, List.length_append] <;> omega)) (by first | assumption | omega | (simp only [upS, reduceIte, Nat.reduceEqDiff, eq_self, List.length_cons, List.length_nil, List.length_append] <;> omega))) mw7_leastFor ml3_60 [2, 3, 4, 5, 6, 7] rfl 2 7 rfl rfl rfl ⟨Nat.le_of_ble_eq_true rfl, Nat.le_of_ble_eq_true rfl⟩ rfl (rest := []) rfl (Nat.le_of_ble_eq_true rfl) d3_worthOfTrip_30 ⟨Nat.le_of_ble_eq_true rfl, Nat.le_of_ble_eq_true rfl⟩ (fun r hr => ?_)
  obtain ⟨v6, rfl, ⟨hq5_0, hq5_1⟩⟩ := hr
  have hw0 := hq5_0
  have hw1 := hq5_1
  refine j_istore G d3_worthOfTrip_33 (by decide) rfl ?_
  refine j_iload G 2 rfl d3_worthOfTrip_35 ?_
  refine j_iload G 1 rfl d3_worthOfTrip_37 ?_
  refine j_iadd G d3_worthOfTrip_39 ?_
  refine j_if_eq (tgt := 61) G d3_worthOfTrip_40 (by decide) (by omega) (fun h7 => ?_) (fun h7 => ?_)
  ·
    refine j_ldc G (-99999) ct3_64 (by decide) d3_worthOfTrip_61 ?_
    exact j_iret G F d3_worthOfTrip_63 ⟨(-99999), kn, rfl, rfl, (by refine ⟨?_, hkn, Or.inl rfl⟩; unfold tpF; rw [← hd0, ← hu0, ← hw0, if_pos (by omega)])⟩
  ·
    refine j_iload G 0 rfl d3_worthOfTrip_43 ?_
    refine j_bipush G d3_worthOfTrip_45 rfl ?_
    refine j_icmp_eq (tgt := 61) G d3_worthOfTrip_47 (by decide) (by omega) (by decide) (fun h8 => ?_) (fun h8 => ?_)
    ·
      refine j_ldc G (-99999) ct3_64 (by decide) d3_worthOfTrip_61 ?_
      exact j_iret G F d3_worthOfTrip_63 ⟨(-99999), kn, rfl, rfl, (by refine ⟨?_, hkn, Or.inl rfl⟩; unfold tpF; rw [← hd0, ← hu0, ← hw0, if_pos (by omega)])⟩
    ·
      refine j_iload_n G 5 rfl d3_worthOfTrip_50 ?_
      refine j_iload G 0 rfl d3_worthOfTrip_51 ?_
      refine j_isub G d3_worthOfTrip_53 ?_
      refine j_aload_n G 3 rfl d3_worthOfTrip_54 ?_
      refine j_get G 0 3 1 in3 fl3_20 d3_worthOfTrip_55 rfl rfl (by decide) (v := .int (iZ (Q 1))) rfl rfl ?_
      refine j_icmp_ge (tgt := 64) G d3_worthOfTrip_58 (by decide) (by omega) (by omega) (fun h9 => ?_) (fun h9 => ?_)
      ·
        refine j_bipush G d3_worthOfTrip_64 rfl ?_
        refine j_iload G 1 rfl d3_worthOfTrip_66 ?_
        refine j_imul G d3_worthOfTrip_68 ?_
        refine j_aload_n G 3 rfl d3_worthOfTrip_69 ?_
        refine j_iload_n G 4 rfl d3_worthOfTrip_70 ?_
        refine j_iconst G d3_worthOfTrip_71 ?_
        refine j_iadd G d3_worthOfTrip_72 ?_
        refine j_iload_n G 5 rfl d3_worthOfTrip_73 ?_
        refine j_iload G 0 rfl d3_worthOfTrip_74 ?_
        refine j_isub G d3_worthOfTrip_76 ?_
        refine j_iload_n G 6 rfl d3_worthOfTrip_77 ?_
        refine j_iload G 2 rfl d3_worthOfTrip_78 ?_
        refine j_isub G d3_worthOfTrip_80 ?_
        refine j_iload G 7 rfl d3_worthOfTrip_81 ?_
        refine j_iload G 1 rfl d3_worthOfTrip_83 ?_
        refine j_isub G d3_worthOfTrip_85 ?_
        refine j_SM G (rm' := { frames := 10, cells := 0, slots := 0, locals := 272 }) (wc := [(la, o3 (some ta) (some ka) Q), (ka, aLng E 39852 kn), (ta, o7 (some ca) (some oa) T), (oa, aInt E 24 co), (ca, o1 (some pa) (some da) (some sa) C), (pa, aInt E 5 P), (da, aInt E 24 dr), (sa, aInt E 24 sr)]) (wr := []) (k3_worthFrom_4 (xl Γ) E la ka Q ta oa T ca pa da sa C P dr sr co K kn (step + 1) (p - v6) (a - v2) (b - v4) (by first | assumption | omega | (simp only [upS, reduceIte, Nat.reduceEqDiff, eq_self, List.length_cons, List.length_nil, List.length_append] <;> omega)) (by first | assumption | omega | (simp only [upS, reduceIte, Nat.reduceEqDiff, eq_self, List.length_cons, List.length_nil, List.length_append] <;> omega)) (by first | assumption | omega | (simp only [upS, reduceIte, Nat.reduceEqDiff, eq_self, List.length_cons, List.length_nil, List.length_append] <;> omega)) (by first | assumption | omega | (simp only [upS, reduceIte, Nat.reduceEqDiff, eq_self, List.length_cons, List.length_nil, List.length_append] <;> omega)) (by first | assumption | omega | (simp only [upS, reduceIte, Nat.reduceEqDiff, eq_self, List.length_cons, List.length_nil, List.length_append] <;> omega)) (by first | assumption | omega | (simp only [upS, reduceIte, Nat.reduceEqDiff, eq_self, List.length_cons, List.length_nil, List.length_append] <;> omega)) (by first | assumption | omega | (simp only [upS, reduceIte, Nat.reduceEqDiff, eq_self, List.length_cons, List.length_nil, List.length_append] <;> omega))) mw3_worthFrom ml3_45 [0, 1, 2, 3, 4, 5, 6, 7] [] rfl rfl ⟨rfl, rfl⟩ (by decide) ⟨Nat.le_of_ble_eq_true rfl, Nat.le_of_ble_eq_true rfl⟩ rfl (rest := [.int (iZ (100 * v4))]) rfl (Nat.le_of_ble_eq_true rfl) d3_worthOfTrip_86 ⟨Nat.le_of_ble_eq_true rfl, Nat.le_of_ble_eq_true rfl⟩ (fun r w1 hr => ?_)
        obtain ⟨v11, kn1_12, rfl, rfl, ⟨hq10_0, hq10_1, hq10_2⟩⟩ := hr
        refine j_eq (ws' := [(la, o3 (some ta) (some ka) Q), (ka, aLng E 39852 kn1_12), (ta, o7 (some ca) (some oa) T), (oa, aInt E 24 co), (ca, o1 (some pa) (some da) (some sa) C), (pa, aInt E 5 P), (da, aInt E 24 dr), (sa, aInt E 24 sr)]) rfl rfl rfl ?_
        have hn0 := hq10_0
        have hn1 := hq10_1
        have hn2 := hq10_2
        refine j_iadd G d3_worthOfTrip_89 ?_
        exact j_iret G F d3_worthOfTrip_90 ⟨(100 * v4) + v11, kn1_12, rfl, rfl, (by refine ⟨?_, hn1, by omega⟩; unfold tpF; rw [← hd0, ← hu0, ← hw0, if_neg (by omega), hn0])⟩
      ·
        refine j_ldc G (-99999) ct3_64 (by decide) d3_worthOfTrip_61 ?_
        exact j_iret G F d3_worthOfTrip_63 ⟨(-99999), kn, rfl, rfl, (by refine ⟨?_, hkn, Or.inl rfl⟩; unfold tpF; rw [← hd0, ← hu0, ← hw0, if_pos (by omega)])⟩
set_option maxHeartbeats 4000000 in
set_option maxRecDepth 100000 in
theorem k3_worthFrom_5 (l : Launch) (E : En) (la : Nat) (ka : Nat) (Q : Nat → Int) (ta : Nat) (oa : Nat) (T : Nat → Int) (ca : Nat) (pa : Nat) (da : Nat) (sa : Nat) (C : Nat → Int) (P : Int → Int) (dr : Int → Int) (sr : Int → Int) (co : Int → Int) (K : Dy) (kn : Int → Int) (step : Int) (p : Int) (a : Int) (b : Int) (htm : TmK K T C P dr sr co) (hkn : KnK K (Q 1) (Q 2) kn) (hsp : 0 ≤ Q 1 ∧ Q 1 ≤ 20) (hst : 7 ≤ step ∧ step ≤ 12) (hp : 0 ≤ p ∧ p ≤ 40) (ha : 0 ≤ a ∧ a ≤ 8) (hb : 0 ≤ b ∧ b ≤ 8) : Cm l E y3_worthFrom c3_worthFrom 11 (some .int) { frames := 12, cells := 0, slots := 0, locals := 329 } [.ref la, .int (iZ step), .int (iZ p), .int (iZ a), .int (iZ b)] [(la, o3 (some ta) (some ka) Q), (ka, aLng E 39852 kn), (ta, o7 (some ca) (some oa) T), (oa, aInt E 24 co), (ca, o1 (some pa) (some da) (some sa) C), (pa, aInt E 5 P), (da, aInt E 24 dr), (sa, aInt E 24 sr)] (fun r ws => ∃ (v : Int), ∃ (kn1 : Int → Int), r = some (.int (iZ v)) ∧ ws = [(la, o3 (some ta) (some ka) Q), (ka, aLng E 39852 kn1), (ta, o7 (some ca) (some oa) T), (oa, aInt E 24 co), (ca, o1 (some pa) (some da) (some sa) C), (pa, aInt E 5 P), (da, aInt E 24 dr), (sa, aInt E 24 sr)] ∧ (v = Vn K (Q 1) step (81 * p + 9 * a + b) ∧ KnK K (Q 1) (Q 2) kn1 ∧ (0 ≤ v ∧ v ≤ 7240))) := by
  refine Cm.of (by decide +kernel) (Nat.le_of_ble_eq_true rfl) (fun Γ A hl hargs hin G F => ?_)
  subst hl
  have tok := htm.2.1
  refine j_iload_n G 1 rfl d3_worthFrom_0 ?_
  refine j_bipush G d3_worthFrom_1 rfl ?_
  refine j_imul G d3_worthFrom_3 ?_
  refine j_iload_n G 2 rfl d3_worthFrom_4 ?_
  refine j_iadd G d3_worthFrom_5 ?_
  refine j_bipush G d3_worthFrom_6 rfl ?_
  refine j_imul G d3_worthFrom_8 ?_
  refine j_iload_n G 3 rfl d3_worthFrom_9 ?_
  refine j_iadd G d3_worthFrom_10 ?_
  refine j_bipush G d3_worthFrom_11 rfl ?_
  refine j_imul G d3_worthFrom_13 ?_
  refine j_iload G 4 rfl d3_worthFrom_14 ?_
  refine j_iadd G d3_worthFrom_16 ?_
  refine j_nm (fun pl epl => ?_)
  refine j_istore G d3_worthFrom_17 (by decide) rfl ?_
  refine j_iload_n G 2 rfl d3_worthFrom_19 ?_
  have hpl : pl = 3321 * step + (81 * p + 9 * a + b) := by omega
  refine j_bipush G d3_worthFrom_20 rfl ?_
  refine j_icmp_ge (tgt := 40) G d3_worthFrom_22 (by decide) (by omega) (by decide) (fun h1 => ?_) (fun h1 => ?_)
  ·
    have he : step = 12 := by omega
    refine j_iload_n G 3 rfl d3_worthFrom_40 ?_
    exact j_iret G F d3_worthFrom_41 ⟨p, kn, rfl, rfl, (by refine ⟨?_, hkn, by omega⟩; rw [he, Vn_e]; omega)⟩
  ·
    have hj : 0 ≤ pl ∧ pl < 39852 := by omega
    have hs11 : 0 ≤ step ∧ step ≤ 11 := by omega
    have hnw := st_now (K := K) (s := step) (p := p) ha hb
    have hdr := dR tok hs11 (st := (81 * p + 9 * a + b)) (by omega)
    have hnr := dNow_r tok hs11 (st := (81 * p + 9 * a + b)) (by omega)
    refine j_iload G 0 rfl d3_worthFrom_25 ?_
    refine j_if_lt (tgt := 40) G d3_worthFrom_27 (by decide) (by omega) (fun h2 => ?_) (fun h2 => ?_)
    ·
      exact absurd h2 (by omega)
    ·
      refine j_iload G 0 rfl d3_worthFrom_30 ?_
      refine j_aload_n G 1 rfl d3_worthFrom_32 ?_
      refine j_get G 0 3 3 in3 fl3_12 d3_worthFrom_33 rfl rfl (by decide) (v := .ref ka) rfl rfl ?_
      refine j_alenL G 1 rfl d3_worthFrom_36 ?_
      refine j_icmp_lt (tgt := 42) G d3_worthFrom_37 (by decide) (by omega) (by decide) (fun h3 => ?_) (fun h3 => ?_)
      ·
        have hje : pl / 3321 = step ∧ pl % 3321 = (81 * p + 9 * a + b) := by omega
        have hkj := hkn.2 pl hj.1 hj.2
        have hed := hkn.1
        refine j_aload_n G 1 rfl d3_worthFrom_42 ?_
        refine j_get G 0 3 3 in3 fl3_12 d3_worthFrom_43 rfl rfl (by decide) (v := .ref ka) rfl rfl ?_
        refine j_iload G 0 rfl d3_worthFrom_46 ?_
        refine j_lald G 1 rfl (by omega) d3_worthFrom_48 ?_
        refine j_bipush G d3_worthFrom_49 rfl ?_
        refine r_lshr G d3_worthFrom_51 ?_
        refine j_topl (y := (lZ (kn pl / 1048576))) (kn_hi (by omega) (by omega)) ?_
        refine j_aload_n G 1 rfl d3_worthFrom_52 ?_
        refine j_get G 0 3 2 in3 fl3_24 d3_worthFrom_53 rfl rfl (by decide) (v := .long (lZ (Q 2))) rfl rfl ?_
        refine j_lcmp G d3_worthFrom_56 (by omega) (by omega) ?_
        refine j_if_ne (tgt := 72) G d3_worthFrom_57 (by decide) (by split <;> first | decide | (split <;> decide)) (fun h4 => ?_) (fun h4 => ?_)
        ·
          have h4 : (kn pl / 1048576) ≠ (Q 2) := by
            revert h4; split <;> (try split) <;> intro h4 <;> omega
          refine j_aload_n G 1 rfl d3_worthFrom_72 ?_
          refine j_get G 0 3 0 in3 fl3_16 d3_worthFrom_73 rfl rfl (by decide) (v := .ref ta) rfl rfl ?_
          refine j_iload_n G 2 rfl d3_worthFrom_76 ?_
          refine j_iload_n G 3 rfl d3_worthFrom_77 ?_
          refine j_VP G (k7_pondWithSpring (xl Γ) E ta oa T ca pa da sa C P dr sr co K step p (by first | assumption | omega | (simp only [upS, reduceIte, Nat.reduceEqDiff, eq_self, List.length_cons, List.length_nil, List.length_append] <;> omega)) (by first | assumption | omega | (simp only [upS, reduceIte, Nat.reduceEqDiff, eq_self, List.length_cons, List.length_nil, List.length_append] <;> omega)) (by first | assumption | omega | (simp only [upS, reduceIte, Nat.reduceEqDiff, eq_self, List.length_cons, List.length_nil, List.length_append] <;> omega))) mw7_pondWithSpring ml3_29 [2, 3, 4, 5, 6, 7] rfl 2 7 rfl rfl rfl ⟨Nat.le_of_ble_eq_true rfl, Nat.le_of_ble_eq_true rfl⟩ rfl (rest := []) rfl (Nat.le_of_ble_eq_true rfl) d3_worthFrom_78 ⟨Nat.le_of_ble_eq_true rfl, Nat.le_of_ble_eq_true rfl⟩ (fun r hr => ?_)
          obtain ⟨v6, rfl, ⟨hq5_0, hq5_1, hq5_2⟩⟩ := hr
          have hf2 := hq5_1
          have hF : dF K step (81 * p + 9 * a + b) = v6 := by have := hq5_0; omega
          refine j_istore G d3_worthFrom_81 (by decide) rfl ?_
          refine j_iload_n G 5 rfl d3_worthFrom_83 ?_
          refine j_aload_n G 2 rfl d3_worthFrom_84 ?_
          refine j_get G 0 3 0 in3 fl3_16 d3_worthFrom_85 rfl rfl (by decide) (v := .ref ta) rfl rfl ?_
          refine j_iload_n G 3 rfl d3_worthFrom_88 ?_
          refine j_VP G (k7_comingAbove (xl Γ) E ta oa T ca pa da sa C P dr sr co K step (by first | assumption | omega | (simp only [upS, reduceIte, Nat.reduceEqDiff, eq_self, List.length_cons, List.length_nil, List.length_append] <;> omega)) (by first | assumption | omega | (simp only [upS, reduceIte, Nat.reduceEqDiff, eq_self, List.length_cons, List.length_nil, List.length_append] <;> omega))) mw7_comingAbove ml3_35 [2, 3, 4, 5, 6, 7] rfl 2 7 rfl rfl rfl ⟨Nat.le_of_ble_eq_true rfl, Nat.le_of_ble_eq_true rfl⟩ rfl (rest := [.int (iZ a)]) rfl (Nat.le_of_ble_eq_true rfl) d3_worthFrom_89 ⟨Nat.le_of_ble_eq_true rfl, Nat.le_of_ble_eq_true rfl⟩ (fun r hr => ?_)
          obtain ⟨v8, rfl, ⟨hq7_0, hq7_1, hq7_2⟩⟩ := hr
          have hca := hq7_0
          have hcb := hq7_1
          refine j_iadd G d3_worthFrom_92 ?_
          refine j_SP G (k3_waiting (xl Γ) E (a + v8) (by first | assumption | omega | (simp only [upS, reduceIte, Nat.reduceEqDiff, eq_self, List.length_cons, List.length_nil, List.length_append] <;> omega))) mw3_waiting ml3_39 [] rfl ⟨Nat.le_of_ble_eq_true rfl, Nat.le_of_ble_eq_true rfl⟩ rfl (rest := []) rfl (Nat.le_of_ble_eq_true rfl) d3_worthFrom_93 ⟨Nat.le_of_ble_eq_true rfl, Nat.le_of_ble_eq_true rfl⟩ (fun r hr => ?_)
          obtain ⟨v10, rfl, hq9⟩ := hr
          have hA : dA K step (81 * p + 9 * a + b) = v10 := by have := hq9; omega
          have hta := hq9
          refine j_istore G d3_worthFrom_96 (by decide) rfl ?_
          refine j_iload G 7 rfl d3_worthFrom_98 ?_
          refine j_aload_n G 3 rfl d3_worthFrom_100 ?_
          refine j_get G 0 3 0 in3 fl3_16 d3_worthFrom_101 rfl rfl (by decide) (v := .ref ta) rfl rfl ?_
          refine j_iload_n G 4 rfl d3_worthFrom_104 ?_
          refine j_VP G (k7_comingBelow (xl Γ) E ta oa T ca pa da sa C P dr sr co K step (by first | assumption | omega | (simp only [upS, reduceIte, Nat.reduceEqDiff, eq_self, List.length_cons, List.length_nil, List.length_append] <;> omega)) (by first | assumption | omega | (simp only [upS, reduceIte, Nat.reduceEqDiff, eq_self, List.length_cons, List.length_nil, List.length_append] <;> omega))) mw7_comingBelow ml3_42 [2, 3, 4, 5, 6, 7] rfl 2 7 rfl rfl rfl ⟨Nat.le_of_ble_eq_true rfl, Nat.le_of_ble_eq_true rfl⟩ rfl (rest := [.int (iZ b)]) rfl (Nat.le_of_ble_eq_true rfl) d3_worthFrom_105 ⟨Nat.le_of_ble_eq_true rfl, Nat.le_of_ble_eq_true rfl⟩ (fun r hr => ?_)
          obtain ⟨v12, rfl, ⟨hq11_0, hq11_1, hq11_2⟩⟩ := hr
          have hda := hq11_0
          have hdb := hq11_1
          refine j_iadd G d3_worthFrom_108 ?_
          refine j_SP G (k3_waiting (xl Γ) E (b + v12) (by first | assumption | omega | (simp only [upS, reduceIte, Nat.reduceEqDiff, eq_self, List.length_cons, List.length_nil, List.length_append] <;> omega))) mw3_waiting ml3_39 [] rfl ⟨Nat.le_of_ble_eq_true rfl, Nat.le_of_ble_eq_true rfl⟩ rfl (rest := []) rfl (Nat.le_of_ble_eq_true rfl) d3_worthFrom_109 ⟨Nat.le_of_ble_eq_true rfl, Nat.le_of_ble_eq_true rfl⟩ (fun r hr => ?_)
          obtain ⟨v14, rfl, hq13⟩ := hr
          have hB : dB K step (81 * p + 9 * a + b) = v14 := by have := hq13; omega
          have htb := hq13
          refine j_istore G d3_worthFrom_112 (by decide) rfl ?_
          refine j_aload_n G 4 rfl d3_worthFrom_114 ?_
          refine j_iload_n G 5 rfl d3_worthFrom_115 ?_
          refine j_iconst G d3_worthFrom_116 ?_
          refine j_iadd G d3_worthFrom_117 ?_
          refine j_iload G 2 rfl d3_worthFrom_118 ?_
          refine j_iload G 1 rfl d3_worthFrom_120 ?_
          refine j_iload G 0 rfl d3_worthFrom_122 ?_
          refine j_SM G (rm' := { frames := 10, cells := 0, slots := 0, locals := 272 }) (wc := [(la, o3 (some ta) (some ka) Q), (ka, aLng E 39852 kn), (ta, o7 (some ca) (some oa) T), (oa, aInt E 24 co), (ca, o1 (some pa) (some da) (some sa) C), (pa, aInt E 5 P), (da, aInt E 24 dr), (sa, aInt E 24 sr)]) (wr := []) (k3_worthFrom_4 (xl Γ) E la ka Q ta oa T ca pa da sa C P dr sr co K kn (step + 1) v6 v10 v14 (by first | assumption | omega | (simp only [upS, reduceIte, Nat.reduceEqDiff, eq_self, List.length_cons, List.length_nil, List.length_append] <;> omega)) (by first | assumption | omega | (simp only [upS, reduceIte, Nat.reduceEqDiff, eq_self, List.length_cons, List.length_nil, List.length_append] <;> omega)) (by first | assumption | omega | (simp only [upS, reduceIte, Nat.reduceEqDiff, eq_self, List.length_cons, List.length_nil, List.length_append] <;> omega)) (by first | assumption | omega | (simp only [upS, reduceIte, Nat.reduceEqDiff, eq_self, List.length_cons, List.length_nil, List.length_append] <;> omega)) (by first | assumption | omega | (simp only [upS, reduceIte, Nat.reduceEqDiff, eq_self, List.length_cons, List.length_nil, List.length_append] <;> omega)) (by first | assumption | omega | (simp only [upS, reduceIte, Nat.reduceEqDiff, eq_self, List.length_cons, List.length_nil, List.length_append] <;> omega)) (by first | assumption | omega | (simp only [upS, reduceIte, Nat.reduceEqDiff, eq_self, List.length_cons, List.length_nil, List.length_append] <;> omega))) mw3_worthFrom ml3_45 [0, 1, 2, 3, 4, 5, 6, 7] [] rfl rfl ⟨rfl, rfl⟩ (by decide) ⟨Nat.le_of_ble_eq_true rfl, Nat.le_of_ble_eq_true rfl⟩ rfl (rest := []) rfl (Nat.le_of_ble_eq_true rfl) d3_worthFrom_124 ⟨Nat.le_of_ble_eq_true rfl, Nat.le_of_ble_eq_true rfl⟩ (fun r w1 hr => ?_)
          obtain ⟨v16, kn1_17, rfl, rfl, ⟨hq15_0, hq15_1, hq15_2⟩⟩ := hr
          refine j_eq (ws' := [(la, o3 (some ta) (some ka) Q), (ka, aLng E 39852 kn1_17), (ta, o7 (some ca) (some oa) T), (oa, aInt E 24 co), (ca, o1 (some pa) (some da) (some sa) C), (pa, aInt E 5 P), (da, aInt E 24 dr), (sa, aInt E 24 sr)]) rfl rfl rfl ?_
          have hn0 : v16 = Vn K (Q 1) (step + 1) (dNow K step (81 * p + 9 * a + b)) := by rw [hq15_0]; congr 1; unfold dNow; omega
          have hn1 := hq15_1
          have hn2 := hq15_2
          refine j_istore G d3_worthFrom_127 (by decide) rfl ?_
          refine j_iload G 0 rfl d3_worthFrom_129 ?_
          refine j_aload_n G 5 rfl d3_worthFrom_131 ?_
          refine j_iload_n G 6 rfl d3_worthFrom_132 ?_
          refine j_iload G 3 rfl d3_worthFrom_133 ?_
          refine j_iload G 2 rfl d3_worthFrom_135 ?_
          refine j_iload G 1 rfl d3_worthFrom_137 ?_
          refine j_SM G (rm' := { frames := 11, cells := 0, slots := 0, locals := 302 }) (wc := [(la, o3 (some ta) (some ka) Q), (ka, aLng E 39852 kn1_17), (ta, o7 (some ca) (some oa) T), (oa, aInt E 24 co), (ca, o1 (some pa) (some da) (some sa) C), (pa, aInt E 5 P), (da, aInt E 24 dr), (sa, aInt E 24 sr)]) (wr := []) (k3_worthOfTrip_5 (xl Γ) E la ka Q ta oa T ca pa da sa C P dr sr co K kn1_17 step v6 v10 v14 (by first | assumption | omega | (simp only [upS, reduceIte, Nat.reduceEqDiff, eq_self, List.length_cons, List.length_nil, List.length_append] <;> omega)) (by first | assumption | omega | (simp only [upS, reduceIte, Nat.reduceEqDiff, eq_self, List.length_cons, List.length_nil, List.length_append] <;> omega)) (by first | assumption | omega | (simp only [upS, reduceIte, Nat.reduceEqDiff, eq_self, List.length_cons, List.length_nil, List.length_append] <;> omega)) (by first | assumption | omega | (simp only [upS, reduceIte, Nat.reduceEqDiff, eq_self, List.length_cons, List.length_nil, List.length_append] <;> omega)) (by first | assumption | omega | (simp only [upS, reduceIte, Nat.reduceEqDiff, eq_self, List.length_cons, List.length_nil, List.length_append] <;> omega)) (by first | assumption | omega | (simp only [upS, reduceIte, Nat.reduceEqDiff, eq_self, List.length_cons, List.length_nil, List.length_append] <;> omega)) (by first | assumption | omega | (simp only [upS, reduceIte, Nat.reduceEqDiff, eq_self, List.length_cons, List.length_nil, List.length_append] <;> omega))) mw3_worthOfTrip ml3_49 [0, 1, 2, 3, 4, 5, 6, 7] [] rfl rfl ⟨rfl, rfl⟩ (by decide) ⟨Nat.le_of_ble_eq_true rfl, Nat.le_of_ble_eq_true rfl⟩ rfl (rest := [.int (iZ v16)]) rfl (Nat.le_of_ble_eq_true rfl) d3_worthFrom_139 ⟨Nat.le_of_ble_eq_true rfl, Nat.le_of_ble_eq_true rfl⟩ (fun r w1 hr => ?_)
          obtain ⟨v19, kn1_20, rfl, rfl, ⟨hq18_0, hq18_1, hq18_2⟩⟩ := hr
          refine j_eq (ws' := [(la, o3 (some ta) (some ka) Q), (ka, aLng E 39852 kn1_20), (ta, o7 (some ca) (some oa) T), (oa, aInt E 24 co), (ca, o1 (some pa) (some da) (some sa) C), (pa, aInt E 5 P), (da, aInt E 24 dr), (sa, aInt E 24 sr)]) rfl rfl rfl ?_
          have ht0 : v19 = tpF K (Q 1) step (dF K step (81 * p + 9 * a + b)) (dA K step (81 * p + 9 * a + b)) (dB K step (81 * p + 9 * a + b)) := by rw [hF, hA, hB]; exact hq18_0
          have ht1 := hq18_1
          have ht2 := hq18_2
          refine j_mmax G ml3_52 (by omega) (by omega) ⟨Nat.le_of_ble_eq_true rfl, Nat.le_of_ble_eq_true rfl⟩ ⟨Nat.le_of_ble_eq_true rfl, Nat.le_of_ble_eq_true rfl⟩ d3_worthFrom_142 ?_
          have hmx := vn_max tok hs11 (by omega) hsp.1 hn0 ht0
          have hmr := Vn_r tok hsp.1 (s := step) (st := (81 * p + 9 * a + b)) (by omega) (by omega)
          refine j_istore G d3_worthFrom_145 (by decide) rfl ?_
          refine j_aload_n G 6 rfl d3_worthFrom_147 ?_
          refine j_get G 0 3 3 in3 fl3_12 d3_worthFrom_148 rfl rfl (by decide) (v := .ref ka) rfl rfl ?_
          refine j_iload G 5 rfl d3_worthFrom_151 ?_
          refine j_aload_n G 6 rfl d3_worthFrom_153 ?_
          refine j_get G 0 3 2 in3 fl3_24 d3_worthFrom_154 rfl rfl (by decide) (v := .long (lZ (Q 2))) rfl rfl ?_
          refine j_bipush G d3_worthFrom_157 rfl ?_
          refine r_lshl G d3_worthFrom_159 ?_
          refine j_topl (y := (lZ (Q 2 * 1048576))) (kn_sh (by omega) (by omega)) ?_
          refine j_iload G 0 rfl d3_worthFrom_160 ?_
          refine j_i2l G d3_worthFrom_162 (by omega) ?_
          refine r_lor G d3_worthFrom_163 ?_
          refine j_topl (y := (lZ (Q 2 * 1048576 + (max v16 v19)))) (kn_or (by omega) (by omega) (by omega) (by omega)) ?_
          refine j_last G 1 rfl (by omega) d3_worthFrom_164 ?_
          refine j_iload G 0 rfl d3_worthFrom_165 ?_
          exact j_iret G F d3_worthFrom_167 ⟨max v16 v19, (upI kn1_20 pl (Q 2 * 1048576 + (max v16 v19))), rfl, rfl, (by exact ⟨hmx, KnK.up ht1 hj.1 hj.2 (by rw [hje.1, hje.2]; exact hmx) (by omega), by omega⟩)⟩
        ·
          have h4 : ¬ ((kn pl / 1048576) ≠ (Q 2)) := by
            revert h4; split <;> (try split) <;> intro h4 <;> omega
          have hvv := hkj.2 (by omega)
          rw [hje.1, hje.2] at hvv
          have hvr := Vn_r tok hsp.1 (s := step) (st := (81 * p + 9 * a + b)) (by omega) (by omega)
          refine j_aload_n G 1 rfl d3_worthFrom_60 ?_
          refine j_get G 0 3 3 in3 fl3_12 d3_worthFrom_61 rfl rfl (by decide) (v := .ref ka) rfl rfl ?_
          refine j_iload G 0 rfl d3_worthFrom_64 ?_
          refine j_lald G 1 rfl (by omega) d3_worthFrom_66 ?_
          refine j_l2i G d3_worthFrom_67 ?_
          refine j_ldc G 1048575 ct3_28 (by decide) d3_worthFrom_68 ?_
          refine r_iand G d3_worthFrom_70 ?_
          refine j_top (y := (iZ (kn pl % 1048576))) (kn_lo (by omega) (by omega)) ?_
          exact j_iret G F d3_worthFrom_71 ⟨kn pl % 1048576, kn, rfl, rfl, (by exact ⟨hvv, hkn, by omega⟩)⟩
      ·
        exact absurd h3 (by omega)
set_option maxHeartbeats 4000000 in
set_option maxRecDepth 100000 in
theorem k3_worthOfTrip_6 (l : Launch) (E : En) (la : Nat) (ka : Nat) (Q : Nat → Int) (ta : Nat) (oa : Nat) (T : Nat → Int) (ca : Nat) (pa : Nat) (da : Nat) (sa : Nat) (C : Nat → Int) (P : Int → Int) (dr : Int → Int) (sr : Int → Int) (co : Int → Int) (K : Dy) (kn : Int → Int) (step : Int) (p : Int) (a : Int) (b : Int) (htm : TmK K T C P dr sr co) (hkn : KnK K (Q 1) (Q 2) kn) (hsp : 0 ≤ Q 1 ∧ Q 1 ≤ 20) (hst : 6 ≤ step ∧ step ≤ 11) (hp : 0 ≤ p ∧ p ≤ 40) (ha : 0 ≤ a ∧ a ≤ 8) (hb : 0 ≤ b ∧ b ≤ 8) : Cm l E y3_worthOfTrip c3_worthOfTrip 8 (some .int) { frames := 13, cells := 0, slots := 0, locals := 359 } [.ref la, .int (iZ step), .int (iZ p), .int (iZ a), .int (iZ b)] [(la, o3 (some ta) (some ka) Q), (ka, aLng E 39852 kn), (ta, o7 (some ca) (some oa) T), (oa, aInt E 24 co), (ca, o1 (some pa) (some da) (some sa) C), (pa, aInt E 5 P), (da, aInt E 24 dr), (sa, aInt E 24 sr)] (fun r ws => ∃ (v : Int), ∃ (kn1 : Int → Int), r = some (.int (iZ v)) ∧ ws = [(la, o3 (some ta) (some ka) Q), (ka, aLng E 39852 kn1), (ta, o7 (some ca) (some oa) T), (oa, aInt E 24 co), (ca, o1 (some pa) (some da) (some sa) C), (pa, aInt E 5 P), (da, aInt E 24 dr), (sa, aInt E 24 sr)] ∧ (v = tpF K (Q 1) step p a b ∧ KnK K (Q 1) (Q 2) kn1 ∧ (v = -99999 ∨ (0 ≤ v ∧ v ≤ 8000)))) := by
  refine Cm.of (by decide +kernel) (Nat.le_of_ble_eq_true rfl) (fun Γ A hl hargs hin G F => ?_)
  subst hl
  have tok := htm.2.1
  have tse := tok.2.1
  refine j_aload_n G 0 rfl d3_worthOfTrip_0 ?_
  refine j_get G 0 3 0 in3 fl3_16 d3_worthOfTrip_1 rfl rfl (by decide) (v := .ref ta) rfl rfl ?_
  refine j_iload_n G 3 rfl d3_worthOfTrip_4 ?_
  refine j_VP G (k7_seated (xl Γ) E ta oa T ca pa da sa C P dr sr co K a (by first | assumption | omega | (simp only [upS, reduceIte, Nat.reduceEqDiff, eq_self, List.length_cons, List.length_nil, List.length_append] <;> omega)) (by first | assumption | omega | (simp only [upS, reduceIte, Nat.reduceEqDiff, eq_self, List.length_cons, List.length_nil, List.length_append] <;> omega))) mw7_seated ml3_57 [2, 3, 4, 5, 6, 7] rfl 2 7 rfl rfl rfl ⟨Nat.le_of_ble_eq_true rfl, Nat.le_of_ble_eq_true rfl⟩ rfl (rest := []) rfl (Nat.le_of_ble_eq_true rfl) d3_worthOfTrip_5 ⟨Nat.le_of_ble_eq_true rfl, Nat.le_of_ble_eq_true rfl⟩ (fun r hr => ?_)
  obtain ⟨v2, rfl, ⟨hq1_0, hq1_1, hq1_2, hq1_3, hq1_4⟩⟩ := hr
  have hd0 := hq1_0
  have hd1 := hq1_1
  have hd2 := hq1_2
  have hd3 := hq1_3
  have hd4 := hq1_4
  refine j_istore G d3_worthOfTrip_8 (by decide) rfl ?_
  refine j_aload_n G 1 rfl d3_worthOfTrip_10 ?_
  refine j_get G 0 3 0 in3 fl3_16 d3_worthOfTrip_11 rfl rfl (by decide) (v := .ref ta) rfl rfl ?_
  refine j_iload G 5 rfl d3_worthOfTrip_14 ?_
  refine j_VP G (k7_seated (xl Γ) E ta oa T ca pa da sa C P dr sr co K b (by first | assumption | omega | (simp only [upS, reduceIte, Nat.reduceEqDiff, eq_self, List.length_cons, List.length_nil, List.length_append] <;> omega)) (by first | assumption | omega | (simp only [upS, reduceIte, Nat.reduceEqDiff, eq_self, List.length_cons, List.length_nil, List.length_append] <;> omega))) mw7_seated ml3_57 [2, 3, 4, 5, 6, 7] rfl 2 7 rfl rfl rfl ⟨Nat.le_of_ble_eq_true rfl, Nat.le_of_ble_eq_true rfl⟩ rfl (rest := []) rfl (Nat.le_of_ble_eq_true rfl) d3_worthOfTrip_16 ⟨Nat.le_of_ble_eq_true rfl, Nat.le_of_ble_eq_true rfl⟩ (fun r hr => ?_)
  obtain ⟨v4, rfl, ⟨hq3_0, hq3_1, hq3_2, hq3_3, hq3_4⟩⟩ := hr
  have hu0 := hq3_0
  have hu1 := hq3_1
  have hu2 := hq3_2
  have hu3 := hq3_3
  have hu4 := hq3_4
  refine j_istore G d3_worthOfTrip_19 (by decide) rfl ?_
  refine j_aload_n G 2 rfl d3_worthOfTrip_21 ?_
  refine j_get G 0 3 0 in3 fl3_16 d3_worthOfTrip_22 rfl rfl (by decide) (v := .ref ta) rfl rfl ?_
  refine j_iload_n G 3 rfl d3_worthOfTrip_25 ?_
  refine j_iload G 1 rfl d3_worthOfTrip_26 ?_
  refine j_iload G 0 rfl d3_worthOfTrip_28 ?_
  refine j_VP G (k7_leastFor (xl Γ) E ta oa T ca pa da sa C P dr sr co K step v2 v4 (by first | assumption | omega | (simp only [upS, reduceIte, Nat.reduceEqDiff, eq_self, List.length_cons, List.length_nil, List.length_append] <;> omega)) (by first | assumption | omega | (simp only [upS, reduceIte, Nat.reduceEqDiff, eq_self, List.length_cons, List.length_nil, List.length_append] <;> omega)) (by first | assumption | omega | (simp only [upS, reduceIte, Nat.reduceEqDiff, eq_self, List.length_cons, List.length_nil, List.length_append] <;> omega)) (by first | assumption | omega | (simp only [upS, reduceIte, Nat.reduceEqDiff, eq_self, List.length_cons, List.length_nil, List.length_append] <;> omega))) mw7_leastFor ml3_60 [2, 3, 4, 5, 6, 7] rfl 2 7 rfl rfl rfl ⟨Nat.le_of_ble_eq_true rfl, Nat.le_of_ble_eq_true rfl⟩ rfl (rest := []) rfl (Nat.le_of_ble_eq_true rfl) d3_worthOfTrip_30 ⟨Nat.le_of_ble_eq_true rfl, Nat.le_of_ble_eq_true rfl⟩ (fun r hr => ?_)
  obtain ⟨v6, rfl, ⟨hq5_0, hq5_1⟩⟩ := hr
  have hw0 := hq5_0
  have hw1 := hq5_1
  refine j_istore G d3_worthOfTrip_33 (by decide) rfl ?_
  refine j_iload G 2 rfl d3_worthOfTrip_35 ?_
  refine j_iload G 1 rfl d3_worthOfTrip_37 ?_
  refine j_iadd G d3_worthOfTrip_39 ?_
  refine j_if_eq (tgt := 61) G d3_worthOfTrip_40 (by decide) (by omega) (fun h7 => ?_) (fun h7 => ?_)
  ·
    refine j_ldc G (-99999) ct3_64 (by decide) d3_worthOfTrip_61 ?_
    exact j_iret G F d3_worthOfTrip_63 ⟨(-99999), kn, rfl, rfl, (by refine ⟨?_, hkn, Or.inl rfl⟩; unfold tpF; rw [← hd0, ← hu0, ← hw0, if_pos (by omega)])⟩
  ·
    refine j_iload G 0 rfl d3_worthOfTrip_43 ?_
    refine j_bipush G d3_worthOfTrip_45 rfl ?_
    refine j_icmp_eq (tgt := 61) G d3_worthOfTrip_47 (by decide) (by omega) (by decide) (fun h8 => ?_) (fun h8 => ?_)
    ·
      refine j_ldc G (-99999) ct3_64 (by decide) d3_worthOfTrip_61 ?_
      exact j_iret G F d3_worthOfTrip_63 ⟨(-99999), kn, rfl, rfl, (by refine ⟨?_, hkn, Or.inl rfl⟩; unfold tpF; rw [← hd0, ← hu0, ← hw0, if_pos (by omega)])⟩
    ·
      refine j_iload_n G 5 rfl d3_worthOfTrip_50 ?_
      refine j_iload G 0 rfl d3_worthOfTrip_51 ?_
      refine j_isub G d3_worthOfTrip_53 ?_
      refine j_aload_n G 3 rfl d3_worthOfTrip_54 ?_
      refine j_get G 0 3 1 in3 fl3_20 d3_worthOfTrip_55 rfl rfl (by decide) (v := .int (iZ (Q 1))) rfl rfl ?_
      refine j_icmp_ge (tgt := 64) G d3_worthOfTrip_58 (by decide) (by omega) (by omega) (fun h9 => ?_) (fun h9 => ?_)
      ·
        refine j_bipush G d3_worthOfTrip_64 rfl ?_
        refine j_iload G 1 rfl d3_worthOfTrip_66 ?_
        refine j_imul G d3_worthOfTrip_68 ?_
        refine j_aload_n G 3 rfl d3_worthOfTrip_69 ?_
        refine j_iload_n G 4 rfl d3_worthOfTrip_70 ?_
        refine j_iconst G d3_worthOfTrip_71 ?_
        refine j_iadd G d3_worthOfTrip_72 ?_
        refine j_iload_n G 5 rfl d3_worthOfTrip_73 ?_
        refine j_iload G 0 rfl d3_worthOfTrip_74 ?_
        refine j_isub G d3_worthOfTrip_76 ?_
        refine j_iload_n G 6 rfl d3_worthOfTrip_77 ?_
        refine j_iload G 2 rfl d3_worthOfTrip_78 ?_
        refine j_isub G d3_worthOfTrip_80 ?_
        refine j_iload G 7 rfl d3_worthOfTrip_81 ?_
        refine j_iload G 1 rfl d3_worthOfTrip_83 ?_
        refine j_isub G d3_worthOfTrip_85 ?_
        refine j_SM G (rm' := { frames := 12, cells := 0, slots := 0, locals := 329 }) (wc := [(la, o3 (some ta) (some ka) Q), (ka, aLng E 39852 kn), (ta, o7 (some ca) (some oa) T), (oa, aInt E 24 co), (ca, o1 (some pa) (some da) (some sa) C), (pa, aInt E 5 P), (da, aInt E 24 dr), (sa, aInt E 24 sr)]) (wr := []) (k3_worthFrom_5 (xl Γ) E la ka Q ta oa T ca pa da sa C P dr sr co K kn (step + 1) (p - v6) (a - v2) (b - v4) (by first | assumption | omega | (simp only [upS, reduceIte, Nat.reduceEqDiff, eq_self, List.length_cons, List.length_nil, List.length_append] <;> omega)) (by first | assumption | omega | (simp only [upS, reduceIte, Nat.reduceEqDiff, eq_self, List.length_cons, List.length_nil, List.length_append] <;> omega)) (by first | assumption | omega | (simp only [upS, reduceIte, Nat.reduceEqDiff, eq_self, List.length_cons, List.length_nil, List.length_append] <;> omega)) (by first | assumption | omega | (simp only [upS, reduceIte, Nat.reduceEqDiff, eq_self, List.length_cons, List.length_nil, List.length_append] <;> omega)) (by first | assumption | omega | (simp only [upS, reduceIte, Nat.reduceEqDiff, eq_self, List.length_cons, List.length_nil, List.length_append] <;> omega)) (by first | assumption | omega | (simp only [upS, reduceIte, Nat.reduceEqDiff, eq_self, List.length_cons, List.length_nil, List.length_append] <;> omega)) (by first | assumption | omega | (simp only [upS, reduceIte, Nat.reduceEqDiff, eq_self, List.length_cons, List.length_nil, List.length_append] <;> omega))) mw3_worthFrom ml3_45 [0, 1, 2, 3, 4, 5, 6, 7] [] rfl rfl ⟨rfl, rfl⟩ (by decide) ⟨Nat.le_of_ble_eq_true rfl, Nat.le_of_ble_eq_true rfl⟩ rfl (rest := [.int (iZ (100 * v4))]) rfl (Nat.le_of_ble_eq_true rfl) d3_worthOfTrip_86 ⟨Nat.le_of_ble_eq_true rfl, Nat.le_of_ble_eq_true rfl⟩ (fun r w1 hr => ?_)
        obtain ⟨v11, kn1_12, rfl, rfl, ⟨hq10_0, hq10_1, hq10_2⟩⟩ := hr
        refine j_eq (ws' := [(la, o3 (some ta) (some ka) Q), (ka, aLng E 39852 kn1_12), (ta, o7 (some ca) (some oa) T), (oa, aInt E 24 co), (ca, o1 (some pa) (some da) (some sa) C), (pa, aInt E 5 P), (da, aInt E 24 dr), (sa, aInt E 24 sr)]) rfl rfl rfl ?_
        have hn0 := hq10_0
        have hn1 := hq10_1
        have hn2 := hq10_2
        refine j_iadd G d3_worthOfTrip_89 ?_
        exact j_iret G F d3_worthOfTrip_90 ⟨(100 * v4) + v11, kn1_12, rfl, rfl, (by refine ⟨?_, hn1, by omega⟩; unfold tpF; rw [← hd0, ← hu0, ← hw0, if_neg (by omega), hn0])⟩
      ·
        refine j_ldc G (-99999) ct3_64 (by decide) d3_worthOfTrip_61 ?_
        exact j_iret G F d3_worthOfTrip_63 ⟨(-99999), kn, rfl, rfl, (by refine ⟨?_, hkn, Or.inl rfl⟩; unfold tpF; rw [← hd0, ← hu0, ← hw0, if_pos (by omega)])⟩
set_option maxHeartbeats 4000000 in
set_option maxRecDepth 100000 in
theorem k3_worthFrom_6 (l : Launch) (E : En) (la : Nat) (ka : Nat) (Q : Nat → Int) (ta : Nat) (oa : Nat) (T : Nat → Int) (ca : Nat) (pa : Nat) (da : Nat) (sa : Nat) (C : Nat → Int) (P : Int → Int) (dr : Int → Int) (sr : Int → Int) (co : Int → Int) (K : Dy) (kn : Int → Int) (step : Int) (p : Int) (a : Int) (b : Int) (htm : TmK K T C P dr sr co) (hkn : KnK K (Q 1) (Q 2) kn) (hsp : 0 ≤ Q 1 ∧ Q 1 ≤ 20) (hst : 6 ≤ step ∧ step ≤ 12) (hp : 0 ≤ p ∧ p ≤ 40) (ha : 0 ≤ a ∧ a ≤ 8) (hb : 0 ≤ b ∧ b ≤ 8) : Cm l E y3_worthFrom c3_worthFrom 11 (some .int) { frames := 14, cells := 0, slots := 0, locals := 386 } [.ref la, .int (iZ step), .int (iZ p), .int (iZ a), .int (iZ b)] [(la, o3 (some ta) (some ka) Q), (ka, aLng E 39852 kn), (ta, o7 (some ca) (some oa) T), (oa, aInt E 24 co), (ca, o1 (some pa) (some da) (some sa) C), (pa, aInt E 5 P), (da, aInt E 24 dr), (sa, aInt E 24 sr)] (fun r ws => ∃ (v : Int), ∃ (kn1 : Int → Int), r = some (.int (iZ v)) ∧ ws = [(la, o3 (some ta) (some ka) Q), (ka, aLng E 39852 kn1), (ta, o7 (some ca) (some oa) T), (oa, aInt E 24 co), (ca, o1 (some pa) (some da) (some sa) C), (pa, aInt E 5 P), (da, aInt E 24 dr), (sa, aInt E 24 sr)] ∧ (v = Vn K (Q 1) step (81 * p + 9 * a + b) ∧ KnK K (Q 1) (Q 2) kn1 ∧ (0 ≤ v ∧ v ≤ 7240))) := by
  refine Cm.of (by decide +kernel) (Nat.le_of_ble_eq_true rfl) (fun Γ A hl hargs hin G F => ?_)
  subst hl
  have tok := htm.2.1
  refine j_iload_n G 1 rfl d3_worthFrom_0 ?_
  refine j_bipush G d3_worthFrom_1 rfl ?_
  refine j_imul G d3_worthFrom_3 ?_
  refine j_iload_n G 2 rfl d3_worthFrom_4 ?_
  refine j_iadd G d3_worthFrom_5 ?_
  refine j_bipush G d3_worthFrom_6 rfl ?_
  refine j_imul G d3_worthFrom_8 ?_
  refine j_iload_n G 3 rfl d3_worthFrom_9 ?_
  refine j_iadd G d3_worthFrom_10 ?_
  refine j_bipush G d3_worthFrom_11 rfl ?_
  refine j_imul G d3_worthFrom_13 ?_
  refine j_iload G 4 rfl d3_worthFrom_14 ?_
  refine j_iadd G d3_worthFrom_16 ?_
  refine j_nm (fun pl epl => ?_)
  refine j_istore G d3_worthFrom_17 (by decide) rfl ?_
  refine j_iload_n G 2 rfl d3_worthFrom_19 ?_
  have hpl : pl = 3321 * step + (81 * p + 9 * a + b) := by omega
  refine j_bipush G d3_worthFrom_20 rfl ?_
  refine j_icmp_ge (tgt := 40) G d3_worthFrom_22 (by decide) (by omega) (by decide) (fun h1 => ?_) (fun h1 => ?_)
  ·
    have he : step = 12 := by omega
    refine j_iload_n G 3 rfl d3_worthFrom_40 ?_
    exact j_iret G F d3_worthFrom_41 ⟨p, kn, rfl, rfl, (by refine ⟨?_, hkn, by omega⟩; rw [he, Vn_e]; omega)⟩
  ·
    have hj : 0 ≤ pl ∧ pl < 39852 := by omega
    have hs11 : 0 ≤ step ∧ step ≤ 11 := by omega
    have hnw := st_now (K := K) (s := step) (p := p) ha hb
    have hdr := dR tok hs11 (st := (81 * p + 9 * a + b)) (by omega)
    have hnr := dNow_r tok hs11 (st := (81 * p + 9 * a + b)) (by omega)
    refine j_iload G 0 rfl d3_worthFrom_25 ?_
    refine j_if_lt (tgt := 40) G d3_worthFrom_27 (by decide) (by omega) (fun h2 => ?_) (fun h2 => ?_)
    ·
      exact absurd h2 (by omega)
    ·
      refine j_iload G 0 rfl d3_worthFrom_30 ?_
      refine j_aload_n G 1 rfl d3_worthFrom_32 ?_
      refine j_get G 0 3 3 in3 fl3_12 d3_worthFrom_33 rfl rfl (by decide) (v := .ref ka) rfl rfl ?_
      refine j_alenL G 1 rfl d3_worthFrom_36 ?_
      refine j_icmp_lt (tgt := 42) G d3_worthFrom_37 (by decide) (by omega) (by decide) (fun h3 => ?_) (fun h3 => ?_)
      ·
        have hje : pl / 3321 = step ∧ pl % 3321 = (81 * p + 9 * a + b) := by omega
        have hkj := hkn.2 pl hj.1 hj.2
        have hed := hkn.1
        refine j_aload_n G 1 rfl d3_worthFrom_42 ?_
        refine j_get G 0 3 3 in3 fl3_12 d3_worthFrom_43 rfl rfl (by decide) (v := .ref ka) rfl rfl ?_
        refine j_iload G 0 rfl d3_worthFrom_46 ?_
        refine j_lald G 1 rfl (by omega) d3_worthFrom_48 ?_
        refine j_bipush G d3_worthFrom_49 rfl ?_
        refine r_lshr G d3_worthFrom_51 ?_
        refine j_topl (y := (lZ (kn pl / 1048576))) (kn_hi (by omega) (by omega)) ?_
        refine j_aload_n G 1 rfl d3_worthFrom_52 ?_
        refine j_get G 0 3 2 in3 fl3_24 d3_worthFrom_53 rfl rfl (by decide) (v := .long (lZ (Q 2))) rfl rfl ?_
        refine j_lcmp G d3_worthFrom_56 (by omega) (by omega) ?_
        refine j_if_ne (tgt := 72) G d3_worthFrom_57 (by decide) (by split <;> first | decide | (split <;> decide)) (fun h4 => ?_) (fun h4 => ?_)
        ·
          have h4 : (kn pl / 1048576) ≠ (Q 2) := by
            revert h4; split <;> (try split) <;> intro h4 <;> omega
          refine j_aload_n G 1 rfl d3_worthFrom_72 ?_
          refine j_get G 0 3 0 in3 fl3_16 d3_worthFrom_73 rfl rfl (by decide) (v := .ref ta) rfl rfl ?_
          refine j_iload_n G 2 rfl d3_worthFrom_76 ?_
          refine j_iload_n G 3 rfl d3_worthFrom_77 ?_
          refine j_VP G (k7_pondWithSpring (xl Γ) E ta oa T ca pa da sa C P dr sr co K step p (by first | assumption | omega | (simp only [upS, reduceIte, Nat.reduceEqDiff, eq_self, List.length_cons, List.length_nil, List.length_append] <;> omega)) (by first | assumption | omega | (simp only [upS, reduceIte, Nat.reduceEqDiff, eq_self, List.length_cons, List.length_nil, List.length_append] <;> omega)) (by first | assumption | omega | (simp only [upS, reduceIte, Nat.reduceEqDiff, eq_self, List.length_cons, List.length_nil, List.length_append] <;> omega))) mw7_pondWithSpring ml3_29 [2, 3, 4, 5, 6, 7] rfl 2 7 rfl rfl rfl ⟨Nat.le_of_ble_eq_true rfl, Nat.le_of_ble_eq_true rfl⟩ rfl (rest := []) rfl (Nat.le_of_ble_eq_true rfl) d3_worthFrom_78 ⟨Nat.le_of_ble_eq_true rfl, Nat.le_of_ble_eq_true rfl⟩ (fun r hr => ?_)
          obtain ⟨v6, rfl, ⟨hq5_0, hq5_1, hq5_2⟩⟩ := hr
          have hf2 := hq5_1
          have hF : dF K step (81 * p + 9 * a + b) = v6 := by have := hq5_0; omega
          refine j_istore G d3_worthFrom_81 (by decide) rfl ?_
          refine j_iload_n G 5 rfl d3_worthFrom_83 ?_
          refine j_aload_n G 2 rfl d3_worthFrom_84 ?_
          refine j_get G 0 3 0 in3 fl3_16 d3_worthFrom_85 rfl rfl (by decide) (v := .ref ta) rfl rfl ?_
          refine j_iload_n G 3 rfl d3_worthFrom_88 ?_
          refine j_VP G (k7_comingAbove (xl Γ) E ta oa T ca pa da sa C P dr sr co K step (by first | assumption | omega | (simp only [upS, reduceIte, Nat.reduceEqDiff, eq_self, List.length_cons, List.length_nil, List.length_append] <;> omega)) (by first | assumption | omega | (simp only [upS, reduceIte, Nat.reduceEqDiff, eq_self, List.length_cons, List.length_nil, List.length_append] <;> omega))) mw7_comingAbove ml3_35 [2, 3, 4, 5, 6, 7] rfl 2 7 rfl rfl rfl ⟨Nat.le_of_ble_eq_true rfl, Nat.le_of_ble_eq_true rfl⟩ rfl (rest := [.int (iZ a)]) rfl (Nat.le_of_ble_eq_true rfl) d3_worthFrom_89 ⟨Nat.le_of_ble_eq_true rfl, Nat.le_of_ble_eq_true rfl⟩ (fun r hr => ?_)
          obtain ⟨v8, rfl, ⟨hq7_0, hq7_1, hq7_2⟩⟩ := hr
          have hca := hq7_0
          have hcb := hq7_1
          refine j_iadd G d3_worthFrom_92 ?_
          refine j_SP G (k3_waiting (xl Γ) E (a + v8) (by first | assumption | omega | (simp only [upS, reduceIte, Nat.reduceEqDiff, eq_self, List.length_cons, List.length_nil, List.length_append] <;> omega))) mw3_waiting ml3_39 [] rfl ⟨Nat.le_of_ble_eq_true rfl, Nat.le_of_ble_eq_true rfl⟩ rfl (rest := []) rfl (Nat.le_of_ble_eq_true rfl) d3_worthFrom_93 ⟨Nat.le_of_ble_eq_true rfl, Nat.le_of_ble_eq_true rfl⟩ (fun r hr => ?_)
          obtain ⟨v10, rfl, hq9⟩ := hr
          have hA : dA K step (81 * p + 9 * a + b) = v10 := by have := hq9; omega
          have hta := hq9
          refine j_istore G d3_worthFrom_96 (by decide) rfl ?_
          refine j_iload G 7 rfl d3_worthFrom_98 ?_
          refine j_aload_n G 3 rfl d3_worthFrom_100 ?_
          refine j_get G 0 3 0 in3 fl3_16 d3_worthFrom_101 rfl rfl (by decide) (v := .ref ta) rfl rfl ?_
          refine j_iload_n G 4 rfl d3_worthFrom_104 ?_
          refine j_VP G (k7_comingBelow (xl Γ) E ta oa T ca pa da sa C P dr sr co K step (by first | assumption | omega | (simp only [upS, reduceIte, Nat.reduceEqDiff, eq_self, List.length_cons, List.length_nil, List.length_append] <;> omega)) (by first | assumption | omega | (simp only [upS, reduceIte, Nat.reduceEqDiff, eq_self, List.length_cons, List.length_nil, List.length_append] <;> omega))) mw7_comingBelow ml3_42 [2, 3, 4, 5, 6, 7] rfl 2 7 rfl rfl rfl ⟨Nat.le_of_ble_eq_true rfl, Nat.le_of_ble_eq_true rfl⟩ rfl (rest := [.int (iZ b)]) rfl (Nat.le_of_ble_eq_true rfl) d3_worthFrom_105 ⟨Nat.le_of_ble_eq_true rfl, Nat.le_of_ble_eq_true rfl⟩ (fun r hr => ?_)
          obtain ⟨v12, rfl, ⟨hq11_0, hq11_1, hq11_2⟩⟩ := hr
          have hda := hq11_0
          have hdb := hq11_1
          refine j_iadd G d3_worthFrom_108 ?_
          refine j_SP G (k3_waiting (xl Γ) E (b + v12) (by first | assumption | omega | (simp only [upS, reduceIte, Nat.reduceEqDiff, eq_self, List.length_cons, List.length_nil, List.length_append] <;> omega))) mw3_waiting ml3_39 [] rfl ⟨Nat.le_of_ble_eq_true rfl, Nat.le_of_ble_eq_true rfl⟩ rfl (rest := []) rfl (Nat.le_of_ble_eq_true rfl) d3_worthFrom_109 ⟨Nat.le_of_ble_eq_true rfl, Nat.le_of_ble_eq_true rfl⟩ (fun r hr => ?_)
          obtain ⟨v14, rfl, hq13⟩ := hr
          have hB : dB K step (81 * p + 9 * a + b) = v14 := by have := hq13; omega
          have htb := hq13
          refine j_istore G d3_worthFrom_112 (by decide) rfl ?_
          refine j_aload_n G 4 rfl d3_worthFrom_114 ?_
          refine j_iload_n G 5 rfl d3_worthFrom_115 ?_
          refine j_iconst G d3_worthFrom_116 ?_
          refine j_iadd G d3_worthFrom_117 ?_
          refine j_iload G 2 rfl d3_worthFrom_118 ?_
          refine j_iload G 1 rfl d3_worthFrom_120 ?_
          refine j_iload G 0 rfl d3_worthFrom_122 ?_
          refine j_SM G (rm' := { frames := 12, cells := 0, slots := 0, locals := 329 }) (wc := [(la, o3 (some ta) (some ka) Q), (ka, aLng E 39852 kn), (ta, o7 (some ca) (some oa) T), (oa, aInt E 24 co), (ca, o1 (some pa) (some da) (some sa) C), (pa, aInt E 5 P), (da, aInt E 24 dr), (sa, aInt E 24 sr)]) (wr := []) (k3_worthFrom_5 (xl Γ) E la ka Q ta oa T ca pa da sa C P dr sr co K kn (step + 1) v6 v10 v14 (by first | assumption | omega | (simp only [upS, reduceIte, Nat.reduceEqDiff, eq_self, List.length_cons, List.length_nil, List.length_append] <;> omega)) (by first | assumption | omega | (simp only [upS, reduceIte, Nat.reduceEqDiff, eq_self, List.length_cons, List.length_nil, List.length_append] <;> omega)) (by first | assumption | omega | (simp only [upS, reduceIte, Nat.reduceEqDiff, eq_self, List.length_cons, List.length_nil, List.length_append] <;> omega)) (by first | assumption | omega | (simp only [upS, reduceIte, Nat.reduceEqDiff, eq_self, List.length_cons, List.length_nil, List.length_append] <;> omega)) (by first | assumption | omega | (simp only [upS, reduceIte, Nat.reduceEqDiff, eq_self, List.length_cons, List.length_nil, List.length_append] <;> omega)) (by first | assumption | omega | (simp only [upS, reduceIte, Nat.reduceEqDiff, eq_self, List.length_cons, List.length_nil, List.length_append] <;> omega)) (by first | assumption | omega | (simp only [upS, reduceIte, Nat.reduceEqDiff, eq_self, List.length_cons, List.length_nil, List.length_append] <;> omega))) mw3_worthFrom ml3_45 [0, 1, 2, 3, 4, 5, 6, 7] [] rfl rfl ⟨rfl, rfl⟩ (by decide) ⟨Nat.le_of_ble_eq_true rfl, Nat.le_of_ble_eq_true rfl⟩ rfl (rest := []) rfl (Nat.le_of_ble_eq_true rfl) d3_worthFrom_124 ⟨Nat.le_of_ble_eq_true rfl, Nat.le_of_ble_eq_true rfl⟩ (fun r w1 hr => ?_)
          obtain ⟨v16, kn1_17, rfl, rfl, ⟨hq15_0, hq15_1, hq15_2⟩⟩ := hr
          refine j_eq (ws' := [(la, o3 (some ta) (some ka) Q), (ka, aLng E 39852 kn1_17), (ta, o7 (some ca) (some oa) T), (oa, aInt E 24 co), (ca, o1 (some pa) (some da) (some sa) C), (pa, aInt E 5 P), (da, aInt E 24 dr), (sa, aInt E 24 sr)]) rfl rfl rfl ?_
          have hn0 : v16 = Vn K (Q 1) (step + 1) (dNow K step (81 * p + 9 * a + b)) := by rw [hq15_0]; congr 1; unfold dNow; omega
          have hn1 := hq15_1
          have hn2 := hq15_2
          refine j_istore G d3_worthFrom_127 (by decide) rfl ?_
          refine j_iload G 0 rfl d3_worthFrom_129 ?_
          refine j_aload_n G 5 rfl d3_worthFrom_131 ?_
          refine j_iload_n G 6 rfl d3_worthFrom_132 ?_
          refine j_iload G 3 rfl d3_worthFrom_133 ?_
          refine j_iload G 2 rfl d3_worthFrom_135 ?_
          refine j_iload G 1 rfl d3_worthFrom_137 ?_
          refine j_SM G (rm' := { frames := 13, cells := 0, slots := 0, locals := 359 }) (wc := [(la, o3 (some ta) (some ka) Q), (ka, aLng E 39852 kn1_17), (ta, o7 (some ca) (some oa) T), (oa, aInt E 24 co), (ca, o1 (some pa) (some da) (some sa) C), (pa, aInt E 5 P), (da, aInt E 24 dr), (sa, aInt E 24 sr)]) (wr := []) (k3_worthOfTrip_6 (xl Γ) E la ka Q ta oa T ca pa da sa C P dr sr co K kn1_17 step v6 v10 v14 (by first | assumption | omega | (simp only [upS, reduceIte, Nat.reduceEqDiff, eq_self, List.length_cons, List.length_nil, List.length_append] <;> omega)) (by first | assumption | omega | (simp only [upS, reduceIte, Nat.reduceEqDiff, eq_self, List.length_cons, List.length_nil, List.length_append] <;> omega)) (by first | assumption | omega | (simp only [upS, reduceIte, Nat.reduceEqDiff, eq_self, List.length_cons, List.length_nil, List.length_append] <;> omega)) (by first | assumption | omega | (simp only [upS, reduceIte, Nat.reduceEqDiff, eq_self, List.length_cons, List.length_nil, List.length_append] <;> omega)) (by first | assumption | omega | (simp only [upS, reduceIte, Nat.reduceEqDiff, eq_self, List.length_cons, List.length_nil, List.length_append] <;> omega)) (by first | assumption | omega | (simp only [upS, reduceIte, Nat.reduceEqDiff, eq_self, List.length_cons, List.length_nil, List.length_append] <;> omega)) (by first | assumption | omega | (simp only [upS, reduceIte, Nat.reduceEqDiff, eq_self, List.length_cons, List.length_nil, List.length_append] <;> omega))) mw3_worthOfTrip ml3_49 [0, 1, 2, 3, 4, 5, 6, 7] [] rfl rfl ⟨rfl, rfl⟩ (by decide) ⟨Nat.le_of_ble_eq_true rfl, Nat.le_of_ble_eq_true rfl⟩ rfl (rest := [.int (iZ v16)]) rfl (Nat.le_of_ble_eq_true rfl) d3_worthFrom_139 ⟨Nat.le_of_ble_eq_true rfl, Nat.le_of_ble_eq_true rfl⟩ (fun r w1 hr => ?_)
          obtain ⟨v19, kn1_20, rfl, rfl, ⟨hq18_0, hq18_1, hq18_2⟩⟩ := hr
          refine j_eq (ws' := [(la, o3 (some ta) (some ka) Q), (ka, aLng E 39852 kn1_20), (ta, o7 (some ca) (some oa) T), (oa, aInt E 24 co), (ca, o1 (some pa) (some da) (some sa) C), (pa, aInt E 5 P), (da, aInt E 24 dr), (sa, aInt E 24 sr)]) rfl rfl rfl ?_
          have ht0 : v19 = tpF K (Q 1) step (dF K step (81 * p + 9 * a + b)) (dA K step (81 * p + 9 * a + b)) (dB K step (81 * p + 9 * a + b)) := by rw [hF, hA, hB]; exact hq18_0
          have ht1 := hq18_1
          have ht2 := hq18_2
          refine j_mmax G ml3_52 (by omega) (by omega) ⟨Nat.le_of_ble_eq_true rfl, Nat.le_of_ble_eq_true rfl⟩ ⟨Nat.le_of_ble_eq_true rfl, Nat.le_of_ble_eq_true rfl⟩ d3_worthFrom_142 ?_
          have hmx := vn_max tok hs11 (by omega) hsp.1 hn0 ht0
          have hmr := Vn_r tok hsp.1 (s := step) (st := (81 * p + 9 * a + b)) (by omega) (by omega)
          refine j_istore G d3_worthFrom_145 (by decide) rfl ?_
          refine j_aload_n G 6 rfl d3_worthFrom_147 ?_
          refine j_get G 0 3 3 in3 fl3_12 d3_worthFrom_148 rfl rfl (by decide) (v := .ref ka) rfl rfl ?_
          refine j_iload G 5 rfl d3_worthFrom_151 ?_
          refine j_aload_n G 6 rfl d3_worthFrom_153 ?_
          refine j_get G 0 3 2 in3 fl3_24 d3_worthFrom_154 rfl rfl (by decide) (v := .long (lZ (Q 2))) rfl rfl ?_
          refine j_bipush G d3_worthFrom_157 rfl ?_
          refine r_lshl G d3_worthFrom_159 ?_
          refine j_topl (y := (lZ (Q 2 * 1048576))) (kn_sh (by omega) (by omega)) ?_
          refine j_iload G 0 rfl d3_worthFrom_160 ?_
          refine j_i2l G d3_worthFrom_162 (by omega) ?_
          refine r_lor G d3_worthFrom_163 ?_
          refine j_topl (y := (lZ (Q 2 * 1048576 + (max v16 v19)))) (kn_or (by omega) (by omega) (by omega) (by omega)) ?_
          refine j_last G 1 rfl (by omega) d3_worthFrom_164 ?_
          refine j_iload G 0 rfl d3_worthFrom_165 ?_
          exact j_iret G F d3_worthFrom_167 ⟨max v16 v19, (upI kn1_20 pl (Q 2 * 1048576 + (max v16 v19))), rfl, rfl, (by exact ⟨hmx, KnK.up ht1 hj.1 hj.2 (by rw [hje.1, hje.2]; exact hmx) (by omega), by omega⟩)⟩
        ·
          have h4 : ¬ ((kn pl / 1048576) ≠ (Q 2)) := by
            revert h4; split <;> (try split) <;> intro h4 <;> omega
          have hvv := hkj.2 (by omega)
          rw [hje.1, hje.2] at hvv
          have hvr := Vn_r tok hsp.1 (s := step) (st := (81 * p + 9 * a + b)) (by omega) (by omega)
          refine j_aload_n G 1 rfl d3_worthFrom_60 ?_
          refine j_get G 0 3 3 in3 fl3_12 d3_worthFrom_61 rfl rfl (by decide) (v := .ref ka) rfl rfl ?_
          refine j_iload G 0 rfl d3_worthFrom_64 ?_
          refine j_lald G 1 rfl (by omega) d3_worthFrom_66 ?_
          refine j_l2i G d3_worthFrom_67 ?_
          refine j_ldc G 1048575 ct3_28 (by decide) d3_worthFrom_68 ?_
          refine r_iand G d3_worthFrom_70 ?_
          refine j_top (y := (iZ (kn pl % 1048576))) (kn_lo (by omega) (by omega)) ?_
          exact j_iret G F d3_worthFrom_71 ⟨kn pl % 1048576, kn, rfl, rfl, (by exact ⟨hvv, hkn, by omega⟩)⟩
      ·
        exact absurd h3 (by omega)
set_option maxHeartbeats 4000000 in
set_option maxRecDepth 100000 in
theorem k3_worthOfTrip_7 (l : Launch) (E : En) (la : Nat) (ka : Nat) (Q : Nat → Int) (ta : Nat) (oa : Nat) (T : Nat → Int) (ca : Nat) (pa : Nat) (da : Nat) (sa : Nat) (C : Nat → Int) (P : Int → Int) (dr : Int → Int) (sr : Int → Int) (co : Int → Int) (K : Dy) (kn : Int → Int) (step : Int) (p : Int) (a : Int) (b : Int) (htm : TmK K T C P dr sr co) (hkn : KnK K (Q 1) (Q 2) kn) (hsp : 0 ≤ Q 1 ∧ Q 1 ≤ 20) (hst : 5 ≤ step ∧ step ≤ 11) (hp : 0 ≤ p ∧ p ≤ 40) (ha : 0 ≤ a ∧ a ≤ 8) (hb : 0 ≤ b ∧ b ≤ 8) : Cm l E y3_worthOfTrip c3_worthOfTrip 8 (some .int) { frames := 15, cells := 0, slots := 0, locals := 416 } [.ref la, .int (iZ step), .int (iZ p), .int (iZ a), .int (iZ b)] [(la, o3 (some ta) (some ka) Q), (ka, aLng E 39852 kn), (ta, o7 (some ca) (some oa) T), (oa, aInt E 24 co), (ca, o1 (some pa) (some da) (some sa) C), (pa, aInt E 5 P), (da, aInt E 24 dr), (sa, aInt E 24 sr)] (fun r ws => ∃ (v : Int), ∃ (kn1 : Int → Int), r = some (.int (iZ v)) ∧ ws = [(la, o3 (some ta) (some ka) Q), (ka, aLng E 39852 kn1), (ta, o7 (some ca) (some oa) T), (oa, aInt E 24 co), (ca, o1 (some pa) (some da) (some sa) C), (pa, aInt E 5 P), (da, aInt E 24 dr), (sa, aInt E 24 sr)] ∧ (v = tpF K (Q 1) step p a b ∧ KnK K (Q 1) (Q 2) kn1 ∧ (v = -99999 ∨ (0 ≤ v ∧ v ≤ 8000)))) := by
  refine Cm.of (by decide +kernel) (Nat.le_of_ble_eq_true rfl) (fun Γ A hl hargs hin G F => ?_)
  subst hl
  have tok := htm.2.1
  have tse := tok.2.1
  refine j_aload_n G 0 rfl d3_worthOfTrip_0 ?_
  refine j_get G 0 3 0 in3 fl3_16 d3_worthOfTrip_1 rfl rfl (by decide) (v := .ref ta) rfl rfl ?_
  refine j_iload_n G 3 rfl d3_worthOfTrip_4 ?_
  refine j_VP G (k7_seated (xl Γ) E ta oa T ca pa da sa C P dr sr co K a (by first | assumption | omega | (simp only [upS, reduceIte, Nat.reduceEqDiff, eq_self, List.length_cons, List.length_nil, List.length_append] <;> omega)) (by first | assumption | omega | (simp only [upS, reduceIte, Nat.reduceEqDiff, eq_self, List.length_cons, List.length_nil, List.length_append] <;> omega))) mw7_seated ml3_57 [2, 3, 4, 5, 6, 7] rfl 2 7 rfl rfl rfl ⟨Nat.le_of_ble_eq_true rfl, Nat.le_of_ble_eq_true rfl⟩ rfl (rest := []) rfl (Nat.le_of_ble_eq_true rfl) d3_worthOfTrip_5 ⟨Nat.le_of_ble_eq_true rfl, Nat.le_of_ble_eq_true rfl⟩ (fun r hr => ?_)
  obtain ⟨v2, rfl, ⟨hq1_0, hq1_1, hq1_2, hq1_3, hq1_4⟩⟩ := hr
  have hd0 := hq1_0
  have hd1 := hq1_1
  have hd2 := hq1_2
  have hd3 := hq1_3
  have hd4 := hq1_4
  refine j_istore G d3_worthOfTrip_8 (by decide) rfl ?_
  refine j_aload_n G 1 rfl d3_worthOfTrip_10 ?_
  refine j_get G 0 3 0 in3 fl3_16 d3_worthOfTrip_11 rfl rfl (by decide) (v := .ref ta) rfl rfl ?_
  refine j_iload G 5 rfl d3_worthOfTrip_14 ?_
  refine j_VP G (k7_seated (xl Γ) E ta oa T ca pa da sa C P dr sr co K b (by first | assumption | omega | (simp only [upS, reduceIte, Nat.reduceEqDiff, eq_self, List.length_cons, List.length_nil, List.length_append] <;> omega)) (by first | assumption | omega | (simp only [upS, reduceIte, Nat.reduceEqDiff, eq_self, List.length_cons, List.length_nil, List.length_append] <;> omega))) mw7_seated ml3_57 [2, 3, 4, 5, 6, 7] rfl 2 7 rfl rfl rfl ⟨Nat.le_of_ble_eq_true rfl, Nat.le_of_ble_eq_true rfl⟩ rfl (rest := []) rfl (Nat.le_of_ble_eq_true rfl) d3_worthOfTrip_16 ⟨Nat.le_of_ble_eq_true rfl, Nat.le_of_ble_eq_true rfl⟩ (fun r hr => ?_)
  obtain ⟨v4, rfl, ⟨hq3_0, hq3_1, hq3_2, hq3_3, hq3_4⟩⟩ := hr
  have hu0 := hq3_0
  have hu1 := hq3_1
  have hu2 := hq3_2
  have hu3 := hq3_3
  have hu4 := hq3_4
  refine j_istore G d3_worthOfTrip_19 (by decide) rfl ?_
  refine j_aload_n G 2 rfl d3_worthOfTrip_21 ?_
  refine j_get G 0 3 0 in3 fl3_16 d3_worthOfTrip_22 rfl rfl (by decide) (v := .ref ta) rfl rfl ?_
  refine j_iload_n G 3 rfl d3_worthOfTrip_25 ?_
  refine j_iload G 1 rfl d3_worthOfTrip_26 ?_
  refine j_iload G 0 rfl d3_worthOfTrip_28 ?_
  refine j_VP G (k7_leastFor (xl Γ) E ta oa T ca pa da sa C P dr sr co K step v2 v4 (by first | assumption | omega | (simp only [upS, reduceIte, Nat.reduceEqDiff, eq_self, List.length_cons, List.length_nil, List.length_append] <;> omega)) (by first | assumption | omega | (simp only [upS, reduceIte, Nat.reduceEqDiff, eq_self, List.length_cons, List.length_nil, List.length_append] <;> omega)) (by first | assumption | omega | (simp only [upS, reduceIte, Nat.reduceEqDiff, eq_self, List.length_cons, List.length_nil, List.length_append] <;> omega)) (by first | assumption | omega | (simp only [upS, reduceIte, Nat.reduceEqDiff, eq_self, List.length_cons, List.length_nil, List.length_append] <;> omega))) mw7_leastFor ml3_60 [2, 3, 4, 5, 6, 7] rfl 2 7 rfl rfl rfl ⟨Nat.le_of_ble_eq_true rfl, Nat.le_of_ble_eq_true rfl⟩ rfl (rest := []) rfl (Nat.le_of_ble_eq_true rfl) d3_worthOfTrip_30 ⟨Nat.le_of_ble_eq_true rfl, Nat.le_of_ble_eq_true rfl⟩ (fun r hr => ?_)
  obtain ⟨v6, rfl, ⟨hq5_0, hq5_1⟩⟩ := hr
  have hw0 := hq5_0
  have hw1 := hq5_1
  refine j_istore G d3_worthOfTrip_33 (by decide) rfl ?_
  refine j_iload G 2 rfl d3_worthOfTrip_35 ?_
  refine j_iload G 1 rfl d3_worthOfTrip_37 ?_
  refine j_iadd G d3_worthOfTrip_39 ?_
  refine j_if_eq (tgt := 61) G d3_worthOfTrip_40 (by decide) (by omega) (fun h7 => ?_) (fun h7 => ?_)
  ·
    refine j_ldc G (-99999) ct3_64 (by decide) d3_worthOfTrip_61 ?_
    exact j_iret G F d3_worthOfTrip_63 ⟨(-99999), kn, rfl, rfl, (by refine ⟨?_, hkn, Or.inl rfl⟩; unfold tpF; rw [← hd0, ← hu0, ← hw0, if_pos (by omega)])⟩
  ·
    refine j_iload G 0 rfl d3_worthOfTrip_43 ?_
    refine j_bipush G d3_worthOfTrip_45 rfl ?_
    refine j_icmp_eq (tgt := 61) G d3_worthOfTrip_47 (by decide) (by omega) (by decide) (fun h8 => ?_) (fun h8 => ?_)
    ·
      refine j_ldc G (-99999) ct3_64 (by decide) d3_worthOfTrip_61 ?_
      exact j_iret G F d3_worthOfTrip_63 ⟨(-99999), kn, rfl, rfl, (by refine ⟨?_, hkn, Or.inl rfl⟩; unfold tpF; rw [← hd0, ← hu0, ← hw0, if_pos (by omega)])⟩
    ·
      refine j_iload_n G 5 rfl d3_worthOfTrip_50 ?_
      refine j_iload G 0 rfl d3_worthOfTrip_51 ?_
      refine j_isub G d3_worthOfTrip_53 ?_
      refine j_aload_n G 3 rfl d3_worthOfTrip_54 ?_
      refine j_get G 0 3 1 in3 fl3_20 d3_worthOfTrip_55 rfl rfl (by decide) (v := .int (iZ (Q 1))) rfl rfl ?_
      refine j_icmp_ge (tgt := 64) G d3_worthOfTrip_58 (by decide) (by omega) (by omega) (fun h9 => ?_) (fun h9 => ?_)
      ·
        refine j_bipush G d3_worthOfTrip_64 rfl ?_
        refine j_iload G 1 rfl d3_worthOfTrip_66 ?_
        refine j_imul G d3_worthOfTrip_68 ?_
        refine j_aload_n G 3 rfl d3_worthOfTrip_69 ?_
        refine j_iload_n G 4 rfl d3_worthOfTrip_70 ?_
        refine j_iconst G d3_worthOfTrip_71 ?_
        refine j_iadd G d3_worthOfTrip_72 ?_
        refine j_iload_n G 5 rfl d3_worthOfTrip_73 ?_
        refine j_iload G 0 rfl d3_worthOfTrip_74 ?_
        refine j_isub G d3_worthOfTrip_76 ?_
        refine j_iload_n G 6 rfl d3_worthOfTrip_77 ?_
        refine j_iload G 2 rfl d3_worthOfTrip_78 ?_
        refine j_isub G d3_worthOfTrip_80 ?_
        refine j_iload G 7 rfl d3_worthOfTrip_81 ?_
        refine j_iload G 1 rfl d3_worthOfTrip_83 ?_
        refine j_isub G d3_worthOfTrip_85 ?_
        refine j_SM G (rm' := { frames := 14, cells := 0, slots := 0, locals := 386 }) (wc := [(la, o3 (some ta) (some ka) Q), (ka, aLng E 39852 kn), (ta, o7 (some ca) (some oa) T), (oa, aInt E 24 co), (ca, o1 (some pa) (some da) (some sa) C), (pa, aInt E 5 P), (da, aInt E 24 dr), (sa, aInt E 24 sr)]) (wr := []) (k3_worthFrom_6 (xl Γ) E la ka Q ta oa T ca pa da sa C P dr sr co K kn (step + 1) (p - v6) (a - v2) (b - v4) (by first | assumption | omega | (simp only [upS, reduceIte, Nat.reduceEqDiff, eq_self, List.length_cons, List.length_nil, List.length_append] <;> omega)) (by first | assumption | omega | (simp only [upS, reduceIte, Nat.reduceEqDiff, eq_self, List.length_cons, List.length_nil, List.length_append] <;> omega)) (by first | assumption | omega | (simp only [upS, reduceIte, Nat.reduceEqDiff, eq_self, List.length_cons, List.length_nil, List.length_append] <;> omega)) (by first | assumption | omega | (simp only [upS, reduceIte, Nat.reduceEqDiff, eq_self, List.length_cons, List.length_nil, List.length_append] <;> omega)) (by first | assumption | omega | (simp only [upS, reduceIte, Nat.reduceEqDiff, eq_self, List.length_cons, List.length_nil, List.length_append] <;> omega)) (by first | assumption | omega | (simp only [upS, reduceIte, Nat.reduceEqDiff, eq_self, List.length_cons, List.length_nil, List.length_append] <;> omega)) (by first | assumption | omega | (simp only [upS, reduceIte, Nat.reduceEqDiff, eq_self, List.length_cons, List.length_nil, List.length_append] <;> omega))) mw3_worthFrom ml3_45 [0, 1, 2, 3, 4, 5, 6, 7] [] rfl rfl ⟨rfl, rfl⟩ (by decide) ⟨Nat.le_of_ble_eq_true rfl, Nat.le_of_ble_eq_true rfl⟩ rfl (rest := [.int (iZ (100 * v4))]) rfl (Nat.le_of_ble_eq_true rfl) d3_worthOfTrip_86 ⟨Nat.le_of_ble_eq_true rfl, Nat.le_of_ble_eq_true rfl⟩ (fun r w1 hr => ?_)
        obtain ⟨v11, kn1_12, rfl, rfl, ⟨hq10_0, hq10_1, hq10_2⟩⟩ := hr
        refine j_eq (ws' := [(la, o3 (some ta) (some ka) Q), (ka, aLng E 39852 kn1_12), (ta, o7 (some ca) (some oa) T), (oa, aInt E 24 co), (ca, o1 (some pa) (some da) (some sa) C), (pa, aInt E 5 P), (da, aInt E 24 dr), (sa, aInt E 24 sr)]) rfl rfl rfl ?_
        have hn0 := hq10_0
        have hn1 := hq10_1
        have hn2 := hq10_2
        refine j_iadd G d3_worthOfTrip_89 ?_
        exact j_iret G F d3_worthOfTrip_90 ⟨(100 * v4) + v11, kn1_12, rfl, rfl, (by refine ⟨?_, hn1, by omega⟩; unfold tpF; rw [← hd0, ← hu0, ← hw0, if_neg (by omega), hn0])⟩
      ·
        refine j_ldc G (-99999) ct3_64 (by decide) d3_worthOfTrip_61 ?_
        exact j_iret G F d3_worthOfTrip_63 ⟨(-99999), kn, rfl, rfl, (by refine ⟨?_, hkn, Or.inl rfl⟩; unfold tpF; rw [← hd0, ← hu0, ← hw0, if_pos (by omega)])⟩
set_option maxHeartbeats 4000000 in
set_option maxRecDepth 100000 in
theorem k3_worthFrom_7 (l : Launch) (E : En) (la : Nat) (ka : Nat) (Q : Nat → Int) (ta : Nat) (oa : Nat) (T : Nat → Int) (ca : Nat) (pa : Nat) (da : Nat) (sa : Nat) (C : Nat → Int) (P : Int → Int) (dr : Int → Int) (sr : Int → Int) (co : Int → Int) (K : Dy) (kn : Int → Int) (step : Int) (p : Int) (a : Int) (b : Int) (htm : TmK K T C P dr sr co) (hkn : KnK K (Q 1) (Q 2) kn) (hsp : 0 ≤ Q 1 ∧ Q 1 ≤ 20) (hst : 5 ≤ step ∧ step ≤ 12) (hp : 0 ≤ p ∧ p ≤ 40) (ha : 0 ≤ a ∧ a ≤ 8) (hb : 0 ≤ b ∧ b ≤ 8) : Cm l E y3_worthFrom c3_worthFrom 11 (some .int) { frames := 16, cells := 0, slots := 0, locals := 443 } [.ref la, .int (iZ step), .int (iZ p), .int (iZ a), .int (iZ b)] [(la, o3 (some ta) (some ka) Q), (ka, aLng E 39852 kn), (ta, o7 (some ca) (some oa) T), (oa, aInt E 24 co), (ca, o1 (some pa) (some da) (some sa) C), (pa, aInt E 5 P), (da, aInt E 24 dr), (sa, aInt E 24 sr)] (fun r ws => ∃ (v : Int), ∃ (kn1 : Int → Int), r = some (.int (iZ v)) ∧ ws = [(la, o3 (some ta) (some ka) Q), (ka, aLng E 39852 kn1), (ta, o7 (some ca) (some oa) T), (oa, aInt E 24 co), (ca, o1 (some pa) (some da) (some sa) C), (pa, aInt E 5 P), (da, aInt E 24 dr), (sa, aInt E 24 sr)] ∧ (v = Vn K (Q 1) step (81 * p + 9 * a + b) ∧ KnK K (Q 1) (Q 2) kn1 ∧ (0 ≤ v ∧ v ≤ 7240))) := by
  refine Cm.of (by decide +kernel) (Nat.le_of_ble_eq_true rfl) (fun Γ A hl hargs hin G F => ?_)
  subst hl
  have tok := htm.2.1
  refine j_iload_n G 1 rfl d3_worthFrom_0 ?_
  refine j_bipush G d3_worthFrom_1 rfl ?_
  refine j_imul G d3_worthFrom_3 ?_
  refine j_iload_n G 2 rfl d3_worthFrom_4 ?_
  refine j_iadd G d3_worthFrom_5 ?_
  refine j_bipush G d3_worthFrom_6 rfl ?_
  refine j_imul G d3_worthFrom_8 ?_
  refine j_iload_n G 3 rfl d3_worthFrom_9 ?_
  refine j_iadd G d3_worthFrom_10 ?_
  refine j_bipush G d3_worthFrom_11 rfl ?_
  refine j_imul G d3_worthFrom_13 ?_
  refine j_iload G 4 rfl d3_worthFrom_14 ?_
  refine j_iadd G d3_worthFrom_16 ?_
  refine j_nm (fun pl epl => ?_)
  refine j_istore G d3_worthFrom_17 (by decide) rfl ?_
  refine j_iload_n G 2 rfl d3_worthFrom_19 ?_
  have hpl : pl = 3321 * step + (81 * p + 9 * a + b) := by omega
  refine j_bipush G d3_worthFrom_20 rfl ?_
  refine j_icmp_ge (tgt := 40) G d3_worthFrom_22 (by decide) (by omega) (by decide) (fun h1 => ?_) (fun h1 => ?_)
  ·
    have he : step = 12 := by omega
    refine j_iload_n G 3 rfl d3_worthFrom_40 ?_
    exact j_iret G F d3_worthFrom_41 ⟨p, kn, rfl, rfl, (by refine ⟨?_, hkn, by omega⟩; rw [he, Vn_e]; omega)⟩
  ·
    have hj : 0 ≤ pl ∧ pl < 39852 := by omega
    have hs11 : 0 ≤ step ∧ step ≤ 11 := by omega
    have hnw := st_now (K := K) (s := step) (p := p) ha hb
    have hdr := dR tok hs11 (st := (81 * p + 9 * a + b)) (by omega)
    have hnr := dNow_r tok hs11 (st := (81 * p + 9 * a + b)) (by omega)
    refine j_iload G 0 rfl d3_worthFrom_25 ?_
    refine j_if_lt (tgt := 40) G d3_worthFrom_27 (by decide) (by omega) (fun h2 => ?_) (fun h2 => ?_)
    ·
      exact absurd h2 (by omega)
    ·
      refine j_iload G 0 rfl d3_worthFrom_30 ?_
      refine j_aload_n G 1 rfl d3_worthFrom_32 ?_
      refine j_get G 0 3 3 in3 fl3_12 d3_worthFrom_33 rfl rfl (by decide) (v := .ref ka) rfl rfl ?_
      refine j_alenL G 1 rfl d3_worthFrom_36 ?_
      refine j_icmp_lt (tgt := 42) G d3_worthFrom_37 (by decide) (by omega) (by decide) (fun h3 => ?_) (fun h3 => ?_)
      ·
        have hje : pl / 3321 = step ∧ pl % 3321 = (81 * p + 9 * a + b) := by omega
        have hkj := hkn.2 pl hj.1 hj.2
        have hed := hkn.1
        refine j_aload_n G 1 rfl d3_worthFrom_42 ?_
        refine j_get G 0 3 3 in3 fl3_12 d3_worthFrom_43 rfl rfl (by decide) (v := .ref ka) rfl rfl ?_
        refine j_iload G 0 rfl d3_worthFrom_46 ?_
        refine j_lald G 1 rfl (by omega) d3_worthFrom_48 ?_
        refine j_bipush G d3_worthFrom_49 rfl ?_
        refine r_lshr G d3_worthFrom_51 ?_
        refine j_topl (y := (lZ (kn pl / 1048576))) (kn_hi (by omega) (by omega)) ?_
        refine j_aload_n G 1 rfl d3_worthFrom_52 ?_
        refine j_get G 0 3 2 in3 fl3_24 d3_worthFrom_53 rfl rfl (by decide) (v := .long (lZ (Q 2))) rfl rfl ?_
        refine j_lcmp G d3_worthFrom_56 (by omega) (by omega) ?_
        refine j_if_ne (tgt := 72) G d3_worthFrom_57 (by decide) (by split <;> first | decide | (split <;> decide)) (fun h4 => ?_) (fun h4 => ?_)
        ·
          have h4 : (kn pl / 1048576) ≠ (Q 2) := by
            revert h4; split <;> (try split) <;> intro h4 <;> omega
          refine j_aload_n G 1 rfl d3_worthFrom_72 ?_
          refine j_get G 0 3 0 in3 fl3_16 d3_worthFrom_73 rfl rfl (by decide) (v := .ref ta) rfl rfl ?_
          refine j_iload_n G 2 rfl d3_worthFrom_76 ?_
          refine j_iload_n G 3 rfl d3_worthFrom_77 ?_
          refine j_VP G (k7_pondWithSpring (xl Γ) E ta oa T ca pa da sa C P dr sr co K step p (by first | assumption | omega | (simp only [upS, reduceIte, Nat.reduceEqDiff, eq_self, List.length_cons, List.length_nil, List.length_append] <;> omega)) (by first | assumption | omega | (simp only [upS, reduceIte, Nat.reduceEqDiff, eq_self, List.length_cons, List.length_nil, List.length_append] <;> omega)) (by first | assumption | omega | (simp only [upS, reduceIte, Nat.reduceEqDiff, eq_self, List.length_cons, List.length_nil, List.length_append] <;> omega))) mw7_pondWithSpring ml3_29 [2, 3, 4, 5, 6, 7] rfl 2 7 rfl rfl rfl ⟨Nat.le_of_ble_eq_true rfl, Nat.le_of_ble_eq_true rfl⟩ rfl (rest := []) rfl (Nat.le_of_ble_eq_true rfl) d3_worthFrom_78 ⟨Nat.le_of_ble_eq_true rfl, Nat.le_of_ble_eq_true rfl⟩ (fun r hr => ?_)
          obtain ⟨v6, rfl, ⟨hq5_0, hq5_1, hq5_2⟩⟩ := hr
          have hf2 := hq5_1
          have hF : dF K step (81 * p + 9 * a + b) = v6 := by have := hq5_0; omega
          refine j_istore G d3_worthFrom_81 (by decide) rfl ?_
          refine j_iload_n G 5 rfl d3_worthFrom_83 ?_
          refine j_aload_n G 2 rfl d3_worthFrom_84 ?_
          refine j_get G 0 3 0 in3 fl3_16 d3_worthFrom_85 rfl rfl (by decide) (v := .ref ta) rfl rfl ?_
          refine j_iload_n G 3 rfl d3_worthFrom_88 ?_
          refine j_VP G (k7_comingAbove (xl Γ) E ta oa T ca pa da sa C P dr sr co K step (by first | assumption | omega | (simp only [upS, reduceIte, Nat.reduceEqDiff, eq_self, List.length_cons, List.length_nil, List.length_append] <;> omega)) (by first | assumption | omega | (simp only [upS, reduceIte, Nat.reduceEqDiff, eq_self, List.length_cons, List.length_nil, List.length_append] <;> omega))) mw7_comingAbove ml3_35 [2, 3, 4, 5, 6, 7] rfl 2 7 rfl rfl rfl ⟨Nat.le_of_ble_eq_true rfl, Nat.le_of_ble_eq_true rfl⟩ rfl (rest := [.int (iZ a)]) rfl (Nat.le_of_ble_eq_true rfl) d3_worthFrom_89 ⟨Nat.le_of_ble_eq_true rfl, Nat.le_of_ble_eq_true rfl⟩ (fun r hr => ?_)
          obtain ⟨v8, rfl, ⟨hq7_0, hq7_1, hq7_2⟩⟩ := hr
          have hca := hq7_0
          have hcb := hq7_1
          refine j_iadd G d3_worthFrom_92 ?_
          refine j_SP G (k3_waiting (xl Γ) E (a + v8) (by first | assumption | omega | (simp only [upS, reduceIte, Nat.reduceEqDiff, eq_self, List.length_cons, List.length_nil, List.length_append] <;> omega))) mw3_waiting ml3_39 [] rfl ⟨Nat.le_of_ble_eq_true rfl, Nat.le_of_ble_eq_true rfl⟩ rfl (rest := []) rfl (Nat.le_of_ble_eq_true rfl) d3_worthFrom_93 ⟨Nat.le_of_ble_eq_true rfl, Nat.le_of_ble_eq_true rfl⟩ (fun r hr => ?_)
          obtain ⟨v10, rfl, hq9⟩ := hr
          have hA : dA K step (81 * p + 9 * a + b) = v10 := by have := hq9; omega
          have hta := hq9
          refine j_istore G d3_worthFrom_96 (by decide) rfl ?_
          refine j_iload G 7 rfl d3_worthFrom_98 ?_
          refine j_aload_n G 3 rfl d3_worthFrom_100 ?_
          refine j_get G 0 3 0 in3 fl3_16 d3_worthFrom_101 rfl rfl (by decide) (v := .ref ta) rfl rfl ?_
          refine j_iload_n G 4 rfl d3_worthFrom_104 ?_
          refine j_VP G (k7_comingBelow (xl Γ) E ta oa T ca pa da sa C P dr sr co K step (by first | assumption | omega | (simp only [upS, reduceIte, Nat.reduceEqDiff, eq_self, List.length_cons, List.length_nil, List.length_append] <;> omega)) (by first | assumption | omega | (simp only [upS, reduceIte, Nat.reduceEqDiff, eq_self, List.length_cons, List.length_nil, List.length_append] <;> omega))) mw7_comingBelow ml3_42 [2, 3, 4, 5, 6, 7] rfl 2 7 rfl rfl rfl ⟨Nat.le_of_ble_eq_true rfl, Nat.le_of_ble_eq_true rfl⟩ rfl (rest := [.int (iZ b)]) rfl (Nat.le_of_ble_eq_true rfl) d3_worthFrom_105 ⟨Nat.le_of_ble_eq_true rfl, Nat.le_of_ble_eq_true rfl⟩ (fun r hr => ?_)
          obtain ⟨v12, rfl, ⟨hq11_0, hq11_1, hq11_2⟩⟩ := hr
          have hda := hq11_0
          have hdb := hq11_1
          refine j_iadd G d3_worthFrom_108 ?_
          refine j_SP G (k3_waiting (xl Γ) E (b + v12) (by first | assumption | omega | (simp only [upS, reduceIte, Nat.reduceEqDiff, eq_self, List.length_cons, List.length_nil, List.length_append] <;> omega))) mw3_waiting ml3_39 [] rfl ⟨Nat.le_of_ble_eq_true rfl, Nat.le_of_ble_eq_true rfl⟩ rfl (rest := []) rfl (Nat.le_of_ble_eq_true rfl) d3_worthFrom_109 ⟨Nat.le_of_ble_eq_true rfl, Nat.le_of_ble_eq_true rfl⟩ (fun r hr => ?_)
          obtain ⟨v14, rfl, hq13⟩ := hr
          have hB : dB K step (81 * p + 9 * a + b) = v14 := by have := hq13; omega
          have htb := hq13
          refine j_istore G d3_worthFrom_112 (by decide) rfl ?_
          refine j_aload_n G 4 rfl d3_worthFrom_114 ?_
          refine j_iload_n G 5 rfl d3_worthFrom_115 ?_
          refine j_iconst G d3_worthFrom_116 ?_
          refine j_iadd G d3_worthFrom_117 ?_
          refine j_iload G 2 rfl d3_worthFrom_118 ?_
          refine j_iload G 1 rfl d3_worthFrom_120 ?_
          refine j_iload G 0 rfl d3_worthFrom_122 ?_
          refine j_SM G (rm' := { frames := 14, cells := 0, slots := 0, locals := 386 }) (wc := [(la, o3 (some ta) (some ka) Q), (ka, aLng E 39852 kn), (ta, o7 (some ca) (some oa) T), (oa, aInt E 24 co), (ca, o1 (some pa) (some da) (some sa) C), (pa, aInt E 5 P), (da, aInt E 24 dr), (sa, aInt E 24 sr)]) (wr := []) (k3_worthFrom_6 (xl Γ) E la ka Q ta oa T ca pa da sa C P dr sr co K kn (step + 1) v6 v10 v14 (by first | assumption | omega | (simp only [upS, reduceIte, Nat.reduceEqDiff, eq_self, List.length_cons, List.length_nil, List.length_append] <;> omega)) (by first | assumption | omega | (simp only [upS, reduceIte, Nat.reduceEqDiff, eq_self, List.length_cons, List.length_nil, List.length_append] <;> omega)) (by first | assumption | omega | (simp only [upS, reduceIte, Nat.reduceEqDiff, eq_self, List.length_cons, List.length_nil, List.length_append] <;> omega)) (by first | assumption | omega | (simp only [upS, reduceIte, Nat.reduceEqDiff, eq_self, List.length_cons, List.length_nil, List.length_append] <;> omega)) (by first | assumption | omega | (simp only [upS, reduceIte, Nat.reduceEqDiff, eq_self, List.length_cons, List.length_nil, List.length_append] <;> omega)) (by first | assumption | omega | (simp only [upS, reduceIte, Nat.reduceEqDiff, eq_self, List.length_cons, List.length_nil, List.length_append] <;> omega)) (by first | assumption | omega | (simp only [upS, reduceIte, Nat.reduceEqDiff, eq_self, List.length_cons, List.length_nil, List.length_append] <;> omega))) mw3_worthFrom ml3_45 [0, 1, 2, 3, 4, 5, 6, 7] [] rfl rfl ⟨rfl, rfl⟩ (by decide) ⟨Nat.le_of_ble_eq_true rfl, Nat.le_of_ble_eq_true rfl⟩ rfl (rest := []) rfl (Nat.le_of_ble_eq_true rfl) d3_worthFrom_124 ⟨Nat.le_of_ble_eq_true rfl, Nat.le_of_ble_eq_true rfl⟩ (fun r w1 hr => ?_)
          obtain ⟨v16, kn1_17, rfl, rfl, ⟨hq15_0, hq15_1, hq15_2⟩⟩ := hr
          refine j_eq (ws' := [(la, o3 (some ta) (some ka) Q), (ka, aLng E 39852 kn1_17), (ta, o7 (some ca) (some oa) T), (oa, aInt E 24 co), (ca, o1 (some pa) (some da) (some sa) C), (pa, aInt E 5 P), (da, aInt E 24 dr), (sa, aInt E 24 sr)]) rfl rfl rfl ?_
          have hn0 : v16 = Vn K (Q 1) (step + 1) (dNow K step (81 * p + 9 * a + b)) := by rw [hq15_0]; congr 1; unfold dNow; omega
          have hn1 := hq15_1
          have hn2 := hq15_2
          refine j_istore G d3_worthFrom_127 (by decide) rfl ?_
          refine j_iload G 0 rfl d3_worthFrom_129 ?_
          refine j_aload_n G 5 rfl d3_worthFrom_131 ?_
          refine j_iload_n G 6 rfl d3_worthFrom_132 ?_
          refine j_iload G 3 rfl d3_worthFrom_133 ?_
          refine j_iload G 2 rfl d3_worthFrom_135 ?_
          refine j_iload G 1 rfl d3_worthFrom_137 ?_
          refine j_SM G (rm' := { frames := 15, cells := 0, slots := 0, locals := 416 }) (wc := [(la, o3 (some ta) (some ka) Q), (ka, aLng E 39852 kn1_17), (ta, o7 (some ca) (some oa) T), (oa, aInt E 24 co), (ca, o1 (some pa) (some da) (some sa) C), (pa, aInt E 5 P), (da, aInt E 24 dr), (sa, aInt E 24 sr)]) (wr := []) (k3_worthOfTrip_7 (xl Γ) E la ka Q ta oa T ca pa da sa C P dr sr co K kn1_17 step v6 v10 v14 (by first | assumption | omega | (simp only [upS, reduceIte, Nat.reduceEqDiff, eq_self, List.length_cons, List.length_nil, List.length_append] <;> omega)) (by first | assumption | omega | (simp only [upS, reduceIte, Nat.reduceEqDiff, eq_self, List.length_cons, List.length_nil, List.length_append] <;> omega)) (by first | assumption | omega | (simp only [upS, reduceIte, Nat.reduceEqDiff, eq_self, List.length_cons, List.length_nil, List.length_append] <;> omega)) (by first | assumption | omega | (simp only [upS, reduceIte, Nat.reduceEqDiff, eq_self, List.length_cons, List.length_nil, List.length_append] <;> omega)) (by first | assumption | omega | (simp only [upS, reduceIte, Nat.reduceEqDiff, eq_self, List.length_cons, List.length_nil, List.length_append] <;> omega)) (by first | assumption | omega | (simp only [upS, reduceIte, Nat.reduceEqDiff, eq_self, List.length_cons, List.length_nil, List.length_append] <;> omega)) (by first | assumption | omega | (simp only [upS, reduceIte, Nat.reduceEqDiff, eq_self, List.length_cons, List.length_nil, List.length_append] <;> omega))) mw3_worthOfTrip ml3_49 [0, 1, 2, 3, 4, 5, 6, 7] [] rfl rfl ⟨rfl, rfl⟩ (by decide) ⟨Nat.le_of_ble_eq_true rfl, Nat.le_of_ble_eq_true rfl⟩ rfl (rest := [.int (iZ v16)]) rfl (Nat.le_of_ble_eq_true rfl) d3_worthFrom_139 ⟨Nat.le_of_ble_eq_true rfl, Nat.le_of_ble_eq_true rfl⟩ (fun r w1 hr => ?_)
          obtain ⟨v19, kn1_20, rfl, rfl, ⟨hq18_0, hq18_1, hq18_2⟩⟩ := hr
          refine j_eq (ws' := [(la, o3 (some ta) (some ka) Q), (ka, aLng E 39852 kn1_20), (ta, o7 (some ca) (some oa) T), (oa, aInt E 24 co), (ca, o1 (some pa) (some da) (some sa) C), (pa, aInt E 5 P), (da, aInt E 24 dr), (sa, aInt E 24 sr)]) rfl rfl rfl ?_
          have ht0 : v19 = tpF K (Q 1) step (dF K step (81 * p + 9 * a + b)) (dA K step (81 * p + 9 * a + b)) (dB K step (81 * p + 9 * a + b)) := by rw [hF, hA, hB]; exact hq18_0
          have ht1 := hq18_1
          have ht2 := hq18_2
          refine j_mmax G ml3_52 (by omega) (by omega) ⟨Nat.le_of_ble_eq_true rfl, Nat.le_of_ble_eq_true rfl⟩ ⟨Nat.le_of_ble_eq_true rfl, Nat.le_of_ble_eq_true rfl⟩ d3_worthFrom_142 ?_
          have hmx := vn_max tok hs11 (by omega) hsp.1 hn0 ht0
          have hmr := Vn_r tok hsp.1 (s := step) (st := (81 * p + 9 * a + b)) (by omega) (by omega)
          refine j_istore G d3_worthFrom_145 (by decide) rfl ?_
          refine j_aload_n G 6 rfl d3_worthFrom_147 ?_
          refine j_get G 0 3 3 in3 fl3_12 d3_worthFrom_148 rfl rfl (by decide) (v := .ref ka) rfl rfl ?_
          refine j_iload G 5 rfl d3_worthFrom_151 ?_
          refine j_aload_n G 6 rfl d3_worthFrom_153 ?_
          refine j_get G 0 3 2 in3 fl3_24 d3_worthFrom_154 rfl rfl (by decide) (v := .long (lZ (Q 2))) rfl rfl ?_
          refine j_bipush G d3_worthFrom_157 rfl ?_
          refine r_lshl G d3_worthFrom_159 ?_
          refine j_topl (y := (lZ (Q 2 * 1048576))) (kn_sh (by omega) (by omega)) ?_
          refine j_iload G 0 rfl d3_worthFrom_160 ?_
          refine j_i2l G d3_worthFrom_162 (by omega) ?_
          refine r_lor G d3_worthFrom_163 ?_
          refine j_topl (y := (lZ (Q 2 * 1048576 + (max v16 v19)))) (kn_or (by omega) (by omega) (by omega) (by omega)) ?_
          refine j_last G 1 rfl (by omega) d3_worthFrom_164 ?_
          refine j_iload G 0 rfl d3_worthFrom_165 ?_
          exact j_iret G F d3_worthFrom_167 ⟨max v16 v19, (upI kn1_20 pl (Q 2 * 1048576 + (max v16 v19))), rfl, rfl, (by exact ⟨hmx, KnK.up ht1 hj.1 hj.2 (by rw [hje.1, hje.2]; exact hmx) (by omega), by omega⟩)⟩
        ·
          have h4 : ¬ ((kn pl / 1048576) ≠ (Q 2)) := by
            revert h4; split <;> (try split) <;> intro h4 <;> omega
          have hvv := hkj.2 (by omega)
          rw [hje.1, hje.2] at hvv
          have hvr := Vn_r tok hsp.1 (s := step) (st := (81 * p + 9 * a + b)) (by omega) (by omega)
          refine j_aload_n G 1 rfl d3_worthFrom_60 ?_
          refine j_get G 0 3 3 in3 fl3_12 d3_worthFrom_61 rfl rfl (by decide) (v := .ref ka) rfl rfl ?_
          refine j_iload G 0 rfl d3_worthFrom_64 ?_
          refine j_lald G 1 rfl (by omega) d3_worthFrom_66 ?_
          refine j_l2i G d3_worthFrom_67 ?_
          refine j_ldc G 1048575 ct3_28 (by decide) d3_worthFrom_68 ?_
          refine r_iand G d3_worthFrom_70 ?_
          refine j_top (y := (iZ (kn pl % 1048576))) (kn_lo (by omega) (by omega)) ?_
          exact j_iret G F d3_worthFrom_71 ⟨kn pl % 1048576, kn, rfl, rfl, (by exact ⟨hvv, hkn, by omega⟩)⟩
      ·
        exact absurd h3 (by omega)
set_option maxHeartbeats 4000000 in
set_option maxRecDepth 100000 in
theorem k3_worthOfTrip_8 (l : Launch) (E : En) (la : Nat) (ka : Nat) (Q : Nat → Int) (ta : Nat) (oa : Nat) (T : Nat → Int) (ca : Nat) (pa : Nat) (da : Nat) (sa : Nat) (C : Nat → Int) (P : Int → Int) (dr : Int → Int) (sr : Int → Int) (co : Int → Int) (K : Dy) (kn : Int → Int) (step : Int) (p : Int) (a : Int) (b : Int) (htm : TmK K T C P dr sr co) (hkn : KnK K (Q 1) (Q 2) kn) (hsp : 0 ≤ Q 1 ∧ Q 1 ≤ 20) (hst : 4 ≤ step ∧ step ≤ 11) (hp : 0 ≤ p ∧ p ≤ 40) (ha : 0 ≤ a ∧ a ≤ 8) (hb : 0 ≤ b ∧ b ≤ 8) : Cm l E y3_worthOfTrip c3_worthOfTrip 8 (some .int) { frames := 17, cells := 0, slots := 0, locals := 473 } [.ref la, .int (iZ step), .int (iZ p), .int (iZ a), .int (iZ b)] [(la, o3 (some ta) (some ka) Q), (ka, aLng E 39852 kn), (ta, o7 (some ca) (some oa) T), (oa, aInt E 24 co), (ca, o1 (some pa) (some da) (some sa) C), (pa, aInt E 5 P), (da, aInt E 24 dr), (sa, aInt E 24 sr)] (fun r ws => ∃ (v : Int), ∃ (kn1 : Int → Int), r = some (.int (iZ v)) ∧ ws = [(la, o3 (some ta) (some ka) Q), (ka, aLng E 39852 kn1), (ta, o7 (some ca) (some oa) T), (oa, aInt E 24 co), (ca, o1 (some pa) (some da) (some sa) C), (pa, aInt E 5 P), (da, aInt E 24 dr), (sa, aInt E 24 sr)] ∧ (v = tpF K (Q 1) step p a b ∧ KnK K (Q 1) (Q 2) kn1 ∧ (v = -99999 ∨ (0 ≤ v ∧ v ≤ 8000)))) := by
  refine Cm.of (by decide +kernel) (Nat.le_of_ble_eq_true rfl) (fun Γ A hl hargs hin G F => ?_)
  subst hl
  have tok := htm.2.1
  have tse := tok.2.1
  refine j_aload_n G 0 rfl d3_worthOfTrip_0 ?_
  refine j_get G 0 3 0 in3 fl3_16 d3_worthOfTrip_1 rfl rfl (by decide) (v := .ref ta) rfl rfl ?_
  refine j_iload_n G 3 rfl d3_worthOfTrip_4 ?_
  refine j_VP G (k7_seated (xl Γ) E ta oa T ca pa da sa C P dr sr co K a (by first | assumption | omega | (simp only [upS, reduceIte, Nat.reduceEqDiff, eq_self, List.length_cons, List.length_nil, List.length_append] <;> omega)) (by first | assumption | omega | (simp only [upS, reduceIte, Nat.reduceEqDiff, eq_self, List.length_cons, List.length_nil, List.length_append] <;> omega))) mw7_seated ml3_57 [2, 3, 4, 5, 6, 7] rfl 2 7 rfl rfl rfl ⟨Nat.le_of_ble_eq_true rfl, Nat.le_of_ble_eq_true rfl⟩ rfl (rest := []) rfl (Nat.le_of_ble_eq_true rfl) d3_worthOfTrip_5 ⟨Nat.le_of_ble_eq_true rfl, Nat.le_of_ble_eq_true rfl⟩ (fun r hr => ?_)
  obtain ⟨v2, rfl, ⟨hq1_0, hq1_1, hq1_2, hq1_3, hq1_4⟩⟩ := hr
  have hd0 := hq1_0
  have hd1 := hq1_1
  have hd2 := hq1_2
  have hd3 := hq1_3
  have hd4 := hq1_4
  refine j_istore G d3_worthOfTrip_8 (by decide) rfl ?_
  refine j_aload_n G 1 rfl d3_worthOfTrip_10 ?_
  refine j_get G 0 3 0 in3 fl3_16 d3_worthOfTrip_11 rfl rfl (by decide) (v := .ref ta) rfl rfl ?_
  refine j_iload G 5 rfl d3_worthOfTrip_14 ?_
  refine j_VP G (k7_seated (xl Γ) E ta oa T ca pa da sa C P dr sr co K b (by first | assumption | omega | (simp only [upS, reduceIte, Nat.reduceEqDiff, eq_self, List.length_cons, List.length_nil, List.length_append] <;> omega)) (by first | assumption | omega | (simp only [upS, reduceIte, Nat.reduceEqDiff, eq_self, List.length_cons, List.length_nil, List.length_append] <;> omega))) mw7_seated ml3_57 [2, 3, 4, 5, 6, 7] rfl 2 7 rfl rfl rfl ⟨Nat.le_of_ble_eq_true rfl, Nat.le_of_ble_eq_true rfl⟩ rfl (rest := []) rfl (Nat.le_of_ble_eq_true rfl) d3_worthOfTrip_16 ⟨Nat.le_of_ble_eq_true rfl, Nat.le_of_ble_eq_true rfl⟩ (fun r hr => ?_)
  obtain ⟨v4, rfl, ⟨hq3_0, hq3_1, hq3_2, hq3_3, hq3_4⟩⟩ := hr
  have hu0 := hq3_0
  have hu1 := hq3_1
  have hu2 := hq3_2
  have hu3 := hq3_3
  have hu4 := hq3_4
  refine j_istore G d3_worthOfTrip_19 (by decide) rfl ?_
  refine j_aload_n G 2 rfl d3_worthOfTrip_21 ?_
  refine j_get G 0 3 0 in3 fl3_16 d3_worthOfTrip_22 rfl rfl (by decide) (v := .ref ta) rfl rfl ?_
  refine j_iload_n G 3 rfl d3_worthOfTrip_25 ?_
  refine j_iload G 1 rfl d3_worthOfTrip_26 ?_
  refine j_iload G 0 rfl d3_worthOfTrip_28 ?_
  refine j_VP G (k7_leastFor (xl Γ) E ta oa T ca pa da sa C P dr sr co K step v2 v4 (by first | assumption | omega | (simp only [upS, reduceIte, Nat.reduceEqDiff, eq_self, List.length_cons, List.length_nil, List.length_append] <;> omega)) (by first | assumption | omega | (simp only [upS, reduceIte, Nat.reduceEqDiff, eq_self, List.length_cons, List.length_nil, List.length_append] <;> omega)) (by first | assumption | omega | (simp only [upS, reduceIte, Nat.reduceEqDiff, eq_self, List.length_cons, List.length_nil, List.length_append] <;> omega)) (by first | assumption | omega | (simp only [upS, reduceIte, Nat.reduceEqDiff, eq_self, List.length_cons, List.length_nil, List.length_append] <;> omega))) mw7_leastFor ml3_60 [2, 3, 4, 5, 6, 7] rfl 2 7 rfl rfl rfl ⟨Nat.le_of_ble_eq_true rfl, Nat.le_of_ble_eq_true rfl⟩ rfl (rest := []) rfl (Nat.le_of_ble_eq_true rfl) d3_worthOfTrip_30 ⟨Nat.le_of_ble_eq_true rfl, Nat.le_of_ble_eq_true rfl⟩ (fun r hr => ?_)
  obtain ⟨v6, rfl, ⟨hq5_0, hq5_1⟩⟩ := hr
  have hw0 := hq5_0
  have hw1 := hq5_1
  refine j_istore G d3_worthOfTrip_33 (by decide) rfl ?_
  refine j_iload G 2 rfl d3_worthOfTrip_35 ?_
  refine j_iload G 1 rfl d3_worthOfTrip_37 ?_
  refine j_iadd G d3_worthOfTrip_39 ?_
  refine j_if_eq (tgt := 61) G d3_worthOfTrip_40 (by decide) (by omega) (fun h7 => ?_) (fun h7 => ?_)
  ·
    refine j_ldc G (-99999) ct3_64 (by decide) d3_worthOfTrip_61 ?_
    exact j_iret G F d3_worthOfTrip_63 ⟨(-99999), kn, rfl, rfl, (by refine ⟨?_, hkn, Or.inl rfl⟩; unfold tpF; rw [← hd0, ← hu0, ← hw0, if_pos (by omega)])⟩
  ·
    refine j_iload G 0 rfl d3_worthOfTrip_43 ?_
    refine j_bipush G d3_worthOfTrip_45 rfl ?_
    refine j_icmp_eq (tgt := 61) G d3_worthOfTrip_47 (by decide) (by omega) (by decide) (fun h8 => ?_) (fun h8 => ?_)
    ·
      refine j_ldc G (-99999) ct3_64 (by decide) d3_worthOfTrip_61 ?_
      exact j_iret G F d3_worthOfTrip_63 ⟨(-99999), kn, rfl, rfl, (by refine ⟨?_, hkn, Or.inl rfl⟩; unfold tpF; rw [← hd0, ← hu0, ← hw0, if_pos (by omega)])⟩
    ·
      refine j_iload_n G 5 rfl d3_worthOfTrip_50 ?_
      refine j_iload G 0 rfl d3_worthOfTrip_51 ?_
      refine j_isub G d3_worthOfTrip_53 ?_
      refine j_aload_n G 3 rfl d3_worthOfTrip_54 ?_
      refine j_get G 0 3 1 in3 fl3_20 d3_worthOfTrip_55 rfl rfl (by decide) (v := .int (iZ (Q 1))) rfl rfl ?_
      refine j_icmp_ge (tgt := 64) G d3_worthOfTrip_58 (by decide) (by omega) (by omega) (fun h9 => ?_) (fun h9 => ?_)
      ·
        refine j_bipush G d3_worthOfTrip_64 rfl ?_
        refine j_iload G 1 rfl d3_worthOfTrip_66 ?_
        refine j_imul G d3_worthOfTrip_68 ?_
        refine j_aload_n G 3 rfl d3_worthOfTrip_69 ?_
        refine j_iload_n G 4 rfl d3_worthOfTrip_70 ?_
        refine j_iconst G d3_worthOfTrip_71 ?_
        refine j_iadd G d3_worthOfTrip_72 ?_
        refine j_iload_n G 5 rfl d3_worthOfTrip_73 ?_
        refine j_iload G 0 rfl d3_worthOfTrip_74 ?_
        refine j_isub G d3_worthOfTrip_76 ?_
        refine j_iload_n G 6 rfl d3_worthOfTrip_77 ?_
        refine j_iload G 2 rfl d3_worthOfTrip_78 ?_
        refine j_isub G d3_worthOfTrip_80 ?_
        refine j_iload G 7 rfl d3_worthOfTrip_81 ?_
        refine j_iload G 1 rfl d3_worthOfTrip_83 ?_
        refine j_isub G d3_worthOfTrip_85 ?_
        refine j_SM G (rm' := { frames := 16, cells := 0, slots := 0, locals := 443 }) (wc := [(la, o3 (some ta) (some ka) Q), (ka, aLng E 39852 kn), (ta, o7 (some ca) (some oa) T), (oa, aInt E 24 co), (ca, o1 (some pa) (some da) (some sa) C), (pa, aInt E 5 P), (da, aInt E 24 dr), (sa, aInt E 24 sr)]) (wr := []) (k3_worthFrom_7 (xl Γ) E la ka Q ta oa T ca pa da sa C P dr sr co K kn (step + 1) (p - v6) (a - v2) (b - v4) (by first | assumption | omega | (simp only [upS, reduceIte, Nat.reduceEqDiff, eq_self, List.length_cons, List.length_nil, List.length_append] <;> omega)) (by first | assumption | omega | (simp only [upS, reduceIte, Nat.reduceEqDiff, eq_self, List.length_cons, List.length_nil, List.length_append] <;> omega)) (by first | assumption | omega | (simp only [upS, reduceIte, Nat.reduceEqDiff, eq_self, List.length_cons, List.length_nil, List.length_append] <;> omega)) (by first | assumption | omega | (simp only [upS, reduceIte, Nat.reduceEqDiff, eq_self, List.length_cons, List.length_nil, List.length_append] <;> omega)) (by first | assumption | omega | (simp only [upS, reduceIte, Nat.reduceEqDiff, eq_self, List.length_cons, List.length_nil, List.length_append] <;> omega)) (by first | assumption | omega | (simp only [upS, reduceIte, Nat.reduceEqDiff, eq_self, List.length_cons, List.length_nil, List.length_append] <;> omega)) (by first | assumption | omega | (simp only [upS, reduceIte, Nat.reduceEqDiff, eq_self, List.length_cons, List.length_nil, List.length_append] <;> omega))) mw3_worthFrom ml3_45 [0, 1, 2, 3, 4, 5, 6, 7] [] rfl rfl ⟨rfl, rfl⟩ (by decide) ⟨Nat.le_of_ble_eq_true rfl, Nat.le_of_ble_eq_true rfl⟩ rfl (rest := [.int (iZ (100 * v4))]) rfl (Nat.le_of_ble_eq_true rfl) d3_worthOfTrip_86 ⟨Nat.le_of_ble_eq_true rfl, Nat.le_of_ble_eq_true rfl⟩ (fun r w1 hr => ?_)
        obtain ⟨v11, kn1_12, rfl, rfl, ⟨hq10_0, hq10_1, hq10_2⟩⟩ := hr
        refine j_eq (ws' := [(la, o3 (some ta) (some ka) Q), (ka, aLng E 39852 kn1_12), (ta, o7 (some ca) (some oa) T), (oa, aInt E 24 co), (ca, o1 (some pa) (some da) (some sa) C), (pa, aInt E 5 P), (da, aInt E 24 dr), (sa, aInt E 24 sr)]) rfl rfl rfl ?_
        have hn0 := hq10_0
        have hn1 := hq10_1
        have hn2 := hq10_2
        refine j_iadd G d3_worthOfTrip_89 ?_
        exact j_iret G F d3_worthOfTrip_90 ⟨(100 * v4) + v11, kn1_12, rfl, rfl, (by refine ⟨?_, hn1, by omega⟩; unfold tpF; rw [← hd0, ← hu0, ← hw0, if_neg (by omega), hn0])⟩
      ·
        refine j_ldc G (-99999) ct3_64 (by decide) d3_worthOfTrip_61 ?_
        exact j_iret G F d3_worthOfTrip_63 ⟨(-99999), kn, rfl, rfl, (by refine ⟨?_, hkn, Or.inl rfl⟩; unfold tpF; rw [← hd0, ← hu0, ← hw0, if_pos (by omega)])⟩
set_option maxHeartbeats 4000000 in
set_option maxRecDepth 100000 in
theorem k3_worthFrom_8 (l : Launch) (E : En) (la : Nat) (ka : Nat) (Q : Nat → Int) (ta : Nat) (oa : Nat) (T : Nat → Int) (ca : Nat) (pa : Nat) (da : Nat) (sa : Nat) (C : Nat → Int) (P : Int → Int) (dr : Int → Int) (sr : Int → Int) (co : Int → Int) (K : Dy) (kn : Int → Int) (step : Int) (p : Int) (a : Int) (b : Int) (htm : TmK K T C P dr sr co) (hkn : KnK K (Q 1) (Q 2) kn) (hsp : 0 ≤ Q 1 ∧ Q 1 ≤ 20) (hst : 4 ≤ step ∧ step ≤ 12) (hp : 0 ≤ p ∧ p ≤ 40) (ha : 0 ≤ a ∧ a ≤ 8) (hb : 0 ≤ b ∧ b ≤ 8) : Cm l E y3_worthFrom c3_worthFrom 11 (some .int) { frames := 18, cells := 0, slots := 0, locals := 500 } [.ref la, .int (iZ step), .int (iZ p), .int (iZ a), .int (iZ b)] [(la, o3 (some ta) (some ka) Q), (ka, aLng E 39852 kn), (ta, o7 (some ca) (some oa) T), (oa, aInt E 24 co), (ca, o1 (some pa) (some da) (some sa) C), (pa, aInt E 5 P), (da, aInt E 24 dr), (sa, aInt E 24 sr)] (fun r ws => ∃ (v : Int), ∃ (kn1 : Int → Int), r = some (.int (iZ v)) ∧ ws = [(la, o3 (some ta) (some ka) Q), (ka, aLng E 39852 kn1), (ta, o7 (some ca) (some oa) T), (oa, aInt E 24 co), (ca, o1 (some pa) (some da) (some sa) C), (pa, aInt E 5 P), (da, aInt E 24 dr), (sa, aInt E 24 sr)] ∧ (v = Vn K (Q 1) step (81 * p + 9 * a + b) ∧ KnK K (Q 1) (Q 2) kn1 ∧ (0 ≤ v ∧ v ≤ 7240))) := by
  refine Cm.of (by decide +kernel) (Nat.le_of_ble_eq_true rfl) (fun Γ A hl hargs hin G F => ?_)
  subst hl
  have tok := htm.2.1
  refine j_iload_n G 1 rfl d3_worthFrom_0 ?_
  refine j_bipush G d3_worthFrom_1 rfl ?_
  refine j_imul G d3_worthFrom_3 ?_
  refine j_iload_n G 2 rfl d3_worthFrom_4 ?_
  refine j_iadd G d3_worthFrom_5 ?_
  refine j_bipush G d3_worthFrom_6 rfl ?_
  refine j_imul G d3_worthFrom_8 ?_
  refine j_iload_n G 3 rfl d3_worthFrom_9 ?_
  refine j_iadd G d3_worthFrom_10 ?_
  refine j_bipush G d3_worthFrom_11 rfl ?_
  refine j_imul G d3_worthFrom_13 ?_
  refine j_iload G 4 rfl d3_worthFrom_14 ?_
  refine j_iadd G d3_worthFrom_16 ?_
  refine j_nm (fun pl epl => ?_)
  refine j_istore G d3_worthFrom_17 (by decide) rfl ?_
  refine j_iload_n G 2 rfl d3_worthFrom_19 ?_
  have hpl : pl = 3321 * step + (81 * p + 9 * a + b) := by omega
  refine j_bipush G d3_worthFrom_20 rfl ?_
  refine j_icmp_ge (tgt := 40) G d3_worthFrom_22 (by decide) (by omega) (by decide) (fun h1 => ?_) (fun h1 => ?_)
  ·
    have he : step = 12 := by omega
    refine j_iload_n G 3 rfl d3_worthFrom_40 ?_
    exact j_iret G F d3_worthFrom_41 ⟨p, kn, rfl, rfl, (by refine ⟨?_, hkn, by omega⟩; rw [he, Vn_e]; omega)⟩
  ·
    have hj : 0 ≤ pl ∧ pl < 39852 := by omega
    have hs11 : 0 ≤ step ∧ step ≤ 11 := by omega
    have hnw := st_now (K := K) (s := step) (p := p) ha hb
    have hdr := dR tok hs11 (st := (81 * p + 9 * a + b)) (by omega)
    have hnr := dNow_r tok hs11 (st := (81 * p + 9 * a + b)) (by omega)
    refine j_iload G 0 rfl d3_worthFrom_25 ?_
    refine j_if_lt (tgt := 40) G d3_worthFrom_27 (by decide) (by omega) (fun h2 => ?_) (fun h2 => ?_)
    ·
      exact absurd h2 (by omega)
    ·
      refine j_iload G 0 rfl d3_worthFrom_30 ?_
      refine j_aload_n G 1 rfl d3_worthFrom_32 ?_
      refine j_get G 0 3 3 in3 fl3_12 d3_worthFrom_33 rfl rfl (by decide) (v := .ref ka) rfl rfl ?_
      refine j_alenL G 1 rfl d3_worthFrom_36 ?_
      refine j_icmp_lt (tgt := 42) G d3_worthFrom_37 (by decide) (by omega) (by decide) (fun h3 => ?_) (fun h3 => ?_)
      ·
        have hje : pl / 3321 = step ∧ pl % 3321 = (81 * p + 9 * a + b) := by omega
        have hkj := hkn.2 pl hj.1 hj.2
        have hed := hkn.1
        refine j_aload_n G 1 rfl d3_worthFrom_42 ?_
        refine j_get G 0 3 3 in3 fl3_12 d3_worthFrom_43 rfl rfl (by decide) (v := .ref ka) rfl rfl ?_
        refine j_iload G 0 rfl d3_worthFrom_46 ?_
        refine j_lald G 1 rfl (by omega) d3_worthFrom_48 ?_
        refine j_bipush G d3_worthFrom_49 rfl ?_
        refine r_lshr G d3_worthFrom_51 ?_
        refine j_topl (y := (lZ (kn pl / 1048576))) (kn_hi (by omega) (by omega)) ?_
        refine j_aload_n G 1 rfl d3_worthFrom_52 ?_
        refine j_get G 0 3 2 in3 fl3_24 d3_worthFrom_53 rfl rfl (by decide) (v := .long (lZ (Q 2))) rfl rfl ?_
        refine j_lcmp G d3_worthFrom_56 (by omega) (by omega) ?_
        refine j_if_ne (tgt := 72) G d3_worthFrom_57 (by decide) (by split <;> first | decide | (split <;> decide)) (fun h4 => ?_) (fun h4 => ?_)
        ·
          have h4 : (kn pl / 1048576) ≠ (Q 2) := by
            revert h4; split <;> (try split) <;> intro h4 <;> omega
          refine j_aload_n G 1 rfl d3_worthFrom_72 ?_
          refine j_get G 0 3 0 in3 fl3_16 d3_worthFrom_73 rfl rfl (by decide) (v := .ref ta) rfl rfl ?_
          refine j_iload_n G 2 rfl d3_worthFrom_76 ?_
          refine j_iload_n G 3 rfl d3_worthFrom_77 ?_
          refine j_VP G (k7_pondWithSpring (xl Γ) E ta oa T ca pa da sa C P dr sr co K step p (by first | assumption | omega | (simp only [upS, reduceIte, Nat.reduceEqDiff, eq_self, List.length_cons, List.length_nil, List.length_append] <;> omega)) (by first | assumption | omega | (simp only [upS, reduceIte, Nat.reduceEqDiff, eq_self, List.length_cons, List.length_nil, List.length_append] <;> omega)) (by first | assumption | omega | (simp only [upS, reduceIte, Nat.reduceEqDiff, eq_self, List.length_cons, List.length_nil, List.length_append] <;> omega))) mw7_pondWithSpring ml3_29 [2, 3, 4, 5, 6, 7] rfl 2 7 rfl rfl rfl ⟨Nat.le_of_ble_eq_true rfl, Nat.le_of_ble_eq_true rfl⟩ rfl (rest := []) rfl (Nat.le_of_ble_eq_true rfl) d3_worthFrom_78 ⟨Nat.le_of_ble_eq_true rfl, Nat.le_of_ble_eq_true rfl⟩ (fun r hr => ?_)
          obtain ⟨v6, rfl, ⟨hq5_0, hq5_1, hq5_2⟩⟩ := hr
          have hf2 := hq5_1
          have hF : dF K step (81 * p + 9 * a + b) = v6 := by have := hq5_0; omega
          refine j_istore G d3_worthFrom_81 (by decide) rfl ?_
          refine j_iload_n G 5 rfl d3_worthFrom_83 ?_
          refine j_aload_n G 2 rfl d3_worthFrom_84 ?_
          refine j_get G 0 3 0 in3 fl3_16 d3_worthFrom_85 rfl rfl (by decide) (v := .ref ta) rfl rfl ?_
          refine j_iload_n G 3 rfl d3_worthFrom_88 ?_
          refine j_VP G (k7_comingAbove (xl Γ) E ta oa T ca pa da sa C P dr sr co K step (by first | assumption | omega | (simp only [upS, reduceIte, Nat.reduceEqDiff, eq_self, List.length_cons, List.length_nil, List.length_append] <;> omega)) (by first | assumption | omega | (simp only [upS, reduceIte, Nat.reduceEqDiff, eq_self, List.length_cons, List.length_nil, List.length_append] <;> omega))) mw7_comingAbove ml3_35 [2, 3, 4, 5, 6, 7] rfl 2 7 rfl rfl rfl ⟨Nat.le_of_ble_eq_true rfl, Nat.le_of_ble_eq_true rfl⟩ rfl (rest := [.int (iZ a)]) rfl (Nat.le_of_ble_eq_true rfl) d3_worthFrom_89 ⟨Nat.le_of_ble_eq_true rfl, Nat.le_of_ble_eq_true rfl⟩ (fun r hr => ?_)
          obtain ⟨v8, rfl, ⟨hq7_0, hq7_1, hq7_2⟩⟩ := hr
          have hca := hq7_0
          have hcb := hq7_1
          refine j_iadd G d3_worthFrom_92 ?_
          refine j_SP G (k3_waiting (xl Γ) E (a + v8) (by first | assumption | omega | (simp only [upS, reduceIte, Nat.reduceEqDiff, eq_self, List.length_cons, List.length_nil, List.length_append] <;> omega))) mw3_waiting ml3_39 [] rfl ⟨Nat.le_of_ble_eq_true rfl, Nat.le_of_ble_eq_true rfl⟩ rfl (rest := []) rfl (Nat.le_of_ble_eq_true rfl) d3_worthFrom_93 ⟨Nat.le_of_ble_eq_true rfl, Nat.le_of_ble_eq_true rfl⟩ (fun r hr => ?_)
          obtain ⟨v10, rfl, hq9⟩ := hr
          have hA : dA K step (81 * p + 9 * a + b) = v10 := by have := hq9; omega
          have hta := hq9
          refine j_istore G d3_worthFrom_96 (by decide) rfl ?_
          refine j_iload G 7 rfl d3_worthFrom_98 ?_
          refine j_aload_n G 3 rfl d3_worthFrom_100 ?_
          refine j_get G 0 3 0 in3 fl3_16 d3_worthFrom_101 rfl rfl (by decide) (v := .ref ta) rfl rfl ?_
          refine j_iload_n G 4 rfl d3_worthFrom_104 ?_
          refine j_VP G (k7_comingBelow (xl Γ) E ta oa T ca pa da sa C P dr sr co K step (by first | assumption | omega | (simp only [upS, reduceIte, Nat.reduceEqDiff, eq_self, List.length_cons, List.length_nil, List.length_append] <;> omega)) (by first | assumption | omega | (simp only [upS, reduceIte, Nat.reduceEqDiff, eq_self, List.length_cons, List.length_nil, List.length_append] <;> omega))) mw7_comingBelow ml3_42 [2, 3, 4, 5, 6, 7] rfl 2 7 rfl rfl rfl ⟨Nat.le_of_ble_eq_true rfl, Nat.le_of_ble_eq_true rfl⟩ rfl (rest := [.int (iZ b)]) rfl (Nat.le_of_ble_eq_true rfl) d3_worthFrom_105 ⟨Nat.le_of_ble_eq_true rfl, Nat.le_of_ble_eq_true rfl⟩ (fun r hr => ?_)
          obtain ⟨v12, rfl, ⟨hq11_0, hq11_1, hq11_2⟩⟩ := hr
          have hda := hq11_0
          have hdb := hq11_1
          refine j_iadd G d3_worthFrom_108 ?_
          refine j_SP G (k3_waiting (xl Γ) E (b + v12) (by first | assumption | omega | (simp only [upS, reduceIte, Nat.reduceEqDiff, eq_self, List.length_cons, List.length_nil, List.length_append] <;> omega))) mw3_waiting ml3_39 [] rfl ⟨Nat.le_of_ble_eq_true rfl, Nat.le_of_ble_eq_true rfl⟩ rfl (rest := []) rfl (Nat.le_of_ble_eq_true rfl) d3_worthFrom_109 ⟨Nat.le_of_ble_eq_true rfl, Nat.le_of_ble_eq_true rfl⟩ (fun r hr => ?_)
          obtain ⟨v14, rfl, hq13⟩ := hr
          have hB : dB K step (81 * p + 9 * a + b) = v14 := by have := hq13; omega
          have htb := hq13
          refine j_istore G d3_worthFrom_112 (by decide) rfl ?_
          refine j_aload_n G 4 rfl d3_worthFrom_114 ?_
          refine j_iload_n G 5 rfl d3_worthFrom_115 ?_
          refine j_iconst G d3_worthFrom_116 ?_
          refine j_iadd G d3_worthFrom_117 ?_
          refine j_iload G 2 rfl d3_worthFrom_118 ?_
          refine j_iload G 1 rfl d3_worthFrom_120 ?_
          refine j_iload G 0 rfl d3_worthFrom_122 ?_
          refine j_SM G (rm' := { frames := 16, cells := 0, slots := 0, locals := 443 }) (wc := [(la, o3 (some ta) (some ka) Q), (ka, aLng E 39852 kn), (ta, o7 (some ca) (some oa) T), (oa, aInt E 24 co), (ca, o1 (some pa) (some da) (some sa) C), (pa, aInt E 5 P), (da, aInt E 24 dr), (sa, aInt E 24 sr)]) (wr := []) (k3_worthFrom_7 (xl Γ) E la ka Q ta oa T ca pa da sa C P dr sr co K kn (step + 1) v6 v10 v14 (by first | assumption | omega | (simp only [upS, reduceIte, Nat.reduceEqDiff, eq_self, List.length_cons, List.length_nil, List.length_append] <;> omega)) (by first | assumption | omega | (simp only [upS, reduceIte, Nat.reduceEqDiff, eq_self, List.length_cons, List.length_nil, List.length_append] <;> omega)) (by first | assumption | omega | (simp only [upS, reduceIte, Nat.reduceEqDiff, eq_self, List.length_cons, List.length_nil, List.length_append] <;> omega)) (by first | assumption | omega | (simp only [upS, reduceIte, Nat.reduceEqDiff, eq_self, List.length_cons, List.length_nil, List.length_append] <;> omega)) (by first | assumption | omega | (simp only [upS, reduceIte, Nat.reduceEqDiff, eq_self, List.length_cons, List.length_nil, List.length_append] <;> omega)) (by first | assumption | omega | (simp only [upS, reduceIte, Nat.reduceEqDiff, eq_self, List.length_cons, List.length_nil, List.length_append] <;> omega)) (by first | assumption | omega | (simp only [upS, reduceIte, Nat.reduceEqDiff, eq_self, List.length_cons, List.length_nil, List.length_append] <;> omega))) mw3_worthFrom ml3_45 [0, 1, 2, 3, 4, 5, 6, 7] [] rfl rfl ⟨rfl, rfl⟩ (by decide) ⟨Nat.le_of_ble_eq_true rfl, Nat.le_of_ble_eq_true rfl⟩ rfl (rest := []) rfl (Nat.le_of_ble_eq_true rfl) d3_worthFrom_124 ⟨Nat.le_of_ble_eq_true rfl, Nat.le_of_ble_eq_true rfl⟩ (fun r w1 hr => ?_)
          obtain ⟨v16, kn1_17, rfl, rfl, ⟨hq15_0, hq15_1, hq15_2⟩⟩ := hr
          refine j_eq (ws' := [(la, o3 (some ta) (some ka) Q), (ka, aLng E 39852 kn1_17), (ta, o7 (some ca) (some oa) T), (oa, aInt E 24 co), (ca, o1 (some pa) (some da) (some sa) C), (pa, aInt E 5 P), (da, aInt E 24 dr), (sa, aInt E 24 sr)]) rfl rfl rfl ?_
          have hn0 : v16 = Vn K (Q 1) (step + 1) (dNow K step (81 * p + 9 * a + b)) := by rw [hq15_0]; congr 1; unfold dNow; omega
          have hn1 := hq15_1
          have hn2 := hq15_2
          refine j_istore G d3_worthFrom_127 (by decide) rfl ?_
          refine j_iload G 0 rfl d3_worthFrom_129 ?_
          refine j_aload_n G 5 rfl d3_worthFrom_131 ?_
          refine j_iload_n G 6 rfl d3_worthFrom_132 ?_
          refine j_iload G 3 rfl d3_worthFrom_133 ?_
          refine j_iload G 2 rfl d3_worthFrom_135 ?_
          refine j_iload G 1 rfl d3_worthFrom_137 ?_
          refine j_SM G (rm' := { frames := 17, cells := 0, slots := 0, locals := 473 }) (wc := [(la, o3 (some ta) (some ka) Q), (ka, aLng E 39852 kn1_17), (ta, o7 (some ca) (some oa) T), (oa, aInt E 24 co), (ca, o1 (some pa) (some da) (some sa) C), (pa, aInt E 5 P), (da, aInt E 24 dr), (sa, aInt E 24 sr)]) (wr := []) (k3_worthOfTrip_8 (xl Γ) E la ka Q ta oa T ca pa da sa C P dr sr co K kn1_17 step v6 v10 v14 (by first | assumption | omega | (simp only [upS, reduceIte, Nat.reduceEqDiff, eq_self, List.length_cons, List.length_nil, List.length_append] <;> omega)) (by first | assumption | omega | (simp only [upS, reduceIte, Nat.reduceEqDiff, eq_self, List.length_cons, List.length_nil, List.length_append] <;> omega)) (by first | assumption | omega | (simp only [upS, reduceIte, Nat.reduceEqDiff, eq_self, List.length_cons, List.length_nil, List.length_append] <;> omega)) (by first | assumption | omega | (simp only [upS, reduceIte, Nat.reduceEqDiff, eq_self, List.length_cons, List.length_nil, List.length_append] <;> omega)) (by first | assumption | omega | (simp only [upS, reduceIte, Nat.reduceEqDiff, eq_self, List.length_cons, List.length_nil, List.length_append] <;> omega)) (by first | assumption | omega | (simp only [upS, reduceIte, Nat.reduceEqDiff, eq_self, List.length_cons, List.length_nil, List.length_append] <;> omega)) (by first | assumption | omega | (simp only [upS, reduceIte, Nat.reduceEqDiff, eq_self, List.length_cons, List.length_nil, List.length_append] <;> omega))) mw3_worthOfTrip ml3_49 [0, 1, 2, 3, 4, 5, 6, 7] [] rfl rfl ⟨rfl, rfl⟩ (by decide) ⟨Nat.le_of_ble_eq_true rfl, Nat.le_of_ble_eq_true rfl⟩ rfl (rest := [.int (iZ v16)]) rfl (Nat.le_of_ble_eq_true rfl) d3_worthFrom_139 ⟨Nat.le_of_ble_eq_true rfl, Nat.le_of_ble_eq_true rfl⟩ (fun r w1 hr => ?_)
          obtain ⟨v19, kn1_20, rfl, rfl, ⟨hq18_0, hq18_1, hq18_2⟩⟩ := hr
          refine j_eq (ws' := [(la, o3 (some ta) (some ka) Q), (ka, aLng E 39852 kn1_20), (ta, o7 (some ca) (some oa) T), (oa, aInt E 24 co), (ca, o1 (some pa) (some da) (some sa) C), (pa, aInt E 5 P), (da, aInt E 24 dr), (sa, aInt E 24 sr)]) rfl rfl rfl ?_
          have ht0 : v19 = tpF K (Q 1) step (dF K step (81 * p + 9 * a + b)) (dA K step (81 * p + 9 * a + b)) (dB K step (81 * p + 9 * a + b)) := by rw [hF, hA, hB]; exact hq18_0
          have ht1 := hq18_1
          have ht2 := hq18_2
          refine j_mmax G ml3_52 (by omega) (by omega) ⟨Nat.le_of_ble_eq_true rfl, Nat.le_of_ble_eq_true rfl⟩ ⟨Nat.le_of_ble_eq_true rfl, Nat.le_of_ble_eq_true rfl⟩ d3_worthFrom_142 ?_
          have hmx := vn_max tok hs11 (by omega) hsp.1 hn0 ht0
          have hmr := Vn_r tok hsp.1 (s := step) (st := (81 * p + 9 * a + b)) (by omega) (by omega)
          refine j_istore G d3_worthFrom_145 (by decide) rfl ?_
          refine j_aload_n G 6 rfl d3_worthFrom_147 ?_
          refine j_get G 0 3 3 in3 fl3_12 d3_worthFrom_148 rfl rfl (by decide) (v := .ref ka) rfl rfl ?_
          refine j_iload G 5 rfl d3_worthFrom_151 ?_
          refine j_aload_n G 6 rfl d3_worthFrom_153 ?_
          refine j_get G 0 3 2 in3 fl3_24 d3_worthFrom_154 rfl rfl (by decide) (v := .long (lZ (Q 2))) rfl rfl ?_
          refine j_bipush G d3_worthFrom_157 rfl ?_
          refine r_lshl G d3_worthFrom_159 ?_
          refine j_topl (y := (lZ (Q 2 * 1048576))) (kn_sh (by omega) (by omega)) ?_
          refine j_iload G 0 rfl d3_worthFrom_160 ?_
          refine j_i2l G d3_worthFrom_162 (by omega) ?_
          refine r_lor G d3_worthFrom_163 ?_
          refine j_topl (y := (lZ (Q 2 * 1048576 + (max v16 v19)))) (kn_or (by omega) (by omega) (by omega) (by omega)) ?_
          refine j_last G 1 rfl (by omega) d3_worthFrom_164 ?_
          refine j_iload G 0 rfl d3_worthFrom_165 ?_
          exact j_iret G F d3_worthFrom_167 ⟨max v16 v19, (upI kn1_20 pl (Q 2 * 1048576 + (max v16 v19))), rfl, rfl, (by exact ⟨hmx, KnK.up ht1 hj.1 hj.2 (by rw [hje.1, hje.2]; exact hmx) (by omega), by omega⟩)⟩
        ·
          have h4 : ¬ ((kn pl / 1048576) ≠ (Q 2)) := by
            revert h4; split <;> (try split) <;> intro h4 <;> omega
          have hvv := hkj.2 (by omega)
          rw [hje.1, hje.2] at hvv
          have hvr := Vn_r tok hsp.1 (s := step) (st := (81 * p + 9 * a + b)) (by omega) (by omega)
          refine j_aload_n G 1 rfl d3_worthFrom_60 ?_
          refine j_get G 0 3 3 in3 fl3_12 d3_worthFrom_61 rfl rfl (by decide) (v := .ref ka) rfl rfl ?_
          refine j_iload G 0 rfl d3_worthFrom_64 ?_
          refine j_lald G 1 rfl (by omega) d3_worthFrom_66 ?_
          refine j_l2i G d3_worthFrom_67 ?_
          refine j_ldc G 1048575 ct3_28 (by decide) d3_worthFrom_68 ?_
          refine r_iand G d3_worthFrom_70 ?_
          refine j_top (y := (iZ (kn pl % 1048576))) (kn_lo (by omega) (by omega)) ?_
          exact j_iret G F d3_worthFrom_71 ⟨kn pl % 1048576, kn, rfl, rfl, (by exact ⟨hvv, hkn, by omega⟩)⟩
      ·
        exact absurd h3 (by omega)
set_option maxHeartbeats 4000000 in
set_option maxRecDepth 100000 in
theorem k3_worthOfTrip_9 (l : Launch) (E : En) (la : Nat) (ka : Nat) (Q : Nat → Int) (ta : Nat) (oa : Nat) (T : Nat → Int) (ca : Nat) (pa : Nat) (da : Nat) (sa : Nat) (C : Nat → Int) (P : Int → Int) (dr : Int → Int) (sr : Int → Int) (co : Int → Int) (K : Dy) (kn : Int → Int) (step : Int) (p : Int) (a : Int) (b : Int) (htm : TmK K T C P dr sr co) (hkn : KnK K (Q 1) (Q 2) kn) (hsp : 0 ≤ Q 1 ∧ Q 1 ≤ 20) (hst : 3 ≤ step ∧ step ≤ 11) (hp : 0 ≤ p ∧ p ≤ 40) (ha : 0 ≤ a ∧ a ≤ 8) (hb : 0 ≤ b ∧ b ≤ 8) : Cm l E y3_worthOfTrip c3_worthOfTrip 8 (some .int) { frames := 19, cells := 0, slots := 0, locals := 530 } [.ref la, .int (iZ step), .int (iZ p), .int (iZ a), .int (iZ b)] [(la, o3 (some ta) (some ka) Q), (ka, aLng E 39852 kn), (ta, o7 (some ca) (some oa) T), (oa, aInt E 24 co), (ca, o1 (some pa) (some da) (some sa) C), (pa, aInt E 5 P), (da, aInt E 24 dr), (sa, aInt E 24 sr)] (fun r ws => ∃ (v : Int), ∃ (kn1 : Int → Int), r = some (.int (iZ v)) ∧ ws = [(la, o3 (some ta) (some ka) Q), (ka, aLng E 39852 kn1), (ta, o7 (some ca) (some oa) T), (oa, aInt E 24 co), (ca, o1 (some pa) (some da) (some sa) C), (pa, aInt E 5 P), (da, aInt E 24 dr), (sa, aInt E 24 sr)] ∧ (v = tpF K (Q 1) step p a b ∧ KnK K (Q 1) (Q 2) kn1 ∧ (v = -99999 ∨ (0 ≤ v ∧ v ≤ 8000)))) := by
  refine Cm.of (by decide +kernel) (Nat.le_of_ble_eq_true rfl) (fun Γ A hl hargs hin G F => ?_)
  subst hl
  have tok := htm.2.1
  have tse := tok.2.1
  refine j_aload_n G 0 rfl d3_worthOfTrip_0 ?_
  refine j_get G 0 3 0 in3 fl3_16 d3_worthOfTrip_1 rfl rfl (by decide) (v := .ref ta) rfl rfl ?_
  refine j_iload_n G 3 rfl d3_worthOfTrip_4 ?_
  refine j_VP G (k7_seated (xl Γ) E ta oa T ca pa da sa C P dr sr co K a (by first | assumption | omega | (simp only [upS, reduceIte, Nat.reduceEqDiff, eq_self, List.length_cons, List.length_nil, List.length_append] <;> omega)) (by first | assumption | omega | (simp only [upS, reduceIte, Nat.reduceEqDiff, eq_self, List.length_cons, List.length_nil, List.length_append] <;> omega))) mw7_seated ml3_57 [2, 3, 4, 5, 6, 7] rfl 2 7 rfl rfl rfl ⟨Nat.le_of_ble_eq_true rfl, Nat.le_of_ble_eq_true rfl⟩ rfl (rest := []) rfl (Nat.le_of_ble_eq_true rfl) d3_worthOfTrip_5 ⟨Nat.le_of_ble_eq_true rfl, Nat.le_of_ble_eq_true rfl⟩ (fun r hr => ?_)
  obtain ⟨v2, rfl, ⟨hq1_0, hq1_1, hq1_2, hq1_3, hq1_4⟩⟩ := hr
  have hd0 := hq1_0
  have hd1 := hq1_1
  have hd2 := hq1_2
  have hd3 := hq1_3
  have hd4 := hq1_4
  refine j_istore G d3_worthOfTrip_8 (by decide) rfl ?_
  refine j_aload_n G 1 rfl d3_worthOfTrip_10 ?_
  refine j_get G 0 3 0 in3 fl3_16 d3_worthOfTrip_11 rfl rfl (by decide) (v := .ref ta) rfl rfl ?_
  refine j_iload G 5 rfl d3_worthOfTrip_14 ?_
  refine j_VP G (k7_seated (xl Γ) E ta oa T ca pa da sa C P dr sr co K b (by first | assumption | omega | (simp only [upS, reduceIte, Nat.reduceEqDiff, eq_self, List.length_cons, List.length_nil, List.length_append] <;> omega)) (by first | assumption | omega | (simp only [upS, reduceIte, Nat.reduceEqDiff, eq_self, List.length_cons, List.length_nil, List.length_append] <;> omega))) mw7_seated ml3_57 [2, 3, 4, 5, 6, 7] rfl 2 7 rfl rfl rfl ⟨Nat.le_of_ble_eq_true rfl, Nat.le_of_ble_eq_true rfl⟩ rfl (rest := []) rfl (Nat.le_of_ble_eq_true rfl) d3_worthOfTrip_16 ⟨Nat.le_of_ble_eq_true rfl, Nat.le_of_ble_eq_true rfl⟩ (fun r hr => ?_)
  obtain ⟨v4, rfl, ⟨hq3_0, hq3_1, hq3_2, hq3_3, hq3_4⟩⟩ := hr
  have hu0 := hq3_0
  have hu1 := hq3_1
  have hu2 := hq3_2
  have hu3 := hq3_3
  have hu4 := hq3_4
  refine j_istore G d3_worthOfTrip_19 (by decide) rfl ?_
  refine j_aload_n G 2 rfl d3_worthOfTrip_21 ?_
  refine j_get G 0 3 0 in3 fl3_16 d3_worthOfTrip_22 rfl rfl (by decide) (v := .ref ta) rfl rfl ?_
  refine j_iload_n G 3 rfl d3_worthOfTrip_25 ?_
  refine j_iload G 1 rfl d3_worthOfTrip_26 ?_
  refine j_iload G 0 rfl d3_worthOfTrip_28 ?_
  refine j_VP G (k7_leastFor (xl Γ) E ta oa T ca pa da sa C P dr sr co K step v2 v4 (by first | assumption | omega | (simp only [upS, reduceIte, Nat.reduceEqDiff, eq_self, List.length_cons, List.length_nil, List.length_append] <;> omega)) (by first | assumption | omega | (simp only [upS, reduceIte, Nat.reduceEqDiff, eq_self, List.length_cons, List.length_nil, List.length_append] <;> omega)) (by first | assumption | omega | (simp only [upS, reduceIte, Nat.reduceEqDiff, eq_self, List.length_cons, List.length_nil, List.length_append] <;> omega)) (by first | assumption | omega | (simp only [upS, reduceIte, Nat.reduceEqDiff, eq_self, List.length_cons, List.length_nil, List.length_append] <;> omega))) mw7_leastFor ml3_60 [2, 3, 4, 5, 6, 7] rfl 2 7 rfl rfl rfl ⟨Nat.le_of_ble_eq_true rfl, Nat.le_of_ble_eq_true rfl⟩ rfl (rest := []) rfl (Nat.le_of_ble_eq_true rfl) d3_worthOfTrip_30 ⟨Nat.le_of_ble_eq_true rfl, Nat.le_of_ble_eq_true rfl⟩ (fun r hr => ?_)
  obtain ⟨v6, rfl, ⟨hq5_0, hq5_1⟩⟩ := hr
  have hw0 := hq5_0
  have hw1 := hq5_1
  refine j_istore G d3_worthOfTrip_33 (by decide) rfl ?_
  refine j_iload G 2 rfl d3_worthOfTrip_35 ?_
  refine j_iload G 1 rfl d3_worthOfTrip_37 ?_
  refine j_iadd G d3_worthOfTrip_39 ?_
  refine j_if_eq (tgt := 61) G d3_worthOfTrip_40 (by decide) (by omega) (fun h7 => ?_) (fun h7 => ?_)
  ·
    refine j_ldc G (-99999) ct3_64 (by decide) d3_worthOfTrip_61 ?_
    exact j_iret G F d3_worthOfTrip_63 ⟨(-99999), kn, rfl, rfl, (by refine ⟨?_, hkn, Or.inl rfl⟩; unfold tpF; rw [← hd0, ← hu0, ← hw0, if_pos (by omega)])⟩
  ·
    refine j_iload G 0 rfl d3_worthOfTrip_43 ?_
    refine j_bipush G d3_worthOfTrip_45 rfl ?_
    refine j_icmp_eq (tgt := 61) G d3_worthOfTrip_47 (by decide) (by omega) (by decide) (fun h8 => ?_) (fun h8 => ?_)
    ·
      refine j_ldc G (-99999) ct3_64 (by decide) d3_worthOfTrip_61 ?_
      exact j_iret G F d3_worthOfTrip_63 ⟨(-99999), kn, rfl, rfl, (by refine ⟨?_, hkn, Or.inl rfl⟩; unfold tpF; rw [← hd0, ← hu0, ← hw0, if_pos (by omega)])⟩
    ·
      refine j_iload_n G 5 rfl d3_worthOfTrip_50 ?_
      refine j_iload G 0 rfl d3_worthOfTrip_51 ?_
      refine j_isub G d3_worthOfTrip_53 ?_
      refine j_aload_n G 3 rfl d3_worthOfTrip_54 ?_
      refine j_get G 0 3 1 in3 fl3_20 d3_worthOfTrip_55 rfl rfl (by decide) (v := .int (iZ (Q 1))) rfl rfl ?_
      refine j_icmp_ge (tgt := 64) G d3_worthOfTrip_58 (by decide) (by omega) (by omega) (fun h9 => ?_) (fun h9 => ?_)
      ·
        refine j_bipush G d3_worthOfTrip_64 rfl ?_
        refine j_iload G 1 rfl d3_worthOfTrip_66 ?_
        refine j_imul G d3_worthOfTrip_68 ?_
        refine j_aload_n G 3 rfl d3_worthOfTrip_69 ?_
        refine j_iload_n G 4 rfl d3_worthOfTrip_70 ?_
        refine j_iconst G d3_worthOfTrip_71 ?_
        refine j_iadd G d3_worthOfTrip_72 ?_
        refine j_iload_n G 5 rfl d3_worthOfTrip_73 ?_
        refine j_iload G 0 rfl d3_worthOfTrip_74 ?_
        refine j_isub G d3_worthOfTrip_76 ?_
        refine j_iload_n G 6 rfl d3_worthOfTrip_77 ?_
        refine j_iload G 2 rfl d3_worthOfTrip_78 ?_
        refine j_isub G d3_worthOfTrip_80 ?_
        refine j_iload G 7 rfl d3_worthOfTrip_81 ?_
        refine j_iload G 1 rfl d3_worthOfTrip_83 ?_
        refine j_isub G d3_worthOfTrip_85 ?_
        refine j_SM G (rm' := { frames := 18, cells := 0, slots := 0, locals := 500 }) (wc := [(la, o3 (some ta) (some ka) Q), (ka, aLng E 39852 kn), (ta, o7 (some ca) (some oa) T), (oa, aInt E 24 co), (ca, o1 (some pa) (some da) (some sa) C), (pa, aInt E 5 P), (da, aInt E 24 dr), (sa, aInt E 24 sr)]) (wr := []) (k3_worthFrom_8 (xl Γ) E la ka Q ta oa T ca pa da sa C P dr sr co K kn (step + 1) (p - v6) (a - v2) (b - v4) (by first | assumption | omega | (simp only [upS, reduceIte, Nat.reduceEqDiff, eq_self, List.length_cons, List.length_nil, List.length_append] <;> omega)) (by first | assumption | omega | (simp only [upS, reduceIte, Nat.reduceEqDiff, eq_self, List.length_cons, List.length_nil, List.length_append] <;> omega)) (by first | assumption | omega | (simp only [upS, reduceIte, Nat.reduceEqDiff, eq_self, List.length_cons, List.length_nil, List.length_append] <;> omega)) (by first | assumption | omega | (simp only [upS, reduceIte, Nat.reduceEqDiff, eq_self, List.length_cons, List.length_nil, List.length_append] <;> omega)) (by first | assumption | omega | (simp only [upS, reduceIte, Nat.reduceEqDiff, eq_self, List.length_cons, List.length_nil, List.length_append] <;> omega)) (by first | assumption | omega | (simp only [upS, reduceIte, Nat.reduceEqDiff, eq_self, List.length_cons, List.length_nil, List.length_append] <;> omega)) (by first | assumption | omega | (simp only [upS, reduceIte, Nat.reduceEqDiff, eq_self, List.length_cons, List.length_nil, List.length_append] <;> omega))) mw3_worthFrom ml3_45 [0, 1, 2, 3, 4, 5, 6, 7] [] rfl rfl ⟨rfl, rfl⟩ (by decide) ⟨Nat.le_of_ble_eq_true rfl, Nat.le_of_ble_eq_true rfl⟩ rfl (rest := [.int (iZ (100 * v4))]) rfl (Nat.le_of_ble_eq_true rfl) d3_worthOfTrip_86 ⟨Nat.le_of_ble_eq_true rfl, Nat.le_of_ble_eq_true rfl⟩ (fun r w1 hr => ?_)
        obtain ⟨v11, kn1_12, rfl, rfl, ⟨hq10_0, hq10_1, hq10_2⟩⟩ := hr
        refine j_eq (ws' := [(la, o3 (some ta) (some ka) Q), (ka, aLng E 39852 kn1_12), (ta, o7 (some ca) (some oa) T), (oa, aInt E 24 co), (ca, o1 (some pa) (some da) (some sa) C), (pa, aInt E 5 P), (da, aInt E 24 dr), (sa, aInt E 24 sr)]) rfl rfl rfl ?_
        have hn0 := hq10_0
        have hn1 := hq10_1
        have hn2 := hq10_2
        refine j_iadd G d3_worthOfTrip_89 ?_
        exact j_iret G F d3_worthOfTrip_90 ⟨(100 * v4) + v11, kn1_12, rfl, rfl, (by refine ⟨?_, hn1, by omega⟩; unfold tpF; rw [← hd0, ← hu0, ← hw0, if_neg (by omega), hn0])⟩
      ·
        refine j_ldc G (-99999) ct3_64 (by decide) d3_worthOfTrip_61 ?_
        exact j_iret G F d3_worthOfTrip_63 ⟨(-99999), kn, rfl, rfl, (by refine ⟨?_, hkn, Or.inl rfl⟩; unfold tpF; rw [← hd0, ← hu0, ← hw0, if_pos (by omega)])⟩
set_option maxHeartbeats 4000000 in
set_option maxRecDepth 100000 in
theorem k3_worthFrom_9 (l : Launch) (E : En) (la : Nat) (ka : Nat) (Q : Nat → Int) (ta : Nat) (oa : Nat) (T : Nat → Int) (ca : Nat) (pa : Nat) (da : Nat) (sa : Nat) (C : Nat → Int) (P : Int → Int) (dr : Int → Int) (sr : Int → Int) (co : Int → Int) (K : Dy) (kn : Int → Int) (step : Int) (p : Int) (a : Int) (b : Int) (htm : TmK K T C P dr sr co) (hkn : KnK K (Q 1) (Q 2) kn) (hsp : 0 ≤ Q 1 ∧ Q 1 ≤ 20) (hst : 3 ≤ step ∧ step ≤ 12) (hp : 0 ≤ p ∧ p ≤ 40) (ha : 0 ≤ a ∧ a ≤ 8) (hb : 0 ≤ b ∧ b ≤ 8) : Cm l E y3_worthFrom c3_worthFrom 11 (some .int) { frames := 20, cells := 0, slots := 0, locals := 557 } [.ref la, .int (iZ step), .int (iZ p), .int (iZ a), .int (iZ b)] [(la, o3 (some ta) (some ka) Q), (ka, aLng E 39852 kn), (ta, o7 (some ca) (some oa) T), (oa, aInt E 24 co), (ca, o1 (some pa) (some da) (some sa) C), (pa, aInt E 5 P), (da, aInt E 24 dr), (sa, aInt E 24 sr)] (fun r ws => ∃ (v : Int), ∃ (kn1 : Int → Int), r = some (.int (iZ v)) ∧ ws = [(la, o3 (some ta) (some ka) Q), (ka, aLng E 39852 kn1), (ta, o7 (some ca) (some oa) T), (oa, aInt E 24 co), (ca, o1 (some pa) (some da) (some sa) C), (pa, aInt E 5 P), (da, aInt E 24 dr), (sa, aInt E 24 sr)] ∧ (v = Vn K (Q 1) step (81 * p + 9 * a + b) ∧ KnK K (Q 1) (Q 2) kn1 ∧ (0 ≤ v ∧ v ≤ 7240))) := by
  refine Cm.of (by decide +kernel) (Nat.le_of_ble_eq_true rfl) (fun Γ A hl hargs hin G F => ?_)
  subst hl
  have tok := htm.2.1
  refine j_iload_n G 1 rfl d3_worthFrom_0 ?_
  refine j_bipush G d3_worthFrom_1 rfl ?_
  refine j_imul G d3_worthFrom_3 ?_
  refine j_iload_n G 2 rfl d3_worthFrom_4 ?_
  refine j_iadd G d3_worthFrom_5 ?_
  refine j_bipush G d3_worthFrom_6 rfl ?_
  refine j_imul G d3_worthFrom_8 ?_
  refine j_iload_n G 3 rfl d3_worthFrom_9 ?_
  refine j_iadd G d3_worthFrom_10 ?_
  refine j_bipush G d3_worthFrom_11 rfl ?_
  refine j_imul G d3_worthFrom_13 ?_
  refine j_iload G 4 rfl d3_worthFrom_14 ?_
  refine j_iadd G d3_worthFrom_16 ?_
  refine j_nm (fun pl epl => ?_)
  refine j_istore G d3_worthFrom_17 (by decide) rfl ?_
  refine j_iload_n G 2 rfl d3_worthFrom_19 ?_
  have hpl : pl = 3321 * step + (81 * p + 9 * a + b) := by omega
  refine j_bipush G d3_worthFrom_20 rfl ?_
  refine j_icmp_ge (tgt := 40) G d3_worthFrom_22 (by decide) (by omega) (by decide) (fun h1 => ?_) (fun h1 => ?_)
  ·
    have he : step = 12 := by omega
    refine j_iload_n G 3 rfl d3_worthFrom_40 ?_
    exact j_iret G F d3_worthFrom_41 ⟨p, kn, rfl, rfl, (by refine ⟨?_, hkn, by omega⟩; rw [he, Vn_e]; omega)⟩
  ·
    have hj : 0 ≤ pl ∧ pl < 39852 := by omega
    have hs11 : 0 ≤ step ∧ step ≤ 11 := by omega
    have hnw := st_now (K := K) (s := step) (p := p) ha hb
    have hdr := dR tok hs11 (st := (81 * p + 9 * a + b)) (by omega)
    have hnr := dNow_r tok hs11 (st := (81 * p + 9 * a + b)) (by omega)
    refine j_iload G 0 rfl d3_worthFrom_25 ?_
    refine j_if_lt (tgt := 40) G d3_worthFrom_27 (by decide) (by omega) (fun h2 => ?_) (fun h2 => ?_)
    ·
      exact absurd h2 (by omega)
    ·
      refine j_iload G 0 rfl d3_worthFrom_30 ?_
      refine j_aload_n G 1 rfl d3_worthFrom_32 ?_
      refine j_get G 0 3 3 in3 fl3_12 d3_worthFrom_33 rfl rfl (by decide) (v := .ref ka) rfl rfl ?_
      refine j_alenL G 1 rfl d3_worthFrom_36 ?_
      refine j_icmp_lt (tgt := 42) G d3_worthFrom_37 (by decide) (by omega) (by decide) (fun h3 => ?_) (fun h3 => ?_)
      ·
        have hje : pl / 3321 = step ∧ pl % 3321 = (81 * p + 9 * a + b) := by omega
        have hkj := hkn.2 pl hj.1 hj.2
        have hed := hkn.1
        refine j_aload_n G 1 rfl d3_worthFrom_42 ?_
        refine j_get G 0 3 3 in3 fl3_12 d3_worthFrom_43 rfl rfl (by decide) (v := .ref ka) rfl rfl ?_
        refine j_iload G 0 rfl d3_worthFrom_46 ?_
        refine j_lald G 1 rfl (by omega) d3_worthFrom_48 ?_
        refine j_bipush G d3_worthFrom_49 rfl ?_
        refine r_lshr G d3_worthFrom_51 ?_
        refine j_topl (y := (lZ (kn pl / 1048576))) (kn_hi (by omega) (by omega)) ?_
        refine j_aload_n G 1 rfl d3_worthFrom_52 ?_
        refine j_get G 0 3 2 in3 fl3_24 d3_worthFrom_53 rfl rfl (by decide) (v := .long (lZ (Q 2))) rfl rfl ?_
        refine j_lcmp G d3_worthFrom_56 (by omega) (by omega) ?_
        refine j_if_ne (tgt := 72) G d3_worthFrom_57 (by decide) (by split <;> first | decide | (split <;> decide)) (fun h4 => ?_) (fun h4 => ?_)
        ·
          have h4 : (kn pl / 1048576) ≠ (Q 2) := by
            revert h4; split <;> (try split) <;> intro h4 <;> omega
          refine j_aload_n G 1 rfl d3_worthFrom_72 ?_
          refine j_get G 0 3 0 in3 fl3_16 d3_worthFrom_73 rfl rfl (by decide) (v := .ref ta) rfl rfl ?_
          refine j_iload_n G 2 rfl d3_worthFrom_76 ?_
          refine j_iload_n G 3 rfl d3_worthFrom_77 ?_
          refine j_VP G (k7_pondWithSpring (xl Γ) E ta oa T ca pa da sa C P dr sr co K step p (by first | assumption | omega | (simp only [upS, reduceIte, Nat.reduceEqDiff, eq_self, List.length_cons, List.length_nil, List.length_append] <;> omega)) (by first | assumption | omega | (simp only [upS, reduceIte, Nat.reduceEqDiff, eq_self, List.length_cons, List.length_nil, List.length_append] <;> omega)) (by first | assumption | omega | (simp only [upS, reduceIte, Nat.reduceEqDiff, eq_self, List.length_cons, List.length_nil, List.length_append] <;> omega))) mw7_pondWithSpring ml3_29 [2, 3, 4, 5, 6, 7] rfl 2 7 rfl rfl rfl ⟨Nat.le_of_ble_eq_true rfl, Nat.le_of_ble_eq_true rfl⟩ rfl (rest := []) rfl (Nat.le_of_ble_eq_true rfl) d3_worthFrom_78 ⟨Nat.le_of_ble_eq_true rfl, Nat.le_of_ble_eq_true rfl⟩ (fun r hr => ?_)
          obtain ⟨v6, rfl, ⟨hq5_0, hq5_1, hq5_2⟩⟩ := hr
          have hf2 := hq5_1
          have hF : dF K step (81 * p + 9 * a + b) = v6 := by have := hq5_0; omega
          refine j_istore G d3_worthFrom_81 (by decide) rfl ?_
          refine j_iload_n G 5 rfl d3_worthFrom_83 ?_
          refine j_aload_n G 2 rfl d3_worthFrom_84 ?_
          refine j_get G 0 3 0 in3 fl3_16 d3_worthFrom_85 rfl rfl (by decide) (v := .ref ta) rfl rfl ?_
          refine j_iload_n G 3 rfl d3_worthFrom_88 ?_
          refine j_VP G (k7_comingAbove (xl Γ) E ta oa T ca pa da sa C P dr sr co K step (by first | assumption | omega | (simp only [upS, reduceIte, Nat.reduceEqDiff, eq_self, List.length_cons, List.length_nil, List.length_append] <;> omega)) (by first | assumption | omega | (simp only [upS, reduceIte, Nat.reduceEqDiff, eq_self, List.length_cons, List.length_nil, List.length_append] <;> omega))) mw7_comingAbove ml3_35 [2, 3, 4, 5, 6, 7] rfl 2 7 rfl rfl rfl ⟨Nat.le_of_ble_eq_true rfl, Nat.le_of_ble_eq_true rfl⟩ rfl (rest := [.int (iZ a)]) rfl (Nat.le_of_ble_eq_true rfl) d3_worthFrom_89 ⟨Nat.le_of_ble_eq_true rfl, Nat.le_of_ble_eq_true rfl⟩ (fun r hr => ?_)
          obtain ⟨v8, rfl, ⟨hq7_0, hq7_1, hq7_2⟩⟩ := hr
          have hca := hq7_0
          have hcb := hq7_1
          refine j_iadd G d3_worthFrom_92 ?_
          refine j_SP G (k3_waiting (xl Γ) E (a + v8) (by first | assumption | omega | (simp only [upS, reduceIte, Nat.reduceEqDiff, eq_self, List.length_cons, List.length_nil, List.length_append] <;> omega))) mw3_waiting ml3_39 [] rfl ⟨Nat.le_of_ble_eq_true rfl, Nat.le_of_ble_eq_true rfl⟩ rfl (rest := []) rfl (Nat.le_of_ble_eq_true rfl) d3_worthFrom_93 ⟨Nat.le_of_ble_eq_true rfl, Nat.le_of_ble_eq_true rfl⟩ (fun r hr => ?_)
          obtain ⟨v10, rfl, hq9⟩ := hr
          have hA : dA K step (81 * p + 9 * a + b) = v10 := by have := hq9; omega
          have hta := hq9
          refine j_istore G d3_worthFrom_96 (by decide) rfl ?_
          refine j_iload G 7 rfl d3_worthFrom_98 ?_
          refine j_aload_n G 3 rfl d3_worthFrom_100 ?_
          refine j_get G 0 3 0 in3 fl3_16 d3_worthFrom_101 rfl rfl (by decide) (v := .ref ta) rfl rfl ?_
          refine j_iload_n G 4 rfl d3_worthFrom_104 ?_
          refine j_VP G (k7_comingBelow (xl Γ) E ta oa T ca pa da sa C P dr sr co K step (by first | assumption | omega | (simp only [upS, reduceIte, Nat.reduceEqDiff, eq_self, List.length_cons, List.length_nil, List.length_append] <;> omega)) (by first | assumption | omega | (simp only [upS, reduceIte, Nat.reduceEqDiff, eq_self, List.length_cons, List.length_nil, List.length_append] <;> omega))) mw7_comingBelow ml3_42 [2, 3, 4, 5, 6, 7] rfl 2 7 rfl rfl rfl ⟨Nat.le_of_ble_eq_true rfl, Nat.le_of_ble_eq_true rfl⟩ rfl (rest := [.int (iZ b)]) rfl (Nat.le_of_ble_eq_true rfl) d3_worthFrom_105 ⟨Nat.le_of_ble_eq_true rfl, Nat.le_of_ble_eq_true rfl⟩ (fun r hr => ?_)
          obtain ⟨v12, rfl, ⟨hq11_0, hq11_1, hq11_2⟩⟩ := hr
          have hda := hq11_0
          have hdb := hq11_1
          refine j_iadd G d3_worthFrom_108 ?_
          refine j_SP G (k3_waiting (xl Γ) E (b + v12) (by first | assumption | omega | (simp only [upS, reduceIte, Nat.reduceEqDiff, eq_self, List.length_cons, List.length_nil, List.length_append] <;> omega))) mw3_waiting ml3_39 [] rfl ⟨Nat.le_of_ble_eq_true rfl, Nat.le_of_ble_eq_true rfl⟩ rfl (rest := []) rfl (Nat.le_of_ble_eq_true rfl) d3_worthFrom_109 ⟨Nat.le_of_ble_eq_true rfl, Nat.le_of_ble_eq_true rfl⟩ (fun r hr => ?_)
          obtain ⟨v14, rfl, hq13⟩ := hr
          have hB : dB K step (81 * p + 9 * a + b) = v14 := by have := hq13; omega
          have htb := hq13
          refine j_istore G d3_worthFrom_112 (by decide) rfl ?_
          refine j_aload_n G 4 rfl d3_worthFrom_114 ?_
          refine j_iload_n G 5 rfl d3_worthFrom_115 ?_
          refine j_iconst G d3_worthFrom_116 ?_
          refine j_iadd G d3_worthFrom_117 ?_
          refine j_iload G 2 rfl d3_worthFrom_118 ?_
          refine j_iload G 1 rfl d3_worthFrom_120 ?_
          refine j_iload G 0 rfl d3_worthFrom_122 ?_
          refine j_SM G (rm' := { frames := 18, cells := 0, slots := 0, locals := 500 }) (wc := [(la, o3 (some ta) (some ka) Q), (ka, aLng E 39852 kn), (ta, o7 (some ca) (some oa) T), (oa, aInt E 24 co), (ca, o1 (some pa) (some da) (some sa) C), (pa, aInt E 5 P), (da, aInt E 24 dr), (sa, aInt E 24 sr)]) (wr := []) (k3_worthFrom_8 (xl Γ) E la ka Q ta oa T ca pa da sa C P dr sr co K kn (step + 1) v6 v10 v14 (by first | assumption | omega | (simp only [upS, reduceIte, Nat.reduceEqDiff, eq_self, List.length_cons, List.length_nil, List.length_append] <;> omega)) (by first | assumption | omega | (simp only [upS, reduceIte, Nat.reduceEqDiff, eq_self, List.length_cons, List.length_nil, List.length_append] <;> omega)) (by first | assumption | omega | (simp only [upS, reduceIte, Nat.reduceEqDiff, eq_self, List.length_cons, List.length_nil, List.length_append] <;> omega)) (by first | assumption | omega | (simp only [upS, reduceIte, Nat.reduceEqDiff, eq_self, List.length_cons, List.length_nil, List.length_append] <;> omega)) (by first | assumption | omega | (simp only [upS, reduceIte, Nat.reduceEqDiff, eq_self, List.length_cons, List.length_nil, List.length_append] <;> omega)) (by first | assumption | omega | (simp only [upS, reduceIte, Nat.reduceEqDiff, eq_self, List.length_cons, List.length_nil, List.length_append] <;> omega)) (by first | assumption | omega | (simp only [upS, reduceIte, Nat.reduceEqDiff, eq_self, List.length_cons, List.length_nil, List.length_append] <;> omega))) mw3_worthFrom ml3_45 [0, 1, 2, 3, 4, 5, 6, 7] [] rfl rfl ⟨rfl, rfl⟩ (by decide) ⟨Nat.le_of_ble_eq_true rfl, Nat.le_of_ble_eq_true rfl⟩ rfl (rest := []) rfl (Nat.le_of_ble_eq_true rfl) d3_worthFrom_124 ⟨Nat.le_of_ble_eq_true rfl, Nat.le_of_ble_eq_true rfl⟩ (fun r w1 hr => ?_)
          obtain ⟨v16, kn1_17, rfl, rfl, ⟨hq15_0, hq15_1, hq15_2⟩⟩ := hr
          refine j_eq (ws' := [(la, o3 (some ta) (some ka) Q), (ka, aLng E 39852 kn1_17), (ta, o7 (some ca) (some oa) T), (oa, aInt E 24 co), (ca, o1 (some pa) (some da) (some sa) C), (pa, aInt E 5 P), (da, aInt E 24 dr), (sa, aInt E 24 sr)]) rfl rfl rfl ?_
          have hn0 : v16 = Vn K (Q 1) (step + 1) (dNow K step (81 * p + 9 * a + b)) := by rw [hq15_0]; congr 1; unfold dNow; omega
          have hn1 := hq15_1
          have hn2 := hq15_2
          refine j_istore G d3_worthFrom_127 (by decide) rfl ?_
          refine j_iload G 0 rfl d3_worthFrom_129 ?_
          refine j_aload_n G 5 rfl d3_worthFrom_131 ?_
          refine j_iload_n G 6 rfl d3_worthFrom_132 ?_
          refine j_iload G 3 rfl d3_worthFrom_133 ?_
          refine j_iload G 2 rfl d3_worthFrom_135 ?_
          refine j_iload G 1 rfl d3_worthFrom_137 ?_
          refine j_SM G (rm' := { frames := 19, cells := 0, slots := 0, locals := 530 }) (wc := [(la, o3 (some ta) (some ka) Q), (ka, aLng E 39852 kn1_17), (ta, o7 (some ca) (some oa) T), (oa, aInt E 24 co), (ca, o1 (some pa) (some da) (some sa) C), (pa, aInt E 5 P), (da, aInt E 24 dr), (sa, aInt E 24 sr)]) (wr := []) (k3_worthOfTrip_9 (xl Γ) E la ka Q ta oa T ca pa da sa C P dr sr co K kn1_17 step v6 v10 v14 (by first | assumption | omega | (simp only [upS, reduceIte, Nat.reduceEqDiff, eq_self, List.length_cons, List.length_nil, List.length_append] <;> omega)) (by first | assumption | omega | (simp only [upS, reduceIte, Nat.reduceEqDiff, eq_self, List.length_cons, List.length_nil, List.length_append] <;> omega)) (by first | assumption | omega | (simp only [upS, reduceIte, Nat.reduceEqDiff, eq_self, List.length_cons, List.length_nil, List.length_append] <;> omega)) (by first | assumption | omega | (simp only [upS, reduceIte, Nat.reduceEqDiff, eq_self, List.length_cons, List.length_nil, List.length_append] <;> omega)) (by first | assumption | omega | (simp only [upS, reduceIte, Nat.reduceEqDiff, eq_self, List.length_cons, List.length_nil, List.length_append] <;> omega)) (by first | assumption | omega | (simp only [upS, reduceIte, Nat.reduceEqDiff, eq_self, List.length_cons, List.length_nil, List.length_append] <;> omega)) (by first | assumption | omega | (simp only [upS, reduceIte, Nat.reduceEqDiff, eq_self, List.length_cons, List.length_nil, List.length_append] <;> omega))) mw3_worthOfTrip ml3_49 [0, 1, 2, 3, 4, 5, 6, 7] [] rfl rfl ⟨rfl, rfl⟩ (by decide) ⟨Nat.le_of_ble_eq_true rfl, Nat.le_of_ble_eq_true rfl⟩ rfl (rest := [.int (iZ v16)]) rfl (Nat.le_of_ble_eq_true rfl) d3_worthFrom_139 ⟨Nat.le_of_ble_eq_true rfl, Nat.le_of_ble_eq_true rfl⟩ (fun r w1 hr => ?_)
          obtain ⟨v19, kn1_20, rfl, rfl, ⟨hq18_0, hq18_1, hq18_2⟩⟩ := hr
          refine j_eq (ws' := [(la, o3 (some ta) (some ka) Q), (ka, aLng E 39852 kn1_20), (ta, o7 (some ca) (some oa) T), (oa, aInt E 24 co), (ca, o1 (some pa) (some da) (some sa) C), (pa, aInt E 5 P), (da, aInt E 24 dr), (sa, aInt E 24 sr)]) rfl rfl rfl ?_
          have ht0 : v19 = tpF K (Q 1) step (dF K step (81 * p + 9 * a + b)) (dA K step (81 * p + 9 * a + b)) (dB K step (81 * p + 9 * a + b)) := by rw [hF, hA, hB]; exact hq18_0
          have ht1 := hq18_1
          have ht2 := hq18_2
          refine j_mmax G ml3_52 (by omega) (by omega) ⟨Nat.le_of_ble_eq_true rfl, Nat.le_of_ble_eq_true rfl⟩ ⟨Nat.le_of_ble_eq_true rfl, Nat.le_of_ble_eq_true rfl⟩ d3_worthFrom_142 ?_
          have hmx := vn_max tok hs11 (by omega) hsp.1 hn0 ht0
          have hmr := Vn_r tok hsp.1 (s := step) (st := (81 * p + 9 * a + b)) (by omega) (by omega)
          refine j_istore G d3_worthFrom_145 (by decide) rfl ?_
          refine j_aload_n G 6 rfl d3_worthFrom_147 ?_
          refine j_get G 0 3 3 in3 fl3_12 d3_worthFrom_148 rfl rfl (by decide) (v := .ref ka) rfl rfl ?_
          refine j_iload G 5 rfl d3_worthFrom_151 ?_
          refine j_aload_n G 6 rfl d3_worthFrom_153 ?_
          refine j_get G 0 3 2 in3 fl3_24 d3_worthFrom_154 rfl rfl (by decide) (v := .long (lZ (Q 2))) rfl rfl ?_
          refine j_bipush G d3_worthFrom_157 rfl ?_
          refine r_lshl G d3_worthFrom_159 ?_
          refine j_topl (y := (lZ (Q 2 * 1048576))) (kn_sh (by omega) (by omega)) ?_
          refine j_iload G 0 rfl d3_worthFrom_160 ?_
          refine j_i2l G d3_worthFrom_162 (by omega) ?_
          refine r_lor G d3_worthFrom_163 ?_
          refine j_topl (y := (lZ (Q 2 * 1048576 + (max v16 v19)))) (kn_or (by omega) (by omega) (by omega) (by omega)) ?_
          refine j_last G 1 rfl (by omega) d3_worthFrom_164 ?_
          refine j_iload G 0 rfl d3_worthFrom_165 ?_
          exact j_iret G F d3_worthFrom_167 ⟨max v16 v19, (upI kn1_20 pl (Q 2 * 1048576 + (max v16 v19))), rfl, rfl, (by exact ⟨hmx, KnK.up ht1 hj.1 hj.2 (by rw [hje.1, hje.2]; exact hmx) (by omega), by omega⟩)⟩
        ·
          have h4 : ¬ ((kn pl / 1048576) ≠ (Q 2)) := by
            revert h4; split <;> (try split) <;> intro h4 <;> omega
          have hvv := hkj.2 (by omega)
          rw [hje.1, hje.2] at hvv
          have hvr := Vn_r tok hsp.1 (s := step) (st := (81 * p + 9 * a + b)) (by omega) (by omega)
          refine j_aload_n G 1 rfl d3_worthFrom_60 ?_
          refine j_get G 0 3 3 in3 fl3_12 d3_worthFrom_61 rfl rfl (by decide) (v := .ref ka) rfl rfl ?_
          refine j_iload G 0 rfl d3_worthFrom_64 ?_
          refine j_lald G 1 rfl (by omega) d3_worthFrom_66 ?_
          refine j_l2i G d3_worthFrom_67 ?_
          refine j_ldc G 1048575 ct3_28 (by decide) d3_worthFrom_68 ?_
          refine r_iand G d3_worthFrom_70 ?_
          refine j_top (y := (iZ (kn pl % 1048576))) (kn_lo (by omega) (by omega)) ?_
          exact j_iret G F d3_worthFrom_71 ⟨kn pl % 1048576, kn, rfl, rfl, (by exact ⟨hvv, hkn, by omega⟩)⟩
      ·
        exact absurd h3 (by omega)
set_option maxHeartbeats 4000000 in
set_option maxRecDepth 100000 in
theorem k3_worthOfTrip_10 (l : Launch) (E : En) (la : Nat) (ka : Nat) (Q : Nat → Int) (ta : Nat) (oa : Nat) (T : Nat → Int) (ca : Nat) (pa : Nat) (da : Nat) (sa : Nat) (C : Nat → Int) (P : Int → Int) (dr : Int → Int) (sr : Int → Int) (co : Int → Int) (K : Dy) (kn : Int → Int) (step : Int) (p : Int) (a : Int) (b : Int) (htm : TmK K T C P dr sr co) (hkn : KnK K (Q 1) (Q 2) kn) (hsp : 0 ≤ Q 1 ∧ Q 1 ≤ 20) (hst : 2 ≤ step ∧ step ≤ 11) (hp : 0 ≤ p ∧ p ≤ 40) (ha : 0 ≤ a ∧ a ≤ 8) (hb : 0 ≤ b ∧ b ≤ 8) : Cm l E y3_worthOfTrip c3_worthOfTrip 8 (some .int) { frames := 21, cells := 0, slots := 0, locals := 587 } [.ref la, .int (iZ step), .int (iZ p), .int (iZ a), .int (iZ b)] [(la, o3 (some ta) (some ka) Q), (ka, aLng E 39852 kn), (ta, o7 (some ca) (some oa) T), (oa, aInt E 24 co), (ca, o1 (some pa) (some da) (some sa) C), (pa, aInt E 5 P), (da, aInt E 24 dr), (sa, aInt E 24 sr)] (fun r ws => ∃ (v : Int), ∃ (kn1 : Int → Int), r = some (.int (iZ v)) ∧ ws = [(la, o3 (some ta) (some ka) Q), (ka, aLng E 39852 kn1), (ta, o7 (some ca) (some oa) T), (oa, aInt E 24 co), (ca, o1 (some pa) (some da) (some sa) C), (pa, aInt E 5 P), (da, aInt E 24 dr), (sa, aInt E 24 sr)] ∧ (v = tpF K (Q 1) step p a b ∧ KnK K (Q 1) (Q 2) kn1 ∧ (v = -99999 ∨ (0 ≤ v ∧ v ≤ 8000)))) := by
  refine Cm.of (by decide +kernel) (Nat.le_of_ble_eq_true rfl) (fun Γ A hl hargs hin G F => ?_)
  subst hl
  have tok := htm.2.1
  have tse := tok.2.1
  refine j_aload_n G 0 rfl d3_worthOfTrip_0 ?_
  refine j_get G 0 3 0 in3 fl3_16 d3_worthOfTrip_1 rfl rfl (by decide) (v := .ref ta) rfl rfl ?_
  refine j_iload_n G 3 rfl d3_worthOfTrip_4 ?_
  refine j_VP G (k7_seated (xl Γ) E ta oa T ca pa da sa C P dr sr co K a (by first | assumption | omega | (simp only [upS, reduceIte, Nat.reduceEqDiff, eq_self, List.length_cons, List.length_nil, List.length_append] <;> omega)) (by first | assumption | omega | (simp only [upS, reduceIte, Nat.reduceEqDiff, eq_self, List.length_cons, List.length_nil, List.length_append] <;> omega))) mw7_seated ml3_57 [2, 3, 4, 5, 6, 7] rfl 2 7 rfl rfl rfl ⟨Nat.le_of_ble_eq_true rfl, Nat.le_of_ble_eq_true rfl⟩ rfl (rest := []) rfl (Nat.le_of_ble_eq_true rfl) d3_worthOfTrip_5 ⟨Nat.le_of_ble_eq_true rfl, Nat.le_of_ble_eq_true rfl⟩ (fun r hr => ?_)
  obtain ⟨v2, rfl, ⟨hq1_0, hq1_1, hq1_2, hq1_3, hq1_4⟩⟩ := hr
  have hd0 := hq1_0
  have hd1 := hq1_1
  have hd2 := hq1_2
  have hd3 := hq1_3
  have hd4 := hq1_4
  refine j_istore G d3_worthOfTrip_8 (by decide) rfl ?_
  refine j_aload_n G 1 rfl d3_worthOfTrip_10 ?_
  refine j_get G 0 3 0 in3 fl3_16 d3_worthOfTrip_11 rfl rfl (by decide) (v := .ref ta) rfl rfl ?_
  refine j_iload G 5 rfl d3_worthOfTrip_14 ?_
  refine j_VP G (k7_seated (xl Γ) E ta oa T ca pa da sa C P dr sr co K b (by first | assumption | omega | (simp only [upS, reduceIte, Nat.reduceEqDiff, eq_self, List.length_cons, List.length_nil, List.length_append] <;> omega)) (by first | assumption | omega | (simp only [upS, reduceIte, Nat.reduceEqDiff, eq_self, List.length_cons, List.length_nil, List.length_append] <;> omega))) mw7_seated ml3_57 [2, 3, 4, 5, 6, 7] rfl 2 7 rfl rfl rfl ⟨Nat.le_of_ble_eq_true rfl, Nat.le_of_ble_eq_true rfl⟩ rfl (rest := []) rfl (Nat.le_of_ble_eq_true rfl) d3_worthOfTrip_16 ⟨Nat.le_of_ble_eq_true rfl, Nat.le_of_ble_eq_true rfl⟩ (fun r hr => ?_)
  obtain ⟨v4, rfl, ⟨hq3_0, hq3_1, hq3_2, hq3_3, hq3_4⟩⟩ := hr
  have hu0 := hq3_0
  have hu1 := hq3_1
  have hu2 := hq3_2
  have hu3 := hq3_3
  have hu4 := hq3_4
  refine j_istore G d3_worthOfTrip_19 (by decide) rfl ?_
  refine j_aload_n G 2 rfl d3_worthOfTrip_21 ?_
  refine j_get G 0 3 0 in3 fl3_16 d3_worthOfTrip_22 rfl rfl (by decide) (v := .ref ta) rfl rfl ?_
  refine j_iload_n G 3 rfl d3_worthOfTrip_25 ?_
  refine j_iload G 1 rfl d3_worthOfTrip_26 ?_
  refine j_iload G 0 rfl d3_worthOfTrip_28 ?_
  refine j_VP G (k7_leastFor (xl Γ) E ta oa T ca pa da sa C P dr sr co K step v2 v4 (by first | assumption | omega | (simp only [upS, reduceIte, Nat.reduceEqDiff, eq_self, List.length_cons, List.length_nil, List.length_append] <;> omega)) (by first | assumption | omega | (simp only [upS, reduceIte, Nat.reduceEqDiff, eq_self, List.length_cons, List.length_nil, List.length_append] <;> omega)) (by first | assumption | omega | (simp only [upS, reduceIte, Nat.reduceEqDiff, eq_self, List.length_cons, List.length_nil, List.length_append] <;> omega)) (by first | assumption | omega | (simp only [upS, reduceIte, Nat.reduceEqDiff, eq_self, List.length_cons, List.length_nil, List.length_append] <;> omega))) mw7_leastFor ml3_60 [2, 3, 4, 5, 6, 7] rfl 2 7 rfl rfl rfl ⟨Nat.le_of_ble_eq_true rfl, Nat.le_of_ble_eq_true rfl⟩ rfl (rest := []) rfl (Nat.le_of_ble_eq_true rfl) d3_worthOfTrip_30 ⟨Nat.le_of_ble_eq_true rfl, Nat.le_of_ble_eq_true rfl⟩ (fun r hr => ?_)
  obtain ⟨v6, rfl, ⟨hq5_0, hq5_1⟩⟩ := hr
  have hw0 := hq5_0
  have hw1 := hq5_1
  refine j_istore G d3_worthOfTrip_33 (by decide) rfl ?_
  refine j_iload G 2 rfl d3_worthOfTrip_35 ?_
  refine j_iload G 1 rfl d3_worthOfTrip_37 ?_
  refine j_iadd G d3_worthOfTrip_39 ?_
  refine j_if_eq (tgt := 61) G d3_worthOfTrip_40 (by decide) (by omega) (fun h7 => ?_) (fun h7 => ?_)
  ·
    refine j_ldc G (-99999) ct3_64 (by decide) d3_worthOfTrip_61 ?_
    exact j_iret G F d3_worthOfTrip_63 ⟨(-99999), kn, rfl, rfl, (by refine ⟨?_, hkn, Or.inl rfl⟩; unfold tpF; rw [← hd0, ← hu0, ← hw0, if_pos (by omega)])⟩
  ·
    refine j_iload G 0 rfl d3_worthOfTrip_43 ?_
    refine j_bipush G d3_worthOfTrip_45 rfl ?_
    refine j_icmp_eq (tgt := 61) G d3_worthOfTrip_47 (by decide) (by omega) (by decide) (fun h8 => ?_) (fun h8 => ?_)
    ·
      refine j_ldc G (-99999) ct3_64 (by decide) d3_worthOfTrip_61 ?_
      exact j_iret G F d3_worthOfTrip_63 ⟨(-99999), kn, rfl, rfl, (by refine ⟨?_, hkn, Or.inl rfl⟩; unfold tpF; rw [← hd0, ← hu0, ← hw0, if_pos (by omega)])⟩
    ·
      refine j_iload_n G 5 rfl d3_worthOfTrip_50 ?_
      refine j_iload G 0 rfl d3_worthOfTrip_51 ?_
      refine j_isub G d3_worthOfTrip_53 ?_
      refine j_aload_n G 3 rfl d3_worthOfTrip_54 ?_
      refine j_get G 0 3 1 in3 fl3_20 d3_worthOfTrip_55 rfl rfl (by decide) (v := .int (iZ (Q 1))) rfl rfl ?_
      refine j_icmp_ge (tgt := 64) G d3_worthOfTrip_58 (by decide) (by omega) (by omega) (fun h9 => ?_) (fun h9 => ?_)
      ·
        refine j_bipush G d3_worthOfTrip_64 rfl ?_
        refine j_iload G 1 rfl d3_worthOfTrip_66 ?_
        refine j_imul G d3_worthOfTrip_68 ?_
        refine j_aload_n G 3 rfl d3_worthOfTrip_69 ?_
        refine j_iload_n G 4 rfl d3_worthOfTrip_70 ?_
        refine j_iconst G d3_worthOfTrip_71 ?_
        refine j_iadd G d3_worthOfTrip_72 ?_
        refine j_iload_n G 5 rfl d3_worthOfTrip_73 ?_
        refine j_iload G 0 rfl d3_worthOfTrip_74 ?_
        refine j_isub G d3_worthOfTrip_76 ?_
        refine j_iload_n G 6 rfl d3_worthOfTrip_77 ?_
        refine j_iload G 2 rfl d3_worthOfTrip_78 ?_
        refine j_isub G d3_worthOfTrip_80 ?_
        refine j_iload G 7 rfl d3_worthOfTrip_81 ?_
        refine j_iload G 1 rfl d3_worthOfTrip_83 ?_
        refine j_isub G d3_worthOfTrip_85 ?_
        refine j_SM G (rm' := { frames := 20, cells := 0, slots := 0, locals := 557 }) (wc := [(la, o3 (some ta) (some ka) Q), (ka, aLng E 39852 kn), (ta, o7 (some ca) (some oa) T), (oa, aInt E 24 co), (ca, o1 (some pa) (some da) (some sa) C), (pa, aInt E 5 P), (da, aInt E 24 dr), (sa, aInt E 24 sr)]) (wr := []) (k3_worthFrom_9 (xl Γ) E la ka Q ta oa T ca pa da sa C P dr sr co K kn (step + 1) (p - v6) (a - v2) (b - v4) (by first | assumption | omega | (simp only [upS, reduceIte, Nat.reduceEqDiff, eq_self, List.length_cons, List.length_nil, List.length_append] <;> omega)) (by first | assumption | omega | (simp only [upS, reduceIte, Nat.reduceEqDiff, eq_self, List.length_cons, List.length_nil, List.length_append] <;> omega)) (by first | assumption | omega | (simp only [upS, reduceIte, Nat.reduceEqDiff, eq_self, List.length_cons, List.length_nil, List.length_append] <;> omega)) (by first | assumption | omega | (simp only [upS, reduceIte, Nat.reduceEqDiff, eq_self, List.length_cons, List.length_nil, List.length_append] <;> omega)) (by first | assumption | omega | (simp only [upS, reduceIte, Nat.reduceEqDiff, eq_self, List.length_cons, List.length_nil, List.length_append] <;> omega)) (by first | assumption | omega | (simp only [upS, reduceIte, Nat.reduceEqDiff, eq_self, List.length_cons, List.length_nil, List.length_append] <;> omega)) (by first | assumption | omega | (simp only [upS, reduceIte, Nat.reduceEqDiff, eq_self, List.length_cons, List.length_nil, List.length_append] <;> omega))) mw3_worthFrom ml3_45 [0, 1, 2, 3, 4, 5, 6, 7] [] rfl rfl ⟨rfl, rfl⟩ (by decide) ⟨Nat.le_of_ble_eq_true rfl, Nat.le_of_ble_eq_true rfl⟩ rfl (rest := [.int (iZ (100 * v4))]) rfl (Nat.le_of_ble_eq_true rfl) d3_worthOfTrip_86 ⟨Nat.le_of_ble_eq_true rfl, Nat.le_of_ble_eq_true rfl⟩ (fun r w1 hr => ?_)
        obtain ⟨v11, kn1_12, rfl, rfl, ⟨hq10_0, hq10_1, hq10_2⟩⟩ := hr
        refine j_eq (ws' := [(la, o3 (some ta) (some ka) Q), (ka, aLng E 39852 kn1_12), (ta, o7 (some ca) (some oa) T), (oa, aInt E 24 co), (ca, o1 (some pa) (some da) (some sa) C), (pa, aInt E 5 P), (da, aInt E 24 dr), (sa, aInt E 24 sr)]) rfl rfl rfl ?_
        have hn0 := hq10_0
        have hn1 := hq10_1
        have hn2 := hq10_2
        refine j_iadd G d3_worthOfTrip_89 ?_
        exact j_iret G F d3_worthOfTrip_90 ⟨(100 * v4) + v11, kn1_12, rfl, rfl, (by refine ⟨?_, hn1, by omega⟩; unfold tpF; rw [← hd0, ← hu0, ← hw0, if_neg (by omega), hn0])⟩
      ·
        refine j_ldc G (-99999) ct3_64 (by decide) d3_worthOfTrip_61 ?_
        exact j_iret G F d3_worthOfTrip_63 ⟨(-99999), kn, rfl, rfl, (by refine ⟨?_, hkn, Or.inl rfl⟩; unfold tpF; rw [← hd0, ← hu0, ← hw0, if_pos (by omega)])⟩
set_option maxHeartbeats 4000000 in
set_option maxRecDepth 100000 in
theorem k3_worthFrom_10 (l : Launch) (E : En) (la : Nat) (ka : Nat) (Q : Nat → Int) (ta : Nat) (oa : Nat) (T : Nat → Int) (ca : Nat) (pa : Nat) (da : Nat) (sa : Nat) (C : Nat → Int) (P : Int → Int) (dr : Int → Int) (sr : Int → Int) (co : Int → Int) (K : Dy) (kn : Int → Int) (step : Int) (p : Int) (a : Int) (b : Int) (htm : TmK K T C P dr sr co) (hkn : KnK K (Q 1) (Q 2) kn) (hsp : 0 ≤ Q 1 ∧ Q 1 ≤ 20) (hst : 2 ≤ step ∧ step ≤ 12) (hp : 0 ≤ p ∧ p ≤ 40) (ha : 0 ≤ a ∧ a ≤ 8) (hb : 0 ≤ b ∧ b ≤ 8) : Cm l E y3_worthFrom c3_worthFrom 11 (some .int) { frames := 22, cells := 0, slots := 0, locals := 614 } [.ref la, .int (iZ step), .int (iZ p), .int (iZ a), .int (iZ b)] [(la, o3 (some ta) (some ka) Q), (ka, aLng E 39852 kn), (ta, o7 (some ca) (some oa) T), (oa, aInt E 24 co), (ca, o1 (some pa) (some da) (some sa) C), (pa, aInt E 5 P), (da, aInt E 24 dr), (sa, aInt E 24 sr)] (fun r ws => ∃ (v : Int), ∃ (kn1 : Int → Int), r = some (.int (iZ v)) ∧ ws = [(la, o3 (some ta) (some ka) Q), (ka, aLng E 39852 kn1), (ta, o7 (some ca) (some oa) T), (oa, aInt E 24 co), (ca, o1 (some pa) (some da) (some sa) C), (pa, aInt E 5 P), (da, aInt E 24 dr), (sa, aInt E 24 sr)] ∧ (v = Vn K (Q 1) step (81 * p + 9 * a + b) ∧ KnK K (Q 1) (Q 2) kn1 ∧ (0 ≤ v ∧ v ≤ 7240))) := by
  refine Cm.of (by decide +kernel) (Nat.le_of_ble_eq_true rfl) (fun Γ A hl hargs hin G F => ?_)
  subst hl
  have tok := htm.2.1
  refine j_iload_n G 1 rfl d3_worthFrom_0 ?_
  refine j_bipush G d3_worthFrom_1 rfl ?_
  refine j_imul G d3_worthFrom_3 ?_
  refine j_iload_n G 2 rfl d3_worthFrom_4 ?_
  refine j_iadd G d3_worthFrom_5 ?_
  refine j_bipush G d3_worthFrom_6 rfl ?_
  refine j_imul G d3_worthFrom_8 ?_
  refine j_iload_n G 3 rfl d3_worthFrom_9 ?_
  refine j_iadd G d3_worthFrom_10 ?_
  refine j_bipush G d3_worthFrom_11 rfl ?_
  refine j_imul G d3_worthFrom_13 ?_
  refine j_iload G 4 rfl d3_worthFrom_14 ?_
  refine j_iadd G d3_worthFrom_16 ?_
  refine j_nm (fun pl epl => ?_)
  refine j_istore G d3_worthFrom_17 (by decide) rfl ?_
  refine j_iload_n G 2 rfl d3_worthFrom_19 ?_
  have hpl : pl = 3321 * step + (81 * p + 9 * a + b) := by omega
  refine j_bipush G d3_worthFrom_20 rfl ?_
  refine j_icmp_ge (tgt := 40) G d3_worthFrom_22 (by decide) (by omega) (by decide) (fun h1 => ?_) (fun h1 => ?_)
  ·
    have he : step = 12 := by omega
    refine j_iload_n G 3 rfl d3_worthFrom_40 ?_
    exact j_iret G F d3_worthFrom_41 ⟨p, kn, rfl, rfl, (by refine ⟨?_, hkn, by omega⟩; rw [he, Vn_e]; omega)⟩
  ·
    have hj : 0 ≤ pl ∧ pl < 39852 := by omega
    have hs11 : 0 ≤ step ∧ step ≤ 11 := by omega
    have hnw := st_now (K := K) (s := step) (p := p) ha hb
    have hdr := dR tok hs11 (st := (81 * p + 9 * a + b)) (by omega)
    have hnr := dNow_r tok hs11 (st := (81 * p + 9 * a + b)) (by omega)
    refine j_iload G 0 rfl d3_worthFrom_25 ?_
    refine j_if_lt (tgt := 40) G d3_worthFrom_27 (by decide) (by omega) (fun h2 => ?_) (fun h2 => ?_)
    ·
      exact absurd h2 (by omega)
    ·
      refine j_iload G 0 rfl d3_worthFrom_30 ?_
      refine j_aload_n G 1 rfl d3_worthFrom_32 ?_
      refine j_get G 0 3 3 in3 fl3_12 d3_worthFrom_33 rfl rfl (by decide) (v := .ref ka) rfl rfl ?_
      refine j_alenL G 1 rfl d3_worthFrom_36 ?_
      refine j_icmp_lt (tgt := 42) G d3_worthFrom_37 (by decide) (by omega) (by decide) (fun h3 => ?_) (fun h3 => ?_)
      ·
        have hje : pl / 3321 = step ∧ pl % 3321 = (81 * p + 9 * a + b) := by omega
        have hkj := hkn.2 pl hj.1 hj.2
        have hed := hkn.1
        refine j_aload_n G 1 rfl d3_worthFrom_42 ?_
        refine j_get G 0 3 3 in3 fl3_12 d3_worthFrom_43 rfl rfl (by decide) (v := .ref ka) rfl rfl ?_
        refine j_iload G 0 rfl d3_worthFrom_46 ?_
        refine j_lald G 1 rfl (by omega) d3_worthFrom_48 ?_
        refine j_bipush G d3_worthFrom_49 rfl ?_
        refine r_lshr G d3_worthFrom_51 ?_
        refine j_topl (y := (lZ (kn pl / 1048576))) (kn_hi (by omega) (by omega)) ?_
        refine j_aload_n G 1 rfl d3_worthFrom_52 ?_
        refine j_get G 0 3 2 in3 fl3_24 d3_worthFrom_53 rfl rfl (by decide) (v := .long (lZ (Q 2))) rfl rfl ?_
        refine j_lcmp G d3_worthFrom_56 (by omega) (by omega) ?_
        refine j_if_ne (tgt := 72) G d3_worthFrom_57 (by decide) (by split <;> first | decide | (split <;> decide)) (fun h4 => ?_) (fun h4 => ?_)
        ·
          have h4 : (kn pl / 1048576) ≠ (Q 2) := by
            revert h4; split <;> (try split) <;> intro h4 <;> omega
          refine j_aload_n G 1 rfl d3_worthFrom_72 ?_
          refine j_get G 0 3 0 in3 fl3_16 d3_worthFrom_73 rfl rfl (by decide) (v := .ref ta) rfl rfl ?_
          refine j_iload_n G 2 rfl d3_worthFrom_76 ?_
          refine j_iload_n G 3 rfl d3_worthFrom_77 ?_
          refine j_VP G (k7_pondWithSpring (xl Γ) E ta oa T ca pa da sa C P dr sr co K step p (by first | assumption | omega | (simp only [upS, reduceIte, Nat.reduceEqDiff, eq_self, List.length_cons, List.length_nil, List.length_append] <;> omega)) (by first | assumption | omega | (simp only [upS, reduceIte, Nat.reduceEqDiff, eq_self, List.length_cons, List.length_nil, List.length_append] <;> omega)) (by first | assumption | omega | (simp only [upS, reduceIte, Nat.reduceEqDiff, eq_self, List.length_cons, List.length_nil, List.length_append] <;> omega))) mw7_pondWithSpring ml3_29 [2, 3, 4, 5, 6, 7] rfl 2 7 rfl rfl rfl ⟨Nat.le_of_ble_eq_true rfl, Nat.le_of_ble_eq_true rfl⟩ rfl (rest := []) rfl (Nat.le_of_ble_eq_true rfl) d3_worthFrom_78 ⟨Nat.le_of_ble_eq_true rfl, Nat.le_of_ble_eq_true rfl⟩ (fun r hr => ?_)
          obtain ⟨v6, rfl, ⟨hq5_0, hq5_1, hq5_2⟩⟩ := hr
          have hf2 := hq5_1
          have hF : dF K step (81 * p + 9 * a + b) = v6 := by have := hq5_0; omega
          refine j_istore G d3_worthFrom_81 (by decide) rfl ?_
          refine j_iload_n G 5 rfl d3_worthFrom_83 ?_
          refine j_aload_n G 2 rfl d3_worthFrom_84 ?_
          refine j_get G 0 3 0 in3 fl3_16 d3_worthFrom_85 rfl rfl (by decide) (v := .ref ta) rfl rfl ?_
          refine j_iload_n G 3 rfl d3_worthFrom_88 ?_
          refine j_VP G (k7_comingAbove (xl Γ) E ta oa T ca pa da sa C P dr sr co K step (by first | assumption | omega | (simp only [upS, reduceIte, Nat.reduceEqDiff, eq_self, List.length_cons, List.length_nil, List.length_append] <;> omega)) (by first | assumption | omega | (simp only [upS, reduceIte, Nat.reduceEqDiff, eq_self, List.length_cons, List.length_nil, List.length_append] <;> omega))) mw7_comingAbove ml3_35 [2, 3, 4, 5, 6, 7] rfl 2 7 rfl rfl rfl ⟨Nat.le_of_ble_eq_true rfl, Nat.le_of_ble_eq_true rfl⟩ rfl (rest := [.int (iZ a)]) rfl (Nat.le_of_ble_eq_true rfl) d3_worthFrom_89 ⟨Nat.le_of_ble_eq_true rfl, Nat.le_of_ble_eq_true rfl⟩ (fun r hr => ?_)
          obtain ⟨v8, rfl, ⟨hq7_0, hq7_1, hq7_2⟩⟩ := hr
          have hca := hq7_0
          have hcb := hq7_1
          refine j_iadd G d3_worthFrom_92 ?_
          refine j_SP G (k3_waiting (xl Γ) E (a + v8) (by first | assumption | omega | (simp only [upS, reduceIte, Nat.reduceEqDiff, eq_self, List.length_cons, List.length_nil, List.length_append] <;> omega))) mw3_waiting ml3_39 [] rfl ⟨Nat.le_of_ble_eq_true rfl, Nat.le_of_ble_eq_true rfl⟩ rfl (rest := []) rfl (Nat.le_of_ble_eq_true rfl) d3_worthFrom_93 ⟨Nat.le_of_ble_eq_true rfl, Nat.le_of_ble_eq_true rfl⟩ (fun r hr => ?_)
          obtain ⟨v10, rfl, hq9⟩ := hr
          have hA : dA K step (81 * p + 9 * a + b) = v10 := by have := hq9; omega
          have hta := hq9
          refine j_istore G d3_worthFrom_96 (by decide) rfl ?_
          refine j_iload G 7 rfl d3_worthFrom_98 ?_
          refine j_aload_n G 3 rfl d3_worthFrom_100 ?_
          refine j_get G 0 3 0 in3 fl3_16 d3_worthFrom_101 rfl rfl (by decide) (v := .ref ta) rfl rfl ?_
          refine j_iload_n G 4 rfl d3_worthFrom_104 ?_
          refine j_VP G (k7_comingBelow (xl Γ) E ta oa T ca pa da sa C P dr sr co K step (by first | assumption | omega | (simp only [upS, reduceIte, Nat.reduceEqDiff, eq_self, List.length_cons, List.length_nil, List.length_append] <;> omega)) (by first | assumption | omega | (simp only [upS, reduceIte, Nat.reduceEqDiff, eq_self, List.length_cons, List.length_nil, List.length_append] <;> omega))) mw7_comingBelow ml3_42 [2, 3, 4, 5, 6, 7] rfl 2 7 rfl rfl rfl ⟨Nat.le_of_ble_eq_true rfl, Nat.le_of_ble_eq_true rfl⟩ rfl (rest := [.int (iZ b)]) rfl (Nat.le_of_ble_eq_true rfl) d3_worthFrom_105 ⟨Nat.le_of_ble_eq_true rfl, Nat.le_of_ble_eq_true rfl⟩ (fun r hr => ?_)
          obtain ⟨v12, rfl, ⟨hq11_0, hq11_1, hq11_2⟩⟩ := hr
          have hda := hq11_0
          have hdb := hq11_1
          refine j_iadd G d3_worthFrom_108 ?_
          refine j_SP G (k3_waiting (xl Γ) E (b + v12) (by first | assumption | omega | (simp only [upS, reduceIte, Nat.reduceEqDiff, eq_self, List.length_cons, List.length_nil, List.length_append] <;> omega))) mw3_waiting ml3_39 [] rfl ⟨Nat.le_of_ble_eq_true rfl, Nat.le_of_ble_eq_true rfl⟩ rfl (rest := []) rfl (Nat.le_of_ble_eq_true rfl) d3_worthFrom_109 ⟨Nat.le_of_ble_eq_true rfl, Nat.le_of_ble_eq_true rfl⟩ (fun r hr => ?_)
          obtain ⟨v14, rfl, hq13⟩ := hr
          have hB : dB K step (81 * p + 9 * a + b) = v14 := by have := hq13; omega
          have htb := hq13
          refine j_istore G d3_worthFrom_112 (by decide) rfl ?_
          refine j_aload_n G 4 rfl d3_worthFrom_114 ?_
          refine j_iload_n G 5 rfl d3_worthFrom_115 ?_
          refine j_iconst G d3_worthFrom_116 ?_
          refine j_iadd G d3_worthFrom_117 ?_
          refine j_iload G 2 rfl d3_worthFrom_118 ?_
          refine j_iload G 1 rfl d3_worthFrom_120 ?_
          refine j_iload G 0 rfl d3_worthFrom_122 ?_
          refine j_SM G (rm' := { frames := 20, cells := 0, slots := 0, locals := 557 }) (wc := [(la, o3 (some ta) (some ka) Q), (ka, aLng E 39852 kn), (ta, o7 (some ca) (some oa) T), (oa, aInt E 24 co), (ca, o1 (some pa) (some da) (some sa) C), (pa, aInt E 5 P), (da, aInt E 24 dr), (sa, aInt E 24 sr)]) (wr := []) (k3_worthFrom_9 (xl Γ) E la ka Q ta oa T ca pa da sa C P dr sr co K kn (step + 1) v6 v10 v14 (by first | assumption | omega | (simp only [upS, reduceIte, Nat.reduceEqDiff, eq_self, List.length_cons, List.length_nil, List.length_append] <;> omega)) (by first | assumption | omega | (simp only [upS, reduceIte, Nat.reduceEqDiff, eq_self, List.length_cons, List.length_nil, List.length_append] <;> omega)) (by first | assumption | omega | (simp only [upS, reduceIte, Nat.reduceEqDiff, eq_self, List.length_cons, List.length_nil, List.length_append] <;> omega)) (by first | assumption | omega | (simp only [upS, reduceIte, Nat.reduceEqDiff, eq_self, List.length_cons, List.length_nil, List.length_append] <;> omega)) (by first | assumption | omega | (simp only [upS, reduceIte, Nat.reduceEqDiff, eq_self, List.length_cons, List.length_nil, List.length_append] <;> omega)) (by first | assumption | omega | (simp only [upS, reduceIte, Nat.reduceEqDiff, eq_self, List.length_cons, List.length_nil, List.length_append] <;> omega)) (by first | assumption | omega | (simp only [upS, reduceIte, Nat.reduceEqDiff, eq_self, List.length_cons, List.length_nil, List.length_append] <;> omega))) mw3_worthFrom ml3_45 [0, 1, 2, 3, 4, 5, 6, 7] [] rfl rfl ⟨rfl, rfl⟩ (by decide) ⟨Nat.le_of_ble_eq_true rfl, Nat.le_of_ble_eq_true rfl⟩ rfl (rest := []) rfl (Nat.le_of_ble_eq_true rfl) d3_worthFrom_124 ⟨Nat.le_of_ble_eq_true rfl, Nat.le_of_ble_eq_true rfl⟩ (fun r w1 hr => ?_)
          obtain ⟨v16, kn1_17, rfl, rfl, ⟨hq15_0, hq15_1, hq15_2⟩⟩ := hr
          refine j_eq (ws' := [(la, o3 (some ta) (some ka) Q), (ka, aLng E 39852 kn1_17), (ta, o7 (some ca) (some oa) T), (oa, aInt E 24 co), (ca, o1 (some pa) (some da) (some sa) C), (pa, aInt E 5 P), (da, aInt E 24 dr), (sa, aInt E 24 sr)]) rfl rfl rfl ?_
          have hn0 : v16 = Vn K (Q 1) (step + 1) (dNow K step (81 * p + 9 * a + b)) := by rw [hq15_0]; congr 1; unfold dNow; omega
          have hn1 := hq15_1
          have hn2 := hq15_2
          refine j_istore G d3_worthFrom_127 (by decide) rfl ?_
          refine j_iload G 0 rfl d3_worthFrom_129 ?_
          refine j_aload_n G 5 rfl d3_worthFrom_131 ?_
          refine j_iload_n G 6 rfl d3_worthFrom_132 ?_
          refine j_iload G 3 rfl d3_worthFrom_133 ?_
          refine j_iload G 2 rfl d3_worthFrom_135 ?_
          refine j_iload G 1 rfl d3_worthFrom_137 ?_
          refine j_SM G (rm' := { frames := 21, cells := 0, slots := 0, locals := 587 }) (wc := [(la, o3 (some ta) (some ka) Q), (ka, aLng E 39852 kn1_17), (ta, o7 (some ca) (some oa) T), (oa, aInt E 24 co), (ca, o1 (some pa) (some da) (some sa) C), (pa, aInt E 5 P), (da, aInt E 24 dr), (sa, aInt E 24 sr)]) (wr := []) (k3_worthOfTrip_10 (xl Γ) E la ka Q ta oa T ca pa da sa C P dr sr co K kn1_17 step v6 v10 v14 (by first | assumption | omega | (simp only [upS, reduceIte, Nat.reduceEqDiff, eq_self, List.length_cons, List.length_nil, List.length_append] <;> omega)) (by first | assumption | omega | (simp only [upS, reduceIte, Nat.reduceEqDiff, eq_self, List.length_cons, List.length_nil, List.length_append] <;> omega)) (by first | assumption | omega | (simp only [upS, reduceIte, Nat.reduceEqDiff, eq_self, List.length_cons, List.length_nil, List.length_append] <;> omega)) (by first | assumption | omega | (simp only [upS, reduceIte, Nat.reduceEqDiff, eq_self, List.length_cons, List.length_nil, List.length_append] <;> omega)) (by first | assumption | omega | (simp only [upS, reduceIte, Nat.reduceEqDiff, eq_self, List.length_cons, List.length_nil, List.length_append] <;> omega)) (by first | assumption | omega | (simp only [upS, reduceIte, Nat.reduceEqDiff, eq_self, List.length_cons, List.length_nil, List.length_append] <;> omega)) (by first | assumption | omega | (simp only [upS, reduceIte, Nat.reduceEqDiff, eq_self, List.length_cons, List.length_nil, List.length_append] <;> omega))) mw3_worthOfTrip ml3_49 [0, 1, 2, 3, 4, 5, 6, 7] [] rfl rfl ⟨rfl, rfl⟩ (by decide) ⟨Nat.le_of_ble_eq_true rfl, Nat.le_of_ble_eq_true rfl⟩ rfl (rest := [.int (iZ v16)]) rfl (Nat.le_of_ble_eq_true rfl) d3_worthFrom_139 ⟨Nat.le_of_ble_eq_true rfl, Nat.le_of_ble_eq_true rfl⟩ (fun r w1 hr => ?_)
          obtain ⟨v19, kn1_20, rfl, rfl, ⟨hq18_0, hq18_1, hq18_2⟩⟩ := hr
          refine j_eq (ws' := [(la, o3 (some ta) (some ka) Q), (ka, aLng E 39852 kn1_20), (ta, o7 (some ca) (some oa) T), (oa, aInt E 24 co), (ca, o1 (some pa) (some da) (some sa) C), (pa, aInt E 5 P), (da, aInt E 24 dr), (sa, aInt E 24 sr)]) rfl rfl rfl ?_
          have ht0 : v19 = tpF K (Q 1) step (dF K step (81 * p + 9 * a + b)) (dA K step (81 * p + 9 * a + b)) (dB K step (81 * p + 9 * a + b)) := by rw [hF, hA, hB]; exact hq18_0
          have ht1 := hq18_1
          have ht2 := hq18_2
          refine j_mmax G ml3_52 (by omega) (by omega) ⟨Nat.le_of_ble_eq_true rfl, Nat.le_of_ble_eq_true rfl⟩ ⟨Nat.le_of_ble_eq_true rfl, Nat.le_of_ble_eq_true rfl⟩ d3_worthFrom_142 ?_
          have hmx := vn_max tok hs11 (by omega) hsp.1 hn0 ht0
          have hmr := Vn_r tok hsp.1 (s := step) (st := (81 * p + 9 * a + b)) (by omega) (by omega)
          refine j_istore G d3_worthFrom_145 (by decide) rfl ?_
          refine j_aload_n G 6 rfl d3_worthFrom_147 ?_
          refine j_get G 0 3 3 in3 fl3_12 d3_worthFrom_148 rfl rfl (by decide) (v := .ref ka) rfl rfl ?_
          refine j_iload G 5 rfl d3_worthFrom_151 ?_
          refine j_aload_n G 6 rfl d3_worthFrom_153 ?_
          refine j_get G 0 3 2 in3 fl3_24 d3_worthFrom_154 rfl rfl (by decide) (v := .long (lZ (Q 2))) rfl rfl ?_
          refine j_bipush G d3_worthFrom_157 rfl ?_
          refine r_lshl G d3_worthFrom_159 ?_
          refine j_topl (y := (lZ (Q 2 * 1048576))) (kn_sh (by omega) (by omega)) ?_
          refine j_iload G 0 rfl d3_worthFrom_160 ?_
          refine j_i2l G d3_worthFrom_162 (by omega) ?_
          refine r_lor G d3_worthFrom_163 ?_
          refine j_topl (y := (lZ (Q 2 * 1048576 + (max v16 v19)))) (kn_or (by omega) (by omega) (by omega) (by omega)) ?_
          refine j_last G 1 rfl (by omega) d3_worthFrom_164 ?_
          refine j_iload G 0 rfl d3_worthFrom_165 ?_
          exact j_iret G F d3_worthFrom_167 ⟨max v16 v19, (upI kn1_20 pl (Q 2 * 1048576 + (max v16 v19))), rfl, rfl, (by exact ⟨hmx, KnK.up ht1 hj.1 hj.2 (by rw [hje.1, hje.2]; exact hmx) (by omega), by omega⟩)⟩
        ·
          have h4 : ¬ ((kn pl / 1048576) ≠ (Q 2)) := by
            revert h4; split <;> (try split) <;> intro h4 <;> omega
          have hvv := hkj.2 (by omega)
          rw [hje.1, hje.2] at hvv
          have hvr := Vn_r tok hsp.1 (s := step) (st := (81 * p + 9 * a + b)) (by omega) (by omega)
          refine j_aload_n G 1 rfl d3_worthFrom_60 ?_
          refine j_get G 0 3 3 in3 fl3_12 d3_worthFrom_61 rfl rfl (by decide) (v := .ref ka) rfl rfl ?_
          refine j_iload G 0 rfl d3_worthFrom_64 ?_
          refine j_lald G 1 rfl (by omega) d3_worthFrom_66 ?_
          refine j_l2i G d3_worthFrom_67 ?_
          refine j_ldc G 1048575 ct3_28 (by decide) d3_worthFrom_68 ?_
          refine r_iand G d3_worthFrom_70 ?_
          refine j_top (y := (iZ (kn pl % 1048576))) (kn_lo (by omega) (by omega)) ?_
          exact j_iret G F d3_worthFrom_71 ⟨kn pl % 1048576, kn, rfl, rfl, (by exact ⟨hvv, hkn, by omega⟩)⟩
      ·
        exact absurd h3 (by omega)
set_option maxHeartbeats 4000000 in
set_option maxRecDepth 100000 in
theorem k3_worthOfTrip_11 (l : Launch) (E : En) (la : Nat) (ka : Nat) (Q : Nat → Int) (ta : Nat) (oa : Nat) (T : Nat → Int) (ca : Nat) (pa : Nat) (da : Nat) (sa : Nat) (C : Nat → Int) (P : Int → Int) (dr : Int → Int) (sr : Int → Int) (co : Int → Int) (K : Dy) (kn : Int → Int) (step : Int) (p : Int) (a : Int) (b : Int) (htm : TmK K T C P dr sr co) (hkn : KnK K (Q 1) (Q 2) kn) (hsp : 0 ≤ Q 1 ∧ Q 1 ≤ 20) (hst : 1 ≤ step ∧ step ≤ 11) (hp : 0 ≤ p ∧ p ≤ 40) (ha : 0 ≤ a ∧ a ≤ 8) (hb : 0 ≤ b ∧ b ≤ 8) : Cm l E y3_worthOfTrip c3_worthOfTrip 8 (some .int) { frames := 23, cells := 0, slots := 0, locals := 644 } [.ref la, .int (iZ step), .int (iZ p), .int (iZ a), .int (iZ b)] [(la, o3 (some ta) (some ka) Q), (ka, aLng E 39852 kn), (ta, o7 (some ca) (some oa) T), (oa, aInt E 24 co), (ca, o1 (some pa) (some da) (some sa) C), (pa, aInt E 5 P), (da, aInt E 24 dr), (sa, aInt E 24 sr)] (fun r ws => ∃ (v : Int), ∃ (kn1 : Int → Int), r = some (.int (iZ v)) ∧ ws = [(la, o3 (some ta) (some ka) Q), (ka, aLng E 39852 kn1), (ta, o7 (some ca) (some oa) T), (oa, aInt E 24 co), (ca, o1 (some pa) (some da) (some sa) C), (pa, aInt E 5 P), (da, aInt E 24 dr), (sa, aInt E 24 sr)] ∧ (v = tpF K (Q 1) step p a b ∧ KnK K (Q 1) (Q 2) kn1 ∧ (v = -99999 ∨ (0 ≤ v ∧ v ≤ 8000)))) := by
  refine Cm.of (by decide +kernel) (Nat.le_of_ble_eq_true rfl) (fun Γ A hl hargs hin G F => ?_)
  subst hl
  have tok := htm.2.1
  have tse := tok.2.1
  refine j_aload_n G 0 rfl d3_worthOfTrip_0 ?_
  refine j_get G 0 3 0 in3 fl3_16 d3_worthOfTrip_1 rfl rfl (by decide) (v := .ref ta) rfl rfl ?_
  refine j_iload_n G 3 rfl d3_worthOfTrip_4 ?_
  refine j_VP G (k7_seated (xl Γ) E ta oa T ca pa da sa C P dr sr co K a (by first | assumption | omega | (simp only [upS, reduceIte, Nat.reduceEqDiff, eq_self, List.length_cons, List.length_nil, List.length_append] <;> omega)) (by first | assumption | omega | (simp only [upS, reduceIte, Nat.reduceEqDiff, eq_self, List.length_cons, List.length_nil, List.length_append] <;> omega))) mw7_seated ml3_57 [2, 3, 4, 5, 6, 7] rfl 2 7 rfl rfl rfl ⟨Nat.le_of_ble_eq_true rfl, Nat.le_of_ble_eq_true rfl⟩ rfl (rest := []) rfl (Nat.le_of_ble_eq_true rfl) d3_worthOfTrip_5 ⟨Nat.le_of_ble_eq_true rfl, Nat.le_of_ble_eq_true rfl⟩ (fun r hr => ?_)
  obtain ⟨v2, rfl, ⟨hq1_0, hq1_1, hq1_2, hq1_3, hq1_4⟩⟩ := hr
  have hd0 := hq1_0
  have hd1 := hq1_1
  have hd2 := hq1_2
  have hd3 := hq1_3
  have hd4 := hq1_4
  refine j_istore G d3_worthOfTrip_8 (by decide) rfl ?_
  refine j_aload_n G 1 rfl d3_worthOfTrip_10 ?_
  refine j_get G 0 3 0 in3 fl3_16 d3_worthOfTrip_11 rfl rfl (by decide) (v := .ref ta) rfl rfl ?_
  refine j_iload G 5 rfl d3_worthOfTrip_14 ?_
  refine j_VP G (k7_seated (xl Γ) E ta oa T ca pa da sa C P dr sr co K b (by first | assumption | omega | (simp only [upS, reduceIte, Nat.reduceEqDiff, eq_self, List.length_cons, List.length_nil, List.length_append] <;> omega)) (by first | assumption | omega | (simp only [upS, reduceIte, Nat.reduceEqDiff, eq_self, List.length_cons, List.length_nil, List.length_append] <;> omega))) mw7_seated ml3_57 [2, 3, 4, 5, 6, 7] rfl 2 7 rfl rfl rfl ⟨Nat.le_of_ble_eq_true rfl, Nat.le_of_ble_eq_true rfl⟩ rfl (rest := []) rfl (Nat.le_of_ble_eq_true rfl) d3_worthOfTrip_16 ⟨Nat.le_of_ble_eq_true rfl, Nat.le_of_ble_eq_true rfl⟩ (fun r hr => ?_)
  obtain ⟨v4, rfl, ⟨hq3_0, hq3_1, hq3_2, hq3_3, hq3_4⟩⟩ := hr
  have hu0 := hq3_0
  have hu1 := hq3_1
  have hu2 := hq3_2
  have hu3 := hq3_3
  have hu4 := hq3_4
  refine j_istore G d3_worthOfTrip_19 (by decide) rfl ?_
  refine j_aload_n G 2 rfl d3_worthOfTrip_21 ?_
  refine j_get G 0 3 0 in3 fl3_16 d3_worthOfTrip_22 rfl rfl (by decide) (v := .ref ta) rfl rfl ?_
  refine j_iload_n G 3 rfl d3_worthOfTrip_25 ?_
  refine j_iload G 1 rfl d3_worthOfTrip_26 ?_
  refine j_iload G 0 rfl d3_worthOfTrip_28 ?_
  refine j_VP G (k7_leastFor (xl Γ) E ta oa T ca pa da sa C P dr sr co K step v2 v4 (by first | assumption | omega | (simp only [upS, reduceIte, Nat.reduceEqDiff, eq_self, List.length_cons, List.length_nil, List.length_append] <;> omega)) (by first | assumption | omega | (simp only [upS, reduceIte, Nat.reduceEqDiff, eq_self, List.length_cons, List.length_nil, List.length_append] <;> omega)) (by first | assumption | omega | (simp only [upS, reduceIte, Nat.reduceEqDiff, eq_self, List.length_cons, List.length_nil, List.length_append] <;> omega)) (by first | assumption | omega | (simp only [upS, reduceIte, Nat.reduceEqDiff, eq_self, List.length_cons, List.length_nil, List.length_append] <;> omega))) mw7_leastFor ml3_60 [2, 3, 4, 5, 6, 7] rfl 2 7 rfl rfl rfl ⟨Nat.le_of_ble_eq_true rfl, Nat.le_of_ble_eq_true rfl⟩ rfl (rest := []) rfl (Nat.le_of_ble_eq_true rfl) d3_worthOfTrip_30 ⟨Nat.le_of_ble_eq_true rfl, Nat.le_of_ble_eq_true rfl⟩ (fun r hr => ?_)
  obtain ⟨v6, rfl, ⟨hq5_0, hq5_1⟩⟩ := hr
  have hw0 := hq5_0
  have hw1 := hq5_1
  refine j_istore G d3_worthOfTrip_33 (by decide) rfl ?_
  refine j_iload G 2 rfl d3_worthOfTrip_35 ?_
  refine j_iload G 1 rfl d3_worthOfTrip_37 ?_
  refine j_iadd G d3_worthOfTrip_39 ?_
  refine j_if_eq (tgt := 61) G d3_worthOfTrip_40 (by decide) (by omega) (fun h7 => ?_) (fun h7 => ?_)
  ·
    refine j_ldc G (-99999) ct3_64 (by decide) d3_worthOfTrip_61 ?_
    exact j_iret G F d3_worthOfTrip_63 ⟨(-99999), kn, rfl, rfl, (by refine ⟨?_, hkn, Or.inl rfl⟩; unfold tpF; rw [← hd0, ← hu0, ← hw0, if_pos (by omega)])⟩
  ·
    refine j_iload G 0 rfl d3_worthOfTrip_43 ?_
    refine j_bipush G d3_worthOfTrip_45 rfl ?_
    refine j_icmp_eq (tgt := 61) G d3_worthOfTrip_47 (by decide) (by omega) (by decide) (fun h8 => ?_) (fun h8 => ?_)
    ·
      refine j_ldc G (-99999) ct3_64 (by decide) d3_worthOfTrip_61 ?_
      exact j_iret G F d3_worthOfTrip_63 ⟨(-99999), kn, rfl, rfl, (by refine ⟨?_, hkn, Or.inl rfl⟩; unfold tpF; rw [← hd0, ← hu0, ← hw0, if_pos (by omega)])⟩
    ·
      refine j_iload_n G 5 rfl d3_worthOfTrip_50 ?_
      refine j_iload G 0 rfl d3_worthOfTrip_51 ?_
      refine j_isub G d3_worthOfTrip_53 ?_
      refine j_aload_n G 3 rfl d3_worthOfTrip_54 ?_
      refine j_get G 0 3 1 in3 fl3_20 d3_worthOfTrip_55 rfl rfl (by decide) (v := .int (iZ (Q 1))) rfl rfl ?_
      refine j_icmp_ge (tgt := 64) G d3_worthOfTrip_58 (by decide) (by omega) (by omega) (fun h9 => ?_) (fun h9 => ?_)
      ·
        refine j_bipush G d3_worthOfTrip_64 rfl ?_
        refine j_iload G 1 rfl d3_worthOfTrip_66 ?_
        refine j_imul G d3_worthOfTrip_68 ?_
        refine j_aload_n G 3 rfl d3_worthOfTrip_69 ?_
        refine j_iload_n G 4 rfl d3_worthOfTrip_70 ?_
        refine j_iconst G d3_worthOfTrip_71 ?_
        refine j_iadd G d3_worthOfTrip_72 ?_
        refine j_iload_n G 5 rfl d3_worthOfTrip_73 ?_
        refine j_iload G 0 rfl d3_worthOfTrip_74 ?_
        refine j_isub G d3_worthOfTrip_76 ?_
        refine j_iload_n G 6 rfl d3_worthOfTrip_77 ?_
        refine j_iload G 2 rfl d3_worthOfTrip_78 ?_
        refine j_isub G d3_worthOfTrip_80 ?_
        refine j_iload G 7 rfl d3_worthOfTrip_81 ?_
        refine j_iload G 1 rfl d3_worthOfTrip_83 ?_
        refine j_isub G d3_worthOfTrip_85 ?_
        refine j_SM G (rm' := { frames := 22, cells := 0, slots := 0, locals := 614 }) (wc := [(la, o3 (some ta) (some ka) Q), (ka, aLng E 39852 kn), (ta, o7 (some ca) (some oa) T), (oa, aInt E 24 co), (ca, o1 (some pa) (some da) (some sa) C), (pa, aInt E 5 P), (da, aInt E 24 dr), (sa, aInt E 24 sr)]) (wr := []) (k3_worthFrom_10 (xl Γ) E la ka Q ta oa T ca pa da sa C P dr sr co K kn (step + 1) (p - v6) (a - v2) (b - v4) (by first | assumption | omega | (simp only [upS, reduceIte, Nat.reduceEqDiff, eq_self, List.length_cons, List.length_nil, List.length_append] <;> omega)) (by first | assumption | omega | (simp only [upS, reduceIte, Nat.reduceEqDiff, eq_self, List.length_cons, List.length_nil, List.length_append] <;> omega)) (by first | assumption | omega | (simp only [upS, reduceIte, Nat.reduceEqDiff, eq_self, List.length_cons, List.length_nil, List.length_append] <;> omega)) (by first | assumption | omega | (simp only [upS, reduceIte, Nat.reduceEqDiff, eq_self, List.length_cons, List.length_nil, List.length_append] <;> omega)) (by first | assumption | omega | (simp only [upS, reduceIte, Nat.reduceEqDiff, eq_self, List.length_cons, List.length_nil, List.length_append] <;> omega)) (by first | assumption | omega | (simp only [upS, reduceIte, Nat.reduceEqDiff, eq_self, List.length_cons, List.length_nil, List.length_append] <;> omega)) (by first | assumption | omega | (simp only [upS, reduceIte, Nat.reduceEqDiff, eq_self, List.length_cons, List.length_nil, List.length_append] <;> omega))) mw3_worthFrom ml3_45 [0, 1, 2, 3, 4, 5, 6, 7] [] rfl rfl ⟨rfl, rfl⟩ (by decide) ⟨Nat.le_of_ble_eq_true rfl, Nat.le_of_ble_eq_true rfl⟩ rfl (rest := [.int (iZ (100 * v4))]) rfl (Nat.le_of_ble_eq_true rfl) d3_worthOfTrip_86 ⟨Nat.le_of_ble_eq_true rfl, Nat.le_of_ble_eq_true rfl⟩ (fun r w1 hr => ?_)
        obtain ⟨v11, kn1_12, rfl, rfl, ⟨hq10_0, hq10_1, hq10_2⟩⟩ := hr
        refine j_eq (ws' := [(la, o3 (some ta) (some ka) Q), (ka, aLng E 39852 kn1_12), (ta, o7 (some ca) (some oa) T), (oa, aInt E 24 co), (ca, o1 (some pa) (some da) (some sa) C), (pa, aInt E 5 P), (da, aInt E 24 dr), (sa, aInt E 24 sr)]) rfl rfl rfl ?_
        have hn0 := hq10_0
        have hn1 := hq10_1
        have hn2 := hq10_2
        refine j_iadd G d3_worthOfTrip_89 ?_
        exact j_iret G F d3_worthOfTrip_90 ⟨(100 * v4) + v11, kn1_12, rfl, rfl, (by refine ⟨?_, hn1, by omega⟩; unfold tpF; rw [← hd0, ← hu0, ← hw0, if_neg (by omega), hn0])⟩
      ·
        refine j_ldc G (-99999) ct3_64 (by decide) d3_worthOfTrip_61 ?_
        exact j_iret G F d3_worthOfTrip_63 ⟨(-99999), kn, rfl, rfl, (by refine ⟨?_, hkn, Or.inl rfl⟩; unfold tpF; rw [← hd0, ← hu0, ← hw0, if_pos (by omega)])⟩
set_option maxHeartbeats 4000000 in
set_option maxRecDepth 100000 in
theorem k3_worthFrom_11 (l : Launch) (E : En) (la : Nat) (ka : Nat) (Q : Nat → Int) (ta : Nat) (oa : Nat) (T : Nat → Int) (ca : Nat) (pa : Nat) (da : Nat) (sa : Nat) (C : Nat → Int) (P : Int → Int) (dr : Int → Int) (sr : Int → Int) (co : Int → Int) (K : Dy) (kn : Int → Int) (step : Int) (p : Int) (a : Int) (b : Int) (htm : TmK K T C P dr sr co) (hkn : KnK K (Q 1) (Q 2) kn) (hsp : 0 ≤ Q 1 ∧ Q 1 ≤ 20) (hst : 1 ≤ step ∧ step ≤ 12) (hp : 0 ≤ p ∧ p ≤ 40) (ha : 0 ≤ a ∧ a ≤ 8) (hb : 0 ≤ b ∧ b ≤ 8) : Cm l E y3_worthFrom c3_worthFrom 11 (some .int) { frames := 24, cells := 0, slots := 0, locals := 671 } [.ref la, .int (iZ step), .int (iZ p), .int (iZ a), .int (iZ b)] [(la, o3 (some ta) (some ka) Q), (ka, aLng E 39852 kn), (ta, o7 (some ca) (some oa) T), (oa, aInt E 24 co), (ca, o1 (some pa) (some da) (some sa) C), (pa, aInt E 5 P), (da, aInt E 24 dr), (sa, aInt E 24 sr)] (fun r ws => ∃ (v : Int), ∃ (kn1 : Int → Int), r = some (.int (iZ v)) ∧ ws = [(la, o3 (some ta) (some ka) Q), (ka, aLng E 39852 kn1), (ta, o7 (some ca) (some oa) T), (oa, aInt E 24 co), (ca, o1 (some pa) (some da) (some sa) C), (pa, aInt E 5 P), (da, aInt E 24 dr), (sa, aInt E 24 sr)] ∧ (v = Vn K (Q 1) step (81 * p + 9 * a + b) ∧ KnK K (Q 1) (Q 2) kn1 ∧ (0 ≤ v ∧ v ≤ 7240))) := by
  refine Cm.of (by decide +kernel) (Nat.le_of_ble_eq_true rfl) (fun Γ A hl hargs hin G F => ?_)
  subst hl
  have tok := htm.2.1
  refine j_iload_n G 1 rfl d3_worthFrom_0 ?_
  refine j_bipush G d3_worthFrom_1 rfl ?_
  refine j_imul G d3_worthFrom_3 ?_
  refine j_iload_n G 2 rfl d3_worthFrom_4 ?_
  refine j_iadd G d3_worthFrom_5 ?_
  refine j_bipush G d3_worthFrom_6 rfl ?_
  refine j_imul G d3_worthFrom_8 ?_
  refine j_iload_n G 3 rfl d3_worthFrom_9 ?_
  refine j_iadd G d3_worthFrom_10 ?_
  refine j_bipush G d3_worthFrom_11 rfl ?_
  refine j_imul G d3_worthFrom_13 ?_
  refine j_iload G 4 rfl d3_worthFrom_14 ?_
  refine j_iadd G d3_worthFrom_16 ?_
  refine j_nm (fun pl epl => ?_)
  refine j_istore G d3_worthFrom_17 (by decide) rfl ?_
  refine j_iload_n G 2 rfl d3_worthFrom_19 ?_
  have hpl : pl = 3321 * step + (81 * p + 9 * a + b) := by omega
  refine j_bipush G d3_worthFrom_20 rfl ?_
  refine j_icmp_ge (tgt := 40) G d3_worthFrom_22 (by decide) (by omega) (by decide) (fun h1 => ?_) (fun h1 => ?_)
  ·
    have he : step = 12 := by omega
    refine j_iload_n G 3 rfl d3_worthFrom_40 ?_
    exact j_iret G F d3_worthFrom_41 ⟨p, kn, rfl, rfl, (by refine ⟨?_, hkn, by omega⟩; rw [he, Vn_e]; omega)⟩
  ·
    have hj : 0 ≤ pl ∧ pl < 39852 := by omega
    have hs11 : 0 ≤ step ∧ step ≤ 11 := by omega
    have hnw := st_now (K := K) (s := step) (p := p) ha hb
    have hdr := dR tok hs11 (st := (81 * p + 9 * a + b)) (by omega)
    have hnr := dNow_r tok hs11 (st := (81 * p + 9 * a + b)) (by omega)
    refine j_iload G 0 rfl d3_worthFrom_25 ?_
    refine j_if_lt (tgt := 40) G d3_worthFrom_27 (by decide) (by omega) (fun h2 => ?_) (fun h2 => ?_)
    ·
      exact absurd h2 (by omega)
    ·
      refine j_iload G 0 rfl d3_worthFrom_30 ?_
      refine j_aload_n G 1 rfl d3_worthFrom_32 ?_
      refine j_get G 0 3 3 in3 fl3_12 d3_worthFrom_33 rfl rfl (by decide) (v := .ref ka) rfl rfl ?_
      refine j_alenL G 1 rfl d3_worthFrom_36 ?_
      refine j_icmp_lt (tgt := 42) G d3_worthFrom_37 (by decide) (by omega) (by decide) (fun h3 => ?_) (fun h3 => ?_)
      ·
        have hje : pl / 3321 = step ∧ pl % 3321 = (81 * p + 9 * a + b) := by omega
        have hkj := hkn.2 pl hj.1 hj.2
        have hed := hkn.1
        refine j_aload_n G 1 rfl d3_worthFrom_42 ?_
        refine j_get G 0 3 3 in3 fl3_12 d3_worthFrom_43 rfl rfl (by decide) (v := .ref ka) rfl rfl ?_
        refine j_iload G 0 rfl d3_worthFrom_46 ?_
        refine j_lald G 1 rfl (by omega) d3_worthFrom_48 ?_
        refine j_bipush G d3_worthFrom_49 rfl ?_
        refine r_lshr G d3_worthFrom_51 ?_
        refine j_topl (y := (lZ (kn pl / 1048576))) (kn_hi (by omega) (by omega)) ?_
        refine j_aload_n G 1 rfl d3_worthFrom_52 ?_
        refine j_get G 0 3 2 in3 fl3_24 d3_worthFrom_53 rfl rfl (by decide) (v := .long (lZ (Q 2))) rfl rfl ?_
        refine j_lcmp G d3_worthFrom_56 (by omega) (by omega) ?_
        refine j_if_ne (tgt := 72) G d3_worthFrom_57 (by decide) (by split <;> first | decide | (split <;> decide)) (fun h4 => ?_) (fun h4 => ?_)
        ·
          have h4 : (kn pl / 1048576) ≠ (Q 2) := by
            revert h4; split <;> (try split) <;> intro h4 <;> omega
          refine j_aload_n G 1 rfl d3_worthFrom_72 ?_
          refine j_get G 0 3 0 in3 fl3_16 d3_worthFrom_73 rfl rfl (by decide) (v := .ref ta) rfl rfl ?_
          refine j_iload_n G 2 rfl d3_worthFrom_76 ?_
          refine j_iload_n G 3 rfl d3_worthFrom_77 ?_
          refine j_VP G (k7_pondWithSpring (xl Γ) E ta oa T ca pa da sa C P dr sr co K step p (by first | assumption | omega | (simp only [upS, reduceIte, Nat.reduceEqDiff, eq_self, List.length_cons, List.length_nil, List.length_append] <;> omega)) (by first | assumption | omega | (simp only [upS, reduceIte, Nat.reduceEqDiff, eq_self, List.length_cons, List.length_nil, List.length_append] <;> omega)) (by first | assumption | omega | (simp only [upS, reduceIte, Nat.reduceEqDiff, eq_self, List.length_cons, List.length_nil, List.length_append] <;> omega))) mw7_pondWithSpring ml3_29 [2, 3, 4, 5, 6, 7] rfl 2 7 rfl rfl rfl ⟨Nat.le_of_ble_eq_true rfl, Nat.le_of_ble_eq_true rfl⟩ rfl (rest := []) rfl (Nat.le_of_ble_eq_true rfl) d3_worthFrom_78 ⟨Nat.le_of_ble_eq_true rfl, Nat.le_of_ble_eq_true rfl⟩ (fun r hr => ?_)
          obtain ⟨v6, rfl, ⟨hq5_0, hq5_1, hq5_2⟩⟩ := hr
          have hf2 := hq5_1
          have hF : dF K step (81 * p + 9 * a + b) = v6 := by have := hq5_0; omega
          refine j_istore G d3_worthFrom_81 (by decide) rfl ?_
          refine j_iload_n G 5 rfl d3_worthFrom_83 ?_
          refine j_aload_n G 2 rfl d3_worthFrom_84 ?_
          refine j_get G 0 3 0 in3 fl3_16 d3_worthFrom_85 rfl rfl (by decide) (v := .ref ta) rfl rfl ?_
          refine j_iload_n G 3 rfl d3_worthFrom_88 ?_
          refine j_VP G (k7_comingAbove (xl Γ) E ta oa T ca pa da sa C P dr sr co K step (by first | assumption | omega | (simp only [upS, reduceIte, Nat.reduceEqDiff, eq_self, List.length_cons, List.length_nil, List.length_append] <;> omega)) (by first | assumption | omega | (simp only [upS, reduceIte, Nat.reduceEqDiff, eq_self, List.length_cons, List.length_nil, List.length_append] <;> omega))) mw7_comingAbove ml3_35 [2, 3, 4, 5, 6, 7] rfl 2 7 rfl rfl rfl ⟨Nat.le_of_ble_eq_true rfl, Nat.le_of_ble_eq_true rfl⟩ rfl (rest := [.int (iZ a)]) rfl (Nat.le_of_ble_eq_true rfl) d3_worthFrom_89 ⟨Nat.le_of_ble_eq_true rfl, Nat.le_of_ble_eq_true rfl⟩ (fun r hr => ?_)
          obtain ⟨v8, rfl, ⟨hq7_0, hq7_1, hq7_2⟩⟩ := hr
          have hca := hq7_0
          have hcb := hq7_1
          refine j_iadd G d3_worthFrom_92 ?_
          refine j_SP G (k3_waiting (xl Γ) E (a + v8) (by first | assumption | omega | (simp only [upS, reduceIte, Nat.reduceEqDiff, eq_self, List.length_cons, List.length_nil, List.length_append] <;> omega))) mw3_waiting ml3_39 [] rfl ⟨Nat.le_of_ble_eq_true rfl, Nat.le_of_ble_eq_true rfl⟩ rfl (rest := []) rfl (Nat.le_of_ble_eq_true rfl) d3_worthFrom_93 ⟨Nat.le_of_ble_eq_true rfl, Nat.le_of_ble_eq_true rfl⟩ (fun r hr => ?_)
          obtain ⟨v10, rfl, hq9⟩ := hr
          have hA : dA K step (81 * p + 9 * a + b) = v10 := by have := hq9; omega
          have hta := hq9
          refine j_istore G d3_worthFrom_96 (by decide) rfl ?_
          refine j_iload G 7 rfl d3_worthFrom_98 ?_
          refine j_aload_n G 3 rfl d3_worthFrom_100 ?_
          refine j_get G 0 3 0 in3 fl3_16 d3_worthFrom_101 rfl rfl (by decide) (v := .ref ta) rfl rfl ?_
          refine j_iload_n G 4 rfl d3_worthFrom_104 ?_
          refine j_VP G (k7_comingBelow (xl Γ) E ta oa T ca pa da sa C P dr sr co K step (by first | assumption | omega | (simp only [upS, reduceIte, Nat.reduceEqDiff, eq_self, List.length_cons, List.length_nil, List.length_append] <;> omega)) (by first | assumption | omega | (simp only [upS, reduceIte, Nat.reduceEqDiff, eq_self, List.length_cons, List.length_nil, List.length_append] <;> omega))) mw7_comingBelow ml3_42 [2, 3, 4, 5, 6, 7] rfl 2 7 rfl rfl rfl ⟨Nat.le_of_ble_eq_true rfl, Nat.le_of_ble_eq_true rfl⟩ rfl (rest := [.int (iZ b)]) rfl (Nat.le_of_ble_eq_true rfl) d3_worthFrom_105 ⟨Nat.le_of_ble_eq_true rfl, Nat.le_of_ble_eq_true rfl⟩ (fun r hr => ?_)
          obtain ⟨v12, rfl, ⟨hq11_0, hq11_1, hq11_2⟩⟩ := hr
          have hda := hq11_0
          have hdb := hq11_1
          refine j_iadd G d3_worthFrom_108 ?_
          refine j_SP G (k3_waiting (xl Γ) E (b + v12) (by first | assumption | omega | (simp only [upS, reduceIte, Nat.reduceEqDiff, eq_self, List.length_cons, List.length_nil, List.length_append] <;> omega))) mw3_waiting ml3_39 [] rfl ⟨Nat.le_of_ble_eq_true rfl, Nat.le_of_ble_eq_true rfl⟩ rfl (rest := []) rfl (Nat.le_of_ble_eq_true rfl) d3_worthFrom_109 ⟨Nat.le_of_ble_eq_true rfl, Nat.le_of_ble_eq_true rfl⟩ (fun r hr => ?_)
          obtain ⟨v14, rfl, hq13⟩ := hr
          have hB : dB K step (81 * p + 9 * a + b) = v14 := by have := hq13; omega
          have htb := hq13
          refine j_istore G d3_worthFrom_112 (by decide) rfl ?_
          refine j_aload_n G 4 rfl d3_worthFrom_114 ?_
          refine j_iload_n G 5 rfl d3_worthFrom_115 ?_
          refine j_iconst G d3_worthFrom_116 ?_
          refine j_iadd G d3_worthFrom_117 ?_
          refine j_iload G 2 rfl d3_worthFrom_118 ?_
          refine j_iload G 1 rfl d3_worthFrom_120 ?_
          refine j_iload G 0 rfl d3_worthFrom_122 ?_
          refine j_SM G (rm' := { frames := 22, cells := 0, slots := 0, locals := 614 }) (wc := [(la, o3 (some ta) (some ka) Q), (ka, aLng E 39852 kn), (ta, o7 (some ca) (some oa) T), (oa, aInt E 24 co), (ca, o1 (some pa) (some da) (some sa) C), (pa, aInt E 5 P), (da, aInt E 24 dr), (sa, aInt E 24 sr)]) (wr := []) (k3_worthFrom_10 (xl Γ) E la ka Q ta oa T ca pa da sa C P dr sr co K kn (step + 1) v6 v10 v14 (by first | assumption | omega | (simp only [upS, reduceIte, Nat.reduceEqDiff, eq_self, List.length_cons, List.length_nil, List.length_append] <;> omega)) (by first | assumption | omega | (simp only [upS, reduceIte, Nat.reduceEqDiff, eq_self, List.length_cons, List.length_nil, List.length_append] <;> omega)) (by first | assumption | omega | (simp only [upS, reduceIte, Nat.reduceEqDiff, eq_self, List.length_cons, List.length_nil, List.length_append] <;> omega)) (by first | assumption | omega | (simp only [upS, reduceIte, Nat.reduceEqDiff, eq_self, List.length_cons, List.length_nil, List.length_append] <;> omega)) (by first | assumption | omega | (simp only [upS, reduceIte, Nat.reduceEqDiff, eq_self, List.length_cons, List.length_nil, List.length_append] <;> omega)) (by first | assumption | omega | (simp only [upS, reduceIte, Nat.reduceEqDiff, eq_self, List.length_cons, List.length_nil, List.length_append] <;> omega)) (by first | assumption | omega | (simp only [upS, reduceIte, Nat.reduceEqDiff, eq_self, List.length_cons, List.length_nil, List.length_append] <;> omega))) mw3_worthFrom ml3_45 [0, 1, 2, 3, 4, 5, 6, 7] [] rfl rfl ⟨rfl, rfl⟩ (by decide) ⟨Nat.le_of_ble_eq_true rfl, Nat.le_of_ble_eq_true rfl⟩ rfl (rest := []) rfl (Nat.le_of_ble_eq_true rfl) d3_worthFrom_124 ⟨Nat.le_of_ble_eq_true rfl, Nat.le_of_ble_eq_true rfl⟩ (fun r w1 hr => ?_)
          obtain ⟨v16, kn1_17, rfl, rfl, ⟨hq15_0, hq15_1, hq15_2⟩⟩ := hr
          refine j_eq (ws' := [(la, o3 (some ta) (some ka) Q), (ka, aLng E 39852 kn1_17), (ta, o7 (some ca) (some oa) T), (oa, aInt E 24 co), (ca, o1 (some pa) (some da) (some sa) C), (pa, aInt E 5 P), (da, aInt E 24 dr), (sa, aInt E 24 sr)]) rfl rfl rfl ?_
          have hn0 : v16 = Vn K (Q 1) (step + 1) (dNow K step (81 * p + 9 * a + b)) := by rw [hq15_0]; congr 1; unfold dNow; omega
          have hn1 := hq15_1
          have hn2 := hq15_2
          refine j_istore G d3_worthFrom_127 (by decide) rfl ?_
          refine j_iload G 0 rfl d3_worthFrom_129 ?_
          refine j_aload_n G 5 rfl d3_worthFrom_131 ?_
          refine j_iload_n G 6 rfl d3_worthFrom_132 ?_
          refine j_iload G 3 rfl d3_worthFrom_133 ?_
          refine j_iload G 2 rfl d3_worthFrom_135 ?_
          refine j_iload G 1 rfl d3_worthFrom_137 ?_
          refine j_SM G (rm' := { frames := 23, cells := 0, slots := 0, locals := 644 }) (wc := [(la, o3 (some ta) (some ka) Q), (ka, aLng E 39852 kn1_17), (ta, o7 (some ca) (some oa) T), (oa, aInt E 24 co), (ca, o1 (some pa) (some da) (some sa) C), (pa, aInt E 5 P), (da, aInt E 24 dr), (sa, aInt E 24 sr)]) (wr := []) (k3_worthOfTrip_11 (xl Γ) E la ka Q ta oa T ca pa da sa C P dr sr co K kn1_17 step v6 v10 v14 (by first | assumption | omega | (simp only [upS, reduceIte, Nat.reduceEqDiff, eq_self, List.length_cons, List.length_nil, List.length_append] <;> omega)) (by first | assumption | omega | (simp only [upS, reduceIte, Nat.reduceEqDiff, eq_self, List.length_cons, List.length_nil, List.length_append] <;> omega)) (by first | assumption | omega | (simp only [upS, reduceIte, Nat.reduceEqDiff, eq_self, List.length_cons, List.length_nil, List.length_append] <;> omega)) (by first | assumption | omega | (simp only [upS, reduceIte, Nat.reduceEqDiff, eq_self, List.length_cons, List.length_nil, List.length_append] <;> omega)) (by first | assumption | omega | (simp only [upS, reduceIte, Nat.reduceEqDiff, eq_self, List.length_cons, List.length_nil, List.length_append] <;> omega)) (by first | assumption | omega | (simp only [upS, reduceIte, Nat.reduceEqDiff, eq_self, List.length_cons, List.length_nil, List.length_append] <;> omega)) (by first | assumption | omega | (simp only [upS, reduceIte, Nat.reduceEqDiff, eq_self, List.length_cons, List.length_nil, List.length_append] <;> omega))) mw3_worthOfTrip ml3_49 [0, 1, 2, 3, 4, 5, 6, 7] [] rfl rfl ⟨rfl, rfl⟩ (by decide) ⟨Nat.le_of_ble_eq_true rfl, Nat.le_of_ble_eq_true rfl⟩ rfl (rest := [.int (iZ v16)]) rfl (Nat.le_of_ble_eq_true rfl) d3_worthFrom_139 ⟨Nat.le_of_ble_eq_true rfl, Nat.le_of_ble_eq_true rfl⟩ (fun r w1 hr => ?_)
          obtain ⟨v19, kn1_20, rfl, rfl, ⟨hq18_0, hq18_1, hq18_2⟩⟩ := hr
          refine j_eq (ws' := [(la, o3 (some ta) (some ka) Q), (ka, aLng E 39852 kn1_20), (ta, o7 (some ca) (some oa) T), (oa, aInt E 24 co), (ca, o1 (some pa) (some da) (some sa) C), (pa, aInt E 5 P), (da, aInt E 24 dr), (sa, aInt E 24 sr)]) rfl rfl rfl ?_
          have ht0 : v19 = tpF K (Q 1) step (dF K step (81 * p + 9 * a + b)) (dA K step (81 * p + 9 * a + b)) (dB K step (81 * p + 9 * a + b)) := by rw [hF, hA, hB]; exact hq18_0
          have ht1 := hq18_1
          have ht2 := hq18_2
          refine j_mmax G ml3_52 (by omega) (by omega) ⟨Nat.le_of_ble_eq_true rfl, Nat.le_of_ble_eq_true rfl⟩ ⟨Nat.le_of_ble_eq_true rfl, Nat.le_of_ble_eq_true rfl⟩ d3_worthFrom_142 ?_
          have hmx := vn_max tok hs11 (by omega) hsp.1 hn0 ht0
          have hmr := Vn_r tok hsp.1 (s := step) (st := (81 * p + 9 * a + b)) (by omega) (by omega)
          refine j_istore G d3_worthFrom_145 (by decide) rfl ?_
          refine j_aload_n G 6 rfl d3_worthFrom_147 ?_
          refine j_get G 0 3 3 in3 fl3_12 d3_worthFrom_148 rfl rfl (by decide) (v := .ref ka) rfl rfl ?_
          refine j_iload G 5 rfl d3_worthFrom_151 ?_
          refine j_aload_n G 6 rfl d3_worthFrom_153 ?_
          refine j_get G 0 3 2 in3 fl3_24 d3_worthFrom_154 rfl rfl (by decide) (v := .long (lZ (Q 2))) rfl rfl ?_
          refine j_bipush G d3_worthFrom_157 rfl ?_
          refine r_lshl G d3_worthFrom_159 ?_
          refine j_topl (y := (lZ (Q 2 * 1048576))) (kn_sh (by omega) (by omega)) ?_
          refine j_iload G 0 rfl d3_worthFrom_160 ?_
          refine j_i2l G d3_worthFrom_162 (by omega) ?_
          refine r_lor G d3_worthFrom_163 ?_
          refine j_topl (y := (lZ (Q 2 * 1048576 + (max v16 v19)))) (kn_or (by omega) (by omega) (by omega) (by omega)) ?_
          refine j_last G 1 rfl (by omega) d3_worthFrom_164 ?_
          refine j_iload G 0 rfl d3_worthFrom_165 ?_
          exact j_iret G F d3_worthFrom_167 ⟨max v16 v19, (upI kn1_20 pl (Q 2 * 1048576 + (max v16 v19))), rfl, rfl, (by exact ⟨hmx, KnK.up ht1 hj.1 hj.2 (by rw [hje.1, hje.2]; exact hmx) (by omega), by omega⟩)⟩
        ·
          have h4 : ¬ ((kn pl / 1048576) ≠ (Q 2)) := by
            revert h4; split <;> (try split) <;> intro h4 <;> omega
          have hvv := hkj.2 (by omega)
          rw [hje.1, hje.2] at hvv
          have hvr := Vn_r tok hsp.1 (s := step) (st := (81 * p + 9 * a + b)) (by omega) (by omega)
          refine j_aload_n G 1 rfl d3_worthFrom_60 ?_
          refine j_get G 0 3 3 in3 fl3_12 d3_worthFrom_61 rfl rfl (by decide) (v := .ref ka) rfl rfl ?_
          refine j_iload G 0 rfl d3_worthFrom_64 ?_
          refine j_lald G 1 rfl (by omega) d3_worthFrom_66 ?_
          refine j_l2i G d3_worthFrom_67 ?_
          refine j_ldc G 1048575 ct3_28 (by decide) d3_worthFrom_68 ?_
          refine r_iand G d3_worthFrom_70 ?_
          refine j_top (y := (iZ (kn pl % 1048576))) (kn_lo (by omega) (by omega)) ?_
          exact j_iret G F d3_worthFrom_71 ⟨kn pl % 1048576, kn, rfl, rfl, (by exact ⟨hvv, hkn, by omega⟩)⟩
      ·
        exact absurd h3 (by omega)
set_option maxHeartbeats 4000000 in
set_option maxRecDepth 100000 in
theorem k3_worthOfTrip_12 (l : Launch) (E : En) (la : Nat) (ka : Nat) (Q : Nat → Int) (ta : Nat) (oa : Nat) (T : Nat → Int) (ca : Nat) (pa : Nat) (da : Nat) (sa : Nat) (C : Nat → Int) (P : Int → Int) (dr : Int → Int) (sr : Int → Int) (co : Int → Int) (K : Dy) (kn : Int → Int) (step : Int) (p : Int) (a : Int) (b : Int) (htm : TmK K T C P dr sr co) (hkn : KnK K (Q 1) (Q 2) kn) (hsp : 0 ≤ Q 1 ∧ Q 1 ≤ 20) (hst : 0 ≤ step ∧ step ≤ 11) (hp : 0 ≤ p ∧ p ≤ 40) (ha : 0 ≤ a ∧ a ≤ 8) (hb : 0 ≤ b ∧ b ≤ 8) : Cm l E y3_worthOfTrip c3_worthOfTrip 8 (some .int) { frames := 25, cells := 0, slots := 0, locals := 701 } [.ref la, .int (iZ step), .int (iZ p), .int (iZ a), .int (iZ b)] [(la, o3 (some ta) (some ka) Q), (ka, aLng E 39852 kn), (ta, o7 (some ca) (some oa) T), (oa, aInt E 24 co), (ca, o1 (some pa) (some da) (some sa) C), (pa, aInt E 5 P), (da, aInt E 24 dr), (sa, aInt E 24 sr)] (fun r ws => ∃ (v : Int), ∃ (kn1 : Int → Int), r = some (.int (iZ v)) ∧ ws = [(la, o3 (some ta) (some ka) Q), (ka, aLng E 39852 kn1), (ta, o7 (some ca) (some oa) T), (oa, aInt E 24 co), (ca, o1 (some pa) (some da) (some sa) C), (pa, aInt E 5 P), (da, aInt E 24 dr), (sa, aInt E 24 sr)] ∧ (v = tpF K (Q 1) step p a b ∧ KnK K (Q 1) (Q 2) kn1 ∧ (v = -99999 ∨ (0 ≤ v ∧ v ≤ 8000)))) := by
  refine Cm.of (by decide +kernel) (Nat.le_of_ble_eq_true rfl) (fun Γ A hl hargs hin G F => ?_)
  subst hl
  have tok := htm.2.1
  have tse := tok.2.1
  refine j_aload_n G 0 rfl d3_worthOfTrip_0 ?_
  refine j_get G 0 3 0 in3 fl3_16 d3_worthOfTrip_1 rfl rfl (by decide) (v := .ref ta) rfl rfl ?_
  refine j_iload_n G 3 rfl d3_worthOfTrip_4 ?_
  refine j_VP G (k7_seated (xl Γ) E ta oa T ca pa da sa C P dr sr co K a (by first | assumption | omega | (simp only [upS, reduceIte, Nat.reduceEqDiff, eq_self, List.length_cons, List.length_nil, List.length_append] <;> omega)) (by first | assumption | omega | (simp only [upS, reduceIte, Nat.reduceEqDiff, eq_self, List.length_cons, List.length_nil, List.length_append] <;> omega))) mw7_seated ml3_57 [2, 3, 4, 5, 6, 7] rfl 2 7 rfl rfl rfl ⟨Nat.le_of_ble_eq_true rfl, Nat.le_of_ble_eq_true rfl⟩ rfl (rest := []) rfl (Nat.le_of_ble_eq_true rfl) d3_worthOfTrip_5 ⟨Nat.le_of_ble_eq_true rfl, Nat.le_of_ble_eq_true rfl⟩ (fun r hr => ?_)
  obtain ⟨v2, rfl, ⟨hq1_0, hq1_1, hq1_2, hq1_3, hq1_4⟩⟩ := hr
  have hd0 := hq1_0
  have hd1 := hq1_1
  have hd2 := hq1_2
  have hd3 := hq1_3
  have hd4 := hq1_4
  refine j_istore G d3_worthOfTrip_8 (by decide) rfl ?_
  refine j_aload_n G 1 rfl d3_worthOfTrip_10 ?_
  refine j_get G 0 3 0 in3 fl3_16 d3_worthOfTrip_11 rfl rfl (by decide) (v := .ref ta) rfl rfl ?_
  refine j_iload G 5 rfl d3_worthOfTrip_14 ?_
  refine j_VP G (k7_seated (xl Γ) E ta oa T ca pa da sa C P dr sr co K b (by first | assumption | omega | (simp only [upS, reduceIte, Nat.reduceEqDiff, eq_self, List.length_cons, List.length_nil, List.length_append] <;> omega)) (by first | assumption | omega | (simp only [upS, reduceIte, Nat.reduceEqDiff, eq_self, List.length_cons, List.length_nil, List.length_append] <;> omega))) mw7_seated ml3_57 [2, 3, 4, 5, 6, 7] rfl 2 7 rfl rfl rfl ⟨Nat.le_of_ble_eq_true rfl, Nat.le_of_ble_eq_true rfl⟩ rfl (rest := []) rfl (Nat.le_of_ble_eq_true rfl) d3_worthOfTrip_16 ⟨Nat.le_of_ble_eq_true rfl, Nat.le_of_ble_eq_true rfl⟩ (fun r hr => ?_)
  obtain ⟨v4, rfl, ⟨hq3_0, hq3_1, hq3_2, hq3_3, hq3_4⟩⟩ := hr
  have hu0 := hq3_0
  have hu1 := hq3_1
  have hu2 := hq3_2
  have hu3 := hq3_3
  have hu4 := hq3_4
  refine j_istore G d3_worthOfTrip_19 (by decide) rfl ?_
  refine j_aload_n G 2 rfl d3_worthOfTrip_21 ?_
  refine j_get G 0 3 0 in3 fl3_16 d3_worthOfTrip_22 rfl rfl (by decide) (v := .ref ta) rfl rfl ?_
  refine j_iload_n G 3 rfl d3_worthOfTrip_25 ?_
  refine j_iload G 1 rfl d3_worthOfTrip_26 ?_
  refine j_iload G 0 rfl d3_worthOfTrip_28 ?_
  refine j_VP G (k7_leastFor (xl Γ) E ta oa T ca pa da sa C P dr sr co K step v2 v4 (by first | assumption | omega | (simp only [upS, reduceIte, Nat.reduceEqDiff, eq_self, List.length_cons, List.length_nil, List.length_append] <;> omega)) (by first | assumption | omega | (simp only [upS, reduceIte, Nat.reduceEqDiff, eq_self, List.length_cons, List.length_nil, List.length_append] <;> omega)) (by first | assumption | omega | (simp only [upS, reduceIte, Nat.reduceEqDiff, eq_self, List.length_cons, List.length_nil, List.length_append] <;> omega)) (by first | assumption | omega | (simp only [upS, reduceIte, Nat.reduceEqDiff, eq_self, List.length_cons, List.length_nil, List.length_append] <;> omega))) mw7_leastFor ml3_60 [2, 3, 4, 5, 6, 7] rfl 2 7 rfl rfl rfl ⟨Nat.le_of_ble_eq_true rfl, Nat.le_of_ble_eq_true rfl⟩ rfl (rest := []) rfl (Nat.le_of_ble_eq_true rfl) d3_worthOfTrip_30 ⟨Nat.le_of_ble_eq_true rfl, Nat.le_of_ble_eq_true rfl⟩ (fun r hr => ?_)
  obtain ⟨v6, rfl, ⟨hq5_0, hq5_1⟩⟩ := hr
  have hw0 := hq5_0
  have hw1 := hq5_1
  refine j_istore G d3_worthOfTrip_33 (by decide) rfl ?_
  refine j_iload G 2 rfl d3_worthOfTrip_35 ?_
  refine j_iload G 1 rfl d3_worthOfTrip_37 ?_
  refine j_iadd G d3_worthOfTrip_39 ?_
  refine j_if_eq (tgt := 61) G d3_worthOfTrip_40 (by decide) (by omega) (fun h7 => ?_) (fun h7 => ?_)
  ·
    refine j_ldc G (-99999) ct3_64 (by decide) d3_worthOfTrip_61 ?_
    exact j_iret G F d3_worthOfTrip_63 ⟨(-99999), kn, rfl, rfl, (by refine ⟨?_, hkn, Or.inl rfl⟩; unfold tpF; rw [← hd0, ← hu0, ← hw0, if_pos (by omega)])⟩
  ·
    refine j_iload G 0 rfl d3_worthOfTrip_43 ?_
    refine j_bipush G d3_worthOfTrip_45 rfl ?_
    refine j_icmp_eq (tgt := 61) G d3_worthOfTrip_47 (by decide) (by omega) (by decide) (fun h8 => ?_) (fun h8 => ?_)
    ·
      refine j_ldc G (-99999) ct3_64 (by decide) d3_worthOfTrip_61 ?_
      exact j_iret G F d3_worthOfTrip_63 ⟨(-99999), kn, rfl, rfl, (by refine ⟨?_, hkn, Or.inl rfl⟩; unfold tpF; rw [← hd0, ← hu0, ← hw0, if_pos (by omega)])⟩
    ·
      refine j_iload_n G 5 rfl d3_worthOfTrip_50 ?_
      refine j_iload G 0 rfl d3_worthOfTrip_51 ?_
      refine j_isub G d3_worthOfTrip_53 ?_
      refine j_aload_n G 3 rfl d3_worthOfTrip_54 ?_
      refine j_get G 0 3 1 in3 fl3_20 d3_worthOfTrip_55 rfl rfl (by decide) (v := .int (iZ (Q 1))) rfl rfl ?_
      refine j_icmp_ge (tgt := 64) G d3_worthOfTrip_58 (by decide) (by omega) (by omega) (fun h9 => ?_) (fun h9 => ?_)
      ·
        refine j_bipush G d3_worthOfTrip_64 rfl ?_
        refine j_iload G 1 rfl d3_worthOfTrip_66 ?_
        refine j_imul G d3_worthOfTrip_68 ?_
        refine j_aload_n G 3 rfl d3_worthOfTrip_69 ?_
        refine j_iload_n G 4 rfl d3_worthOfTrip_70 ?_
        refine j_iconst G d3_worthOfTrip_71 ?_
        refine j_iadd G d3_worthOfTrip_72 ?_
        refine j_iload_n G 5 rfl d3_worthOfTrip_73 ?_
        refine j_iload G 0 rfl d3_worthOfTrip_74 ?_
        refine j_isub G d3_worthOfTrip_76 ?_
        refine j_iload_n G 6 rfl d3_worthOfTrip_77 ?_
        refine j_iload G 2 rfl d3_worthOfTrip_78 ?_
        refine j_isub G d3_worthOfTrip_80 ?_
        refine j_iload G 7 rfl d3_worthOfTrip_81 ?_
        refine j_iload G 1 rfl d3_worthOfTrip_83 ?_
        refine j_isub G d3_worthOfTrip_85 ?_
        refine j_SM G (rm' := { frames := 24, cells := 0, slots := 0, locals := 671 }) (wc := [(la, o3 (some ta) (some ka) Q), (ka, aLng E 39852 kn), (ta, o7 (some ca) (some oa) T), (oa, aInt E 24 co), (ca, o1 (some pa) (some da) (some sa) C), (pa, aInt E 5 P), (da, aInt E 24 dr), (sa, aInt E 24 sr)]) (wr := []) (k3_worthFrom_11 (xl Γ) E la ka Q ta oa T ca pa da sa C P dr sr co K kn (step + 1) (p - v6) (a - v2) (b - v4) (by first | assumption | omega | (simp only [upS, reduceIte, Nat.reduceEqDiff, eq_self, List.length_cons, List.length_nil, List.length_append] <;> omega)) (by first | assumption | omega | (simp only [upS, reduceIte, Nat.reduceEqDiff, eq_self, List.length_cons, List.length_nil, List.length_append] <;> omega)) (by first | assumption | omega | (simp only [upS, reduceIte, Nat.reduceEqDiff, eq_self, List.length_cons, List.length_nil, List.length_append] <;> omega)) (by first | assumption | omega | (simp only [upS, reduceIte, Nat.reduceEqDiff, eq_self, List.length_cons, List.length_nil, List.length_append] <;> omega)) (by first | assumption | omega | (simp only [upS, reduceIte, Nat.reduceEqDiff, eq_self, List.length_cons, List.length_nil, List.length_append] <;> omega)) (by first | assumption | omega | (simp only [upS, reduceIte, Nat.reduceEqDiff, eq_self, List.length_cons, List.length_nil, List.length_append] <;> omega)) (by first | assumption | omega | (simp only [upS, reduceIte, Nat.reduceEqDiff, eq_self, List.length_cons, List.length_nil, List.length_append] <;> omega))) mw3_worthFrom ml3_45 [0, 1, 2, 3, 4, 5, 6, 7] [] rfl rfl ⟨rfl, rfl⟩ (by decide) ⟨Nat.le_of_ble_eq_true rfl, Nat.le_of_ble_eq_true rfl⟩ rfl (rest := [.int (iZ (100 * v4))]) rfl (Nat.le_of_ble_eq_true rfl) d3_worthOfTrip_86 ⟨Nat.le_of_ble_eq_true rfl, Nat.le_of_ble_eq_true rfl⟩ (fun r w1 hr => ?_)
        obtain ⟨v11, kn1_12, rfl, rfl, ⟨hq10_0, hq10_1, hq10_2⟩⟩ := hr
        refine j_eq (ws' := [(la, o3 (some ta) (some ka) Q), (ka, aLng E 39852 kn1_12), (ta, o7 (some ca) (some oa) T), (oa, aInt E 24 co), (ca, o1 (some pa) (some da) (some sa) C), (pa, aInt E 5 P), (da, aInt E 24 dr), (sa, aInt E 24 sr)]) rfl rfl rfl ?_
        have hn0 := hq10_0
        have hn1 := hq10_1
        have hn2 := hq10_2
        refine j_iadd G d3_worthOfTrip_89 ?_
        exact j_iret G F d3_worthOfTrip_90 ⟨(100 * v4) + v11, kn1_12, rfl, rfl, (by refine ⟨?_, hn1, by omega⟩; unfold tpF; rw [← hd0, ← hu0, ← hw0, if_neg (by omega), hn0])⟩
      ·
        refine j_ldc G (-99999) ct3_64 (by decide) d3_worthOfTrip_61 ?_
        exact j_iret G F d3_worthOfTrip_63 ⟨(-99999), kn, rfl, rfl, (by refine ⟨?_, hkn, Or.inl rfl⟩; unfold tpF; rw [← hd0, ← hu0, ← hw0, if_pos (by omega)])⟩
set_option maxHeartbeats 4000000 in
set_option maxRecDepth 100000 in
theorem k3_worthFrom_12 (l : Launch) (E : En) (la : Nat) (ka : Nat) (Q : Nat → Int) (ta : Nat) (oa : Nat) (T : Nat → Int) (ca : Nat) (pa : Nat) (da : Nat) (sa : Nat) (C : Nat → Int) (P : Int → Int) (dr : Int → Int) (sr : Int → Int) (co : Int → Int) (K : Dy) (kn : Int → Int) (step : Int) (p : Int) (a : Int) (b : Int) (htm : TmK K T C P dr sr co) (hkn : KnK K (Q 1) (Q 2) kn) (hsp : 0 ≤ Q 1 ∧ Q 1 ≤ 20) (hst : 0 ≤ step ∧ step ≤ 12) (hp : 0 ≤ p ∧ p ≤ 40) (ha : 0 ≤ a ∧ a ≤ 8) (hb : 0 ≤ b ∧ b ≤ 8) : Cm l E y3_worthFrom c3_worthFrom 11 (some .int) { frames := 26, cells := 0, slots := 0, locals := 728 } [.ref la, .int (iZ step), .int (iZ p), .int (iZ a), .int (iZ b)] [(la, o3 (some ta) (some ka) Q), (ka, aLng E 39852 kn), (ta, o7 (some ca) (some oa) T), (oa, aInt E 24 co), (ca, o1 (some pa) (some da) (some sa) C), (pa, aInt E 5 P), (da, aInt E 24 dr), (sa, aInt E 24 sr)] (fun r ws => ∃ (v : Int), ∃ (kn1 : Int → Int), r = some (.int (iZ v)) ∧ ws = [(la, o3 (some ta) (some ka) Q), (ka, aLng E 39852 kn1), (ta, o7 (some ca) (some oa) T), (oa, aInt E 24 co), (ca, o1 (some pa) (some da) (some sa) C), (pa, aInt E 5 P), (da, aInt E 24 dr), (sa, aInt E 24 sr)] ∧ (v = Vn K (Q 1) step (81 * p + 9 * a + b) ∧ KnK K (Q 1) (Q 2) kn1 ∧ (0 ≤ v ∧ v ≤ 7240))) := by
  refine Cm.of (by decide +kernel) (Nat.le_of_ble_eq_true rfl) (fun Γ A hl hargs hin G F => ?_)
  subst hl
  have tok := htm.2.1
  refine j_iload_n G 1 rfl d3_worthFrom_0 ?_
  refine j_bipush G d3_worthFrom_1 rfl ?_
  refine j_imul G d3_worthFrom_3 ?_
  refine j_iload_n G 2 rfl d3_worthFrom_4 ?_
  refine j_iadd G d3_worthFrom_5 ?_
  refine j_bipush G d3_worthFrom_6 rfl ?_
  refine j_imul G d3_worthFrom_8 ?_
  refine j_iload_n G 3 rfl d3_worthFrom_9 ?_
  refine j_iadd G d3_worthFrom_10 ?_
  refine j_bipush G d3_worthFrom_11 rfl ?_
  refine j_imul G d3_worthFrom_13 ?_
  refine j_iload G 4 rfl d3_worthFrom_14 ?_
  refine j_iadd G d3_worthFrom_16 ?_
  refine j_nm (fun pl epl => ?_)
  refine j_istore G d3_worthFrom_17 (by decide) rfl ?_
  refine j_iload_n G 2 rfl d3_worthFrom_19 ?_
  have hpl : pl = 3321 * step + (81 * p + 9 * a + b) := by omega
  refine j_bipush G d3_worthFrom_20 rfl ?_
  refine j_icmp_ge (tgt := 40) G d3_worthFrom_22 (by decide) (by omega) (by decide) (fun h1 => ?_) (fun h1 => ?_)
  ·
    have he : step = 12 := by omega
    refine j_iload_n G 3 rfl d3_worthFrom_40 ?_
    exact j_iret G F d3_worthFrom_41 ⟨p, kn, rfl, rfl, (by refine ⟨?_, hkn, by omega⟩; rw [he, Vn_e]; omega)⟩
  ·
    have hj : 0 ≤ pl ∧ pl < 39852 := by omega
    have hs11 : 0 ≤ step ∧ step ≤ 11 := by omega
    have hnw := st_now (K := K) (s := step) (p := p) ha hb
    have hdr := dR tok hs11 (st := (81 * p + 9 * a + b)) (by omega)
    have hnr := dNow_r tok hs11 (st := (81 * p + 9 * a + b)) (by omega)
    refine j_iload G 0 rfl d3_worthFrom_25 ?_
    refine j_if_lt (tgt := 40) G d3_worthFrom_27 (by decide) (by omega) (fun h2 => ?_) (fun h2 => ?_)
    ·
      exact absurd h2 (by omega)
    ·
      refine j_iload G 0 rfl d3_worthFrom_30 ?_
      refine j_aload_n G 1 rfl d3_worthFrom_32 ?_
      refine j_get G 0 3 3 in3 fl3_12 d3_worthFrom_33 rfl rfl (by decide) (v := .ref ka) rfl rfl ?_
      refine j_alenL G 1 rfl d3_worthFrom_36 ?_
      refine j_icmp_lt (tgt := 42) G d3_worthFrom_37 (by decide) (by omega) (by decide) (fun h3 => ?_) (fun h3 => ?_)
      ·
        have hje : pl / 3321 = step ∧ pl % 3321 = (81 * p + 9 * a + b) := by omega
        have hkj := hkn.2 pl hj.1 hj.2
        have hed := hkn.1
        refine j_aload_n G 1 rfl d3_worthFrom_42 ?_
        refine j_get G 0 3 3 in3 fl3_12 d3_worthFrom_43 rfl rfl (by decide) (v := .ref ka) rfl rfl ?_
        refine j_iload G 0 rfl d3_worthFrom_46 ?_
        refine j_lald G 1 rfl (by omega) d3_worthFrom_48 ?_
        refine j_bipush G d3_worthFrom_49 rfl ?_
        refine r_lshr G d3_worthFrom_51 ?_
        refine j_topl (y := (lZ (kn pl / 1048576))) (kn_hi (by omega) (by omega)) ?_
        refine j_aload_n G 1 rfl d3_worthFrom_52 ?_
        refine j_get G 0 3 2 in3 fl3_24 d3_worthFrom_53 rfl rfl (by decide) (v := .long (lZ (Q 2))) rfl rfl ?_
        refine j_lcmp G d3_worthFrom_56 (by omega) (by omega) ?_
        refine j_if_ne (tgt := 72) G d3_worthFrom_57 (by decide) (by split <;> first | decide | (split <;> decide)) (fun h4 => ?_) (fun h4 => ?_)
        ·
          have h4 : (kn pl / 1048576) ≠ (Q 2) := by
            revert h4; split <;> (try split) <;> intro h4 <;> omega
          refine j_aload_n G 1 rfl d3_worthFrom_72 ?_
          refine j_get G 0 3 0 in3 fl3_16 d3_worthFrom_73 rfl rfl (by decide) (v := .ref ta) rfl rfl ?_
          refine j_iload_n G 2 rfl d3_worthFrom_76 ?_
          refine j_iload_n G 3 rfl d3_worthFrom_77 ?_
          refine j_VP G (k7_pondWithSpring (xl Γ) E ta oa T ca pa da sa C P dr sr co K step p (by first | assumption | omega | (simp only [upS, reduceIte, Nat.reduceEqDiff, eq_self, List.length_cons, List.length_nil, List.length_append] <;> omega)) (by first | assumption | omega | (simp only [upS, reduceIte, Nat.reduceEqDiff, eq_self, List.length_cons, List.length_nil, List.length_append] <;> omega)) (by first | assumption | omega | (simp only [upS, reduceIte, Nat.reduceEqDiff, eq_self, List.length_cons, List.length_nil, List.length_append] <;> omega))) mw7_pondWithSpring ml3_29 [2, 3, 4, 5, 6, 7] rfl 2 7 rfl rfl rfl ⟨Nat.le_of_ble_eq_true rfl, Nat.le_of_ble_eq_true rfl⟩ rfl (rest := []) rfl (Nat.le_of_ble_eq_true rfl) d3_worthFrom_78 ⟨Nat.le_of_ble_eq_true rfl, Nat.le_of_ble_eq_true rfl⟩ (fun r hr => ?_)
          obtain ⟨v6, rfl, ⟨hq5_0, hq5_1, hq5_2⟩⟩ := hr
          have hf2 := hq5_1
          have hF : dF K step (81 * p + 9 * a + b) = v6 := by have := hq5_0; omega
          refine j_istore G d3_worthFrom_81 (by decide) rfl ?_
          refine j_iload_n G 5 rfl d3_worthFrom_83 ?_
          refine j_aload_n G 2 rfl d3_worthFrom_84 ?_
          refine j_get G 0 3 0 in3 fl3_16 d3_worthFrom_85 rfl rfl (by decide) (v := .ref ta) rfl rfl ?_
          refine j_iload_n G 3 rfl d3_worthFrom_88 ?_
          refine j_VP G (k7_comingAbove (xl Γ) E ta oa T ca pa da sa C P dr sr co K step (by first | assumption | omega | (simp only [upS, reduceIte, Nat.reduceEqDiff, eq_self, List.length_cons, List.length_nil, List.length_append] <;> omega)) (by first | assumption | omega | (simp only [upS, reduceIte, Nat.reduceEqDiff, eq_self, List.length_cons, List.length_nil, List.length_append] <;> omega))) mw7_comingAbove ml3_35 [2, 3, 4, 5, 6, 7] rfl 2 7 rfl rfl rfl ⟨Nat.le_of_ble_eq_true rfl, Nat.le_of_ble_eq_true rfl⟩ rfl (rest := [.int (iZ a)]) rfl (Nat.le_of_ble_eq_true rfl) d3_worthFrom_89 ⟨Nat.le_of_ble_eq_true rfl, Nat.le_of_ble_eq_true rfl⟩ (fun r hr => ?_)
          obtain ⟨v8, rfl, ⟨hq7_0, hq7_1, hq7_2⟩⟩ := hr
          have hca := hq7_0
          have hcb := hq7_1
          refine j_iadd G d3_worthFrom_92 ?_
          refine j_SP G (k3_waiting (xl Γ) E (a + v8) (by first | assumption | omega | (simp only [upS, reduceIte, Nat.reduceEqDiff, eq_self, List.length_cons, List.length_nil, List.length_append] <;> omega))) mw3_waiting ml3_39 [] rfl ⟨Nat.le_of_ble_eq_true rfl, Nat.le_of_ble_eq_true rfl⟩ rfl (rest := []) rfl (Nat.le_of_ble_eq_true rfl) d3_worthFrom_93 ⟨Nat.le_of_ble_eq_true rfl, Nat.le_of_ble_eq_true rfl⟩ (fun r hr => ?_)
          obtain ⟨v10, rfl, hq9⟩ := hr
          have hA : dA K step (81 * p + 9 * a + b) = v10 := by have := hq9; omega
          have hta := hq9
          refine j_istore G d3_worthFrom_96 (by decide) rfl ?_
          refine j_iload G 7 rfl d3_worthFrom_98 ?_
          refine j_aload_n G 3 rfl d3_worthFrom_100 ?_
          refine j_get G 0 3 0 in3 fl3_16 d3_worthFrom_101 rfl rfl (by decide) (v := .ref ta) rfl rfl ?_
          refine j_iload_n G 4 rfl d3_worthFrom_104 ?_
          refine j_VP G (k7_comingBelow (xl Γ) E ta oa T ca pa da sa C P dr sr co K step (by first | assumption | omega | (simp only [upS, reduceIte, Nat.reduceEqDiff, eq_self, List.length_cons, List.length_nil, List.length_append] <;> omega)) (by first | assumption | omega | (simp only [upS, reduceIte, Nat.reduceEqDiff, eq_self, List.length_cons, List.length_nil, List.length_append] <;> omega))) mw7_comingBelow ml3_42 [2, 3, 4, 5, 6, 7] rfl 2 7 rfl rfl rfl ⟨Nat.le_of_ble_eq_true rfl, Nat.le_of_ble_eq_true rfl⟩ rfl (rest := [.int (iZ b)]) rfl (Nat.le_of_ble_eq_true rfl) d3_worthFrom_105 ⟨Nat.le_of_ble_eq_true rfl, Nat.le_of_ble_eq_true rfl⟩ (fun r hr => ?_)
          obtain ⟨v12, rfl, ⟨hq11_0, hq11_1, hq11_2⟩⟩ := hr
          have hda := hq11_0
          have hdb := hq11_1
          refine j_iadd G d3_worthFrom_108 ?_
          refine j_SP G (k3_waiting (xl Γ) E (b + v12) (by first | assumption | omega | (simp only [upS, reduceIte, Nat.reduceEqDiff, eq_self, List.length_cons, List.length_nil, List.length_append] <;> omega))) mw3_waiting ml3_39 [] rfl ⟨Nat.le_of_ble_eq_true rfl, Nat.le_of_ble_eq_true rfl⟩ rfl (rest := []) rfl (Nat.le_of_ble_eq_true rfl) d3_worthFrom_109 ⟨Nat.le_of_ble_eq_true rfl, Nat.le_of_ble_eq_true rfl⟩ (fun r hr => ?_)
          obtain ⟨v14, rfl, hq13⟩ := hr
          have hB : dB K step (81 * p + 9 * a + b) = v14 := by have := hq13; omega
          have htb := hq13
          refine j_istore G d3_worthFrom_112 (by decide) rfl ?_
          refine j_aload_n G 4 rfl d3_worthFrom_114 ?_
          refine j_iload_n G 5 rfl d3_worthFrom_115 ?_
          refine j_iconst G d3_worthFrom_116 ?_
          refine j_iadd G d3_worthFrom_117 ?_
          refine j_iload G 2 rfl d3_worthFrom_118 ?_
          refine j_iload G 1 rfl d3_worthFrom_120 ?_
          refine j_iload G 0 rfl d3_worthFrom_122 ?_
          refine j_SM G (rm' := { frames := 24, cells := 0, slots := 0, locals := 671 }) (wc := [(la, o3 (some ta) (some ka) Q), (ka, aLng E 39852 kn), (ta, o7 (some ca) (some oa) T), (oa, aInt E 24 co), (ca, o1 (some pa) (some da) (some sa) C), (pa, aInt E 5 P), (da, aInt E 24 dr), (sa, aInt E 24 sr)]) (wr := []) (k3_worthFrom_11 (xl Γ) E la ka Q ta oa T ca pa da sa C P dr sr co K kn (step + 1) v6 v10 v14 (by first | assumption | omega | (simp only [upS, reduceIte, Nat.reduceEqDiff, eq_self, List.length_cons, List.length_nil, List.length_append] <;> omega)) (by first | assumption | omega | (simp only [upS, reduceIte, Nat.reduceEqDiff, eq_self, List.length_cons, List.length_nil, List.length_append] <;> omega)) (by first | assumption | omega | (simp only [upS, reduceIte, Nat.reduceEqDiff, eq_self, List.length_cons, List.length_nil, List.length_append] <;> omega)) (by first | assumption | omega | (simp only [upS, reduceIte, Nat.reduceEqDiff, eq_self, List.length_cons, List.length_nil, List.length_append] <;> omega)) (by first | assumption | omega | (simp only [upS, reduceIte, Nat.reduceEqDiff, eq_self, List.length_cons, List.length_nil, List.length_append] <;> omega)) (by first | assumption | omega | (simp only [upS, reduceIte, Nat.reduceEqDiff, eq_self, List.length_cons, List.length_nil, List.length_append] <;> omega)) (by first | assumption | omega | (simp only [upS, reduceIte, Nat.reduceEqDiff, eq_self, List.length_cons, List.length_nil, List.length_append] <;> omega))) mw3_worthFrom ml3_45 [0, 1, 2, 3, 4, 5, 6, 7] [] rfl rfl ⟨rfl, rfl⟩ (by decide) ⟨Nat.le_of_ble_eq_true rfl, Nat.le_of_ble_eq_true rfl⟩ rfl (rest := []) rfl (Nat.le_of_ble_eq_true rfl) d3_worthFrom_124 ⟨Nat.le_of_ble_eq_true rfl, Nat.le_of_ble_eq_true rfl⟩ (fun r w1 hr => ?_)
          obtain ⟨v16, kn1_17, rfl, rfl, ⟨hq15_0, hq15_1, hq15_2⟩⟩ := hr
          refine j_eq (ws' := [(la, o3 (some ta) (some ka) Q), (ka, aLng E 39852 kn1_17), (ta, o7 (some ca) (some oa) T), (oa, aInt E 24 co), (ca, o1 (some pa) (some da) (some sa) C), (pa, aInt E 5 P), (da, aInt E 24 dr), (sa, aInt E 24 sr)]) rfl rfl rfl ?_
          have hn0 : v16 = Vn K (Q 1) (step + 1) (dNow K step (81 * p + 9 * a + b)) := by rw [hq15_0]; congr 1; unfold dNow; omega
          have hn1 := hq15_1
          have hn2 := hq15_2
          refine j_istore G d3_worthFrom_127 (by decide) rfl ?_
          refine j_iload G 0 rfl d3_worthFrom_129 ?_
          refine j_aload_n G 5 rfl d3_worthFrom_131 ?_
          refine j_iload_n G 6 rfl d3_worthFrom_132 ?_
          refine j_iload G 3 rfl d3_worthFrom_133 ?_
          refine j_iload G 2 rfl d3_worthFrom_135 ?_
          refine j_iload G 1 rfl d3_worthFrom_137 ?_
          refine j_SM G (rm' := { frames := 25, cells := 0, slots := 0, locals := 701 }) (wc := [(la, o3 (some ta) (some ka) Q), (ka, aLng E 39852 kn1_17), (ta, o7 (some ca) (some oa) T), (oa, aInt E 24 co), (ca, o1 (some pa) (some da) (some sa) C), (pa, aInt E 5 P), (da, aInt E 24 dr), (sa, aInt E 24 sr)]) (wr := []) (k3_worthOfTrip_12 (xl Γ) E la ka Q ta oa T ca pa da sa C P dr sr co K kn1_17 step v6 v10 v14 (by first | assumption | omega | (simp only [upS, reduceIte, Nat.reduceEqDiff, eq_self, List.length_cons, List.length_nil, List.length_append] <;> omega)) (by first | assumption | omega | (simp only [upS, reduceIte, Nat.reduceEqDiff, eq_self, List.length_cons, List.length_nil, List.length_append] <;> omega)) (by first | assumption | omega | (simp only [upS, reduceIte, Nat.reduceEqDiff, eq_self, List.length_cons, List.length_nil, List.length_append] <;> omega)) (by first | assumption | omega | (simp only [upS, reduceIte, Nat.reduceEqDiff, eq_self, List.length_cons, List.length_nil, List.length_append] <;> omega)) (by first | assumption | omega | (simp only [upS, reduceIte, Nat.reduceEqDiff, eq_self, List.length_cons, List.length_nil, List.length_append] <;> omega)) (by first | assumption | omega | (simp only [upS, reduceIte, Nat.reduceEqDiff, eq_self, List.length_cons, List.length_nil, List.length_append] <;> omega)) (by first | assumption | omega | (simp only [upS, reduceIte, Nat.reduceEqDiff, eq_self, List.length_cons, List.length_nil, List.length_append] <;> omega))) mw3_worthOfTrip ml3_49 [0, 1, 2, 3, 4, 5, 6, 7] [] rfl rfl ⟨rfl, rfl⟩ (by decide) ⟨Nat.le_of_ble_eq_true rfl, Nat.le_of_ble_eq_true rfl⟩ rfl (rest := [.int (iZ v16)]) rfl (Nat.le_of_ble_eq_true rfl) d3_worthFrom_139 ⟨Nat.le_of_ble_eq_true rfl, Nat.le_of_ble_eq_true rfl⟩ (fun r w1 hr => ?_)
          obtain ⟨v19, kn1_20, rfl, rfl, ⟨hq18_0, hq18_1, hq18_2⟩⟩ := hr
          refine j_eq (ws' := [(la, o3 (some ta) (some ka) Q), (ka, aLng E 39852 kn1_20), (ta, o7 (some ca) (some oa) T), (oa, aInt E 24 co), (ca, o1 (some pa) (some da) (some sa) C), (pa, aInt E 5 P), (da, aInt E 24 dr), (sa, aInt E 24 sr)]) rfl rfl rfl ?_
          have ht0 : v19 = tpF K (Q 1) step (dF K step (81 * p + 9 * a + b)) (dA K step (81 * p + 9 * a + b)) (dB K step (81 * p + 9 * a + b)) := by rw [hF, hA, hB]; exact hq18_0
          have ht1 := hq18_1
          have ht2 := hq18_2
          refine j_mmax G ml3_52 (by omega) (by omega) ⟨Nat.le_of_ble_eq_true rfl, Nat.le_of_ble_eq_true rfl⟩ ⟨Nat.le_of_ble_eq_true rfl, Nat.le_of_ble_eq_true rfl⟩ d3_worthFrom_142 ?_
          have hmx := vn_max tok hs11 (by omega) hsp.1 hn0 ht0
          have hmr := Vn_r tok hsp.1 (s := step) (st := (81 * p + 9 * a + b)) (by omega) (by omega)
          refine j_istore G d3_worthFrom_145 (by decide) rfl ?_
          refine j_aload_n G 6 rfl d3_worthFrom_147 ?_
          refine j_get G 0 3 3 in3 fl3_12 d3_worthFrom_148 rfl rfl (by decide) (v := .ref ka) rfl rfl ?_
          refine j_iload G 5 rfl d3_worthFrom_151 ?_
          refine j_aload_n G 6 rfl d3_worthFrom_153 ?_
          refine j_get G 0 3 2 in3 fl3_24 d3_worthFrom_154 rfl rfl (by decide) (v := .long (lZ (Q 2))) rfl rfl ?_
          refine j_bipush G d3_worthFrom_157 rfl ?_
          refine r_lshl G d3_worthFrom_159 ?_
          refine j_topl (y := (lZ (Q 2 * 1048576))) (kn_sh (by omega) (by omega)) ?_
          refine j_iload G 0 rfl d3_worthFrom_160 ?_
          refine j_i2l G d3_worthFrom_162 (by omega) ?_
          refine r_lor G d3_worthFrom_163 ?_
          refine j_topl (y := (lZ (Q 2 * 1048576 + (max v16 v19)))) (kn_or (by omega) (by omega) (by omega) (by omega)) ?_
          refine j_last G 1 rfl (by omega) d3_worthFrom_164 ?_
          refine j_iload G 0 rfl d3_worthFrom_165 ?_
          exact j_iret G F d3_worthFrom_167 ⟨max v16 v19, (upI kn1_20 pl (Q 2 * 1048576 + (max v16 v19))), rfl, rfl, (by exact ⟨hmx, KnK.up ht1 hj.1 hj.2 (by rw [hje.1, hje.2]; exact hmx) (by omega), by omega⟩)⟩
        ·
          have h4 : ¬ ((kn pl / 1048576) ≠ (Q 2)) := by
            revert h4; split <;> (try split) <;> intro h4 <;> omega
          have hvv := hkj.2 (by omega)
          rw [hje.1, hje.2] at hvv
          have hvr := Vn_r tok hsp.1 (s := step) (st := (81 * p + 9 * a + b)) (by omega) (by omega)
          refine j_aload_n G 1 rfl d3_worthFrom_60 ?_
          refine j_get G 0 3 3 in3 fl3_12 d3_worthFrom_61 rfl rfl (by decide) (v := .ref ka) rfl rfl ?_
          refine j_iload G 0 rfl d3_worthFrom_64 ?_
          refine j_lald G 1 rfl (by omega) d3_worthFrom_66 ?_
          refine j_l2i G d3_worthFrom_67 ?_
          refine j_ldc G 1048575 ct3_28 (by decide) d3_worthFrom_68 ?_
          refine r_iand G d3_worthFrom_70 ?_
          refine j_top (y := (iZ (kn pl % 1048576))) (kn_lo (by omega) (by omega)) ?_
          exact j_iret G F d3_worthFrom_71 ⟨kn pl % 1048576, kn, rfl, rfl, (by exact ⟨hvv, hkn, by omega⟩)⟩
      ·
        exact absurd h3 (by omega)
theorem d3_gainOfTrip_0 : decode c3_gainOfTrip 0 = .ok (.aload_n 0, 1) := by decide +kernel
theorem d3_gainOfTrip_1 : decode c3_gainOfTrip 1 = .ok (.getfield 16, 3) := by decide +kernel
theorem d3_gainOfTrip_4 : decode c3_gainOfTrip 4 = .ok (.iload_n 1, 1) := by decide +kernel
theorem d3_gainOfTrip_5 : decode c3_gainOfTrip 5 = .ok (.iload_n 2, 1) := by decide +kernel
theorem d3_gainOfTrip_6 : decode c3_gainOfTrip 6 = .ok (.invokevirtual 29, 3) := by decide +kernel
theorem d3_gainOfTrip_9 : decode c3_gainOfTrip 9 = .ok (.istore 5, 2) := by decide +kernel
theorem d3_gainOfTrip_11 : decode c3_gainOfTrip 11 = .ok (.iload_n 3, 1) := by decide +kernel
theorem d3_gainOfTrip_12 : decode c3_gainOfTrip 12 = .ok (.aload_n 0, 1) := by decide +kernel
theorem d3_gainOfTrip_13 : decode c3_gainOfTrip 13 = .ok (.getfield 16, 3) := by decide +kernel
theorem d3_gainOfTrip_16 : decode c3_gainOfTrip 16 = .ok (.iload_n 1, 1) := by decide +kernel
theorem d3_gainOfTrip_17 : decode c3_gainOfTrip 17 = .ok (.invokevirtual 35, 3) := by decide +kernel
theorem d3_gainOfTrip_20 : decode c3_gainOfTrip 20 = .ok (.iadd, 1) := by decide +kernel
theorem d3_gainOfTrip_21 : decode c3_gainOfTrip 21 = .ok (.invokestatic 39, 3) := by decide +kernel
theorem d3_gainOfTrip_24 : decode c3_gainOfTrip 24 = .ok (.istore 6, 2) := by decide +kernel
theorem d3_gainOfTrip_26 : decode c3_gainOfTrip 26 = .ok (.iload 4, 2) := by decide +kernel
theorem d3_gainOfTrip_28 : decode c3_gainOfTrip 28 = .ok (.aload_n 0, 1) := by decide +kernel
theorem d3_gainOfTrip_29 : decode c3_gainOfTrip 29 = .ok (.getfield 16, 3) := by decide +kernel
theorem d3_gainOfTrip_32 : decode c3_gainOfTrip 32 = .ok (.iload_n 1, 1) := by decide +kernel
theorem d3_gainOfTrip_33 : decode c3_gainOfTrip 33 = .ok (.invokevirtual 42, 3) := by decide +kernel
theorem d3_gainOfTrip_36 : decode c3_gainOfTrip 36 = .ok (.iadd, 1) := by decide +kernel
theorem d3_gainOfTrip_37 : decode c3_gainOfTrip 37 = .ok (.invokestatic 39, 3) := by decide +kernel
theorem d3_gainOfTrip_40 : decode c3_gainOfTrip 40 = .ok (.istore 7, 2) := by decide +kernel
theorem d3_gainOfTrip_42 : decode c3_gainOfTrip 42 = .ok (.aload_n 0, 1) := by decide +kernel
theorem d3_gainOfTrip_43 : decode c3_gainOfTrip 43 = .ok (.iload_n 1, 1) := by decide +kernel
theorem d3_gainOfTrip_44 : decode c3_gainOfTrip 44 = .ok (.iload 5, 2) := by decide +kernel
theorem d3_gainOfTrip_46 : decode c3_gainOfTrip 46 = .ok (.iload 6, 2) := by decide +kernel
theorem d3_gainOfTrip_48 : decode c3_gainOfTrip 48 = .ok (.iload 7, 2) := by decide +kernel
theorem d3_gainOfTrip_50 : decode c3_gainOfTrip 50 = .ok (.invokestatic 49, 3) := by decide +kernel
theorem d3_gainOfTrip_53 : decode c3_gainOfTrip 53 = .ok (.istore 8, 2) := by decide +kernel
theorem d3_gainOfTrip_55 : decode c3_gainOfTrip 55 = .ok (.iload 8, 2) := by decide +kernel
theorem d3_gainOfTrip_57 : decode c3_gainOfTrip 57 = .ok (.ldc 64, 2) := by decide +kernel
theorem d3_gainOfTrip_59 : decode c3_gainOfTrip 59 = .ok (.if_icmp .ne 8, 3) := by decide +kernel
theorem d3_gainOfTrip_62 : decode c3_gainOfTrip 62 = .ok (.ldc 64, 2) := by decide +kernel
theorem d3_gainOfTrip_64 : decode c3_gainOfTrip 64 = .ok (.goto 19, 3) := by decide +kernel
theorem d3_gainOfTrip_67 : decode c3_gainOfTrip 67 = .ok (.iload 8, 2) := by decide +kernel
theorem d3_gainOfTrip_69 : decode c3_gainOfTrip 69 = .ok (.aload_n 0, 1) := by decide +kernel
theorem d3_gainOfTrip_70 : decode c3_gainOfTrip 70 = .ok (.iload_n 1, 1) := by decide +kernel
theorem d3_gainOfTrip_71 : decode c3_gainOfTrip 71 = .ok (.iconst 1, 1) := by decide +kernel
theorem d3_gainOfTrip_72 : decode c3_gainOfTrip 72 = .ok (.iadd, 1) := by decide +kernel
theorem d3_gainOfTrip_73 : decode c3_gainOfTrip 73 = .ok (.iload 5, 2) := by decide +kernel
theorem d3_gainOfTrip_75 : decode c3_gainOfTrip 75 = .ok (.iload 6, 2) := by decide +kernel
theorem d3_gainOfTrip_77 : decode c3_gainOfTrip 77 = .ok (.iload 7, 2) := by decide +kernel
theorem d3_gainOfTrip_79 : decode c3_gainOfTrip 79 = .ok (.invokestatic 45, 3) := by decide +kernel
theorem d3_gainOfTrip_82 : decode c3_gainOfTrip 82 = .ok (.isub, 1) := by decide +kernel
theorem d3_gainOfTrip_83 : decode c3_gainOfTrip 83 = .ok (.ireturn, 1) := by decide +kernel
theorem mw3_gainOfTrip : MV y3_gainOfTrip c3_gainOfTrip 9 (some .int) 4 := ⟨cd3_gainOfTrip, ini3, na3_gainOfTrip, im3_gainOfTrip, se3_gainOfTrip⟩
set_option maxHeartbeats 4000000 in
set_option maxRecDepth 100000 in
theorem k3_gainOfTrip (l : Launch) (E : En) (la : Nat) (ka : Nat) (Q : Nat → Int) (ta : Nat) (oa : Nat) (T : Nat → Int) (ca : Nat) (pa : Nat) (da : Nat) (sa : Nat) (C : Nat → Int) (P : Int → Int) (dr : Int → Int) (sr : Int → Int) (co : Int → Int) (K : Dy) (kn : Int → Int) (step : Int) (p : Int) (a : Int) (b : Int) (htm : TmK K T C P dr sr co) (hkn : KnK K (Q 1) (Q 2) kn) (hsp : 0 ≤ Q 1 ∧ Q 1 ≤ 20) (hst : 0 ≤ step ∧ step ≤ 11) (hp : 0 ≤ p ∧ p ≤ 40) (ha : 0 ≤ a ∧ a ≤ 8) (hb : 0 ≤ b ∧ b ≤ 8) : Cm l E y3_gainOfTrip c3_gainOfTrip 9 (some .int) { frames := 26, cells := 0, slots := 0, locals := 728 } [.ref la, .int (iZ step), .int (iZ p), .int (iZ a), .int (iZ b)] [(la, o3 (some ta) (some ka) Q), (ka, aLng E 39852 kn), (ta, o7 (some ca) (some oa) T), (oa, aInt E 24 co), (ca, o1 (some pa) (some da) (some sa) C), (pa, aInt E 5 P), (da, aInt E 24 dr), (sa, aInt E 24 sr)] (fun r ws => ∃ (v : Int), ∃ (kn1 : Int → Int), r = some (.int (iZ v)) ∧ ws = [(la, o3 (some ta) (some ka) Q), (ka, aLng E 39852 kn1), (ta, o7 (some ca) (some oa) T), (oa, aInt E 24 co), (ca, o1 (some pa) (some da) (some sa) C), (pa, aInt E 5 P), (da, aInt E 24 dr), (sa, aInt E 24 sr)] ∧ (v = (if dCan K step (81 * p + 9 * a + b) (Q 1) then 100 * dUp K step (81 * p + 9 * a + b) + Vn K (Q 1) (step + 1) (dGone K step (81 * p + 9 * a + b)) - Vn K (Q 1) (step + 1) (dNow K step (81 * p + 9 * a + b)) else -99999) ∧ KnK K (Q 1) (Q 2) kn1 ∧ (-100000 ≤ v ∧ v ≤ 100000))) := by
  refine Cm.of (by decide +kernel) (Nat.le_of_ble_eq_true rfl) (fun Γ A hl hargs hin G F => ?_)
  subst hl
  have tok := htm.2.1
  have hnw := st_now (K := K) (s := step) (p := p) ha hb
  have hdr := dR tok hst (st := (81 * p + 9 * a + b)) (by omega)
  have hnr := dNow_r tok hst (st := (81 * p + 9 * a + b)) (by omega)
  have hte := tp_e (sp := Q 1) tok hst (st := (81 * p + 9 * a + b)) (by omega)
  refine j_aload_n G 0 rfl d3_gainOfTrip_0 ?_
  refine j_get G 0 3 0 in3 fl3_16 d3_gainOfTrip_1 rfl rfl (by decide) (v := .ref ta) rfl rfl ?_
  refine j_iload_n G 1 rfl d3_gainOfTrip_4 ?_
  refine j_iload_n G 2 rfl d3_gainOfTrip_5 ?_
  refine j_VP G (k7_pondWithSpring (xl Γ) E ta oa T ca pa da sa C P dr sr co K step p (by first | assumption | omega | (simp only [upS, reduceIte, Nat.reduceEqDiff, eq_self, List.length_cons, List.length_nil, List.length_append] <;> omega)) (by first | assumption | omega | (simp only [upS, reduceIte, Nat.reduceEqDiff, eq_self, List.length_cons, List.length_nil, List.length_append] <;> omega)) (by first | assumption | omega | (simp only [upS, reduceIte, Nat.reduceEqDiff, eq_self, List.length_cons, List.length_nil, List.length_append] <;> omega))) mw7_pondWithSpring ml3_29 [2, 3, 4, 5, 6, 7] rfl 2 7 rfl rfl rfl ⟨Nat.le_of_ble_eq_true rfl, Nat.le_of_ble_eq_true rfl⟩ rfl (rest := []) rfl (Nat.le_of_ble_eq_true rfl) d3_gainOfTrip_6 ⟨Nat.le_of_ble_eq_true rfl, Nat.le_of_ble_eq_true rfl⟩ (fun r hr => ?_)
  obtain ⟨v2, rfl, ⟨hq1_0, hq1_1, hq1_2⟩⟩ := hr
  have hf2 := hq1_1
  have hF : dF K step (81 * p + 9 * a + b) = v2 := by have := hq1_0; omega
  refine j_istore G d3_gainOfTrip_9 (by decide) rfl ?_
  refine j_iload_n G 4 rfl d3_gainOfTrip_11 ?_
  refine j_aload_n G 1 rfl d3_gainOfTrip_12 ?_
  refine j_get G 0 3 0 in3 fl3_16 d3_gainOfTrip_13 rfl rfl (by decide) (v := .ref ta) rfl rfl ?_
  refine j_iload_n G 2 rfl d3_gainOfTrip_16 ?_
  refine j_VP G (k7_comingAbove (xl Γ) E ta oa T ca pa da sa C P dr sr co K step (by first | assumption | omega | (simp only [upS, reduceIte, Nat.reduceEqDiff, eq_self, List.length_cons, List.length_nil, List.length_append] <;> omega)) (by first | assumption | omega | (simp only [upS, reduceIte, Nat.reduceEqDiff, eq_self, List.length_cons, List.length_nil, List.length_append] <;> omega))) mw7_comingAbove ml3_35 [2, 3, 4, 5, 6, 7] rfl 2 7 rfl rfl rfl ⟨Nat.le_of_ble_eq_true rfl, Nat.le_of_ble_eq_true rfl⟩ rfl (rest := [.int (iZ a)]) rfl (Nat.le_of_ble_eq_true rfl) d3_gainOfTrip_17 ⟨Nat.le_of_ble_eq_true rfl, Nat.le_of_ble_eq_true rfl⟩ (fun r hr => ?_)
  obtain ⟨v4, rfl, ⟨hq3_0, hq3_1, hq3_2⟩⟩ := hr
  have hca := hq3_0
  have hcb := hq3_1
  refine j_iadd G d3_gainOfTrip_20 ?_
  refine j_SP G (k3_waiting (xl Γ) E (a + v4) (by first | assumption | omega | (simp only [upS, reduceIte, Nat.reduceEqDiff, eq_self, List.length_cons, List.length_nil, List.length_append] <;> omega))) mw3_waiting ml3_39 [] rfl ⟨Nat.le_of_ble_eq_true rfl, Nat.le_of_ble_eq_true rfl⟩ rfl (rest := []) rfl (Nat.le_of_ble_eq_true rfl) d3_gainOfTrip_21 ⟨Nat.le_of_ble_eq_true rfl, Nat.le_of_ble_eq_true rfl⟩ (fun r hr => ?_)
  obtain ⟨v6, rfl, hq5⟩ := hr
  have hA : dA K step (81 * p + 9 * a + b) = v6 := by have := hq5; omega
  have hta := hq5
  refine j_istore G d3_gainOfTrip_24 (by decide) rfl ?_
  refine j_iload G 6 rfl d3_gainOfTrip_26 ?_
  refine j_aload_n G 2 rfl d3_gainOfTrip_28 ?_
  refine j_get G 0 3 0 in3 fl3_16 d3_gainOfTrip_29 rfl rfl (by decide) (v := .ref ta) rfl rfl ?_
  refine j_iload_n G 3 rfl d3_gainOfTrip_32 ?_
  refine j_VP G (k7_comingBelow (xl Γ) E ta oa T ca pa da sa C P dr sr co K step (by first | assumption | omega | (simp only [upS, reduceIte, Nat.reduceEqDiff, eq_self, List.length_cons, List.length_nil, List.length_append] <;> omega)) (by first | assumption | omega | (simp only [upS, reduceIte, Nat.reduceEqDiff, eq_self, List.length_cons, List.length_nil, List.length_append] <;> omega))) mw7_comingBelow ml3_42 [2, 3, 4, 5, 6, 7] rfl 2 7 rfl rfl rfl ⟨Nat.le_of_ble_eq_true rfl, Nat.le_of_ble_eq_true rfl⟩ rfl (rest := [.int (iZ b)]) rfl (Nat.le_of_ble_eq_true rfl) d3_gainOfTrip_33 ⟨Nat.le_of_ble_eq_true rfl, Nat.le_of_ble_eq_true rfl⟩ (fun r hr => ?_)
  obtain ⟨v8, rfl, ⟨hq7_0, hq7_1, hq7_2⟩⟩ := hr
  have hda := hq7_0
  have hdb := hq7_1
  refine j_iadd G d3_gainOfTrip_36 ?_
  refine j_SP G (k3_waiting (xl Γ) E (b + v8) (by first | assumption | omega | (simp only [upS, reduceIte, Nat.reduceEqDiff, eq_self, List.length_cons, List.length_nil, List.length_append] <;> omega))) mw3_waiting ml3_39 [] rfl ⟨Nat.le_of_ble_eq_true rfl, Nat.le_of_ble_eq_true rfl⟩ rfl (rest := []) rfl (Nat.le_of_ble_eq_true rfl) d3_gainOfTrip_37 ⟨Nat.le_of_ble_eq_true rfl, Nat.le_of_ble_eq_true rfl⟩ (fun r hr => ?_)
  obtain ⟨v10, rfl, hq9⟩ := hr
  have hB : dB K step (81 * p + 9 * a + b) = v10 := by have := hq9; omega
  have htb := hq9
  refine j_istore G d3_gainOfTrip_40 (by decide) rfl ?_
  refine j_aload_n G 3 rfl d3_gainOfTrip_42 ?_
  refine j_iload_n G 4 rfl d3_gainOfTrip_43 ?_
  refine j_iload G 2 rfl d3_gainOfTrip_44 ?_
  refine j_iload G 1 rfl d3_gainOfTrip_46 ?_
  refine j_iload G 0 rfl d3_gainOfTrip_48 ?_
  refine j_SM G (rm' := { frames := 25, cells := 0, slots := 0, locals := 701 }) (wc := [(la, o3 (some ta) (some ka) Q), (ka, aLng E 39852 kn), (ta, o7 (some ca) (some oa) T), (oa, aInt E 24 co), (ca, o1 (some pa) (some da) (some sa) C), (pa, aInt E 5 P), (da, aInt E 24 dr), (sa, aInt E 24 sr)]) (wr := []) (k3_worthOfTrip_12 (xl Γ) E la ka Q ta oa T ca pa da sa C P dr sr co K kn step v2 v6 v10 (by first | assumption | omega | (simp only [upS, reduceIte, Nat.reduceEqDiff, eq_self, List.length_cons, List.length_nil, List.length_append] <;> omega)) (by first | assumption | omega | (simp only [upS, reduceIte, Nat.reduceEqDiff, eq_self, List.length_cons, List.length_nil, List.length_append] <;> omega)) (by first | assumption | omega | (simp only [upS, reduceIte, Nat.reduceEqDiff, eq_self, List.length_cons, List.length_nil, List.length_append] <;> omega)) (by first | assumption | omega | (simp only [upS, reduceIte, Nat.reduceEqDiff, eq_self, List.length_cons, List.length_nil, List.length_append] <;> omega)) (by first | assumption | omega | (simp only [upS, reduceIte, Nat.reduceEqDiff, eq_self, List.length_cons, List.length_nil, List.length_append] <;> omega)) (by first | assumption | omega | (simp only [upS, reduceIte, Nat.reduceEqDiff, eq_self, List.length_cons, List.length_nil, List.length_append] <;> omega)) (by first | assumption | omega | (simp only [upS, reduceIte, Nat.reduceEqDiff, eq_self, List.length_cons, List.length_nil, List.length_append] <;> omega))) mw3_worthOfTrip ml3_49 [0, 1, 2, 3, 4, 5, 6, 7] [] rfl rfl ⟨rfl, rfl⟩ (by decide) ⟨Nat.le_of_ble_eq_true rfl, Nat.le_of_ble_eq_true rfl⟩ rfl (rest := []) rfl (Nat.le_of_ble_eq_true rfl) d3_gainOfTrip_50 ⟨Nat.le_of_ble_eq_true rfl, Nat.le_of_ble_eq_true rfl⟩ (fun r w1 hr => ?_)
  obtain ⟨v12, kn1_13, rfl, rfl, ⟨hq11_0, hq11_1, hq11_2⟩⟩ := hr
  refine j_eq (ws' := [(la, o3 (some ta) (some ka) Q), (ka, aLng E 39852 kn1_13), (ta, o7 (some ca) (some oa) T), (oa, aInt E 24 co), (ca, o1 (some pa) (some da) (some sa) C), (pa, aInt E 5 P), (da, aInt E 24 dr), (sa, aInt E 24 sr)]) rfl rfl rfl ?_
  have ht0 : v12 = tpF K (Q 1) step (dF K step (81 * p + 9 * a + b)) (dA K step (81 * p + 9 * a + b)) (dB K step (81 * p + 9 * a + b)) := by rw [hF, hA, hB]; exact hq11_0
  have ht1 := hq11_1
  have ht2 := hq11_2
  rw [hte] at ht0
  refine j_istore G d3_gainOfTrip_53 (by decide) rfl ?_
  refine j_iload G 0 rfl d3_gainOfTrip_55 ?_
  refine j_ldc G (-99999) ct3_64 (by decide) d3_gainOfTrip_57 ?_
  refine j_icmp_ne (tgt := 67) G d3_gainOfTrip_59 (by decide) (by omega) (by decide) (fun h14 => ?_) (fun h14 => ?_)
  ·
    have hcc : dCan K step (81 * p + 9 * a + b) (Q 1) := by by_cases q : dCan K step (81 * p + 9 * a + b) (Q 1); exact q; exfalso; rw [if_neg q] at ht0; omega
    rw [if_pos hcc] at ht0
    refine j_iload G 0 rfl d3_gainOfTrip_67 ?_
    refine j_aload_n G 4 rfl d3_gainOfTrip_69 ?_
    refine j_iload_n G 5 rfl d3_gainOfTrip_70 ?_
    refine j_iconst G d3_gainOfTrip_71 ?_
    refine j_iadd G d3_gainOfTrip_72 ?_
    refine j_iload G 3 rfl d3_gainOfTrip_73 ?_
    refine j_iload G 2 rfl d3_gainOfTrip_75 ?_
    refine j_iload G 1 rfl d3_gainOfTrip_77 ?_
    refine j_SM G (rm' := { frames := 24, cells := 0, slots := 0, locals := 671 }) (wc := [(la, o3 (some ta) (some ka) Q), (ka, aLng E 39852 kn1_13), (ta, o7 (some ca) (some oa) T), (oa, aInt E 24 co), (ca, o1 (some pa) (some da) (some sa) C), (pa, aInt E 5 P), (da, aInt E 24 dr), (sa, aInt E 24 sr)]) (wr := []) (k3_worthFrom_11 (xl Γ) E la ka Q ta oa T ca pa da sa C P dr sr co K kn1_13 (step + 1) v2 v6 v10 (by first | assumption | omega | (simp only [upS, reduceIte, Nat.reduceEqDiff, eq_self, List.length_cons, List.length_nil, List.length_append] <;> omega)) (by first | assumption | omega | (simp only [upS, reduceIte, Nat.reduceEqDiff, eq_self, List.length_cons, List.length_nil, List.length_append] <;> omega)) (by first | assumption | omega | (simp only [upS, reduceIte, Nat.reduceEqDiff, eq_self, List.length_cons, List.length_nil, List.length_append] <;> omega)) (by first | assumption | omega | (simp only [upS, reduceIte, Nat.reduceEqDiff, eq_self, List.length_cons, List.length_nil, List.length_append] <;> omega)) (by first | assumption | omega | (simp only [upS, reduceIte, Nat.reduceEqDiff, eq_self, List.length_cons, List.length_nil, List.length_append] <;> omega)) (by first | assumption | omega | (simp only [upS, reduceIte, Nat.reduceEqDiff, eq_self, List.length_cons, List.length_nil, List.length_append] <;> omega)) (by first | assumption | omega | (simp only [upS, reduceIte, Nat.reduceEqDiff, eq_self, List.length_cons, List.length_nil, List.length_append] <;> omega))) mw3_worthFrom ml3_45 [0, 1, 2, 3, 4, 5, 6, 7] [] rfl rfl ⟨rfl, rfl⟩ (by decide) ⟨Nat.le_of_ble_eq_true rfl, Nat.le_of_ble_eq_true rfl⟩ rfl (rest := [.int (iZ v12)]) rfl (Nat.le_of_ble_eq_true rfl) d3_gainOfTrip_79 ⟨Nat.le_of_ble_eq_true rfl, Nat.le_of_ble_eq_true rfl⟩ (fun r w1 hr => ?_)
    obtain ⟨v16, kn1_17, rfl, rfl, ⟨hq15_0, hq15_1, hq15_2⟩⟩ := hr
    refine j_eq (ws' := [(la, o3 (some ta) (some ka) Q), (ka, aLng E 39852 kn1_17), (ta, o7 (some ca) (some oa) T), (oa, aInt E 24 co), (ca, o1 (some pa) (some da) (some sa) C), (pa, aInt E 5 P), (da, aInt E 24 dr), (sa, aInt E 24 sr)]) rfl rfl rfl ?_
    have hn0 : v16 = Vn K (Q 1) (step + 1) (dNow K step (81 * p + 9 * a + b)) := by rw [hq15_0]; congr 1; unfold dNow; omega
    have hn1 := hq15_1
    have hn2 := hq15_2
    refine j_isub G d3_gainOfTrip_82 ?_
    exact j_iret G F d3_gainOfTrip_83 ⟨v12 - v16, kn1_17, rfl, rfl, (by first | (refine ⟨?_, ht1, by omega⟩; rw [if_neg hnc]; done) | (refine ⟨?_, hn1, by omega⟩; rw [if_pos hcc]; omega))⟩
  ·
    have hnc : ¬ dCan K step (81 * p + 9 * a + b) (Q 1) := fun q => by rw [if_pos q] at ht0; have hg := dGone_r tok hst (st := (81 * p + 9 * a + b)) (by omega) hsp.1 q; have hv := Vn_r tok hsp.1 (s := step + 1) (by omega) hg; omega
    refine j_ldc G (-99999) ct3_64 (by decide) d3_gainOfTrip_62 ?_
    refine j_goto (tgt := 83) G d3_gainOfTrip_64 (by decide) ?_
    exact j_iret G F d3_gainOfTrip_83 ⟨(-99999), kn1_13, rfl, rfl, (by first | (refine ⟨?_, ht1, by omega⟩; rw [if_neg hnc]; done) | (refine ⟨?_, hn1, by omega⟩; rw [if_pos hcc]; omega))⟩
