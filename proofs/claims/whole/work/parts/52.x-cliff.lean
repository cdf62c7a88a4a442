/-! one clause, as x reads it -/
abbrev WdR (U : Int → Int) (n p f p1 f1 v : Int) : Prop := (mt U n p (hdK U n p) = wl (hdK U n p) ∧ p1 = p + wl (hdK U n p) ∧ f1 = f ∧ v = hdK U n p ∧ p1 ≤ n) ∨ (¬ mt U n p (hdK U n p) = wl (hdK U n p) ∧ p1 = p + mt U n p (hdK U n p) ∧ f1 = p1 ∧ v = -1 ∧ (p ≤ p1 ∧ p1 ≤ n))
section
variable {U : Int → Int} {n p f0 w a1 f1 a2 f2 t a3 f3 nn a4 f4 t4 a5 f5 m : Int}
theorem cl_num (h0 : 0 ≤ p) (hlv : f0 < 0) (hW : WdR U n p f0 a1 f1 w) (hT : TkR U n 32 32 32 a1 f1 a2 f2 t) (hN : NmR U n 3 a2 f2 a3 f3 nn) : (hdOk U n p ∧ (48 ≤ nx U n (hdE U n p) ∧ nx U n (hdE U n p) ≤ 57) ∧ a3 = clM U n p ∧ f3 = f0 ∧ w = hdK U n p ∧ nn = clN U n p) ∨ (¬ clOk U n p ∧ f3 = clE U n p ∧ 0 ≤ f3) := by
  have hm := mt_r U n p (hdK U n p)
  rcases hW with ⟨w1, w2, w3, w4, w5⟩ | ⟨w1, w2, w3, w4, w5⟩
  · rcases hT with ⟨t1, t2, t3, t4, t5⟩ | ⟨t1, t2, t3, t4, t5⟩ | t
    · have hh : hdOk U n p := ⟨w1, by rw [← w2]; omega⟩
      have he : hdE U n p = a2 := by unfold hdE; rw [if_pos hh]; omega
      rcases hN with ⟨n1, n2, n3, n4, n5, n6, n7⟩ | ⟨n1, n2, n3, n4, n5⟩ | q
      · refine Or.inl ⟨hh, by rw [he]; exact n2, ?_, by omega, w4, ?_⟩
        · unfold clM; rw [he]; exact n3
        · unfold clN; rw [he]; exact n6
      · have q := cl_d hh (by rw [he]; exact n2)
        exact Or.inr ⟨q.1, by rw [q.2, he]; exact n4, by have := wl_r (hdK U n p); omega⟩
      · omega
    · have hh : ¬ hdOk U n p := fun q => by have q2 := q.2; rw [← w2] at q2; omega
      have he : hdE U n p = a1 := by unfold hdE; rw [if_neg hh]; omega
      have q := cl_h hh
      have e3 : f3 = f2 := by rcases hN with z | z | z <;> omega
      exact Or.inr ⟨q.1, by rw [q.2, he]; omega, by have := wl_r (hdK U n p); omega⟩
    · omega
  · have hh : ¬ hdOk U n p := fun q => w1 q.1
    have he : hdE U n p = a1 := by unfold hdE; rw [if_neg hh]; omega
    have q := cl_h hh
    have e2 : f2 = f1 := by rcases hT with z | z | z <;> omega
    have e3 : f3 = f2 := by rcases hN with z | z | z <;> omega
    exact Or.inr ⟨q.1, by rw [q.2, he]; omega, by omega⟩
theorem cl_take (h0 : 0 ≤ p) (hlv : f0 < 0) (hW : WdR U n p f0 a1 f1 w) (hT : TkR U n 32 32 32 a1 f1 a2 f2 t) (hN : NmR U n 3 a2 f2 a3 f3 nn) (hw : ¬ w = 3 ∧ ¬ w = 7) : (clOk U n p ∧ a3 = clE U n p ∧ f3 = f0 ∧ w = hdK U n p ∧ nn = clN U n p) ∨ (¬ clOk U n p ∧ f3 = clE U n p ∧ 0 ≤ f3) := by
  rcases cl_num h0 hlv hW hT hN with ⟨h1, h2, h3, h4, h5, h6⟩ | h
  · have q := cl_p h1 h2 (by omega)
    exact Or.inl ⟨q.1, by rw [q.2]; exact h3, h4, h5, h6⟩
  · exact Or.inr h
theorem cl_ex (h0 : 0 ≤ p) (hlv : f0 < 0) (hW : WdR U n p f0 a1 f1 w) (hT : TkR U n 32 32 32 a1 f1 a2 f2 t) (hN : NmR U n 3 a2 f2 a3 f3 nn) (hw : w = 3 ∨ w = 7) (h30 : 0 ≤ a3) (hT2 : TkR U n 32 32 32 a3 f3 a4 f4 t4) (hE : ExS U n 3 0 a4 f4 a5 f5 m) : (clOk U n p ∧ a5 = clE U n p ∧ f5 = f0 ∧ w = hdK U n p ∧ nn = clN U n p ∧ mb m (clV U n p)) ∨ (¬ clOk U n p ∧ f5 = clE U n p ∧ 0 ≤ f5) := by
  rcases cl_num h0 hlv hW hT hN with ⟨h1, h2, h3, h4, h5, h6⟩ | ⟨h1, h2, h3⟩
  · rcases hT2 with ⟨t1, t2, t3, t4, t5⟩ | ⟨t1, t2, t3, t4, t5⟩ | t
    · have hx := ex_all hE (by omega)
      have e4 : a4 = clM U n p + 1 := by omega
      rw [e4] at hx
      have hc : nx U n (clM U n p) = 32 := by rw [← h3]; omega
      rcases hx with ⟨x1, x2, x3, x4⟩ | ⟨x1, x2, x3⟩
      · have q := cl_e h1 h2 (by omega) hc x1
        exact Or.inl ⟨q.1, by rw [q.2]; exact x3, by omega, h5, h6, x4⟩
      · have q := cl_f h1 h2 (by omega) hc x1
        exact Or.inr ⟨q.1, by rw [q.2]; exact x3, x2⟩
    · have hc : ¬ nx U n (clM U n p) = 32 := by rw [← h3]; omega
      have q := cl_b h1 h2 (by omega) hc
      have e5 : f5 = f4 := by
        rcases hE with z | z | z
        · exact z.2.2
        · omega
        · omega
      exact Or.inr ⟨q.1, by rw [q.2]; omega, by omega⟩
    · omega
  · have e4 : f4 = f3 := by rcases hT2 with z | z | z <;> omega
    have e5 : f5 = f4 := by
      rcases hE with z | z | z
      · exact z.2.2
      · omega
      · omega
    exact Or.inr ⟨h1, by omega, by omega⟩
end
/-- what the clauses of word w bring in moment j -/
noncomputable def swF (U : Int → Int) (n w j : Int) : Nat → Int
  | 0 => 0
  | m + 1 => swF U n w j m + (if hdK U n (cpos U n m) = w ∧ ¬ clV U n (cpos U n m) (j % 12) (j / 12) = 0 then clN U n (cpos U n m) else 0)
theorem tkF_e {w n : Int} {x : Cx} (h : w = 3 ∨ w = 7 ∨ w = -1) : tkF w n x = x := by
  unfold tkF
  rw [if_neg (by omega), if_neg (by omega), if_neg (by omega), if_neg (by omega), if_neg (by omega), if_neg (by omega), if_neg (by omega)]
theorem tkF_1 {w n : Int} {x : Cx} (h : 0 ≤ x.1 1 ∧ x.1 1 ≤ 5) : 0 ≤ (tkF w n x).1 1 ∧ (tkF w n x).1 1 ≤ 5 := by
  unfold tkF
  (repeat' split) <;> first | exact h | (show 0 ≤ x.1 1 + 1 ∧ x.1 1 + 1 ≤ 5; omega)
theorem d1_addPart_0 : decode c1_addPart 0 = .ok (.aload_n 0, 1) := by decide +kernel
theorem d1_addPart_1 : decode c1_addPart 1 = .ok (.getfield 37, 3) := by decide +kernel
theorem d1_addPart_4 : decode c1_addPart 4 = .ok (.iconst 5, 1) := by decide +kernel
theorem d1_addPart_5 : decode c1_addPart 5 = .ok (.if_icmp .ge 23, 3) := by decide +kernel
theorem d1_addPart_8 : decode c1_addPart 8 = .ok (.aload_n 0, 1) := by decide +kernel
theorem d1_addPart_9 : decode c1_addPart 9 = .ok (.getfield 9, 3) := by decide +kernel
theorem d1_addPart_12 : decode c1_addPart 12 = .ok (.aload_n 0, 1) := by decide +kernel
theorem d1_addPart_13 : decode c1_addPart 13 = .ok (.getfield 37, 3) := by decide +kernel
theorem d1_addPart_16 : decode c1_addPart 16 = .ok (.iload_n 1, 1) := by decide +kernel
theorem d1_addPart_17 : decode c1_addPart 17 = .ok (.iastore, 1) := by decide +kernel
theorem d1_addPart_18 : decode c1_addPart 18 = .ok (.aload_n 0, 1) := by decide +kernel
theorem d1_addPart_19 : decode c1_addPart 19 = .ok (.dup, 1) := by decide +kernel
theorem d1_addPart_20 : decode c1_addPart 20 = .ok (.getfield 37, 3) := by decide +kernel
theorem d1_addPart_23 : decode c1_addPart 23 = .ok (.iconst 1, 1) := by decide +kernel
theorem d1_addPart_24 : decode c1_addPart 24 = .ok (.iadd, 1) := by decide +kernel
theorem d1_addPart_25 : decode c1_addPart 25 = .ok (.putfield 37, 3) := by decide +kernel
theorem d1_addPart_28 : decode c1_addPart 28 = .ok (.return_, 1) := by decide +kernel
theorem mw1_addPart : MV y1_addPart c1_addPart 2 none 1 := ⟨cd1_addPart, ini1, na1_addPart, im1_addPart, se1_addPart⟩
set_option maxHeartbeats 4000000 in
set_option maxRecDepth 100000 in
theorem k1_addPart (l : Launch) (E : En) (ca : Nat) (pa : Nat) (da : Nat) (sa : Nat) (C : Nat → Int) (P : Int → Int) (n : Int) (hC1 : 0 ≤ C 1 ∧ C 1 ≤ 5) : Cm l E y1_addPart c1_addPart 2 none { frames := 0, cells := 0, slots := 0, locals := 0 } [.ref ca, .int (iZ n)] [(ca, o1 (some pa) (some da) (some sa) C), (pa, aInt E 5 P)] (fun r ws => ∃ (C1 : Nat → Int), ∃ (P1 : Int → Int), r = none ∧ ws = [(ca, o1 (some pa) (some da) (some sa) C1), (pa, aInt E 5 P1)] ∧ (C1 = (tkF 0 n (C, P)).1 ∧ P1 = (tkF 0 n (C, P)).2)) := by
  refine Cm.of (by decide +kernel) (Nat.le_of_ble_eq_true rfl) (fun Γ A hl hargs hin G F => ?_)
  subst hl
  have hb : (C, P).fst 1 = C 1 := rfl
  refine j_aload_n G 0 rfl d1_addPart_0 ?_
  refine j_get G 0 1 1 in1 fl1_37 d1_addPart_1 rfl rfl (by decide) (v := .int (iZ (C 1))) rfl rfl ?_
  refine j_iconst G d1_addPart_4 ?_
  refine j_icmp_ge (tgt := 28) G d1_addPart_5 (by decide) (by omega) (by decide) (fun h1 => ?_) (fun h1 => ?_)
  ·
    exact j_vret G F d1_addPart_28 ⟨C, P, rfl, rfl, (by (refine ⟨?_, ?_⟩ <;> ((try dsimp only); unfold tkF; (repeat' split) <;> first | rfl | (exfalso; omega))))⟩
  ·
    refine j_aload_n G 0 rfl d1_addPart_8 ?_
    refine j_get G 0 1 0 in1 fl1_9 d1_addPart_9 rfl rfl (by decide) (v := .ref pa) rfl rfl ?_
    refine j_aload_n G 0 rfl d1_addPart_12 ?_
    refine j_get G 0 1 1 in1 fl1_37 d1_addPart_13 rfl rfl (by decide) (v := .int (iZ (C 1))) rfl rfl ?_
    refine j_iload_n G 1 rfl d1_addPart_16 ?_
    refine j_iast G 1 rfl (by omega) d1_addPart_17 ?_
    refine j_aload_n G 0 rfl d1_addPart_18 ?_
    refine j_dup G d1_addPart_19 rfl ?_
    refine j_get G 0 1 1 in1 fl1_37 d1_addPart_20 rfl rfl (by decide) (v := .int (iZ (C 1))) rfl rfl ?_
    refine j_iconst G d1_addPart_23 ?_
    refine j_iadd G d1_addPart_24 ?_
    refine j_put G 0 1 1 in1 tyok1 nm1 fl1_37 d1_addPart_25 rfl rfl (by decide) ⟨rfl, rfl⟩ rfl rfl (Nat.le_of_ble_eq_true rfl) (e := o1 (some pa) (some da) (some sa) (upS C 1 ((C 1) + 1))) rfl ?_
    exact j_vret G F d1_addPart_28 ⟨(upS C 1 ((C 1) + 1)), (upI P (C 1) n), rfl, rfl, (by (refine ⟨?_, ?_⟩ <;> ((try dsimp only); unfold tkF; (repeat' split) <;> first | rfl | (exfalso; omega))))⟩
theorem d1_take_0 : decode c1_take 0 = .ok (.iload_n 1, 1) := by decide +kernel
theorem d1_take_1 : decode c1_take 1 = .ok (.tableswitch 122 0 8 #[51, 59, 67, 122, 75, 83, 96, 122, 109], 51) := by decide +kernel
theorem d1_take_52 : decode c1_take 52 = .ok (.aload_n 0, 1) := by decide +kernel
theorem d1_take_53 : decode c1_take 53 = .ok (.iload_n 2, 1) := by decide +kernel
theorem d1_take_54 : decode c1_take 54 = .ok (.invokevirtual 40, 3) := by decide +kernel
theorem d1_take_57 : decode c1_take 57 = .ok (.goto 66, 3) := by decide +kernel
theorem d1_take_60 : decode c1_take 60 = .ok (.aload_n 0, 1) := by decide +kernel
theorem d1_take_61 : decode c1_take 61 = .ok (.iload_n 2, 1) := by decide +kernel
theorem d1_take_62 : decode c1_take 62 = .ok (.putfield 44, 3) := by decide +kernel
theorem d1_take_65 : decode c1_take 65 = .ok (.goto 58, 3) := by decide +kernel
theorem d1_take_68 : decode c1_take 68 = .ok (.aload_n 0, 1) := by decide +kernel
theorem d1_take_69 : decode c1_take 69 = .ok (.iload_n 2, 1) := by decide +kernel
theorem d1_take_70 : decode c1_take 70 = .ok (.putfield 15, 3) := by decide +kernel
theorem d1_take_73 : decode c1_take 73 = .ok (.goto 50, 3) := by decide +kernel
theorem d1_take_76 : decode c1_take 76 = .ok (.aload_n 0, 1) := by decide +kernel
theorem d1_take_77 : decode c1_take 77 = .ok (.iload_n 2, 1) := by decide +kernel
theorem d1_take_78 : decode c1_take 78 = .ok (.putfield 19, 3) := by decide +kernel
theorem d1_take_81 : decode c1_take 81 = .ok (.goto 42, 3) := by decide +kernel
theorem d1_take_84 : decode c1_take 84 = .ok (.aload_n 0, 1) := by decide +kernel
theorem d1_take_85 : decode c1_take 85 = .ok (.iload_n 2, 1) := by decide +kernel
theorem d1_take_86 : decode c1_take 86 = .ok (.bipush 60, 2) := by decide +kernel
theorem d1_take_88 : decode c1_take 88 = .ok (.invokestatic 47, 3) := by decide +kernel
theorem d1_take_91 : decode c1_take 91 = .ok (.putfield 22, 3) := by decide +kernel
theorem d1_take_94 : decode c1_take 94 = .ok (.goto 29, 3) := by decide +kernel
theorem d1_take_97 : decode c1_take 97 = .ok (.aload_n 0, 1) := by decide +kernel
theorem d1_take_98 : decode c1_take 98 = .ok (.iload_n 2, 1) := by decide +kernel
theorem d1_take_99 : decode c1_take 99 = .ok (.bipush 6, 2) := by decide +kernel
theorem d1_take_101 : decode c1_take 101 = .ok (.invokestatic 47, 3) := by decide +kernel
theorem d1_take_104 : decode c1_take 104 = .ok (.putfield 25, 3) := by decide +kernel
theorem d1_take_107 : decode c1_take 107 = .ok (.goto 16, 3) := by decide +kernel
theorem d1_take_110 : decode c1_take 110 = .ok (.aload_n 0, 1) := by decide +kernel
theorem d1_take_111 : decode c1_take 111 = .ok (.iload_n 2, 1) := by decide +kernel
theorem d1_take_112 : decode c1_take 112 = .ok (.bipush 40, 2) := by decide +kernel
theorem d1_take_114 : decode c1_take 114 = .ok (.invokestatic 47, 3) := by decide +kernel
theorem d1_take_117 : decode c1_take 117 = .ok (.putfield 28, 3) := by decide +kernel
theorem d1_take_120 : decode c1_take 120 = .ok (.goto 3, 3) := by decide +kernel
theorem d1_take_123 : decode c1_take 123 = .ok (.return_, 1) := by decide +kernel
theorem mw1_take : MV y1_take c1_take 3 none 2 := ⟨cd1_take, ini1, na1_take, im1_take, se1_take⟩
set_option maxHeartbeats 4000000 in
set_option maxRecDepth 100000 in
theorem k1_take (l : Launch) (E : En) (ca : Nat) (pa : Nat) (da : Nat) (sa : Nat) (C : Nat → Int) (P : Int → Int) (w : Int) (n : Int) (hC1 : 0 ≤ C 1 ∧ C 1 ≤ 5) (hw : -1 ≤ w ∧ w ≤ 8) (hn : 0 ≤ n ∧ n ≤ 999) : Cm l E y1_take c1_take 3 none { frames := 1, cells := 0, slots := 0, locals := 21 } [.ref ca, .int (iZ w), .int (iZ n)] [(ca, o1 (some pa) (some da) (some sa) C), (pa, aInt E 5 P)] (fun r ws => ∃ (C1 : Nat → Int), ∃ (P1 : Int → Int), r = none ∧ ws = [(ca, o1 (some pa) (some da) (some sa) C1), (pa, aInt E 5 P1)] ∧ (C1 = (tkF w n (C, P)).1 ∧ P1 = (tkF w n (C, P)).2)) := by
  refine Cm.of (by decide +kernel) (Nat.le_of_ble_eq_true rfl) (fun Γ A hl hargs hin G F => ?_)
  subst hl
  have hb : (C, P).fst 1 = C 1 := rfl
  refine j_iload_n G 1 rfl d1_take_0 ?_
  rcases (show w = 0 ∨ w = 1 ∨ w = 2 ∨ w = 3 ∨ w = 4 ∨ w = 5 ∨ w = 6 ∨ w = 7 ∨ w = 8 ∨ (w < 0 ∨ 8 < w) by omega) with h1 | h1 | h1 | h1 | h1 | h1 | h1 | h1 | h1 | h1
  ·
    refine j_tabIn (tgt := 52) G d1_take_1 (by omega) 0 h1 ⟨by decide, by decide⟩ rfl (by decide) ?_
    refine j_aload_n G 0 rfl d1_take_52 ?_
    refine j_iload_n G 2 rfl d1_take_53 ?_
    refine j_VM G (rm' := { frames := 0, cells := 0, slots := 0, locals := 0 }) (wc := [(ca, o1 (some pa) (some da) (some sa) C), (pa, aInt E 5 P)]) (wr := []) (k1_addPart (xl Γ) E ca pa da sa C P n (by first | assumption | omega | (simp only [upS, reduceIte, Nat.reduceEqDiff, eq_self, List.length_cons, List.length_nil, List.length_append] <;> omega))) mw1_addPart ml1_40 [0, 1] [] rfl rfl ⟨rfl, rfl⟩ (by decide) 0 1 rfl rfl rfl ⟨Nat.le_of_ble_eq_true rfl, Nat.le_of_ble_eq_true rfl⟩ rfl (rest := []) rfl (Nat.le_of_ble_eq_true rfl) d1_take_54 ⟨Nat.le_of_ble_eq_true rfl, Nat.le_of_ble_eq_true rfl⟩ (fun r w1 hr => ?_)
    obtain ⟨C1_3, P1_4, rfl, rfl, ⟨hq2_0, hq2_1⟩⟩ := hr
    refine j_eq (ws' := [(ca, o1 (some pa) (some da) (some sa) C1_3), (pa, aInt E 5 P1_4)]) rfl rfl rfl ?_
    have ht0 := hq2_0
    have ht1 := hq2_1
    refine j_goto (tgt := 123) G d1_take_57 (by decide) ?_
    exact j_vret G F d1_take_123 ⟨C1_3, P1_4, rfl, rfl, (by first | ((have q0 : w = 0 := (by omega)); subst q0; exact ⟨ht0, ht1⟩) | (refine ⟨?_, ?_⟩ <;> (unfold tkF; (repeat' split) <;> first | rfl | (exfalso; omega))))⟩
  ·
    refine j_tabIn (tgt := 60) G d1_take_1 (by omega) 1 h1 ⟨by decide, by decide⟩ rfl (by decide) ?_
    refine j_aload_n G 0 rfl d1_take_60 ?_
    refine j_iload_n G 2 rfl d1_take_61 ?_
    refine j_put G 0 1 2 in1 tyok1 nm1 fl1_44 d1_take_62 rfl rfl (by decide) ⟨rfl, rfl⟩ rfl rfl (Nat.le_of_ble_eq_true rfl) (e := o1 (some pa) (some da) (some sa) (upS C 2 n)) rfl ?_
    refine j_goto (tgt := 123) G d1_take_65 (by decide) ?_
    exact j_vret G F d1_take_123 ⟨(upS C 2 n), P, rfl, rfl, (by first | ((have q0 : w = 0 := (by omega)); subst q0; exact ⟨ht0, ht1⟩) | (refine ⟨?_, ?_⟩ <;> (unfold tkF; (repeat' split) <;> first | rfl | (exfalso; omega))))⟩
  ·
    refine j_tabIn (tgt := 68) G d1_take_1 (by omega) 2 h1 ⟨by decide, by decide⟩ rfl (by decide) ?_
    refine j_aload_n G 0 rfl d1_take_68 ?_
    refine j_iload_n G 2 rfl d1_take_69 ?_
    refine j_put G 0 1 3 in1 tyok1 nm1 fl1_15 d1_take_70 rfl rfl (by decide) ⟨rfl, rfl⟩ rfl rfl (Nat.le_of_ble_eq_true rfl) (e := o1 (some pa) (some da) (some sa) (upS C 3 n)) rfl ?_
    refine j_goto (tgt := 123) G d1_take_73 (by decide) ?_
    exact j_vret G F d1_take_123 ⟨(upS C 3 n), P, rfl, rfl, (by first | ((have q0 : w = 0 := (by omega)); subst q0; exact ⟨ht0, ht1⟩) | (refine ⟨?_, ?_⟩ <;> (unfold tkF; (repeat' split) <;> first | rfl | (exfalso; omega))))⟩
  ·
    refine j_tabIn (tgt := 123) G d1_take_1 (by omega) 3 h1 ⟨by decide, by decide⟩ rfl (by decide) ?_
    exact j_vret G F d1_take_123 ⟨C, P, rfl, rfl, (by first | ((have q0 : w = 0 := (by omega)); subst q0; exact ⟨ht0, ht1⟩) | (refine ⟨?_, ?_⟩ <;> (unfold tkF; (repeat' split) <;> first | rfl | (exfalso; omega))))⟩
  ·
    refine j_tabIn (tgt := 76) G d1_take_1 (by omega) 4 h1 ⟨by decide, by decide⟩ rfl (by decide) ?_
    refine j_aload_n G 0 rfl d1_take_76 ?_
    refine j_iload_n G 2 rfl d1_take_77 ?_
    refine j_put G 0 1 4 in1 tyok1 nm1 fl1_19 d1_take_78 rfl rfl (by decide) ⟨rfl, rfl⟩ rfl rfl (Nat.le_of_ble_eq_true rfl) (e := o1 (some pa) (some da) (some sa) (upS C 4 n)) rfl ?_
    refine j_goto (tgt := 123) G d1_take_81 (by decide) ?_
    exact j_vret G F d1_take_123 ⟨(upS C 4 n), P, rfl, rfl, (by first | ((have q0 : w = 0 := (by omega)); subst q0; exact ⟨ht0, ht1⟩) | (refine ⟨?_, ?_⟩ <;> (unfold tkF; (repeat' split) <;> first | rfl | (exfalso; omega))))⟩
  ·
    refine j_tabIn (tgt := 84) G d1_take_1 (by omega) 5 h1 ⟨by decide, by decide⟩ rfl (by decide) ?_
    refine j_aload_n G 0 rfl d1_take_84 ?_
    refine j_iload_n G 2 rfl d1_take_85 ?_
    refine j_bipush G d1_take_86 rfl ?_
    refine j_mmin G ml1_47 (by omega) (by decide) ⟨Nat.le_of_ble_eq_true rfl, Nat.le_of_ble_eq_true rfl⟩ ⟨Nat.le_of_ble_eq_true rfl, Nat.le_of_ble_eq_true rfl⟩ d1_take_88 ?_
    refine j_put G 0 1 5 in1 tyok1 nm1 fl1_22 d1_take_91 rfl rfl (by decide) ⟨rfl, rfl⟩ rfl rfl (Nat.le_of_ble_eq_true rfl) (e := o1 (some pa) (some da) (some sa) (upS C 5 (min n 60))) rfl ?_
    refine j_goto (tgt := 123) G d1_take_94 (by decide) ?_
    exact j_vret G F d1_take_123 ⟨(upS C 5 (min n 60)), P, rfl, rfl, (by first | ((have q0 : w = 0 := (by omega)); subst q0; exact ⟨ht0, ht1⟩) | (refine ⟨?_, ?_⟩ <;> (unfold tkF; (repeat' split) <;> first | rfl | (exfalso; omega))))⟩
  ·
    refine j_tabIn (tgt := 97) G d1_take_1 (by omega) 6 h1 ⟨by decide, by decide⟩ rfl (by decide) ?_
    refine j_aload_n G 0 rfl d1_take_97 ?_
    refine j_iload_n G 2 rfl d1_take_98 ?_
    refine j_bipush G d1_take_99 rfl ?_
    refine j_mmin G ml1_47 (by omega) (by decide) ⟨Nat.le_of_ble_eq_true rfl, Nat.le_of_ble_eq_true rfl⟩ ⟨Nat.le_of_ble_eq_true rfl, Nat.le_of_ble_eq_true rfl⟩ d1_take_101 ?_
    refine j_put G 0 1 6 in1 tyok1 nm1 fl1_25 d1_take_104 rfl rfl (by decide) ⟨rfl, rfl⟩ rfl rfl (Nat.le_of_ble_eq_true rfl) (e := o1 (some pa) (some da) (some sa) (upS C 6 (min n 6))) rfl ?_
    refine j_goto (tgt := 123) G d1_take_107 (by decide) ?_
    exact j_vret G F d1_take_123 ⟨(upS C 6 (min n 6)), P, rfl, rfl, (by first | ((have q0 : w = 0 := (by omega)); subst q0; exact ⟨ht0, ht1⟩) | (refine ⟨?_, ?_⟩ <;> (unfold tkF; (repeat' split) <;> first | rfl | (exfalso; omega))))⟩
  ·
    refine j_tabIn (tgt := 123) G d1_take_1 (by omega) 7 h1 ⟨by decide, by decide⟩ rfl (by decide) ?_
    exact j_vret G F d1_take_123 ⟨C, P, rfl, rfl, (by first | ((have q0 : w = 0 := (by omega)); subst q0; exact ⟨ht0, ht1⟩) | (refine ⟨?_, ?_⟩ <;> (unfold tkF; (repeat' split) <;> first | rfl | (exfalso; omega))))⟩
  ·
    refine j_tabIn (tgt := 110) G d1_take_1 (by omega) 8 h1 ⟨by decide, by decide⟩ rfl (by decide) ?_
    refine j_aload_n G 0 rfl d1_take_110 ?_
    refine j_iload_n G 2 rfl d1_take_111 ?_
    refine j_bipush G d1_take_112 rfl ?_
    refine j_mmin G ml1_47 (by omega) (by decide) ⟨Nat.le_of_ble_eq_true rfl, Nat.le_of_ble_eq_true rfl⟩ ⟨Nat.le_of_ble_eq_true rfl, Nat.le_of_ble_eq_true rfl⟩ d1_take_114 ?_
    refine j_put G 0 1 7 in1 tyok1 nm1 fl1_28 d1_take_117 rfl rfl (by decide) ⟨rfl, rfl⟩ rfl rfl (Nat.le_of_ble_eq_true rfl) (e := o1 (some pa) (some da) (some sa) (upS C 7 (min n 40))) rfl ?_
    refine j_goto (tgt := 123) G d1_take_120 (by decide) ?_
    exact j_vret G F d1_take_123 ⟨(upS C 7 (min n 40)), P, rfl, rfl, (by first | ((have q0 : w = 0 := (by omega)); subst q0; exact ⟨ht0, ht1⟩) | (refine ⟨?_, ?_⟩ <;> (unfold tkF; (repeat' split) <;> first | rfl | (exfalso; omega))))⟩
  ·
    refine j_tabOut (tgt := 123) G d1_take_1 (by omega) h1 (by decide) ?_
    exact j_vret G F d1_take_123 ⟨C, P, rfl, rfl, (by first | ((have q0 : w = 0 := (by omega)); subst q0; exact ⟨ht0, ht1⟩) | (refine ⟨?_, ?_⟩ <;> (unfold tkF; (repeat' split) <;> first | rfl | (exfalso; omega))))⟩
