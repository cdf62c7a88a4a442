/-! a cliff out of its clauses: numbers C, parts P -/
abbrev Cx : Type := (Nat → Int) × (Int → Int)
def tkF (w n : Int) (x : Cx) : Cx := if w = 0 then (if x.1 1 < 5 then (upS x.1 1 (x.1 1 + 1), upI x.2 (x.1 1) n) else x) else if w = 1 then (upS x.1 2 n, x.2) else if w = 2 then (upS x.1 3 n, x.2) else if w = 4 then (upS x.1 4 n, x.2) else if w = 5 then (upS x.1 5 (min n 60), x.2) else if w = 6 then (upS x.1 6 (min n 6), x.2) else if w = 8 then (upS x.1 7 (min n 40), x.2) else x
def cv0 : Cx := (fun k => if k = 3 then 10 else if k = 4 then 999 else if k = 5 then 20 else if k = 6 then 4 else if k = 7 then 20 else 0, fun _ => 0)
def cvF (cw cn : Nat → Int) : Nat → Cx
  | 0 => cv0
  | m + 1 => tkF (cw m) (cn m) (cvF cw cn m)
def cvE (x : Cx) : Cx := if x.1 1 = 0 then (upS x.1 1 1, upI x.2 0 5) else x
def wfX (x : Cx) : Prop := (0 ≤ x.1 1 ∧ x.1 1 ≤ 5) ∧ (∀ j, 0 ≤ j → j < 5 → 0 ≤ x.2 j ∧ x.2 j ≤ 999) ∧ (0 ≤ x.1 2 ∧ x.1 2 ≤ 999) ∧ (0 ≤ x.1 3 ∧ x.1 3 ≤ 999) ∧ (0 ≤ x.1 4 ∧ x.1 4 ≤ 999) ∧ (0 ≤ x.1 5 ∧ x.1 5 ≤ 60) ∧ (0 ≤ x.1 6 ∧ x.1 6 ≤ 6) ∧ (0 ≤ x.1 7 ∧ x.1 7 ≤ 40)
theorem wfX_1 {x : Cx} (h : wfX x) : 0 ≤ x.1 1 ∧ x.1 1 ≤ 5 := h.1
theorem wfX_0 : wfX cv0 := ⟨by decide, fun _ _ _ => (show (0 : Int) ≤ 0 ∧ (0 : Int) ≤ 999 by decide), by decide, by decide, by decide, by decide, by decide, by decide⟩
theorem wfX_tk {w n : Int} {x : Cx} (h : wfX x) (hn : 0 ≤ n ∧ n ≤ 999) : wfX (tkF w n x) := by
  obtain ⟨h1, h2, h3, h4, h5, h6, h7, h8⟩ := h
  unfold tkF
  (repeat' split)
  · refine ⟨?_, fun j q1 q2 => ?_, h3, h4, h5, h6, h7, h8⟩
    · show 0 ≤ x.1 1 + 1 ∧ x.1 1 + 1 ≤ 5; omega
    · show 0 ≤ upI x.2 (x.1 1) n j ∧ upI x.2 (x.1 1) n j ≤ 999
      unfold upI; split
      · exact hn
      · exact h2 j q1 q2
  · exact ⟨h1, h2, h3, h4, h5, h6, h7, h8⟩
  · exact ⟨h1, h2, hn, h4, h5, h6, h7, h8⟩
  · exact ⟨h1, h2, h3, hn, h5, h6, h7, h8⟩
  · exact ⟨h1, h2, h3, h4, hn, h6, h7, h8⟩
  · exact ⟨h1, h2, h3, h4, h5, (show 0 ≤ min n 60 ∧ min n 60 ≤ 60 by omega), h7, h8⟩
  · exact ⟨h1, h2, h3, h4, h5, h6, (show 0 ≤ min n 6 ∧ min n 6 ≤ 6 by omega), h8⟩
  · exact ⟨h1, h2, h3, h4, h5, h6, h7, (show 0 ≤ min n 40 ∧ min n 40 ≤ 40 by omega)⟩
  · exact ⟨h1, h2, h3, h4, h5, h6, h7, h8⟩
theorem wfX_cv {cw cn : Nat → Int} : ∀ m : Nat, (∀ i, i < m → 0 ≤ cn i ∧ cn i ≤ 999) → wfX (cvF cw cn m)
  | 0, _ => wfX_0
  | m + 1, h => wfX_tk (wfX_cv m (fun i hi => h i (by omega))) (h m (by omega))
theorem wfC_e {x : Cx} (h : wfX x) : wfC (cvE x).1 (cvE x).2 := by
  obtain ⟨h1, h2, h3, h4, h5, h6, h7, h8⟩ := h
  unfold cvE
  by_cases hz : x.1 1 = 0
  · rw [if_pos hz]
    refine ⟨(by show 1 ≤ (1 : Int) ∧ (1 : Int) ≤ 5; omega), fun j q1 q2 => ?_, h3, h4, h5, h6, h7, h8⟩
    show 0 ≤ upI x.2 0 5 j ∧ upI x.2 0 5 j ≤ 999
    unfold upI; split
    · decide
    · exact h2 j q1 q2
  · rw [if_neg hz]
    exact ⟨by omega, h2, h3, h4, h5, h6, h7, h8⟩
theorem wfC_x {x : Cx} (h : wfC x.1 x.2) : wfX x := ⟨⟨by have := h.1; omega, h.1.2⟩, h.2⟩
/-- the model's numbers of cliff f are x's -/
def RelC (la po pt : Int → Int) (f : Int) (x : Cx) : Prop := po f = x.1 1 ∧ la (9 * f + 1) = x.1 2 ∧ la (9 * f + 2) = x.1 3 ∧ la (9 * f + 4) = x.1 4 ∧ la (9 * f + 5) = x.1 5 ∧ la (9 * f + 6) = x.1 6 ∧ la (9 * f + 8) = x.1 7 ∧ ∀ j, 0 ≤ j → j < 5 → pt (5 * f + j) = x.2 j
def valF (w n : Int) : Int := if w = 5 then min 60 n else if w = 6 then min 6 n else if w = 8 then min 40 n else n
theorem rel_step {la po pt po' pt' : Int → Int} {f w n val : Int} {x : Cx} (h : RelC la po pt f x) (hw : 0 ≤ w ∧ w ≤ 8) (h0 : 0 ≤ x.1 1) (hv : val = valF w n) (hp : (w = 0 ∧ po f < 5 ∧ po' = upI po f (po f + 1) ∧ pt' = upI pt (5 * f + po f) n) ∨ (¬ (w = 0 ∧ po f < 5) ∧ po' = po ∧ pt' = pt)) : RelC (upI la (9 * f + w) val) po' pt' f (tkF w n x) := by
  obtain ⟨h1, h2, h3, h4, h5, h6, h7, h8⟩ := h
  rcases (show w = 0 ∨ w = 1 ∨ w = 2 ∨ w = 3 ∨ w = 4 ∨ w = 5 ∨ w = 6 ∨ w = 7 ∨ w = 8 by omega) with q | q | q | q | q | q | q | q | q <;> subst q
  · have e0 : ∀ k, ¬ k = 0 → upI la (9 * f + 0) val (9 * f + k) = la (9 * f + k) := fun k hk => upI_ne (by omega)
    rcases hp with ⟨-, p1, p2, p3⟩ | ⟨p1, p2, p3⟩
    · have ht : tkF 0 n x = (upS x.1 1 (x.1 1 + 1), upI x.2 (x.1 1) n) := by unfold tkF; rw [if_pos rfl, if_pos (by omega)]
      rw [ht, p2, p3]
      refine ⟨(by rw [upI_eq, h1]; rfl), (e0 1 (by decide)).trans h2, (e0 2 (by decide)).trans h3, (e0 4 (by decide)).trans h4, (e0 5 (by decide)).trans h5, (e0 6 (by decide)).trans h6, (e0 8 (by decide)).trans h7, fun j q1 q2 => ?_⟩
      show upI pt (5 * f + po f) n (5 * f + j) = upI x.2 (x.1 1) n j
      unfold upI
      by_cases hj : j = x.1 1
      · rw [if_pos (by omega), if_pos hj]
      · rw [if_neg (by omega), if_neg hj]; exact h8 j q1 q2
    · have ht : tkF 0 n x = x := by unfold tkF; rw [if_pos rfl, if_neg (by omega)]
      rw [ht, p2, p3]
      exact ⟨h1, (e0 1 (by decide)).trans h2, (e0 2 (by decide)).trans h3, (e0 4 (by decide)).trans h4, (e0 5 (by decide)).trans h5, (e0 6 (by decide)).trans h6, (e0 8 (by decide)).trans h7, h8⟩
  all_goals
    have p2 : po' = po := by rcases hp with ⟨p, -⟩ | ⟨-, p, -⟩; (exact absurd p (by decide)); exact p
    have p3 : pt' = pt := by rcases hp with ⟨p, -⟩ | ⟨-, -, p⟩; (exact absurd p (by decide)); exact p
    rw [p2, p3, hv]
    refine ⟨h1, ?_, ?_, ?_, ?_, ?_, ?_, h8⟩ <;> first | (rw [upI_ne (by omega)]; assumption) | (rw [upI_eq]; rfl) | (rw [upI_eq]; show min _ n = min n _; omega)
theorem rel_0 {la po pt : Int → Int} {f : Int} (hp : ∀ j, 0 ≤ j → j < 5 → pt (5 * f + j) = 0) : RelC (upI (upI (upI (upI (upI (upI la (9 * f + 1) 0) (9 * f + 2) 10) (9 * f + 4) 999) (9 * f + 5) 20) (9 * f + 6) 4) (9 * f + 8) 20) (upI po f 0) pt f cv0 := by
  refine ⟨upI_eq, ?_, ?_, ?_, ?_, ?_, ?_, hp⟩ <;> (repeat (first | (rw [upI_eq]; rfl) | rw [upI_ne (by omega)]))
theorem cM_of {la po pt : Int → Int} {f : Int} {x : Cx} (h : RelC la po pt f x) (k : Nat) (hk : 1 ≤ k ∧ k ≤ 7) : cM la po f k = x.1 k := by
  obtain ⟨h1, h2, h3, h4, h5, h6, h7, h8⟩ := h
  rcases (show k = 1 ∨ k = 2 ∨ k = 3 ∨ k = 4 ∨ k = 5 ∨ k = 6 ∨ k = 7 by omega) with q | q | q | q | q | q | q <;> subst q <;> assumption
theorem wf_of {la po pt : Int → Int} {f : Int} {x : Cx} (h : RelC la po pt f x) (hw : wfC x.1 x.2) : wfC (cM la po f) (pM pt f) := by
  have e := cM_of h
  obtain ⟨w1, w2, w3, w4, w5, w6, w7, w8⟩ := hw
  refine ⟨by rw [e 1 (by decide)]; exact w1, fun j q1 q2 => ?_, by rw [e 2 (by decide)]; exact w3, by rw [e 3 (by decide)]; exact w4, by rw [e 4 (by decide)]; exact w5, by rw [e 5 (by decide)]; exact w6, by rw [e 6 (by decide)]; exact w7, by rw [e 7 (by decide)]; exact w8⟩
  have := h.2.2.2.2.2.2.2 j q1 q2
  show 0 ≤ pt (5 * f + j) ∧ pt (5 * f + j) ≤ 999
  rw [this]; exact w2 j q1 q2
theorem rel_e {la po pt : Int → Int} {f : Int} {x : Cx} (h : RelC la po pt f x) (hz : x.1 1 = 0) : RelC la (upI po f 1) (upI pt (5 * f) 5) f (cvE x) := by
  obtain ⟨h1, h2, h3, h4, h5, h6, h7, h8⟩ := h
  have e : cvE x = (upS x.1 1 1, upI x.2 0 5) := by unfold cvE; rw [if_pos hz]
  rw [e]
  refine ⟨upI_eq, h2, h3, h4, h5, h6, h7, fun j q1 q2 => ?_⟩
  show upI pt (5 * f) 5 (5 * f + j) = upI x.2 0 5 j
  unfold upI
  by_cases hj : j = 0
  · rw [if_pos (by omega), if_pos hj]
  · rw [if_neg (by omega), if_neg hj]; exact h8 j q1 q2
theorem d10_settleCliff_0 : decode c10_settleCliff 0 = .ok (.aload_n 0, 1) := by decide +kernel
theorem d10_settleCliff_1 : decode c10_settleCliff 1 = .ok (.getfield 44, 3) := by decide +kernel
theorem d10_settleCliff_4 : decode c10_settleCliff 4 = .ok (.bipush 9, 2) := by decide +kernel
theorem d10_settleCliff_6 : decode c10_settleCliff 6 = .ok (.iload_n 1, 1) := by decide +kernel
theorem d10_settleCliff_7 : decode c10_settleCliff 7 = .ok (.imul, 1) := by decide +kernel
theorem d10_settleCliff_8 : decode c10_settleCliff 8 = .ok (.iconst 1, 1) := by decide +kernel
theorem d10_settleCliff_9 : decode c10_settleCliff 9 = .ok (.iadd, 1) := by decide +kernel
theorem d10_settleCliff_10 : decode c10_settleCliff 10 = .ok (.iconst 0, 1) := by decide +kernel
theorem d10_settleCliff_11 : decode c10_settleCliff 11 = .ok (.iastore, 1) := by decide +kernel
theorem d10_settleCliff_12 : decode c10_settleCliff 12 = .ok (.aload_n 0, 1) := by decide +kernel
theorem d10_settleCliff_13 : decode c10_settleCliff 13 = .ok (.getfield 44, 3) := by decide +kernel
theorem d10_settleCliff_16 : decode c10_settleCliff 16 = .ok (.bipush 9, 2) := by decide +kernel
theorem d10_settleCliff_18 : decode c10_settleCliff 18 = .ok (.iload_n 1, 1) := by decide +kernel
theorem d10_settleCliff_19 : decode c10_settleCliff 19 = .ok (.imul, 1) := by decide +kernel
theorem d10_settleCliff_20 : decode c10_settleCliff 20 = .ok (.iconst 2, 1) := by decide +kernel
theorem d10_settleCliff_21 : decode c10_settleCliff 21 = .ok (.iadd, 1) := by decide +kernel
theorem d10_settleCliff_22 : decode c10_settleCliff 22 = .ok (.bipush 10, 2) := by decide +kernel
theorem d10_settleCliff_24 : decode c10_settleCliff 24 = .ok (.iastore, 1) := by decide +kernel
theorem d10_settleCliff_25 : decode c10_settleCliff 25 = .ok (.aload_n 0, 1) := by decide +kernel
theorem d10_settleCliff_26 : decode c10_settleCliff 26 = .ok (.getfield 44, 3) := by decide +kernel
theorem d10_settleCliff_29 : decode c10_settleCliff 29 = .ok (.bipush 9, 2) := by decide +kernel
theorem d10_settleCliff_31 : decode c10_settleCliff 31 = .ok (.iload_n 1, 1) := by decide +kernel
theorem d10_settleCliff_32 : decode c10_settleCliff 32 = .ok (.imul, 1) := by decide +kernel
theorem d10_settleCliff_33 : decode c10_settleCliff 33 = .ok (.iconst 4, 1) := by decide +kernel
theorem d10_settleCliff_34 : decode c10_settleCliff 34 = .ok (.iadd, 1) := by decide +kernel
theorem d10_settleCliff_35 : decode c10_settleCliff 35 = .ok (.sipush 999, 3) := by decide +kernel
theorem d10_settleCliff_38 : decode c10_settleCliff 38 = .ok (.iastore, 1) := by decide +kernel
theorem d10_settleCliff_39 : decode c10_settleCliff 39 = .ok (.aload_n 0, 1) := by decide +kernel
theorem d10_settleCliff_40 : decode c10_settleCliff 40 = .ok (.getfield 44, 3) := by decide +kernel
theorem d10_settleCliff_43 : decode c10_settleCliff 43 = .ok (.bipush 9, 2) := by decide +kernel
theorem d10_settleCliff_45 : decode c10_settleCliff 45 = .ok (.iload_n 1, 1) := by decide +kernel
theorem d10_settleCliff_46 : decode c10_settleCliff 46 = .ok (.imul, 1) := by decide +kernel
theorem d10_settleCliff_47 : decode c10_settleCliff 47 = .ok (.iconst 5, 1) := by decide +kernel
theorem d10_settleCliff_48 : decode c10_settleCliff 48 = .ok (.iadd, 1) := by decide +kernel
theorem d10_settleCliff_49 : decode c10_settleCliff 49 = .ok (.bipush 20, 2) := by decide +kernel
theorem d10_settleCliff_51 : decode c10_settleCliff 51 = .ok (.iastore, 1) := by decide +kernel
theorem d10_settleCliff_52 : decode c10_settleCliff 52 = .ok (.aload_n 0, 1) := by decide +kernel
theorem d10_settleCliff_53 : decode c10_settleCliff 53 = .ok (.getfield 44, 3) := by decide +kernel
theorem d10_settleCliff_56 : decode c10_settleCliff 56 = .ok (.bipush 9, 2) := by decide +kernel
theorem d10_settleCliff_58 : decode c10_settleCliff 58 = .ok (.iload_n 1, 1) := by decide +kernel
theorem d10_settleCliff_59 : decode c10_settleCliff 59 = .ok (.imul, 1) := by decide +kernel
theorem d10_settleCliff_60 : decode c10_settleCliff 60 = .ok (.bipush 6, 2) := by decide +kernel
theorem d10_settleCliff_62 : decode c10_settleCliff 62 = .ok (.iadd, 1) := by decide +kernel
theorem d10_settleCliff_63 : decode c10_settleCliff 63 = .ok (.iconst 4, 1) := by decide +kernel
theorem d10_settleCliff_64 : decode c10_settleCliff 64 = .ok (.iastore, 1) := by decide +kernel
theorem d10_settleCliff_65 : decode c10_settleCliff 65 = .ok (.aload_n 0, 1) := by decide +kernel
theorem d10_settleCliff_66 : decode c10_settleCliff 66 = .ok (.getfield 44, 3) := by decide +kernel
theorem d10_settleCliff_69 : decode c10_settleCliff 69 = .ok (.bipush 9, 2) := by decide +kernel
theorem d10_settleCliff_71 : decode c10_settleCliff 71 = .ok (.iload_n 1, 1) := by decide +kernel
theorem d10_settleCliff_72 : decode c10_settleCliff 72 = .ok (.imul, 1) := by decide +kernel
theorem d10_settleCliff_73 : decode c10_settleCliff 73 = .ok (.bipush 8, 2) := by decide +kernel
theorem d10_settleCliff_75 : decode c10_settleCliff 75 = .ok (.iadd, 1) := by decide +kernel
theorem d10_settleCliff_76 : decode c10_settleCliff 76 = .ok (.bipush 20, 2) := by decide +kernel
theorem d10_settleCliff_78 : decode c10_settleCliff 78 = .ok (.iastore, 1) := by decide +kernel
theorem d10_settleCliff_79 : decode c10_settleCliff 79 = .ok (.aload_n 0, 1) := by decide +kernel
theorem d10_settleCliff_80 : decode c10_settleCliff 80 = .ok (.getfield 47, 3) := by decide +kernel
theorem d10_settleCliff_83 : decode c10_settleCliff 83 = .ok (.iload_n 1, 1) := by decide +kernel
theorem d10_settleCliff_84 : decode c10_settleCliff 84 = .ok (.iconst 0, 1) := by decide +kernel
theorem d10_settleCliff_85 : decode c10_settleCliff 85 = .ok (.iastore, 1) := by decide +kernel
theorem d10_settleCliff_86 : decode c10_settleCliff 86 = .ok (.bipush 12, 2) := by decide +kernel
theorem d10_settleCliff_88 : decode c10_settleCliff 88 = .ok (.iload_n 1, 1) := by decide +kernel
theorem d10_settleCliff_89 : decode c10_settleCliff 89 = .ok (.imul, 1) := by decide +kernel
theorem d10_settleCliff_90 : decode c10_settleCliff 90 = .ok (.istore_n 2, 1) := by decide +kernel
theorem d10_settleCliff_91 : decode c10_settleCliff 91 = .ok (.iload_n 2, 1) := by decide +kernel
theorem d10_settleCliff_92 : decode c10_settleCliff 92 = .ok (.bipush 12, 2) := by decide +kernel
theorem d10_settleCliff_94 : decode c10_settleCliff 94 = .ok (.iload_n 1, 1) := by decide +kernel
theorem d10_settleCliff_95 : decode c10_settleCliff 95 = .ok (.imul, 1) := by decide +kernel
theorem d10_settleCliff_96 : decode c10_settleCliff 96 = .ok (.aload_n 0, 1) := by decide +kernel
theorem d10_settleCliff_97 : decode c10_settleCliff 97 = .ok (.getfield 29, 3) := by decide +kernel
theorem d10_settleCliff_100 : decode c10_settleCliff 100 = .ok (.iload_n 1, 1) := by decide +kernel
theorem d10_settleCliff_101 : decode c10_settleCliff 101 = .ok (.iaload, 1) := by decide +kernel
theorem d10_settleCliff_102 : decode c10_settleCliff 102 = .ok (.iadd, 1) := by decide +kernel
theorem d10_settleCliff_103 : decode c10_settleCliff 103 = .ok (.if_icmp .ge 140, 3) := by decide +kernel
theorem d10_settleCliff_106 : decode c10_settleCliff 106 = .ok (.aload_n 0, 1) := by decide +kernel
theorem d10_settleCliff_107 : decode c10_settleCliff 107 = .ok (.getfield 32, 3) := by decide +kernel
theorem d10_settleCliff_110 : decode c10_settleCliff 110 = .ok (.iload_n 2, 1) := by decide +kernel
theorem d10_settleCliff_111 : decode c10_settleCliff 111 = .ok (.iaload, 1) := by decide +kernel
theorem d10_settleCliff_112 : decode c10_settleCliff 112 = .ok (.istore_n 3, 1) := by decide +kernel
theorem d10_settleCliff_113 : decode c10_settleCliff 113 = .ok (.iload_n 3, 1) := by decide +kernel
theorem d10_settleCliff_114 : decode c10_settleCliff 114 = .ok (.ifCond .ne 44, 3) := by decide +kernel
theorem d10_settleCliff_117 : decode c10_settleCliff 117 = .ok (.aload_n 0, 1) := by decide +kernel
theorem d10_settleCliff_118 : decode c10_settleCliff 118 = .ok (.getfield 47, 3) := by decide +kernel
theorem d10_settleCliff_121 : decode c10_settleCliff 121 = .ok (.iload_n 1, 1) := by decide +kernel
theorem d10_settleCliff_122 : decode c10_settleCliff 122 = .ok (.iaload, 1) := by decide +kernel
theorem d10_settleCliff_123 : decode c10_settleCliff 123 = .ok (.iconst 5, 1) := by decide +kernel
theorem d10_settleCliff_124 : decode c10_settleCliff 124 = .ok (.if_icmp .ge 34, 3) := by decide +kernel
theorem d10_settleCliff_127 : decode c10_settleCliff 127 = .ok (.aload_n 0, 1) := by decide +kernel
theorem d10_settleCliff_128 : decode c10_settleCliff 128 = .ok (.getfield 50, 3) := by decide +kernel
theorem d10_settleCliff_131 : decode c10_settleCliff 131 = .ok (.iconst 5, 1) := by decide +kernel
theorem d10_settleCliff_132 : decode c10_settleCliff 132 = .ok (.iload_n 1, 1) := by decide +kernel
theorem d10_settleCliff_133 : decode c10_settleCliff 133 = .ok (.imul, 1) := by decide +kernel
theorem d10_settleCliff_134 : decode c10_settleCliff 134 = .ok (.aload_n 0, 1) := by decide +kernel
theorem d10_settleCliff_135 : decode c10_settleCliff 135 = .ok (.getfield 47, 3) := by decide +kernel
theorem d10_settleCliff_138 : decode c10_settleCliff 138 = .ok (.iload_n 1, 1) := by decide +kernel
theorem d10_settleCliff_139 : decode c10_settleCliff 139 = .ok (.iaload, 1) := by decide +kernel
theorem d10_settleCliff_140 : decode c10_settleCliff 140 = .ok (.iadd, 1) := by decide +kernel
theorem d10_settleCliff_141 : decode c10_settleCliff 141 = .ok (.aload_n 0, 1) := by decide +kernel
theorem d10_settleCliff_142 : decode c10_settleCliff 142 = .ok (.getfield 35, 3) := by decide +kernel
theorem d10_settleCliff_145 : decode c10_settleCliff 145 = .ok (.iload_n 2, 1) := by decide +kernel
theorem d10_settleCliff_146 : decode c10_settleCliff 146 = .ok (.iaload, 1) := by decide +kernel
theorem d10_settleCliff_147 : decode c10_settleCliff 147 = .ok (.iastore, 1) := by decide +kernel
theorem d10_settleCliff_148 : decode c10_settleCliff 148 = .ok (.aload_n 0, 1) := by decide +kernel
theorem d10_settleCliff_149 : decode c10_settleCliff 149 = .ok (.getfield 47, 3) := by decide +kernel
theorem d10_settleCliff_152 : decode c10_settleCliff 152 = .ok (.iload_n 1, 1) := by decide +kernel
theorem d10_settleCliff_153 : decode c10_settleCliff 153 = .ok (.dup2, 1) := by decide +kernel
theorem d10_settleCliff_154 : decode c10_settleCliff 154 = .ok (.iaload, 1) := by decide +kernel
theorem d10_settleCliff_155 : decode c10_settleCliff 155 = .ok (.iconst 1, 1) := by decide +kernel
theorem d10_settleCliff_156 : decode c10_settleCliff 156 = .ok (.iadd, 1) := by decide +kernel
theorem d10_settleCliff_157 : decode c10_settleCliff 157 = .ok (.iastore, 1) := by decide +kernel
theorem d10_settleCliff_158 : decode c10_settleCliff 158 = .ok (.aload_n 0, 1) := by decide +kernel
theorem d10_settleCliff_159 : decode c10_settleCliff 159 = .ok (.getfield 44, 3) := by decide +kernel
theorem d10_settleCliff_162 : decode c10_settleCliff 162 = .ok (.bipush 9, 2) := by decide +kernel
theorem d10_settleCliff_164 : decode c10_settleCliff 164 = .ok (.iload_n 1, 1) := by decide +kernel
theorem d10_settleCliff_165 : decode c10_settleCliff 165 = .ok (.imul, 1) := by decide +kernel
theorem d10_settleCliff_166 : decode c10_settleCliff 166 = .ok (.iload_n 3, 1) := by decide +kernel
theorem d10_settleCliff_167 : decode c10_settleCliff 167 = .ok (.iadd, 1) := by decide +kernel
theorem d10_settleCliff_168 : decode c10_settleCliff 168 = .ok (.iload_n 3, 1) := by decide +kernel
theorem d10_settleCliff_169 : decode c10_settleCliff 169 = .ok (.iconst 5, 1) := by decide +kernel
theorem d10_settleCliff_170 : decode c10_settleCliff 170 = .ok (.if_icmp .ne 18, 3) := by decide +kernel
theorem d10_settleCliff_173 : decode c10_settleCliff 173 = .ok (.aload_n 0, 1) := by decide +kernel
theorem d10_settleCliff_174 : decode c10_settleCliff 174 = .ok (.bipush 60, 2) := by decide +kernel
theorem d10_settleCliff_176 : decode c10_settleCliff 176 = .ok (.aload_n 0, 1) := by decide +kernel
theorem d10_settleCliff_177 : decode c10_settleCliff 177 = .ok (.getfield 35, 3) := by decide +kernel
theorem d10_settleCliff_180 : decode c10_settleCliff 180 = .ok (.iload_n 2, 1) := by decide +kernel
theorem d10_settleCliff_181 : decode c10_settleCliff 181 = .ok (.iaload, 1) := by decide +kernel
theorem d10_settleCliff_182 : decode c10_settleCliff 182 = .ok (.invokevirtual 276, 3) := by decide +kernel
theorem d10_settleCliff_185 : decode c10_settleCliff 185 = .ok (.goto 51, 3) := by decide +kernel
theorem d10_settleCliff_188 : decode c10_settleCliff 188 = .ok (.iload_n 3, 1) := by decide +kernel
theorem d10_settleCliff_189 : decode c10_settleCliff 189 = .ok (.bipush 6, 2) := by decide +kernel
theorem d10_settleCliff_191 : decode c10_settleCliff 191 = .ok (.if_icmp .ne 18, 3) := by decide +kernel
theorem d10_settleCliff_194 : decode c10_settleCliff 194 = .ok (.aload_n 0, 1) := by decide +kernel
theorem d10_settleCliff_195 : decode c10_settleCliff 195 = .ok (.bipush 6, 2) := by decide +kernel
theorem d10_settleCliff_197 : decode c10_settleCliff 197 = .ok (.aload_n 0, 1) := by decide +kernel
theorem d10_settleCliff_198 : decode c10_settleCliff 198 = .ok (.getfield 35, 3) := by decide +kernel
theorem d10_settleCliff_201 : decode c10_settleCliff 201 = .ok (.iload_n 2, 1) := by decide +kernel
theorem d10_settleCliff_202 : decode c10_settleCliff 202 = .ok (.iaload, 1) := by decide +kernel
theorem d10_settleCliff_203 : decode c10_settleCliff 203 = .ok (.invokevirtual 276, 3) := by decide +kernel
theorem d10_settleCliff_206 : decode c10_settleCliff 206 = .ok (.goto 30, 3) := by decide +kernel
theorem d10_settleCliff_209 : decode c10_settleCliff 209 = .ok (.iload_n 3, 1) := by decide +kernel
theorem d10_settleCliff_210 : decode c10_settleCliff 210 = .ok (.bipush 8, 2) := by decide +kernel
theorem d10_settleCliff_212 : decode c10_settleCliff 212 = .ok (.if_icmp .ne 18, 3) := by decide +kernel
theorem d10_settleCliff_215 : decode c10_settleCliff 215 = .ok (.aload_n 0, 1) := by decide +kernel
theorem d10_settleCliff_216 : decode c10_settleCliff 216 = .ok (.bipush 40, 2) := by decide +kernel
theorem d10_settleCliff_218 : decode c10_settleCliff 218 = .ok (.aload_n 0, 1) := by decide +kernel
theorem d10_settleCliff_219 : decode c10_settleCliff 219 = .ok (.getfield 35, 3) := by decide +kernel
theorem d10_settleCliff_222 : decode c10_settleCliff 222 = .ok (.iload_n 2, 1) := by decide +kernel
theorem d10_settleCliff_223 : decode c10_settleCliff 223 = .ok (.iaload, 1) := by decide +kernel
theorem d10_settleCliff_224 : decode c10_settleCliff 224 = .ok (.invokevirtual 276, 3) := by decide +kernel
theorem d10_settleCliff_227 : decode c10_settleCliff 227 = .ok (.goto 9, 3) := by decide +kernel
theorem d10_settleCliff_230 : decode c10_settleCliff 230 = .ok (.aload_n 0, 1) := by decide +kernel
theorem d10_settleCliff_231 : decode c10_settleCliff 231 = .ok (.getfield 35, 3) := by decide +kernel
theorem d10_settleCliff_234 : decode c10_settleCliff 234 = .ok (.iload_n 2, 1) := by decide +kernel
theorem d10_settleCliff_235 : decode c10_settleCliff 235 = .ok (.iaload, 1) := by decide +kernel
theorem d10_settleCliff_236 : decode c10_settleCliff 236 = .ok (.iastore, 1) := by decide +kernel
theorem d10_settleCliff_237 : decode c10_settleCliff 237 = .ok (.iinc 2 1, 3) := by decide +kernel
theorem d10_settleCliff_240 : decode c10_settleCliff 240 = .ok (.goto (-149), 3) := by decide +kernel
theorem d10_settleCliff_243 : decode c10_settleCliff 243 = .ok (.aload_n 0, 1) := by decide +kernel
theorem d10_settleCliff_244 : decode c10_settleCliff 244 = .ok (.getfield 47, 3) := by decide +kernel
theorem d10_settleCliff_247 : decode c10_settleCliff 247 = .ok (.iload_n 1, 1) := by decide +kernel
theorem d10_settleCliff_248 : decode c10_settleCliff 248 = .ok (.iaload, 1) := by decide +kernel
theorem d10_settleCliff_249 : decode c10_settleCliff 249 = .ok (.ifCond .le 4, 3) := by decide +kernel
theorem d10_settleCliff_252 : decode c10_settleCliff 252 = .ok (.return_, 1) := by decide +kernel
theorem d10_settleCliff_253 : decode c10_settleCliff 253 = .ok (.aload_n 0, 1) := by decide +kernel
theorem d10_settleCliff_254 : decode c10_settleCliff 254 = .ok (.getfield 50, 3) := by decide +kernel
theorem d10_settleCliff_257 : decode c10_settleCliff 257 = .ok (.iconst 5, 1) := by decide +kernel
theorem d10_settleCliff_258 : decode c10_settleCliff 258 = .ok (.iload_n 1, 1) := by decide +kernel
theorem d10_settleCliff_259 : decode c10_settleCliff 259 = .ok (.imul, 1) := by decide +kernel
theorem d10_settleCliff_260 : decode c10_settleCliff 260 = .ok (.iconst 5, 1) := by decide +kernel
theorem d10_settleCliff_261 : decode c10_settleCliff 261 = .ok (.iastore, 1) := by decide +kernel
theorem d10_settleCliff_262 : decode c10_settleCliff 262 = .ok (.aload_n 0, 1) := by decide +kernel
theorem d10_settleCliff_263 : decode c10_settleCliff 263 = .ok (.getfield 47, 3) := by decide +kernel
theorem d10_settleCliff_266 : decode c10_settleCliff 266 = .ok (.iload_n 1, 1) := by decide +kernel
theorem d10_settleCliff_267 : decode c10_settleCliff 267 = .ok (.iconst 1, 1) := by decide +kernel
theorem d10_settleCliff_268 : decode c10_settleCliff 268 = .ok (.iastore, 1) := by decide +kernel
theorem d10_settleCliff_269 : decode c10_settleCliff 269 = .ok (.return_, 1) := by decide +kernel
theorem mw10_settleCliff : MV y10_settleCliff c10_settleCliff 4 none 1 := ⟨cd10_settleCliff, ini10, na10_settleCliff, im10_settleCliff, se10_settleCliff⟩
set_option maxHeartbeats 4000000 in
set_option maxRecDepth 100000 in
theorem k10_settleCliff (l : Launch) (E : En) (mo : Nat) (ad : Nat → Nat) (S : Nat → Int) (wd : Int → Int) (nu : Int → Int) (cl : Int → Int) (la : Int → Int) (po : Int → Int) (pt : Int → Int) (f : Int) (hf : 0 ≤ f ∧ f ≤ 3) (hcl : 1 ≤ cl f ∧ cl f ≤ 12) (hwn : ∀ c, 12 * f ≤ c → c < 12 * f + cl f → (0 ≤ wd c ∧ wd c ≤ 8) ∧ (0 ≤ nu c ∧ nu c ≤ 999)) (hpz : ∀ j, 0 ≤ j → j < 5 → pt (5 * f + j) = 0) : Cm l E y10_settleCliff c10_settleCliff 4 none { frames := 1, cells := 0, slots := 0, locals := 22 } [.ref mo, .int (iZ f)] [(mo, mO ad S), (ad 7, aInt E 48 wd), (ad 8, aInt E 48 nu), (ad 6, aInt E 4 cl), (ad 11, aInt E 36 la), (ad 12, aInt E 4 po), (ad 13, aInt E 20 pt)] (fun r ws => ∃ (la1 : Int → Int), ∃ (po1 : Int → Int), ∃ (pt1 : Int → Int), r = none ∧ ws = [(mo, mO ad S), (ad 7, aInt E 48 wd), (ad 8, aInt E 48 nu), (ad 6, aInt E 4 cl), (ad 11, aInt E 36 la1), (ad 12, aInt E 4 po1), (ad 13, aInt E 20 pt1)] ∧ (RelC la1 po1 pt1 f (cvE (cvF (fun i : Nat => wd (12 * f + i)) (fun i : Nat => nu (12 * f + i)) (cl f).toNat)) ∧ ((Out (9 * f) (9 * f + 9) la la1) ∧ (Only f po po1) ∧ (Out (5 * f) (5 * f + 5) pt pt1)))) := by
  refine Cm.of (by decide +kernel) (Nat.le_of_ble_eq_true rfl) (fun Γ A hl hargs hin G F => ?_)
  subst hl
  refine j_aload_n G 0 rfl d10_settleCliff_0 ?_
  refine j_get G 0 10 11 in10 fl10_44 d10_settleCliff_1 rfl rfl (by decide) (v := .ref (ad 11)) rfl rfl ?_
  refine j_bipush G d10_settleCliff_4 rfl ?_
  refine j_iload_n G 1 rfl d10_settleCliff_6 ?_
  refine j_imul G d10_settleCliff_7 ?_
  refine j_iconst G d10_settleCliff_8 ?_
  refine j_iadd G d10_settleCliff_9 ?_
  refine j_iconst G d10_settleCliff_10 ?_
  refine j_iast G 4 rfl (by omega) d10_settleCliff_11 ?_
  refine j_aload_n G 0 rfl d10_settleCliff_12 ?_
  refine j_get G 0 10 11 in10 fl10_44 d10_settleCliff_13 rfl rfl (by decide) (v := .ref (ad 11)) rfl rfl ?_
  refine j_bipush G d10_settleCliff_16 rfl ?_
  refine j_iload_n G 1 rfl d10_settleCliff_18 ?_
  refine j_imul G d10_settleCliff_19 ?_
  refine j_iconst G d10_settleCliff_20 ?_
  refine j_iadd G d10_settleCliff_21 ?_
  refine j_bipush G d10_settleCliff_22 rfl ?_
  refine j_iast G 4 rfl (by omega) d10_settleCliff_24 ?_
  refine j_aload_n G 0 rfl d10_settleCliff_25 ?_
  refine j_get G 0 10 11 in10 fl10_44 d10_settleCliff_26 rfl rfl (by decide) (v := .ref (ad 11)) rfl rfl ?_
  refine j_bipush G d10_settleCliff_29 rfl ?_
  refine j_iload_n G 1 rfl d10_settleCliff_31 ?_
  refine j_imul G d10_settleCliff_32 ?_
  refine j_iconst G d10_settleCliff_33 ?_
  refine j_iadd G d10_settleCliff_34 ?_
  refine j_sipush G d10_settleCliff_35 rfl ?_
  refine j_iast G 4 rfl (by omega) d10_settleCliff_38 ?_
  refine j_aload_n G 0 rfl d10_settleCliff_39 ?_
  refine j_get G 0 10 11 in10 fl10_44 d10_settleCliff_40 rfl rfl (by decide) (v := .ref (ad 11)) rfl rfl ?_
  refine j_bipush G d10_settleCliff_43 rfl ?_
  refine j_iload_n G 1 rfl d10_settleCliff_45 ?_
  refine j_imul G d10_settleCliff_46 ?_
  refine j_iconst G d10_settleCliff_47 ?_
  refine j_iadd G d10_settleCliff_48 ?_
  refine j_bipush G d10_settleCliff_49 rfl ?_
  refine j_iast G 4 rfl (by omega) d10_settleCliff_51 ?_
  refine j_aload_n G 0 rfl d10_settleCliff_52 ?_
  refine j_get G 0 10 11 in10 fl10_44 d10_settleCliff_53 rfl rfl (by decide) (v := .ref (ad 11)) rfl rfl ?_
  refine j_bipush G d10_settleCliff_56 rfl ?_
  refine j_iload_n G 1 rfl d10_settleCliff_58 ?_
  refine j_imul G d10_settleCliff_59 ?_
  refine j_bipush G d10_settleCliff_60 rfl ?_
  refine j_iadd G d10_settleCliff_62 ?_
  refine j_iconst G d10_settleCliff_63 ?_
  refine j_iast G 4 rfl (by omega) d10_settleCliff_64 ?_
  refine j_aload_n G 0 rfl d10_settleCliff_65 ?_
  refine j_get G 0 10 11 in10 fl10_44 d10_settleCliff_66 rfl rfl (by decide) (v := .ref (ad 11)) rfl rfl ?_
  refine j_bipush G d10_settleCliff_69 rfl ?_
  refine j_iload_n G 1 rfl d10_settleCliff_71 ?_
  refine j_imul G d10_settleCliff_72 ?_
  refine j_bipush G d10_settleCliff_73 rfl ?_
  refine j_iadd G d10_settleCliff_75 ?_
  refine j_bipush G d10_settleCliff_76 rfl ?_
  refine j_iast G 4 rfl (by omega) d10_settleCliff_78 ?_
  refine j_aload_n G 0 rfl d10_settleCliff_79 ?_
  refine j_get G 0 10 12 in10 fl10_47 d10_settleCliff_80 rfl rfl (by decide) (v := .ref (ad 12)) rfl rfl ?_
  refine j_iload_n G 1 rfl d10_settleCliff_83 ?_
  refine j_iconst G d10_settleCliff_84 ?_
  refine j_iast G 5 rfl (by omega) d10_settleCliff_85 ?_
  refine j_bipush G d10_settleCliff_86 rfl ?_
  refine j_iload_n G 1 rfl d10_settleCliff_88 ?_
  refine j_imul G d10_settleCliff_89 ?_
  refine j_istore_n G d10_settleCliff_90 (by decide) rfl ?_
  have lp91 : ∀ (fu : Nat) (c : Int) (la2 : Int → Int) (po2 : Int → Int) (pt2 : Int → Int), (12 * f + cl f - c).toNat < fu → (12 * f ≤ c ∧ c ≤ 12 * f + cl f) → (RelC la2 po2 pt2 f (cvF (fun i : Nat => wd (12 * f + i)) (fun i : Nat => nu (12 * f + i)) (c - 12 * f).toNat)) → ((Out (9 * f) (9 * f + 9) la la2) ∧ (Only f po po2) ∧ (Out (5 * f) (5 * f + 5) pt pt2)) →  J E 4 Γ (some A) 0 0 [(mo, mO ad S), (ad 7, aInt E 48 wd), (ad 8, aInt E 48 nu), (ad 6, aInt E 4 cl), (ad 11, aInt E 36 la2), (ad 12, aInt E 4 po2), (ad 13, aInt E 20 pt2)] 91 [(2, .int (iZ c)), (0, .ref mo), (1, .int (iZ f))] [] := by
    intro fu
    induction fu with
    | zero =>
      intro c la2 po2 pt2 hm
      exact absurd hm (Nat.not_lt_zero _)
    | succ fu ih91 =>
      intro c la2 po2 pt2 hm hc hr ho
      refine j_iload_n G 0 rfl d10_settleCliff_91 ?_
      refine j_bipush G d10_settleCliff_92 rfl ?_
      refine j_iload_n G 2 rfl d10_settleCliff_94 ?_
      refine j_imul G d10_settleCliff_95 ?_
      refine j_aload_n G 1 rfl d10_settleCliff_96 ?_
      refine j_get G 0 10 6 in10 fl10_29 d10_settleCliff_97 rfl rfl (by decide) (v := .ref (ad 6)) rfl rfl ?_
      refine j_iload_n G 2 rfl d10_settleCliff_100 ?_
      refine j_iald G 3 rfl (by omega) d10_settleCliff_101 ?_
      refine j_iadd G d10_settleCliff_102 ?_
      refine j_icmp_ge (tgt := 243) G d10_settleCliff_103 (by decide) (by omega) (by omega) (fun h1 => ?_) (fun h1 => ?_)
      ·
        have hee : (c - 12 * f).toNat = (cl f).toNat := by omega
        rw [hee] at hr
        have hwx := wfX_cv (cw := (fun i : Nat => wd (12 * f + i))) (cn := (fun i : Nat => nu (12 * f + i))) (cl f).toNat (fun i hi => (hwn (12 * f + i) (by omega) (by omega)).2)
        have hpo := hr.1
        have hwx1 := wfX_1 hwx
        refine j_aload_n G 1 rfl d10_settleCliff_243 ?_
        refine j_get G 0 10 12 in10 fl10_47 d10_settleCliff_244 rfl rfl (by decide) (v := .ref (ad 12)) rfl rfl ?_
        refine j_iload_n G 2 rfl d10_settleCliff_247 ?_
        refine j_iald G 5 rfl (by omega) d10_settleCliff_248 ?_
        refine j_if_le (tgt := 253) G d10_settleCliff_249 (by decide) (by omega) (fun h2 => ?_) (fun h2 => ?_)
        ·
          refine j_aload_n G 1 rfl d10_settleCliff_253 ?_
          refine j_get G 0 10 13 in10 fl10_50 d10_settleCliff_254 rfl rfl (by decide) (v := .ref (ad 13)) rfl rfl ?_
          refine j_iconst G d10_settleCliff_257 ?_
          refine j_iload_n G 2 rfl d10_settleCliff_258 ?_
          refine j_imul G d10_settleCliff_259 ?_
          refine j_iconst G d10_settleCliff_260 ?_
          refine j_iast G 6 rfl (by omega) d10_settleCliff_261 ?_
          refine j_aload_n G 1 rfl d10_settleCliff_262 ?_
          refine j_get G 0 10 12 in10 fl10_47 d10_settleCliff_263 rfl rfl (by decide) (v := .ref (ad 12)) rfl rfl ?_
          refine j_iload_n G 2 rfl d10_settleCliff_266 ?_
          refine j_iconst G d10_settleCliff_267 ?_
          refine j_iast G 5 rfl (by omega) d10_settleCliff_268 ?_
          exact j_vret G F d10_settleCliff_269 ⟨la2, (upI po2 f 1), (upI pt2 (5 * f) 5), rfl, rfl, (by first | (refine ⟨?_, ho⟩; unfold cvE; rw [if_neg (by omega)]; exact hr) | (refine ⟨rel_e hr (by omega), ho.1, fun j h => (upI_ne h).trans (ho.2.1 j h), ho.2.2.up (by omega) (by omega)⟩))⟩
        ·
          exact j_vret G F d10_settleCliff_252 ⟨la2, po2, pt2, rfl, rfl, (by first | (refine ⟨?_, ho⟩; unfold cvE; rw [if_neg (by omega)]; exact hr) | (refine ⟨rel_e hr (by omega), ho.1, fun j h => (upI_ne h).trans (ho.2.1 j h), ho.2.2.up (by omega) (by omega)⟩))⟩
      ·
        have hwk := hwn c hc.1 (by omega)
        have hwx := wfX_cv (cw := (fun i : Nat => wd (12 * f + i))) (cn := (fun i : Nat => nu (12 * f + i))) (c - 12 * f).toNat (fun i hi => (hwn (12 * f + i) (by omega) (by omega)).2)
        have hce : 12 * f + ((c - 12 * f).toNat : Int) = c := by omega
        have hpo := hr.1
        have hwx1 := wfX_1 hwx
        refine j_aload_n G 1 rfl d10_settleCliff_106 ?_
        refine j_get G 0 10 7 in10 fl10_32 d10_settleCliff_107 rfl rfl (by decide) (v := .ref (ad 7)) rfl rfl ?_
        refine j_iload_n G 0 rfl d10_settleCliff_110 ?_
        refine j_iald G 1 rfl (by omega) d10_settleCliff_111 ?_
        refine j_istore_n G d10_settleCliff_112 (by decide) rfl ?_
        refine j_iload_n G 0 rfl d10_settleCliff_113 ?_
        refine j_if_ne (tgt := 158) G d10_settleCliff_114 (by decide) (by omega) (fun h3 => ?_) (fun h3 => ?_)
        ·
          refine j_aload_n G 2 rfl d10_settleCliff_158 ?_
          refine j_get G 0 10 11 in10 fl10_44 d10_settleCliff_159 rfl rfl (by decide) (v := .ref (ad 11)) rfl rfl ?_
          refine j_bipush G d10_settleCliff_162 rfl ?_
          refine j_iload_n G 3 rfl d10_settleCliff_164 ?_
          refine j_imul G d10_settleCliff_165 ?_
          refine j_iload_n G 0 rfl d10_settleCliff_166 ?_
          refine j_iadd G d10_settleCliff_167 ?_
          refine j_iload_n G 0 rfl d10_settleCliff_168 ?_
          refine j_iconst G d10_settleCliff_169 ?_
          refine j_icmp_ne (tgt := 188) G d10_settleCliff_170 (by decide) (by omega) (by decide) (fun h4 => ?_) (fun h4 => ?_)
          ·
            refine j_iload_n G 0 rfl d10_settleCliff_188 ?_
            refine j_bipush G d10_settleCliff_189 rfl ?_
            refine j_icmp_ne (tgt := 209) G d10_settleCliff_191 (by decide) (by omega) (by decide) (fun h5 => ?_) (fun h5 => ?_)
            ·
              refine j_iload_n G 0 rfl d10_settleCliff_209 ?_
              refine j_bipush G d10_settleCliff_210 rfl ?_
              refine j_icmp_ne (tgt := 230) G d10_settleCliff_212 (by decide) (by omega) (by decide) (fun h6 => ?_) (fun h6 => ?_)
              ·
                refine j_aload_n G 2 rfl d10_settleCliff_230 ?_
                refine j_get G 0 10 8 in10 fl10_35 d10_settleCliff_231 rfl rfl (by decide) (v := .ref (ad 8)) rfl rfl ?_
                refine j_iload_n G 1 rfl d10_settleCliff_234 ?_
                refine j_iald G 2 rfl (by omega) d10_settleCliff_235 ?_
                refine j_iast G 4 rfl (by omega) d10_settleCliff_236 ?_
                refine j_iinc G d10_settleCliff_237 1 rfl (by decide) rfl ?_
                refine j_goto (tgt := 91) G d10_settleCliff_240 (by decide) ?_
                refine j_locs (ls' := [(2, .int (iZ (c + 1))), (0, .ref mo), (1, .int (iZ f))]) [0, 2, 3] rfl ?_
                exact ih91 (c + 1) (upI la2 ((9 * f) + (wd c)) (nu c)) po2 pt2 (by omega) (by first | assumption | omega) (by rw [show (c + 1 - 12 * f).toNat = (c - 12 * f).toNat + 1 by omega]; show RelC _ _ _ f (tkF (wd (12 * f + ((c - 12 * f).toNat : Int))) (nu (12 * f + ((c - 12 * f).toNat : Int))) (cvF (fun i : Nat => wd (12 * f + i)) (fun i : Nat => nu (12 * f + i)) (c - 12 * f).toNat)); rw [hce]; exact rel_step hr hwk.1 hwx.1.1 (by unfold valF; (repeat' split) <;> omega) (by first | exact Or.inl ⟨by omega, by omega, rfl, rfl⟩ | exact Or.inr ⟨by omega, rfl, rfl⟩)) ⟨ho.1.up (by omega) (by omega), (by first | exact ho.2.1 | exact fun j h => (upI_ne h).trans (ho.2.1 j h)), (by first | exact ho.2.2 | exact ho.2.2.up (by omega) (by omega))⟩
              ·
                refine j_aload_n G 2 rfl d10_settleCliff_215 ?_
                refine j_bipush G d10_settleCliff_216 rfl ?_
                refine j_aload_n G 2 rfl d10_settleCliff_218 ?_
                refine j_get G 0 10 8 in10 fl10_35 d10_settleCliff_219 rfl rfl (by decide) (v := .ref (ad 8)) rfl rfl ?_
                refine j_iload_n G 1 rfl d10_settleCliff_222 ?_
                refine j_iald G 2 rfl (by omega) d10_settleCliff_223 ?_
                refine j_VP G (k10_min (xl Γ) E mo 40 (nu c) (by first | assumption | omega | (simp only [upS, reduceIte, Nat.reduceEqDiff, eq_self, List.length_cons, List.length_nil, List.length_append] <;> omega)) (by first | assumption | omega | (simp only [upS, reduceIte, Nat.reduceEqDiff, eq_self, List.length_cons, List.length_nil, List.length_append] <;> omega))) mw10_min ml10_276 [] rfl 0 10 rfl rfl rfl ⟨Nat.le_of_ble_eq_true rfl, Nat.le_of_ble_eq_true rfl⟩ rfl (rest := [.int (iZ ((9 * f) + (wd c))), .ref (ad 11)]) rfl (Nat.le_of_ble_eq_true rfl) d10_settleCliff_224 ⟨Nat.le_of_ble_eq_true rfl, Nat.le_of_ble_eq_true rfl⟩ (fun r hr => ?_)
                obtain ⟨_, rfl, rfl⟩ := hr
                refine j_goto (tgt := 236) G d10_settleCliff_227 (by decide) ?_
                refine j_iast G 4 rfl (by omega) d10_settleCliff_236 ?_
                refine j_iinc G d10_settleCliff_237 1 rfl (by decide) rfl ?_
                refine j_goto (tgt := 91) G d10_settleCliff_240 (by decide) ?_
                refine j_locs (ls' := [(2, .int (iZ (c + 1))), (0, .ref mo), (1, .int (iZ f))]) [0, 2, 3] rfl ?_
                exact ih91 (c + 1) (upI la2 ((9 * f) + (wd c)) (min 40 (nu c))) po2 pt2 (by omega) (by first | assumption | omega) (by rw [show (c + 1 - 12 * f).toNat = (c - 12 * f).toNat + 1 by omega]; show RelC _ _ _ f (tkF (wd (12 * f + ((c - 12 * f).toNat : Int))) (nu (12 * f + ((c - 12 * f).toNat : Int))) (cvF (fun i : Nat => wd (12 * f + i)) (fun i : Nat => nu (12 * f + i)) (c - 12 * f).toNat)); rw [hce]; exact rel_step hr hwk.1 hwx.1.1 (by unfold valF; (repeat' split) <;> omega) (by first | exact Or.inl ⟨by omega, by omega, rfl, rfl⟩ | exact Or.inr ⟨by omega, rfl, rfl⟩)) ⟨ho.1.up (by omega) (by omega), (by first | exact ho.2.1 | exact fun j h => (upI_ne h).trans (ho.2.1 j h)), (by first | exact ho.2.2 | exact ho.2.2.up (by omega) (by omega))⟩
            ·
              refine j_aload_n G 2 rfl d10_settleCliff_194 ?_
              refine j_bipush G d10_settleCliff_195 rfl ?_
              refine j_aload_n G 2 rfl d10_settleCliff_197 ?_
              refine j_get G 0 10 8 in10 fl10_35 d10_settleCliff_198 rfl rfl (by decide) (v := .ref (ad 8)) rfl rfl ?_
              refine j_iload_n G 1 rfl d10_settleCliff_201 ?_
              refine j_iald G 2 rfl (by omega) d10_settleCliff_202 ?_
              refine j_VP G (k10_min (xl Γ) E mo 6 (nu c) (by first | assumption | omega | (simp only [upS, reduceIte, Nat.reduceEqDiff, eq_self, List.length_cons, List.length_nil, List.length_append] <;> omega)) (by first | assumption | omega | (simp only [upS, reduceIte, Nat.reduceEqDiff, eq_self, List.length_cons, List.length_nil, List.length_append] <;> omega))) mw10_min ml10_276 [] rfl 0 10 rfl rfl rfl ⟨Nat.le_of_ble_eq_true rfl, Nat.le_of_ble_eq_true rfl⟩ rfl (rest := [.int (iZ ((9 * f) + (wd c))), .ref (ad 11)]) rfl (Nat.le_of_ble_eq_true rfl) d10_settleCliff_203 ⟨Nat.le_of_ble_eq_true rfl, Nat.le_of_ble_eq_true rfl⟩ (fun r hr => ?_)
              obtain ⟨_, rfl, rfl⟩ := hr
              refine j_goto (tgt := 236) G d10_settleCliff_206 (by decide) ?_
              refine j_iast G 4 rfl (by omega) d10_settleCliff_236 ?_
              refine j_iinc G d10_settleCliff_237 1 rfl (by decide) rfl ?_
              refine j_goto (tgt := 91) G d10_settleCliff_240 (by decide) ?_
              refine j_locs (ls' := [(2, .int (iZ (c + 1))), (0, .ref mo), (1, .int (iZ f))]) [0, 2, 3] rfl ?_
              exact ih91 (c + 1) (upI la2 ((9 * f) + (wd c)) (min 6 (nu c))) po2 pt2 (by omega) (by first | assumption | omega) (by rw [show (c + 1 - 12 * f).toNat = (c - 12 * f).toNat + 1 by omega]; show RelC _ _ _ f (tkF (wd (12 * f + ((c - 12 * f).toNat : Int))) (nu (12 * f + ((c - 12 * f).toNat : Int))) (cvF (fun i : Nat => wd (12 * f + i)) (fun i : Nat => nu (12 * f + i)) (c - 12 * f).toNat)); rw [hce]; exact rel_step hr hwk.1 hwx.1.1 (by unfold valF; (repeat' split) <;> omega) (by first | exact Or.inl ⟨by omega, by omega, rfl, rfl⟩ | exact Or.inr ⟨by omega, rfl, rfl⟩)) ⟨ho.1.up (by omega) (by omega), (by first | exact ho.2.1 | exact fun j h => (upI_ne h).trans (ho.2.1 j h)), (by first | exact ho.2.2 | exact ho.2.2.up (by omega) (by omega))⟩
          ·
            refine j_aload_n G 2 rfl d10_settleCliff_173 ?_
            refine j_bipush G d10_settleCliff_174 rfl ?_
            refine j_aload_n G 2 rfl d10_settleCliff_176 ?_
            refine j_get G 0 10 8 in10 fl10_35 d10_settleCliff_177 rfl rfl (by decide) (v := .ref (ad 8)) rfl rfl ?_
            refine j_iload_n G 1 rfl d10_settleCliff_180 ?_
            refine j_iald G 2 rfl (by omega) d10_settleCliff_181 ?_
            refine j_VP G (k10_min (xl Γ) E mo 60 (nu c) (by first | assumption | omega | (simp only [upS, reduceIte, Nat.reduceEqDiff, eq_self, List.length_cons, List.length_nil, List.length_append] <;> omega)) (by first | assumption | omega | (simp only [upS, reduceIte, Nat.reduceEqDiff, eq_self, List.length_cons, List.length_nil, List.length_append] <;> omega))) mw10_min ml10_276 [] rfl 0 10 rfl rfl rfl ⟨Nat.le_of_ble_eq_true rfl, Nat.le_of_ble_eq_true rfl⟩ rfl (rest := [.int (iZ ((9 * f) + (wd c))), .ref (ad 11)]) rfl (Nat.le_of_ble_eq_true rfl) d10_settleCliff_182 ⟨Nat.le_of_ble_eq_true rfl, Nat.le_of_ble_eq_true rfl⟩ (fun r hr => ?_)
            obtain ⟨_, rfl, rfl⟩ := hr
            refine j_goto (tgt := 236) G d10_settleCliff_185 (by decide) ?_
            refine j_iast G 4 rfl (by omega) d10_settleCliff_236 ?_
            refine j_iinc G d10_settleCliff_237 1 rfl (by decide) rfl ?_
            refine j_goto (tgt := 91) G d10_settleCliff_240 (by decide) ?_
            refine j_locs (ls' := [(2, .int (iZ (c + 1))), (0, .ref mo), (1, .int (iZ f))]) [0, 2, 3] rfl ?_
            exact ih91 (c + 1) (upI la2 ((9 * f) + (wd c)) (min 60 (nu c))) po2 pt2 (by omega) (by first | assumption | omega) (by rw [show (c + 1 - 12 * f).toNat = (c - 12 * f).toNat + 1 by omega]; show RelC _ _ _ f (tkF (wd (12 * f + ((c - 12 * f).toNat : Int))) (nu (12 * f + ((c - 12 * f).toNat : Int))) (cvF (fun i : Nat => wd (12 * f + i)) (fun i : Nat => nu (12 * f + i)) (c - 12 * f).toNat)); rw [hce]; exact rel_step hr hwk.1 hwx.1.1 (by unfold valF; (repeat' split) <;> omega) (by first | exact Or.inl ⟨by omega, by omega, rfl, rfl⟩ | exact Or.inr ⟨by omega, rfl, rfl⟩)) ⟨ho.1.up (by omega) (by omega), (by first | exact ho.2.1 | exact fun j h => (upI_ne h).trans (ho.2.1 j h)), (by first | exact ho.2.2 | exact ho.2.2.up (by omega) (by omega))⟩
        ·
          refine j_aload_n G 2 rfl d10_settleCliff_117 ?_
          refine j_get G 0 10 12 in10 fl10_47 d10_settleCliff_118 rfl rfl (by decide) (v := .ref (ad 12)) rfl rfl ?_
          refine j_iload_n G 3 rfl d10_settleCliff_121 ?_
          refine j_iald G 5 rfl (by omega) d10_settleCliff_122 ?_
          refine j_iconst G d10_settleCliff_123 ?_
          refine j_icmp_ge (tgt := 158) G d10_settleCliff_124 (by decide) (by omega) (by decide) (fun h10 => ?_) (fun h10 => ?_)
          ·
            refine j_aload_n G 2 rfl d10_settleCliff_158 ?_
            refine j_get G 0 10 11 in10 fl10_44 d10_settleCliff_159 rfl rfl (by decide) (v := .ref (ad 11)) rfl rfl ?_
            refine j_bipush G d10_settleCliff_162 rfl ?_
            refine j_iload_n G 3 rfl d10_settleCliff_164 ?_
            refine j_imul G d10_settleCliff_165 ?_
            refine j_iload_n G 0 rfl d10_settleCliff_166 ?_
            refine j_iadd G d10_settleCliff_167 ?_
            refine j_iload_n G 0 rfl d10_settleCliff_168 ?_
            refine j_iconst G d10_settleCliff_169 ?_
            refine j_icmp_ne (tgt := 188) G d10_settleCliff_170 (by decide) (by omega) (by decide) (fun h11 => ?_) (fun h11 => ?_)
            ·
              refine j_iload_n G 0 rfl d10_settleCliff_188 ?_
              refine j_bipush G d10_settleCliff_189 rfl ?_
              refine j_icmp_ne (tgt := 209) G d10_settleCliff_191 (by decide) (by omega) (by decide) (fun h12 => ?_) (fun h12 => ?_)
              ·
                refine j_iload_n G 0 rfl d10_settleCliff_209 ?_
                refine j_bipush G d10_settleCliff_210 rfl ?_
                refine j_icmp_ne (tgt := 230) G d10_settleCliff_212 (by decide) (by omega) (by decide) (fun h13 => ?_) (fun h13 => ?_)
                ·
                  refine j_aload_n G 2 rfl d10_settleCliff_230 ?_
                  refine j_get G 0 10 8 in10 fl10_35 d10_settleCliff_231 rfl rfl (by decide) (v := .ref (ad 8)) rfl rfl ?_
                  refine j_iload_n G 1 rfl d10_settleCliff_234 ?_
                  refine j_iald G 2 rfl (by omega) d10_settleCliff_235 ?_
                  refine j_iast G 4 rfl (by omega) d10_settleCliff_236 ?_
                  refine j_iinc G d10_settleCliff_237 1 rfl (by decide) rfl ?_
                  refine j_goto (tgt := 91) G d10_settleCliff_240 (by decide) ?_
                  refine j_locs (ls' := [(2, .int (iZ (c + 1))), (0, .ref mo), (1, .int (iZ f))]) [0, 2, 3] rfl ?_
                  exact ih91 (c + 1) (upI la2 ((9 * f) + (wd c)) (nu c)) po2 pt2 (by omega) (by first | assumption | omega) (by rw [show (c + 1 - 12 * f).toNat = (c - 12 * f).toNat + 1 by omega]; show RelC _ _ _ f (tkF (wd (12 * f + ((c - 12 * f).toNat : Int))) (nu (12 * f + ((c - 12 * f).toNat : Int))) (cvF (fun i : Nat => wd (12 * f + i)) (fun i : Nat => nu (12 * f + i)) (c - 12 * f).toNat)); rw [hce]; exact rel_step hr hwk.1 hwx.1.1 (by unfold valF; (repeat' split) <;> omega) (by first | exact Or.inl ⟨by omega, by omega, rfl, rfl⟩ | exact Or.inr ⟨by omega, rfl, rfl⟩)) ⟨ho.1.up (by omega) (by omega), (by first | exact ho.2.1 | exact fun j h => (upI_ne h).trans (ho.2.1 j h)), (by first | exact ho.2.2 | exact ho.2.2.up (by omega) (by omega))⟩
                ·
                  refine j_aload_n G 2 rfl d10_settleCliff_215 ?_
                  refine j_bipush G d10_settleCliff_216 rfl ?_
                  refine j_aload_n G 2 rfl d10_settleCliff_218 ?_
                  refine j_get G 0 10 8 in10 fl10_35 d10_settleCliff_219 rfl rfl (by decide) (v := .ref (ad 8)) rfl rfl ?_
                  refine j_iload_n G 1 rfl d10_settleCliff_222 ?_
                  refine j_iald G 2 rfl (by omega) d10_settleCliff_223 ?_
                  refine j_VP G (k10_min (xl Γ) E mo 40 (nu c) (by first | assumption | omega | (simp only [upS, reduceIte, Nat.reduceEqDiff, eq_self, List.length_cons, List.length_nil, List.length_append] <;> omega)) (by first | assumption | omega | (simp only [upS, reduceIte, Nat.reduceEqDiff, eq_self, List.length_cons, List.length_nil, List.length_append] <;> omega))) mw10_min ml10_276 [] rfl 0 10 rfl rfl rfl ⟨Nat.le_of_ble_eq_true rfl, Nat.le_of_ble_eq_true rfl⟩ rfl (rest := [.int (iZ ((9 * f) + (wd c))), .ref (ad 11)]) rfl (Nat.le_of_ble_eq_true rfl) d10_settleCliff_224 ⟨Nat.le_of_ble_eq_true rfl, Nat.le_of_ble_eq_true rfl⟩ (fun r hr => ?_)
                  obtain ⟨_, rfl, rfl⟩ := hr
                  refine j_goto (tgt := 236) G d10_settleCliff_227 (by decide) ?_
                  refine j_iast G 4 rfl (by omega) d10_settleCliff_236 ?_
                  refine j_iinc G d10_settleCliff_237 1 rfl (by decide) rfl ?_
                  refine j_goto (tgt := 91) G d10_settleCliff_240 (by decide) ?_
                  refine j_locs (ls' := [(2, .int (iZ (c + 1))), (0, .ref mo), (1, .int (iZ f))]) [0, 2, 3] rfl ?_
                  exact ih91 (c + 1) (upI la2 ((9 * f) + (wd c)) (min 40 (nu c))) po2 pt2 (by omega) (by first | assumption | omega) (by rw [show (c + 1 - 12 * f).toNat = (c - 12 * f).toNat + 1 by omega]; show RelC _ _ _ f (tkF (wd (12 * f + ((c - 12 * f).toNat : Int))) (nu (12 * f + ((c - 12 * f).toNat : Int))) (cvF (fun i : Nat => wd (12 * f + i)) (fun i : Nat => nu (12 * f + i)) (c - 12 * f).toNat)); rw [hce]; exact rel_step hr hwk.1 hwx.1.1 (by unfold valF; (repeat' split) <;> omega) (by first | exact Or.inl ⟨by omega, by omega, rfl, rfl⟩ | exact Or.inr ⟨by omega, rfl, rfl⟩)) ⟨ho.1.up (by omega) (by omega), (by first | exact ho.2.1 | exact fun j h => (upI_ne h).trans (ho.2.1 j h)), (by first | exact ho.2.2 | exact ho.2.2.up (by omega) (by omega))⟩
              ·
                refine j_aload_n G 2 rfl d10_settleCliff_194 ?_
                refine j_bipush G d10_settleCliff_195 rfl ?_
                refine j_aload_n G 2 rfl d10_settleCliff_197 ?_
                refine j_get G 0 10 8 in10 fl10_35 d10_settleCliff_198 rfl rfl (by decide) (v := .ref (ad 8)) rfl rfl ?_
                refine j_iload_n G 1 rfl d10_settleCliff_201 ?_
                refine j_iald G 2 rfl (by omega) d10_settleCliff_202 ?_
                refine j_VP G (k10_min (xl Γ) E mo 6 (nu c) (by first | assumption | omega | (simp only [upS, reduceIte, Nat.reduceEqDiff, eq_self, List.length_cons, List.length_nil, List.length_append] <;> omega)) (by first | assumption | omega | (simp only [upS, reduceIte, Nat.reduceEqDiff, eq_self, List.length_cons, List.length_nil, List.length_append] <;> omega))) mw10_min ml10_276 [] rfl 0 10 rfl rfl rfl ⟨Nat.le_of_ble_eq_true rfl, Nat.le_of_ble_eq_true rfl⟩ rfl (rest := [.int (iZ ((9 * f) + (wd c))), .ref (ad 11)]) rfl (Nat.le_of_ble_eq_true rfl) d10_settleCliff_203 ⟨Nat.le_of_ble_eq_true rfl, Nat.le_of_ble_eq_true rfl⟩ (fun r hr => ?_)
                obtain ⟨_, rfl, rfl⟩ := hr
                refine j_goto (tgt := 236) G d10_settleCliff_206 (by decide) ?_
                refine j_iast G 4 rfl (by omega) d10_settleCliff_236 ?_
                refine j_iinc G d10_settleCliff_237 1 rfl (by decide) rfl ?_
                refine j_goto (tgt := 91) G d10_settleCliff_240 (by decide) ?_
                refine j_locs (ls' := [(2, .int (iZ (c + 1))), (0, .ref mo), (1, .int (iZ f))]) [0, 2, 3] rfl ?_
                exact ih91 (c + 1) (upI la2 ((9 * f) + (wd c)) (min 6 (nu c))) po2 pt2 (by omega) (by first | assumption | omega) (by rw [show (c + 1 - 12 * f).toNat = (c - 12 * f).toNat + 1 by omega]; show RelC _ _ _ f (tkF (wd (12 * f + ((c - 12 * f).toNat : Int))) (nu (12 * f + ((c - 12 * f).toNat : Int))) (cvF (fun i : Nat => wd (12 * f + i)) (fun i : Nat => nu (12 * f + i)) (c - 12 * f).toNat)); rw [hce]; exact rel_step hr hwk.1 hwx.1.1 (by unfold valF; (repeat' split) <;> omega) (by first | exact Or.inl ⟨by omega, by omega, rfl, rfl⟩ | exact Or.inr ⟨by omega, rfl, rfl⟩)) ⟨ho.1.up (by omega) (by omega), (by first | exact ho.2.1 | exact fun j h => (upI_ne h).trans (ho.2.1 j h)), (by first | exact ho.2.2 | exact ho.2.2.up (by omega) (by omega))⟩
            ·
              refine j_aload_n G 2 rfl d10_settleCliff_173 ?_
              refine j_bipush G d10_settleCliff_174 rfl ?_
              refine j_aload_n G 2 rfl d10_settleCliff_176 ?_
              refine j_get G 0 10 8 in10 fl10_35 d10_settleCliff_177 rfl rfl (by decide) (v := .ref (ad 8)) rfl rfl ?_
              refine j_iload_n G 1 rfl d10_settleCliff_180 ?_
              refine j_iald G 2 rfl (by omega) d10_settleCliff_181 ?_
              refine j_VP G (k10_min (xl Γ) E mo 60 (nu c) (by first | assumption | omega | (simp only [upS, reduceIte, Nat.reduceEqDiff, eq_self, List.length_cons, List.length_nil, List.length_append] <;> omega)) (by first | assumption | omega | (simp only [upS, reduceIte, Nat.reduceEqDiff, eq_self, List.length_cons, List.length_nil, List.length_append] <;> omega))) mw10_min ml10_276 [] rfl 0 10 rfl rfl rfl ⟨Nat.le_of_ble_eq_true rfl, Nat.le_of_ble_eq_true rfl⟩ rfl (rest := [.int (iZ ((9 * f) + (wd c))), .ref (ad 11)]) rfl (Nat.le_of_ble_eq_true rfl) d10_settleCliff_182 ⟨Nat.le_of_ble_eq_true rfl, Nat.le_of_ble_eq_true rfl⟩ (fun r hr => ?_)
              obtain ⟨_, rfl, rfl⟩ := hr
              refine j_goto (tgt := 236) G d10_settleCliff_185 (by decide) ?_
              refine j_iast G 4 rfl (by omega) d10_settleCliff_236 ?_
              refine j_iinc G d10_settleCliff_237 1 rfl (by decide) rfl ?_
              refine j_goto (tgt := 91) G d10_settleCliff_240 (by decide) ?_
              refine j_locs (ls' := [(2, .int (iZ (c + 1))), (0, .ref mo), (1, .int (iZ f))]) [0, 2, 3] rfl ?_
              exact ih91 (c + 1) (upI la2 ((9 * f) + (wd c)) (min 60 (nu c))) po2 pt2 (by omega) (by first | assumption | omega) (by rw [show (c + 1 - 12 * f).toNat = (c - 12 * f).toNat + 1 by omega]; show RelC _ _ _ f (tkF (wd (12 * f + ((c - 12 * f).toNat : Int))) (nu (12 * f + ((c - 12 * f).toNat : Int))) (cvF (fun i : Nat => wd (12 * f + i)) (fun i : Nat => nu (12 * f + i)) (c - 12 * f).toNat)); rw [hce]; exact rel_step hr hwk.1 hwx.1.1 (by unfold valF; (repeat' split) <;> omega) (by first | exact Or.inl ⟨by omega, by omega, rfl, rfl⟩ | exact Or.inr ⟨by omega, rfl, rfl⟩)) ⟨ho.1.up (by omega) (by omega), (by first | exact ho.2.1 | exact fun j h => (upI_ne h).trans (ho.2.1 j h)), (by first | exact ho.2.2 | exact ho.2.2.up (by omega) (by omega))⟩
          ·
            refine j_aload_n G 2 rfl d10_settleCliff_127 ?_
            refine j_get G 0 10 13 in10 fl10_50 d10_settleCliff_128 rfl rfl (by decide) (v := .ref (ad 13)) rfl rfl ?_
            refine j_iconst G d10_settleCliff_131 ?_
            refine j_iload_n G 3 rfl d10_settleCliff_132 ?_
            refine j_imul G d10_settleCliff_133 ?_
            refine j_aload_n G 2 rfl d10_settleCliff_134 ?_
            refine j_get G 0 10 12 in10 fl10_47 d10_settleCliff_135 rfl rfl (by decide) (v := .ref (ad 12)) rfl rfl ?_
            refine j_iload_n G 3 rfl d10_settleCliff_138 ?_
            refine j_iald G 5 rfl (by omega) d10_settleCliff_139 ?_
            refine j_iadd G d10_settleCliff_140 ?_
            refine j_aload_n G 2 rfl d10_settleCliff_141 ?_
            refine j_get G 0 10 8 in10 fl10_35 d10_settleCliff_142 rfl rfl (by decide) (v := .ref (ad 8)) rfl rfl ?_
            refine j_iload_n G 1 rfl d10_settleCliff_145 ?_
            refine j_iald G 2 rfl (by omega) d10_settleCliff_146 ?_
            refine j_iast G 6 rfl (by omega) d10_settleCliff_147 ?_
            refine j_aload_n G 2 rfl d10_settleCliff_148 ?_
            refine j_get G 0 10 12 in10 fl10_47 d10_settleCliff_149 rfl rfl (by decide) (v := .ref (ad 12)) rfl rfl ?_
            refine j_iload_n G 3 rfl d10_settleCliff_152 ?_
            refine j_dup2 G d10_settleCliff_153 rfl rfl ?_
            refine j_iald G 5 rfl (by omega) d10_settleCliff_154 ?_
            refine j_iconst G d10_settleCliff_155 ?_
            refine j_iadd G d10_settleCliff_156 ?_
            refine j_iast G 5 rfl (by omega) d10_settleCliff_157 ?_
            refine j_aload_n G 2 rfl d10_settleCliff_158 ?_
            refine j_get G 0 10 11 in10 fl10_44 d10_settleCliff_159 rfl rfl (by decide) (v := .ref (ad 11)) rfl rfl ?_
            refine j_bipush G d10_settleCliff_162 rfl ?_
            refine j_iload_n G 3 rfl d10_settleCliff_164 ?_
            refine j_imul G d10_settleCliff_165 ?_
            refine j_iload_n G 0 rfl d10_settleCliff_166 ?_
            refine j_iadd G d10_settleCliff_167 ?_
            refine j_iload_n G 0 rfl d10_settleCliff_168 ?_
            refine j_iconst G d10_settleCliff_169 ?_
            refine j_icmp_ne (tgt := 188) G d10_settleCliff_170 (by decide) (by omega) (by decide) (fun h17 => ?_) (fun h17 => ?_)
            ·
              refine j_iload_n G 0 rfl d10_settleCliff_188 ?_
              refine j_bipush G d10_settleCliff_189 rfl ?_
              refine j_icmp_ne (tgt := 209) G d10_settleCliff_191 (by decide) (by omega) (by decide) (fun h18 => ?_) (fun h18 => ?_)
              ·
                refine j_iload_n G 0 rfl d10_settleCliff_209 ?_
                refine j_bipush G d10_settleCliff_210 rfl ?_
                refine j_icmp_ne (tgt := 230) G d10_settleCliff_212 (by decide) (by omega) (by decide) (fun h19 => ?_) (fun h19 => ?_)
                ·
                  refine j_aload_n G 2 rfl d10_settleCliff_230 ?_
                  refine j_get G 0 10 8 in10 fl10_35 d10_settleCliff_231 rfl rfl (by decide) (v := .ref (ad 8)) rfl rfl ?_
                  refine j_iload_n G 1 rfl d10_settleCliff_234 ?_
                  refine j_iald G 2 rfl (by omega) d10_settleCliff_235 ?_
                  refine j_iast G 4 rfl (by omega) d10_settleCliff_236 ?_
                  refine j_iinc G d10_settleCliff_237 1 rfl (by decide) rfl ?_
                  refine j_goto (tgt := 91) G d10_settleCliff_240 (by decide) ?_
                  refine j_locs (ls' := [(2, .int (iZ (c + 1))), (0, .ref mo), (1, .int (iZ f))]) [0, 2, 3] rfl ?_
                  exact ih91 (c + 1) (upI la2 ((9 * f) + (wd c)) (nu c)) (upI po2 f ((po2 f) + 1)) (upI pt2 ((5 * f) + (po2 f)) (nu c)) (by omega) (by first | assumption | omega) (by rw [show (c + 1 - 12 * f).toNat = (c - 12 * f).toNat + 1 by omega]; show RelC _ _ _ f (tkF (wd (12 * f + ((c - 12 * f).toNat : Int))) (nu (12 * f + ((c - 12 * f).toNat : Int))) (cvF (fun i : Nat => wd (12 * f + i)) (fun i : Nat => nu (12 * f + i)) (c - 12 * f).toNat)); rw [hce]; exact rel_step hr hwk.1 hwx.1.1 (by unfold valF; (repeat' split) <;> omega) (by first | exact Or.inl ⟨by omega, by omega, rfl, rfl⟩ | exact Or.inr ⟨by omega, rfl, rfl⟩)) ⟨ho.1.up (by omega) (by omega), (by first | exact ho.2.1 | exact fun j h => (upI_ne h).trans (ho.2.1 j h)), (by first | exact ho.2.2 | exact ho.2.2.up (by omega) (by omega))⟩
                ·
                  refine j_aload_n G 2 rfl d10_settleCliff_215 ?_
                  refine j_bipush G d10_settleCliff_216 rfl ?_
                  refine j_aload_n G 2 rfl d10_settleCliff_218 ?_
                  refine j_get G 0 10 8 in10 fl10_35 d10_settleCliff_219 rfl rfl (by decide) (v := .ref (ad 8)) rfl rfl ?_
                  refine j_iload_n G 1 rfl d10_settleCliff_222 ?_
                  refine j_iald G 2 rfl (by omega) d10_settleCliff_223 ?_
                  refine j_VP G (k10_min (xl Γ) E mo 40 (nu c) (by first | assumption | omega | (simp only [upS, reduceIte, Nat.reduceEqDiff, eq_self, List.length_cons, List.length_nil, List.length_append] <;> omega)) (by first | assumption | omega | (simp only [upS, reduceIte, Nat.reduceEqDiff, eq_self, List.length_cons, List.length_nil, List.length_append] <;> omega))) mw10_min ml10_276 [] rfl 0 10 rfl rfl rfl ⟨Nat.le_of_ble_eq_true rfl, Nat.le_of_ble_eq_true rfl⟩ rfl (rest := [.int (iZ ((9 * f) + (wd c))), .ref (ad 11)]) rfl (Nat.le_of_ble_eq_true rfl) d10_settleCliff_224 ⟨Nat.le_of_ble_eq_true rfl, Nat.le_of_ble_eq_true rfl⟩ (fun r hr => ?_)
                  obtain ⟨_, rfl, rfl⟩ := hr
                  refine j_goto (tgt := 236) G d10_settleCliff_227 (by decide) ?_
                  refine j_iast G 4 rfl (by omega) d10_settleCliff_236 ?_
                  refine j_iinc G d10_settleCliff_237 1 rfl (by decide) rfl ?_
                  refine j_goto (tgt := 91) G d10_settleCliff_240 (by decide) ?_
                  refine j_locs (ls' := [(2, .int (iZ (c + 1))), (0, .ref mo), (1, .int (iZ f))]) [0, 2, 3] rfl ?_
                  exact ih91 (c + 1) (upI la2 ((9 * f) + (wd c)) (min 40 (nu c))) (upI po2 f ((po2 f) + 1)) (upI pt2 ((5 * f) + (po2 f)) (nu c)) (by omega) (by first | assumption | omega) (by rw [show (c + 1 - 12 * f).toNat = (c - 12 * f).toNat + 1 by omega]; show RelC _ _ _ f (tkF (wd (12 * f + ((c - 12 * f).toNat : Int))) (nu (12 * f + ((c - 12 * f).toNat : Int))) (cvF (fun i : Nat => wd (12 * f + i)) (fun i : Nat => nu (12 * f + i)) (c - 12 * f).toNat)); rw [hce]; exact rel_step hr hwk.1 hwx.1.1 (by unfold valF; (repeat' split) <;> omega) (by first | exact Or.inl ⟨by omega, by omega, rfl, rfl⟩ | exact Or.inr ⟨by omega, rfl, rfl⟩)) ⟨ho.1.up (by omega) (by omega), (by first | exact ho.2.1 | exact fun j h => (upI_ne h).trans (ho.2.1 j h)), (by first | exact ho.2.2 | exact ho.2.2.up (by omega) (by omega))⟩
              ·
                refine j_aload_n G 2 rfl d10_settleCliff_194 ?_
                refine j_bipush G d10_settleCliff_195 rfl ?_
                refine j_aload_n G 2 rfl d10_settleCliff_197 ?_
                refine j_get G 0 10 8 in10 fl10_35 d10_settleCliff_198 rfl rfl (by decide) (v := .ref (ad 8)) rfl rfl ?_
                refine j_iload_n G 1 rfl d10_settleCliff_201 ?_
                refine j_iald G 2 rfl (by omega) d10_settleCliff_202 ?_
                refine j_VP G (k10_min (xl Γ) E mo 6 (nu c) (by first | assumption | omega | (simp only [upS, reduceIte, Nat.reduceEqDiff, eq_self, List.length_cons, List.length_nil, List.length_append] <;> omega)) (by first | assumption | omega | (simp only [upS, reduceIte, Nat.reduceEqDiff, eq_self, List.length_cons, List.length_nil, List.length_append] <;> omega))) mw10_min ml10_276 [] rfl 0 10 rfl rfl rfl ⟨Nat.le_of_ble_eq_true rfl, Nat.le_of_ble_eq_true rfl⟩ rfl (rest := [.int (iZ ((9 * f) + (wd c))), .ref (ad 11)]) rfl (Nat.le_of_ble_eq_true rfl) d10_settleCliff_203 ⟨Nat.le_of_ble_eq_true rfl, Nat.le_of_ble_eq_true rfl⟩ (fun r hr => ?_)
                obtain ⟨_, rfl, rfl⟩ := hr
                refine j_goto (tgt := 236) G d10_settleCliff_206 (by decide) ?_
                refine j_iast G 4 rfl (by omega) d10_settleCliff_236 ?_
                refine j_iinc G d10_settleCliff_237 1 rfl (by decide) rfl ?_
                refine j_goto (tgt := 91) G d10_settleCliff_240 (by decide) ?_
                refine j_locs (ls' := [(2, .int (iZ (c + 1))), (0, .ref mo), (1, .int (iZ f))]) [0, 2, 3] rfl ?_
                exact ih91 (c + 1) (upI la2 ((9 * f) + (wd c)) (min 6 (nu c))) (upI po2 f ((po2 f) + 1)) (upI pt2 ((5 * f) + (po2 f)) (nu c)) (by omega) (by first | assumption | omega) (by rw [show (c + 1 - 12 * f).toNat = (c - 12 * f).toNat + 1 by omega]; show RelC _ _ _ f (tkF (wd (12 * f + ((c - 12 * f).toNat : Int))) (nu (12 * f + ((c - 12 * f).toNat : Int))) (cvF (fun i : Nat => wd (12 * f + i)) (fun i : Nat => nu (12 * f + i)) (c - 12 * f).toNat)); rw [hce]; exact rel_step hr hwk.1 hwx.1.1 (by unfold valF; (repeat' split) <;> omega) (by first | exact Or.inl ⟨by omega, by omega, rfl, rfl⟩ | exact Or.inr ⟨by omega, rfl, rfl⟩)) ⟨ho.1.up (by omega) (by omega), (by first | exact ho.2.1 | exact fun j h => (upI_ne h).trans (ho.2.1 j h)), (by first | exact ho.2.2 | exact ho.2.2.up (by omega) (by omega))⟩
            ·
              refine j_aload_n G 2 rfl d10_settleCliff_173 ?_
              refine j_bipush G d10_settleCliff_174 rfl ?_
              refine j_aload_n G 2 rfl d10_settleCliff_176 ?_
              refine j_get G 0 10 8 in10 fl10_35 d10_settleCliff_177 rfl rfl (by decide) (v := .ref (ad 8)) rfl rfl ?_
              refine j_iload_n G 1 rfl d10_settleCliff_180 ?_
              refine j_iald G 2 rfl (by omega) d10_settleCliff_181 ?_
              refine j_VP G (k10_min (xl Γ) E mo 60 (nu c) (by first | assumption | omega | (simp only [upS, reduceIte, Nat.reduceEqDiff, eq_self, List.length_cons, List.length_nil, List.length_append] <;> omega)) (by first | assumption | omega | (simp only [upS, reduceIte, Nat.reduceEqDiff, eq_self, List.length_cons, List.length_nil, List.length_append] <;> omega))) mw10_min ml10_276 [] rfl 0 10 rfl rfl rfl ⟨Nat.le_of_ble_eq_true rfl, Nat.le_of_ble_eq_true rfl⟩ rfl (rest := [.int (iZ ((9 * f) + (wd c))), .ref (ad 11)]) rfl (Nat.le_of_ble_eq_true rfl) d10_settleCliff_182 ⟨Nat.le_of_ble_eq_true rfl, Nat.le_of_ble_eq_true rfl⟩ (fun r hr => ?_)
              obtain ⟨_, rfl, rfl⟩ := hr
              refine j_goto (tgt := 236) G d10_settleCliff_185 (by decide) ?_
              refine j_iast G 4 rfl (by omega) d10_settleCliff_236 ?_
              refine j_iinc G d10_settleCliff_237 1 rfl (by decide) rfl ?_
              refine j_goto (tgt := 91) G d10_settleCliff_240 (by decide) ?_
              refine j_locs (ls' := [(2, .int (iZ (c + 1))), (0, .ref mo), (1, .int (iZ f))]) [0, 2, 3] rfl ?_
              exact ih91 (c + 1) (upI la2 ((9 * f) + (wd c)) (min 60 (nu c))) (upI po2 f ((po2 f) + 1)) (upI pt2 ((5 * f) + (po2 f)) (nu c)) (by omega) (by first | assumption | omega) (by rw [show (c + 1 - 12 * f).toNat = (c - 12 * f).toNat + 1 by omega]; show RelC _ _ _ f (tkF (wd (12 * f + ((c - 12 * f).toNat : Int))) (nu (12 * f + ((c - 12 * f).toNat : Int))) (cvF (fun i : Nat => wd (12 * f + i)) (fun i : Nat => nu (12 * f + i)) (c - 12 * f).toNat)); rw [hce]; exact rel_step hr hwk.1 hwx.1.1 (by unfold valF; (repeat' split) <;> omega) (by first | exact Or.inl ⟨by omega, by omega, rfl, rfl⟩ | exact Or.inr ⟨by omega, rfl, rfl⟩)) ⟨ho.1.up (by omega) (by omega), (by first | exact ho.2.1 | exact fun j h => (upI_ne h).trans (ho.2.1 j h)), (by first | exact ho.2.2 | exact ho.2.2.up (by omega) (by omega))⟩
  exact lp91 _ (12 * f) (upI (upI (upI (upI (upI (upI la ((9 * f) + 1) 0) ((9 * f) + 2) 10) ((9 * f) + 4) 999) ((9 * f) + 5) 20) ((9 * f) + 6) 4) ((9 * f) + 8) 20) (upI po f 0) pt (Nat.lt_succ_self _) (by first | assumption | omega) (by rw [Int.sub_self]; exact rel_0 hpz) ⟨((((((Out.rf.up (by omega) (by omega)).up (by omega) (by omega)).up (by omega) (by omega)).up (by omega) (by omega)).up (by omega) (by omega)).up (by omega) (by omega)), Only.up, Out.rf⟩
