/-! the law: worlds up to order -/
theorem vP_mem {D : va_G} {cl : List vw_C} {ws : va_W} {H : Heap} : va_P D cl ws H ↔ ∀ q ∈ ws, va_at D cl q H := ⟨fun h q hq => by
  obtain ⟨k, hk⟩ := List.getElem?_of_mem hq
  exact h k q hk, fun h k q hk => h q (List.mem_of_getElem? hk)⟩
theorem vD_mem {A : Nat → Prop} {ws : va_W} : va_D A ws ↔ (ws.map Prod.fst).Nodup ∧ ∀ q ∈ ws, A q.1 := by
  constructor
  · intro h
    refine ⟨List.pairwise_iff_getElem.mpr (fun i j hi hj hij he => ?_), fun q hq => ?_⟩
    · rw [List.length_map] at hi hj
      rw [List.getElem_map, List.getElem_map] at he
      have := h.1 i j _ _ (List.getElem?_eq_getElem hi) (List.getElem?_eq_getElem hj) he
      omega
    · obtain ⟨k, hk⟩ := List.getElem?_of_mem hq
      exact h.2 k q hk
  · intro h
    refine ⟨fun i j p q hi hj hpq => ?_, fun k q hk => h.2 q (List.mem_of_getElem? hk)⟩
    have hl := (List.getElem?_eq_some_iff.mp hi)
    have hl2 := (List.getElem?_eq_some_iff.mp hj)
    have hn := List.pairwise_iff_getElem.mp h.1
    obtain ⟨a1, a2⟩ := hl
    obtain ⟨b1, b2⟩ := hl2
    by_cases e : i = j
    · exact e
    · exfalso
      rcases Nat.lt_or_gt_of_ne e with z | z
      · refine hn i j (by rw [List.length_map]; exact a1) (by rw [List.length_map]; exact b1) z ?_
        rw [List.getElem_map, List.getElem_map, a2, b2]; exact hpq
      · refine hn j i (by rw [List.length_map]; exact b1) (by rw [List.length_map]; exact a1) z ?_
        rw [List.getElem_map, List.getElem_map, a2, b2]; exact hpq.symm
theorem j_Perm {E : En} {nL : Nat} {Γ : Ctx} {md : Option (Nat → Prop)} {k n : Nat} {ws ws' : va_W} {pc : Nat} {ls : List (Nat × Value)} {st : List Value} (h : ws.Perm ws') (kk : J E nL Γ md k n ws' pc ls st) : J E nL Γ md k n ws pc ls st := fun H locs hP hD hS L hL => kk H locs (vP_mem.mpr (fun q hq => vP_mem.mp hP q (h.mem_iff.mpr hq))) (by
  cases md with
  | none => trivial
  | some A =>
    have e := vD_mem.mp hD
    exact vD_mem.mpr ⟨(h.map Prod.fst).nodup_iff.mp e.1, fun q hq => e.2 q (h.mem_iff.mpr hq)⟩) hS L hL
theorem va_nd_n : ∀ (l : List Nat), l.Nodup → va_nd l = true
  | [], _ => rfl
  | a :: l, h => by
    have e := List.nodup_cons.mp h
    show (decide (a ∉ l) && va_nd l) = true
    rw [va_nd_n l e.2, decide_eq_true e.1]; rfl
theorem ap_l {wc wr : va_W} : (List.range wc.length).map (fun i => (wc ++ wr)[i]?) = wc.map some := List.ext_getElem (by simp) (fun i h1 h2 => by
  simp at h1
  simp [List.getElem?_append_left h1])
theorem ap_r {wc wr : va_W} : ((List.range wr.length).map (fun i => wc.length + i)).map (fun i => (wc ++ wr)[i]?) = wr.map some := List.ext_getElem (by simp) (fun i h1 h2 => by
  simp at h1
  simp [List.getElem?_append_right])
theorem ap_f {wc wr : va_W} : (List.range wc.length).filterMap (fun i => (wc ++ wr)[i]?) = wc := by
  have h := ap_l (wc := wc) (wr := wr)
  have e : ∀ (l : List Nat) (f : Nat → Option (Nat × va_E)) (w : va_W), l.map f = w.map some → l.filterMap f = w := by
    intro l
    induction l with
    | nil => intro f w h; cases w with
      | nil => rfl
      | cons a w => cases h
    | cons a l ih =>
      intro f w h
      cases w with
      | nil => cases h
      | cons b w =>
        rw [List.map_cons, List.map_cons, List.cons.injEq] at h
        rw [List.filterMap_cons, h.1, ih f w h.2]
  exact e _ _ _ h
section
variable {E : En} {nL : Nat} {Γ : Ctx} {cc : ByteArray} {own : String} {rm : Room} {md : Option (Nat → Prop)} {k n : Nat} {ws : va_W} {pc : Nat} {ls : List (Nat × Value)} {st : List Value}
variable {y : MethodName} {c : ByteArray} {ml np idx fr lo b : Nat} {ret : Option FieldType} {As rest : List Value} {wc wr : va_W} {rm' : Room}
/-- a call that changes its cells, the others standing aside -/
theorem j_VMr (G : Gd E nL Γ cc own rm) {A : Nat → Prop} {post : Option Value → va_W → Prop} {e : va_E} {w0 : va_W} (hw : ws.Perm ((b, e) :: w0 ++ wr)) (hC : Cm (xl Γ) E y c ml ret rm' (.ref b :: As) ((b, e) :: w0) post) (M : MV y c ml ret np) (hlk : Cond.methodLink own idx y ∈ TT) (ci : Nat) {fs : List Value} {C : String} {T : u_T} {N : Nat} (he : e = .inr (ci, fs)) (hcl : vwCl[ci]? = some (C, T, N)) (hyc : C = y.cls) (hR : fitR rm' rm ml) (hn : As.length = np) (hst : st = As.reverse ++ .ref b :: rest) (hcat : (rest.map fun v => v.category).sum ≤ 8) (d : decode cc pc = .ok (.invokevirtual idx, 3)) (hk : k + rm'.cells ≤ rm.cells ∧ n + rm'.slots ≤ rm.slots)
    (kk : ∀ r w1, post r w1 → J E nL Γ (some A) (k + rm'.cells) (n + rm'.slots) (wr ++ w1) (pc + 3) ls (r.toList ++ rest)) : J E nL Γ (some A) k n ws pc ls st :=
  j_Perm hw (j_VM G hC M hlk (List.range ((b, e) :: w0).length) ((List.range wr.length).map (fun i => ((b, e) :: w0).length + i)) ap_l ap_r ⟨va_nd_n _ List.nodup_range, va_nd_n _ (by
      rw [List.nodup_iff_pairwise_ne, List.pairwise_map]
      exact (List.nodup_iff_pairwise_ne.mp (List.nodup_range (n := wr.length))).imp (fun h q => h (by omega)))⟩ (fun i hi hj => by
      simp only [List.mem_map, List.mem_range] at hi hj
      obtain ⟨z, _, rfl⟩ := hi
      omega) 0 ci (by rw [← he]; rfl) hcl hyc hR hn hst hcat d hk kk)
/-- a call that changes nothing -/
theorem j_VPr (G : Gd E nL Γ cc own rm) {post : Option Value → Prop} {e : va_E} {w0 : va_W} (hw : ws.Perm ((b, e) :: w0 ++ wr)) (hC : Cp (xl Γ) E y c ml ret fr lo (.ref b :: As) ((b, e) :: w0) post) (M : MV y c ml ret np) (hlk : Cond.methodLink own idx y ∈ TT) (ci : Nat) {fs : List Value} {C : String} {T : u_T} {N : Nat} (he : e = .inr (ci, fs)) (hcl : vwCl[ci]? = some (C, T, N)) (hyc : C = y.cls) (hR : fitR (rmP fr lo) rm ml) (hn : As.length = np) (hst : st = As.reverse ++ .ref b :: rest) (hcat : (rest.map fun v => v.category).sum ≤ 8) (d : decode cc pc = .ok (.invokevirtual idx, 3)) (hk : k ≤ rm.cells ∧ n ≤ rm.slots)
    (kk : ∀ r, post r → J E nL Γ md k n ws (pc + 3) ls (r.toList ++ rest)) : J E nL Γ md k n ws pc ls st :=
  j_Perm hw (j_VP G hC M hlk (List.range ((b, e) :: w0).length) ap_f 0 ci (by rw [← he]; rfl) hcl hyc hR hn hst hcat d hk (fun r hr => j_Perm hw.symm (kk r hr)))
/-- the script's ints -/
theorem j_sld (G : Gd E nL Γ cc own rm) {A : Nat → Prop} {b0 L : Nat} {xs0 : Nat → Int32} (hX : va_X b0 L xs0 (xs Γ) (xs Γ).heap) (hb : b0 < (xs Γ).heap.size) (hA : ¬ A b0) {z : Int} (hz : 0 ≤ z ∧ z < L ∧ (L : Int) ≤ 2147483647) (d : decode cc pc = .ok (.iaload, 1)) (kk : J E nL Γ (some A) k n ws (pc + 1) ls (.int (xs0 z.toNat) :: st)) : J E nL Γ (some A) k n ws pc ls (.int (iZ z) :: .ref b0 :: st) := fun H locs hP hD hS L' hL =>
  va_sld G.1 G.2.1 hX hb hA hS.1 (vp_inZ hz.2.2 hz.1 hz.2.1) d (by rw [iZ_cl ⟨by omega, by omega⟩]; exact kk H locs hP hD hS L' hL)
theorem j_scn (G : Gd E nL Γ cc own rm) {A : Nat → Prop} {b0 L : Nat} {xs0 : Nat → Int32} (hX : va_X b0 L xs0 (xs Γ) (xs Γ).heap) (hb : b0 < (xs Γ).heap.size) (hA : ¬ A b0) (d : decode cc pc = .ok (.arraylength, 1)) (kk : J E nL Γ (some A) k n ws (pc + 1) ls (.int (iZ (L : Int)) :: st)) : J E nL Γ (some A) k n ws pc ls (.ref b0 :: st) := fun H locs hP hD hS L' hL =>
  va_slen G.1 G.2.1 hX hb hA hS.1 d (by rw [show Int32.ofNat L = iZ (L : Int) from Int32.ofInt_eq_ofNat.symm]; exact kk H locs hP hD hS L' hL)
end
/-! families of cells: cliffs, rules, tapes -/
def fam (n : Nat) (f : Nat → va_W) : va_W := (List.range n).flatMap f
def famx (n t : Nat) (f : Nat → va_W) : va_W := ((List.range n).erase t).flatMap f
theorem fam_pull {n t : Nat} {f : Nat → va_W} (h : t < n) : (fam n f).Perm (f t ++ famx n t f) := by
  have e := List.perm_cons_erase (List.mem_range.mpr h)
  have e2 := e.flatMap_right f
  rw [List.flatMap_cons] at e2
  exact e2
theorem fm_congr {f g : Nat → va_W} : ∀ l : List Nat, (∀ j ∈ l, f j = g j) → l.flatMap f = l.flatMap g
  | [], _ => rfl
  | a :: l, h => by rw [List.flatMap_cons, List.flatMap_cons, h a (List.mem_cons_self), fm_congr l (fun j hj => h j (List.mem_cons_of_mem _ hj))]
theorem famx_congr {n t : Nat} {f g : Nat → va_W} (h : ∀ j, j < n → j ≠ t → f j = g j) : famx n t f = famx n t g := by
  unfold famx
  have e : ∀ j ∈ (List.range n).erase t, f j = g j := fun j hj => by
    have hj2 := (List.Nodup.mem_erase_iff List.nodup_range).mp hj
    exact h j (List.mem_range.mp hj2.2) hj2.1
  exact fm_congr _ e
theorem fam_push {n : Nat} {f : Nat → va_W} : fam (n + 1) f = fam n f ++ f n := by
  unfold fam
  rw [List.range_succ, List.flatMap_append, List.flatMap_cons, List.flatMap_nil, List.append_nil]
theorem fam_congr {n : Nat} {f g : Nat → va_W} (h : ∀ j, j < n → f j = g j) : fam n f = fam n g := by
  unfold fam
  exact fm_congr _ (fun j hj => h j (List.mem_range.mp hj))
/-- some cells out of an explicit list, before a tail that is not looked into -/
theorem pick {L wc wr tail : va_W} (is js : List Nat) (hp : (is ++ js).isPerm (List.range L.length) = true) (h1 : is.filterMap (fun i => L[i]?) = wc) (h2 : js.filterMap (fun i => L[i]?) = wr) : (L ++ tail).Perm (wc ++ (wr ++ tail)) := by
  have e : (List.range L.length).filterMap (fun i => L[i]?) = L := by
    have q := ap_f (wc := L) (wr := [])
    rw [List.append_nil] at q
    exact q
  have p := (List.isPerm_iff.mp hp).filterMap (fun i => L[i]?)
  rw [e, List.filterMap_append, h1, h2] at p
  rw [← List.append_assoc]
  exact (p.symm).append_right tail
/-- and with the cells of one of a family besides -/
theorem pickF {L wc wr : va_W} {n t : Nat} {f : Nat → va_W} {tail : va_W} (ht : t < n) (is js : List Nat) (hp : (is ++ js).isPerm (List.range L.length) = true) (h1 : is.filterMap (fun i => L[i]?) = wc) (h2 : js.filterMap (fun i => L[i]?) = wr) : (L ++ (fam n f ++ tail)).Perm ((wc ++ f t) ++ (wr ++ (famx n t f ++ tail))) := by
  have p := pick (tail := fam n f ++ tail) is js hp h1 h2
  have q : (wr ++ (fam n f ++ tail)).Perm (f t ++ (wr ++ (famx n t f ++ tail))) := by
    have a := ((fam_pull (f := f) ht).append_right tail).append_left wr
    refine a.trans ?_
    rw [List.append_assoc, ← List.append_assoc, ← List.append_assoc (f t)]
    exact (List.perm_append_comm).append_right _
  refine p.trans ((q.append_left wc).trans ?_)
  rw [List.append_assoc]
section
variable {E : En} {nL : Nat} {Γ : Ctx} {cc : ByteArray} {own : String} {rm : Room} {md : Option (Nat → Prop)} {k n : Nat} {L tail : va_W} {pc : Nat} {ls : List (Nat × Value)} {st : List Value}
variable {y : MethodName} {c : ByteArray} {ml np idx fr lo b : Nat} {ret : Option FieldType} {As rest : List Value} {wc wr : va_W} {rm' : Room}
/-- a call in an explicit world with a tail -/
theorem j_VMt (G : Gd E nL Γ cc own rm) {A : Nat → Prop} {post : Option Value → va_W → Prop} {e : va_E} {w0 : va_W} (hC : Cm (xl Γ) E y c ml ret rm' (.ref b :: As) ((b, e) :: w0) post) (M : MV y c ml ret np) (hlk : Cond.methodLink own idx y ∈ TT) (isC isR : List Nat) (hp : (isC ++ isR).isPerm (List.range L.length) = true) (hCw : isC.filterMap (fun i => L[i]?) = (b, e) :: w0) (hRw : isR.filterMap (fun i => L[i]?) = wr) (ci : Nat) {fs : List Value} {C : String} {T : u_T} {N : Nat} (he : e = .inr (ci, fs)) (hcl : vwCl[ci]? = some (C, T, N)) (hyc : C = y.cls) (hR : fitR rm' rm ml) (hn : As.length = np) (hst : st = As.reverse ++ .ref b :: rest) (hcat : (rest.map fun v => v.category).sum ≤ 8) (d : decode cc pc = .ok (.invokevirtual idx, 3)) (hk : k + rm'.cells ≤ rm.cells ∧ n + rm'.slots ≤ rm.slots)
    (kk : ∀ r w1, post r w1 → J E nL Γ (some A) (k + rm'.cells) (n + rm'.slots) ((w1 ++ wr) ++ tail) (pc + 3) ls (r.toList ++ rest)) : J E nL Γ (some A) k n (L ++ tail) pc ls st :=
  j_VMr G (pick isC isR hp hCw hRw) hC M hlk ci he hcl hyc hR hn hst hcat d hk (fun r w1 hr => j_Perm (by
    rw [List.append_assoc w1]
    exact List.perm_append_comm) (kk r w1 hr))
theorem j_VPt (G : Gd E nL Γ cc own rm) {post : Option Value → Prop} {e : va_E} {w0 : va_W} (hC : Cp (xl Γ) E y c ml ret fr lo (.ref b :: As) ((b, e) :: w0) post) (M : MV y c ml ret np) (hlk : Cond.methodLink own idx y ∈ TT) (isC isR : List Nat) (hp : (isC ++ isR).isPerm (List.range L.length) = true) (hCw : isC.filterMap (fun i => L[i]?) = (b, e) :: w0) (ci : Nat) {fs : List Value} {C : String} {T : u_T} {N : Nat} (he : e = .inr (ci, fs)) (hcl : vwCl[ci]? = some (C, T, N)) (hyc : C = y.cls) (hR : fitR (rmP fr lo) rm ml) (hn : As.length = np) (hst : st = As.reverse ++ .ref b :: rest) (hcat : (rest.map fun v => v.category).sum ≤ 8) (d : decode cc pc = .ok (.invokevirtual idx, 3)) (hk : k ≤ rm.cells ∧ n ≤ rm.slots)
    (kk : ∀ r, post r → J E nL Γ md k n (L ++ tail) (pc + 3) ls (r.toList ++ rest)) : J E nL Γ md k n (L ++ tail) pc ls st :=
  j_VPr G (pick isC isR hp hCw rfl) hC M hlk ci he hcl hyc hR hn hst hcat d hk kk
end
