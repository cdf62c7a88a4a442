theorem P_ext {D : va_G} {cl : List vw_C} {ws : va_W} {H : Heap} (h : va_P D cl ws H) (q : Nat) {a : Nat} {e e' : va_E} (he : ws[q]? = some (a, e)) (hx : va_at D cl (a, e) H → va_at D cl (a, e') H) : va_P D cl (ws.set q (a, e')) H := by
  have hl := (List.getElem?_eq_some_iff.mp he).1
  intro i x hi
  by_cases hq : i = q
  · subst hq
    rw [List.getElem?_set_self hl] at hi
    cases hi
    exact hx (h i _ he)
  · rw [List.getElem?_set_ne (Ne.symm hq)] at hi
    exact h i x hi
theorem iZ_nneg {z : Int} (h0 : 0 ≤ z) (h : z ≤ 2147483647) : ¬ iZ z < 0 := fun q => by
  have := (iZ_lt (a := z) (b := 0) ⟨by omega, by omega⟩ r32_0).mp q
  omega
theorem cpyI_at {E : En} {D : va_G} {cl : List vw_C} {H : Heap} {N1 a : Nat} {f g g' : Int → Int} {sp dp cnt : Int} (h : 0 ≤ sp ∧ 0 ≤ dp ∧ 0 ≤ cnt) (hg : ∀ j : Int, 0 ≤ j → j < N1 → g' j = if dp ≤ j ∧ j < dp + cnt then f (sp + (j - dp)) else g j) (hv : va_at D cl (a, .inl (eC E 0, N1, .inl (va_cpy (fun j : Nat => iZ (f (j : Int))) (fun j : Nat => iZ (g (j : Int))) sp.toNat dp.toNat cnt.toNat))) H) : va_at D cl (a, aInt E N1 g') H := by
  have e : vp_cell (eC E 0) (N1, .inl (va_cpy (fun j : Nat => iZ (f (j : Int))) (fun j : Nat => iZ (g (j : Int))) sp.toNat dp.toNat cnt.toNat)) = vp_cell (eC E 0) (N1, .inl (fun j : Nat => iZ (g' (j : Int)))) := by
    rw [vp_cell_i, vp_cell_i]
    unfold arrV
    congr 1
    apply Array.ext
    · simp
    · intro i h1 h2
      simp at h1
      simp only [Array.getElem_ofFn]
      rw [hg i (by omega) (by omega)]
      unfold va_cpy
      by_cases hc : dp ≤ (i : Int) ∧ (i : Int) < dp + cnt
      · rw [if_pos hc, if_pos (by omega)]
        have e2 : ((sp.toNat + (i - dp.toNat) : Nat) : Int) = sp + ((i : Int) - dp) := by omega
        rw [← e2]
      · rw [if_neg hc, if_neg (by omega)]
  show H[a]? = some (vp_cell (eC E 0) (N1, .inl (fun j : Nat => iZ (g' (j : Int)))))
  rw [← e]
  exact hv
theorem cpyL_at {E : En} {D : va_G} {cl : List vw_C} {H : Heap} {N1 a : Nat} {f g g' : Int → Int} {sp dp cnt : Int} (h : 0 ≤ sp ∧ 0 ≤ dp ∧ 0 ≤ cnt) (hg : ∀ j : Int, 0 ≤ j → j < N1 → g' j = if dp ≤ j ∧ j < dp + cnt then f (sp + (j - dp)) else g j) (hv : va_at D cl (a, .inl (eC E 1, N1, .inr (.inl (va_cpy (fun j : Nat => lZ (f (j : Int))) (fun j : Nat => lZ (g (j : Int))) sp.toNat dp.toNat cnt.toNat)))) H) : va_at D cl (a, aLng E N1 g') H := by
  have e : vp_cell (eC E 1) (N1, .inr (.inl (va_cpy (fun j : Nat => lZ (f (j : Int))) (fun j : Nat => lZ (g (j : Int))) sp.toNat dp.toNat cnt.toNat))) = vp_cell (eC E 1) (N1, .inr (.inl (fun j : Nat => lZ (g' (j : Int))))) := by
    rw [vp_cell_l, vp_cell_l]
    unfold arrV
    congr 1
    apply Array.ext
    · simp
    · intro i h1 h2
      simp at h1
      simp only [Array.getElem_ofFn]
      rw [hg i (by omega) (by omega)]
      unfold va_cpy
      by_cases hc : dp ≤ (i : Int) ∧ (i : Int) < dp + cnt
      · rw [if_pos hc, if_pos (by omega)]
        have e2 : ((sp.toNat + (i - dp.toNat) : Nat) : Int) = sp + ((i : Int) - dp) := by omega
        rw [← e2]
      · rw [if_neg hc, if_neg (by omega)]
  show H[a]? = some (vp_cell (eC E 1) (N1, .inr (.inl (fun j : Nat => lZ (g' (j : Int))))))
  rw [← e]
  exact hv
section CPY
variable {E : En} {nL : Nat} {Γ : Ctx} {cc : ByteArray} {own : String} {rm : Room} {k n : Nat} {ws : va_W} {pc : Nat} {ls : List (Nat × Value)} {st : List Value} {A : Nat → Prop} {a0 a1 N0 N1 idx : Nat} {f g : Int → Int} {sp dp cnt : Int}
theorem j_copyI (G : Gd E nL Γ cc own rm) (q0 q1 : Nat) (he0 : ws[q0]? = some (a0, aInt E N0 f)) (he1 : ws[q1]? = some (a1, aInt E N1 g)) (h : 0 ≤ sp ∧ 0 ≤ dp ∧ 0 ≤ cnt ∧ sp + cnt ≤ N0 ∧ dp + cnt ≤ N1 ∧ (N0 : Int) ≤ 2147483647 ∧ (N1 : Int) ≤ 2147483647) (g' : Int → Int) (hg : ∀ j : Int, 0 ≤ j → j < N1 → g' j = if dp ≤ j ∧ j < dp + cnt then f (sp + (j - dp)) else g j) (hlk : Cond.methodLink own idx arraycopyName ∈ TT) (hf : 1 ≤ rm.frames ∧ (st.map fun v => v.category).sum + (nativeFrameWords "java/lang/System" "arraycopy" 5 + 11) ≤ rm.locals) (d : decode cc pc = .ok (.invokestatic idx, 3))
    (kk : J E nL Γ (some A) k n (ws.set q1 (a1, aInt E N1 g')) (pc + 3) ls st) : J E nL Γ (some A) k n ws pc ls (.int (iZ cnt) :: .int (iZ dp) :: .ref a1 :: .int (iZ sp) :: .ref a0 :: st) := fun H locs hP hD hS L hL =>
  va_copyi G.1 G.2.1 (by rw [G.2.2.1, hL.1]) G.2.2.2.1 (G.2.2.2.2.1 _ hlk) (G.2.2.2.2.1 _ nat_copy) (G.2.2.2.2.1 _ stY_arraycopy) (G.2.2.2.2.1 _ iniY) G.2.2.2.2.2.1.1 hP hD hS.1 q0 q1 0 0 he0 he1 rfl rfl rfl
    (iZ_nneg h.1 (by omega)) (iZ_nneg h.2.1 (by omega)) (iZ_nneg h.2.2.1 (by omega)) (by rw [iZ_cl ⟨by omega, by omega⟩, iZ_cl ⟨by omega, by omega⟩]; omega) (by rw [iZ_cl ⟨by omega, by omega⟩, iZ_cl ⟨by omega, by omega⟩]; omega) (fun _ _ => rfl) (by rw [G.2.2.2.2.2.2.2.1]; exact hf.1) (by rw [G.2.2.2.2.2.2.2.1]; exact hf.2) d
    (fun H1 l1 hP1 hD1 hS1 => by
      rw [iZ_cl ⟨by omega, by omega⟩, iZ_cl ⟨by omega, by omega⟩, iZ_cl ⟨by omega, by omega⟩] at hP1 hD1
      have hl := (List.getElem?_eq_some_iff.mp he1).1
      have h2 := P_ext hP1 q1 (List.getElem?_set_self hl) (cpyI_at (g' := g') ⟨h.1, h.2.1, h.2.2.1⟩ hg)
      rw [List.set_set] at h2
      have h3 : va_D A (ws.set q1 (a1, aInt E N1 g')) := va_D.set hD he1
      exact kk H1 l1 h2 h3 ⟨hS1, hS.2⟩ L hL)
theorem j_copyL (G : Gd E nL Γ cc own rm) (q0 q1 : Nat) (he0 : ws[q0]? = some (a0, aLng E N0 f)) (he1 : ws[q1]? = some (a1, aLng E N1 g)) (h : 0 ≤ sp ∧ 0 ≤ dp ∧ 0 ≤ cnt ∧ sp + cnt ≤ N0 ∧ dp + cnt ≤ N1 ∧ (N0 : Int) ≤ 2147483647 ∧ (N1 : Int) ≤ 2147483647) (g' : Int → Int) (hg : ∀ j : Int, 0 ≤ j → j < N1 → g' j = if dp ≤ j ∧ j < dp + cnt then f (sp + (j - dp)) else g j) (hlk : Cond.methodLink own idx arraycopyName ∈ TT) (hf : 1 ≤ rm.frames ∧ (st.map fun v => v.category).sum + (nativeFrameWords "java/lang/System" "arraycopy" 5 + 11) ≤ rm.locals) (d : decode cc pc = .ok (.invokestatic idx, 3))
    (kk : J E nL Γ (some A) k n (ws.set q1 (a1, aLng E N1 g')) (pc + 3) ls st) : J E nL Γ (some A) k n ws pc ls (.int (iZ cnt) :: .int (iZ dp) :: .ref a1 :: .int (iZ sp) :: .ref a0 :: st) := fun H locs hP hD hS L hL =>
  va_copyl G.1 G.2.1 (by rw [G.2.2.1, hL.1]) G.2.2.2.1 (G.2.2.2.2.1 _ hlk) (G.2.2.2.2.1 _ nat_copy) (G.2.2.2.2.1 _ stY_arraycopy) (G.2.2.2.2.1 _ iniY) G.2.2.2.2.2.1.1 hP hD hS.1 q0 q1 1 1 he0 he1 rfl rfl rfl
    (iZ_nneg h.1 (by omega)) (iZ_nneg h.2.1 (by omega)) (iZ_nneg h.2.2.1 (by omega)) (by rw [iZ_cl ⟨by omega, by omega⟩, iZ_cl ⟨by omega, by omega⟩]; omega) (by rw [iZ_cl ⟨by omega, by omega⟩, iZ_cl ⟨by omega, by omega⟩]; omega) (fun _ _ => rfl) (by rw [G.2.2.2.2.2.2.2.1]; exact hf.1) (by rw [G.2.2.2.2.2.2.2.1]; exact hf.2) d
    (fun H1 l1 hP1 hD1 hS1 => by
      rw [iZ_cl ⟨by omega, by omega⟩, iZ_cl ⟨by omega, by omega⟩, iZ_cl ⟨by omega, by omega⟩] at hP1 hD1
      have hl := (List.getElem?_eq_some_iff.mp he1).1
      have h2 := P_ext hP1 q1 (List.getElem?_set_self hl) (cpyL_at (g' := g') ⟨h.1, h.2.1, h.2.2.1⟩ hg)
      rw [List.set_set] at h2
      have h3 : va_D A (ws.set q1 (a1, aLng E N1 g')) := va_D.set hD he1
      exact kk H1 l1 h2 h3 ⟨hS1, hS.2⟩ L hL)
end CPY
