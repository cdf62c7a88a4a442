def LawC (E : En) (Γ : Ctx) (A : Nat → Prop) (b0 Ls : Nat) (xs0 : Nat → Int32) (i : Int) (k n q : Nat) (tk : Nat → Option Nat) (qa : Nat → Nat) (B : Nat → Int) : Prop := Gd E 4 Γ code "CliffCarsLaw" room_1 ∧ va_X b0 Ls xs0 (xs Γ) (xs Γ).heap ∧ b0 < (xs Γ).heap.size ∧ (¬ A b0) ∧ (0 ≤ i ∧ i + 5 < Ls ∧ Ls ≤ 3072) ∧ (k + 24 ≤ 600000 ∧ n + 67 ≤ 7302250) ∧ q < 513 ∧ (∀ t : Nat, t < 6 → tk t = some (qa t)) ∧ (B 0 = 4 ∧ B 1 = 0 ∧ B 4 = 0)
theorem IvP_s {Z : Nat → Int} {kn : Int → Int} {q : Nat} (h : IvP Z kn q) : IvP Z kn (q + 1) := ⟨h.1, by have := h.2; omega⟩
theorem IvP_n {Z Z' : Nat → Int} {kn kn' : Int → Int} {q : Nat} {x : Int} (h : IvP Z kn q) (h1 : KnB x kn') (h2 : x ≤ Z 2 + 20) (e : Z' 2 = x) : IvP Z' kn' (q + 1) := ⟨by rw [e]; exact h1, by rw [e]; have := h.2; omega⟩
section
variable {wd nu fo to sg cl la po pt : Int → Int} {Fq : Int → Int → Int → Int} {ck : Nat → Option Nat} {ca : Nat → Nat} {dr sr : Nat → Int → Int} {nC : Nat} {x : Int}
theorem IvC_ms (h : IvC wd nu fo to sg cl Fq la po pt ck ca dr sr nC) (h2 : x < nC) (h0 : 0 ≤ x) : MSum wd nu fo to sg cl Fq x := by
  obtain ⟨t, rfl⟩ := Int.eq_ofNat_of_zero_le h0
  exact (h t (by omega)).2.1
theorem IvC_wm (h : IvC wd nu fo to sg cl Fq la po pt ck ca dr sr nC) (h2 : x < nC) (h0 : 0 ≤ x) : wfC (cM la po x) (pM pt x) := by
  obtain ⟨t, rfl⟩ := Int.eq_ofNat_of_zero_le h0
  exact (h t (by omega)).2.2.1
theorem dw_of {t : Nat} {u w : Int} (hM : MSum wd nu fo to sg cl Fq x) (hx : x = (t : Int)) (h5 : ∀ j, 0 ≤ j → j < 24 → dr t j = smM wd nu cl Fq (t : Int) 3 (j % 12) (j / 12) ∧ sr t j = smM wd nu cl Fq (t : Int) 7 (j % 12) (j / 12)) (hw : 0 ≤ w ∧ w ≤ 1) (hu : u = w) : ∀ s, 0 ≤ s → s ≤ 11 → dr t (12 * u + s) = smM wd nu cl Fq x 3 s w ∧ sr t (12 * u + s) = smM wd nu cl Fq x 7 s w ∧ (0 ≤ smM wd nu cl Fq x 3 s w ∧ smM wd nu cl Fq x 3 s w ≤ 11988) ∧ (0 ≤ smM wd nu cl Fq x 7 s w ∧ smM wd nu cl Fq x 7 s w ≤ 11988) := fun s h1 h2 => by
  subst hu
  obtain ⟨q1, q2⟩ := h5 (12 * u + s) (by omega) (by omega)
  rw [show (12 * u + s) % 12 = s by omega, show (12 * u + s) / 12 = u by omega, ← hx] at q1 q2
  exact ⟨q1, q2, smM_r hM _ _ _, smM_r hM _ _ _⟩
end
theorem comeG_r {co : Int → Int} {a b c : Int} (h : ∀ j, 0 ≤ j → j < 24 → 0 ≤ co j ∧ co j ≤ 6) : ∀ j, 0 ≤ j → j < 24 → 0 ≤ comeG co a b c j ∧ comeG co a b c j ≤ 6 := fun j h1 h2 => by
  unfold comeG
  split
  · split
    · unfold upI; split
      · omega
      · exact h j h1 h2
    · exact h j h1 h2
  · exact h j h1 h2
theorem IvN_o {co so si pr : Int → Int} {S S' : Nat → Int} {a b c : Int} (h : IvN co so si pr (S 48)) (ha : 0 ≤ a ∧ a ≤ 3) (hb : (1 ≤ b ∧ b ≤ 20) ∧ (0 ≤ c ∧ c ≤ 99)) (e : S' 48 = S 48 + 1) : IvN co (upI so (S 48) a) (upI si (S 48) b) (upI pr (S 48) c) (S' 48) := ⟨h.1, fun j h1 h2 => by
  unfold upI
  by_cases z : j = S 48
  · rw [if_pos z, if_pos z, if_pos z]; exact ⟨ha, hb.1, hb.2⟩
  · rw [if_neg z, if_neg z, if_neg z]; exact h.2 j h1 (by omega)⟩
theorem acL_len (k a : Int) : ((acL k a).length : Int) ≤ 20 := by
  have h1 := goL_len k
  have h2 := hoL_len k k
  have h3 := teL_len k k
  unfold acL; (repeat' split) <;> omega
theorem rW_r {rm : Int → Int} {u : Nat} (h : ∀ j, 0 ≤ j → j < 144 → 0 ≤ rm j ∧ rm j ≤ 1) (hu : u < 12) (j : Int) : 0 ≤ rW rm u j ∧ rW rm u j ≤ 1 := by
  unfold rW
  split
  · exact h _ (by omega) (by omega)
  · decide
theorem tI_r32 {ts tl it : Int → Int} {u : Nat} (h : IvK ts tl it) (hu : u < 6) (hs : tU ts tl u 0 < 0 ∨ tU ts tl u 0 = 2) (j : Int) : R32 (tI it u j) := by
  unfold tI
  split
  · exact h.2.2 u j (by omega) (by omega) (by omega) (by omega) hs
  · decide
theorem dy_c {K : Dy} {g g' : Int → Int → Int} {st0 : Int} (h : ∀ s st, 0 ≤ s → g s st = g' s st) : ∀ m, dyT K g st0 m = dyT K g' st0 m
  | 0 => rfl
  | m + 1 => by
    unfold dyT
    rw [dy_c h m]
    unfold gO
    rw [h m _ (by omega)]
theorem dyA_c {K : Dy} {g g' : Int → Int → Int} {st0 : Int} {f : Int → Int → Int} (h : ∀ s st, 0 ≤ s → g s st = g' s st) : ∀ m, dyA K g st0 f m = dyA K g' st0 f m
  | 0 => rfl
  | m + 1 => by
    unfold dyA
    rw [dyA_c h m, dy_c h m]
    unfold gO
    rw [h m _ (by omega)]
theorem dyL_c {K : Dy} {g g' : Int → Int → Int} {st0 : Int} (h : ∀ s st, 0 ≤ s → g s st = g' s st) : ∀ m, dyL K g st0 m = dyL K g' st0 m
  | 0 => rfl
  | m + 1 => by
    unfold dyL
    rw [dyL_c h m, dy_c h m]
theorem dyQ_c {K : Dy} {g g' : Int → Int → Int} {st0 : Int} (h : ∀ s st, 0 ≤ s → g s st = g' s st) : ∀ m, dyQ K g st0 m = dyQ K g' st0 m
  | 0 => rfl
  | m + 1 => by
    unfold dyQ
    rw [dyQ_c h m, dy_c h (m + 1)]
theorem dayN_c {K : Dy} {g g' : Int → Int → Int} {st0 a : Int} (h : ∀ s st, 0 ≤ s → g s st = g' s st) (ha : (0 ≤ a ∧ a ≤ 5) ∨ (10 ≤ a ∧ a ≤ 21)) : dayN K g st0 a = dayN K g' st0 a := by
  unfold dayN
  rw [dyA_c h, dyA_c h, dyA_c h, dyQ_c h, dyL_c h, dy_c h]
  by_cases z : 10 ≤ a
  · have e : dyP K g st0 (a - 10) = dyP K g' st0 (a - 10) := by
      unfold dyP
      rw [dy_c h]
      unfold gO
      rw [h _ _ (by omega)]
    rw [e]
  · (repeat' split) <;> first | rfl | (exfalso; omega)
theorem ldI_c {K : Dy} {k n s st hd : Int} {rm : Int → Int} {u : Nat} (h0 : 0 ≤ s) (hh : hd ≤ 12) : ldI K k n s st hd (rW rm u) = ldI K k n s st hd (fun j => rm (12 * (u : Int) + j)) := by
  by_cases z : s < hd
  · have e : rW rm u s = rm (12 * (u : Int) + s) := if_pos ⟨h0, by omega⟩
    unfold ldI
    rw [e]
  · unfold ldI
    simp only [z, false_and]
theorem juF_c {C : Nat → Int} {P : Int → Int} {D : Int → Int} {K : Dy} {so ln i : Int} {it : Int → Int} {u : Nat} (hl : ln ≤ 60) : ∀ (m : Nat) (s st : Int), 0 ≤ s → juF C P D K so ln 0 i (tI it u) m s st = juF C P D K so ln (60 * (u : Int)) i it m s st
  | 0, _, _, _ => rfl
  | m + 1, s, st, h0 => by
    rw [juF_s, juF_s]
    by_cases c : so < 0 ∨ i < 0 ∨ ln - s - 1 < i
    · rw [if_pos c, if_pos c]
    · have e : tI it u (0 + i + s) = it (60 * (u : Int) + i + s) := by
        unfold tI
        rw [if_pos (by omega)]
        congr 1
        omega
      rw [if_neg c, if_neg c, e, juF_c hl m (s + 1) _ (by omega), juF_c hl m (s + 1) _ (by omega)]
theorem o6_e {r : Option Nat} {S S' : Nat → Int} (h0 : S 0 = S' 0) (h1 : S 1 = S' 1) : o6 r S = o6 r S' := by unfold o6; rw [h0, h1]
theorem o4_e {r : Option Nat} {S S' : Nat → Int} (h0 : S 0 = S' 0) (h1 : S 1 = S' 1) (h2 : S 2 = S' 2) (h4 : S 4 = S' 4) : o4 r S = o4 r S' := by unfold o4; rw [h0, h1, h2, h4]
theorem op3c {L F1 F2 m : va_W} {n t : Nat} {f g : Nat → va_W} (h : t < n) (hm : m = g t) (hc : ∀ j, j < n → j ≠ t → f j = g j) : ((L ++ m) ++ (F1 ++ (F2 ++ famx n t f))).Perm (L ++ (F1 ++ (F2 ++ fam n g))) := by
  rw [hm, famx_congr hc]
  exact (op3 h).symm
theorem op3yc {L F1 F2 m : va_W} {n t o : Nat} {f g : Nat → va_W} (h : t < n) (h2 : o < n) (ho : o ≠ t) (hm : m = g t ++ g o) (hc : ∀ j, j < n → j ≠ t → j ≠ o → f j = g j) : ((L ++ m) ++ (F1 ++ (F2 ++ famy n t o f))).Perm (L ++ (F1 ++ (F2 ++ fam n g))) := by
  rw [hm, famy_congr hc]
  exact (op3y h h2 ho).symm
theorem op2c {L F τ m : va_W} {n t : Nat} {f g : Nat → va_W} (h : t < n) (hm : m = g t) (hc : ∀ j, j < n → j ≠ t → f j = g j) : ((L ++ m) ++ (F ++ (famx n t f ++ τ))).Perm (L ++ (F ++ (fam n g ++ τ))) := by
  rw [hm, famx_congr hc]
  exact (op2 h).symm
section
variable {E : En} {qa qi : Nat → Nat} {ts tl it : Int → Int} {u z : Nat} {w a b c : Int}
theorem fT_same : [(qa u, o6 (some (qi u)) (upS (upS (tU ts tl u) 0 (tU ts tl u 0)) 1 (tU ts tl u 1))), (qi u, aLng E 60 (tI it u))] = fT E qa qi ts tl it u := by
  unfold fT
  rw [o6_e (S' := tU ts tl u) (by simp [upS]) (by simp [upS])]
theorem fT_tape (hu : w = (u : Int)) : [(qa u, o6 (some (qi u)) (upS (upS (tU ts tl u) 0 a) 1 b)), (qi u, aLng E 60 (fun _ => 0))] = fT E qa qi (upI ts w a) (upI tl w b) (tapeI it w) u := by
  subst hu
  have e : tI (tapeI it (u : Int)) u = fun _ => 0 := by
    funext j
    unfold tI tapeI
    split
    · rw [if_pos (by omega)]
    · rfl
  unfold fT
  rw [e, o6_e (S' := tU (upI ts u a) (upI tl u b) u) (by simp [upS, tU, upI]) (by simp [upS, tU, upI])]
theorem fT_other (hu : w = (u : Int)) {j : Nat} (_h : j < 6) (hj : j ≠ u) : fT E qa qi ts tl it j = fT E qa qi (upI ts w a) (upI tl w b) (tapeI it w) j := by
  subst hu
  have e : tI (tapeI it (u : Int)) j = tI it j := by
    funext k
    unfold tI tapeI
    split
    · rw [if_neg (by omega)]
    · rfl
  have e2 : tU (upI ts u a) (upI tl u b) j = tU ts tl j := by
    have x1 : upI ts u a j = ts j := upI_ne (by omega)
    have x2 : upI tl u b j = tl j := upI_ne (by omega)
    unfold tU
    rw [x1, x2]
  unfold fT
  rw [e, e2]
theorem fT_item (hu : w = (u : Int)) (hi : 0 ≤ a ∧ a < 60) : [(qa u, o6 (some (qi u)) (tU ts tl u)), (qi u, aLng E 60 (upI (tI it u) a b))] = fT E qa qi ts tl (upI it (60 * w + a) b) u := by
  subst hu
  have e : upI (tI it u) a b = tI (upI it (60 * (u : Int) + a) b) u := by
    funext k
    by_cases c : k = a
    · rw [c, upI_eq]
      show b = if 0 ≤ a ∧ a < 60 then upI it (60 * (u : Int) + a) b (60 * (u : Int) + a) else 0
      rw [if_pos (by omega), upI_eq]
    · rw [upI_ne c]
      show (if 0 ≤ k ∧ k < 60 then it (60 * (u : Int) + k) else 0) = if 0 ≤ k ∧ k < 60 then upI it (60 * (u : Int) + a) b (60 * (u : Int) + k) else 0
      rw [upI_ne (by omega)]
  unfold fT
  rw [e]
theorem fT_oi (hu : w = (u : Int)) (hi : 0 ≤ a ∧ a < 60) {j : Nat} (hj : j ≠ u) : fT E qa qi ts tl it j = fT E qa qi ts tl (upI it (60 * w + a) b) j := by
  subst hu
  have e : tI (upI it (60 * (u : Int) + a) b) j = tI it j := by
    funext k
    unfold tI upI
    split
    · rw [if_neg (by omega)]
    · rfl
  unfold fT
  rw [e]
theorem tI_sh {w3 n : Int} (hu : w = (u : Int)) (hz : w3 = (z : Int)) (hi : n ≤ 0 ∨ (0 ≤ a ∧ a + n ≤ 60)) (hj : n ≤ 0 ∨ (0 ≤ b ∧ b + n ≤ 60)) : (fun q => if b ≤ q ∧ q < b + n then tI it u (a + (q - b)) else tI it z q) = tI (shiftI it w a w3 b n) z := by
  subst hu hz
  funext q
  unfold tI shiftI
  by_cases c : b ≤ q ∧ q < b + n
  · rw [if_pos c, if_pos (by omega), if_pos (by omega), if_pos (by omega)]
    congr 1
    omega
  · rw [if_neg c]
    split
    · rw [if_neg (by omega)]
    · rfl
theorem fT_os {w3 n : Int} (hz : w3 = (z : Int)) (hj : n ≤ 0 ∨ (0 ≤ b ∧ b + n ≤ 60)) {j : Nat} (h2 : j ≠ z) : fT E qa qi ts tl it j = fT E qa qi ts tl (shiftI it w a w3 b n) j := by
  subst hz
  have e : tI (shiftI it w a (z : Int) b n) j = tI it j := by
    funext k
    unfold tI shiftI
    split
    · rw [if_neg (by omega)]
    · rfl
  unfold fT
  rw [e]
theorem fT_sh {w3 n : Int} (hu : w = (z : Int)) (hz : w3 = (z : Int)) (hi : n ≤ 0 ∨ (0 ≤ a ∧ a + n ≤ 60)) (hj : n ≤ 0 ∨ (0 ≤ b ∧ b + n ≤ 60)) : [(qa z, o6 (some (qi z)) (tU ts tl z)), (qi z, aLng E 60 (fun q => if b ≤ q ∧ q < b + n then tI it z (a + (q - b)) else tI it z q))] = fT E qa qi ts tl (shiftI it w a w3 b n) z := by
  rw [tI_sh hu hz hi hj]
  rfl
theorem fT_sh2 {w3 n : Int} (hu : w = (u : Int)) (hz : w3 = (z : Int)) (hi : n ≤ 0 ∨ (0 ≤ a ∧ a + n ≤ 60)) (hj : n ≤ 0 ∨ (0 ≤ b ∧ b + n ≤ 60)) (hzu : z ≠ u) : [(qa u, o6 (some (qi u)) (tU ts tl u)), (qi u, aLng E 60 (tI it u)), (qa z, o6 (some (qi z)) (tU ts tl z)), (qi z, aLng E 60 (fun q => if b ≤ q ∧ q < b + n then tI it u (a + (q - b)) else tI it z q))] = fT E qa qi ts tl (shiftI it w a w3 b n) u ++ fT E qa qi ts tl (shiftI it w a w3 b n) z := by
  rw [tI_sh hu hz hi hj, ← fT_os (E := E) (qa := qa) (qi := qi) (ts := ts) (tl := tl) (it := it) (w := w) (a := a) hz hj (Ne.symm hzu)]
  rfl
end
theorem nar_r {s v : Int} (h : R64 v) : R64 (nar s v) := by
  have a := iZ_r ((iZ v).toInt8.toInt32)
  have b := iZ_r ((iZ v).toInt16.toInt32)
  have c := iZ_r (iZ v)
  unfold nar
  (repeat' split) <;> omega
theorem nar_2 {v : Int} : R32 (nar 2 v) := by
  have c := iZ_r (iZ v)
  exact c
theorem IvK_t {ts tl it : Int → Int} {a b c : Int} (h : IvK ts tl it) (ho : tapeOk a b c) : IvK (upI ts a b) (upI tl a (tapeL b c)) (tapeI it a) := by
  obtain ⟨h1, h2, h3⟩ := h
  obtain ⟨o1, o2, o3, o4⟩ := ho
  refine ⟨fun j q1 q2 => ?_, fun j q1 q2 => ?_, fun t j q1 q2 q3 q4 q5 => ?_⟩
  · unfold upI
    by_cases z : j = a
    · rw [if_pos z, if_pos z]
      unfold tapeL
      split <;> omega
    · rw [if_neg z, if_neg z]
      exact h1 j q1 q2
  · unfold tapeI
    split
    · decide
    · exact h2 j q1 q2
  · unfold tapeI
    split
    · decide
    · unfold upI at q5
      rw [if_neg (by omega)] at q5
      exact h3 t j q1 q2 q3 q4 q5
theorem IvK_i {ts tl it : Int → Int} {a b w : Int} (h : IvK ts tl it) (ho : itemOk ts tl a b) (hw : R64 w) : IvK ts tl (upI it (60 * a + b) (nar (ts a) w)) := by
  obtain ⟨h1, h2, h3⟩ := h
  obtain ⟨o1, o2, o3⟩ := ho
  refine ⟨h1, fun j q1 q2 => ?_, fun t j q1 q2 q3 q4 q5 => ?_⟩
  · unfold upI
    split
    · exact nar_r hw
    · exact h2 j q1 q2
  · unfold upI
    have hl := (h1 a (by omega) (by omega)).2.1
    split
    · have e : t = a := by omega
      subst e
      rw [q5.resolve_left o2]
      exact nar_2
    · exact h3 t j q1 q2 q3 q4 q5
theorem IvK_s {ts tl it : Int → Int} {t i o j n : Int} (h : IvK ts tl it) (ho : shiftOk ts tl t i o j n) : IvK ts tl (shiftI it t i o j n) := by
  obtain ⟨h1, h2, h3⟩ := h
  obtain ⟨o1, o2, o3, o4⟩ := ho
  have hl := (h1 t (by omega) (by omega)).2.1
  have hl2 := (h1 o (by omega) (by omega)).2.1
  refine ⟨h1, fun k q1 q2 => ?_, fun s k q1 q2 q3 q4 q5 => ?_⟩
  · unfold shiftI
    split
    · exact h2 _ (by omega) (by omega)
    · exact h2 k q1 q2
  · unfold shiftI
    split
    · have e : s = o := by omega
      subst e
      rw [show 60 * t + i + (60 * s + k - (60 * s + j)) = 60 * t + (i + (k - j)) by omega]
      exact h3 t _ (by omega) (by omega) (by omega) (by omega) (by rw [o3]; exact q5)
    · exact h3 s k q1 q2 q3 q4 q5
theorem op2p {L F τ : va_W} {n : Nat} {f g : Nat → va_W} (hc : ∀ j, j < n → f j = g j) : ((L ++ g n) ++ (F ++ (fam n f ++ τ))).Perm (L ++ (F ++ (fam (n + 1) g ++ τ))) := by
  rw [fam_push, fam_congr hc, List.append_assoc]
  refine List.Perm.append_left L ?_
  rw [← List.append_assoc, List.append_assoc (fam n g)]
  refine (List.perm_append_comm.append_right _).trans ?_
  rw [List.append_assoc]
  refine List.Perm.append_left F ?_
  rw [← List.append_assoc, ← List.append_assoc]
  exact List.perm_append_comm.append_right _
section
variable {E : En} {ra rr : Nat → Nat} {nra nrr nR N u : Nat} {kd vv hd rm : Int → Int} {w1 w2 x y w b : Int}
theorem fR_new (hx : x = (nR : Int)) (hy : y = (nR : Int)) (hN : N = if w1 = 6 then 12 else 0) (hz : ∀ j, 12 * (nR : Int) ≤ j → j < 144 → rm j = 0) (hn : nR < 12) : [(nra, o4 (some nrr) (upS (upS (upS (fun _ => 0) 0 w1) 1 w2) 2 x)), (nrr, aInt E N (fun _ => 0))] = fR E (va_up ra nR nra) (va_up rr nR nrr) (upI kd y w1) (upI vv y w2) (upI hd y 0) rm nR := by
  subst hx hy
  have e1 : va_up ra nR nra nR = nra := if_pos rfl
  have e2 : va_up rr nR nrr nR = nrr := if_pos rfl
  have e3 : rL (upI kd (nR : Int) w1) nR = N := by unfold rL; rw [upI_eq, hN]
  have e4 : rW rm nR = fun _ => 0 := by
    funext j
    unfold rW
    split
    · exact hz _ (by omega) (by omega)
    · rfl
  have e5 : o4 (some nrr) (rU (upI kd (nR : Int) w1) (upI vv (nR : Int) w2) (upI hd (nR : Int) 0) nR) = o4 (some nrr) (upS (upS (upS (fun _ => 0) 0 w1) 1 w2) 2 (nR : Int)) := o4_e (by simp [upS, rU, upI]) (by simp [upS, rU, upI]) (by simp [upS, rU]) (by simp [upS, rU, upI])
  unfold fR
  rw [e1, e2, e3, e4, e5]
theorem fR_oth (hy : y = (nR : Int)) {j : Nat} (hj : j < nR) : fR E ra rr kd vv hd rm j = fR E (va_up ra nR nra) (va_up rr nR nrr) (upI kd y w1) (upI vv y w2) (upI hd y 0) rm j := by
  subst hy
  have e1 : va_up ra nR nra j = ra j := if_neg (by omega)
  have e2 : va_up rr nR nrr j = rr j := if_neg (by omega)
  have e3 : upI kd (nR : Int) w1 j = kd j := upI_ne (by omega)
  have e4 : upI vv (nR : Int) w2 j = vv j := upI_ne (by omega)
  have e5 : upI hd (nR : Int) 0 j = hd j := upI_ne (by omega)
  unfold fR rL rU
  rw [e1, e2, e3, e4, e5]
theorem IvR_new {rk : Nat → Option Nat} (h : IvR kd vv hd rm rk ra nR) (hk : 0 ≤ w1 ∧ w1 ≤ 6) (hv : 0 ≤ w2 ∧ w2 ≤ 20) (hy : y = (nR : Int)) (hp : x = (nR : Int)) (hn : nR < 12) : IvR (upI kd y w1) (upI vv y w2) (upI hd y 0) rm (va_up rk x.toNat (some nra)) (va_up ra nR nra) (nR + 1) := by
  subst hy hp
  obtain ⟨h1, h2, h3, h4⟩ := h
  refine ⟨fun t ht => ?_, fun j q1 q2 => ?_, h3, fun j q1 q2 => h4 j (by omega) q2⟩
  · unfold va_up
    by_cases z : t = nR
    · rw [if_pos (by omega), if_pos z]
    · rw [if_neg (by omega), if_neg z]; exact h1 t (by omega)
  · by_cases z : j = (nR : Int)
    · rw [z, upI_eq, upI_eq, upI_eq]; omega
    · rw [upI_ne z, upI_ne z, upI_ne z]; exact h2 j q1 q2
theorem rL_r (h : 0 ≤ hd u ∧ hd u ≤ 12) (h0 : ¬ kd u = 6 → hd u = 0) : 0 ≤ rU kd vv hd u 4 ∧ rU kd vv hd u 4 ≤ (rL kd u : Int) ∧ (rL kd u : Int) ≤ 12 := by
  have e : rU kd vv hd u 4 = hd u := rfl
  rw [e]
  unfold rL
  split <;> omega
theorem fR_row (hu : w = (u : Int)) (h : 0 ≤ hd w ∧ hd w < 12) : [(ra u, o4 (some (rr u)) (upS (rU kd vv hd u) 4 (hd w + 1))), (rr u, aInt E (rL kd u) (upI (rW rm u) (hd w) b))] = fR E ra rr kd vv (upI hd w (hd w + 1)) (upI rm (12 * w + hd w) b) u := by
  subst hu
  have e4 : upI (rW rm u) (hd u) b = rW (upI rm (12 * (u : Int) + hd u) b) u := by
    funext k
    by_cases c : k = hd u
    · rw [c, upI_eq]
      show b = if 0 ≤ hd u ∧ hd u < 12 then upI rm (12 * (u : Int) + hd u) b (12 * (u : Int) + hd u) else 0
      rw [if_pos (by omega), upI_eq]
    · rw [upI_ne c]
      show (if 0 ≤ k ∧ k < 12 then rm (12 * (u : Int) + k) else 0) = if 0 ≤ k ∧ k < 12 then upI rm (12 * (u : Int) + hd u) b (12 * (u : Int) + k) else 0
      rw [upI_ne (by omega)]
  have e5 : o4 (some (rr u)) (rU kd vv (upI hd (u : Int) (hd u + 1)) u) = o4 (some (rr u)) (upS (rU kd vv hd u) 4 (hd u + 1)) := o4_e (by simp [upS, rU]) (by simp [upS, rU]) (by simp [upS, rU]) (by simp [upS, rU, upI])
  unfold fR
  rw [e4, e5]
theorem fR_or (hu : w = (u : Int)) {j : Nat} (hj : j ≠ u) (h : 0 ≤ hd w ∧ hd w < 12) : fR E ra rr kd vv hd rm j = fR E ra rr kd vv (upI hd w (hd w + 1)) (upI rm (12 * w + hd w) b) j := by
  subst hu
  have e1 : upI hd (u : Int) (hd u + 1) j = hd j := upI_ne (by omega)
  have e2 : rW (upI rm (12 * (u : Int) + hd u) b) j = rW rm j := by
    funext k
    unfold rW upI
    split
    · rw [if_neg (by omega)]
    · rfl
  unfold fR rU
  rw [e1, e2]
theorem IvR_row {rk : Nat → Option Nat} (h : IvR kd vv hd rm rk ra nR) (ho : rowOk x kd hd w b) (hx : x = (nR : Int)) (hn : 0 ≤ x ∧ x ≤ 12) : IvR kd vv (upI hd w (hd w + 1)) (upI rm (12 * w + hd w) b) rk ra nR := by
  obtain ⟨h1, h2, h3, h4⟩ := h
  obtain ⟨o1, o2, o3, o4⟩ := ho
  have hh := (h2 w (by omega) (by omega)).2.2.1
  refine ⟨h1, fun j q1 q2 => ?_, fun j q1 q2 => ?_, fun j q1 q2 => ?_⟩
  · by_cases z : j = w
    · rw [z, upI_eq]
      have h9 := h2 w (by omega) (by omega)
      exact ⟨h9.1, h9.2.1, by omega, fun c => absurd o3 c⟩
    · rw [upI_ne z]; exact h2 j q1 q2
  · unfold upI
    split
    · omega
    · exact h3 j q1 q2
  · rw [upI_ne (by omega)]; exact h4 j q1 q2
end
theorem vP_app {D : va_G} {cl : List vw_C} {a b : va_W} {H : Heap} : va_P D cl (a ++ b) H ↔ va_P D cl a H ∧ va_P D cl b H := by
  rw [vP_mem, vP_mem, vP_mem]
  exact List.forall_mem_append
theorem vP_cons {D : va_G} {cl : List vw_C} {q : Nat × va_E} {b : va_W} {H : Heap} : va_P D cl (q :: b) H ↔ va_at D cl q H ∧ va_P D cl b H := by
  rw [vP_mem, vP_mem]
  exact List.forall_mem_cons
theorem j_ext2 {E : En} {nL : Nat} {Γ : Ctx} {md : Option (Nat → Prop)} {k n : Nat} {ws ws' : va_W} {pc : Nat} {ls : List (Nat × Value)} {st : List Value} (h : ∀ H, va_P (eD E) vwCl ws H → va_P (eD E) vwCl ws' H) (ha : ws.map Prod.fst = ws'.map Prod.fst) (kk : J E nL Γ md k n ws' pc ls st) : J E nL Γ md k n ws pc ls st := fun H locs hP hD hS L hL => kk H locs (h H hP) (by
  cases md with
  | none => trivial
  | some A =>
    have e := vD_mem.mp hD
    refine vD_mem.mpr ⟨ha ▸ e.1, fun q hq => ?_⟩
    have q1 : q.1 ∈ ws.map Prod.fst := by rw [ha]; exact List.mem_map_of_mem hq
    obtain ⟨r, hr, he⟩ := List.mem_map.mp q1
    rw [← he]
    exact e.2 r hr) hS L hL
theorem txF_01 (U : Int → Int) (n : Int) : ∀ m i, (txF U n m i).1 = 0 ∨ (txF U n m i).1 = 1
  | 0, _ => Or.inl rfl
  | m + 1, i => by
    unfold txF
    split
    · split
      · exact Or.inr rfl
      · split
        · exact Or.inl rfl
        · exact txF_01 U n m (i + 1)
    · exact Or.inl rfl
theorem rP_01 {sg : Int → Int} {s q a n : Int} {p : Int → Int} (hp : ∀ j, p j = 0 ∨ p j = 1) : ∀ (m : Nat) (j : Int), rP sg s q a n p m j = 0 ∨ rP sg s q a n p m j = 1
  | 0, j => hp j
  | m + 1, j => by
    have ih := rP_01 (sg := sg) (s := s) (q := q) (a := a) (n := n) hp m
    unfold rP stP
    split
    · unfold upI notV
      split
      · split <;> omega
      · exact ih j
    · split
      · unfold upI
        split
        · unfold andV orV
          (repeat' split) <;> omega
        · exact ih j
      · unfold upI
        split
        · unfold tstV
          (repeat' split) <;> omega
        · exact ih j
theorem PF_01 {sg : Int → Int} {a b : Int} {f : Int → Int → Int} (h : PF sg a b f) (hb : b - a ≤ 100) (s q : Int) : f s q = 0 ∨ f s q = 1 := by
  have e := ((h.2 0 (Int.le_refl 0) (by omega)).2.2 s q (fun _ => 0)).1
  rw [← e]
  exact rP_01 (fun _ => Or.inl rfl) _ _
theorem smC_c {wd nu wd1 nu1 : Int → Int} {F F1 : Int → Int → Int → Int} {w s q c0 : Int} : ∀ m : Nat, (∀ c, c0 ≤ c → c < c0 + m → wd1 c = wd c ∧ nu1 c = nu c ∧ F1 c = F c) → smC wd1 nu1 F1 w s q c0 m = smC wd nu F w s q c0 m
  | 0, _ => rfl
  | m + 1, h => by
    have ih := smC_c (w := w) (s := s) (q := q) m (fun c h1 h2 => h c h1 (by omega))
    obtain ⟨e1, e2, e3⟩ := h (c0 + m) (by omega) (by omega)
    unfold smC
    rw [ih, e1, e2, e3]
theorem cM_c {la po la1 po1 : Int → Int} {t : Int} (h : ∀ k, 0 ≤ k → k < 9 → la1 (9 * t + k) = la (9 * t + k)) (h2 : po1 t = po t) : cM la1 po1 t = cM la po t := by
  unfold cM
  rw [h2, h 1 (by omega) (by omega), h 2 (by omega) (by omega), h 4 (by omega) (by omega), h 5 (by omega) (by omega), h 6 (by omega) (by omega), h 8 (by omega) (by omega)]
theorem wfC_p {C : Nat → Int} {P P1 : Int → Int} (h : wfC C P) (e : ∀ j, 0 ≤ j → j < 5 → P1 j = P j) : wfC C P1 := ⟨h.1, fun j h1 h2 => by rw [e j h1 h2]; exact h.2.1 j h1 h2, h.2.2⟩
section
variable {wd nu fo to sg cl la po pt wd1 nu1 fo1 to1 sg1 cl1 la1 po1 pt1 : Int → Int} {Fq F1 : Int → Int → Int → Int} {ck ck1 : Nat → Option Nat} {ca ca1 : Nat → Nat} {dr sr dr1 sr1 : Nat → Int → Int} {nC : Nat} {x : Int}
theorem IvC_out (hx : x = (nC : Int)) (h : IvC wd nu fo to sg cl Fq la po pt ck ca dr sr nC) (a1 : Out (12 * x) (12 * x + 12) wd wd1) (a2 : Out (12 * x) (12 * x + 12) nu nu1) (a3 : Out (12 * x) (12 * x + 12) fo fo1) (a4 : Out (12 * x) (12 * x + 12) to to1) (a5 : ∀ j, j < 100 * x → sg1 j = sg j) (a6 : Only x cl cl1) (a7 : Out (9 * x) (9 * x + 9) la la1) (a8 : Only x po po1) (a9 : Out (5 * x) (5 * x + 5) pt pt1) (b1 : ∀ t, t < nC → ck1 t = ck t ∧ ca1 t = ca t ∧ dr1 t = dr t ∧ sr1 t = sr t) (b2 : ∀ c, c < 12 * x → F1 c = Fq c) : IvC wd1 nu1 fo1 to1 sg1 cl1 F1 la1 po1 pt1 ck1 ca1 dr1 sr1 nC := fun t ht => by
  obtain ⟨c1, c2, c3, c4, c5⟩ := h t ht
  obtain ⟨d1, d2, d3, d4⟩ := b1 t ht
  have ecl : cl1 t = cl t := a6 t (by omega)
  have hcl := c2.1
  have ew : ∀ c, 12 * (t : Int) ≤ c → c < 12 * (t : Int) + cl t → wd1 c = wd c ∧ nu1 c = nu c ∧ fo1 c = fo c ∧ to1 c = to c ∧ F1 c = Fq c := fun c q1 q2 => ⟨a1 c (by omega), a2 c (by omega), a3 c (by omega), a4 c (by omega), b2 c (by omega)⟩
  have esm : ∀ w s q, smM wd1 nu1 cl1 F1 (t : Int) w s q = smM wd nu cl Fq (t : Int) w s q := fun w s q => by
    unfold smM
    rw [ecl]
    exact smC_c _ (fun c q1 q2 => by
      obtain ⟨r1, r2, _, _, r5⟩ := ew c q1 (by omega)
      exact ⟨r1, r2, r5⟩)
  refine ⟨by rw [d1, d2]; exact c1, ⟨by rw [ecl]; exact hcl, fun c q1 q2 => ?_⟩, ?_, fun c q1 q2 q3 => ?_, fun j q1 q2 => ?_⟩
  · rw [ecl] at q2
    obtain ⟨r1, r2, r3, r4, r5⟩ := ew c q1 q2
    obtain ⟨s1, s2, s3⟩ := c2.2 c q1 q2
    rw [r1, r2, r3, r4, r5]
    refine ⟨s1, s2, fun z => ?_⟩
    obtain ⟨u1, u2, u3⟩ := s3 z
    have u4 := c4 c q1 q2 z
    exact ⟨PF_ext u1 (fun j k1 k2 => a5 j (by omega)), u2, u3⟩
  · rw [cM_c (la := la) (po := po) (fun k k1 k2 => a7 _ (by omega)) (a8 t (by omega))]
    exact wfC_p c3 (fun j k1 k2 => a9 _ (by omega))
  · rw [ecl] at q2
    obtain ⟨r1, r2, r3, r4, r5⟩ := ew c q1 q2
    rw [r1] at q3
    rw [r4]
    exact c4 c q1 q2 q3
  · rw [d3, d4, esm, esm]
    exact c5 j q1 q2
noncomputable def FqN (Fq : Int → Int → Int → Int) (tx : Int → Int) (n : Int) (nC : Nat) : Int → Int → Int → Int := fun c => if c < 12 * (nC : Int) then Fq c else clV tx n (cpos tx n (c - 12 * (nC : Int)).toNat)
theorem smC_sw {tx : Int → Int} {n w j : Int} (hx : x = (nC : Int)) (hj : 0 ≤ j ∧ j < 24) : ∀ m : Nat, (∀ i : Nat, i < m → wd1 (12 * x + i) = hdK tx n (cpos tx n i) ∧ nu1 (12 * x + i) = clN tx n (cpos tx n i)) → smC wd1 nu1 (FqN Fq tx n nC) w (j % 12) (j / 12) (12 * x) m = swF tx n w j m
  | 0, _ => rfl
  | m + 1, h => by
    have ih := smC_sw (w := w) hx hj m (fun i hi => h i (by omega))
    obtain ⟨e1, e2⟩ := h m (by omega)
    have e3 : FqN Fq tx n nC (12 * x + (m : Int)) = clV tx n (cpos tx n m) := by
      unfold FqN
      rw [if_neg (by omega), show (12 * x + (m : Int) - 12 * (nC : Int)).toNat = m by omega]
    unfold smC swF
    rw [ih, e1, e2, e3]
    by_cases c : hdK tx n (cpos tx n m) = w
    · rw [if_pos c]
      by_cases d : clV tx n (cpos tx n m) (j % 12) (j / 12) = 0
      · rw [if_pos d, if_neg (fun z => z.2 d)]
      · rw [if_neg d, if_pos ⟨c, d⟩]
    · rw [if_neg c, if_neg (fun z => c z.1)]
theorem IvC_new {tx : Int → Int} {n y : Int} {ca9 : Nat} {dr9 sr9 : Int → Int} (hx : x = (nC : Int)) (h : IvC wd nu fo to sg cl Fq la po pt ck ca dr sr nC) (a1 : Out (12 * x) (12 * x + 12) wd wd1) (a2 : Out (12 * x) (12 * x + 12) nu nu1) (a3 : Out (12 * x) (12 * x + 12) fo fo1) (a4 : Out (12 * x) (12 * x + 12) to to1) (a5 : ∀ j, j < 100 * x → sg1 j = sg j) (a6 : Only x cl cl1) (a7 : Out (9 * x) (9 * x + 9) la la1) (a8 : Only x po po1) (a9 : Out (5 * x) (5 * x + 5) pt pt1) (hy : y = (nC : Int)) (gN : 1 ≤ cl1 x ∧ cl1 x ≤ 12) (gC : ∀ i : Nat, (i : Int) < cl1 x → ClF tx n wd1 nu1 fo1 to1 sg1 (100 * x) (100 * x + 100) i (12 * x + i)) (gW : wfC (cM la1 po1 x) (pM pt1 x)) (hd : ∀ j, 0 ≤ j → j < 24 → dr9 j = swF tx n 3 j (cl1 x).toNat ∧ sr9 j = swF tx n 7 j (cl1 x).toNat) (h4 : x ≤ 3) : IvC wd1 nu1 fo1 to1 sg1 cl1 (FqN Fq tx n nC) la1 po1 pt1 (va_up ck y.toNat (some ca9)) (va_up ca nC ca9) (va_up dr nC dr9) (va_up sr nC sr9) (nC + 1) := fun t ht => by
  by_cases z : t < nC
  · refine IvC_out (F1 := FqN Fq tx n nC) (ck1 := va_up ck y.toNat (some ca9)) (ca1 := va_up ca nC ca9) (dr1 := va_up dr nC dr9) (sr1 := va_up sr nC sr9) hx h a1 a2 a3 a4 a5 a6 a7 a8 a9 (fun u hu => ?_) (fun c hc => ?_) t z
    · exact ⟨if_neg (by omega), if_neg (by omega), if_neg (by omega), if_neg (by omega)⟩
    · exact if_pos (by omega)
  · have e : t = nC := by omega
    subst e
    have v1 : va_up ck y.toNat (some ca9) t = some ca9 := if_pos (by omega)
    have v2 : va_up ca t ca9 t = ca9 := if_pos rfl
    have v3 : va_up dr t dr9 t = dr9 := if_pos rfl
    have v4 : va_up sr t sr9 t = sr9 := if_pos rfl
    rw [v1, v2, v3, v4, ← hx]
    have hc : ∀ c, 12 * x ≤ c → c < 12 * x + cl1 x → ClF tx n wd1 nu1 fo1 to1 sg1 (100 * x) (100 * x + 100) (c - 12 * x).toNat c ∧ FqN Fq tx n t c = clV tx n (cpos tx n (c - 12 * x).toNat) := fun c q1 q2 => by
      have q3 := gC (c - 12 * x).toNat (by omega)
      rw [show 12 * x + ((c - 12 * x).toNat : Int) = c by omega] at q3
      refine ⟨q3, ?_⟩
      unfold FqN
      rw [if_neg (by omega), hx]
    refine ⟨rfl, ⟨by omega, fun c q1 q2 => ?_⟩, gW, fun c q1 q2 q3 => ?_, fun j q1 q2 => ?_⟩
    · obtain ⟨⟨r1, r2, r3⟩, r4⟩ := hc c q1 q2
      rw [r1, r2, r4]
      refine ⟨hdK_r _ _ _, clN_r, fun z => ?_⟩
      obtain ⟨u1, u2, u3⟩ := r3 z
      exact ⟨u1, ⟨by omega, by omega⟩, PF_01 u1 (by omega)⟩
    · obtain ⟨⟨r1, r2, r3⟩, r4⟩ := hc c q1 q2
      rw [r1] at q3
      exact (r3 q3).2.2
    · have hs : ∀ w, smM wd1 nu1 cl1 (FqN Fq tx n t) x w (j % 12) (j / 12) = swF tx n w j (cl1 x).toNat := fun w => smC_sw hx ⟨q1, q2⟩ _ (fun i hi => by
        have q3 := gC i (by omega)
        exact ⟨q3.1, q3.2.1⟩)
      rw [hs, hs]
      exact hd j q1 q2
theorem IvG_new {wt1 : Int → Int} (hx : x = (nC : Int)) (h4 : x ≤ 3) (h : (∀ q, 0 ≤ q → q ≤ 3 → 0 ≤ la (9 * q + 8) ∧ la (9 * q + 8) ≤ 40) ∧ ∀ j, 5 * (nC : Int) ≤ j → j < 20 → pt j = 0) (b7 : ∀ j, 0 ≤ j → j < 400 → -200 ≤ sg1 j ∧ sg1 j ≤ 20000) (b8 : ∀ j, 0 ≤ j → j < 101 → 0 ≤ wt1 j ∧ wt1 j ≤ 200) (b9 : Out (9 * x) (9 * x + 9) la la1) (bB : Out (5 * x) (5 * x + 5) pt pt1) (hw : 0 ≤ la1 (9 * x + 8) ∧ la1 (9 * x + 8) ≤ 40) : IvG sg1 wt1 la1 pt1 (nC + 1) := ⟨b7, b8, fun q q1 q2 => by
  by_cases z : q = x
  · rw [z]; exact hw
  · rw [b9 _ (by omega)]; exact h.1 q q1 q2, fun j q1 q2 => by rw [bB _ (by omega)]; exact h.2 j (by omega) q2⟩
end
theorem o1_e {a b c : Option Nat} {S S' : Nat → Int} (h : ∀ i, 1 ≤ i → i ≤ 7 → S i = S' i) : o1 a b c S = o1 a b c S' := by
  unfold o1
  rw [h 1 (by omega) (by omega), h 2 (by omega) (by omega), h 3 (by omega) (by omega), h 4 (by omega) (by omega), h 5 (by omega) (by omega), h 6 (by omega) (by omega), h 7 (by omega) (by omega)]
theorem cell_ext {E : En} {a p d s : Nat} {r0 r8 r9 : Option Nat} {C C' : Nat → Int} {P P' D9 S9 : Int → Int} {H : Heap} (h : va_P (eD E) vwCl ((a, o1 r0 r8 r9 C) :: (p, aInt E 5 P) :: (d, aInt E 24 D9) :: (s, aInt E 24 S9) :: []) H) (e : ∀ i, 1 ≤ i → i ≤ 7 → C i = C' i) (e2 : ∀ j : Int, 0 ≤ j → j < 5 → P j = P' j) : va_P (eD E) vwCl ((a, o1 r0 r8 r9 C') :: (p, aInt E 5 P') :: (d, aInt E 24 D9) :: (s, aInt E 24 S9) :: []) H := by
  rw [vP_cons, vP_cons] at h ⊢
  rw [← o1_e e]
  exact ⟨h.1, aInt_ext e2 h.2.1, h.2.2⟩
theorem fam_all {D : va_G} {cl : List vw_C} {n : Nat} {f g : Nat → va_W} {H : Heap} (h : va_P D cl (fam n f) H) (e : ∀ t, t < n → va_P D cl (f t) H → va_P D cl (g t) H) : va_P D cl (fam n g) H := by
  rw [vP_mem] at h ⊢
  intro q hq
  obtain ⟨t, ht, hq⟩ := List.mem_flatMap.mp hq
  exact vP_mem.mp (e t (List.mem_range.mp ht) (vP_mem.mpr (fun r hr => h r (List.mem_flatMap.mpr ⟨t, ht, hr⟩)))) q hq
theorem fam_adr {n : Nat} {f g : Nat → va_W} (e : ∀ t, t < n → (f t).map Prod.fst = (g t).map Prod.fst) : (fam n f).map Prod.fst = (fam n g).map Prod.fst := by
  unfold fam
  rw [List.map_flatMap, List.map_flatMap]
  have q : ∀ l : List Nat, (∀ t ∈ l, t < n) → l.flatMap (fun a => (f a).map Prod.fst) = l.flatMap (fun a => (g a).map Prod.fst) := by
    intro l
    induction l with
    | nil => intro _; rfl
    | cons a l ih =>
      intro h
      rw [List.flatMap_cons, List.flatMap_cons, e a (h a List.mem_cons_self), ih (fun t ht => h t (List.mem_cons_of_mem _ ht))]
  exact q _ (fun t ht => List.mem_range.mp ht)
section
variable {E : En} {la po pt la1 po1 pt1 dr9 sr9 : Int → Int} {ca pa da sa : Nat → Nat} {ca9 pa9 da9 sa9 : Nat} {dr sr : Nat → Int → Int} {nC : Nat} {x : Int} {CX : Cx} {L τ : va_W} {H : Heap}
theorem cl_ext (hx : x = (nC : Int)) (h : va_P (eD E) vwCl ((L ++ ((ca9, o1 (some pa9) (some da9) (some sa9) CX.1) :: (pa9, aInt E 5 CX.2) :: (da9, aInt E 24 dr9) :: (sa9, aInt E 24 sr9) :: [])) ++ (fam nC (fC E ca pa da sa la po pt dr sr) ++ τ)) H) (hr : RelC la1 po1 pt1 x CX) (b9 : Out (9 * x) (9 * x + 9) la la1) (bA : Only x po po1) (bB : Out (5 * x) (5 * x + 5) pt pt1) : va_P (eD E) vwCl ((L ++ fC E (va_up ca nC ca9) (va_up pa nC pa9) (va_up da nC da9) (va_up sa nC sa9) la1 po1 pt1 (va_up dr nC dr9) (va_up sr nC sr9) nC) ++ (fam nC (fC E (va_up ca nC ca9) (va_up pa nC pa9) (va_up da nC da9) (va_up sa nC sa9) la1 po1 pt1 (va_up dr nC dr9) (va_up sr nC sr9)) ++ τ)) H := by
  rw [vP_app, vP_app, vP_app] at h
  rw [vP_app, vP_app, vP_app]
  refine ⟨⟨h.1.1, ?_⟩, fam_all h.2.1 (fun t ht q => ?_), h.2.2⟩
  · have v1 : va_up ca nC ca9 nC = ca9 := if_pos rfl
    have v2 : va_up pa nC pa9 nC = pa9 := if_pos rfl
    have v3 : va_up da nC da9 nC = da9 := if_pos rfl
    have v4 : va_up sa nC sa9 nC = sa9 := if_pos rfl
    have v5 : va_up dr nC dr9 nC = dr9 := if_pos rfl
    have v6 : va_up sr nC sr9 nC = sr9 := if_pos rfl
    unfold fC
    rw [v1, v2, v3, v4, v5, v6, ← hx]
    obtain ⟨r1, r2, r3, r4, r5, r6, r7, r8⟩ := hr
    refine cell_ext h.1.2 (fun i i1 i2 => ?_) (fun j j1 j2 => (r8 j j1 j2).symm)
    rcases (show i = 1 ∨ i = 2 ∨ i = 3 ∨ i = 4 ∨ i = 5 ∨ i = 6 ∨ i = 7 by omega) with z | z | z | z | z | z | z <;> subst z
    · exact r1.symm
    · exact r2.symm
    · exact r3.symm
    · exact r4.symm
    · exact r5.symm
    · exact r6.symm
    · exact r7.symm
  · have v1 : va_up ca nC ca9 t = ca t := if_neg (by omega)
    have v2 : va_up pa nC pa9 t = pa t := if_neg (by omega)
    have v3 : va_up da nC da9 t = da t := if_neg (by omega)
    have v4 : va_up sa nC sa9 t = sa t := if_neg (by omega)
    have v5 : va_up dr nC dr9 t = dr t := if_neg (by omega)
    have v6 : va_up sr nC sr9 t = sr t := if_neg (by omega)
    unfold fC at q ⊢
    rw [v1, v2, v3, v4, v5, v6, cM_c (la := la) (po := po) (fun k k1 k2 => b9 _ (by omega)) (bA t (by omega))]
    exact cell_ext q (fun i _ _ => rfl) (fun j j1 j2 => (bB _ (by omega)).symm)
theorem cl_adr : ((L ++ ((ca9, o1 (some pa9) (some da9) (some sa9) CX.1) :: (pa9, aInt E 5 CX.2) :: (da9, aInt E 24 dr9) :: (sa9, aInt E 24 sr9) :: [])) ++ (fam nC (fC E ca pa da sa la po pt dr sr) ++ τ)).map Prod.fst = ((L ++ fC E (va_up ca nC ca9) (va_up pa nC pa9) (va_up da nC da9) (va_up sa nC sa9) la1 po1 pt1 (va_up dr nC dr9) (va_up sr nC sr9) nC) ++ (fam nC (fC E (va_up ca nC ca9) (va_up pa nC pa9) (va_up da nC da9) (va_up sa nC sa9) la1 po1 pt1 (va_up dr nC dr9) (va_up sr nC sr9)) ++ τ)).map Prod.fst := by
  have v1 : va_up ca nC ca9 nC = ca9 := if_pos rfl
  have v2 : va_up pa nC pa9 nC = pa9 := if_pos rfl
  have v3 : va_up da nC da9 nC = da9 := if_pos rfl
  have v4 : va_up sa nC sa9 nC = sa9 := if_pos rfl
  rw [List.map_append, List.map_append, List.map_append, List.map_append, List.map_append, List.map_append, fam_adr (f := fC E ca pa da sa la po pt dr sr) (g := fC E (va_up ca nC ca9) (va_up pa nC pa9) (va_up da nC da9) (va_up sa nC sa9) la1 po1 pt1 (va_up dr nC dr9) (va_up sr nC sr9)) (fun t ht => by
    have v1 : va_up ca nC ca9 t = ca t := if_neg (by omega)
    have v2 : va_up pa nC pa9 t = pa t := if_neg (by omega)
    have v3 : va_up da nC da9 t = da t := if_neg (by omega)
    have v4 : va_up sa nC sa9 t = sa t := if_neg (by omega)
    unfold fC
    rw [v1, v2, v3, v4]
    rfl)]
  unfold fC
  rw [v1, v2, v3, v4]
  rfl
end
theorem op1p {L τ : va_W} {n : Nat} {f g : Nat → va_W} (hc : ∀ j, j < n → f j = g j) : ((L ++ g n) ++ (fam n f ++ τ)).Perm (L ++ (fam (n + 1) g ++ τ)) := by
  rw [fam_push, fam_congr hc, List.append_assoc]
  refine List.Perm.append_left L ?_
  rw [← List.append_assoc]
  exact List.perm_append_comm.append_right _
theorem pk0 {c0 c1 c2 c3 c4 c5 c6 c7 c8 c9 c10 c11 c12 c13 c14 c15 c16 c17 c18 c19 c20 c21 c22 c23 c24 c25 c26 c27 c28 c29 c30 c31 c32 c33 c34 c35 c36 c37 c38 c39 c40 c41 c42 c43 c44 c45 c46 c47 c48 c49 c50 c51 c52 c53 c54 c55 c56 c57 c58 c59 c60 : Nat × va_E} {τ : va_W} : ((c0 :: c1 :: c2 :: c3 :: c4 :: c5 :: c6 :: c7 :: c8 :: c9 :: c10 :: c11 :: c12 :: c13 :: c14 :: c15 :: c16 :: c17 :: c18 :: c19 :: c20 :: c21 :: c22 :: c23 :: c24 :: c25 :: c26 :: c27 :: c28 :: c29 :: c30 :: c31 :: c32 :: c33 :: c34 :: c35 :: c36 :: c37 :: c38 :: c39 :: c40 :: c41 :: c42 :: c43 :: c44 :: c45 :: c46 :: c47 :: c48 :: c49 :: c50 :: c51 :: c52 :: c53 :: c54 :: c55 :: c56 :: c57 :: c58 :: c59 :: c60 :: []) ++ τ).Perm ((c25 :: c26 :: []) ++ ((c0 :: c1 :: c2 :: c3 :: c4 :: c5 :: c6 :: c7 :: c8 :: c9 :: c10 :: c11 :: c12 :: c13 :: c14 :: c15 :: c16 :: c17 :: c18 :: c19 :: c20 :: c21 :: c22 :: c23 :: c24 :: c27 :: c28 :: c29 :: c30 :: c31 :: c32 :: c33 :: c34 :: c35 :: c36 :: c37 :: c38 :: c39 :: c40 :: c41 :: c42 :: c43 :: c44 :: c45 :: c46 :: c47 :: c48 :: c49 :: c50 :: c51 :: c52 :: c53 :: c54 :: c55 :: c56 :: c57 :: c58 :: c59 :: c60 :: []) ++ τ)) := pick2 61 rfl [25, 26] [0, 1, 2, 3, 4, 5, 6, 7, 8, 9, 10, 11, 12, 13, 14, 15, 16, 17, 18, 19, 20, 21, 22, 23, 24, 27, 28, 29, 30, 31, 32, 33, 34, 35, 36, 37, 38, 39, 40, 41, 42, 43, 44, 45, 46, 47, 48, 49, 50, 51, 52, 53, 54, 55, 56, 57, 58, 59, 60] (by decide +kernel) rfl rfl
theorem pk1 {c0 c1 c2 c3 c4 c5 c6 c7 c8 c9 c10 c11 c12 c13 c14 c15 c16 c17 c18 c19 c20 c21 c22 c23 c24 c25 c26 c27 c28 c29 c30 c31 c32 c33 c34 c35 c36 c37 c38 c39 c40 c41 c42 c43 c44 c45 c46 c47 c48 c49 c50 c51 c52 c53 c54 c55 c56 c57 c58 c59 c60 : Nat × va_E} {τ : va_W} : ((c0 :: c1 :: c2 :: c3 :: c4 :: c5 :: c6 :: c7 :: c8 :: c9 :: c10 :: c11 :: c12 :: c13 :: c14 :: c15 :: c16 :: c17 :: c18 :: c19 :: c20 :: c21 :: c22 :: c23 :: c24 :: c25 :: c26 :: c27 :: c28 :: c29 :: c30 :: c31 :: c32 :: c33 :: c34 :: c35 :: c36 :: c37 :: c38 :: c39 :: c40 :: c41 :: c42 :: c43 :: c44 :: c45 :: c46 :: c47 :: c48 :: c49 :: c50 :: c51 :: c52 :: c53 :: c54 :: c55 :: c56 :: c57 :: c58 :: c59 :: c60 :: []) ++ τ).Perm ((c0 :: c1 :: []) ++ ((c2 :: c3 :: c4 :: c5 :: c6 :: c7 :: c8 :: c9 :: c10 :: c11 :: c12 :: c13 :: c14 :: c15 :: c16 :: c17 :: c18 :: c19 :: c20 :: c21 :: c22 :: c23 :: c24 :: c25 :: c26 :: c27 :: c28 :: c29 :: c30 :: c31 :: c32 :: c33 :: c34 :: c35 :: c36 :: c37 :: c38 :: c39 :: c40 :: c41 :: c42 :: c43 :: c44 :: c45 :: c46 :: c47 :: c48 :: c49 :: c50 :: c51 :: c52 :: c53 :: c54 :: c55 :: c56 :: c57 :: c58 :: c59 :: c60 :: []) ++ τ)) := pick2 61 rfl [0, 1] [2, 3, 4, 5, 6, 7, 8, 9, 10, 11, 12, 13, 14, 15, 16, 17, 18, 19, 20, 21, 22, 23, 24, 25, 26, 27, 28, 29, 30, 31, 32, 33, 34, 35, 36, 37, 38, 39, 40, 41, 42, 43, 44, 45, 46, 47, 48, 49, 50, 51, 52, 53, 54, 55, 56, 57, 58, 59, 60] (by decide +kernel) rfl rfl
theorem pk2 {c0 c1 c2 c3 c4 c5 c6 c7 c8 c9 c10 c11 c12 c13 c14 c15 c16 c17 c18 c19 c20 c21 c22 c23 c24 c25 c26 c27 c28 c29 c30 c31 c32 c33 c34 c35 c36 c37 c38 c39 c40 c41 c42 c43 c44 c45 c46 c47 c48 c49 c50 c51 c52 c53 c54 c55 c56 c57 c58 c59 c60 : Nat × va_E} {τ : va_W} : ((c0 :: c1 :: c2 :: c3 :: c4 :: c5 :: c6 :: c7 :: c8 :: c9 :: c10 :: c11 :: c12 :: c13 :: c14 :: c15 :: c16 :: c17 :: c18 :: c19 :: c20 :: c21 :: c22 :: c23 :: c24 :: c25 :: c26 :: c27 :: c28 :: c29 :: c30 :: c31 :: c32 :: c33 :: c34 :: c35 :: c36 :: c37 :: c38 :: c39 :: c40 :: c41 :: c42 :: c43 :: c44 :: c45 :: c46 :: c47 :: c48 :: c49 :: c50 :: c51 :: c52 :: c53 :: c54 :: c55 :: c56 :: c57 :: c58 :: c59 :: c60 :: []) ++ τ).Perm ((c25 :: c32 :: c33 :: c34 :: []) ++ ((c0 :: c1 :: c2 :: c3 :: c4 :: c5 :: c6 :: c7 :: c8 :: c9 :: c10 :: c11 :: c12 :: c13 :: c14 :: c15 :: c16 :: c17 :: c18 :: c19 :: c20 :: c21 :: c22 :: c23 :: c24 :: c26 :: c27 :: c28 :: c29 :: c30 :: c31 :: c35 :: c36 :: c37 :: c38 :: c39 :: c40 :: c41 :: c42 :: c43 :: c44 :: c45 :: c46 :: c47 :: c48 :: c49 :: c50 :: c51 :: c52 :: c53 :: c54 :: c55 :: c56 :: c57 :: c58 :: c59 :: c60 :: []) ++ τ)) := pick2 61 rfl [25, 32, 33, 34] [0, 1, 2, 3, 4, 5, 6, 7, 8, 9, 10, 11, 12, 13, 14, 15, 16, 17, 18, 19, 20, 21, 22, 23, 24, 26, 27, 28, 29, 30, 31, 35, 36, 37, 38, 39, 40, 41, 42, 43, 44, 45, 46, 47, 48, 49, 50, 51, 52, 53, 54, 55, 56, 57, 58, 59, 60] (by decide +kernel) rfl rfl
theorem pk3 {c0 c1 c2 c3 c4 c5 c6 c7 c8 c9 c10 c11 c12 c13 c14 c15 c16 c17 c18 c19 c20 c21 c22 c23 c24 c25 c26 c27 c28 c29 c30 c31 c32 c33 c34 c35 c36 c37 c38 c39 c40 c41 c42 c43 c44 c45 c46 c47 c48 c49 c50 c51 c52 c53 c54 c55 c56 c57 c58 c59 c60 : Nat × va_E} {τ : va_W} : ((c0 :: c1 :: c2 :: c3 :: c4 :: c5 :: c6 :: c7 :: c8 :: c9 :: c10 :: c11 :: c12 :: c13 :: c14 :: c15 :: c16 :: c17 :: c18 :: c19 :: c20 :: c21 :: c22 :: c23 :: c24 :: c25 :: c26 :: c27 :: c28 :: c29 :: c30 :: c31 :: c32 :: c33 :: c34 :: c35 :: c36 :: c37 :: c38 :: c39 :: c40 :: c41 :: c42 :: c43 :: c44 :: c45 :: c46 :: c47 :: c48 :: c49 :: c50 :: c51 :: c52 :: c53 :: c54 :: c55 :: c56 :: c57 :: c58 :: c59 :: c60 :: []) ++ τ).Perm ((c0 :: c4 :: []) ++ ((c1 :: c2 :: c3 :: c5 :: c6 :: c7 :: c8 :: c9 :: c10 :: c11 :: c12 :: c13 :: c14 :: c15 :: c16 :: c17 :: c18 :: c19 :: c20 :: c21 :: c22 :: c23 :: c24 :: c25 :: c26 :: c27 :: c28 :: c29 :: c30 :: c31 :: c32 :: c33 :: c34 :: c35 :: c36 :: c37 :: c38 :: c39 :: c40 :: c41 :: c42 :: c43 :: c44 :: c45 :: c46 :: c47 :: c48 :: c49 :: c50 :: c51 :: c52 :: c53 :: c54 :: c55 :: c56 :: c57 :: c58 :: c59 :: c60 :: []) ++ τ)) := pick2 61 rfl [0, 4] [1, 2, 3, 5, 6, 7, 8, 9, 10, 11, 12, 13, 14, 15, 16, 17, 18, 19, 20, 21, 22, 23, 24, 25, 26, 27, 28, 29, 30, 31, 32, 33, 34, 35, 36, 37, 38, 39, 40, 41, 42, 43, 44, 45, 46, 47, 48, 49, 50, 51, 52, 53, 54, 55, 56, 57, 58, 59, 60] (by decide +kernel) rfl rfl
theorem pk4 {c0 c1 c2 c3 c4 c5 c6 c7 c8 c9 c10 c11 c12 c13 c14 c15 c16 c17 c18 c19 c20 c21 c22 c23 c24 c25 c26 c27 c28 c29 c30 c31 c32 c33 c34 c35 c36 c37 c38 c39 c40 c41 c42 c43 c44 c45 c46 c47 c48 c49 c50 c51 c52 c53 c54 c55 c56 c57 c58 c59 c60 c61 c62 c63 c64 : Nat × va_E} {τ : va_W} : (((c0 :: c1 :: c2 :: c3 :: c4 :: c5 :: c6 :: c7 :: c8 :: c9 :: c10 :: c11 :: c12 :: c13 :: c14 :: c15 :: c16 :: c17 :: c18 :: c19 :: c20 :: c21 :: c22 :: c23 :: c24 :: c25 :: c26 :: c27 :: c28 :: c29 :: c30 :: c31 :: c32 :: c33 :: c34 :: c35 :: c36 :: c37 :: c38 :: c39 :: c40 :: c41 :: c42 :: c43 :: c44 :: c45 :: c46 :: c47 :: c48 :: c49 :: c50 :: c51 :: c52 :: c53 :: c54 :: c55 :: c56 :: c57 :: c58 :: c59 :: c60 :: []) ++ [c61, c62, c63, c64]) ++ τ).Perm ((c0 :: c4 :: c2 :: c61 :: c62 :: c63 :: c64 :: []) ++ ((c1 :: c3 :: c5 :: c6 :: c7 :: c8 :: c9 :: c10 :: c11 :: c12 :: c13 :: c14 :: c15 :: c16 :: c17 :: c18 :: c19 :: c20 :: c21 :: c22 :: c23 :: c24 :: c25 :: c26 :: c27 :: c28 :: c29 :: c30 :: c31 :: c32 :: c33 :: c34 :: c35 :: c36 :: c37 :: c38 :: c39 :: c40 :: c41 :: c42 :: c43 :: c44 :: c45 :: c46 :: c47 :: c48 :: c49 :: c50 :: c51 :: c52 :: c53 :: c54 :: c55 :: c56 :: c57 :: c58 :: c59 :: c60 :: []) ++ τ)) := pick2 65 rfl [0, 4, 2, 61, 62, 63, 64] [1, 3, 5, 6, 7, 8, 9, 10, 11, 12, 13, 14, 15, 16, 17, 18, 19, 20, 21, 22, 23, 24, 25, 26, 27, 28, 29, 30, 31, 32, 33, 34, 35, 36, 37, 38, 39, 40, 41, 42, 43, 44, 45, 46, 47, 48, 49, 50, 51, 52, 53, 54, 55, 56, 57, 58, 59, 60] (by decide +kernel) rfl rfl
theorem pk5 {c0 c1 c2 c3 c4 c5 c6 c7 c8 c9 c10 c11 c12 c13 c14 c15 c16 c17 c18 c19 c20 c21 c22 c23 c24 c25 c26 c27 c28 c29 c30 c31 c32 c33 c34 c35 c36 c37 c38 c39 c40 c41 c42 c43 c44 c45 c46 c47 c48 c49 c50 c51 c52 c53 c54 c55 c56 c57 c58 c59 c60 : Nat × va_E} {τ : va_W} : ((c0 :: c1 :: c2 :: c3 :: c4 :: c5 :: c6 :: c7 :: c8 :: c9 :: c10 :: c11 :: c12 :: c13 :: c14 :: c15 :: c16 :: c17 :: c18 :: c19 :: c20 :: c21 :: c22 :: c23 :: c24 :: c25 :: c26 :: c27 :: c28 :: c29 :: c30 :: c31 :: c32 :: c33 :: c34 :: c35 :: c36 :: c37 :: c38 :: c39 :: c40 :: c41 :: c42 :: c43 :: c44 :: c45 :: c46 :: c47 :: c48 :: c49 :: c50 :: c51 :: c52 :: c53 :: c54 :: c55 :: c56 :: c57 :: c58 :: c59 :: c60 :: []) ++ τ).Perm ((c25 :: c56 :: []) ++ ((c0 :: c1 :: c2 :: c3 :: c4 :: c5 :: c6 :: c7 :: c8 :: c9 :: c10 :: c11 :: c12 :: c13 :: c14 :: c15 :: c16 :: c17 :: c18 :: c19 :: c20 :: c21 :: c22 :: c23 :: c24 :: c26 :: c27 :: c28 :: c29 :: c30 :: c31 :: c32 :: c33 :: c34 :: c35 :: c36 :: c37 :: c38 :: c39 :: c40 :: c41 :: c42 :: c43 :: c44 :: c45 :: c46 :: c47 :: c48 :: c49 :: c50 :: c51 :: c52 :: c53 :: c54 :: c55 :: c57 :: c58 :: c59 :: c60 :: []) ++ τ)) := pick2 61 rfl [25, 56] [0, 1, 2, 3, 4, 5, 6, 7, 8, 9, 10, 11, 12, 13, 14, 15, 16, 17, 18, 19, 20, 21, 22, 23, 24, 26, 27, 28, 29, 30, 31, 32, 33, 34, 35, 36, 37, 38, 39, 40, 41, 42, 43, 44, 45, 46, 47, 48, 49, 50, 51, 52, 53, 54, 55, 57, 58, 59, 60] (by decide +kernel) rfl rfl
theorem pk6 {c0 c1 c2 c3 c4 c5 c6 c7 c8 c9 c10 c11 c12 c13 c14 c15 c16 c17 c18 c19 c20 c21 c22 c23 c24 c25 c26 c27 c28 c29 c30 c31 c32 c33 c34 c35 c36 c37 c38 c39 c40 c41 c42 c43 c44 c45 c46 c47 c48 c49 c50 c51 c52 c53 c54 c55 c56 c57 c58 c59 c60 : Nat × va_E} {τ : va_W} : ((c0 :: c1 :: c2 :: c3 :: c4 :: c5 :: c6 :: c7 :: c8 :: c9 :: c10 :: c11 :: c12 :: c13 :: c14 :: c15 :: c16 :: c17 :: c18 :: c19 :: c20 :: c21 :: c22 :: c23 :: c24 :: c25 :: c26 :: c27 :: c28 :: c29 :: c30 :: c31 :: c32 :: c33 :: c34 :: c35 :: c36 :: c37 :: c38 :: c39 :: c40 :: c41 :: c42 :: c43 :: c44 :: c45 :: c46 :: c47 :: c48 :: c49 :: c50 :: c51 :: c52 :: c53 :: c54 :: c55 :: c56 :: c57 :: c58 :: c59 :: c60 :: []) ++ τ).Perm ((c0 :: c15 :: c16 :: []) ++ ((c1 :: c2 :: c3 :: c4 :: c5 :: c6 :: c7 :: c8 :: c9 :: c10 :: c11 :: c12 :: c13 :: c14 :: c17 :: c18 :: c19 :: c20 :: c21 :: c22 :: c23 :: c24 :: c25 :: c26 :: c27 :: c28 :: c29 :: c30 :: c31 :: c32 :: c33 :: c34 :: c35 :: c36 :: c37 :: c38 :: c39 :: c40 :: c41 :: c42 :: c43 :: c44 :: c45 :: c46 :: c47 :: c48 :: c49 :: c50 :: c51 :: c52 :: c53 :: c54 :: c55 :: c56 :: c57 :: c58 :: c59 :: c60 :: []) ++ τ)) := pick2 61 rfl [0, 15, 16] [1, 2, 3, 4, 5, 6, 7, 8, 9, 10, 11, 12, 13, 14, 17, 18, 19, 20, 21, 22, 23, 24, 25, 26, 27, 28, 29, 30, 31, 32, 33, 34, 35, 36, 37, 38, 39, 40, 41, 42, 43, 44, 45, 46, 47, 48, 49, 50, 51, 52, 53, 54, 55, 56, 57, 58, 59, 60] (by decide +kernel) rfl rfl
theorem pk7 {c0 c1 c2 c3 c4 c5 c6 c7 c8 c9 c10 c11 c12 c13 c14 c15 c16 c17 c18 c19 c20 c21 c22 c23 c24 c25 c26 c27 c28 c29 c30 c31 c32 c33 c34 c35 c36 c37 c38 c39 c40 c41 c42 c43 c44 c45 c46 c47 c48 c49 c50 c51 c52 c53 c54 c55 c56 c57 c58 c59 c60 : Nat × va_E} {τ : va_W} : ((c0 :: c1 :: c2 :: c3 :: c4 :: c5 :: c6 :: c7 :: c8 :: c9 :: c10 :: c11 :: c12 :: c13 :: c14 :: c15 :: c16 :: c17 :: c18 :: c19 :: c20 :: c21 :: c22 :: c23 :: c24 :: c25 :: c26 :: c27 :: c28 :: c29 :: c30 :: c31 :: c32 :: c33 :: c34 :: c35 :: c36 :: c37 :: c38 :: c39 :: c40 :: c41 :: c42 :: c43 :: c44 :: c45 :: c46 :: c47 :: c48 :: c49 :: c50 :: c51 :: c52 :: c53 :: c54 :: c55 :: c56 :: c57 :: c58 :: c59 :: c60 :: []) ++ τ).Perm ((c25 :: c38 :: []) ++ ((c0 :: c1 :: c2 :: c3 :: c4 :: c5 :: c6 :: c7 :: c8 :: c9 :: c10 :: c11 :: c12 :: c13 :: c14 :: c15 :: c16 :: c17 :: c18 :: c19 :: c20 :: c21 :: c22 :: c23 :: c24 :: c26 :: c27 :: c28 :: c29 :: c30 :: c31 :: c32 :: c33 :: c34 :: c35 :: c36 :: c37 :: c39 :: c40 :: c41 :: c42 :: c43 :: c44 :: c45 :: c46 :: c47 :: c48 :: c49 :: c50 :: c51 :: c52 :: c53 :: c54 :: c55 :: c56 :: c57 :: c58 :: c59 :: c60 :: []) ++ τ)) := pick2 61 rfl [25, 38] [0, 1, 2, 3, 4, 5, 6, 7, 8, 9, 10, 11, 12, 13, 14, 15, 16, 17, 18, 19, 20, 21, 22, 23, 24, 26, 27, 28, 29, 30, 31, 32, 33, 34, 35, 36, 37, 39, 40, 41, 42, 43, 44, 45, 46, 47, 48, 49, 50, 51, 52, 53, 54, 55, 56, 57, 58, 59, 60] (by decide +kernel) rfl rfl
theorem pk8 {c0 c1 c2 c3 c4 c5 c6 c7 c8 c9 c10 c11 c12 c13 c14 c15 c16 c17 c18 c19 c20 c21 c22 c23 c24 c25 c26 c27 c28 c29 c30 c31 c32 c33 c34 c35 c36 c37 c38 c39 c40 c41 c42 c43 c44 c45 c46 c47 c48 c49 c50 c51 c52 c53 c54 c55 c56 c57 c58 c59 c60 : Nat × va_E} {τ : va_W} : ((c0 :: c1 :: c2 :: c3 :: c4 :: c5 :: c6 :: c7 :: c8 :: c9 :: c10 :: c11 :: c12 :: c13 :: c14 :: c15 :: c16 :: c17 :: c18 :: c19 :: c20 :: c21 :: c22 :: c23 :: c24 :: c25 :: c26 :: c27 :: c28 :: c29 :: c30 :: c31 :: c32 :: c33 :: c34 :: c35 :: c36 :: c37 :: c38 :: c39 :: c40 :: c41 :: c42 :: c43 :: c44 :: c45 :: c46 :: c47 :: c48 :: c49 :: c50 :: c51 :: c52 :: c53 :: c54 :: c55 :: c56 :: c57 :: c58 :: c59 :: c60 :: []) ++ τ).Perm ((c0 :: c4 :: c5 :: []) ++ ((c1 :: c2 :: c3 :: c6 :: c7 :: c8 :: c9 :: c10 :: c11 :: c12 :: c13 :: c14 :: c15 :: c16 :: c17 :: c18 :: c19 :: c20 :: c21 :: c22 :: c23 :: c24 :: c25 :: c26 :: c27 :: c28 :: c29 :: c30 :: c31 :: c32 :: c33 :: c34 :: c35 :: c36 :: c37 :: c38 :: c39 :: c40 :: c41 :: c42 :: c43 :: c44 :: c45 :: c46 :: c47 :: c48 :: c49 :: c50 :: c51 :: c52 :: c53 :: c54 :: c55 :: c56 :: c57 :: c58 :: c59 :: c60 :: []) ++ τ)) := pick2 61 rfl [0, 4, 5] [1, 2, 3, 6, 7, 8, 9, 10, 11, 12, 13, 14, 15, 16, 17, 18, 19, 20, 21, 22, 23, 24, 25, 26, 27, 28, 29, 30, 31, 32, 33, 34, 35, 36, 37, 38, 39, 40, 41, 42, 43, 44, 45, 46, 47, 48, 49, 50, 51, 52, 53, 54, 55, 56, 57, 58, 59, 60] (by decide +kernel) rfl rfl
theorem pk9 {c0 c1 c2 c3 c4 c5 c6 c7 c8 c9 c10 c11 c12 c13 c14 c15 c16 c17 c18 c19 c20 c21 c22 c23 c24 c25 c26 c27 c28 c29 c30 c31 c32 c33 c34 c35 c36 c37 c38 c39 c40 c41 c42 c43 c44 c45 c46 c47 c48 c49 c50 c51 c52 c53 c54 c55 c56 c57 c58 c59 c60 : Nat × va_E} {τ : va_W} : ((c0 :: c1 :: c2 :: c3 :: c4 :: c5 :: c6 :: c7 :: c8 :: c9 :: c10 :: c11 :: c12 :: c13 :: c14 :: c15 :: c16 :: c17 :: c18 :: c19 :: c20 :: c21 :: c22 :: c23 :: c24 :: c25 :: c26 :: c27 :: c28 :: c29 :: c30 :: c31 :: c32 :: c33 :: c34 :: c35 :: c36 :: c37 :: c38 :: c39 :: c40 :: c41 :: c42 :: c43 :: c44 :: c45 :: c46 :: c47 :: c48 :: c49 :: c50 :: c51 :: c52 :: c53 :: c54 :: c55 :: c56 :: c57 :: c58 :: c59 :: c60 :: []) ++ τ).Perm ((c25 :: []) ++ ((c0 :: c1 :: c2 :: c3 :: c4 :: c5 :: c6 :: c7 :: c8 :: c9 :: c10 :: c11 :: c12 :: c13 :: c14 :: c15 :: c16 :: c17 :: c18 :: c19 :: c20 :: c21 :: c22 :: c23 :: c24 :: c26 :: c27 :: c28 :: c29 :: c30 :: c31 :: c32 :: c33 :: c34 :: c35 :: c36 :: c37 :: c38 :: c39 :: c40 :: c41 :: c42 :: c43 :: c44 :: c45 :: c46 :: c47 :: c48 :: c49 :: c50 :: c51 :: c52 :: c53 :: c54 :: c55 :: c56 :: c57 :: c58 :: c59 :: c60 :: []) ++ τ)) := pick2 61 rfl [25] [0, 1, 2, 3, 4, 5, 6, 7, 8, 9, 10, 11, 12, 13, 14, 15, 16, 17, 18, 19, 20, 21, 22, 23, 24, 26, 27, 28, 29, 30, 31, 32, 33, 34, 35, 36, 37, 38, 39, 40, 41, 42, 43, 44, 45, 46, 47, 48, 49, 50, 51, 52, 53, 54, 55, 56, 57, 58, 59, 60] (by decide +kernel) rfl rfl
theorem pk10 {c0 c1 c2 c3 c4 c5 c6 c7 c8 c9 c10 c11 c12 c13 c14 c15 c16 c17 c18 c19 c20 c21 c22 c23 c24 c25 c26 c27 c28 c29 c30 c31 c32 c33 c34 c35 c36 c37 c38 c39 c40 c41 c42 c43 c44 c45 c46 c47 c48 c49 c50 c51 c52 c53 c54 c55 c56 c57 c58 c59 c60 : Nat × va_E} {τ : va_W} : ((c0 :: c1 :: c2 :: c3 :: c4 :: c5 :: c6 :: c7 :: c8 :: c9 :: c10 :: c11 :: c12 :: c13 :: c14 :: c15 :: c16 :: c17 :: c18 :: c19 :: c20 :: c21 :: c22 :: c23 :: c24 :: c25 :: c26 :: c27 :: c28 :: c29 :: c30 :: c31 :: c32 :: c33 :: c34 :: c35 :: c36 :: c37 :: c38 :: c39 :: c40 :: c41 :: c42 :: c43 :: c44 :: c45 :: c46 :: c47 :: c48 :: c49 :: c50 :: c51 :: c52 :: c53 :: c54 :: c55 :: c56 :: c57 :: c58 :: c59 :: c60 :: []) ++ τ).Perm ((c25 :: c27 :: c28 :: c29 :: c30 :: c31 :: c35 :: c37 :: []) ++ ((c0 :: c1 :: c2 :: c3 :: c4 :: c5 :: c6 :: c7 :: c8 :: c9 :: c10 :: c11 :: c12 :: c13 :: c14 :: c15 :: c16 :: c17 :: c18 :: c19 :: c20 :: c21 :: c22 :: c23 :: c24 :: c26 :: c32 :: c33 :: c34 :: c36 :: c38 :: c39 :: c40 :: c41 :: c42 :: c43 :: c44 :: c45 :: c46 :: c47 :: c48 :: c49 :: c50 :: c51 :: c52 :: c53 :: c54 :: c55 :: c56 :: c57 :: c58 :: c59 :: c60 :: []) ++ τ)) := pick2 61 rfl [25, 27, 28, 29, 30, 31, 35, 37] [0, 1, 2, 3, 4, 5, 6, 7, 8, 9, 10, 11, 12, 13, 14, 15, 16, 17, 18, 19, 20, 21, 22, 23, 24, 26, 32, 33, 34, 36, 38, 39, 40, 41, 42, 43, 44, 45, 46, 47, 48, 49, 50, 51, 52, 53, 54, 55, 56, 57, 58, 59, 60] (by decide +kernel) rfl rfl
theorem pk11 {c0 c1 c2 c3 c4 c5 c6 c7 c8 c9 c10 c11 c12 c13 c14 c15 c16 c17 c18 c19 c20 c21 c22 c23 c24 c25 c26 c27 c28 c29 c30 c31 c32 c33 c34 c35 c36 c37 c38 c39 c40 c41 c42 c43 c44 c45 c46 c47 c48 c49 c50 c51 c52 c53 c54 c55 c56 c57 c58 c59 c60 : Nat × va_E} {τ : va_W} : ((c0 :: c1 :: c2 :: c3 :: c4 :: c5 :: c6 :: c7 :: c8 :: c9 :: c10 :: c11 :: c12 :: c13 :: c14 :: c15 :: c16 :: c17 :: c18 :: c19 :: c20 :: c21 :: c22 :: c23 :: c24 :: c25 :: c26 :: c27 :: c28 :: c29 :: c30 :: c31 :: c32 :: c33 :: c34 :: c35 :: c36 :: c37 :: c38 :: c39 :: c40 :: c41 :: c42 :: c43 :: c44 :: c45 :: c46 :: c47 :: c48 :: c49 :: c50 :: c51 :: c52 :: c53 :: c54 :: c55 :: c56 :: c57 :: c58 :: c59 :: c60 :: []) ++ τ).Perm ((c25 :: c32 :: c33 :: c34 :: c27 :: c28 :: c29 :: c30 :: c31 :: c35 :: c37 :: []) ++ ((c0 :: c1 :: c2 :: c3 :: c4 :: c5 :: c6 :: c7 :: c8 :: c9 :: c10 :: c11 :: c12 :: c13 :: c14 :: c15 :: c16 :: c17 :: c18 :: c19 :: c20 :: c21 :: c22 :: c23 :: c24 :: c26 :: c36 :: c38 :: c39 :: c40 :: c41 :: c42 :: c43 :: c44 :: c45 :: c46 :: c47 :: c48 :: c49 :: c50 :: c51 :: c52 :: c53 :: c54 :: c55 :: c56 :: c57 :: c58 :: c59 :: c60 :: []) ++ τ)) := pick2 61 rfl [25, 32, 33, 34, 27, 28, 29, 30, 31, 35, 37] [0, 1, 2, 3, 4, 5, 6, 7, 8, 9, 10, 11, 12, 13, 14, 15, 16, 17, 18, 19, 20, 21, 22, 23, 24, 26, 36, 38, 39, 40, 41, 42, 43, 44, 45, 46, 47, 48, 49, 50, 51, 52, 53, 54, 55, 56, 57, 58, 59, 60] (by decide +kernel) rfl rfl
theorem pk12 {c0 c1 c2 c3 c4 c5 c6 c7 c8 c9 c10 c11 c12 c13 c14 c15 c16 c17 c18 c19 c20 c21 c22 c23 c24 c25 c26 c27 c28 c29 c30 c31 c32 c33 c34 c35 c36 c37 c38 c39 c40 c41 c42 c43 c44 c45 c46 c47 c48 c49 c50 c51 c52 c53 c54 c55 c56 c57 c58 c59 c60 : Nat × va_E} {τ : va_W} : ((c0 :: c1 :: c2 :: c3 :: c4 :: c5 :: c6 :: c7 :: c8 :: c9 :: c10 :: c11 :: c12 :: c13 :: c14 :: c15 :: c16 :: c17 :: c18 :: c19 :: c20 :: c21 :: c22 :: c23 :: c24 :: c25 :: c26 :: c27 :: c28 :: c29 :: c30 :: c31 :: c32 :: c33 :: c34 :: c35 :: c36 :: c37 :: c38 :: c39 :: c40 :: c41 :: c42 :: c43 :: c44 :: c45 :: c46 :: c47 :: c48 :: c49 :: c50 :: c51 :: c52 :: c53 :: c54 :: c55 :: c56 :: c57 :: c58 :: c59 :: c60 :: []) ++ τ).Perm ((c25 :: c32 :: []) ++ ((c0 :: c1 :: c2 :: c3 :: c4 :: c5 :: c6 :: c7 :: c8 :: c9 :: c10 :: c11 :: c12 :: c13 :: c14 :: c15 :: c16 :: c17 :: c18 :: c19 :: c20 :: c21 :: c22 :: c23 :: c24 :: c26 :: c27 :: c28 :: c29 :: c30 :: c31 :: c33 :: c34 :: c35 :: c36 :: c37 :: c38 :: c39 :: c40 :: c41 :: c42 :: c43 :: c44 :: c45 :: c46 :: c47 :: c48 :: c49 :: c50 :: c51 :: c52 :: c53 :: c54 :: c55 :: c56 :: c57 :: c58 :: c59 :: c60 :: []) ++ τ)) := pick2 61 rfl [25, 32] [0, 1, 2, 3, 4, 5, 6, 7, 8, 9, 10, 11, 12, 13, 14, 15, 16, 17, 18, 19, 20, 21, 22, 23, 24, 26, 27, 28, 29, 30, 31, 33, 34, 35, 36, 37, 38, 39, 40, 41, 42, 43, 44, 45, 46, 47, 48, 49, 50, 51, 52, 53, 54, 55, 56, 57, 58, 59, 60] (by decide +kernel) rfl rfl
theorem pk13 {c0 c1 c2 c3 c4 c5 c6 c7 c8 c9 c10 c11 c12 c13 c14 c15 c16 c17 c18 c19 c20 c21 c22 c23 c24 c25 c26 c27 c28 c29 c30 c31 c32 c33 c34 c35 c36 c37 c38 c39 c40 c41 c42 c43 c44 c45 c46 c47 c48 c49 c50 c51 c52 c53 c54 c55 c56 c57 c58 c59 c60 : Nat × va_E} {τ : va_W} : ((c0 :: c1 :: c2 :: c3 :: c4 :: c5 :: c6 :: c7 :: c8 :: c9 :: c10 :: c11 :: c12 :: c13 :: c14 :: c15 :: c16 :: c17 :: c18 :: c19 :: c20 :: c21 :: c22 :: c23 :: c24 :: c25 :: c26 :: c27 :: c28 :: c29 :: c30 :: c31 :: c32 :: c33 :: c34 :: c35 :: c36 :: c37 :: c38 :: c39 :: c40 :: c41 :: c42 :: c43 :: c44 :: c45 :: c46 :: c47 :: c48 :: c49 :: c50 :: c51 :: c52 :: c53 :: c54 :: c55 :: c56 :: c57 :: c58 :: c59 :: c60 :: []) ++ τ).Perm ((c25 :: c38 :: c48 :: c49 :: c50 :: c52 :: c53 :: c54 :: c55 :: []) ++ ((c0 :: c1 :: c2 :: c3 :: c4 :: c5 :: c6 :: c7 :: c8 :: c9 :: c10 :: c11 :: c12 :: c13 :: c14 :: c15 :: c16 :: c17 :: c18 :: c19 :: c20 :: c21 :: c22 :: c23 :: c24 :: c26 :: c27 :: c28 :: c29 :: c30 :: c31 :: c32 :: c33 :: c34 :: c35 :: c36 :: c37 :: c39 :: c40 :: c41 :: c42 :: c43 :: c44 :: c45 :: c46 :: c47 :: c51 :: c56 :: c57 :: c58 :: c59 :: c60 :: []) ++ τ)) := pick2 61 rfl [25, 38, 48, 49, 50, 52, 53, 54, 55] [0, 1, 2, 3, 4, 5, 6, 7, 8, 9, 10, 11, 12, 13, 14, 15, 16, 17, 18, 19, 20, 21, 22, 23, 24, 26, 27, 28, 29, 30, 31, 32, 33, 34, 35, 36, 37, 39, 40, 41, 42, 43, 44, 45, 46, 47, 51, 56, 57, 58, 59, 60] (by decide +kernel) rfl rfl
theorem pk14 {c0 c1 c2 c3 c4 c5 c6 c7 c8 c9 c10 c11 c12 c13 c14 c15 c16 c17 c18 c19 c20 c21 c22 c23 c24 c25 c26 c27 c28 c29 c30 c31 c32 c33 c34 c35 c36 c37 c38 c39 c40 c41 c42 c43 c44 c45 c46 c47 c48 c49 c50 c51 c52 c53 c54 c55 c56 c57 c58 c59 c60 : Nat × va_E} {τ : va_W} : ((c0 :: c1 :: c2 :: c3 :: c4 :: c5 :: c6 :: c7 :: c8 :: c9 :: c10 :: c11 :: c12 :: c13 :: c14 :: c15 :: c16 :: c17 :: c18 :: c19 :: c20 :: c21 :: c22 :: c23 :: c24 :: c25 :: c26 :: c27 :: c28 :: c29 :: c30 :: c31 :: c32 :: c33 :: c34 :: c35 :: c36 :: c37 :: c38 :: c39 :: c40 :: c41 :: c42 :: c43 :: c44 :: c45 :: c46 :: c47 :: c48 :: c49 :: c50 :: c51 :: c52 :: c53 :: c54 :: c55 :: c56 :: c57 :: c58 :: c59 :: c60 :: []) ++ τ).Perm ((c0 :: c4 :: c5 :: c6 :: c7 :: c8 :: c9 :: c10 :: c11 :: c12 :: c13 :: []) ++ ((c1 :: c2 :: c3 :: c14 :: c15 :: c16 :: c17 :: c18 :: c19 :: c20 :: c21 :: c22 :: c23 :: c24 :: c25 :: c26 :: c27 :: c28 :: c29 :: c30 :: c31 :: c32 :: c33 :: c34 :: c35 :: c36 :: c37 :: c38 :: c39 :: c40 :: c41 :: c42 :: c43 :: c44 :: c45 :: c46 :: c47 :: c48 :: c49 :: c50 :: c51 :: c52 :: c53 :: c54 :: c55 :: c56 :: c57 :: c58 :: c59 :: c60 :: []) ++ τ)) := pick2 61 rfl [0, 4, 5, 6, 7, 8, 9, 10, 11, 12, 13] [1, 2, 3, 14, 15, 16, 17, 18, 19, 20, 21, 22, 23, 24, 25, 26, 27, 28, 29, 30, 31, 32, 33, 34, 35, 36, 37, 38, 39, 40, 41, 42, 43, 44, 45, 46, 47, 48, 49, 50, 51, 52, 53, 54, 55, 56, 57, 58, 59, 60] (by decide +kernel) rfl rfl
theorem pk15 {c0 c1 c2 c3 c4 c5 c6 c7 c8 c9 c10 c11 c12 c13 c14 c15 c16 c17 c18 c19 c20 c21 c22 c23 c24 c25 c26 c27 c28 c29 c30 c31 c32 c33 c34 c35 c36 c37 c38 c39 c40 c41 c42 c43 c44 c45 c46 c47 c48 c49 c50 c51 c52 c53 c54 c55 c56 c57 c58 c59 c60 : Nat × va_E} {τ : va_W} : ((c0 :: c1 :: c2 :: c3 :: c4 :: c5 :: c6 :: c7 :: c8 :: c9 :: c10 :: c11 :: c12 :: c13 :: c14 :: c15 :: c16 :: c17 :: c18 :: c19 :: c20 :: c21 :: c22 :: c23 :: c24 :: c25 :: c26 :: c27 :: c28 :: c29 :: c30 :: c31 :: c32 :: c33 :: c34 :: c35 :: c36 :: c37 :: c38 :: c39 :: c40 :: c41 :: c42 :: c43 :: c44 :: c45 :: c46 :: c47 :: c48 :: c49 :: c50 :: c51 :: c52 :: c53 :: c54 :: c55 :: c56 :: c57 :: c58 :: c59 :: c60 :: []) ++ τ).Perm ((c0 :: []) ++ ((c1 :: c2 :: c3 :: c4 :: c5 :: c6 :: c7 :: c8 :: c9 :: c10 :: c11 :: c12 :: c13 :: c14 :: c15 :: c16 :: c17 :: c18 :: c19 :: c20 :: c21 :: c22 :: c23 :: c24 :: c25 :: c26 :: c27 :: c28 :: c29 :: c30 :: c31 :: c32 :: c33 :: c34 :: c35 :: c36 :: c37 :: c38 :: c39 :: c40 :: c41 :: c42 :: c43 :: c44 :: c45 :: c46 :: c47 :: c48 :: c49 :: c50 :: c51 :: c52 :: c53 :: c54 :: c55 :: c56 :: c57 :: c58 :: c59 :: c60 :: []) ++ τ)) := pick2 61 rfl [0] [1, 2, 3, 4, 5, 6, 7, 8, 9, 10, 11, 12, 13, 14, 15, 16, 17, 18, 19, 20, 21, 22, 23, 24, 25, 26, 27, 28, 29, 30, 31, 32, 33, 34, 35, 36, 37, 38, 39, 40, 41, 42, 43, 44, 45, 46, 47, 48, 49, 50, 51, 52, 53, 54, 55, 56, 57, 58, 59, 60] (by decide +kernel) rfl rfl
theorem pk16 {c0 c1 c2 c3 c4 c5 c6 c7 c8 c9 c10 c11 c12 c13 c14 c15 c16 c17 c18 c19 c20 c21 c22 c23 c24 c25 c26 c27 c28 c29 c30 c31 c32 c33 c34 c35 c36 c37 c38 c39 c40 c41 c42 c43 c44 c45 c46 c47 c48 c49 c50 c51 c52 c53 c54 c55 c56 c57 c58 c59 c60 : Nat × va_E} {τ : va_W} : ((c0 :: c1 :: c2 :: c3 :: c4 :: c5 :: c6 :: c7 :: c8 :: c9 :: c10 :: c11 :: c12 :: c13 :: c14 :: c15 :: c16 :: c17 :: c18 :: c19 :: c20 :: c21 :: c22 :: c23 :: c24 :: c25 :: c26 :: c27 :: c28 :: c29 :: c30 :: c31 :: c32 :: c33 :: c34 :: c35 :: c36 :: c37 :: c38 :: c39 :: c40 :: c41 :: c42 :: c43 :: c44 :: c45 :: c46 :: c47 :: c48 :: c49 :: c50 :: c51 :: c52 :: c53 :: c54 :: c55 :: c56 :: c57 :: c58 :: c59 :: c60 :: []) ++ τ).Perm ((c25 :: c48 :: c49 :: c50 :: []) ++ ((c0 :: c1 :: c2 :: c3 :: c4 :: c5 :: c6 :: c7 :: c8 :: c9 :: c10 :: c11 :: c12 :: c13 :: c14 :: c15 :: c16 :: c17 :: c18 :: c19 :: c20 :: c21 :: c22 :: c23 :: c24 :: c26 :: c27 :: c28 :: c29 :: c30 :: c31 :: c32 :: c33 :: c34 :: c35 :: c36 :: c37 :: c38 :: c39 :: c40 :: c41 :: c42 :: c43 :: c44 :: c45 :: c46 :: c47 :: c51 :: c52 :: c53 :: c54 :: c55 :: c56 :: c57 :: c58 :: c59 :: c60 :: []) ++ τ)) := pick2 61 rfl [25, 48, 49, 50] [0, 1, 2, 3, 4, 5, 6, 7, 8, 9, 10, 11, 12, 13, 14, 15, 16, 17, 18, 19, 20, 21, 22, 23, 24, 26, 27, 28, 29, 30, 31, 32, 33, 34, 35, 36, 37, 38, 39, 40, 41, 42, 43, 44, 45, 46, 47, 51, 52, 53, 54, 55, 56, 57, 58, 59, 60] (by decide +kernel) rfl rfl
theorem pk17 {c0 c1 c2 c3 c4 c5 c6 c7 c8 c9 c10 c11 c12 c13 c14 c15 c16 c17 c18 c19 c20 c21 c22 c23 c24 c25 c26 c27 c28 c29 c30 c31 c32 c33 c34 c35 c36 c37 c38 c39 c40 c41 c42 c43 c44 c45 c46 c47 c48 c49 c50 c51 c52 c53 c54 c55 c56 c57 c58 c59 c60 : Nat × va_E} {τ : va_W} : ((c0 :: c1 :: c2 :: c3 :: c4 :: c5 :: c6 :: c7 :: c8 :: c9 :: c10 :: c11 :: c12 :: c13 :: c14 :: c15 :: c16 :: c17 :: c18 :: c19 :: c20 :: c21 :: c22 :: c23 :: c24 :: c25 :: c26 :: c27 :: c28 :: c29 :: c30 :: c31 :: c32 :: c33 :: c34 :: c35 :: c36 :: c37 :: c38 :: c39 :: c40 :: c41 :: c42 :: c43 :: c44 :: c45 :: c46 :: c47 :: c48 :: c49 :: c50 :: c51 :: c52 :: c53 :: c54 :: c55 :: c56 :: c57 :: c58 :: c59 :: c60 :: []) ++ τ).Perm ((c0 :: c4 :: c6 :: c7 :: c8 :: []) ++ ((c1 :: c2 :: c3 :: c5 :: c9 :: c10 :: c11 :: c12 :: c13 :: c14 :: c15 :: c16 :: c17 :: c18 :: c19 :: c20 :: c21 :: c22 :: c23 :: c24 :: c25 :: c26 :: c27 :: c28 :: c29 :: c30 :: c31 :: c32 :: c33 :: c34 :: c35 :: c36 :: c37 :: c38 :: c39 :: c40 :: c41 :: c42 :: c43 :: c44 :: c45 :: c46 :: c47 :: c48 :: c49 :: c50 :: c51 :: c52 :: c53 :: c54 :: c55 :: c56 :: c57 :: c58 :: c59 :: c60 :: []) ++ τ)) := pick2 61 rfl [0, 4, 6, 7, 8] [1, 2, 3, 5, 9, 10, 11, 12, 13, 14, 15, 16, 17, 18, 19, 20, 21, 22, 23, 24, 25, 26, 27, 28, 29, 30, 31, 32, 33, 34, 35, 36, 37, 38, 39, 40, 41, 42, 43, 44, 45, 46, 47, 48, 49, 50, 51, 52, 53, 54, 55, 56, 57, 58, 59, 60] (by decide +kernel) rfl rfl
theorem pk18 {c0 c1 c2 c3 c4 c5 c6 c7 c8 c9 c10 c11 c12 c13 c14 c15 c16 c17 c18 c19 c20 c21 c22 c23 c24 c25 c26 c27 c28 c29 c30 c31 c32 c33 c34 c35 c36 c37 c38 c39 c40 c41 c42 c43 c44 c45 c46 c47 c48 c49 c50 c51 c52 c53 c54 c55 c56 c57 c58 c59 c60 : Nat × va_E} {τ : va_W} : ((c0 :: c1 :: c2 :: c3 :: c4 :: c5 :: c6 :: c7 :: c8 :: c9 :: c10 :: c11 :: c12 :: c13 :: c14 :: c15 :: c16 :: c17 :: c18 :: c19 :: c20 :: c21 :: c22 :: c23 :: c24 :: c25 :: c26 :: c27 :: c28 :: c29 :: c30 :: c31 :: c32 :: c33 :: c34 :: c35 :: c36 :: c37 :: c38 :: c39 :: c40 :: c41 :: c42 :: c43 :: c44 :: c45 :: c46 :: c47 :: c48 :: c49 :: c50 :: c51 :: c52 :: c53 :: c54 :: c55 :: c56 :: c57 :: c58 :: c59 :: c60 :: []) ++ τ).Perm ((c0 :: c4 :: c15 :: []) ++ ((c1 :: c2 :: c3 :: c5 :: c6 :: c7 :: c8 :: c9 :: c10 :: c11 :: c12 :: c13 :: c14 :: c16 :: c17 :: c18 :: c19 :: c20 :: c21 :: c22 :: c23 :: c24 :: c25 :: c26 :: c27 :: c28 :: c29 :: c30 :: c31 :: c32 :: c33 :: c34 :: c35 :: c36 :: c37 :: c38 :: c39 :: c40 :: c41 :: c42 :: c43 :: c44 :: c45 :: c46 :: c47 :: c48 :: c49 :: c50 :: c51 :: c52 :: c53 :: c54 :: c55 :: c56 :: c57 :: c58 :: c59 :: c60 :: []) ++ τ)) := pick2 61 rfl [0, 4, 15] [1, 2, 3, 5, 6, 7, 8, 9, 10, 11, 12, 13, 14, 16, 17, 18, 19, 20, 21, 22, 23, 24, 25, 26, 27, 28, 29, 30, 31, 32, 33, 34, 35, 36, 37, 38, 39, 40, 41, 42, 43, 44, 45, 46, 47, 48, 49, 50, 51, 52, 53, 54, 55, 56, 57, 58, 59, 60] (by decide +kernel) rfl rfl
theorem pk19 {c0 c1 c2 c3 c4 c5 c6 c7 c8 c9 c10 c11 c12 c13 c14 c15 c16 c17 c18 c19 c20 c21 c22 c23 c24 c25 c26 c27 c28 c29 c30 c31 c32 c33 c34 c35 c36 c37 c38 c39 c40 c41 c42 c43 c44 c45 c46 c47 c48 c49 c50 c51 c52 c53 c54 c55 c56 c57 c58 c59 c60 : Nat × va_E} {τ : va_W} : ((c0 :: c1 :: c2 :: c3 :: c4 :: c5 :: c6 :: c7 :: c8 :: c9 :: c10 :: c11 :: c12 :: c13 :: c14 :: c15 :: c16 :: c17 :: c18 :: c19 :: c20 :: c21 :: c22 :: c23 :: c24 :: c25 :: c26 :: c27 :: c28 :: c29 :: c30 :: c31 :: c32 :: c33 :: c34 :: c35 :: c36 :: c37 :: c38 :: c39 :: c40 :: c41 :: c42 :: c43 :: c44 :: c45 :: c46 :: c47 :: c48 :: c49 :: c50 :: c51 :: c52 :: c53 :: c54 :: c55 :: c56 :: c57 :: c58 :: c59 :: c60 :: []) ++ τ).Perm ((c25 :: c39 :: []) ++ ((c0 :: c1 :: c2 :: c3 :: c4 :: c5 :: c6 :: c7 :: c8 :: c9 :: c10 :: c11 :: c12 :: c13 :: c14 :: c15 :: c16 :: c17 :: c18 :: c19 :: c20 :: c21 :: c22 :: c23 :: c24 :: c26 :: c27 :: c28 :: c29 :: c30 :: c31 :: c32 :: c33 :: c34 :: c35 :: c36 :: c37 :: c38 :: c40 :: c41 :: c42 :: c43 :: c44 :: c45 :: c46 :: c47 :: c48 :: c49 :: c50 :: c51 :: c52 :: c53 :: c54 :: c55 :: c56 :: c57 :: c58 :: c59 :: c60 :: []) ++ τ)) := pick2 61 rfl [25, 39] [0, 1, 2, 3, 4, 5, 6, 7, 8, 9, 10, 11, 12, 13, 14, 15, 16, 17, 18, 19, 20, 21, 22, 23, 24, 26, 27, 28, 29, 30, 31, 32, 33, 34, 35, 36, 37, 38, 40, 41, 42, 43, 44, 45, 46, 47, 48, 49, 50, 51, 52, 53, 54, 55, 56, 57, 58, 59, 60] (by decide +kernel) rfl rfl
theorem pk20 {c0 c1 c2 c3 c4 c5 c6 c7 c8 c9 c10 c11 c12 c13 c14 c15 c16 c17 c18 c19 c20 c21 c22 c23 c24 c25 c26 c27 c28 c29 c30 c31 c32 c33 c34 c35 c36 c37 c38 c39 c40 c41 c42 c43 c44 c45 c46 c47 c48 c49 c50 c51 c52 c53 c54 c55 c56 c57 c58 c59 c60 c61 c62 : Nat × va_E} {τ : va_W} : (((c0 :: c1 :: c2 :: c3 :: c4 :: c5 :: c6 :: c7 :: c8 :: c9 :: c10 :: c11 :: c12 :: c13 :: c14 :: c15 :: c16 :: c17 :: c18 :: c19 :: c20 :: c21 :: c22 :: c23 :: c24 :: c25 :: c26 :: c27 :: c28 :: c29 :: c30 :: c31 :: c32 :: c33 :: c34 :: c35 :: c36 :: c37 :: c38 :: c39 :: c40 :: c41 :: c42 :: c43 :: c44 :: c45 :: c46 :: c47 :: c48 :: c49 :: c50 :: c51 :: c52 :: c53 :: c54 :: c55 :: c56 :: c57 :: c58 :: c59 :: c60 :: []) ++ [c61, c62]) ++ τ).Perm ((c0 :: c3 :: c61 :: []) ++ ((c1 :: c2 :: c4 :: c5 :: c6 :: c7 :: c8 :: c9 :: c10 :: c11 :: c12 :: c13 :: c14 :: c15 :: c16 :: c17 :: c18 :: c19 :: c20 :: c21 :: c22 :: c23 :: c24 :: c25 :: c26 :: c27 :: c28 :: c29 :: c30 :: c31 :: c32 :: c33 :: c34 :: c35 :: c36 :: c37 :: c38 :: c39 :: c40 :: c41 :: c42 :: c43 :: c44 :: c45 :: c46 :: c47 :: c48 :: c49 :: c50 :: c51 :: c52 :: c53 :: c54 :: c55 :: c56 :: c57 :: c58 :: c59 :: c60 :: c62 :: []) ++ τ)) := pick2 63 rfl [0, 3, 61] [1, 2, 4, 5, 6, 7, 8, 9, 10, 11, 12, 13, 14, 15, 16, 17, 18, 19, 20, 21, 22, 23, 24, 25, 26, 27, 28, 29, 30, 31, 32, 33, 34, 35, 36, 37, 38, 39, 40, 41, 42, 43, 44, 45, 46, 47, 48, 49, 50, 51, 52, 53, 54, 55, 56, 57, 58, 59, 60, 62] (by decide +kernel) rfl rfl
theorem pk21 {c0 c1 c2 c3 c4 c5 c6 c7 c8 c9 c10 c11 c12 c13 c14 c15 c16 c17 c18 c19 c20 c21 c22 c23 c24 c25 c26 c27 c28 c29 c30 c31 c32 c33 c34 c35 c36 c37 c38 c39 c40 c41 c42 c43 c44 c45 c46 c47 c48 c49 c50 c51 c52 c53 c54 c55 c56 c57 c58 c59 c60 : Nat × va_E} {τ : va_W} : ((c0 :: c1 :: c2 :: c3 :: c4 :: c5 :: c6 :: c7 :: c8 :: c9 :: c10 :: c11 :: c12 :: c13 :: c14 :: c15 :: c16 :: c17 :: c18 :: c19 :: c20 :: c21 :: c22 :: c23 :: c24 :: c25 :: c26 :: c27 :: c28 :: c29 :: c30 :: c31 :: c32 :: c33 :: c34 :: c35 :: c36 :: c37 :: c38 :: c39 :: c40 :: c41 :: c42 :: c43 :: c44 :: c45 :: c46 :: c47 :: c48 :: c49 :: c50 :: c51 :: c52 :: c53 :: c54 :: c55 :: c56 :: c57 :: c58 :: c59 :: c60 :: []) ++ τ).Perm ((c25 :: c39 :: c40 :: c56 :: []) ++ ((c0 :: c1 :: c2 :: c3 :: c4 :: c5 :: c6 :: c7 :: c8 :: c9 :: c10 :: c11 :: c12 :: c13 :: c14 :: c15 :: c16 :: c17 :: c18 :: c19 :: c20 :: c21 :: c22 :: c23 :: c24 :: c26 :: c27 :: c28 :: c29 :: c30 :: c31 :: c32 :: c33 :: c34 :: c35 :: c36 :: c37 :: c38 :: c41 :: c42 :: c43 :: c44 :: c45 :: c46 :: c47 :: c48 :: c49 :: c50 :: c51 :: c52 :: c53 :: c54 :: c55 :: c57 :: c58 :: c59 :: c60 :: []) ++ τ)) := pick2 61 rfl [25, 39, 40, 56] [0, 1, 2, 3, 4, 5, 6, 7, 8, 9, 10, 11, 12, 13, 14, 15, 16, 17, 18, 19, 20, 21, 22, 23, 24, 26, 27, 28, 29, 30, 31, 32, 33, 34, 35, 36, 37, 38, 41, 42, 43, 44, 45, 46, 47, 48, 49, 50, 51, 52, 53, 54, 55, 57, 58, 59, 60] (by decide +kernel) rfl rfl
theorem pk22 {c0 c1 c2 c3 c4 c5 c6 c7 c8 c9 c10 c11 c12 c13 c14 c15 c16 c17 c18 c19 c20 c21 c22 c23 c24 c25 c26 c27 c28 c29 c30 c31 c32 c33 c34 c35 c36 c37 c38 c39 c40 c41 c42 c43 c44 c45 c46 c47 c48 c49 c50 c51 c52 c53 c54 c55 c56 c57 c58 c59 c60 c61 c62 : Nat × va_E} {τ : va_W} : (((c0 :: c1 :: c2 :: c3 :: c4 :: c5 :: c6 :: c7 :: c8 :: c9 :: c10 :: c11 :: c12 :: c13 :: c14 :: c15 :: c16 :: c17 :: c18 :: c19 :: c20 :: c21 :: c22 :: c23 :: c24 :: c25 :: c26 :: c27 :: c28 :: c29 :: c30 :: c31 :: c32 :: c33 :: c34 :: c35 :: c36 :: c37 :: c38 :: c39 :: c40 :: c41 :: c42 :: c43 :: c44 :: c45 :: c46 :: c47 :: c48 :: c49 :: c50 :: c51 :: c52 :: c53 :: c54 :: c55 :: c56 :: c57 :: c58 :: c59 :: c60 :: []) ++ [c61, c62]) ++ τ).Perm ((c0 :: c3 :: c61 :: c15 :: c16 :: []) ++ ((c1 :: c2 :: c4 :: c5 :: c6 :: c7 :: c8 :: c9 :: c10 :: c11 :: c12 :: c13 :: c14 :: c17 :: c18 :: c19 :: c20 :: c21 :: c22 :: c23 :: c24 :: c25 :: c26 :: c27 :: c28 :: c29 :: c30 :: c31 :: c32 :: c33 :: c34 :: c35 :: c36 :: c37 :: c38 :: c39 :: c40 :: c41 :: c42 :: c43 :: c44 :: c45 :: c46 :: c47 :: c48 :: c49 :: c50 :: c51 :: c52 :: c53 :: c54 :: c55 :: c56 :: c57 :: c58 :: c59 :: c60 :: c62 :: []) ++ τ)) := pick2 63 rfl [0, 3, 61, 15, 16] [1, 2, 4, 5, 6, 7, 8, 9, 10, 11, 12, 13, 14, 17, 18, 19, 20, 21, 22, 23, 24, 25, 26, 27, 28, 29, 30, 31, 32, 33, 34, 35, 36, 37, 38, 39, 40, 41, 42, 43, 44, 45, 46, 47, 48, 49, 50, 51, 52, 53, 54, 55, 56, 57, 58, 59, 60, 62] (by decide +kernel) rfl rfl
theorem pk23 {c0 c1 c2 c3 c4 c5 c6 c7 c8 c9 c10 c11 c12 c13 c14 c15 c16 c17 c18 c19 c20 c21 c22 c23 c24 c25 c26 c27 c28 c29 c30 c31 c32 c33 c34 c35 c36 c37 c38 c39 c40 c41 c42 c43 c44 c45 c46 c47 c48 c49 c50 c51 c52 c53 c54 c55 c56 c57 c58 c59 c60 : Nat × va_E} {τ : va_W} : ((c0 :: c1 :: c2 :: c3 :: c4 :: c5 :: c6 :: c7 :: c8 :: c9 :: c10 :: c11 :: c12 :: c13 :: c14 :: c15 :: c16 :: c17 :: c18 :: c19 :: c20 :: c21 :: c22 :: c23 :: c24 :: c25 :: c26 :: c27 :: c28 :: c29 :: c30 :: c31 :: c32 :: c33 :: c34 :: c35 :: c36 :: c37 :: c38 :: c39 :: c40 :: c41 :: c42 :: c43 :: c44 :: c45 :: c46 :: c47 :: c48 :: c49 :: c50 :: c51 :: c52 :: c53 :: c54 :: c55 :: c56 :: c57 :: c58 :: c59 :: c60 :: []) ++ τ).Perm ((c0 :: c15 :: []) ++ ((c1 :: c2 :: c3 :: c4 :: c5 :: c6 :: c7 :: c8 :: c9 :: c10 :: c11 :: c12 :: c13 :: c14 :: c16 :: c17 :: c18 :: c19 :: c20 :: c21 :: c22 :: c23 :: c24 :: c25 :: c26 :: c27 :: c28 :: c29 :: c30 :: c31 :: c32 :: c33 :: c34 :: c35 :: c36 :: c37 :: c38 :: c39 :: c40 :: c41 :: c42 :: c43 :: c44 :: c45 :: c46 :: c47 :: c48 :: c49 :: c50 :: c51 :: c52 :: c53 :: c54 :: c55 :: c56 :: c57 :: c58 :: c59 :: c60 :: []) ++ τ)) := pick2 61 rfl [0, 15] [1, 2, 3, 4, 5, 6, 7, 8, 9, 10, 11, 12, 13, 14, 16, 17, 18, 19, 20, 21, 22, 23, 24, 25, 26, 27, 28, 29, 30, 31, 32, 33, 34, 35, 36, 37, 38, 39, 40, 41, 42, 43, 44, 45, 46, 47, 48, 49, 50, 51, 52, 53, 54, 55, 56, 57, 58, 59, 60] (by decide +kernel) rfl rfl
theorem pk24 {c0 c1 c2 c3 c4 c5 c6 c7 c8 c9 c10 c11 c12 c13 c14 c15 c16 c17 c18 c19 c20 c21 c22 c23 c24 c25 c26 c27 c28 c29 c30 c31 c32 c33 c34 c35 c36 c37 c38 c39 c40 c41 c42 c43 c44 c45 c46 c47 c48 c49 c50 c51 c52 c53 c54 c55 c56 c57 c58 c59 c60 c61 c62 c63 c64 : Nat × va_E} {τ : va_W} : (((c0 :: c1 :: c2 :: c3 :: c4 :: c5 :: c6 :: c7 :: c8 :: c9 :: c10 :: c11 :: c12 :: c13 :: c14 :: c15 :: c16 :: c17 :: c18 :: c19 :: c20 :: c21 :: c22 :: c23 :: c24 :: c25 :: c26 :: c27 :: c28 :: c29 :: c30 :: c31 :: c32 :: c33 :: c34 :: c35 :: c36 :: c37 :: c38 :: c39 :: c40 :: c41 :: c42 :: c43 :: c44 :: c45 :: c46 :: c47 :: c48 :: c49 :: c50 :: c51 :: c52 :: c53 :: c54 :: c55 :: c56 :: c57 :: c58 :: c59 :: c60 :: []) ++ [c61, c62, c63, c64]) ++ τ).Perm ((c0 :: c4 :: c2 :: c61 :: []) ++ ((c1 :: c3 :: c5 :: c6 :: c7 :: c8 :: c9 :: c10 :: c11 :: c12 :: c13 :: c14 :: c15 :: c16 :: c17 :: c18 :: c19 :: c20 :: c21 :: c22 :: c23 :: c24 :: c25 :: c26 :: c27 :: c28 :: c29 :: c30 :: c31 :: c32 :: c33 :: c34 :: c35 :: c36 :: c37 :: c38 :: c39 :: c40 :: c41 :: c42 :: c43 :: c44 :: c45 :: c46 :: c47 :: c48 :: c49 :: c50 :: c51 :: c52 :: c53 :: c54 :: c55 :: c56 :: c57 :: c58 :: c59 :: c60 :: c62 :: c63 :: c64 :: []) ++ τ)) := pick2 65 rfl [0, 4, 2, 61] [1, 3, 5, 6, 7, 8, 9, 10, 11, 12, 13, 14, 15, 16, 17, 18, 19, 20, 21, 22, 23, 24, 25, 26, 27, 28, 29, 30, 31, 32, 33, 34, 35, 36, 37, 38, 39, 40, 41, 42, 43, 44, 45, 46, 47, 48, 49, 50, 51, 52, 53, 54, 55, 56, 57, 58, 59, 60, 62, 63, 64] (by decide +kernel) rfl rfl
theorem pk25 {c0 c1 c2 c3 c4 c5 c6 c7 c8 c9 c10 c11 c12 c13 c14 c15 c16 c17 c18 c19 c20 c21 c22 c23 c24 c25 c26 c27 c28 c29 c30 c31 c32 c33 c34 c35 c36 c37 c38 c39 c40 c41 c42 c43 c44 c45 c46 c47 c48 c49 c50 c51 c52 c53 c54 c55 c56 c57 c58 c59 c60 : Nat × va_E} {τ : va_W} : ((c0 :: c1 :: c2 :: c3 :: c4 :: c5 :: c6 :: c7 :: c8 :: c9 :: c10 :: c11 :: c12 :: c13 :: c14 :: c15 :: c16 :: c17 :: c18 :: c19 :: c20 :: c21 :: c22 :: c23 :: c24 :: c25 :: c26 :: c27 :: c28 :: c29 :: c30 :: c31 :: c32 :: c33 :: c34 :: c35 :: c36 :: c37 :: c38 :: c39 :: c40 :: c41 :: c42 :: c43 :: c44 :: c45 :: c46 :: c47 :: c48 :: c49 :: c50 :: c51 :: c52 :: c53 :: c54 :: c55 :: c56 :: c57 :: c58 :: c59 :: c60 :: []) ++ τ).Perm ((c25 :: c32 :: c33 :: c34 :: c27 :: c28 :: c29 :: c30 :: c31 :: c35 :: c37 :: c38 :: c43 :: c44 :: c45 :: c46 :: []) ++ ((c0 :: c1 :: c2 :: c3 :: c4 :: c5 :: c6 :: c7 :: c8 :: c9 :: c10 :: c11 :: c12 :: c13 :: c14 :: c15 :: c16 :: c17 :: c18 :: c19 :: c20 :: c21 :: c22 :: c23 :: c24 :: c26 :: c36 :: c39 :: c40 :: c41 :: c42 :: c47 :: c48 :: c49 :: c50 :: c51 :: c52 :: c53 :: c54 :: c55 :: c56 :: c57 :: c58 :: c59 :: c60 :: []) ++ τ)) := pick2 61 rfl [25, 32, 33, 34, 27, 28, 29, 30, 31, 35, 37, 38, 43, 44, 45, 46] [0, 1, 2, 3, 4, 5, 6, 7, 8, 9, 10, 11, 12, 13, 14, 15, 16, 17, 18, 19, 20, 21, 22, 23, 24, 26, 36, 39, 40, 41, 42, 47, 48, 49, 50, 51, 52, 53, 54, 55, 56, 57, 58, 59, 60] (by decide +kernel) rfl rfl
theorem pk26 {c0 c1 c2 c3 c4 c5 c6 c7 c8 c9 c10 c11 c12 c13 c14 c15 c16 c17 c18 c19 c20 c21 c22 c23 c24 c25 c26 c27 c28 c29 c30 c31 c32 c33 c34 c35 c36 c37 c38 c39 c40 c41 c42 c43 c44 c45 c46 c47 c48 c49 c50 c51 c52 c53 c54 c55 c56 c57 c58 c59 c60 c61 c62 c63 c64 : Nat × va_E} {τ : va_W} : (((c0 :: c1 :: c2 :: c3 :: c4 :: c5 :: c6 :: c7 :: c8 :: c9 :: c10 :: c11 :: c12 :: c13 :: c14 :: c15 :: c16 :: c17 :: c18 :: c19 :: c20 :: c21 :: c22 :: c23 :: c24 :: c25 :: c26 :: c27 :: c28 :: c29 :: c30 :: c31 :: c32 :: c33 :: c34 :: c35 :: c36 :: c37 :: c38 :: c39 :: c40 :: c41 :: c42 :: c43 :: c44 :: c45 :: c46 :: c47 :: c48 :: c49 :: c50 :: c51 :: c52 :: c53 :: c54 :: c55 :: c56 :: c57 :: c58 :: c59 :: c60 :: []) ++ [c61, c62, c63, c64]) ++ τ).Perm ((c0 :: c4 :: c2 :: c61 :: c62 :: c63 :: c64 :: c5 :: c19 :: c20 :: c21 :: c22 :: c23 :: c24 :: []) ++ ((c1 :: c3 :: c6 :: c7 :: c8 :: c9 :: c10 :: c11 :: c12 :: c13 :: c14 :: c15 :: c16 :: c17 :: c18 :: c25 :: c26 :: c27 :: c28 :: c29 :: c30 :: c31 :: c32 :: c33 :: c34 :: c35 :: c36 :: c37 :: c38 :: c39 :: c40 :: c41 :: c42 :: c43 :: c44 :: c45 :: c46 :: c47 :: c48 :: c49 :: c50 :: c51 :: c52 :: c53 :: c54 :: c55 :: c56 :: c57 :: c58 :: c59 :: c60 :: []) ++ τ)) := pick2 65 rfl [0, 4, 2, 61, 62, 63, 64, 5, 19, 20, 21, 22, 23, 24] [1, 3, 6, 7, 8, 9, 10, 11, 12, 13, 14, 15, 16, 17, 18, 25, 26, 27, 28, 29, 30, 31, 32, 33, 34, 35, 36, 37, 38, 39, 40, 41, 42, 43, 44, 45, 46, 47, 48, 49, 50, 51, 52, 53, 54, 55, 56, 57, 58, 59, 60] (by decide +kernel) rfl rfl
theorem pk27 {c0 c1 c2 c3 c4 c5 c6 c7 c8 c9 c10 c11 c12 c13 c14 c15 c16 c17 c18 c19 c20 c21 c22 c23 c24 c25 c26 c27 c28 c29 c30 c31 c32 c33 c34 c35 c36 c37 c38 c39 c40 c41 c42 c43 c44 c45 c46 c47 c48 c49 c50 c51 c52 c53 c54 c55 c56 c57 c58 c59 c60 : Nat × va_E} {τ : va_W} : ((c0 :: c1 :: c2 :: c3 :: c4 :: c5 :: c6 :: c7 :: c8 :: c9 :: c10 :: c11 :: c12 :: c13 :: c14 :: c15 :: c16 :: c17 :: c18 :: c19 :: c20 :: c21 :: c22 :: c23 :: c24 :: c25 :: c26 :: c27 :: c28 :: c29 :: c30 :: c31 :: c32 :: c33 :: c34 :: c35 :: c36 :: c37 :: c38 :: c39 :: c40 :: c41 :: c42 :: c43 :: c44 :: c45 :: c46 :: c47 :: c48 :: c49 :: c50 :: c51 :: c52 :: c53 :: c54 :: c55 :: c56 :: c57 :: c58 :: c59 :: c60 :: []) ++ τ).Perm ((c25 :: c32 :: c33 :: c34 :: c27 :: c28 :: c29 :: c30 :: c31 :: c35 :: c37 :: c38 :: c43 :: c44 :: c45 :: c46 :: c41 :: c42 :: c47 :: []) ++ ((c0 :: c1 :: c2 :: c3 :: c4 :: c5 :: c6 :: c7 :: c8 :: c9 :: c10 :: c11 :: c12 :: c13 :: c14 :: c15 :: c16 :: c17 :: c18 :: c19 :: c20 :: c21 :: c22 :: c23 :: c24 :: c26 :: c36 :: c39 :: c40 :: c48 :: c49 :: c50 :: c51 :: c52 :: c53 :: c54 :: c55 :: c56 :: c57 :: c58 :: c59 :: c60 :: []) ++ τ)) := pick2 61 rfl [25, 32, 33, 34, 27, 28, 29, 30, 31, 35, 37, 38, 43, 44, 45, 46, 41, 42, 47] [0, 1, 2, 3, 4, 5, 6, 7, 8, 9, 10, 11, 12, 13, 14, 15, 16, 17, 18, 19, 20, 21, 22, 23, 24, 26, 36, 39, 40, 48, 49, 50, 51, 52, 53, 54, 55, 56, 57, 58, 59, 60] (by decide +kernel) rfl rfl
theorem pk28 {c0 c1 c2 c3 c4 c5 c6 c7 c8 c9 c10 c11 c12 c13 c14 c15 c16 c17 c18 c19 c20 c21 c22 c23 c24 c25 c26 c27 c28 c29 c30 c31 c32 c33 c34 c35 c36 c37 c38 c39 c40 c41 c42 c43 c44 c45 c46 c47 c48 c49 c50 c51 c52 c53 c54 c55 c56 c57 c58 c59 c60 c61 c62 c63 c64 : Nat × va_E} {τ : va_W} : (((c0 :: c1 :: c2 :: c3 :: c4 :: c5 :: c6 :: c7 :: c8 :: c9 :: c10 :: c11 :: c12 :: c13 :: c14 :: c15 :: c16 :: c17 :: c18 :: c19 :: c20 :: c21 :: c22 :: c23 :: c24 :: c25 :: c26 :: c27 :: c28 :: c29 :: c30 :: c31 :: c32 :: c33 :: c34 :: c35 :: c36 :: c37 :: c38 :: c39 :: c40 :: c41 :: c42 :: c43 :: c44 :: c45 :: c46 :: c47 :: c48 :: c49 :: c50 :: c51 :: c52 :: c53 :: c54 :: c55 :: c56 :: c57 :: c58 :: c59 :: c60 :: []) ++ [c61, c62, c63, c64]) ++ τ).Perm ((c0 :: c4 :: c2 :: c61 :: c62 :: c63 :: c64 :: c5 :: c19 :: c20 :: c21 :: c22 :: c23 :: c24 :: c17 :: c18 :: []) ++ ((c1 :: c3 :: c6 :: c7 :: c8 :: c9 :: c10 :: c11 :: c12 :: c13 :: c14 :: c15 :: c16 :: c25 :: c26 :: c27 :: c28 :: c29 :: c30 :: c31 :: c32 :: c33 :: c34 :: c35 :: c36 :: c37 :: c38 :: c39 :: c40 :: c41 :: c42 :: c43 :: c44 :: c45 :: c46 :: c47 :: c48 :: c49 :: c50 :: c51 :: c52 :: c53 :: c54 :: c55 :: c56 :: c57 :: c58 :: c59 :: c60 :: []) ++ τ)) := pick2 65 rfl [0, 4, 2, 61, 62, 63, 64, 5, 19, 20, 21, 22, 23, 24, 17, 18] [1, 3, 6, 7, 8, 9, 10, 11, 12, 13, 14, 15, 16, 25, 26, 27, 28, 29, 30, 31, 32, 33, 34, 35, 36, 37, 38, 39, 40, 41, 42, 43, 44, 45, 46, 47, 48, 49, 50, 51, 52, 53, 54, 55, 56, 57, 58, 59, 60] (by decide +kernel) rfl rfl
theorem pk29 {c0 c1 c2 c3 c4 c5 c6 c7 c8 c9 c10 c11 c12 c13 c14 c15 c16 c17 c18 c19 c20 c21 c22 c23 c24 c25 c26 c27 c28 c29 c30 c31 c32 c33 c34 c35 c36 c37 c38 c39 c40 c41 c42 c43 c44 c45 c46 c47 c48 c49 c50 c51 c52 c53 c54 c55 c56 c57 c58 c59 c60 : Nat × va_E} {τ : va_W} : ((c0 :: c1 :: c2 :: c3 :: c4 :: c5 :: c6 :: c7 :: c8 :: c9 :: c10 :: c11 :: c12 :: c13 :: c14 :: c15 :: c16 :: c17 :: c18 :: c19 :: c20 :: c21 :: c22 :: c23 :: c24 :: c25 :: c26 :: c27 :: c28 :: c29 :: c30 :: c31 :: c32 :: c33 :: c34 :: c35 :: c36 :: c37 :: c38 :: c39 :: c40 :: c41 :: c42 :: c43 :: c44 :: c45 :: c46 :: c47 :: c48 :: c49 :: c50 :: c51 :: c52 :: c53 :: c54 :: c55 :: c56 :: c57 :: c58 :: c59 :: c60 :: []) ++ τ).Perm ((c25 :: c32 :: c33 :: c34 :: c27 :: c28 :: c29 :: c30 :: c31 :: c35 :: c37 :: c38 :: c43 :: c44 :: c45 :: c46 :: c48 :: c49 :: c50 :: c51 :: []) ++ ((c0 :: c1 :: c2 :: c3 :: c4 :: c5 :: c6 :: c7 :: c8 :: c9 :: c10 :: c11 :: c12 :: c13 :: c14 :: c15 :: c16 :: c17 :: c18 :: c19 :: c20 :: c21 :: c22 :: c23 :: c24 :: c26 :: c36 :: c39 :: c40 :: c41 :: c42 :: c47 :: c52 :: c53 :: c54 :: c55 :: c56 :: c57 :: c58 :: c59 :: c60 :: []) ++ τ)) := pick2 61 rfl [25, 32, 33, 34, 27, 28, 29, 30, 31, 35, 37, 38, 43, 44, 45, 46, 48, 49, 50, 51] [0, 1, 2, 3, 4, 5, 6, 7, 8, 9, 10, 11, 12, 13, 14, 15, 16, 17, 18, 19, 20, 21, 22, 23, 24, 26, 36, 39, 40, 41, 42, 47, 52, 53, 54, 55, 56, 57, 58, 59, 60] (by decide +kernel) rfl rfl
theorem pk30 {c0 c1 c2 c3 c4 c5 c6 c7 c8 c9 c10 c11 c12 c13 c14 c15 c16 c17 c18 c19 c20 c21 c22 c23 c24 c25 c26 c27 c28 c29 c30 c31 c32 c33 c34 c35 c36 c37 c38 c39 c40 c41 c42 c43 c44 c45 c46 c47 c48 c49 c50 c51 c52 c53 c54 c55 c56 c57 c58 c59 c60 c61 c62 c63 c64 : Nat × va_E} {τ : va_W} : (((c0 :: c1 :: c2 :: c3 :: c4 :: c5 :: c6 :: c7 :: c8 :: c9 :: c10 :: c11 :: c12 :: c13 :: c14 :: c15 :: c16 :: c17 :: c18 :: c19 :: c20 :: c21 :: c22 :: c23 :: c24 :: c25 :: c26 :: c27 :: c28 :: c29 :: c30 :: c31 :: c32 :: c33 :: c34 :: c35 :: c36 :: c37 :: c38 :: c39 :: c40 :: c41 :: c42 :: c43 :: c44 :: c45 :: c46 :: c47 :: c48 :: c49 :: c50 :: c51 :: c52 :: c53 :: c54 :: c55 :: c56 :: c57 :: c58 :: c59 :: c60 :: []) ++ [c61, c62, c63, c64]) ++ τ).Perm ((c0 :: c4 :: c2 :: c61 :: c62 :: c63 :: c64 :: c5 :: c19 :: c20 :: c21 :: c22 :: c23 :: c24 :: c6 :: c7 :: c8 :: []) ++ ((c1 :: c3 :: c9 :: c10 :: c11 :: c12 :: c13 :: c14 :: c15 :: c16 :: c17 :: c18 :: c25 :: c26 :: c27 :: c28 :: c29 :: c30 :: c31 :: c32 :: c33 :: c34 :: c35 :: c36 :: c37 :: c38 :: c39 :: c40 :: c41 :: c42 :: c43 :: c44 :: c45 :: c46 :: c47 :: c48 :: c49 :: c50 :: c51 :: c52 :: c53 :: c54 :: c55 :: c56 :: c57 :: c58 :: c59 :: c60 :: []) ++ τ)) := pick2 65 rfl [0, 4, 2, 61, 62, 63, 64, 5, 19, 20, 21, 22, 23, 24, 6, 7, 8] [1, 3, 9, 10, 11, 12, 13, 14, 15, 16, 17, 18, 25, 26, 27, 28, 29, 30, 31, 32, 33, 34, 35, 36, 37, 38, 39, 40, 41, 42, 43, 44, 45, 46, 47, 48, 49, 50, 51, 52, 53, 54, 55, 56, 57, 58, 59, 60] (by decide +kernel) rfl rfl
theorem pk31 {c0 c1 c2 c3 c4 c5 c6 c7 c8 c9 c10 c11 c12 c13 c14 c15 c16 c17 c18 c19 c20 c21 c22 c23 c24 c25 c26 c27 c28 c29 c30 c31 c32 c33 c34 c35 c36 c37 c38 c39 c40 c41 c42 c43 c44 c45 c46 c47 c48 c49 c50 c51 c52 c53 c54 c55 c56 c57 c58 c59 c60 : Nat × va_E} {τ : va_W} : ((c0 :: c1 :: c2 :: c3 :: c4 :: c5 :: c6 :: c7 :: c8 :: c9 :: c10 :: c11 :: c12 :: c13 :: c14 :: c15 :: c16 :: c17 :: c18 :: c19 :: c20 :: c21 :: c22 :: c23 :: c24 :: c25 :: c26 :: c27 :: c28 :: c29 :: c30 :: c31 :: c32 :: c33 :: c34 :: c35 :: c36 :: c37 :: c38 :: c39 :: c40 :: c41 :: c42 :: c43 :: c44 :: c45 :: c46 :: c47 :: c48 :: c49 :: c50 :: c51 :: c52 :: c53 :: c54 :: c55 :: c56 :: c57 :: c58 :: c59 :: c60 :: []) ++ τ).Perm ((c25 :: c32 :: c33 :: c34 :: c27 :: c28 :: c29 :: c30 :: c31 :: c35 :: c37 :: c38 :: c43 :: c44 :: c45 :: c46 :: c41 :: c42 :: c47 :: c39 :: c40 :: []) ++ ((c0 :: c1 :: c2 :: c3 :: c4 :: c5 :: c6 :: c7 :: c8 :: c9 :: c10 :: c11 :: c12 :: c13 :: c14 :: c15 :: c16 :: c17 :: c18 :: c19 :: c20 :: c21 :: c22 :: c23 :: c24 :: c26 :: c36 :: c48 :: c49 :: c50 :: c51 :: c52 :: c53 :: c54 :: c55 :: c56 :: c57 :: c58 :: c59 :: c60 :: []) ++ τ)) := pick2 61 rfl [25, 32, 33, 34, 27, 28, 29, 30, 31, 35, 37, 38, 43, 44, 45, 46, 41, 42, 47, 39, 40] [0, 1, 2, 3, 4, 5, 6, 7, 8, 9, 10, 11, 12, 13, 14, 15, 16, 17, 18, 19, 20, 21, 22, 23, 24, 26, 36, 48, 49, 50, 51, 52, 53, 54, 55, 56, 57, 58, 59, 60] (by decide +kernel) rfl rfl
theorem pk32 {c0 c1 c2 c3 c4 c5 c6 c7 c8 c9 c10 c11 c12 c13 c14 c15 c16 c17 c18 c19 c20 c21 c22 c23 c24 c25 c26 c27 c28 c29 c30 c31 c32 c33 c34 c35 c36 c37 c38 c39 c40 c41 c42 c43 c44 c45 c46 c47 c48 c49 c50 c51 c52 c53 c54 c55 c56 c57 c58 c59 c60 c61 c62 : Nat × va_E} {τ : va_W} : (((c0 :: c1 :: c2 :: c3 :: c4 :: c5 :: c6 :: c7 :: c8 :: c9 :: c10 :: c11 :: c12 :: c13 :: c14 :: c15 :: c16 :: c17 :: c18 :: c19 :: c20 :: c21 :: c22 :: c23 :: c24 :: c25 :: c26 :: c27 :: c28 :: c29 :: c30 :: c31 :: c32 :: c33 :: c34 :: c35 :: c36 :: c37 :: c38 :: c39 :: c40 :: c41 :: c42 :: c43 :: c44 :: c45 :: c46 :: c47 :: c48 :: c49 :: c50 :: c51 :: c52 :: c53 :: c54 :: c55 :: c56 :: c57 :: c58 :: c59 :: c60 :: []) ++ [c61, c62]) ++ τ).Perm ((c0 :: c4 :: c3 :: c61 :: c62 :: []) ++ ((c1 :: c2 :: c5 :: c6 :: c7 :: c8 :: c9 :: c10 :: c11 :: c12 :: c13 :: c14 :: c15 :: c16 :: c17 :: c18 :: c19 :: c20 :: c21 :: c22 :: c23 :: c24 :: c25 :: c26 :: c27 :: c28 :: c29 :: c30 :: c31 :: c32 :: c33 :: c34 :: c35 :: c36 :: c37 :: c38 :: c39 :: c40 :: c41 :: c42 :: c43 :: c44 :: c45 :: c46 :: c47 :: c48 :: c49 :: c50 :: c51 :: c52 :: c53 :: c54 :: c55 :: c56 :: c57 :: c58 :: c59 :: c60 :: []) ++ τ)) := pick2 63 rfl [0, 4, 3, 61, 62] [1, 2, 5, 6, 7, 8, 9, 10, 11, 12, 13, 14, 15, 16, 17, 18, 19, 20, 21, 22, 23, 24, 25, 26, 27, 28, 29, 30, 31, 32, 33, 34, 35, 36, 37, 38, 39, 40, 41, 42, 43, 44, 45, 46, 47, 48, 49, 50, 51, 52, 53, 54, 55, 56, 57, 58, 59, 60] (by decide +kernel) rfl rfl
theorem pk33 {c0 c1 c2 c3 c4 c5 c6 c7 c8 c9 c10 c11 c12 c13 c14 c15 c16 c17 c18 c19 c20 c21 c22 c23 c24 c25 c26 c27 c28 c29 c30 c31 c32 c33 c34 c35 c36 c37 c38 c39 c40 c41 c42 c43 c44 c45 c46 c47 c48 c49 c50 c51 c52 c53 c54 c55 c56 c57 c58 c59 c60 c61 c62 c63 c64 c65 c66 : Nat × va_E} {τ : va_W} : ((((c0 :: c1 :: c2 :: c3 :: c4 :: c5 :: c6 :: c7 :: c8 :: c9 :: c10 :: c11 :: c12 :: c13 :: c14 :: c15 :: c16 :: c17 :: c18 :: c19 :: c20 :: c21 :: c22 :: c23 :: c24 :: c25 :: c26 :: c27 :: c28 :: c29 :: c30 :: c31 :: c32 :: c33 :: c34 :: c35 :: c36 :: c37 :: c38 :: c39 :: c40 :: c41 :: c42 :: c43 :: c44 :: c45 :: c46 :: c47 :: c48 :: c49 :: c50 :: c51 :: c52 :: c53 :: c54 :: c55 :: c56 :: c57 :: c58 :: c59 :: c60 :: []) ++ [c61, c62, c63, c64]) ++ [c65, c66]) ++ τ).Perm ((c0 :: c4 :: c2 :: c61 :: c62 :: c63 :: c64 :: c3 :: c65 :: c66 :: c5 :: c19 :: c20 :: c21 :: c22 :: c23 :: c24 :: []) ++ ((c1 :: c6 :: c7 :: c8 :: c9 :: c10 :: c11 :: c12 :: c13 :: c14 :: c15 :: c16 :: c17 :: c18 :: c25 :: c26 :: c27 :: c28 :: c29 :: c30 :: c31 :: c32 :: c33 :: c34 :: c35 :: c36 :: c37 :: c38 :: c39 :: c40 :: c41 :: c42 :: c43 :: c44 :: c45 :: c46 :: c47 :: c48 :: c49 :: c50 :: c51 :: c52 :: c53 :: c54 :: c55 :: c56 :: c57 :: c58 :: c59 :: c60 :: []) ++ τ)) := pick2 67 rfl [0, 4, 2, 61, 62, 63, 64, 3, 65, 66, 5, 19, 20, 21, 22, 23, 24] [1, 6, 7, 8, 9, 10, 11, 12, 13, 14, 15, 16, 17, 18, 25, 26, 27, 28, 29, 30, 31, 32, 33, 34, 35, 36, 37, 38, 39, 40, 41, 42, 43, 44, 45, 46, 47, 48, 49, 50, 51, 52, 53, 54, 55, 56, 57, 58, 59, 60] (by decide +kernel) rfl rfl
theorem pk34 {c0 c1 c2 c3 c4 c5 c6 c7 c8 c9 c10 c11 c12 c13 c14 c15 c16 c17 c18 c19 c20 c21 c22 c23 c24 c25 c26 c27 c28 c29 c30 c31 c32 c33 c34 c35 c36 c37 c38 c39 c40 c41 c42 c43 c44 c45 c46 c47 c48 c49 c50 c51 c52 c53 c54 c55 c56 c57 c58 c59 c60 : Nat × va_E} {τ : va_W} : ((c0 :: c1 :: c2 :: c3 :: c4 :: c5 :: c6 :: c7 :: c8 :: c9 :: c10 :: c11 :: c12 :: c13 :: c14 :: c15 :: c16 :: c17 :: c18 :: c19 :: c20 :: c21 :: c22 :: c23 :: c24 :: c25 :: c26 :: c27 :: c28 :: c29 :: c30 :: c31 :: c32 :: c33 :: c34 :: c35 :: c36 :: c37 :: c38 :: c39 :: c40 :: c41 :: c42 :: c43 :: c44 :: c45 :: c46 :: c47 :: c48 :: c49 :: c50 :: c51 :: c52 :: c53 :: c54 :: c55 :: c56 :: c57 :: c58 :: c59 :: c60 :: []) ++ τ).Perm ((c25 :: c32 :: c33 :: c34 :: c27 :: c28 :: c29 :: c30 :: c31 :: c35 :: c37 :: c38 :: c43 :: c44 :: c57 :: c58 :: c59 :: []) ++ ((c0 :: c1 :: c2 :: c3 :: c4 :: c5 :: c6 :: c7 :: c8 :: c9 :: c10 :: c11 :: c12 :: c13 :: c14 :: c15 :: c16 :: c17 :: c18 :: c19 :: c20 :: c21 :: c22 :: c23 :: c24 :: c26 :: c36 :: c39 :: c40 :: c41 :: c42 :: c45 :: c46 :: c47 :: c48 :: c49 :: c50 :: c51 :: c52 :: c53 :: c54 :: c55 :: c56 :: c60 :: []) ++ τ)) := pick2 61 rfl [25, 32, 33, 34, 27, 28, 29, 30, 31, 35, 37, 38, 43, 44, 57, 58, 59] [0, 1, 2, 3, 4, 5, 6, 7, 8, 9, 10, 11, 12, 13, 14, 15, 16, 17, 18, 19, 20, 21, 22, 23, 24, 26, 36, 39, 40, 41, 42, 45, 46, 47, 48, 49, 50, 51, 52, 53, 54, 55, 56, 60] (by decide +kernel) rfl rfl
theorem pk35 {c0 c1 c2 c3 c4 c5 c6 c7 c8 c9 c10 c11 c12 c13 c14 c15 c16 c17 c18 c19 c20 c21 c22 c23 c24 c25 c26 c27 c28 c29 c30 c31 c32 c33 c34 c35 c36 c37 c38 c39 c40 c41 c42 c43 c44 c45 c46 c47 c48 c49 c50 c51 c52 c53 c54 c55 c56 c57 c58 c59 c60 c61 c62 c63 c64 c65 c66 : Nat × va_E} {τ : va_W} : ((((c0 :: c1 :: c2 :: c3 :: c4 :: c5 :: c6 :: c7 :: c8 :: c9 :: c10 :: c11 :: c12 :: c13 :: c14 :: c15 :: c16 :: c17 :: c18 :: c19 :: c20 :: c21 :: c22 :: c23 :: c24 :: c25 :: c26 :: c27 :: c28 :: c29 :: c30 :: c31 :: c32 :: c33 :: c34 :: c35 :: c36 :: c37 :: c38 :: c39 :: c40 :: c41 :: c42 :: c43 :: c44 :: c45 :: c46 :: c47 :: c48 :: c49 :: c50 :: c51 :: c52 :: c53 :: c54 :: c55 :: c56 :: c57 :: c58 :: c59 :: c60 :: []) ++ [c61, c62, c63, c64]) ++ [c65, c66]) ++ τ).Perm ((c0 :: c4 :: c2 :: c61 :: c62 :: c63 :: c64 :: c5 :: c19 :: c20 :: c21 :: c22 :: c23 :: c24 :: c14 :: c65 :: c66 :: []) ++ ((c1 :: c3 :: c6 :: c7 :: c8 :: c9 :: c10 :: c11 :: c12 :: c13 :: c15 :: c16 :: c17 :: c18 :: c25 :: c26 :: c27 :: c28 :: c29 :: c30 :: c31 :: c32 :: c33 :: c34 :: c35 :: c36 :: c37 :: c38 :: c39 :: c40 :: c41 :: c42 :: c43 :: c44 :: c45 :: c46 :: c47 :: c48 :: c49 :: c50 :: c51 :: c52 :: c53 :: c54 :: c55 :: c56 :: c57 :: c58 :: c59 :: c60 :: []) ++ τ)) := pick2 67 rfl [0, 4, 2, 61, 62, 63, 64, 5, 19, 20, 21, 22, 23, 24, 14, 65, 66] [1, 3, 6, 7, 8, 9, 10, 11, 12, 13, 15, 16, 17, 18, 25, 26, 27, 28, 29, 30, 31, 32, 33, 34, 35, 36, 37, 38, 39, 40, 41, 42, 43, 44, 45, 46, 47, 48, 49, 50, 51, 52, 53, 54, 55, 56, 57, 58, 59, 60] (by decide +kernel) rfl rfl
theorem pk36 {c0 c1 c2 c3 c4 c5 c6 c7 c8 c9 c10 c11 c12 c13 c14 c15 c16 c17 c18 c19 c20 c21 c22 c23 c24 c25 c26 c27 c28 c29 c30 c31 c32 c33 c34 c35 c36 c37 c38 c39 c40 c41 c42 c43 c44 c45 c46 c47 c48 c49 c50 c51 c52 c53 c54 c55 c56 c57 c58 c59 c60 : Nat × va_E} {τ : va_W} : ((c0 :: c1 :: c2 :: c3 :: c4 :: c5 :: c6 :: c7 :: c8 :: c9 :: c10 :: c11 :: c12 :: c13 :: c14 :: c15 :: c16 :: c17 :: c18 :: c19 :: c20 :: c21 :: c22 :: c23 :: c24 :: c25 :: c26 :: c27 :: c28 :: c29 :: c30 :: c31 :: c32 :: c33 :: c34 :: c35 :: c36 :: c37 :: c38 :: c39 :: c40 :: c41 :: c42 :: c43 :: c44 :: c45 :: c46 :: c47 :: c48 :: c49 :: c50 :: c51 :: c52 :: c53 :: c54 :: c55 :: c56 :: c57 :: c58 :: c59 :: c60 :: []) ++ τ).Perm ((c25 :: c57 :: c58 :: c59 :: []) ++ ((c0 :: c1 :: c2 :: c3 :: c4 :: c5 :: c6 :: c7 :: c8 :: c9 :: c10 :: c11 :: c12 :: c13 :: c14 :: c15 :: c16 :: c17 :: c18 :: c19 :: c20 :: c21 :: c22 :: c23 :: c24 :: c26 :: c27 :: c28 :: c29 :: c30 :: c31 :: c32 :: c33 :: c34 :: c35 :: c36 :: c37 :: c38 :: c39 :: c40 :: c41 :: c42 :: c43 :: c44 :: c45 :: c46 :: c47 :: c48 :: c49 :: c50 :: c51 :: c52 :: c53 :: c54 :: c55 :: c56 :: c60 :: []) ++ τ)) := pick2 61 rfl [25, 57, 58, 59] [0, 1, 2, 3, 4, 5, 6, 7, 8, 9, 10, 11, 12, 13, 14, 15, 16, 17, 18, 19, 20, 21, 22, 23, 24, 26, 27, 28, 29, 30, 31, 32, 33, 34, 35, 36, 37, 38, 39, 40, 41, 42, 43, 44, 45, 46, 47, 48, 49, 50, 51, 52, 53, 54, 55, 56, 60] (by decide +kernel) rfl rfl
theorem pk37 {c0 c1 c2 c3 c4 c5 c6 c7 c8 c9 c10 c11 c12 c13 c14 c15 c16 c17 c18 c19 c20 c21 c22 c23 c24 c25 c26 c27 c28 c29 c30 c31 c32 c33 c34 c35 c36 c37 c38 c39 c40 c41 c42 c43 c44 c45 c46 c47 c48 c49 c50 c51 c52 c53 c54 c55 c56 c57 c58 c59 c60 c61 c62 : Nat × va_E} {τ : va_W} : (((c0 :: c1 :: c2 :: c3 :: c4 :: c5 :: c6 :: c7 :: c8 :: c9 :: c10 :: c11 :: c12 :: c13 :: c14 :: c15 :: c16 :: c17 :: c18 :: c19 :: c20 :: c21 :: c22 :: c23 :: c24 :: c25 :: c26 :: c27 :: c28 :: c29 :: c30 :: c31 :: c32 :: c33 :: c34 :: c35 :: c36 :: c37 :: c38 :: c39 :: c40 :: c41 :: c42 :: c43 :: c44 :: c45 :: c46 :: c47 :: c48 :: c49 :: c50 :: c51 :: c52 :: c53 :: c54 :: c55 :: c56 :: c57 :: c58 :: c59 :: c60 :: []) ++ [c61, c62]) ++ τ).Perm ((c0 :: c14 :: c61 :: c62 :: []) ++ ((c1 :: c2 :: c3 :: c4 :: c5 :: c6 :: c7 :: c8 :: c9 :: c10 :: c11 :: c12 :: c13 :: c15 :: c16 :: c17 :: c18 :: c19 :: c20 :: c21 :: c22 :: c23 :: c24 :: c25 :: c26 :: c27 :: c28 :: c29 :: c30 :: c31 :: c32 :: c33 :: c34 :: c35 :: c36 :: c37 :: c38 :: c39 :: c40 :: c41 :: c42 :: c43 :: c44 :: c45 :: c46 :: c47 :: c48 :: c49 :: c50 :: c51 :: c52 :: c53 :: c54 :: c55 :: c56 :: c57 :: c58 :: c59 :: c60 :: []) ++ τ)) := pick2 63 rfl [0, 14, 61, 62] [1, 2, 3, 4, 5, 6, 7, 8, 9, 10, 11, 12, 13, 15, 16, 17, 18, 19, 20, 21, 22, 23, 24, 25, 26, 27, 28, 29, 30, 31, 32, 33, 34, 35, 36, 37, 38, 39, 40, 41, 42, 43, 44, 45, 46, 47, 48, 49, 50, 51, 52, 53, 54, 55, 56, 57, 58, 59, 60] (by decide +kernel) rfl rfl
theorem pk38 {c0 c1 c2 c3 c4 c5 c6 c7 c8 c9 c10 c11 c12 c13 c14 c15 c16 c17 c18 c19 c20 c21 c22 c23 c24 c25 c26 c27 c28 c29 c30 c31 c32 c33 c34 c35 c36 c37 c38 c39 c40 c41 c42 c43 c44 c45 c46 c47 c48 c49 c50 c51 c52 c53 c54 c55 c56 c57 c58 c59 c60 : Nat × va_E} {τ : va_W} : ((c0 :: c1 :: c2 :: c3 :: c4 :: c5 :: c6 :: c7 :: c8 :: c9 :: c10 :: c11 :: c12 :: c13 :: c14 :: c15 :: c16 :: c17 :: c18 :: c19 :: c20 :: c21 :: c22 :: c23 :: c24 :: c25 :: c26 :: c27 :: c28 :: c29 :: c30 :: c31 :: c32 :: c33 :: c34 :: c35 :: c36 :: c37 :: c38 :: c39 :: c40 :: c41 :: c42 :: c43 :: c44 :: c45 :: c46 :: c47 :: c48 :: c49 :: c50 :: c51 :: c52 :: c53 :: c54 :: c55 :: c56 :: c57 :: c58 :: c59 :: c60 :: []) ++ τ).Perm ((c25 :: c57 :: c58 :: c59 :: c60 :: []) ++ ((c0 :: c1 :: c2 :: c3 :: c4 :: c5 :: c6 :: c7 :: c8 :: c9 :: c10 :: c11 :: c12 :: c13 :: c14 :: c15 :: c16 :: c17 :: c18 :: c19 :: c20 :: c21 :: c22 :: c23 :: c24 :: c26 :: c27 :: c28 :: c29 :: c30 :: c31 :: c32 :: c33 :: c34 :: c35 :: c36 :: c37 :: c38 :: c39 :: c40 :: c41 :: c42 :: c43 :: c44 :: c45 :: c46 :: c47 :: c48 :: c49 :: c50 :: c51 :: c52 :: c53 :: c54 :: c55 :: c56 :: []) ++ τ)) := pick2 61 rfl [25, 57, 58, 59, 60] [0, 1, 2, 3, 4, 5, 6, 7, 8, 9, 10, 11, 12, 13, 14, 15, 16, 17, 18, 19, 20, 21, 22, 23, 24, 26, 27, 28, 29, 30, 31, 32, 33, 34, 35, 36, 37, 38, 39, 40, 41, 42, 43, 44, 45, 46, 47, 48, 49, 50, 51, 52, 53, 54, 55, 56] (by decide +kernel) rfl rfl
theorem pk39 {c0 c1 c2 c3 c4 c5 c6 c7 c8 c9 c10 c11 c12 c13 c14 c15 c16 c17 c18 c19 c20 c21 c22 c23 c24 c25 c26 c27 c28 c29 c30 c31 c32 c33 c34 c35 c36 c37 c38 c39 c40 c41 c42 c43 c44 c45 c46 c47 c48 c49 c50 c51 c52 c53 c54 c55 c56 c57 c58 c59 c60 c61 c62 c63 c64 : Nat × va_E} {τ : va_W} : (((c0 :: c1 :: c2 :: c3 :: c4 :: c5 :: c6 :: c7 :: c8 :: c9 :: c10 :: c11 :: c12 :: c13 :: c14 :: c15 :: c16 :: c17 :: c18 :: c19 :: c20 :: c21 :: c22 :: c23 :: c24 :: c25 :: c26 :: c27 :: c28 :: c29 :: c30 :: c31 :: c32 :: c33 :: c34 :: c35 :: c36 :: c37 :: c38 :: c39 :: c40 :: c41 :: c42 :: c43 :: c44 :: c45 :: c46 :: c47 :: c48 :: c49 :: c50 :: c51 :: c52 :: c53 :: c54 :: c55 :: c56 :: c57 :: c58 :: c59 :: c60 :: []) ++ [c61, c62, c63, c64]) ++ τ).Perm ((c0 :: c14 :: c61 :: c62 :: c63 :: c64 :: []) ++ ((c1 :: c2 :: c3 :: c4 :: c5 :: c6 :: c7 :: c8 :: c9 :: c10 :: c11 :: c12 :: c13 :: c15 :: c16 :: c17 :: c18 :: c19 :: c20 :: c21 :: c22 :: c23 :: c24 :: c25 :: c26 :: c27 :: c28 :: c29 :: c30 :: c31 :: c32 :: c33 :: c34 :: c35 :: c36 :: c37 :: c38 :: c39 :: c40 :: c41 :: c42 :: c43 :: c44 :: c45 :: c46 :: c47 :: c48 :: c49 :: c50 :: c51 :: c52 :: c53 :: c54 :: c55 :: c56 :: c57 :: c58 :: c59 :: c60 :: []) ++ τ)) := pick2 65 rfl [0, 14, 61, 62, 63, 64] [1, 2, 3, 4, 5, 6, 7, 8, 9, 10, 11, 12, 13, 15, 16, 17, 18, 19, 20, 21, 22, 23, 24, 25, 26, 27, 28, 29, 30, 31, 32, 33, 34, 35, 36, 37, 38, 39, 40, 41, 42, 43, 44, 45, 46, 47, 48, 49, 50, 51, 52, 53, 54, 55, 56, 57, 58, 59, 60] (by decide +kernel) rfl rfl
theorem pk40 {c0 c1 c2 c3 c4 c5 c6 c7 c8 c9 c10 c11 c12 c13 c14 c15 c16 c17 c18 c19 c20 c21 c22 c23 c24 c25 c26 c27 c28 c29 c30 c31 c32 c33 c34 c35 c36 c37 c38 c39 c40 c41 c42 c43 c44 c45 c46 c47 c48 c49 c50 c51 c52 c53 c54 c55 c56 c57 c58 c59 c60 : Nat × va_E} {τ : va_W} : ((c0 :: c1 :: c2 :: c3 :: c4 :: c5 :: c6 :: c7 :: c8 :: c9 :: c10 :: c11 :: c12 :: c13 :: c14 :: c15 :: c16 :: c17 :: c18 :: c19 :: c20 :: c21 :: c22 :: c23 :: c24 :: c25 :: c26 :: c27 :: c28 :: c29 :: c30 :: c31 :: c32 :: c33 :: c34 :: c35 :: c36 :: c37 :: c38 :: c39 :: c40 :: c41 :: c42 :: c43 :: c44 :: c45 :: c46 :: c47 :: c48 :: c49 :: c50 :: c51 :: c52 :: c53 :: c54 :: c55 :: c56 :: c57 :: c58 :: c59 :: c60 :: []) ++ τ).Perm ((c25 :: c39 :: c40 :: c41 :: []) ++ ((c0 :: c1 :: c2 :: c3 :: c4 :: c5 :: c6 :: c7 :: c8 :: c9 :: c10 :: c11 :: c12 :: c13 :: c14 :: c15 :: c16 :: c17 :: c18 :: c19 :: c20 :: c21 :: c22 :: c23 :: c24 :: c26 :: c27 :: c28 :: c29 :: c30 :: c31 :: c32 :: c33 :: c34 :: c35 :: c36 :: c37 :: c38 :: c42 :: c43 :: c44 :: c45 :: c46 :: c47 :: c48 :: c49 :: c50 :: c51 :: c52 :: c53 :: c54 :: c55 :: c56 :: c57 :: c58 :: c59 :: c60 :: []) ++ τ)) := pick2 61 rfl [25, 39, 40, 41] [0, 1, 2, 3, 4, 5, 6, 7, 8, 9, 10, 11, 12, 13, 14, 15, 16, 17, 18, 19, 20, 21, 22, 23, 24, 26, 27, 28, 29, 30, 31, 32, 33, 34, 35, 36, 37, 38, 42, 43, 44, 45, 46, 47, 48, 49, 50, 51, 52, 53, 54, 55, 56, 57, 58, 59, 60] (by decide +kernel) rfl rfl
theorem pk41 {c0 c1 c2 c3 c4 c5 c6 c7 c8 c9 c10 c11 c12 c13 c14 c15 c16 c17 c18 c19 c20 c21 c22 c23 c24 c25 c26 c27 c28 c29 c30 c31 c32 c33 c34 c35 c36 c37 c38 c39 c40 c41 c42 c43 c44 c45 c46 c47 c48 c49 c50 c51 c52 c53 c54 c55 c56 c57 c58 c59 c60 c61 c62 : Nat × va_E} {τ : va_W} : (((c0 :: c1 :: c2 :: c3 :: c4 :: c5 :: c6 :: c7 :: c8 :: c9 :: c10 :: c11 :: c12 :: c13 :: c14 :: c15 :: c16 :: c17 :: c18 :: c19 :: c20 :: c21 :: c22 :: c23 :: c24 :: c25 :: c26 :: c27 :: c28 :: c29 :: c30 :: c31 :: c32 :: c33 :: c34 :: c35 :: c36 :: c37 :: c38 :: c39 :: c40 :: c41 :: c42 :: c43 :: c44 :: c45 :: c46 :: c47 :: c48 :: c49 :: c50 :: c51 :: c52 :: c53 :: c54 :: c55 :: c56 :: c57 :: c58 :: c59 :: c60 :: []) ++ [c61, c62]) ++ τ).Perm ((c25 :: c39 :: c40 :: c41 :: []) ++ ((c0 :: c1 :: c2 :: c3 :: c4 :: c5 :: c6 :: c7 :: c8 :: c9 :: c10 :: c11 :: c12 :: c13 :: c14 :: c15 :: c16 :: c17 :: c18 :: c19 :: c20 :: c21 :: c22 :: c23 :: c24 :: c26 :: c27 :: c28 :: c29 :: c30 :: c31 :: c32 :: c33 :: c34 :: c35 :: c36 :: c37 :: c38 :: c42 :: c43 :: c44 :: c45 :: c46 :: c47 :: c48 :: c49 :: c50 :: c51 :: c52 :: c53 :: c54 :: c55 :: c56 :: c57 :: c58 :: c59 :: c60 :: c61 :: c62 :: []) ++ τ)) := pick2 63 rfl [25, 39, 40, 41] [0, 1, 2, 3, 4, 5, 6, 7, 8, 9, 10, 11, 12, 13, 14, 15, 16, 17, 18, 19, 20, 21, 22, 23, 24, 26, 27, 28, 29, 30, 31, 32, 33, 34, 35, 36, 37, 38, 42, 43, 44, 45, 46, 47, 48, 49, 50, 51, 52, 53, 54, 55, 56, 57, 58, 59, 60, 61, 62] (by decide +kernel) rfl rfl
theorem pk42 {c0 c1 c2 c3 c4 c5 c6 c7 c8 c9 c10 c11 c12 c13 c14 c15 c16 c17 c18 c19 c20 c21 c22 c23 c24 c25 c26 c27 c28 c29 c30 c31 c32 c33 c34 c35 c36 c37 c38 c39 c40 c41 c42 c43 c44 c45 c46 c47 c48 c49 c50 c51 c52 c53 c54 c55 c56 c57 c58 c59 c60 : Nat × va_E} {τ : va_W} : ((c0 :: c1 :: c2 :: c3 :: c4 :: c5 :: c6 :: c7 :: c8 :: c9 :: c10 :: c11 :: c12 :: c13 :: c14 :: c15 :: c16 :: c17 :: c18 :: c19 :: c20 :: c21 :: c22 :: c23 :: c24 :: c25 :: c26 :: c27 :: c28 :: c29 :: c30 :: c31 :: c32 :: c33 :: c34 :: c35 :: c36 :: c37 :: c38 :: c39 :: c40 :: c41 :: c42 :: c43 :: c44 :: c45 :: c46 :: c47 :: c48 :: c49 :: c50 :: c51 :: c52 :: c53 :: c54 :: c55 :: c56 :: c57 :: c58 :: c59 :: c60 :: []) ++ τ).Perm ((c0 :: c3 :: []) ++ ((c1 :: c2 :: c4 :: c5 :: c6 :: c7 :: c8 :: c9 :: c10 :: c11 :: c12 :: c13 :: c14 :: c15 :: c16 :: c17 :: c18 :: c19 :: c20 :: c21 :: c22 :: c23 :: c24 :: c25 :: c26 :: c27 :: c28 :: c29 :: c30 :: c31 :: c32 :: c33 :: c34 :: c35 :: c36 :: c37 :: c38 :: c39 :: c40 :: c41 :: c42 :: c43 :: c44 :: c45 :: c46 :: c47 :: c48 :: c49 :: c50 :: c51 :: c52 :: c53 :: c54 :: c55 :: c56 :: c57 :: c58 :: c59 :: c60 :: []) ++ τ)) := pick2 61 rfl [0, 3] [1, 2, 4, 5, 6, 7, 8, 9, 10, 11, 12, 13, 14, 15, 16, 17, 18, 19, 20, 21, 22, 23, 24, 25, 26, 27, 28, 29, 30, 31, 32, 33, 34, 35, 36, 37, 38, 39, 40, 41, 42, 43, 44, 45, 46, 47, 48, 49, 50, 51, 52, 53, 54, 55, 56, 57, 58, 59, 60] (by decide +kernel) rfl rfl
theorem pk43 {c0 c1 c2 c3 c4 c5 c6 c7 c8 c9 c10 c11 c12 c13 c14 c15 c16 c17 c18 c19 c20 c21 c22 c23 c24 c25 c26 c27 c28 c29 c30 c31 c32 c33 c34 c35 c36 c37 c38 c39 c40 c41 c42 c43 c44 c45 c46 c47 c48 c49 c50 c51 c52 c53 c54 c55 c56 c57 c58 c59 c60 c61 c62 : Nat × va_E} {τ : va_W} : (((c0 :: c1 :: c2 :: c3 :: c4 :: c5 :: c6 :: c7 :: c8 :: c9 :: c10 :: c11 :: c12 :: c13 :: c14 :: c15 :: c16 :: c17 :: c18 :: c19 :: c20 :: c21 :: c22 :: c23 :: c24 :: c25 :: c26 :: c27 :: c28 :: c29 :: c30 :: c31 :: c32 :: c33 :: c34 :: c35 :: c36 :: c37 :: c38 :: c39 :: c40 :: c41 :: c42 :: c43 :: c44 :: c45 :: c46 :: c47 :: c48 :: c49 :: c50 :: c51 :: c52 :: c53 :: c54 :: c55 :: c56 :: c57 :: c58 :: c59 :: c60 :: []) ++ [c61, c62]) ++ τ).Perm ((c0 :: c3 :: c61 :: c62 :: []) ++ ((c1 :: c2 :: c4 :: c5 :: c6 :: c7 :: c8 :: c9 :: c10 :: c11 :: c12 :: c13 :: c14 :: c15 :: c16 :: c17 :: c18 :: c19 :: c20 :: c21 :: c22 :: c23 :: c24 :: c25 :: c26 :: c27 :: c28 :: c29 :: c30 :: c31 :: c32 :: c33 :: c34 :: c35 :: c36 :: c37 :: c38 :: c39 :: c40 :: c41 :: c42 :: c43 :: c44 :: c45 :: c46 :: c47 :: c48 :: c49 :: c50 :: c51 :: c52 :: c53 :: c54 :: c55 :: c56 :: c57 :: c58 :: c59 :: c60 :: []) ++ τ)) := pick2 63 rfl [0, 3, 61, 62] [1, 2, 4, 5, 6, 7, 8, 9, 10, 11, 12, 13, 14, 15, 16, 17, 18, 19, 20, 21, 22, 23, 24, 25, 26, 27, 28, 29, 30, 31, 32, 33, 34, 35, 36, 37, 38, 39, 40, 41, 42, 43, 44, 45, 46, 47, 48, 49, 50, 51, 52, 53, 54, 55, 56, 57, 58, 59, 60] (by decide +kernel) rfl rfl
theorem pk44 {c0 c1 c2 c3 c4 c5 c6 c7 c8 c9 c10 c11 c12 c13 c14 c15 c16 c17 c18 c19 c20 c21 c22 c23 c24 c25 c26 c27 c28 c29 c30 c31 c32 c33 c34 c35 c36 c37 c38 c39 c40 c41 c42 c43 c44 c45 c46 c47 c48 c49 c50 c51 c52 c53 c54 c55 c56 c57 c58 c59 c60 : Nat × va_E} {τ : va_W} : ((c0 :: c1 :: c2 :: c3 :: c4 :: c5 :: c6 :: c7 :: c8 :: c9 :: c10 :: c11 :: c12 :: c13 :: c14 :: c15 :: c16 :: c17 :: c18 :: c19 :: c20 :: c21 :: c22 :: c23 :: c24 :: c25 :: c26 :: c27 :: c28 :: c29 :: c30 :: c31 :: c32 :: c33 :: c34 :: c35 :: c36 :: c37 :: c38 :: c39 :: c40 :: c41 :: c42 :: c43 :: c44 :: c45 :: c46 :: c47 :: c48 :: c49 :: c50 :: c51 :: c52 :: c53 :: c54 :: c55 :: c56 :: c57 :: c58 :: c59 :: c60 :: []) ++ τ).Perm ((c25 :: c39 :: c41 :: c42 :: []) ++ ((c0 :: c1 :: c2 :: c3 :: c4 :: c5 :: c6 :: c7 :: c8 :: c9 :: c10 :: c11 :: c12 :: c13 :: c14 :: c15 :: c16 :: c17 :: c18 :: c19 :: c20 :: c21 :: c22 :: c23 :: c24 :: c26 :: c27 :: c28 :: c29 :: c30 :: c31 :: c32 :: c33 :: c34 :: c35 :: c36 :: c37 :: c38 :: c40 :: c43 :: c44 :: c45 :: c46 :: c47 :: c48 :: c49 :: c50 :: c51 :: c52 :: c53 :: c54 :: c55 :: c56 :: c57 :: c58 :: c59 :: c60 :: []) ++ τ)) := pick2 61 rfl [25, 39, 41, 42] [0, 1, 2, 3, 4, 5, 6, 7, 8, 9, 10, 11, 12, 13, 14, 15, 16, 17, 18, 19, 20, 21, 22, 23, 24, 26, 27, 28, 29, 30, 31, 32, 33, 34, 35, 36, 37, 38, 40, 43, 44, 45, 46, 47, 48, 49, 50, 51, 52, 53, 54, 55, 56, 57, 58, 59, 60] (by decide +kernel) rfl rfl
theorem pk45 {c0 c1 c2 c3 c4 c5 c6 c7 c8 c9 c10 c11 c12 c13 c14 c15 c16 c17 c18 c19 c20 c21 c22 c23 c24 c25 c26 c27 c28 c29 c30 c31 c32 c33 c34 c35 c36 c37 c38 c39 c40 c41 c42 c43 c44 c45 c46 c47 c48 c49 c50 c51 c52 c53 c54 c55 c56 c57 c58 c59 c60 : Nat × va_E} {τ : va_W} : ((c0 :: c1 :: c2 :: c3 :: c4 :: c5 :: c6 :: c7 :: c8 :: c9 :: c10 :: c11 :: c12 :: c13 :: c14 :: c15 :: c16 :: c17 :: c18 :: c19 :: c20 :: c21 :: c22 :: c23 :: c24 :: c25 :: c26 :: c27 :: c28 :: c29 :: c30 :: c31 :: c32 :: c33 :: c34 :: c35 :: c36 :: c37 :: c38 :: c39 :: c40 :: c41 :: c42 :: c43 :: c44 :: c45 :: c46 :: c47 :: c48 :: c49 :: c50 :: c51 :: c52 :: c53 :: c54 :: c55 :: c56 :: c57 :: c58 :: c59 :: c60 :: []) ++ τ).Perm ((c25 :: c26 :: c28 :: c29 :: c30 :: c31 :: c35 :: c36 :: c27 :: c32 :: c33 :: c34 :: []) ++ ((c0 :: c1 :: c2 :: c3 :: c4 :: c5 :: c6 :: c7 :: c8 :: c9 :: c10 :: c11 :: c12 :: c13 :: c14 :: c15 :: c16 :: c17 :: c18 :: c19 :: c20 :: c21 :: c22 :: c23 :: c24 :: c37 :: c38 :: c39 :: c40 :: c41 :: c42 :: c43 :: c44 :: c45 :: c46 :: c47 :: c48 :: c49 :: c50 :: c51 :: c52 :: c53 :: c54 :: c55 :: c56 :: c57 :: c58 :: c59 :: c60 :: []) ++ τ)) := pick2 61 rfl [25, 26, 28, 29, 30, 31, 35, 36, 27, 32, 33, 34] [0, 1, 2, 3, 4, 5, 6, 7, 8, 9, 10, 11, 12, 13, 14, 15, 16, 17, 18, 19, 20, 21, 22, 23, 24, 37, 38, 39, 40, 41, 42, 43, 44, 45, 46, 47, 48, 49, 50, 51, 52, 53, 54, 55, 56, 57, 58, 59, 60] (by decide +kernel) rfl rfl
theorem pk46 {c0 c1 c2 c3 c4 c5 c6 c7 c8 c9 c10 c11 c12 c13 c14 c15 c16 c17 c18 c19 c20 c21 c22 c23 c24 c25 c26 c27 c28 c29 c30 c31 c32 c33 c34 c35 c36 c37 c38 c39 c40 c41 c42 c43 c44 c45 c46 c47 c48 c49 c50 c51 c52 c53 c54 c55 c56 c57 c58 c59 c60 c61 c62 c63 c64 : Nat × va_E} {τ : va_W} : (((c0 :: c1 :: c2 :: c3 :: c4 :: c5 :: c6 :: c7 :: c8 :: c9 :: c10 :: c11 :: c12 :: c13 :: c14 :: c15 :: c16 :: c17 :: c18 :: c19 :: c20 :: c21 :: c22 :: c23 :: c24 :: c25 :: c26 :: c27 :: c28 :: c29 :: c30 :: c31 :: c32 :: c33 :: c34 :: c35 :: c36 :: c37 :: c38 :: c39 :: c40 :: c41 :: c42 :: c43 :: c44 :: c45 :: c46 :: c47 :: c48 :: c49 :: c50 :: c51 :: c52 :: c53 :: c54 :: c55 :: c56 :: c57 :: c58 :: c59 :: c60 :: []) ++ [c61, c62, c63, c64]) ++ τ).Perm ((c25 :: c26 :: c28 :: c29 :: c30 :: c31 :: c35 :: c36 :: c27 :: c32 :: c33 :: c34 :: []) ++ ((c0 :: c1 :: c2 :: c3 :: c4 :: c5 :: c6 :: c7 :: c8 :: c9 :: c10 :: c11 :: c12 :: c13 :: c14 :: c15 :: c16 :: c17 :: c18 :: c19 :: c20 :: c21 :: c22 :: c23 :: c24 :: c37 :: c38 :: c39 :: c40 :: c41 :: c42 :: c43 :: c44 :: c45 :: c46 :: c47 :: c48 :: c49 :: c50 :: c51 :: c52 :: c53 :: c54 :: c55 :: c56 :: c57 :: c58 :: c59 :: c60 :: c61 :: c62 :: c63 :: c64 :: []) ++ τ)) := pick2 65 rfl [25, 26, 28, 29, 30, 31, 35, 36, 27, 32, 33, 34] [0, 1, 2, 3, 4, 5, 6, 7, 8, 9, 10, 11, 12, 13, 14, 15, 16, 17, 18, 19, 20, 21, 22, 23, 24, 37, 38, 39, 40, 41, 42, 43, 44, 45, 46, 47, 48, 49, 50, 51, 52, 53, 54, 55, 56, 57, 58, 59, 60, 61, 62, 63, 64] (by decide +kernel) rfl rfl
theorem pk47 {c0 c1 c2 c3 c4 c5 c6 c7 c8 c9 c10 c11 c12 c13 c14 c15 c16 c17 c18 c19 c20 c21 c22 c23 c24 c25 c26 c27 c28 c29 c30 c31 c32 c33 c34 c35 c36 c37 c38 c39 c40 c41 c42 c43 c44 c45 c46 c47 c48 c49 c50 c51 c52 c53 c54 c55 c56 c57 c58 c59 c60 : Nat × va_E} {τ : va_W} : ((c0 :: c1 :: c2 :: c3 :: c4 :: c5 :: c6 :: c7 :: c8 :: c9 :: c10 :: c11 :: c12 :: c13 :: c14 :: c15 :: c16 :: c17 :: c18 :: c19 :: c20 :: c21 :: c22 :: c23 :: c24 :: c25 :: c26 :: c27 :: c28 :: c29 :: c30 :: c31 :: c32 :: c33 :: c34 :: c35 :: c36 :: c37 :: c38 :: c39 :: c40 :: c41 :: c42 :: c43 :: c44 :: c45 :: c46 :: c47 :: c48 :: c49 :: c50 :: c51 :: c52 :: c53 :: c54 :: c55 :: c56 :: c57 :: c58 :: c59 :: c60 :: []) ++ τ).Perm ((c0 :: c4 :: c2 :: c1 :: []) ++ ((c3 :: c5 :: c6 :: c7 :: c8 :: c9 :: c10 :: c11 :: c12 :: c13 :: c14 :: c15 :: c16 :: c17 :: c18 :: c19 :: c20 :: c21 :: c22 :: c23 :: c24 :: c25 :: c26 :: c27 :: c28 :: c29 :: c30 :: c31 :: c32 :: c33 :: c34 :: c35 :: c36 :: c37 :: c38 :: c39 :: c40 :: c41 :: c42 :: c43 :: c44 :: c45 :: c46 :: c47 :: c48 :: c49 :: c50 :: c51 :: c52 :: c53 :: c54 :: c55 :: c56 :: c57 :: c58 :: c59 :: c60 :: []) ++ τ)) := pick2 61 rfl [0, 4, 2, 1] [3, 5, 6, 7, 8, 9, 10, 11, 12, 13, 14, 15, 16, 17, 18, 19, 20, 21, 22, 23, 24, 25, 26, 27, 28, 29, 30, 31, 32, 33, 34, 35, 36, 37, 38, 39, 40, 41, 42, 43, 44, 45, 46, 47, 48, 49, 50, 51, 52, 53, 54, 55, 56, 57, 58, 59, 60] (by decide +kernel) rfl rfl
theorem pk48 {c0 c1 c2 c3 c4 c5 c6 c7 c8 c9 c10 c11 c12 c13 c14 c15 c16 c17 c18 c19 c20 c21 c22 c23 c24 c25 c26 c27 c28 c29 c30 c31 c32 c33 c34 c35 c36 c37 c38 c39 c40 c41 c42 c43 c44 c45 c46 c47 c48 c49 c50 c51 c52 c53 c54 c55 c56 c57 c58 c59 c60 c61 c62 c63 c64 : Nat × va_E} {τ : va_W} : (((c0 :: c1 :: c2 :: c3 :: c4 :: c5 :: c6 :: c7 :: c8 :: c9 :: c10 :: c11 :: c12 :: c13 :: c14 :: c15 :: c16 :: c17 :: c18 :: c19 :: c20 :: c21 :: c22 :: c23 :: c24 :: c25 :: c26 :: c27 :: c28 :: c29 :: c30 :: c31 :: c32 :: c33 :: c34 :: c35 :: c36 :: c37 :: c38 :: c39 :: c40 :: c41 :: c42 :: c43 :: c44 :: c45 :: c46 :: c47 :: c48 :: c49 :: c50 :: c51 :: c52 :: c53 :: c54 :: c55 :: c56 :: c57 :: c58 :: c59 :: c60 :: []) ++ [c61, c62, c63, c64]) ++ τ).Perm ((c0 :: c4 :: c2 :: c1 :: c61 :: c62 :: c63 :: c64 :: []) ++ ((c3 :: c5 :: c6 :: c7 :: c8 :: c9 :: c10 :: c11 :: c12 :: c13 :: c14 :: c15 :: c16 :: c17 :: c18 :: c19 :: c20 :: c21 :: c22 :: c23 :: c24 :: c25 :: c26 :: c27 :: c28 :: c29 :: c30 :: c31 :: c32 :: c33 :: c34 :: c35 :: c36 :: c37 :: c38 :: c39 :: c40 :: c41 :: c42 :: c43 :: c44 :: c45 :: c46 :: c47 :: c48 :: c49 :: c50 :: c51 :: c52 :: c53 :: c54 :: c55 :: c56 :: c57 :: c58 :: c59 :: c60 :: []) ++ τ)) := pick2 65 rfl [0, 4, 2, 1, 61, 62, 63, 64] [3, 5, 6, 7, 8, 9, 10, 11, 12, 13, 14, 15, 16, 17, 18, 19, 20, 21, 22, 23, 24, 25, 26, 27, 28, 29, 30, 31, 32, 33, 34, 35, 36, 37, 38, 39, 40, 41, 42, 43, 44, 45, 46, 47, 48, 49, 50, 51, 52, 53, 54, 55, 56, 57, 58, 59, 60] (by decide +kernel) rfl rfl
