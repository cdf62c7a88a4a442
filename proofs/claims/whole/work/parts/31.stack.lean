/-! signs that say a value: put together -/
theorem rN_ext {sg sg' : Int → Int} {a n : Int} : ∀ m : Nat, (∀ j, a ≤ j → j < a + m → sg' j = sg j) → rN sg' a n m = rN sg a n m
  | 0, _ => rfl
  | m + 1, h => by
    show stN (sg' (a + m)) (rN sg' a n m) = stN (sg (a + m)) (rN sg a n m)
    rw [rN_ext m (fun j h1 h2 => h j h1 (by omega)), h (a + m) (by omega) (by omega)]
theorem rP_ext {sg sg' : Int → Int} {step wet a n : Int} {p : Int → Int} : ∀ m : Nat, (∀ j, a ≤ j → j < a + m → sg' j = sg j) → rP sg' step wet a n p m = rP sg step wet a n p m
  | 0, _ => rfl
  | m + 1, h => by
    show stP (sg' (a + m)) step wet (rN sg' a n m) (rP sg' step wet a n p m) = stP (sg (a + m)) step wet (rN sg a n m) (rP sg step wet a n p m)
    rw [rP_ext m (fun j h1 h2 => h j h1 (by omega)), rN_ext m (fun j h1 h2 => h j h1 (by omega)), h (a + m) (by omega) (by omega)]
theorem PF_ext {sg sg' : Int → Int} {a b : Int} {f : Int → Int → Int} (h : PF sg a b f) (e : ∀ j, a ≤ j → j < b → sg' j = sg j) : PF sg' a b f := by
  obtain ⟨h1, h2⟩ := h
  refine ⟨h1, fun n hn hb => ?_⟩
  obtain ⟨q1, q2, q3⟩ := h2 n hn hb
  refine ⟨fun m hm => ?_, ?_, fun step wet p => ?_⟩
  · rw [rN_ext m (fun j h3 h4 => e j h3 (by omega)), e (a + m) (by omega) (by omega)]; exact q1 m hm
  · rw [rN_ext _ (fun j h3 h4 => e j h3 (by omega))]; exact q2
  · rw [rP_ext _ (fun j h3 h4 => e j h3 (by omega))]; exact q3 step wet p
theorem rN_app (sg : Int → Int) (a n : Int) (m1 : Nat) : ∀ m2 : Nat, rN sg a n (m1 + m2) = rN sg (a + m1) (rN sg a n m1) m2
  | 0 => rfl
  | m + 1 => by
    show stN (sg (a + ((m1 + m : Nat) : Int))) (rN sg a n (m1 + m)) = stN (sg (a + m1 + m)) (rN sg (a + m1) (rN sg a n m1) m)
    rw [rN_app sg a n m1 m, show a + ((m1 + m : Nat) : Int) = a + m1 + m by omega]
theorem rP_app (sg : Int → Int) (step wet a n : Int) (p : Int → Int) (m1 : Nat) : ∀ m2 : Nat, rP sg step wet a n p (m1 + m2) = rP sg step wet (a + m1) (rN sg a n m1) (rP sg step wet a n p m1) m2
  | 0 => rfl
  | m + 1 => by
    show stP (sg (a + ((m1 + m : Nat) : Int))) step wet (rN sg a n (m1 + m)) (rP sg step wet a n p (m1 + m)) = stP (sg (a + m1 + m)) step wet (rN sg (a + m1) (rN sg a n m1) m) (rP sg step wet (a + m1) (rN sg a n m1) (rP sg step wet a n p m1) m)
    rw [rP_app sg step wet a n p m1 m, rN_app sg a n m1 m, show a + ((m1 + m : Nat) : Int) = a + m1 + m by omega]
theorem PF_test {sg : Int → Int} {e t : Int} (h0 : 0 ≤ e) (ht : 0 ≤ t) (hs : sg e = t) : PF sg e (e + 1) (fun s q => tstV t s q) := by
  refine ⟨⟨h0, by omega⟩, fun n hn hb => ?_⟩
  have e1 : (e + 1 - e).toNat = 1 := by omega
  have e0 : sg (e + ((0 : Nat) : Int)) = t := by rw [show e + ((0 : Nat) : Int) = e by omega]; exact hs
  have eN : rN sg e n 1 = n + 1 := by
    show stN (sg (e + ((0 : Nat) : Int))) n = n + 1
    rw [e0]; unfold stN; rw [if_neg (by omega), if_neg (by omega)]
  have eP : ∀ step wet p, rP sg step wet e n p 1 = upI p n (tstV t step wet) := fun step wet p => by
    show stP (sg (e + ((0 : Nat) : Int))) step wet n p = _
    rw [e0]; unfold stP; rw [if_neg (by omega), if_neg (by omega)]
  rw [e1]
  refine ⟨fun m hm => ?_, eN, fun step wet p => ⟨?_, fun j h1 h2 => ?_⟩⟩
  · have hm0 : m = 0 := by omega
    subst hm0
    rw [e0]
    exact ⟨fun q => by omega, fun q => by omega, fun _ => ⟨Int.le_refl n, by show n < 100; omega⟩⟩
  · rw [eP]; exact upI_eq
  · rw [eP]; exact upI_ne (by omega)
theorem PF_not {sg : Int → Int} {a b : Int} {f : Int → Int → Int} (h : PF sg a b f) (hs : sg b = -33) : PF sg a (b + 1) (ntB f) := by
  obtain ⟨h1, h2⟩ := h
  refine ⟨⟨h1.1, by omega⟩, fun n hn hb => ?_⟩
  obtain ⟨q1, q2, q3⟩ := h2 n hn (by omega)
  refine ⟨fun m hm => ?_, ?_, fun step wet p => ⟨?_, fun j g1 g2 => ?_⟩⟩
  · by_cases hm2 : (m : Int) < b - a
    · exact q1 m hm2
    · have hm3 : m = (b - a).toNat := by omega
      rw [hm3, q2, show a + ((b - a).toNat : Int) = b by omega, hs]
      exact ⟨fun _ => by omega, fun _ q => absurd rfl q, fun q => absurd q (by decide)⟩
  · rw [rN_s h1.2, q2, hs]; rfl
  · rw [rP_s h1.2, q2, hs]
    unfold stP
    rw [if_pos rfl, show n + 1 - 1 = n by omega, upI_eq, (q3 step wet p).1]; rfl
  · rw [rP_s h1.2, q2, hs]
    unfold stP
    rw [if_pos rfl, show n + 1 - 1 = n by omega, upI_ne (by omega), (q3 step wet p).2 j g1 g2]
theorem PF_bin {sg : Int → Int} {a b c t : Int} {f g : Int → Int → Int} (hf : PF sg a b f) (hg : PF sg b c g) (hs : sg c = t) (ht : t = -38 ∨ t = -124) : PF sg a (c + 1) (if t = -38 then anB f g else orB f g) := by
  obtain ⟨f1, f2⟩ := hf
  obtain ⟨g1, g2⟩ := hg
  refine ⟨⟨f1.1, by omega⟩, fun n hn hb => ?_⟩
  obtain ⟨p1, p2, p3⟩ := f2 n hn (by omega)
  obtain ⟨q1, q2, q3⟩ := g2 (n + 1) (by omega) (by omega)
  have hab : a < b := by
    by_cases h : a = b
    · exfalso
      rw [show (b - a).toNat = 0 by omega] at p2
      have : n = n + 1 := p2
      omega
    · omega
  have ec : (c - a).toNat = (b - a).toNat + (c - b).toNat := by omega
  have eb : a + ((b - a).toNat : Int) = b := by omega
  have eN : ∀ m : Nat, rN sg a n ((b - a).toNat + m) = rN sg b (n + 1) m := fun m => by rw [rN_app, eb, p2]
  have eP : ∀ step wet p (m : Nat), rP sg step wet a n p ((b - a).toNat + m) = rP sg step wet b (n + 1) (rP sg step wet a n p (b - a).toNat) m := fun step wet p m => by rw [rP_app, eb, p2]
  have eNc : rN sg a n (c - a).toNat = n + 2 := by rw [ec, eN, q2]; omega
  refine ⟨fun m hm => ?_, ?_, fun step wet p => ?_⟩
  · by_cases hm1 : (m : Int) < b - a
    · have h := p1 m hm1
      exact h
    · by_cases hm2 : (m : Int) < c - a
      · have hm3 : m = (b - a).toNat + (m - (b - a).toNat) := by omega
        have h := q1 (m - (b - a).toNat) (by omega)
        rw [hm3, eN, show a + (((b - a).toNat + (m - (b - a).toNat) : Nat) : Int) = b + ((m - (b - a).toNat : Nat) : Int) by omega]
        unfold safe at h ⊢
        omega
      · have hm3 : m = (c - a).toNat := by omega
        rw [hm3, eNc, show a + ((c - a).toNat : Int) = c by omega, hs]
        unfold safe
        omega
  · rw [rN_s (by omega), eNc, hs]
    unfold stN
    rw [if_neg (by omega), if_pos (by omega)]; omega
  · have hq := q3 step wet (rP sg step wet a n p (b - a).toNat)
    have hp := p3 step wet p
    have ePc : rP sg step wet a n p (c - a).toNat = rP sg step wet b (n + 1) (rP sg step wet a n p (b - a).toNat) (c - b).toNat := by rw [ec, eP]
    have eR : rP sg step wet a n p (c + 1 - a).toNat = upI (rP sg step wet a n p (c - a).toNat) n (if t = -38 then andV (f step wet) (g step wet) else orV (f step wet) (g step wet)) := by
      rw [rP_s (by omega), eNc, hs]
      unfold stP
      rw [if_neg (by omega), if_pos (by omega), show n + 2 + (-1) - 1 = n by omega, show n + 2 + (-1) = n + 1 by omega, ePc, hq.1, hq.2 n hn (by omega), hp.1]
    rw [eR]
    refine ⟨?_, fun j g3 g4 => ?_⟩
    · rw [upI_eq]
      split <;> rfl
    · rw [upI_ne (by omega), ePc, hq.2 j g3 (by omega), hp.2 j g3 g4]
/-! the model's row of codes and signs holds a row of frames -/
def Wst (wt : Int → Int) : List Fr → Int → Prop
  | [], w => w = 0
  | f :: t, w => wt (w - 1) = f.1 ∧ 1 ≤ w ∧ Wst wt t (w - 1)
def SgW (sg : Int → Int) (a : Int) : List Fr → Int → Prop
  | [], e => e = a
  | f :: t, e => ∃ b, SgW sg a t b ∧ ((f.1 = 38 ∨ f.1 = 124) ∧ PF sg b e f.2 ∨ (f.1 = 33 ∨ f.1 = 40) ∧ e = b)
theorem Wst_0 {wt : Int → Int} : ∀ {σ : List Fr} {w : Int}, Wst wt σ w → 0 ≤ w
  | [], _, h => by have : _ = _ := h; omega
  | _ :: _, _, h => by have := h.2.1; omega
theorem Wst_ne {wt : Int → Int} {σ : List Fr} {w : Int} (h : Wst wt σ w) (hw : 0 < w) : ∃ f t, σ = f :: t ∧ wt (w - 1) = f.1 ∧ Wst wt t (w - 1) := by
  cases σ with
  | nil => have : w = 0 := h; omega
  | cons f t => exact ⟨f, t, rfl, h.1, h.2.2⟩
theorem Wst_nil {wt : Int → Int} {σ : List Fr} {w : Int} (h : Wst wt σ w) (hw : w ≤ 0) : σ = [] := by
  cases σ with
  | nil => rfl
  | cons f t => have := h.2.1; omega
theorem Wst_up {wt : Int → Int} {i x : Int} : ∀ {σ : List Fr} {w : Int}, Wst wt σ w → w ≤ i → Wst (upI wt i x) σ w
  | [], _, h, _ => h
  | f :: t, w, h, hi => ⟨by rw [upI_ne (by omega)]; exact h.1, h.2.1, Wst_up h.2.2 (by omega)⟩
theorem SgW_r {sg : Int → Int} {a : Int} : ∀ {σ : List Fr} {e : Int}, SgW sg a σ e → a ≤ e
  | [], e, h => by have : e = a := h; omega
  | f :: t, e, h => by
    obtain ⟨b, h1, h2⟩ := h
    have := SgW_r h1
    rcases h2 with ⟨-, h2⟩ | ⟨-, h2⟩
    · have := h2.1; omega
    · omega
theorem SgW_ext {sg sg' : Int → Int} {a : Int} : ∀ {σ : List Fr} {e : Int}, SgW sg a σ e → (∀ j, a ≤ j → j < e → sg' j = sg j) → SgW sg' a σ e
  | [], _, h, _ => h
  | f :: t, e, h, x => by
    obtain ⟨b, h1, h2⟩ := h
    have hb := SgW_r h1
    have hbe : b ≤ e := by
      rcases h2 with ⟨-, h2⟩ | ⟨-, h2⟩
      · have := h2.1; omega
      · omega
    refine ⟨b, SgW_ext h1 (fun j q1 q2 => x j q1 (by omega)), ?_⟩
    rcases h2 with ⟨h3, h2⟩ | h2
    · exact Or.inl ⟨h3, PF_ext h2 (fun j q1 q2 => x j (by omega) q2)⟩
    · exact Or.inr h2
theorem opn_r : ∀ σ : List Fr, 0 ≤ opn σ
  | [] => Int.le_refl 0
  | f :: t => by
    have := opn_r t
    unfold opn; split <;> omega
/-- waiting for an operand -/
def Wnt (sg wt : Int → Int) (a : Int) (σ : List Fr) (w e o : Int) : Prop := Wst wt σ w ∧ o = opn σ ∧ 0 ≤ a ∧ SgW sg a σ e
/-- an operand is there -/
def Hav (sg wt : Int → Int) (a : Int) (σ : List Fr) (v : Bv) (w e o : Int) : Prop := Wst wt σ w ∧ o = opn σ ∧ 0 ≤ a ∧ ∃ b, SgW sg a σ b ∧ PF sg b e v
section
variable {sg wt : Int → Int} {a w e o : Int} {σ : List Fr} {v : Bv}
theorem Wnt.o0 (h : Wnt sg wt a σ w e o) : 0 ≤ o ∧ 0 ≤ w ∧ a ≤ e := ⟨by rw [h.2.1]; exact opn_r σ, Wst_0 h.1, SgW_r h.2.2.2⟩
theorem Hav.o0 (h : Hav sg wt a σ v w e o) : 0 ≤ o ∧ 0 ≤ w ∧ a ≤ e := ⟨by rw [h.2.1]; exact opn_r σ, Wst_0 h.1, by
  obtain ⟨b, h1, h2⟩ := h.2.2.2
  have := SgW_r h1
  have := h2.1
  omega⟩
theorem hav_test {t : Int} (h : Wnt sg wt a σ w e o) (ht : 0 ≤ t) : Hav (upI sg e t) wt a σ (fun s q => tstV t s q) w (e + 1) o := by
  have := h.o0
  have h3 := h.2.2.1
  exact ⟨h.1, h.2.1, h.2.2.1, e, SgW_ext h.2.2.2 (fun j _ q => upI_ne (by omega)), PF_test (by omega) ht upI_eq⟩
theorem hav_not (h : Hav sg wt a σ v w e o) (hw : 0 < w) (ht : wt (w - 1) = 33) : Hav (upI sg e (-33)) wt a σ.tail (ntB v) (w - 1) (e + 1) (o - 1) ∧ whl σ v = whl σ.tail (ntB v) := by
  obtain ⟨f, t, rfl, h1, h2⟩ := Wst_ne h.1 hw
  have hf : f.1 = 33 := by omega
  obtain ⟨b, q1, q2⟩ := h.2.2.2
  have ho := h.2.1
  unfold opn at ho
  rw [if_pos (Or.inl hf)] at ho
  obtain ⟨b', r1, r2⟩ := q1
  have hbb : b = b' := by
    rcases r2 with ⟨r2, -⟩ | ⟨-, r2⟩
    · omega
    · exact r2
  subst hbb
  refine ⟨⟨h2, by show o - 1 = opn t; omega, h.2.2.1, b, SgW_ext r1 (fun j _ q => upI_ne (by have := q2.1; omega)), PF_not (PF_ext q2 (fun j _ q => upI_ne (by omega))) upI_eq⟩, ?_⟩
  show whl (f :: t) v = whl t (ntB v)
  unfold whl
  rw [if_pos hf]
  cases t <;> rfl
theorem whl_stop (h : Hav sg wt a σ v w e o) (ht : 0 < w → ¬ wt (w - 1) = 33) : whl σ v = (σ, v) := by
  cases σ with
  | nil => rfl
  | cons f t =>
    unfold whl
    have h1 := h.1.1
    have h2 := h.1.2.1
    have := ht (by omega)
    rw [if_neg (by omega)]
theorem hav_bin {s : Int} (h : Hav sg wt a σ v w e o) (hw : 0 < w) (ht : wt (w - 1) = 38 ∨ (wt (w - 1) = 124 ∧ ¬ s = 38)) : ∃ v', Hav (upI sg e (-(wt (w - 1)))) wt a σ.tail v' (w - 1) (e + 1) o ∧ stl s σ v = stl s σ.tail v' := by
  obtain ⟨f, t, rfl, h1, h2⟩ := Wst_ne h.1 hw
  obtain ⟨b, q1, q2⟩ := h.2.2.2
  have ho := h.2.1
  unfold opn at ho
  rw [if_neg (by omega)] at ho
  obtain ⟨b', r1, r2⟩ := q1
  have r3 : PF sg b' b f.2 := by
    rcases r2 with ⟨-, r2⟩ | ⟨r2, -⟩
    · exact r2
    · omega
  have hb1 := r3.1
  have hb2 := q2.1
  have hP := PF_bin (sg := upI sg e (-(wt (w - 1)))) (t := -(wt (w - 1))) (PF_ext r3 (fun j _ q => upI_ne (by omega))) (PF_ext q2 (fun j _ q => upI_ne (by omega))) upI_eq (by omega)
  refine ⟨_, ⟨h2, by show o = opn t; omega, h.2.2.1, b', SgW_ext r1 (fun j _ q => upI_ne (by omega)), hP⟩, ?_⟩
  show stl s (f :: t) v = stl s t _
  rw [stl]
  rcases ht with ht | ⟨ht, hs⟩
  · rw [if_pos (by omega), if_pos (by omega)]
  · rw [if_neg (by omega), if_pos ⟨by omega, hs⟩, if_neg (by omega)]
theorem stl_stop {s : Int} (h : Hav sg wt a σ v w e o) (ht : 0 < w → ¬ wt (w - 1) = 38 ∧ (¬ wt (w - 1) = 124 ∨ s = 38)) : stl s σ v = (σ, v) := by
  cases σ with
  | nil => rfl
  | cons f t =>
    have h1 := h.1.1
    have h2 := h.1.2.1
    have := ht (by omega)
    rw [stl, if_neg (by omega), if_neg (by omega)]
theorem wnt_push {c : Int} (h : Wnt sg wt a σ w e o) (hc : c = 33 ∨ c = 40) : Wnt sg (upI wt w c) a ((c, v0) :: σ) (w + 1) e (o + 1) := by
  have := h.o0
  refine ⟨⟨by rw [show w + 1 - 1 = w by omega]; exact upI_eq, by omega, by rw [show w + 1 - 1 = w by omega]; exact Wst_up h.1 (Int.le_refl w)⟩, ?_, h.2.2.1, e, h.2.2.2, Or.inr ⟨hc, rfl⟩⟩
  show o + 1 = (if c = 33 ∨ c = 40 then 1 else 0) + opn σ
  have := h.2.1
  rw [if_pos hc]; omega
theorem wnt_bin {c : Int} (h : Hav sg wt a σ v w e o) (hc : c = 38 ∨ c = 124) : Wnt sg (upI wt w c) a ((c, v) :: σ) (w + 1) e o := by
  have := h.o0
  obtain ⟨b, q1, q2⟩ := h.2.2.2
  refine ⟨⟨by rw [show w + 1 - 1 = w by omega]; exact upI_eq, by omega, by rw [show w + 1 - 1 = w by omega]; exact Wst_up h.1 (Int.le_refl w)⟩, ?_, h.2.2.1, b, q1, Or.inl ⟨hc, q2⟩⟩
  show o = (if c = 33 ∨ c = 40 then 1 else 0) + opn σ
  have := h.2.1
  rw [if_neg (by omega)]; omega
/-- what stands on top behind a settling -/
theorem hav_open (h : Hav sg wt a σ v w e o) (hw : 0 < w) (hs : stl 124 σ v = (σ, v)) : Hav sg wt a σ.tail v (w - 1) e (o - 1) ∧ ∃ f, σ = f :: σ.tail := by
  obtain ⟨f, t, rfl, h1, h2⟩ := Wst_ne h.1 hw
  obtain ⟨b, q1, q2⟩ := h.2.2.2
  obtain ⟨b', r1, r2⟩ := q1
  have hf : f.1 = 33 ∨ f.1 = 40 := by
    rcases r2 with ⟨r2, -⟩ | ⟨r2, -⟩
    · exfalso
      rw [stl] at hs
      have hl : ∀ (x : Bv) (t : List Fr), ((stl 124 t x).1).length ≤ t.length := by
        intro x t
        induction t generalizing x with
        | nil => exact Nat.le_refl _
        | cons g t ih =>
          rw [stl]
          split
          · exact Nat.le_succ_of_le (ih _)
          · split
            · exact Nat.le_succ_of_le (ih _)
            · exact Nat.le_refl _
      rcases r2 with r2 | r2
      · rw [if_pos r2] at hs
        have := hl (anB f.2 v) t
        rw [hs] at this
        simp only [List.length_cons] at this
        omega
      · rw [if_neg (by omega), if_pos ⟨r2, by decide⟩] at hs
        have := hl (orB f.2 v) t
        rw [hs] at this
        simp only [List.length_cons] at this
        omega
    · exact r2
  have hbb : b = b' := by
    rcases r2 with ⟨r2, -⟩ | ⟨-, r2⟩
    · omega
    · exact r2
  subst hbb
  have ho := h.2.1
  unfold opn at ho
  rw [if_pos hf] at ho
  exact ⟨⟨h2, by show o - 1 = opn t; omega, h.2.2.1, b, r1, q2⟩, f, rfl⟩
theorem hav_done (h : Hav sg wt a σ v w e o) (hw : w = 0) : σ = [] ∧ PF sg a e v := by
  have hn := Wst_nil h.1 (by omega)
  subst hn
  obtain ⟨b, q1, q2⟩ := h.2.2.2
  have : b = a := q1
  subst this
  exact ⟨rfl, q2⟩
end
