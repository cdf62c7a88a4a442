/-! an E by descent, and by the machine -/
def tpS : List Fr → Int
  | [] => 0
  | f :: _ => f.1
def tOk (j : Int) (σ : List Fr) : Prop := ¬ tpS σ = 33 ∧ (2 ≤ j → ¬ tpS σ = 38) ∧ (3 ≤ j → ¬ tpS σ = 124)
def Rq (U : Int → Int) (n : Int) (s t : Ms) : Prop := ∃ s', Rc U n s s' ∧ stp U n s' = stp U n t
def ExS (U : Int → Int) (n j dp p ft p1 ft1 m : Int) : Prop := (0 ≤ ft ∧ p1 = p ∧ ft1 = ft) ∨ (ft < 0 ∧ ft1 = ft ∧ ((2 ≤ j → ¬ nx U n p1 = 38) ∧ (3 ≤ j → ¬ nx U n p1 = 124)) ∧ ∃ f : Bv, mb m f ∧ ∀ σ, opn σ = dp → tOk j σ → Rq U n (0, σ, v0, p) (1, σ, f, p1)) ∨ (ft < 0 ∧ 0 ≤ ft1 ∧ ∀ σ, opn σ = dp → tOk j σ → Rc U n (0, σ, v0, p) (3, [], v0, ft1))
/-- within the loop over what & (j 2) or | (j 3) joins -/
def LpS (U : Int → Int) (n j dp p ft p1 ft1 m : Int) : Prop := (0 ≤ ft ∧ p1 = p ∧ ft1 = ft) ∨ (ft < 0 ∧ ft1 = ft ∧ (3 ≤ j → ¬ nx U n p1 = 38) ∧ ∃ f : Bv, mb m f ∧ ∀ σ, opn σ = dp → tOk j σ → Rq U n (0, σ, v0, p) (1, σ, f, p1)) ∨ (ft < 0 ∧ 0 ≤ ft1 ∧ ∀ σ, opn σ = dp → tOk j σ → Rc U n (0, σ, v0, p) (3, [], v0, ft1))
section
variable {U : Int → Int} {n dp p ft p1 ft1 m m2 p2 ft2 : Int}
theorem Rq.st {s t u : Ms} (h : Rq U n s t) (r : Rc U n (stp U n t) u) : Rc U n s u := by
  obtain ⟨s', h1, h2⟩ := h
  exact h1.tr (Rc.st h2 r)
theorem Rc.q {s t : Ms} (h : Rc U n s t) : Rq U n s t := ⟨t, h, rfl⟩
theorem Rc.q2 {s t u : Ms} (h : Rc U n s t) (r : Rq U n t u) : Rq U n s u := by
  obtain ⟨s', h1, h2⟩ := r
  exact ⟨s', h.tr h1, h2⟩
theorem lp_0 {j : Int} (hj : j = 2 ∨ j = 3) (h : ExS U n (j - 1) dp p ft p1 ft1 m) : LpS U n j dp p ft p1 ft1 m := by
  have ht : ∀ σ, tOk j σ → tOk (j - 1) σ := fun σ q => ⟨q.1, fun a => q.2.1 (by omega), fun a => q.2.2 (by omega)⟩
  rcases h with h | ⟨h1, h2, h3, f, h4, h5⟩ | ⟨h1, h2, h3⟩
  · exact Or.inl h
  · exact Or.inr (Or.inl ⟨h1, h2, fun a => h3.1 (by omega), f, h4, fun σ a b => h5 σ a (ht σ b)⟩)
  · exact Or.inr (Or.inr ⟨h1, h2, fun σ a b => h3 σ a (ht σ b)⟩)
theorem lp_e {j : Int} (h : LpS U n j dp p ft p1 ft1 m) (hx : ft1 < 0 → (j = 2 → ¬ nx U n p1 = 38) ∧ (j = 3 → ¬ nx U n p1 = 124)) (hj : j = 2 ∨ j = 3) : ExS U n j dp p ft p1 ft1 m := by
  rcases h with h | ⟨h1, h2, h3, h4⟩ | h
  · exact Or.inl h
  · have := hx (by omega)
    exact Or.inr (Or.inl ⟨h1, h2, ⟨fun _ => if q : j = 2 then this.1 q else h3 (by omega), fun _ => this.2 (by omega)⟩, h4⟩)
  · exact Or.inr (Or.inr h)
theorem stl_t {s : Int} {σ : List Fr} {v : Bv} (h : ¬ tpS σ = 38) (h2 : ¬ tpS σ = 124 ∨ s = 38) : stl s σ v = (σ, v) := by
  cases σ with
  | nil => rfl
  | cons f t =>
    have h1 : ¬ f.1 = 38 := h
    have h3 : ¬ f.1 = 124 ∨ s = 38 := h2
    rw [stl, if_neg h1, if_neg (by omega)]
theorem stp_and {σ : List Fr} {l r : Bv} {q : Int} : stp U n (1, (38, l) :: σ, r, q) = stp U n (1, σ, anB l r, q) := by
  have e : ∀ s, stl s ((38, l) :: σ) r = stl s σ (anB l r) := fun s => by rw [stl]; rfl
  by_cases h : nx U n q = 38 ∨ nx U n q = 124
  · rw [stp_bin h, stp_bin h, e]
  · rw [stp_cls h, stp_cls h, e]
theorem stp_or {σ : List Fr} {l r : Bv} {q : Int} (hq : ¬ nx U n q = 38) : stp U n (1, (124, l) :: σ, r, q) = stp U n (1, σ, orB l r, q) := by
  have e : ∀ s : Int, ¬ s = 38 → stl s ((124, l) :: σ) r = stl s σ (orB l r) := fun s hs => by rw [stl, if_neg (show ¬ (124 : Int) = 38 by decide), if_pos ⟨rfl, hs⟩]
  by_cases h : nx U n q = 38 ∨ nx U n q = 124
  · rw [stp_bin h, stp_bin h, e _ hq]
  · rw [stp_cls h, stp_cls h, e _ (by decide)]
theorem opn_c {c : Int} {l : Bv} {σ : List Fr} (h : c = 38 ∨ c = 124) : opn ((c, l) :: σ) = opn σ := by
  rw [opn, if_neg (by show ¬ (c = 33 ∨ c = 40); omega)]; omega
theorem opn_o {c : Int} {l : Bv} {σ : List Fr} (h : c = 33 ∨ c = 40) : opn ((c, l) :: σ) = opn σ + 1 := by
  rw [opn, if_pos (show c = 33 ∨ c = 40 from h)]; omega
theorem lp_and (h : LpS U n 2 dp p ft p1 ft1 m) (hf : ft1 < 0) (hc : nx U n p1 = 38) (e : ExS U n 1 dp (p1 + 1) ft1 p2 ft2 m2) : LpS U n 2 dp p ft p2 ft2 ((iZ m &&& iZ m2).toInt) := by
  rcases h with h | ⟨h1, h2, h3, f, h4, h5⟩ | h
  · omega
  · have key : ∀ σ, opn σ = dp → tOk 2 σ → Rc U n (0, σ, v0, p) (0, (38, f) :: σ, v0, p1 + 1) := fun σ a b => (h5 σ a b).st (by rw [stp_bin (Or.inl hc), hc, stl_t (b.2.1 (by decide)) (Or.inr rfl)]; exact Rc.rf)
    have ht : ∀ σ, tOk 1 ((38, f) :: σ) := fun σ => ⟨by show ¬ (38 : Int) = 33; decide, fun a => absurd a (by decide), fun a => absurd a (by decide)⟩
    rcases e with e | ⟨e1, e2, e3, g, e4, e5⟩ | ⟨e1, e2, e3⟩
    · omega
    · refine Or.inr (Or.inl ⟨h1, by omega, fun a => absurd a (by decide), anB f g, mb_and h4 e4, fun σ a b => ?_⟩)
      obtain ⟨s', q1, q2⟩ := e5 ((38, f) :: σ) (by rw [opn_c (Or.inl rfl)]; exact a) (ht σ)
      exact ⟨s', (key σ a b).tr q1, by rw [q2, stp_and]⟩
    · exact Or.inr (Or.inr ⟨h1, e2, fun σ a b => (key σ a b).tr (e3 ((38, f) :: σ) (by rw [opn_c (Or.inl rfl)]; exact a) (ht σ))⟩)
  · omega
theorem lp_or (h : LpS U n 3 dp p ft p1 ft1 m) (hf : ft1 < 0) (hc : nx U n p1 = 124) (e : ExS U n 2 dp (p1 + 1) ft1 p2 ft2 m2) : LpS U n 3 dp p ft p2 ft2 ((iZ m ||| iZ m2).toInt) := by
  rcases h with h | ⟨h1, h2, h3, f, h4, h5⟩ | h
  · omega
  · have key : ∀ σ, opn σ = dp → tOk 3 σ → Rc U n (0, σ, v0, p) (0, (124, f) :: σ, v0, p1 + 1) := fun σ a b => (h5 σ a b).st (by rw [stp_bin (Or.inr hc), hc, stl_t (b.2.1 (by decide)) (Or.inl (b.2.2 (by decide)))]; exact Rc.rf)
    have ht : ∀ σ, tOk 2 ((124, f) :: σ) := fun σ => ⟨by show ¬ (124 : Int) = 33; decide, fun _ => by show ¬ (124 : Int) = 38; decide, fun a => absurd a (by decide)⟩
    rcases e with e | ⟨e1, e2, e3, g, e4, e5⟩ | ⟨e1, e2, e3⟩
    · omega
    · refine Or.inr (Or.inl ⟨h1, by omega, fun _ => e3.1 (by decide), orB f g, mb_or h4 e4, fun σ a b => ?_⟩)
      obtain ⟨s', q1, q2⟩ := e5 ((124, f) :: σ) (by rw [opn_c (Or.inr rfl)]; exact a) (ht σ)
      exact ⟨s', (key σ a b).tr q1, by rw [q2, stp_or (e3.1 (by decide))]⟩
    · exact Or.inr (Or.inr ⟨h1, e2, fun σ a b => (key σ a b).tr (e3 ((124, f) :: σ) (by rw [opn_c (Or.inr rfl)]; exact a) (ht σ))⟩)
  · omega
/-! nots ahead of an operand -/
def nts : Nat → List Fr → List Fr
  | 0, σ => σ
  | k + 1, σ => (33, v0) :: nts k σ
def ntJ : Nat → Bv → Bv
  | 0, v => v
  | k + 1, v => ntJ k (ntB v)
theorem opn_n (σ : List Fr) : ∀ k : Nat, opn (nts k σ) = k + opn σ
  | 0 => by show opn σ = _; omega
  | k + 1 => by
    show opn ((33, v0) :: nts k σ) = _
    rw [opn_o (Or.inl rfl), opn_n σ k]; omega
theorem whl_n {σ : List Fr} (h : ¬ tpS σ = 33) : ∀ (k : Nat) (v : Bv), whl (nts k σ) v = (σ, ntJ k v)
  | 0, v => by
    show whl σ v = (σ, v)
    cases σ with
    | nil => rfl
    | cons f t =>
      have h1 : ¬ f.1 = 33 := h
      rw [whl, if_neg h1]
  | k + 1, v => by
    show whl ((33, v0) :: nts k σ) v = (σ, ntJ k (ntB v))
    rw [whl, if_pos (show (33 : Int) = 33 from rfl)]
    exact whl_n h k (ntB v)
def mN (m : Int) : Int := (iZ 16777215 &&& iZ ((iZ m ^^^ iZ (-1)).toInt)).toInt
theorem mb_j {m : Int} : ∀ (k : Nat) (f : Bv), mb m f → (k % 2 = 0 → mb m (ntJ k f)) ∧ (k % 2 = 1 → mb (mN m) (ntJ k f))
  | 0, f, h => ⟨fun _ => h, fun q => by omega⟩
  | 1, f, h => ⟨fun q => by omega, fun _ => mb_not h⟩
  | k + 2, f, h => by
    have e := mb_j k (ntB (ntB f)) (mb_nn h)
    exact ⟨fun q => e.1 (by omega), fun q => e.2 (by omega)⟩
def NtI (U : Int → Int) (n dp p ft w tn az : Int) : Prop := (0 ≤ ft ∧ az = p ∧ w = dp ∧ tn = 0) ∨ (ft < 0 ∧ az = p + (w - dp) ∧ dp ≤ w ∧ tn = (w - dp) % 2 ∧ ∀ σ, opn σ = dp → Rc U n (0, σ, v0, p) (0, nts (w - dp).toNat σ, v0, az))
variable {w tn az : Int}
theorem nt_0 (h : -1 ≤ ft) : NtI U n dp p ft dp 0 p := by
  by_cases q : 0 ≤ ft
  · exact Or.inl ⟨q, rfl, rfl, rfl⟩
  · exact Or.inr ⟨by omega, by omega, Int.le_refl _, by omega, fun σ _ => by rw [Int.sub_self]; exact Rc.rf⟩
theorem nt_s (h : NtI U n dp p ft w tn az) (hf : ft < 0) (hc : nx U n az = 33) (hw : w < 4) : NtI U n dp p ft (w + 1) (if tn = 0 then 1 else 0) (az + 1) := by
  rcases h with h | ⟨h1, h2, h3, h4, h5⟩
  · omega
  · refine Or.inr ⟨h1, by omega, by omega, by split <;> omega, fun σ a => ?_⟩
    rw [show (w + 1 - dp).toNat = (w - dp).toNat + 1 by omega]
    refine (h5 σ a).tr (Rc.st (stp_push (Or.inl hc) (by rw [opn_n]; omega)) ?_)
    rw [hc]; exact Rc.rf
/-- an operand behind the nots -/
theorem sg_ok {p3 m' : Int} {f : Bv} (h : NtI U n dp p ft w tn az) (hf : ft < 0) (hm : mb m f) (hm' : (tn = 0 → m' = m) ∧ (¬ tn = 0 → m' = mN m)) (hA : ∀ τ, opn τ = w → Rc U n (0, τ, v0, az) (1, (whl τ f).1, (whl τ f).2, p3)) : ExS U n 1 dp p ft p3 ft m' := by
  rcases h with h | ⟨h1, h2, h3, h4, h5⟩
  · omega
  · have e := mb_j (w - dp).toNat f hm
    refine Or.inr (Or.inl ⟨h1, rfl, ⟨fun a => absurd a (by decide), fun a => absurd a (by decide)⟩, ntJ (w - dp).toNat f, ?_, fun σ a b => ?_⟩)
    · by_cases q : tn = 0
      · rw [hm'.1 q]; exact e.1 (by omega)
      · rw [hm'.2 q]; exact e.2 (by omega)
    · have r := hA (nts (w - dp).toNat σ) (by rw [opn_n]; omega)
      rw [whl_n b.1] at r
      exact ((h5 σ a).tr r).q
theorem sg_no {p3 f3 m' : Int} (h : NtI U n dp p ft w tn az) (hf : ft < 0) (h3 : 0 ≤ f3) (hA : ∀ τ, opn τ = w → Rc U n (0, τ, v0, az) (3, [], v0, f3)) : ExS U n 1 dp p ft p3 f3 m' := by
  rcases h with h | ⟨h1, h2, h4, h5, h6⟩
  · omega
  · exact Or.inr (Or.inr ⟨h1, h3, fun σ a _ => (h6 σ a).tr (hA _ (by rw [opn_n]; omega))⟩)
def TkR (U : Int → Int) (n a b c p f p1 f1 v : Int) : Prop := (f < 0 ∧ (nx U n p = a ∨ nx U n p = b ∨ nx U n p = c) ∧ (p1 = p + 1 ∧ p1 ≤ n) ∧ f1 = f ∧ v = nx U n p) ∨ (f < 0 ∧ ¬ (nx U n p = a ∨ nx U n p = b ∨ nx U n p = c) ∧ p1 = p ∧ f1 = p ∧ v = -1) ∨ (0 ≤ f ∧ p1 = p ∧ f1 = f ∧ v = -1)
theorem tk_of {a b c p f p1 f1 v : Int} (h : (f < 0 ∧ (nx U n p = a ∨ nx U n p = b ∨ nx U n p = c) ∧ (p1 = p + 1 ∧ p1 ≤ n) ∧ f1 = f ∧ v = nx U n p) ∨ (f < 0 ∧ ¬ (nx U n p = a ∨ nx U n p = b ∨ nx U n p = c) ∧ p1 = p ∧ f1 = p ∧ v = -1) ∨ (0 ≤ f ∧ p1 = p ∧ f1 = f ∧ v = -1)) : TkR U n a b c p f p1 f1 v := h
def NmR (U : Int → Int) (n : Int) (most : Nat) (p f p1 f1 v : Int) : Prop := (f < 0 ∧ (48 ≤ nx U n p ∧ nx U n p ≤ 57) ∧ p1 = nbP U n most p ∧ (p ≤ p1 ∧ p1 ≤ n) ∧ f1 = f ∧ v = nbV U n most p 0 ∧ (0 ≤ v ∧ v ≤ 999)) ∨ (f < 0 ∧ ¬ (48 ≤ nx U n p ∧ nx U n p ≤ 57) ∧ p1 = p ∧ f1 = p ∧ v = 0) ∨ (0 ≤ f ∧ p1 = p ∧ f1 = f ∧ v = 0)
theorem nm_of {most : Nat} {p f p1 f1 v : Int} (h : (f < 0 ∧ (48 ≤ nx U n p ∧ nx U n p ≤ 57) ∧ p1 = nbP U n most p ∧ (p ≤ p1 ∧ p1 ≤ n) ∧ f1 = f ∧ v = nbV U n most p 0 ∧ (0 ≤ v ∧ v ≤ 999)) ∨ (f < 0 ∧ ¬ (48 ≤ nx U n p ∧ nx U n p ≤ 57) ∧ p1 = p ∧ f1 = p ∧ v = 0) ∨ (0 ≤ f ∧ p1 = p ∧ f1 = f ∧ v = 0)) : NmR U n most p f p1 f1 v := h
theorem sg_par {p3 f3 m' v : Int} (h : NtI U n dp p ft w tn az) (hf : ft < 0) (haz : 0 ≤ az) (hc : nx U n az = 40) (hw : w < 4) (e : ExS U n 3 (w + 1) (az + 1) ft p2 ft2 m2) (hp2 : 0 ≤ p2) (t : TkR U n 41 41 41 p2 ft2 p3 f3 v) (hm' : (tn = 0 → m' = m2) ∧ (¬ tn = 0 → m' = mN m2)) : ExS U n 1 dp p ft p3 f3 m' := by
  have push : ∀ τ, opn τ = w → Rc U n (0, τ, v0, az) (0, (40, v0) :: τ, v0, az + 1) := fun τ a => Rc.st (stp_push (Or.inr hc) (by omega)) (by rw [hc]; exact Rc.rf)
  have ht : ∀ τ, tOk 3 ((40, v0) :: τ) := fun τ => ⟨by show ¬ (40 : Int) = 33; decide, fun _ => by show ¬ (40 : Int) = 38; decide, fun _ => by show ¬ (40 : Int) = 124; decide⟩
  have ho : ∀ τ, opn τ = w → opn ((40, v0) :: τ) = w + 1 := fun τ a => by rw [opn_o (Or.inr rfl), a]
  rcases e with e | ⟨e1, e2, e3, f, e4, e5⟩ | ⟨e1, e2, e3⟩
  · omega
  · have hcl : ∀ τ, stp U n (1, (40, v0) :: τ, f, p2) = clsM U n p2 ((40, v0) :: τ, f) := fun τ => by
      rw [stp_cls (by have := e3.1 (by decide); have := e3.2 (by decide); omega), stl_t (by show ¬ (40 : Int) = 38; decide) (Or.inl (by show ¬ (40 : Int) = 124; decide))]
    rcases t with ⟨t1, t2, t3, t4, t5⟩ | ⟨t1, t2, t3, t4, t5⟩ | t
    · rw [t4, e2]
      refine sg_ok (m := m2) (f := f) h hf e4 hm' (fun τ a => (push τ a).tr ((e5 _ (ho τ a) (ht τ)).st ?_))
      rw [hcl, t3.1]
      have : clsM U n p2 ((40, v0) :: τ, f) = (1, (whl τ f).1, (whl τ f).2, p2 + 1) := if_pos (by omega)
      rw [this]; exact Rc.rf
    · refine sg_no h hf (by omega) (fun τ a => (push τ a).tr ((e5 _ (ho τ a) (ht τ)).st ?_))
      rw [hcl, t4]
      have : clsM U n p2 ((40, v0) :: τ, f) = (3, [], v0, p2) := if_neg (by omega)
      rw [this]; exact Rc.rf
    · omega
  · rcases t with t | t | ⟨t1, t2, t3, t4⟩
    · omega
    · omega
    · rw [t3]
      exact sg_no h hf e2 (fun τ a => (push τ a).tr (e3 _ (ho τ a) (ht τ)))
theorem sg_tst {q1 f1 c q2 f2 r q3 f3 nn m' mo : Int} (h : NtI U n dp p ft w tn az) (hf : ft < 0) (haz : 0 ≤ az) (hw : w ≤ 4) (h33 : nx U n az = 33 → 4 ≤ w) (h40 : nx U n az = 40 → 4 ≤ w) (t1 : TkR U n 115 119 119 az ft q1 f1 c) (t2 : TkR U n 60 61 62 q1 f1 q2 f2 r)
    (t3 : NmR U n 2 q2 f2 q3 f3 nn)
    (hmo : c = 115 ∨ c = 119 → 60 ≤ r ∧ r ≤ 62 → nn ≤ 99 → mb mo (fun s q => tstV ((if c = 115 then 0 else 10000) + 100 * (r - 60) + nn) s q)) (hm' : (tn = 0 → m' = mo) ∧ (¬ tn = 0 → m' = mN mo)) : ExS U n 1 dp p ft q3 f3 m' := by
  have e3 : 0 ≤ f2 → q3 = q2 ∧ f3 = f2 := fun q => by rcases t3 with z | z | z <;> omega
  have e2 : 0 ≤ f1 → q2 = q1 ∧ f2 = f1 := fun q => by rcases t2 with z | z | z <;> omega
  have bad : ∀ τ, opn τ = w → ¬ tsOk U n az → Rc U n (0, τ, v0, az) (3, [], v0, tsF U n az) := fun τ a b => by
    by_cases z : nx U n az = 33 ∨ nx U n az = 40
    · have e : tsF U n az = az := by unfold tsF; rw [if_neg (by omega)]
      rw [e]
      exact Rc.st (stp_full z (by omega)) Rc.rf
    · exact Rc.st (stp_bad z b) Rc.rf
  rcases t1 with ⟨a1, a2, a3, a4, a5⟩ | ⟨a1, a2, a3, a4, a5⟩ | a
  · rcases t2 with ⟨b1, b2, b3, b4, b5⟩ | ⟨b1, b2, b3, b4, b5⟩ | b
    · have e1 : q1 = az + 1 := a3.1
      have e4 : q2 = az + 2 := by omega
      subst e1
      subst e4
      rcases t3 with ⟨c1, c2, c3, c4, c5, c6, c7⟩ | ⟨c1, c2, c3, c4, c5⟩ | c
      · have ok : tsOk U n az := ⟨by omega, by omega, c2⟩
        have hn := nbV_r2 (U := U) (n := n) (p := az + 2)
        have hb := hmo (by omega) (by omega) (by omega)
        rw [c5, b4, a4]
        refine sg_ok h hf (f := tsB U n az) ?_ hm' (fun τ a => Rc.st (stp_test ok) (by rw [c3]; exact Rc.rf))
        have e : tsB U n az = fun s q => tstV ((if c = 115 then 0 else 10000) + 100 * (r - 60) + nn) s q := by
          unfold tsB tsT
          rw [a5, b5, c6]
        rw [e]; exact hb
      · refine sg_no h hf (by omega) (fun τ a => ?_)
        have e : f3 = tsF U n az := by unfold tsF; rw [if_pos (by omega), if_pos (by omega)]; omega
        rw [e]; exact bad τ a (fun z => c2 z.2.2)
      · omega
    · refine sg_no h hf (by omega) (fun τ a => ?_)
      have e : f3 = tsF U n az := by unfold tsF; rw [if_pos (by omega), if_neg (by rw [← a3.1]; omega)]; omega
      rw [e]; exact bad τ a (fun z => by have z2 := z.2.1; rw [← a3.1] at z2; omega)
    · omega
  · refine sg_no h hf (by omega) (fun τ a => ?_)
    have e : f3 = tsF U n az := by unfold tsF; rw [if_neg (by omega)]; omega
    rw [e]; exact bad τ a (fun z => by have := z.1; omega)
  · omega
/-- the whole E: both readings end alike -/
theorem ex_go {f : Bv} (hr : Rq U n (0, [], v0, p) (1, [], f, p1)) (h1 : ¬ nx U n p1 = 38) (h2 : ¬ nx U n p1 = 124) : exT U n p = (2, [], f, p1) := by
  refine exT_e (hr.st ?_) (Or.inl rfl)
  rw [stp_cls (by omega)]
  exact Rc.rf
theorem ex_all (h : ExS U n 3 0 p ft p1 ft1 m) (hf : ft < 0) : ((exT U n p).1 = 2 ∧ ft1 = ft ∧ p1 = (exT U n p).2.2.2 ∧ mb m (exT U n p).2.2.1) ∨ ((exT U n p).1 = 3 ∧ 0 ≤ ft1 ∧ ft1 = (exT U n p).2.2.2) := by
  have ht : tOk 3 [] := ⟨by show ¬ (0 : Int) = 33; decide, fun _ => by show ¬ (0 : Int) = 38; decide, fun _ => by show ¬ (0 : Int) = 124; decide⟩
  rcases h with h | ⟨h1, h2, h3, f, h4, h5⟩ | ⟨h1, h2, h3⟩
  · omega
  · have e := ex_go (h5 [] rfl ht) (h3.1 (by decide)) (h3.2 (by decide))
    rw [e]; exact Or.inl ⟨rfl, h2, rfl, h4⟩
  · have e := exT_e (h3 [] rfl ht) (Or.inr rfl)
    rw [e]; exact Or.inr ⟨rfl, h2, rfl⟩
end
