/-! a text U of n bytes, read from a place on -/
def nx (U : Int → Int) (n p : Int) : Int := if p < n then U p else -1
def nbP (U : Int → Int) (n : Int) : Nat → Int → Int
  | 0, p => p
  | m + 1, p => if 48 ≤ nx U n p ∧ nx U n p ≤ 57 then nbP U n m (p + 1) else p
def nbV (U : Int → Int) (n : Int) : Nat → Int → Int → Int
  | 0, _, a => a
  | m + 1, p, a => if 48 ≤ nx U n p ∧ nx U n p ≤ 57 then nbV U n m (p + 1) (10 * a + nx U n p - 48) else a
theorem nbP_y {U : Int → Int} {n p : Int} {m : Nat} (h : 48 ≤ nx U n p ∧ nx U n p ≤ 57) : nbP U n (m + 1) p = nbP U n m (p + 1) := if_pos h
theorem nbP_n {U : Int → Int} {n p : Int} {m : Nat} (h : ¬ (48 ≤ nx U n p ∧ nx U n p ≤ 57)) : nbP U n (m + 1) p = p := if_neg h
theorem nbV_y {U : Int → Int} {n p a : Int} {m : Nat} (h : 48 ≤ nx U n p ∧ nx U n p ≤ 57) : nbV U n (m + 1) p a = nbV U n m (p + 1) (10 * a + nx U n p - 48) := if_pos h
theorem nbV_n {U : Int → Int} {n p a : Int} {m : Nat} (h : ¬ (48 ≤ nx U n p ∧ nx U n p ≤ 57)) : nbV U n (m + 1) p a = a := if_neg h
theorem nx_in {U : Int → Int} {n p c : Int} (h : nx U n p = c) (hc : ¬ c = -1) : p < n := by
  unfold nx at h
  by_cases hp : p < n
  · exact hp
  · rw [if_neg hp] at h; omega
theorem nx_dg {U : Int → Int} {n p : Int} (h : 48 ≤ nx U n p ∧ nx U n p ≤ 57) : p < n := nx_in (c := nx U n p) rfl (by omega)
theorem nbP_r {U : Int → Int} {n : Int} : ∀ (m : Nat) (p : Int), p ≤ n → p ≤ nbP U n m p ∧ nbP U n m p ≤ n ∧ nbP U n m p ≤ p + m
  | 0, p, h => by unfold nbP; omega
  | m + 1, p, h => by
    by_cases hd : 48 ≤ nx U n p ∧ nx U n p ≤ 57
    · rw [nbP_y hd]
      have := nx_dg hd
      have := nbP_r (U := U) (n := n) m (p + 1) (by omega)
      omega
    · rw [nbP_n hd]; omega
theorem nbV_r {U : Int → Int} {n p : Int} : 0 ≤ nbV U n 3 p 0 ∧ nbV U n 3 p 0 ≤ 999 := by
  simp only [nbV]
  (repeat' split) <;> omega
theorem nbV_r2 {U : Int → Int} {n p : Int} : 0 ≤ nbV U n 2 p 0 ∧ nbV U n 2 p 0 ≤ 99 := by
  simp only [nbV]
  (repeat' split) <;> omega
/-! reading an E: a machine with a row of frames (code, value): 33 not, 40 open, 38 and, 124 or -/
abbrev Bv : Type := Int → Int → Int
abbrev Fr : Type := Int × Bv
abbrev Ms : Type := Int × List Fr × Bv × Int
def v0 : Bv := fun _ _ => 0
def ntB (v : Bv) : Bv := fun s q => notV (v s q)
def anB (a b : Bv) : Bv := fun s q => andV (a s q) (b s q)
def orB (a b : Bv) : Bv := fun s q => orV (a s q) (b s q)
def opn : List Fr → Int
  | [] => 0
  | f :: t => (if f.1 = 33 ∨ f.1 = 40 then 1 else 0) + opn t
def whl : List Fr → Bv → List Fr × Bv
  | [], v => ([], v)
  | f :: t, v => if f.1 = 33 then whl t (ntB v) else (f :: t, v)
def stl (s : Int) : List Fr → Bv → List Fr × Bv
  | [], v => ([], v)
  | f :: t, v => if f.1 = 38 then stl s t (anB f.2 v) else if f.1 = 124 ∧ ¬ s = 38 then stl s t (orB f.2 v) else (f :: t, v)
abbrev tsOk (U : Int → Int) (n p : Int) : Prop := (nx U n p = 115 ∨ nx U n p = 119) ∧ (60 ≤ nx U n (p + 1) ∧ nx U n (p + 1) ≤ 62) ∧ (48 ≤ nx U n (p + 2) ∧ nx U n (p + 2) ≤ 57)
def tsF (U : Int → Int) (n p : Int) : Int := if nx U n p = 115 ∨ nx U n p = 119 then (if 60 ≤ nx U n (p + 1) ∧ nx U n (p + 1) ≤ 62 then p + 2 else p + 1) else p
def tsT (U : Int → Int) (n p : Int) : Int := (if nx U n p = 115 then 0 else 10000) + 100 * (nx U n (p + 1) - 60) + nbV U n 2 (p + 2) 0
def tsB (U : Int → Int) (n p : Int) : Bv := fun s q => tstV (tsT U n p) s q
def clsM (U : Int → Int) (n p : Int) : List Fr × Bv → Ms
  | ([], v) => (2, [], v, p)
  | (_ :: t, v) => if nx U n p = 41 then (1, (whl t v).1, (whl t v).2, p + 1) else (3, [], v0, p)
def stp (U : Int → Int) (n : Int) (s : Ms) : Ms :=
  if s.1 = 0 then (if nx U n s.2.2.2 = 33 ∨ nx U n s.2.2.2 = 40 then (if opn s.2.1 = 4 then (3, [], v0, s.2.2.2) else (0, (nx U n s.2.2.2, v0) :: s.2.1, v0, s.2.2.2 + 1)) else if tsOk U n s.2.2.2 then (1, (whl s.2.1 (tsB U n s.2.2.2)).1, (whl s.2.1 (tsB U n s.2.2.2)).2, nbP U n 2 (s.2.2.2 + 2)) else (3, [], v0, tsF U n s.2.2.2))
  else if s.1 = 1 then (if nx U n s.2.2.2 = 38 ∨ nx U n s.2.2.2 = 124 then (0, (nx U n s.2.2.2, (stl (nx U n s.2.2.2) s.2.1 s.2.2.1).2) :: (stl (nx U n s.2.2.2) s.2.1 s.2.2.1).1, v0, s.2.2.2 + 1) else clsM U n s.2.2.2 (stl 124 s.2.1 s.2.2.1))
  else s
section
variable {U : Int → Int} {n p : Int} {σ : List Fr} {v : Bv}
theorem stp_full (h : nx U n p = 33 ∨ nx U n p = 40) (ho : opn σ = 4) : stp U n (0, σ, v0, p) = (3, [], v0, p) := by
  unfold stp; rw [if_pos rfl, if_pos h, if_pos ho]
theorem stp_push (h : nx U n p = 33 ∨ nx U n p = 40) (ho : ¬ opn σ = 4) : stp U n (0, σ, v0, p) = (0, (nx U n p, v0) :: σ, v0, p + 1) := by
  unfold stp; rw [if_pos rfl, if_pos h, if_neg ho]
theorem stp_test (h : tsOk U n p) : stp U n (0, σ, v0, p) = (1, (whl σ (tsB U n p)).1, (whl σ (tsB U n p)).2, nbP U n 2 (p + 2)) := by
  have h1 : ¬ (nx U n p = 33 ∨ nx U n p = 40) := by have := h.1; omega
  unfold stp; rw [if_pos rfl, if_neg h1, if_pos h]
theorem stp_bad (h : ¬ (nx U n p = 33 ∨ nx U n p = 40)) (hb : ¬ tsOk U n p) : stp U n (0, σ, v0, p) = (3, [], v0, tsF U n p) := by
  unfold stp; rw [if_pos rfl, if_neg h, if_neg hb]
theorem stp_bin (h : nx U n p = 38 ∨ nx U n p = 124) : stp U n (1, σ, v, p) = (0, (nx U n p, (stl (nx U n p) σ v).2) :: (stl (nx U n p) σ v).1, v0, p + 1) := by
  unfold stp; rw [if_neg (show ¬ (1 : Int) = 0 by decide), if_pos rfl, if_pos h]
theorem stp_cls (h : ¬ (nx U n p = 38 ∨ nx U n p = 124)) : stp U n (1, σ, v, p) = clsM U n p (stl 124 σ v) := by
  unfold stp; rw [if_neg (show ¬ (1 : Int) = 0 by decide), if_pos rfl, if_neg h]
theorem stp_end {s : Ms} (h : s.1 = 2 ∨ s.1 = 3) : stp U n s = s := by
  unfold stp; rw [if_neg (by omega), if_neg (by omega)]
def itr (U : Int → Int) (n : Int) : Nat → Ms → Ms
  | 0, s => s
  | k + 1, s => itr U n k (stp U n s)
def Rc (U : Int → Int) (n : Int) (s t : Ms) : Prop := ∃ k : Nat, itr U n k s = t
theorem Rc.rf {s : Ms} : Rc U n s s := ⟨0, rfl⟩
theorem Rc.st {s s' t : Ms} (h : stp U n s = s') (r : Rc U n s' t) : Rc U n s t := by
  obtain ⟨k, hk⟩ := r
  exact ⟨k + 1, by unfold itr; rw [h]; exact hk⟩
theorem itr_add (k m : Nat) (s : Ms) : itr U n (k + m) s = itr U n m (itr U n k s) := by
  induction k generalizing s with
  | zero => rw [Nat.zero_add]; rfl
  | succ k ih => rw [show k + 1 + m = (k + m) + 1 by omega]; exact ih (stp U n s)
theorem Rc.tr {s t u : Ms} (a : Rc U n s t) (b : Rc U n t u) : Rc U n s u := by
  obtain ⟨k, hk⟩ := a
  obtain ⟨m, hm⟩ := b
  exact ⟨k + m, by rw [itr_add, hk]; exact hm⟩
theorem itr_end {s : Ms} (h : s.1 = 2 ∨ s.1 = 3) : ∀ k : Nat, itr U n k s = s
  | 0 => rfl
  | k + 1 => by
    show itr U n k (stp U n s) = s
    rw [stp_end h]; exact itr_end h k
theorem Rc_det {s t u : Ms} (a : Rc U n s t) (b : Rc U n s u) (ht : t.1 = 2 ∨ t.1 = 3) (hu : u.1 = 2 ∨ u.1 = 3) : t = u := by
  obtain ⟨k, hk⟩ := a
  obtain ⟨m, hm⟩ := b
  rcases Nat.le_total k m with h | h
  · rw [show m = k + (m - k) by omega, itr_add, hk, itr_end ht] at hm; exact hm
  · rw [show k = m + (k - m) by omega, itr_add, hm, itr_end hu] at hk; exact hk.symm
noncomputable def exT (U : Int → Int) (n p : Int) : Ms := Classical.epsilon (fun t => (t.1 = 2 ∨ t.1 = 3) ∧ Rc U n (0, [], v0, p) t)
theorem exT_e {t : Ms} (r : Rc U n (0, [], v0, p) t) (h : t.1 = 2 ∨ t.1 = 3) : exT U n p = t := by
  have e : ((exT U n p).1 = 2 ∨ (exT U n p).1 = 3) ∧ Rc U n (0, [], v0, p) (exT U n p) := Classical.epsilon_spec (p := fun t => (t.1 = 2 ∨ t.1 = 3) ∧ Rc U n (0, [], v0, p) t) ⟨t, h, r⟩
  exact Rc_det e.2 r e.1 h
/-! values are 0 or 1 -/
def v01 (v : Bv) : Prop := ∀ s q, v s q = 0 ∨ v s q = 1
def ok01 (s : Ms) : Prop := (∀ f ∈ s.2.1, v01 f.2) ∧ v01 s.2.2.1
theorem v01_0 : v01 v0 := fun _ _ => Or.inl rfl
theorem v01_nt (h : v01 v) : v01 (ntB v) := fun s q => by
  unfold ntB notV; split
  · exact Or.inr rfl
  · exact Or.inl rfl
theorem v01_an {a b : Bv} : v01 (anB a b) := fun s q => by
  unfold anB andV; (repeat' split) <;> first | exact Or.inl rfl | exact Or.inr rfl
theorem v01_or {a b : Bv} : v01 (orB a b) := fun s q => by
  unfold orB orV; (repeat' split) <;> first | exact Or.inl rfl | exact Or.inr rfl
theorem v01_ts : v01 (tsB U n p) := fun s q => by
  unfold tsB tstV; (repeat' split) <;> first | exact Or.inl rfl | exact Or.inr rfl
theorem whl_01 : ∀ (σ : List Fr) (v : Bv), (∀ f ∈ σ, v01 f.2) → v01 v → (∀ f ∈ (whl σ v).1, v01 f.2) ∧ v01 (whl σ v).2
  | [], v, h, hv => ⟨h, hv⟩
  | f :: t, v, h, hv => by
    unfold whl
    by_cases hf : f.1 = 33
    · rw [if_pos hf]; exact whl_01 t _ (fun g hg => h g (List.mem_cons_of_mem _ hg)) (v01_nt hv)
    · rw [if_neg hf]; exact ⟨h, hv⟩
theorem stl_01 {s : Int} : ∀ (σ : List Fr) (v : Bv), (∀ f ∈ σ, v01 f.2) → v01 v → (∀ f ∈ (stl s σ v).1, v01 f.2) ∧ v01 (stl s σ v).2
  | [], v, h, hv => ⟨h, hv⟩
  | f :: t, v, h, hv => by
    unfold stl
    by_cases hf : f.1 = 38
    · rw [if_pos hf]; exact stl_01 t _ (fun g hg => h g (List.mem_cons_of_mem _ hg)) v01_an
    · rw [if_neg hf]
      by_cases hg : f.1 = 124 ∧ ¬ s = 38
      · rw [if_pos hg]; exact stl_01 t _ (fun g hg => h g (List.mem_cons_of_mem _ hg)) v01_or
      · rw [if_neg hg]; exact ⟨h, hv⟩
theorem cls_01 {x : List Fr × Bv} (h : ∀ f ∈ x.1, v01 f.2) (hv : v01 x.2) : ok01 (clsM U n p x) := by
  obtain ⟨l, w⟩ := x
  cases l with
  | nil => exact ⟨h, hv⟩
  | cons f t =>
    show ok01 (if nx U n p = 41 then (1, (whl t w).1, (whl t w).2, p + 1) else (3, [], v0, p))
    by_cases hc : nx U n p = 41
    · rw [if_pos hc]; exact whl_01 t w (fun g hg => h g (List.mem_cons_of_mem _ hg)) hv
    · rw [if_neg hc]; exact ⟨fun f hf => (List.not_mem_nil hf).elim, v01_0⟩
theorem stp_01 {s : Ms} (h : ok01 s) : ok01 (stp U n s) := by
  obtain ⟨t, σ, v, p⟩ := s
  unfold stp
  by_cases h0 : t = 0
  · rw [if_pos h0]
    by_cases h1 : nx U n p = 33 ∨ nx U n p = 40
    · rw [if_pos h1]
      by_cases h2 : opn σ = 4
      · rw [if_pos h2]; exact ⟨fun f hf => (List.not_mem_nil hf).elim, v01_0⟩
      · rw [if_neg h2]
        exact ⟨fun f hf => by
          rcases List.mem_cons.mp hf with h | hf
          · rw [h]; exact v01_0
          · exact h.1 f hf, v01_0⟩
    · rw [if_neg h1]
      by_cases h2 : tsOk U n p
      · rw [if_pos h2]; exact whl_01 σ _ h.1 v01_ts
      · rw [if_neg h2]; exact ⟨fun f hf => (List.not_mem_nil hf).elim, v01_0⟩
  · rw [if_neg h0]
    by_cases h1 : t = 1
    · rw [if_pos h1]
      have e := fun s => stl_01 (s := s) σ v h.1 h.2
      by_cases h2 : nx U n p = 38 ∨ nx U n p = 124
      · rw [if_pos h2]
        exact ⟨fun f hf => by
          rcases List.mem_cons.mp hf with h | hf
          · rw [h]; exact (e _).2
          · exact (e _).1 f hf, v01_0⟩
      · rw [if_neg h2]; exact cls_01 (e _).1 (e _).2
    · rw [if_neg h1]; exact h
theorem itr_01 : ∀ (k : Nat) (s : Ms), ok01 s → ok01 (itr U n k s)
  | 0, _, h => h
  | k + 1, s, h => itr_01 k (stp U n s) (stp_01 h)
theorem Rc_01 {t : Ms} (r : Rc U n (0, [], v0, p) t) : v01 t.2.2.1 := by
  obtain ⟨k, hk⟩ := r
  rw [← hk]
  exact (itr_01 k _ ⟨fun f hf => (List.not_mem_nil hf).elim, v01_0⟩).2
end
/-! words -/
def wl (k : Int) : Int := if k = 4 ∨ k = 6 then 5 else if k = 7 then 6 else 4
def wb (k j : Int) : Int := ((sByt.getD k.toNat []).getD j.toNat 0).toInt
def mtF (U : Int → Int) (n p k : Int) : Nat → Int → Int
  | 0, j => j
  | m + 1, j => if nx U n (p + j) = wb k j then mtF U n p k m (j + 1) else j
def mt (U : Int → Int) (n p k : Int) : Int := mtF U n p k (wl k).toNat 0
def hdK (U : Int → Int) (n p : Int) : Int := if nx U n p = 112 then (if nx U n (p + 1) = 111 then 8 else 0) else if nx U n p = 114 then 1 else if nx U n p = 104 then 2 else if nx U n p = 100 then 3 else if nx U n p = 98 then 4 else if nx U n p = 115 then (if nx U n (p + 1) = 112 then 7 else 6) else 5
theorem hdK_r (U : Int → Int) (n p : Int) : 0 ≤ hdK U n p ∧ hdK U n p ≤ 8 := by unfold hdK; (repeat' split) <;> omega
theorem wl_r (k : Int) : 4 ≤ wl k ∧ wl k ≤ 6 := by unfold wl; (repeat' split) <;> omega
theorem wb_r : ∀ k : Nat, k < 9 → ∀ j : Nat, j < 6 → (j : Int) < wl k → 97 ≤ wb k j ∧ wb k j ≤ 122 := by decide +kernel
theorem wb_r' {k j : Int} (hk : 0 ≤ k ∧ k ≤ 8) (hj : 0 ≤ j) (h : j < wl k) : 97 ≤ wb k j ∧ wb k j ≤ 122 := by
  obtain ⟨a, rfl⟩ := Int.eq_ofNat_of_zero_le hk.1
  obtain ⟨b, rfl⟩ := Int.eq_ofNat_of_zero_le hj
  have := wl_r (a : Int)
  exact wb_r a (by omega) b (by omega) h
theorem mtF_y {U : Int → Int} {n p k j : Int} {m : Nat} (h : nx U n (p + j) = wb k j) : mtF U n p k (m + 1) j = mtF U n p k m (j + 1) := if_pos h
theorem mtF_n {U : Int → Int} {n p k j : Int} {m : Nat} (h : ¬ nx U n (p + j) = wb k j) : mtF U n p k (m + 1) j = j := if_neg h
theorem mtF_r {U : Int → Int} {n p k : Int} : ∀ (m : Nat) (j : Int), j ≤ mtF U n p k m j ∧ mtF U n p k m j ≤ j + m
  | 0, j => by unfold mtF; omega
  | m + 1, j => by
    have := mtF_r (U := U) (n := n) (p := p) (k := k) m (j + 1)
    unfold mtF; split <;> omega
theorem mt_r (U : Int → Int) (n p k : Int) : 0 ≤ mt U n p k ∧ mt U n p k ≤ wl k := by
  have := mtF_r (U := U) (n := n) (p := p) (k := k) (wl k).toNat 0
  have := wl_r k
  unfold mt; omega
theorem mtF_in {U : Int → Int} {n p k : Int} (hk : 0 ≤ k ∧ k ≤ 8) : ∀ (m : Nat) (j : Int), 0 ≤ j → j + m ≤ wl k → p + j ≤ n → p + mtF U n p k m j ≤ n
  | 0, j, _, _, h => h
  | m + 1, j, h0, h1, h => by
    by_cases he : nx U n (p + j) = wb k j
    · rw [mtF_y he]
      have := wb_r' hk h0 (by omega)
      have := nx_in he (by omega)
      exact mtF_in hk m (j + 1) (by omega) (by omega) (by omega)
    · rw [mtF_n he]; exact h
theorem mt_in {U : Int → Int} {n p k : Int} (hk : 0 ≤ k ∧ k ≤ 8) (h : p ≤ n) : p + mt U n p k ≤ n := by
  have := wl_r k
  exact mtF_in hk _ 0 (by omega) (by omega) (by omega)
/-! a clause from p on: whether it is one, its end (or the fault), word, number, E -/
abbrev hdOk (U : Int → Int) (n p : Int) : Prop := mt U n p (hdK U n p) = wl (hdK U n p) ∧ nx U n (p + wl (hdK U n p)) = 32
def hdE (U : Int → Int) (n p : Int) : Int := if hdOk U n p then p + wl (hdK U n p) + 1 else p + mt U n p (hdK U n p)
abbrev isE (k : Int) : Prop := k = 3 ∨ k = 7
def clN (U : Int → Int) (n p : Int) : Int := nbV U n 3 (hdE U n p) 0
def clM (U : Int → Int) (n p : Int) : Int := nbP U n 3 (hdE U n p)
noncomputable def clV (U : Int → Int) (n p : Int) : Bv := (exT U n (clM U n p + 1)).2.2.1
abbrev clOk (U : Int → Int) (n p : Int) : Prop := hdOk U n p ∧ (48 ≤ nx U n (hdE U n p) ∧ nx U n (hdE U n p) ≤ 57) ∧ (isE (hdK U n p) → nx U n (clM U n p) = 32 ∧ (exT U n (clM U n p + 1)).1 = 2)
noncomputable def clE (U : Int → Int) (n p : Int) : Int := if hdOk U n p then (if 48 ≤ nx U n (hdE U n p) ∧ nx U n (hdE U n p) ≤ 57 then (if isE (hdK U n p) then (if nx U n (clM U n p) = 32 then (exT U n (clM U n p + 1)).2.2.2 else clM U n p) else clM U n p) else hdE U n p) else hdE U n p
/-! where clause i begins; the whole text -/
noncomputable def cpos (U : Int → Int) (n : Int) : Nat → Int
  | 0 => 0
  | i + 1 => clE U n (cpos U n i) + 1
noncomputable def txF (U : Int → Int) (n : Int) : Nat → Nat → Int × Int
  | 0, _ => (0, 0)
  | m + 1, i => if clOk U n (cpos U n i) then (if clE U n (cpos U n i) = n then (1, (i : Int) + 1) else if i = 11 ∨ ¬ nx U n (clE U n (cpos U n i)) = 59 then (0, clE U n (cpos U n i)) else txF U n m (i + 1)) else (0, clE U n (cpos U n i))
