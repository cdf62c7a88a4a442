def o0 (r0 : Option Nat) (S : Nat → Int) : va_E := .inr (0, [va_rf r0, .int (iZ (S 1)), .int (iZ (S 2)), .int (iZ (S 3))])
def z0 : List Value := [.null, .int (iZ 0), .int (iZ 0), .int (iZ 0)]
theorem hz0 : ∀ j, j < 4 → defaultValue (ty0 j) = vp_V z0 j := by
  intro j hj
  exact match j, hj with
    | 0, _ => rfl
    | 1, _ => rfl
    | 2, _ => rfl
    | 3, _ => rfl
    | q + 4, h => absurd h (by omega)
def o1 (r0 r8 r9 : Option Nat) (S : Nat → Int) : va_E := .inr (1, [va_rf r0, .int (iZ (S 1)), .int (iZ (S 2)), .int (iZ (S 3)), .int (iZ (S 4)), .int (iZ (S 5)), .int (iZ (S 6)), .int (iZ (S 7)), va_rf r8, va_rf r9])
def z1 : List Value := [.null, .int (iZ 0), .int (iZ 0), .int (iZ 0), .int (iZ 0), .int (iZ 0), .int (iZ 0), .int (iZ 0), .null, .null]
theorem hz1 : ∀ j, j < 10 → defaultValue (ty1 j) = vp_V z1 j := by
  intro j hj
  exact match j, hj with
    | 0, _ => rfl
    | 1, _ => rfl
    | 2, _ => rfl
    | 3, _ => rfl
    | 4, _ => rfl
    | 5, _ => rfl
    | 6, _ => rfl
    | 7, _ => rfl
    | 8, _ => rfl
    | 9, _ => rfl
    | q + 10, h => absurd h (by omega)
def o2 (r0 r1 r14 : Option Nat) (S : Nat → Int) : va_E := .inr (2, [va_rf r0, va_rf r1, .int (iZ (S 2)), .int (iZ (S 3)), .int (iZ (S 4)), .int (iZ (S 5)), .int (iZ (S 6)), .int (iZ (S 7)), .int (iZ (S 8)), .int (iZ (S 9)), .int (iZ (S 10)), .int (iZ (S 11)), .int (iZ (S 12)), .int (iZ (S 13)), va_rf r14])
def z2 : List Value := [.null, .null, .int (iZ 0), .int (iZ 0), .int (iZ 0), .int (iZ 0), .int (iZ 0), .int (iZ 0), .int (iZ 0), .int (iZ 0), .int (iZ 0), .int (iZ 0), .int (iZ 0), .int (iZ 0), .null]
theorem hz2 : ∀ j, j < 15 → defaultValue (ty2 j) = vp_V z2 j := by
  intro j hj
  exact match j, hj with
    | 0, _ => rfl
    | 1, _ => rfl
    | 2, _ => rfl
    | 3, _ => rfl
    | 4, _ => rfl
    | 5, _ => rfl
    | 6, _ => rfl
    | 7, _ => rfl
    | 8, _ => rfl
    | 9, _ => rfl
    | 10, _ => rfl
    | 11, _ => rfl
    | 12, _ => rfl
    | 13, _ => rfl
    | 14, _ => rfl
    | q + 15, h => absurd h (by omega)
def o3 (r0 r3 : Option Nat) (S : Nat → Int) : va_E := .inr (3, [va_rf r0, .int (iZ (S 1)), .long (lZ (S 2)), va_rf r3])
def z3 : List Value := [.null, .int (iZ 0), .long (lZ 0), .null]
theorem hz3 : ∀ j, j < 4 → defaultValue (ty3 j) = vp_V z3 j := by
  intro j hj
  exact match j, hj with
    | 0, _ => rfl
    | 1, _ => rfl
    | 2, _ => rfl
    | 3, _ => rfl
    | q + 4, h => absurd h (by omega)
def o4 (r3 : Option Nat) (S : Nat → Int) : va_E := .inr (4, [.int (iZ (S 0)), .int (iZ (S 1)), .int (iZ (S 2)), va_rf r3, .int (iZ (S 4))])
def z4 : List Value := [.int (iZ 0), .int (iZ 0), .int (iZ 0), .null, .int (iZ 0)]
theorem hz4 : ∀ j, j < 5 → defaultValue (ty4 j) = vp_V z4 j := by
  intro j hj
  exact match j, hj with
    | 0, _ => rfl
    | 1, _ => rfl
    | 2, _ => rfl
    | 3, _ => rfl
    | 4, _ => rfl
    | q + 5, h => absurd h (by omega)
def o5 (r0 r4 r5 r6 : Option Nat) (S : Nat → Int) : va_E := .inr (5, [va_rf r0, .int (iZ (S 1)), .int (iZ (S 2)), .int (iZ (S 3)), va_rf r4, va_rf r5, va_rf r6, .int (iZ (S 7))])
def z5 : List Value := [.null, .int (iZ 0), .int (iZ 0), .int (iZ 0), .null, .null, .null, .int (iZ 0)]
theorem hz5 : ∀ j, j < 8 → defaultValue (ty5 j) = vp_V z5 j := by
  intro j hj
  exact match j, hj with
    | 0, _ => rfl
    | 1, _ => rfl
    | 2, _ => rfl
    | 3, _ => rfl
    | 4, _ => rfl
    | 5, _ => rfl
    | 6, _ => rfl
    | 7, _ => rfl
    | q + 8, h => absurd h (by omega)
def o6 (r2 : Option Nat) (S : Nat → Int) : va_E := .inr (6, [.int (iZ (S 0)), .int (iZ (S 1)), va_rf r2])
def z6 : List Value := [.int (iZ 0), .int (iZ 0), .null]
theorem hz6 : ∀ j, j < 3 → defaultValue (ty6 j) = vp_V z6 j := by
  intro j hj
  exact match j, hj with
    | 0, _ => rfl
    | 1, _ => rfl
    | 2, _ => rfl
    | q + 3, h => absurd h (by omega)
def o7 (r0 r2 : Option Nat) (S : Nat → Int) : va_E := .inr (7, [va_rf r0, .int (iZ (S 1)), va_rf r2, .int (iZ (S 3)), .int (iZ (S 4)), .int (iZ (S 5)), .int (iZ (S 6))])
def z7 : List Value := [.null, .int (iZ 0), .null, .int (iZ 0), .int (iZ 0), .int (iZ 0), .int (iZ 0)]
theorem hz7 : ∀ j, j < 7 → defaultValue (ty7 j) = vp_V z7 j := by
  intro j hj
  exact match j, hj with
    | 0, _ => rfl
    | 1, _ => rfl
    | 2, _ => rfl
    | 3, _ => rfl
    | 4, _ => rfl
    | 5, _ => rfl
    | 6, _ => rfl
    | q + 7, h => absurd h (by omega)
def o8 (r0 : Option Nat) (S : Nat → Int) : va_E := .inr (8, [va_rf r0, .int (iZ (S 1))])
def z8 : List Value := [.null, .int (iZ 0)]
theorem hz8 : ∀ j, j < 2 → defaultValue (ty8 j) = vp_V z8 j := by
  intro j hj
  exact match j, hj with
    | 0, _ => rfl
    | 1, _ => rfl
    | q + 2, h => absurd h (by omega)
def o9 (r0 r2 r4 r6 r7 r9 r10 r11 r12 r13 r14 : Option Nat) (S : Nat → Int) : va_E := .inr (9, [va_rf r0, .int (iZ (S 1)), va_rf r2, .int (iZ (S 3)), va_rf r4, .int (iZ (S 5)), va_rf r6, va_rf r7, .int (iZ (S 8)), va_rf r9, va_rf r10, va_rf r11, va_rf r12, va_rf r13, va_rf r14])
def z9 : List Value := [.null, .int (iZ 0), .null, .int (iZ 0), .null, .int (iZ 0), .null, .null, .int (iZ 0), .null, .null, .null, .null, .null, .null]
theorem hz9 : ∀ j, j < 15 → defaultValue (ty9 j) = vp_V z9 j := by
  intro j hj
  exact match j, hj with
    | 0, _ => rfl
    | 1, _ => rfl
    | 2, _ => rfl
    | 3, _ => rfl
    | 4, _ => rfl
    | 5, _ => rfl
    | 6, _ => rfl
    | 7, _ => rfl
    | 8, _ => rfl
    | 9, _ => rfl
    | 10, _ => rfl
    | 11, _ => rfl
    | 12, _ => rfl
    | 13, _ => rfl
    | 14, _ => rfl
    | q + 15, h => absurd h (by omega)
def o10 (r5 r6 r7 r8 r9 r10 r11 r12 r13 r14 r15 r19 r22 r24 r25 r26 r27 r32 r33 r39 r40 r47 r49 r50 r51 r52 r58 r59 r60 r61 r63 r64 r65 r66 r67 : Option Nat) (S : Nat → Int) : va_E := .inr (10, [.int (iZ (S 0)), .int (iZ (S 1)), .int (iZ (S 2)), .int (iZ (S 3)), .int (iZ (S 4)), va_rf r5, va_rf r6, va_rf r7, va_rf r8, va_rf r9, va_rf r10, va_rf r11, va_rf r12, va_rf r13, va_rf r14, va_rf r15, .int (iZ (S 16)), .int (iZ (S 17)), .int (iZ (S 18)), va_rf r19, .int (iZ (S 20)), .int (iZ (S 21)), va_rf r22, .int (iZ (S 23)), va_rf r24, va_rf r25, va_rf r26, va_rf r27, .int (iZ (S 28)), .int (iZ (S 29)), .int (iZ (S 30)), .int (iZ (S 31)), va_rf r32, va_rf r33, .int (iZ (S 34)), .int (iZ (S 35)), .int (iZ (S 36)), .int (iZ (S 37)), .int (iZ (S 38)), va_rf r39, va_rf r40, .int (iZ (S 41)), .int (iZ (S 42)), .int (iZ (S 43)), .int (iZ (S 44)), .int (iZ (S 45)), .int (iZ (S 46)), va_rf r47, .int (iZ (S 48)), va_rf r49, va_rf r50, va_rf r51, va_rf r52, .int (iZ (S 53)), .int (iZ (S 54)), .int (iZ (S 55)), .int (iZ (S 56)), .int (iZ (S 57)), va_rf r58, va_rf r59, va_rf r60, va_rf r61, .int (iZ (S 62)), va_rf r63, va_rf r64, va_rf r65, va_rf r66, va_rf r67])
def z10 : List Value := [.int (iZ 0), .int (iZ 0), .int (iZ 0), .int (iZ 0), .int (iZ 0), .null, .null, .null, .null, .null, .null, .null, .null, .null, .null, .null, .int (iZ 0), .int (iZ 0), .int (iZ 0), .null, .int (iZ 0), .int (iZ 0), .null, .int (iZ 0), .null, .null, .null, .null, .int (iZ 0), .int (iZ 0), .int (iZ 0), .int (iZ 0), .null, .null, .int (iZ 0), .int (iZ 0), .int (iZ 0), .int (iZ 0), .int (iZ 0), .null, .null, .int (iZ 0), .int (iZ 0), .int (iZ 0), .int (iZ 0), .int (iZ 0), .int (iZ 0), .null, .int (iZ 0), .null, .null, .null, .null, .int (iZ 0), .int (iZ 0), .int (iZ 0), .int (iZ 0), .int (iZ 0), .null, .null, .null, .null, .int (iZ 0), .null, .null, .null, .null, .null]
theorem hz10 : ∀ j, j < 68 → defaultValue (ty10 j) = vp_V z10 j := by
  intro j hj
  exact match j, hj with
    | 0, _ => rfl
    | 1, _ => rfl
    | 2, _ => rfl
    | 3, _ => rfl
    | 4, _ => rfl
    | 5, _ => rfl
    | 6, _ => rfl
    | 7, _ => rfl
    | 8, _ => rfl
    | 9, _ => rfl
    | 10, _ => rfl
    | 11, _ => rfl
    | 12, _ => rfl
    | 13, _ => rfl
    | 14, _ => rfl
    | 15, _ => rfl
    | 16, _ => rfl
    | 17, _ => rfl
    | 18, _ => rfl
    | 19, _ => rfl
    | 20, _ => rfl
    | 21, _ => rfl
    | 22, _ => rfl
    | 23, _ => rfl
    | 24, _ => rfl
    | 25, _ => rfl
    | 26, _ => rfl
    | 27, _ => rfl
    | 28, _ => rfl
    | 29, _ => rfl
    | 30, _ => rfl
    | 31, _ => rfl
    | 32, _ => rfl
    | 33, _ => rfl
    | 34, _ => rfl
    | 35, _ => rfl
    | 36, _ => rfl
    | 37, _ => rfl
    | 38, _ => rfl
    | 39, _ => rfl
    | 40, _ => rfl
    | 41, _ => rfl
    | 42, _ => rfl
    | 43, _ => rfl
    | 44, _ => rfl
    | 45, _ => rfl
    | 46, _ => rfl
    | 47, _ => rfl
    | 48, _ => rfl
    | 49, _ => rfl
    | 50, _ => rfl
    | 51, _ => rfl
    | 52, _ => rfl
    | 53, _ => rfl
    | 54, _ => rfl
    | 55, _ => rfl
    | 56, _ => rfl
    | 57, _ => rfl
    | 58, _ => rfl
    | 59, _ => rfl
    | 60, _ => rfl
    | 61, _ => rfl
    | 62, _ => rfl
    | 63, _ => rfl
    | 64, _ => rfl
    | 65, _ => rfl
    | 66, _ => rfl
    | 67, _ => rfl
    | q + 68, h => absurd h (by omega)
theorem j_lookup {E : En} {nL : Nat} {Γ : Ctx} {cc : ByteArray} {own : String} {rm : Room} {md : Option (Nat → Prop)} {k n : Nat} {ws : va_W} {pc : Nat} {ls : List (Nat × Value)} {st : List Value} (G : Gd E nL Γ cc own rm) {dflt : Int} {ps : Array (Int × Int)} {len : Nat} {a off : Int} {tgt : Nat} (d : decode cc pc = .ok (.lookupswitch dflt ps, len)) (ha : R32 a) (hp : (ps.toList.zip (ps.toList.drop 1)).all (fun (a, next) => a.1 < next.1) = true) (ho : Op.lookupswitch.offset ps.toList dflt a = off) (ht : (pc : Int) + off = (tgt : Int)) (kk : J E nL Γ md k n ws tgt ls st) : J E nL Γ md k n ws pc ls (.int (iZ a) :: st) := fun H locs hP hD hS L hL => lv_lookup G.1 G.2.1 d hp (by rw [iZ_toInt ha]; exact ho) ht (kk H locs hP hD hS L hL)
theorem aInt_ext {E : En} {N : Nat} {g g' : Int → Int} {D : va_G} {cl : List vw_C} {a : Nat} {H : Heap} (h : ∀ j : Int, 0 ≤ j → j < N → g j = g' j) (hv : va_at D cl (a, aInt E N g) H) : va_at D cl (a, aInt E N g') H := by
  have e : vp_cell (eC E 0) (N, .inl (fun j : Nat => iZ (g (j : Int)))) = vp_cell (eC E 0) (N, .inl (fun j : Nat => iZ (g' (j : Int)))) := by
    rw [vp_cell_i, vp_cell_i]
    unfold arrV
    congr 1
    apply Array.ext
    · simp
    · intro i h1 h2
      simp at h1
      simp [h i (by omega) (by omega)]
  show H[a]? = some (vp_cell (eC E 0) (N, .inl (fun j : Nat => iZ (g' (j : Int)))))
  rw [← e]
  exact hv
theorem aLng_ext {E : En} {N : Nat} {g g' : Int → Int} {D : va_G} {cl : List vw_C} {a : Nat} {H : Heap} (h : ∀ j : Int, 0 ≤ j → j < N → g j = g' j) (hv : va_at D cl (a, aLng E N g) H) : va_at D cl (a, aLng E N g') H := by
  have e : vp_cell (eC E 1) (N, .inr (.inl (fun j : Nat => lZ (g (j : Int))))) = vp_cell (eC E 1) (N, .inr (.inl (fun j : Nat => lZ (g' (j : Int))))) := by
    rw [vp_cell_l, vp_cell_l]
    unfold arrV
    congr 1
    apply Array.ext
    · simp
    · intro i h1 h2
      simp at h1
      simp [h i (by omega) (by omega)]
  show H[a]? = some (vp_cell (eC E 1) (N, .inr (.inl (fun j : Nat => lZ (g' (j : Int))))))
  rw [← e]
  exact hv
theorem j_ext {E : En} {nL : Nat} {Γ : Ctx} {md : Option (Nat → Prop)} {k n : Nat} {ws : va_W} {pc : Nat} {ls : List (Nat × Value)} {st : List Value} (q : Nat) {a : Nat} {e e' : va_E} (he : ws[q]? = some (a, e)) (h : ∀ H, va_at (eD E) vwCl (a, e) H → va_at (eD E) vwCl (a, e') H) (kk : J E nL Γ md k n (ws.set q (a, e')) pc ls st) : J E nL Γ md k n ws pc ls st := by
  intro H locs hP hD hS L hL
  have hl := (List.getElem?_eq_some_iff.mp he).1
  refine kk H locs ?_ ?_ hS L hL
  · intro i x hx
    by_cases hi : i = q
    · subst hi
      rw [List.getElem?_set_self hl] at hx
      cases hx
      exact h H (hP i _ he)
    · rw [List.getElem?_set_ne (Ne.symm hi)] at hx
      exact hP i x hx
  · cases md with
    | none => trivial
    | some A => exact va_D.set hD he
theorem j_perm {E : En} {nL : Nat} {Γ : Ctx} {md : Option (Nat → Prop)} {k n : Nat} {ws ws' : va_W} {pc : Nat} {ls : List (Nat × Value)} {st : List Value} (is : List Nat) (h1 : is.map (fun i => ws[i]?) = ws'.map some) (h2 : va_nd is = true) (h3 : is.filterMap (fun i => ws[i]?) = ws') (kk : J E nL Γ md k n ws' pc ls st) : J E nL Γ md k n ws pc ls st := fun H locs hP hD hS L hL => kk H locs (hP.sub is h3) (by
  cases md with
  | none => trivial
  | some A => exact hD.sub is h2 h1) hS L hL
def mO (ad : Nat → Nat) (S : Nat → Int) : va_E := o10 (some (ad 5)) (some (ad 6)) (some (ad 7)) (some (ad 8)) (some (ad 9)) (some (ad 10)) (some (ad 11)) (some (ad 12)) (some (ad 13)) (some (ad 14)) (some (ad 15)) (some (ad 19)) (some (ad 22)) (some (ad 24)) (some (ad 25)) (some (ad 26)) (some (ad 27)) (some (ad 32)) (some (ad 33)) (some (ad 39)) (some (ad 40)) (some (ad 47)) (some (ad 49)) (some (ad 50)) (some (ad 51)) (some (ad 52)) (some (ad 58)) (some (ad 59)) (some (ad 60)) (some (ad 61)) (some (ad 63)) (some (ad 64)) (some (ad 65)) (some (ad 66)) (some (ad 67)) S
def xO (xa : Nat → Nat) (S : Nat → Int) : va_E := o9 (some (xa 0)) (some (xa 2)) (some (xa 4)) (some (xa 6)) (some (xa 7)) (some (xa 9)) (some (xa 10)) (some (xa 11)) (some (xa 12)) (some (xa 13)) (some (xa 14)) S
