/-! THE CLAIM OUT OF ONE WALK OF THE LAW'S BODY. Your part is whole_start (and what it stands on); all else here is the same for every law, but numbers. -/
def R_law : String := "CliffCarsLaw"
def lw_P (b : Addr) (xs : List Int32) (args : Array Value) (s : State) : Prop := args = #[.ref b] ∧ s.IntsAt b xs ∧ xs.length ≤ 3072 ∧ (Jvm.Cond.and given_1 narrow_1).before args s = true
def lw_Q (_ : Array Value) (s : State) (o : Outcome) (t : State) : Prop := o = .returned (some (.int 1)) ∧ Framed s o t [] 600000 7302250
def lw_Z (below : List Frame) (a : Array Value) (s : State) : State → Prop := fun t => ∃ o, t.status = .running ∧ Ended t below o ∧ lw_Q a s o t
/-- the law's own end, with 1 on the stack, nothing written that was there before, its room as the claim has it -/
theorem lw_ret {p : Program} {l : Launch} {e : Env} {s : State} {m : MethodId} {below : List Frame} {meth : Method} {c : Code} {b : Nat} (hx : p.tables.exec = Jvm.exec) (hb : c.code = code) (hr : meth.sig.returnType = ret) (hlocks : meth.locks = false) {pc : Nat} {H : Heap} {ls : Array Slot} (hdg : decode code pc = .ok (.ireturn, 1)) : W p l e room_1 s m #[Value.ref b] below meth c H [] 600000 7302250 (lw_Z below #[Value.ref b] s) (F0 m pc ls [.int 1]) := by
  intro T hT X
  obtain ⟨fs, hret, hrun, hended, hW, hframe⟩ := X.leave (v := some (.int 1)) (hlocks := hlocks) (fun h => by rw [hr] at h; cases h)
  have hmeth' : T.vm.method? m = some meth := X.method'
  refine ⟨T.setFrames fs, ?_, .returned (some (.int 1)), hrun, hended, rfl, ⟨_, rfl⟩, hW, hframe⟩
  jvm_step X.here [X.here.top, hx, hb, hdg, hmeth', hr, ret, narrow_b1]
  (try refine ⟨rfl, ?_⟩); (try refine ⟨rfl, ?_⟩)
  first | (intro acts; rw [hret _ acts rfl rfl rfl]) | rw [hret _ _ rfl rfl rfl]
  exact Steps.refl _
/-- what holds at the law's entry: the machine, the code, the tables' words (any of lw_tbl by 'hts w (by decide +kernel)'), the script of L ints xs at the cell b, what the Statement gives of the start (any of its parts by flat_of_before) -/
def lw_At (p : Program) (s : State) (m : MethodId) (meth : Method) (c : Code) (b L : Nat) (xs : Nat → Int32) : Prop :=
  p.tables.exec = Jvm.exec ∧ c.code = code ∧ meth.sig.returnType = ret ∧ c.maxLocals = 4 ∧ s.vm.findClass R_law = some m.cls ∧ (∀ w ∈ lw_tbl, w.before #[Value.ref b] s = true) ∧ va_X b L xs s s.heap ∧ b < s.heap.size ∧ meth.locks = false ∧ (Jvm.Cond.and given_1 narrow_1).before #[Value.ref b] s = true
theorem fT_0 {E : En} {qa qi : Nat → Nat} {t : Nat} : fT E qa qi (fun _ => -1) (fun _ => 0) (fun _ => 0) t = [(qa t, o6 (some (qi t)) (upS (fun _ => 0) 0 (-1))), (qi t, aLng E 60 (fun _ => 0))] := by
  have e : tI (fun _ => 0) t = fun _ => 0 := by
    funext j
    unfold tI
    split <;> rfl
  unfold fT
  rw [e, o6_e (S := tU (fun _ => -1) (fun _ => 0) t) (S' := upS (fun _ => 0) 0 (-1)) rfl rfl]
theorem good_0 {E : En} {xo mo b33 : Nat} {xa ad qa qi : Nat → Nat} {tk0 : Nat → Option Nat} {L : va_W} (h : L = ([(xo, o9 (some (xa 0)) (some (xa 2)) (some (xa 4)) (some (xa 6)) (some (xa 7)) (some (xa 9)) (some (xa 10)) (some (xa 11)) (some (xa 12)) (some (xa 13)) (some (xa 14)) (fun _ => 0)), (xa 0, aInt E 100 (fun _ => 0)), (xa 2, aRef E 3 4 (fun _ => none)), (xa 4, aRef E 4 12 (fun _ => none)), (xa 6, o5 (some (xa 20)) (some (xa 21)) (some (xa 22)) (some (xa 23)) (upS (fun _ => 0) 3 (-5))), (xa 20, aInt E 24 (fun _ => 0)), (xa 21, aInt E 4 (fun _ => 0)), (xa 22, aInt E 4 (fun _ => 0)), (xa 23, aInt E 4 (fun _ => 0)), (xa 7, o5 (some (xa 24)) (some (xa 25)) (some (xa 26)) (some (xa 27)) (upS (fun _ => 0) 3 (-5))), (xa 24, aInt E 24 (fun _ => 0)), (xa 25, aInt E 4 (fun _ => 0)), (xa 26, aInt E 4 (fun _ => 0)), (xa 27, aInt E 4 (fun _ => 0)), (xa 9, aRef E 5 6 tk0), (xa 10, o8 (some (xa 28)) (fun _ => 0)), (xa 28, aInt E 20 (fun _ => 0)), (xa 11, o4 (some (xa 29)) (upS (upS (upS (fun _ => 0) 0 4) 1 0) 2 0)), (xa 29, aInt E 0 (fun _ => 0)), (xa 12, o7 (some b33) (some (xa 30)) (fun _ => 0)), (xa 30, aInt E 24 (fun _ => 0)), (xa 13, o3 (some (xa 12)) (some (xa 31)) (fun _ => 0)), (xa 31, aLng E 39852 (fun _ => 0)), (xa 14, o2 (some (xa 12)) (some (xa 13)) (some (xa 32)) (fun _ => 0)), (xa 32, aInt E 12 (fun _ => 0))] ++ [(qa 0, o6 (some (qi 0)) (upS (fun _ => 0) 0 (-1))), (qi 0, aLng E 60 (fun _ => 0)), (qa 1, o6 (some (qi 1)) (upS (fun _ => 0) 0 (-1))), (qi 1, aLng E 60 (fun _ => 0)), (qa 2, o6 (some (qi 2)) (upS (fun _ => 0) 0 (-1))), (qi 2, aLng E 60 (fun _ => 0)), (qa 3, o6 (some (qi 3)) (upS (fun _ => 0) 0 (-1))), (qi 3, aLng E 60 (fun _ => 0)), (qa 4, o6 (some (qi 4)) (upS (fun _ => 0) 0 (-1))), (qi 4, aLng E 60 (fun _ => 0)), (qa 5, o6 (some (qi 5)) (upS (fun _ => 0) 0 (-1))), (qi 5, aLng E 60 (fun _ => 0))]) ++ [(mo, o10 (some (ad 5)) (some (ad 6)) (some (ad 7)) (some (ad 8)) (some (ad 9)) (some (ad 10)) (some (ad 11)) (some (ad 12)) (some (ad 13)) (some (ad 14)) (some (ad 15)) (some (ad 19)) (some (ad 22)) (some (ad 24)) (some (ad 25)) (some (ad 26)) (some (ad 27)) (some (ad 32)) (some (ad 33)) (some (ad 39)) (some (ad 40)) (some (ad 47)) (some (ad 49)) (some (ad 50)) (some (ad 51)) (some (ad 52)) (some (ad 58)) (some (ad 59)) (some (ad 60)) (some (ad 61)) (some (ad 63)) (some (ad 64)) (some (ad 65)) (some (ad 66)) (some (ad 67)) S0M), (ad 5, aInt E 100 (fun _ => 0)), (ad 6, aInt E 4 (fun _ => 0)), (ad 7, aInt E 48 (fun _ => 0)), (ad 8, aInt E 48 (fun _ => 0)), (ad 9, aInt E 48 (fun _ => 0)), (ad 10, aInt E 48 (fun _ => 0)), (ad 11, aInt E 36 (fun _ => 0)), (ad 12, aInt E 4 (fun _ => 0)), (ad 13, aInt E 20 (fun _ => 0)), (ad 14, aInt E 400 (fun _ => 0)), (ad 15, aInt E 101 (fun _ => 0)), (ad 19, aBoo E 100 (fun _ => 0)), (ad 22, aInt E 24 (fun _ => 0)), (ad 24, aInt E 12 (fun _ => 0)), (ad 25, aInt E 12 (fun _ => 0)), (ad 26, aInt E 12 (fun _ => 0)), (ad 27, aInt E 144 (fun _ => 0)), (ad 32, aInt E 12 (fun _ => 0)), (ad 33, aInt E 588 (fun _ => 0)), (ad 39, aBoo E 43173 (fun _ => 0)), (ad 40, aInt E 43173 (fun _ => 0)), (ad 47, aInt E 12 (fun _ => 0)), (ad 49, aInt E 4 (fun _ => 0)), (ad 50, aInt E 4 (fun _ => 0)), (ad 51, aInt E 4 (fun _ => 0)), (ad 52, aInt E 4 (fun _ => 0)), (ad 58, aInt E 24 (fun _ => 0)), (ad 59, aInt E 4 (fun _ => 0)), (ad 60, aInt E 4 (fun _ => 0)), (ad 61, aInt E 4 (fun _ => 0)), (ad 63, aInt E 20 (fun _ => 0)), (ad 64, aInt E 6 (fun _ => -1)), (ad 65, aInt E 6 (fun _ => 0)), (ad 66, aLng E 360 (fun _ => 0)), (ad 67, aLng E 60 (fun _ => 0))]) : Good E xo mo xa ad qa qi tk0 ((upS (upS (upS (fun _ => 0) 0 4) 1 0) 2 0)) ((fun _ => 0)) 0 L := by
  subst h
  refine ⟨(fun _ => 0), (upS (fun _ => 0) 3 (-5)), (upS (fun _ => 0) 3 (-5)), (fun _ => 0), (fun _ => 0), (fun _ => 0), (fun _ => 0), (some b33), (fun _ => 0), (fun _ => 0), (fun _ => 0), (fun _ => 0), (fun _ => none), (fun _ => none), (fun _ => 0), (fun _ => 0), (fun _ => 0), (fun _ => 0), (fun _ => 0), (fun _ => 0), (fun _ => 0), (fun _ => 0), (fun _ => 0), S0M, (fun _ => 0), (fun _ => 0), (fun _ => 0), (fun _ => 0), (fun _ => 0), (fun _ => 0), (fun _ => 0), (fun _ => 0), (fun _ => 0), (fun _ => 0), (fun _ => 0), (fun _ => 0), (fun _ => 0), (fun _ => 0), (fun _ => 0), (fun _ => 0), (fun _ => 0), (fun _ => 0), (fun _ => 0), (fun _ => 0), (fun _ => 0), (fun _ => 0), (fun _ => -1), (fun _ => 0), (fun _ => 0), (fun _ => 0), (fun _ => 0), (fun _ => 0), (fun _ => 0), (fun _ => 0), (fun _ => 0), (fun _ => 0), (fun _ _ => 0), (fun _ _ => 0), 0, 0, (fun _ _ _ => 0), ?_, ?_, ?_, ?_, ?_, ?_, ?_, ?_, ?_, ?_, ?_⟩
  · have e : fam 6 (fT E qa qi (fun _ => -1) (fun _ => 0) (fun _ => 0)) = [(qa 0, o6 (some (qi 0)) (upS (fun _ => 0) 0 (-1))), (qi 0, aLng E 60 (fun _ => 0)), (qa 1, o6 (some (qi 1)) (upS (fun _ => 0) 0 (-1))), (qi 1, aLng E 60 (fun _ => 0)), (qa 2, o6 (some (qi 2)) (upS (fun _ => 0) 0 (-1))), (qi 2, aLng E 60 (fun _ => 0)), (qa 3, o6 (some (qi 3)) (upS (fun _ => 0) 0 (-1))), (qi 3, aLng E 60 (fun _ => 0)), (qa 4, o6 (some (qi 4)) (upS (fun _ => 0) 0 (-1))), (qi 4, aLng E 60 (fun _ => 0)), (qa 5, o6 (some (qi 5)) (upS (fun _ => 0) 0 (-1))), (qi 5, aLng E 60 (fun _ => 0))] := by
      show (fT E qa qi (fun _ => -1) (fun _ => 0) (fun _ => 0) 0 ++ (fT E qa qi (fun _ => -1) (fun _ => 0) (fun _ => 0) 1 ++ (fT E qa qi (fun _ => -1) (fun _ => 0) (fun _ => 0) 2 ++ (fT E qa qi (fun _ => -1) (fun _ => 0) (fun _ => 0) 3 ++ (fT E qa qi (fun _ => -1) (fun _ => 0) (fun _ => 0) 4 ++ (fT E qa qi (fun _ => -1) (fun _ => 0) (fun _ => 0) 5 ++ [])))))) = _
      rw [fT_0, fT_0, fT_0, fT_0, fT_0, fT_0]
      rfl
    unfold WF
    rw [e, List.append_assoc]
    refine (List.Perm.append_left _ List.perm_append_comm).trans ?_
    rw [← List.append_assoc]
    exact List.Perm.refl _
  · unfold IvS
    refine ⟨?_, ?_, ?_, ?_, ?_, ?_, ?_, ?_, ?_, ?_, ?_, ?_, ?_, ?_, ?_, ?_, ?_, ?_, ?_, ?_, ?_, ?_, ?_, ?_, ?_, ?_, ?_, ?_⟩ <;> simp [S0M, upS]
  · exact ⟨⟨by decide, fun j _ _ => (by show (0 : Int) ≤ 0 ∧ (0 : Int) / 1048576 ≤ 0; decide)⟩, by decide⟩
  · exact fun j _ _ => (by show (0 : Int) = 0 % 256 ∧ -128 ≤ (0 : Int) ∧ (0 : Int) ≤ 127; decide)
  · exact fun t ht => absurd ht (by omega)
  · exact ⟨fun j _ _ => (by show -200 ≤ (0 : Int) ∧ (0 : Int) ≤ 20000; decide), fun j _ _ => (by show 0 ≤ (0 : Int) ∧ (0 : Int) ≤ 200; decide), fun j _ _ => (by show 0 ≤ (0 : Int) ∧ (0 : Int) ≤ 40; decide), fun j _ _ => rfl⟩
  · exact ⟨fun j _ _ => (by show 0 ≤ (0 : Int) ∧ (0 : Int) ≤ 1; decide), fun j _ _ => (by show 0 ≤ (0 : Int) ∧ (0 : Int) ≤ 1; decide)⟩
  · exact ⟨fun t ht => absurd ht (by omega), fun j _ _ => (by show (0 ≤ (0 : Int) ∧ (0 : Int) ≤ 6) ∧ (0 ≤ (0 : Int) ∧ (0 : Int) ≤ 20) ∧ (0 ≤ (0 : Int) ∧ (0 : Int) ≤ 12) ∧ (¬ (0 : Int) = 6 → (0 : Int) = 0); decide), fun j _ _ => (by show 0 ≤ (0 : Int) ∧ (0 : Int) ≤ 1; decide), fun j _ _ => rfl⟩
  · exact ⟨fun j _ _ => (by show (-1 ≤ (-1 : Int) ∧ (-1 : Int) ≤ 4) ∧ (0 ≤ (0 : Int) ∧ (0 : Int) ≤ 60) ∧ ((-1 : Int) < 0 → (0 : Int) = 0); decide), fun j _ _ => (by show R64 0; decide), fun t j _ _ _ _ _ => (by show R32 0; decide)⟩
  · exact ⟨fun j _ _ => (by show 0 ≤ (0 : Int) ∧ (0 : Int) ≤ 6; decide), fun j h1 h2 => absurd h2 (by show ¬ j < 0; omega)⟩
  · exact ⟨fun j _ _ => (by show 0 ≤ (0 : Int) ∧ (0 : Int) ≤ 6; decide), fun j h1 h2 => absurd h2 (by show ¬ j < 0; omega)⟩
set_option maxHeartbeats 4000000 in
set_option maxRecDepth 100000 in
theorem law_start {E : En} {Γ : Ctx} {A : Nat → Prop} {z0 Ls : Nat} {xs0 : Nat → Int32} (G : Gd E 4 Γ code "CliffCarsLaw" room_1) (hX : va_X z0 Ls xs0 (xs Γ) (xs Γ).heap) (hb : z0 < (xs Γ).heap.size) (hA0 : ¬ A z0) (hLs : Ls ≤ 3072) (hend : ∀ (k n : Nat) (ws : va_W) (ls : List (Nat × Value)), k ≤ 600000 → n ≤ 7302250 → J E 4 Γ (some A) k n ws 1260 ls []) : J E 4 Γ (some A) 0 0 [] 0 [(0, .ref z0)] [] := by
  refine j_new G 9 (fs := z9) in9 tyok9 clL_7 is9 ini9 rfl hz9 ⟨Nat.le_of_ble_eq_true rfl, Nat.le_of_ble_eq_true rfl⟩ dL_0 (fun xo => ?_)
  refine j_dup G dL_3 rfl ?_
  refine j_IMr (rest := [.ref xo]) (wr := []) (w0 := []) G (List.Perm.refl _) (k9_init (xl Γ) E xo) mw9_init mlL_9 ⟨Nat.le_of_ble_eq_true rfl, Nat.le_of_ble_eq_true rfl⟩ rfl rfl (Nat.le_of_ble_eq_true rfl) dL_4 ⟨Nat.le_of_ble_eq_true rfl, Nat.le_of_ble_eq_true rfl⟩ (fun r wX hr => ?_)
  obtain ⟨b0, b2, b4, b6, b7, b9, b10, b11, b12, b13, b14, b20, b21, b22, b23, b24, b25, b26, b27, b28, b29, b30, b31, b32, b33, q0, i0, q1, i1, q2, i2, q3, i3, q4, i4, q5, i5, tk0, rfl, rfl, htk⟩ := hr
  refine j_astore_n G dL_7 (by decide) rfl ?_
  refine j_new G 10 (fs := z10) in10 tyok10 clL_10 is10 ini10 rfl hz10 ⟨Nat.le_of_ble_eq_true rfl, Nat.le_of_ble_eq_true rfl⟩ dL_8 (fun mo => ?_)
  refine j_dup G dL_11 rfl ?_
  refine j_IMr (rest := [.ref mo]) (w0 := []) G (List.perm_append_comm) (k10_init (xl Γ) E mo) mw10_init mlL_12 ⟨Nat.le_of_ble_eq_true rfl, Nat.le_of_ble_eq_true rfl⟩ rfl rfl (Nat.le_of_ble_eq_true rfl) dL_12 ⟨Nat.le_of_ble_eq_true rfl, Nat.le_of_ble_eq_true rfl⟩ (fun r wX hr => ?_)
  obtain ⟨a5, a6, a7, a8, a9, a10, a11, a12, a13, a14, a15, a19, a22, a24, a25, a26, a27, a32, a33, a39, a40, a47, a49, a50, a51, a52, a58, a59, a60, a61, a63, a64, a65, a66, a67, rfl, rfl, -⟩ := hr
  refine j_astore_n G dL_15 (by decide) rfl ?_
  refine j_iconst G dL_16 ?_
  refine j_istore_n G dL_17 (by decide) rfl ?_
  refine j_locs (ls' := lsL 0 z0 xo mo) [3, 2, 1, 0] rfl ?_
  refine j_widen (k' := 100) (n' := 160000) ⟨Nat.le_of_ble_eq_true rfl, Nat.le_of_ble_eq_true rfl⟩ ?_
  refine law_loop (xo := xo) (mo := mo) (xa := (fun k => match k with | 0 => b0 | 2 => b2 | 4 => b4 | 6 => b6 | 7 => b7 | 9 => b9 | 10 => b10 | 11 => b11 | 12 => b12 | 13 => b13 | 14 => b14 | 20 => b20 | 21 => b21 | 22 => b22 | 23 => b23 | 24 => b24 | 25 => b25 | 26 => b26 | 27 => b27 | 28 => b28 | 29 => b29 | 30 => b30 | 31 => b31 | 32 => b32 | 33 => b33 | _ => 0)) (ad := (fun k => match k with | 5 => a5 | 6 => a6 | 7 => a7 | 8 => a8 | 9 => a9 | 10 => a10 | 11 => a11 | 12 => a12 | 13 => a13 | 14 => a14 | 15 => a15 | 19 => a19 | 22 => a22 | 24 => a24 | 25 => a25 | 26 => a26 | 27 => a27 | 32 => a32 | 33 => a33 | 39 => a39 | 40 => a40 | 47 => a47 | 49 => a49 | 50 => a50 | 51 => a51 | 52 => a52 | 58 => a58 | 59 => a59 | 60 => a60 | 61 => a61 | 63 => a63 | 64 => a64 | 65 => a65 | 66 => a66 | 67 => a67 | _ => 0)) (qa := (fun k => match k with | 0 => q0 | 1 => q1 | 2 => q2 | 3 => q3 | 4 => q4 | 5 => q5 | _ => 0)) (qi := (fun k => match k with | 0 => i0 | 1 => i1 | 2 => i2 | 3 => i3 | 4 => i4 | 5 => i5 | _ => 0)) (tk := tk0) (B := (upS (upS (upS (fun _ => 0) 0 4) 1 0) 2 0)) (bw := fun _ => 0) G hX hb hA0 hLs ?_ ⟨rfl, rfl, rfl⟩ hend 513 0 100 160000 0 _ rfl rfl rfl rfl (good_0 (b33 := b33) rfl)
  intro t ht
  rw [htk]
  exact match t, ht with
    | 0, _ => rfl
    | 1, _ => rfl
    | 2, _ => rfl
    | 3, _ => rfl
    | 4, _ => rfl
    | 5, _ => rfl
    | k + 6, h => absurd h (by omega)
/-- from the entry to the end -/
theorem whole_start {p : Program} {e : Env} {s : State} {m : MethodId} {below : List Frame} {meth : Method} {c : Code} (l : Launch) (hflags : l.flags = flags0) {b L : Nat} {xs : Nat → Int32} (hL : L ≤ 3072) (C0 : lw_At p s m meth c b L xs) : W p l e room_1 s m #[Value.ref b] below meth c s.heap [] 0 0 (lw_Z below #[Value.ref b] s) (entryFrame m ([Value.ref b] : List Value).toArray 4) := by
  obtain ⟨hx, hbd, hret, hml, hown, hts, hX, hbl, hlk, hg⟩ := C0
  obtain ⟨E, hE, hKV, hSV⟩ := ent_K hts hg
  have hT : ∀ w ∈ TT, w.before #[Value.ref b] s = true := fun w hw => hts w (List.mem_filter.mp hw).1
  have G : Gd E 4 (p, l, e, room_1, s, m, #[Value.ref b], below, meth, c, lw_Z below #[Value.ref b] s) code "CliffCarsLaw" room_1 := ⟨hx, hbd, hml, hown, hT, hKV, hSV, rfl, hlk⟩
  have hl := lv_entry ([Value.ref b] : List Value) (n := 4) (Nat.le_of_ble_eq_true rfl)
  rw [lg_entry_eq]
  refine law_start (A := fun q => s.heap.size ≤ q) G hX hbl (by show ¬ s.heap.size ≤ b; omega) hL ?_ s.heap [] (fun k q h => by cases h) (vD_mem.mpr ⟨List.nodup_nil, fun q h => absurd h List.not_mem_nil⟩) ⟨va_S.rf, fun q h => h, fun q h => by rw [hE]; exact h⟩ _ hl
  intro k n ws ls hk hn
  refine j_iconst G dL_1260 ?_
  intro H locs hP hD hS L' hL'
  refine va_forget (fun q hq => hS.1.2.2 q hq) ?_
  refine W.widen hk hn ?_
  exact lw_ret hx hbd hret hlk dL_1261
