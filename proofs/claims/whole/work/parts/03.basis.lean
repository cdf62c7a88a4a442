/-! whole numbers behind ints and longs -/
def iZ (z : Int) : Int32 := Int32.ofInt z
def lZ (z : Int) : Int64 := Int64.ofInt z
abbrev R32 (z : Int) : Prop := -2147483648 ≤ z ∧ z ≤ 2147483647
abbrev R64 (z : Int) : Prop := -9223372036854775808 ≤ z ∧ z ≤ 9223372036854775807
theorem iZ_toInt {z : Int} (h : R32 z) : (iZ z).toInt = z := Int32.toInt_ofInt_of_le (by omega) (by omega)
theorem lZ_toInt {z : Int} (h : R64 z) : (lZ z).toInt = z := Int64.toInt_ofInt_of_le (by omega) (by omega)
theorem iZ_of (x : Int32) : iZ x.toInt = x := Int32.ofInt_toInt x
theorem lZ_of (x : Int64) : lZ x.toInt = x := Int64.ofInt_toInt x
theorem iZ_r (x : Int32) : R32 x.toInt := ⟨by have := x.le_toInt; omega, by have := x.toInt_lt; omega⟩
theorem lZ_r (x : Int64) : R64 x.toInt := ⟨by have := x.le_toInt; omega, by have := x.toInt_lt; omega⟩
theorem iZ_add (a b : Int) : iZ a + iZ b = iZ (a + b) := (Int32.ofInt_add a b).symm
theorem iZ_sub (a b : Int) : iZ a - iZ b = iZ (a - b) := (Int32.ofInt_sub a b).symm
theorem iZ_mul (a b : Int) : iZ a * iZ b = iZ (a * b) := (Int32.ofInt_mul a b).symm
theorem iZ_neg (a : Int) : -iZ a = iZ (-a) := Int32.neg_ofInt
theorem lZ_add (a b : Int) : lZ a + lZ b = lZ (a + b) := (Int64.ofInt_add a b).symm
theorem lZ_sub (a b : Int) : lZ a - lZ b = lZ (a - b) := (Int64.ofInt_sub a b).symm
theorem lZ_mul (a b : Int) : lZ a * lZ b = lZ (a * b) := (Int64.ofInt_mul a b).symm
theorem lZ_neg (a : Int) : -lZ a = lZ (-a) := Int64.neg_ofInt
theorem iZ_inj {a b : Int} (ha : R32 a) (hb : R32 b) : iZ a = iZ b ↔ a = b := ⟨fun h => by rw [← iZ_toInt ha, ← iZ_toInt hb, h], fun h => by rw [h]⟩
theorem iZ_lt {a b : Int} (ha : R32 a) (hb : R32 b) : iZ a < iZ b ↔ a < b := by rw [Int32.lt_iff_toInt_lt, iZ_toInt ha, iZ_toInt hb]
theorem iZ_le {a b : Int} (ha : R32 a) (hb : R32 b) : iZ a ≤ iZ b ↔ a ≤ b := by rw [Int32.le_iff_toInt_le, iZ_toInt ha, iZ_toInt hb]
theorem lZ_inj {a b : Int} (ha : R64 a) (hb : R64 b) : lZ a = lZ b ↔ a = b := ⟨fun h => by rw [← lZ_toInt ha, ← lZ_toInt hb, h], fun h => by rw [h]⟩
theorem lZ_lt {a b : Int} (ha : R64 a) (hb : R64 b) : lZ a < lZ b ↔ a < b := by rw [Int64.lt_iff_toInt_lt, lZ_toInt ha, lZ_toInt hb]
theorem lZ_le {a b : Int} (ha : R64 a) (hb : R64 b) : lZ a ≤ lZ b ↔ a ≤ b := by rw [Int64.le_iff_toInt_le, lZ_toInt ha, lZ_toInt hb]
theorem r32_0 : R32 0 := by decide
theorem iZ_0 : iZ 0 = 0 := rfl
theorem iZ_cl {z : Int} (h : R32 z) : (iZ z).toNatClampNeg = z.toNat := by rw [← Int32.toNat_toInt, iZ_toInt h]
theorem iZ_div {a b : Int} (ha : 0 ≤ a) (ha2 : a ≤ 2147483647) (hb : 0 < b) (hb2 : b ≤ 2147483647) : iZ a / iZ b = iZ (a / b) := by
  obtain ⟨m, rfl⟩ := Int.eq_ofNat_of_zero_le ha
  obtain ⟨q, rfl⟩ := Int.eq_ofNat_of_zero_le (Int.le_of_lt hb)
  have e : ∀ k : Nat, iZ (k : Int) = nI k := fun k => Int32.ofInt_eq_ofNat
  rw [e, e, pk_div (by omega) (by omega) (by omega), ← e]; rfl
theorem iZ_rem {a b : Int} (ha : 0 ≤ a) (ha2 : a ≤ 2147483647) (hb : 0 < b) (hb2 : b ≤ 2147483647) : iZ a - iZ a / iZ b * iZ b = iZ (a % b) := by
  rw [iZ_div ha ha2 hb hb2, iZ_mul, iZ_sub]
  congr 1
  have := Int.mul_ediv_add_emod a b
  rw [Int.mul_comm] at this
  omega
theorem i2l_Z {a : Int} (h : R32 a) : (iZ a).toInt64 = lZ a := Int32.toInt64_ofInt (by rw [show Int32.minValue.toInt = -2147483648 from rfl]; exact h.1) (by rw [show Int32.maxValue.toInt = 2147483647 from rfl]; exact h.2)
theorem l2i_Z (a : Int) : (lZ a).toInt32 = iZ a := Int64.toInt32_ofInt
theorem vp_inZ {z : Int} {n : Nat} (hn : (n : Int) ≤ 2147483647) (h0 : 0 ≤ z) (h : z < n) : vp_in (iZ z) n := by
  have hr : R32 z := ⟨by omega, by omega⟩
  rw [vp_in_iff, iZ_toInt hr]
  exact ⟨h0, h⟩
/-! a cell that changes -/
def upI (g : Int → Int) (i v : Int) : Int → Int := fun j => if j = i then v else g j
def upS (g : Nat → Int) (i : Nat) (v : Int) : Nat → Int := fun j => if j = i then v else g j
theorem upI_eq {g : Int → Int} {i v : Int} : upI g i v i = v := if_pos rfl
theorem upI_ne {g : Int → Int} {i v j : Int} (h : j ≠ i) : upI g i v j = g j := if_neg h
theorem upS_eq {g : Nat → Int} {i : Nat} {v : Int} : upS g i v i = v := if_pos rfl
theorem upS_ne {g : Nat → Int} {i j : Nat} {v : Int} (h : j ≠ i) : upS g i v j = g j := if_neg h
/-! the tables' part of a world -/
abbrev En : Type := va_G × (Nat → ClassId) × (Nat → Nat) × (Nat → Nat) × Nat
abbrev eD (E : En) : va_G := E.1
abbrev eC (E : En) : Nat → ClassId := E.2.1
abbrev eK (E : En) : Nat → Nat := E.2.2.1
abbrev eV (E : En) : Nat → Nat := E.2.2.2.1
abbrev eB (E : En) : Nat := E.2.2.2.2
def tysE (E : En) : List (ClassId × FieldType) := [(eC E 0, .int), (eC E 1, .long), (eC E 2, .boolean), (eC E 3, .object "CliffCars$Cliff"), (eC E 4, .object "CliffCars$Rule"), (eC E 5, .object "CliffCars$Tape")]
def aInt (E : En) (n : Nat) (g : Int → Int) : va_E := .inl (eC E 0, n, .inl (fun j => iZ (g (j : Int))))
def aLng (E : En) (n : Nat) (g : Int → Int) : va_E := .inl (eC E 1, n, .inr (.inl (fun j => lZ (g (j : Int)))))
def aBoo (E : En) (n : Nat) (g : Int → Int) : va_E := .inl (eC E 2, n, .inl (fun j => iZ (g (j : Int))))
def aRef (E : En) (t : Nat) (n : Nat) (f : Nat → Option Nat) : va_E := .inl (eC E t, n, .inr (.inr (.inr (.inr f))))
def sLen : List Nat := [4, 4, 4, 4, 5, 4, 5, 6, 4]
def sTxt : List String := ["part", "rope", "head", "drag", "brake", "tank", "seats", "spring", "pond"]
def sIdx : List Nat := [94, 96, 98, 100, 102, 104, 106, 108, 110]
def sByt : List (List Int32) := [[112, 97, 114, 116], [114, 111, 112, 101], [104, 101, 97, 100], [100, 114, 97, 103], [98, 114, 97, 107, 101], [116, 97, 110, 107], [115, 101, 97, 116, 115], [115, 112, 114, 105, 110, 103], [112, 111, 110, 100]]
def KV (E : En) (U : State) : Prop := va_K (eD E) vwCl (tysE E) U ∧ (∀ w ∈ NN, va_Nw w U) ∧ (va_AO "CliffCars$Cliff" U ∧ va_AO "CliffCars$Rule" U ∧ va_AO "CliffCars$Tape" U) ∧ ∀ i : Nat, i < 9 → vk_R n0 (sIdx.getD i 0) (sTxt.getD i "") (eK E i) U
def SV (E : En) (U : State) (H : Heap) : Prop := vk_S 9 sLen sByt (eK E) (eV E) (fun q => eB E ≤ q) U H ∧ va_Z "java/lang/String" "COMPACT_STRINGS" "Z" (.int 1) (fun q => eB E ≤ q) U H ∧ va_Zq "jdk/internal/util/Preconditions" "SIOOBE_FORMATTER" "Ljava/util/function/BiFunction;" (fun q => eB E ≤ q) U H
theorem nest_warm {w : Cond} {s U : State} (hW : s.WarmedH U.vm) (hw : isNestW w = true) (h : va_Nw w s) : va_Nw w U := by
  cases w <;> first | exact va_Nw.warmF hW h | exact va_Nw.warmM hW h | cases hw
theorem KV.warm {E : En} {s U : State} (hW : s.WarmedH U.vm) (h : KV E s) : KV E U :=
  ⟨va_K.moved hW.alike h.1, fun w hw => nest_warm hW (List.mem_filter.mp hw).2 (h.2.1 w hw), ⟨va_AO.moved hW.alike h.2.2.1.1, va_AO.moved hW.alike h.2.2.1.2.1, va_AO.moved hW.alike h.2.2.1.2.2⟩, fun i hi => vk_R.warm hW (h.2.2.2 i hi)⟩
theorem SV.moved {E : En} {u U : State} {H : Heap} (hvm : u.vm.Alike U.vm) (h : SV E u H) : SV E U H := ⟨vk_S.moved hvm h.1, va_Z.moved hvm h.2.1, va_Zq.moved hvm h.2.2⟩
/-! the place of a walk -/
abbrev Ctx : Type := Program × Launch × Jvm.Env × Room × State × MethodId × Array Value × List Frame × Method × Code × (State → Prop)
abbrev xp (Γ : Ctx) : Program := Γ.1
abbrev xl (Γ : Ctx) : Launch := Γ.2.1
abbrev xe (Γ : Ctx) : Jvm.Env := Γ.2.2.1
abbrev xR (Γ : Ctx) : Room := Γ.2.2.2.1
abbrev xs (Γ : Ctx) : State := Γ.2.2.2.2.1
abbrev xm (Γ : Ctx) : MethodId := Γ.2.2.2.2.2.1
abbrev xa (Γ : Ctx) : Array Value := Γ.2.2.2.2.2.2.1
abbrev xb (Γ : Ctx) : List Frame := Γ.2.2.2.2.2.2.2.1
abbrev xt (Γ : Ctx) : Method := Γ.2.2.2.2.2.2.2.2.1
abbrev xc (Γ : Ctx) : Code := Γ.2.2.2.2.2.2.2.2.2.1
abbrev xQ (Γ : Ctx) : State → Prop := Γ.2.2.2.2.2.2.2.2.2.2
abbrev XW (Γ : Ctx) (H : Heap) (locs : List Loc) (k n : Nat) (g : JFrame) : Prop := W (xp Γ) (xl Γ) (xe Γ) (xR Γ) (xs Γ) (xm Γ) (xa Γ) (xb Γ) (xt Γ) (xc Γ) H locs k n (xQ Γ) g
/-- what may change: nothing (none), or what A names -/
def DD (md : Option (Nat → Prop)) (ws : va_W) : Prop := match md with
  | none => True
  | some A => va_D A ws
def SS (E : En) (md : Option (Nat → Prop)) (H0 H : Heap) (locs : List Loc) : Prop := match md with
  | none => H = H0 ∧ locs = []
  | some A => va_S A H0 H locs ∧ (∀ q, H0.size ≤ q → A q) ∧ ∀ q, A q → eB E ≤ q
def J (E : En) (nL : Nat) (Γ : Ctx) (md : Option (Nat → Prop)) (k n : Nat) (ws : va_W) (pc : Nat) (ls : List (Nat × Value)) (st : List Value) : Prop :=
  ∀ (H : Heap) (locs : List Loc), va_P (eD E) vwCl ws H → DD md ws → SS E md (xs Γ).heap H locs → ∀ L : Array Slot, lv_has L nL ls → XW Γ H locs k n (F0 (xm Γ) pc L st)
/-- what stands fast in a method -/
def Gd (E : En) (nL : Nat) (Γ : Ctx) (cc : ByteArray) (own : String) (rm : Room) : Prop :=
  (xp Γ).tables.exec = Jvm.exec ∧ (xc Γ).code = cc ∧ (xc Γ).maxLocals = nL ∧ (xs Γ).vm.findClass own = some (xm Γ).cls ∧ (∀ w ∈ TT, w.before (xa Γ) (xs Γ) = true) ∧ KV E (xs Γ) ∧ SV E (xs Γ) (xs Γ).heap ∧ xR Γ = rm ∧ (xt Γ).locks = false
/-- how a method may end -/
def Fend (E : En) (Γ : Ctx) (md : Option (Nat → Prop)) (ret : Option FieldType) (mc ms : Nat) (post : Option Value → va_W → Prop) : Prop :=
  (xt Γ).sig.returnType = ret ∧ ∃ (Qc : Array Value → State → Outcome → State → Prop) (free : Addr → Prop), xQ Γ = MQ (xb Γ) Qc (xa Γ) (xs Γ) mc ms free ∧ ∀ (r : Option Value) (ws : va_W) (H : Heap) (locs : List Loc), post r ws → va_P (eD E) vwCl ws H → DD md ws → SS E md (xs Γ).heap H locs → (∀ t : State, t.heap = H → (xs Γ).WarmedH t.vm → Qc (xa Γ) (xs Γ) (.returned r) t) ∧ ∀ q ∈ locs, free q.base
/-! contracts -/
def QM (E : En) (ws : va_W) (sz : Nat) (post : Option Value → va_W → Prop) : Array Value → State → Outcome → State → Prop := fun _ st oc t => (∃ (r : Option Value) (ws' : va_W), oc = .returned r ∧ post r ws' ∧ va_P (eD E) vwCl ws' t.heap ∧ va_D (va_A ws sz) ws') ∧ va_F (va_A ws sz) st t
def QP (post : Option Value → Prop) : Array Value → State → Outcome → State → Prop := fun _ st oc t => ∃ r : Option Value, oc = .returned r ∧ post r ∧ t.heap = st.heap
/-- a method that changes cells -/
def Cm (l : Launch) (E : En) (y : MethodName) (cc : ByteArray) (maxL : Nat) (ret : Option FieldType) (rm : Room) (args : List Value) (ws : va_W) (post : Option Value → va_W → Prop) : Prop :=
  ∀ sz : Nat, Met l y (Cond.code y cc maxL ret :: TT) rm (va_Pc args (fun U => U.heap.size = sz ∧ eB E ≤ sz ∧ va_P (eD E) vwCl ws U.heap ∧ va_D (fun q => eB E ≤ q) ws ∧ KV E U ∧ SV E U U.heap)) (QM E ws sz post) rm.cells rm.slots (va_A ws sz)
/-- a method that changes nothing -/
def Cp (l : Launch) (E : En) (y : MethodName) (cc : ByteArray) (maxL : Nat) (ret : Option FieldType) (fr lo : Nat) (args : List Value) (ws : va_W) (post : Option Value → Prop) : Prop :=
  Met l y (Cond.code y cc maxL ret :: TT) { frames := fr, cells := 0, slots := 0, locals := lo } (va_Pc args (fun U => va_P (eD E) vwCl ws U.heap ∧ KV E U ∧ SV E U U.heap)) (QP post) 0 0 (fun _ => False)
theorem Cm.of {l : Launch} {E : En} {y : MethodName} {cc : ByteArray} {maxL : Nat} {ret : Option FieldType} {rm : Room} {args : List Value} {ws : va_W} {post : Option Value → va_W → Prop} (hy : plainName y.cls = true) (hL : (lg_sl args).length ≤ maxL)
    (body : ∀ (Γ : Ctx) (A : Nat → Prop), xl Γ = l → xa Γ = args.toArray → (y.name = "<init>" → (xt Γ).name = "<init>") → Gd E maxL Γ cc y.cls rm → Fend E Γ (some A) ret rm.cells rm.slots post → J E maxL Γ (some A) 0 0 ws 0 (lv_args 0 args) []) : Cm l E y cc maxL ret rm args ws post := by
  intro sz
  refine Met.ofW (cc := cc) (maxL := maxL) (ret := ret) hy rfl ?_
  intro p e s m args' below meth c s₁ B hml hv
  obtain ⟨rfl, hsz, hB, hP, hD, hK, hV⟩ := hv
  have hts : ∀ w ∈ TT, w.before args.toArray s = true := fun w hw => atoms_spec (ws := Cond.code y cc maxL ret :: TT) B.pre w (List.mem_cons_of_mem _ hw)
  subst hsz
  have hl := lv_entry args (n := maxL) hL
  rw [lg_entry_eq]
  have hA : ∀ q, va_A ws s.heap.size q → eB E ≤ q := by
    intro q hq
    rcases hq with ⟨k, e, h⟩ | h
    · exact hD.2 k (q, e) h
    · exact Nat.le_trans hB h
  exact body (p, l, e, rm, s, m, args.toArray, below, meth, c, MQ below (QM E ws s.heap.size post) args.toArray s rm.cells rm.slots (va_A ws s.heap.size)) (va_A ws s.heap.size) rfl rfl (fun h => by rw [← h]; exact (name_of_methodNamed B.named B.method).1) ⟨B.exec, B.bytes, hml, findClass_of_methodNamed B.named, hts, hK, hV, rfl, B.notSynchronized⟩
    ⟨B.returns, QM E ws s.heap.size post, va_A ws s.heap.size, rfl, fun r ws' H locs hp hP' hD' hS => ⟨fun t ht hW => ⟨⟨r, ws', rfl, hp, by rw [ht]; exact hP', hD'⟩, hS.1.F ht⟩, hS.1.2.2⟩⟩ s.heap [] hP hD.self ⟨va_S.rf, fun q h => Or.inr h, hA⟩ _ hl
theorem Cp.of {l : Launch} {E : En} {y : MethodName} {cc : ByteArray} {maxL : Nat} {ret : Option FieldType} {fr lo : Nat} {args : List Value} {ws : va_W} {post : Option Value → Prop} (hy : plainName y.cls = true) (hL : (lg_sl args).length ≤ maxL)
    (body : ∀ (Γ : Ctx), xl Γ = l → xa Γ = args.toArray → Gd E maxL Γ cc y.cls { frames := fr, cells := 0, slots := 0, locals := lo } → Fend E Γ none ret 0 0 (fun r _ => post r) → J E maxL Γ none 0 0 ws 0 (lv_args 0 args) []) : Cp l E y cc maxL ret fr lo args ws post := by
  refine Met.ofW (cc := cc) (maxL := maxL) (ret := ret) hy rfl ?_
  intro p e s m args' below meth c s₁ B hml hv
  obtain ⟨rfl, hP, hK, hV⟩ := hv
  have hts : ∀ w ∈ TT, w.before args.toArray s = true := fun w hw => atoms_spec (ws := Cond.code y cc maxL ret :: TT) B.pre w (List.mem_cons_of_mem _ hw)
  have hl := lv_entry args (n := maxL) hL
  rw [lg_entry_eq]
  exact body (p, l, e, { frames := fr, cells := 0, slots := 0, locals := lo }, s, m, args.toArray, below, meth, c, MQ below (QP post) args.toArray s 0 0 (fun _ => False)) rfl rfl ⟨B.exec, B.bytes, hml, findClass_of_methodNamed B.named, hts, hK, hV, rfl, B.notSynchronized⟩
    ⟨B.returns, QP post, fun _ => False, rfl, fun r ws' H locs hp hP' hD' hS => ⟨fun t ht hW => ⟨r, rfl, hp, by rw [ht]; exact hS.1⟩, fun q hq => by rw [hS.2] at hq; cases hq⟩⟩ s.heap [] hP trivial ⟨rfl, rfl⟩ _ hl
