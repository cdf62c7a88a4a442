/-! String constants: their rows -/
theorem SS.vaS {E : En} {md : Option (Nat → Prop)} {s : State} {H : Heap} {locs : List Loc} (hS : SS E md s.heap H locs) : va_S (fun q => eB E ≤ q) s.heap H locs := by
  cases md with
  | none =>
    obtain ⟨h1, h2⟩ := hS
    rw [h1, h2]; exact va_S.rf
  | some A => exact ⟨hS.1.1, fun q h1 h2 => hS.1.2.1 q h1 (fun a => h2 (hS.2.2 q a)), fun q hq => hS.2.2 _ (hS.1.2.2 q hq)⟩
section STRS
variable {E : En} {nL : Nat} {Γ : Ctx} {cc : ByteArray} {own : String} {rm : Room} {md : Option (Nat → Prop)} {k n : Nat} {ws : va_W} {pc : Nat} {ls : List (Nat × Value)} {st : List Value}
theorem j_ldcS (G : Gd E nL Γ cc own rm) (i : Nat) (hi : i < 9) (ho : own = n0) {idx : Nat} (hx : sIdx.getD i 0 = idx) (d : decode cc pc = .ok (.ldc idx, 2)) (kk : J E nL Γ md k n ws (pc + 2) ls (.ref (eK E i) :: st)) : J E nL Γ md k n ws pc ls st := by
  subst ho
  subst hx
  exact fun H locs hP hD hS L hL => va_ldcS G.1 G.2.1 G.2.2.2.1 (G.2.2.2.2.2.1.2.2.2 i hi) d (kk H locs hP hD hS L hL)
theorem j_gets1 (G : Gd E nL Γ cc own rm) {idx : Nat} (hlk : Cond.fieldLink own idx "java/lang/String" "COMPACT_STRINGS" "Z" ∈ TT) (d : decode cc pc = .ok (.getstatic idx, 3)) (kk : J E nL Γ md k n ws (pc + 3) ls (.int (iZ 1) :: st)) : J E nL Γ md k n ws pc ls st := fun H locs hP hD hS L hL =>
  va_gets (v := .int 1) G.1 G.2.1 G.2.2.2.2.2.2.1.2.1 hS.vaS G.2.2.2.1 (G.2.2.2.2.1 _ hlk) (fun _ h => h) d (by have e : (1 : Int32) = iZ 1 := rfl; rw [e]; exact kk H locs hP hD hS L hL)
theorem j_getsq (G : Gd E nL Γ cc own rm) {idx : Nat} (hlk : Cond.fieldLink own idx "jdk/internal/util/Preconditions" "SIOOBE_FORMATTER" "Ljava/util/function/BiFunction;" ∈ TT) (d : decode cc pc = .ok (.getstatic idx, 3)) (k1 : J E nL Γ md k n ws (pc + 3) ls (.null :: st)) (k2 : ∀ t, J E nL Γ md k n ws (pc + 3) ls (.ref t :: st)) : J E nL Γ md k n ws pc ls st := fun H locs hP hD hS L hL => by
  rcases G.2.2.2.2.2.2.1.2.2 with h | ⟨t, h⟩
  · exact va_gets G.1 G.2.1 h hS.vaS G.2.2.2.1 (G.2.2.2.2.1 _ hlk) (fun _ h => h) d (k1 H locs hP hD hS L hL)
  · exact va_gets G.1 G.2.1 h hS.vaS G.2.2.2.1 (G.2.2.2.2.1 _ hlk) (fun _ h => h) d (k2 t H locs hP hD hS L hL)
theorem j_scod (G : Gd E nL Γ cc own rm) (i : Nat) (hi : i < 9) {idx : Nat} (hlk : Cond.fieldLink own idx "java/lang/String" "coder" "B" ∈ TT) (d : decode cc pc = .ok (.getfield idx, 3)) (kk : J E nL Γ md k n ws (pc + 3) ls (.int (iZ 0) :: st)) : J E nL Γ md k n ws pc ls (.ref (eK E i) :: st) := fun H locs hP hD hS L hL =>
  vk_getf (v := .int 0) G.1 G.2.1 (G.2.2.2.2.2.2.1.1.1 i hi).2.1 hS.vaS G.2.2.2.1 (G.2.2.2.2.1 _ hlk) (fun _ h => h) d (by have e : (0 : Int32) = iZ 0 := rfl; rw [e]; exact kk H locs hP hD hS L hL)
theorem j_sval (G : Gd E nL Γ cc own rm) (i : Nat) (hi : i < 9) {idx : Nat} (hlk : Cond.fieldLink own idx "java/lang/String" "value" "[B" ∈ TT) (d : decode cc pc = .ok (.getfield idx, 3)) (kk : J E nL Γ md k n ws (pc + 3) ls (.ref (eV E i) :: st)) : J E nL Γ md k n ws pc ls (.ref (eK E i) :: st) := fun H locs hP hD hS L hL =>
  vk_getf G.1 G.2.1 (G.2.2.2.2.2.2.1.1.1 i hi).2.2.1 hS.vaS G.2.2.2.1 (G.2.2.2.2.1 _ hlk) (fun _ h => h) d (kk H locs hP hD hS L hL)
theorem j_slen (G : Gd E nL Γ cc own rm) (i : Nat) (hi : i < 9) (d : decode cc pc = .ok (.arraylength, 1)) (kk : J E nL Γ md k n ws (pc + 1) ls (.int (iZ ((sLen.getD i 0 : Nat) : Int)) :: st)) : J E nL Γ md k n ws pc ls (.ref (eV E i) :: st) := fun H locs hP hD hS L hL =>
  va_tlen G.1 G.2.1 (G.2.2.2.2.2.2.1.1.1 i hi).2.2.2 hS.vaS (iZ_nat _).symm d (kk H locs hP hD hS L hL)
theorem j_sbal (G : Gd E nL Γ cc own rm) (i : Nat) (hi : i < 9) {j : Int} (hj : 0 ≤ j ∧ j < ((sLen.getD i 0 : Nat) : Int) ∧ ((sLen.getD i 0 : Nat) : Int) ≤ 100) (d : decode cc pc = .ok (.baload, 1)) (kk : J E nL Γ md k n ws (pc + 1) ls (.int (iZ (wb (i : Int) j)) :: st)) : J E nL Γ md k n ws pc ls (.int (iZ j) :: .ref (eV E i) :: st) := fun H locs hP hD hS L hL =>
  va_tb G.1 G.2.1 (G.2.2.2.2.2.2.1.1.1 i hi).2.2.2 hS.vaS (vp_inZ (by omega) hj.1 hj.2.1) (v := .int (iZ (wb (i : Int) j))) (by rw [iZ_cl ⟨by omega, by omega⟩]; unfold wb; rw [iZ_of]; rfl) d (kk H locs hP hD hS L hL)
theorem j_i2c (G : Gd E nL Γ cc own rm) {x : Int} (hx : 0 ≤ x ∧ x ≤ 255) (d : decode cc pc = .ok (.i2c, 1)) (kk : J E nL Γ md k n ws (pc + 1) ls (.int (iZ x) :: st)) : J E nL Γ md k n ws pc ls (.int (iZ x) :: st) := fun H locs hP hD hS L hL =>
  lv_i2c G.1 G.2.1 d (by
    obtain ⟨a, rfl⟩ := Int.eq_ofNat_of_zero_le hx.1
    have h : ∀ a : Nat, a < 256 → ((iZ (a : Int)).toUInt32 % 65536).toInt32 = iZ (a : Int) := by decide +kernel
    exact h a (by omega)) (kk H locs hP hD hS L hL)
variable {y : MethodName} {c : ByteArray} {ml np idx fr lo b : Nat} {ret : Option FieldType} {As rest : List Value}
theorem j_VPS (G : Gd E nL Γ cc own rm) {post : Option Value → Prop} {i : Nat} (hC : Cp (xl Γ) E y c ml ret fr lo (.ref (eK E i) :: As) [] post) (M : MV y c ml ret np) (hlk : Cond.methodLink own idx y ∈ TT) (i' : Nat) (hi : i < 9) (hyc : "java/lang/String" = y.cls) (hR : fitR (rmP fr lo) rm ml) (hn : As.length = np) (hst : st = As.reverse ++ .ref (eK E i) :: rest) (hcat : (rest.map fun v => v.category).sum ≤ 8) (d : decode cc pc = .ok (.invokevirtual idx, 3)) (hk : k ≤ rm.cells ∧ n ≤ rm.slots)
    (kk : ∀ r, post r → J E nL Γ md k n ws (pc + 3) ls (r.toList ++ rest)) : J E nL Γ md k n ws pc ls st := by
  subst hst
  refine j_runP [] rfl (fun H locs L hP hS hL hPc => ?_) kk
  exact va_runV ⟨G.1, G.2.1, G.2.2.1, G.2.2.2.1, G.2.2.2.2.1⟩ hC ⟨cb_of G M.1 M.2.1 M.2.2.1 hlk hR, G.2.2.2.2.1 _ M.2.2.2.1, G.2.2.2.2.1 _ M.2.2.2.2⟩ ⟨blindP, by rw [← hyc]; exact vk_recv G.2.2.2.2.2.2.1.1 hi hS.vaS, fun U hU hW => ⟨rfl, by rw [hU]; exact hPc, G.2.2.2.2.2.1.warm hW, SV.at hW hU (hS.kept G.2.2.2.2.2.2.1)⟩⟩ rfl hn hL rfl (lv_room hcat) d (by rw [G.2.2.2.2.2.2.2.1]; exact hk)
end STRS
theorem sL_r : ∀ i : Nat, i < 9 → 4 ≤ ((sLen.getD i 0 : Nat) : Int) ∧ ((sLen.getD i 0 : Nat) : Int) ≤ 6 := by decide +kernel
theorem sL_w : ∀ i : Nat, i < 9 → ((sLen.getD i 0 : Nat) : Int) = wl (i : Int) := by decide +kernel
theorem a255 {x : Int} (h0 : 0 ≤ x) (h : x ≤ 255) : iZ x &&& iZ 255 = iZ x := by
  obtain ⟨a, rfl⟩ := Int.eq_ofNat_of_zero_le h0
  have h : ∀ a : Nat, a < 256 → iZ (a : Int) &&& iZ 255 = iZ (a : Int) := by decide +kernel
  exact h a (by omega)
theorem sh0 {x : Int} : iZ x >>> (iZ 0 &&& 31) = iZ x := by
  rw [show iZ 0 &&& 31 = 0 by decide +kernel]; exact Int32.shiftRight_zero
theorem narC {x : Int} (h : 0 ≤ x ∧ x ≤ 255) : narrow .char (.int (iZ x)) = .int (iZ x) := by
  obtain ⟨a, rfl⟩ := Int.eq_ofNat_of_zero_le h.1
  have h2 : ∀ a : Nat, a < 256 → ((iZ (a : Int)).toUInt32 % 65536).toInt32 = iZ (a : Int) := by decide +kernel
  show Value.int _ = Value.int _
  congr 1
  exact h2 a (by omega)
theorem dS_coder_0 : decode cS_coder 0 = .ok (.getstatic 38, 3) := by decide +kernel
theorem dS_coder_3 : decode cS_coder 3 = .ok (.ifCond .eq 10, 3) := by decide +kernel
theorem dS_coder_6 : decode cS_coder 6 = .ok (.aload_n 0, 1) := by decide +kernel
theorem dS_coder_7 : decode cS_coder 7 = .ok (.getfield 15, 3) := by decide +kernel
theorem dS_coder_10 : decode cS_coder 10 = .ok (.goto 4, 3) := by decide +kernel
theorem dS_coder_14 : decode cS_coder 14 = .ok (.ireturn, 1) := by decide +kernel
theorem mwS_coder : MV yS_coder cS_coder 1 (some .byte) 0 := ⟨cdS_coder, iniS, naS_coder, imS_coder, seS_coder⟩
set_option maxHeartbeats 4000000 in
set_option maxRecDepth 100000 in
theorem kS_coder (l : Launch) (E : En) (i : Nat) (hi : i < 9) : Cp l E yS_coder cS_coder 1 (some .byte) 0 0 [.ref (eK E i)] [] (fun r => ∃ (v : Int), r = some (.int (iZ v)) ∧ (v = 0)) := by
  refine Cp.ofF (by decide +kernel) (Nat.le_of_ble_eq_true rfl) (fun Γ hl hargs G F => ?_)
  subst hl
  refine j_gets1 G flS_38 dS_coder_0 ?_
  refine j_if_eq (tgt := 13) G dS_coder_3 (by decide) (by decide) (fun h1 => absurd h1 (by decide)) (fun h1 => ?_)
  refine j_aload_n G 0 rfl dS_coder_6 ?_
  refine j_scod G i hi flS_15 dS_coder_7 ?_
  refine j_goto (tgt := 14) G dS_coder_10 (by decide) ?_
  exact j_cret G F dS_coder_14 rfl ⟨0, rfl, (by rfl)⟩
theorem dS_isLatin1_0 : decode cS_isLatin1 0 = .ok (.getstatic 38, 3) := by decide +kernel
theorem dS_isLatin1_3 : decode cS_isLatin1 3 = .ok (.ifCond .eq 14, 3) := by decide +kernel
theorem dS_isLatin1_6 : decode cS_isLatin1 6 = .ok (.aload_n 0, 1) := by decide +kernel
theorem dS_isLatin1_7 : decode cS_isLatin1 7 = .ok (.getfield 15, 3) := by decide +kernel
theorem dS_isLatin1_10 : decode cS_isLatin1 10 = .ok (.ifCond .ne 7, 3) := by decide +kernel
theorem dS_isLatin1_13 : decode cS_isLatin1 13 = .ok (.iconst 1, 1) := by decide +kernel
theorem dS_isLatin1_14 : decode cS_isLatin1 14 = .ok (.goto 4, 3) := by decide +kernel
theorem dS_isLatin1_18 : decode cS_isLatin1 18 = .ok (.ireturn, 1) := by decide +kernel
theorem mwS_isLatin1 : MV yS_isLatin1 cS_isLatin1 1 (some .boolean) 0 := ⟨cdS_isLatin1, iniS, naS_isLatin1, imS_isLatin1, seS_isLatin1⟩
set_option maxHeartbeats 4000000 in
set_option maxRecDepth 100000 in
theorem kS_isLatin1 (l : Launch) (E : En) (i : Nat) (hi : i < 9) : Cp l E yS_isLatin1 cS_isLatin1 1 (some .boolean) 0 0 [.ref (eK E i)] [] (fun r => ∃ (v : Int), r = some (.int (iZ v)) ∧ (v = 1)) := by
  refine Cp.ofF (by decide +kernel) (Nat.le_of_ble_eq_true rfl) (fun Γ hl hargs G F => ?_)
  subst hl
  refine j_gets1 G flS_38 dS_isLatin1_0 ?_
  refine j_if_eq (tgt := 17) G dS_isLatin1_3 (by decide) (by decide) (fun h1 => absurd h1 (by decide)) (fun h1 => ?_)
  refine j_aload_n G 0 rfl dS_isLatin1_6 ?_
  refine j_scod G i hi flS_15 dS_isLatin1_7 ?_
  refine j_if_ne (tgt := 17) G dS_isLatin1_10 (by decide) (by decide) (fun h2 => absurd h2 (by decide)) (fun h2 => ?_)
  refine j_iconst G dS_isLatin1_13 ?_
  refine j_goto (tgt := 18) G dS_isLatin1_14 (by decide) ?_
  exact j_zret G F dS_isLatin1_18 (by decide) ⟨1, rfl, (by rfl)⟩
theorem dS_length_0 : decode cS_length 0 = .ok (.aload_n 0, 1) := by decide +kernel
theorem dS_length_1 : decode cS_length 1 = .ok (.getfield 9, 3) := by decide +kernel
theorem dS_length_4 : decode cS_length 4 = .ok (.arraylength, 1) := by decide +kernel
theorem dS_length_5 : decode cS_length 5 = .ok (.aload_n 0, 1) := by decide +kernel
theorem dS_length_6 : decode cS_length 6 = .ok (.invokevirtual 335, 3) := by decide +kernel
theorem dS_length_9 : decode cS_length 9 = .ok (.ishr, 1) := by decide +kernel
theorem dS_length_10 : decode cS_length 10 = .ok (.ireturn, 1) := by decide +kernel
theorem mwS_length : MV yS_length cS_length 1 (some .int) 0 := ⟨cdS_length, iniS, naS_length, imS_length, seS_length⟩
set_option maxHeartbeats 4000000 in
set_option maxRecDepth 100000 in
theorem kS_length (l : Launch) (E : En) (i : Nat) (hi : i < 9) : Cp l E yS_length cS_length 1 (some .int) 1 20 [.ref (eK E i)] [] (fun r => ∃ (v : Int), r = some (.int (iZ v)) ∧ (v = wl (i : Int))) := by
  refine Cp.ofF (by decide +kernel) (Nat.le_of_ble_eq_true rfl) (fun Γ hl hargs G F => ?_)
  subst hl
  refine j_aload_n G 0 rfl dS_length_0 ?_
  refine j_sval G i hi flS_9 dS_length_1 ?_
  refine j_slen G i hi dS_length_4 ?_
  refine j_aload_n G 0 rfl dS_length_5 ?_
  refine j_VPS G (kS_coder (xl Γ) E i (by first | assumption | omega | (simp only [upS, reduceIte, Nat.reduceEqDiff, eq_self, List.length_cons, List.length_nil, List.length_append] <;> omega))) mwS_coder mlS_335 i hi rfl ⟨Nat.le_of_ble_eq_true rfl, Nat.le_of_ble_eq_true rfl⟩ rfl (rest := [.int (iZ ((sLen.getD i 0 : Nat) : Int))]) rfl (Nat.le_of_ble_eq_true rfl) dS_length_6 ⟨Nat.le_of_ble_eq_true rfl, Nat.le_of_ble_eq_true rfl⟩ (fun r hr => ?_)
  obtain ⟨_, rfl, rfl⟩ := hr
  refine r_ishr G dS_length_9 ?_
  refine j_top (y := (iZ ((sLen.getD i 0 : Nat) : Int))) (sh0) ?_
  exact j_iret G F dS_length_10 ⟨((sLen.getD i 0 : Nat) : Int), rfl, (by exact sL_w i hi)⟩
theorem dP_checkIndex_0 : decode cP_checkIndex 0 = .ok (.iload_n 0, 1) := by decide +kernel
theorem dP_checkIndex_1 : decode cP_checkIndex 1 = .ok (.ifCond .lt 8, 3) := by decide +kernel
theorem dP_checkIndex_4 : decode cP_checkIndex 4 = .ok (.iload_n 0, 1) := by decide +kernel
theorem dP_checkIndex_5 : decode cP_checkIndex 5 = .ok (.iload_n 1, 1) := by decide +kernel
theorem dP_checkIndex_6 : decode cP_checkIndex 6 = .ok (.if_icmp .lt 10, 3) := by decide +kernel
theorem dP_checkIndex_16 : decode cP_checkIndex 16 = .ok (.iload_n 0, 1) := by decide +kernel
theorem dP_checkIndex_17 : decode cP_checkIndex 17 = .ok (.ireturn, 1) := by decide +kernel
theorem mwP_checkIndex : MS yP_checkIndex cP_checkIndex 3 (some .int) 3 := ⟨cdP_checkIndex, iniP, naP_checkIndex, stP_checkIndex⟩
set_option maxHeartbeats 4000000 in
set_option maxRecDepth 100000 in
theorem kP_checkIndexn (l : Launch) (E : En) (a : Int) (n : Int) (ha : 0 ≤ a ∧ a < n) (hn : n ≤ 100) : Cp l E yP_checkIndex cP_checkIndex 3 (some .int) 0 0 [.int (iZ a), .int (iZ n), .null] [] (fun r => ∃ (v : Int), r = some (.int (iZ v)) ∧ (v = a)) := by
  refine Cp.ofF (by decide +kernel) (Nat.le_of_ble_eq_true rfl) (fun Γ hl hargs G F => ?_)
  subst hl
  refine j_iload_n G 0 rfl dP_checkIndex_0 ?_
  refine j_if_lt (tgt := 9) G dP_checkIndex_1 (by decide) (by omega) (fun h1 => ?_) (fun h1 => ?_)
  ·
    exact absurd h1 (by omega)
  ·
    refine j_iload_n G 0 rfl dP_checkIndex_4 ?_
    refine j_iload_n G 1 rfl dP_checkIndex_5 ?_
    refine j_icmp_lt (tgt := 16) G dP_checkIndex_6 (by decide) (by omega) (by omega) (fun h2 => ?_) (fun h2 => ?_)
    ·
      refine j_iload_n G 0 rfl dP_checkIndex_16 ?_
      exact j_iret G F dP_checkIndex_17 ⟨a, rfl, (by rfl)⟩
    ·
      omega
set_option maxHeartbeats 4000000 in
set_option maxRecDepth 100000 in
theorem kP_checkIndexr (l : Launch) (E : En) (t : Nat) (a : Int) (n : Int) (ha : 0 ≤ a ∧ a < n) (hn : n ≤ 100) : Cp l E yP_checkIndex cP_checkIndex 3 (some .int) 0 0 [.int (iZ a), .int (iZ n), .ref t] [] (fun r => ∃ (v : Int), r = some (.int (iZ v)) ∧ (v = a)) := by
  refine Cp.ofF (by decide +kernel) (Nat.le_of_ble_eq_true rfl) (fun Γ hl hargs G F => ?_)
  subst hl
  refine j_iload_n G 0 rfl dP_checkIndex_0 ?_
  refine j_if_lt (tgt := 9) G dP_checkIndex_1 (by decide) (by omega) (fun h1 => ?_) (fun h1 => ?_)
  ·
    exact absurd h1 (by omega)
  ·
    refine j_iload_n G 0 rfl dP_checkIndex_4 ?_
    refine j_iload_n G 1 rfl dP_checkIndex_5 ?_
    refine j_icmp_lt (tgt := 16) G dP_checkIndex_6 (by decide) (by omega) (by omega) (fun h2 => ?_) (fun h2 => ?_)
    ·
      refine j_iload_n G 0 rfl dP_checkIndex_16 ?_
      exact j_iret G F dP_checkIndex_17 ⟨a, rfl, (by rfl)⟩
    ·
      omega
theorem dS_checkIndex_0 : decode cS_checkIndex 0 = .ok (.iload_n 0, 1) := by decide +kernel
theorem dS_checkIndex_1 : decode cS_checkIndex 1 = .ok (.iload_n 1, 1) := by decide +kernel
theorem dS_checkIndex_2 : decode cS_checkIndex 2 = .ok (.getstatic 1053, 3) := by decide +kernel
theorem dS_checkIndex_5 : decode cS_checkIndex 5 = .ok (.invokestatic 1059, 3) := by decide +kernel
theorem dS_checkIndex_8 : decode cS_checkIndex 8 = .ok (.pop, 1) := by decide +kernel
theorem dS_checkIndex_9 : decode cS_checkIndex 9 = .ok (.return_, 1) := by decide +kernel
theorem mwS_checkIndex : MS yS_checkIndex cS_checkIndex 2 none 2 := ⟨cdS_checkIndex, iniS, naS_checkIndex, stS_checkIndex⟩
set_option maxHeartbeats 4000000 in
set_option maxRecDepth 100000 in
theorem kS_checkIndex (l : Launch) (E : En) (a : Int) (n : Int) (ha : 0 ≤ a ∧ a < n) (hn : n ≤ 100) : Cp l E yS_checkIndex cS_checkIndex 2 none 1 22 [.int (iZ a), .int (iZ n)] [] (fun r => r = none ∧ True) := by
  refine Cp.ofF (by decide +kernel) (Nat.le_of_ble_eq_true rfl) (fun Γ hl hargs G F => ?_)
  subst hl
  refine j_iload_n G 0 rfl dS_checkIndex_0 ?_
  refine j_iload_n G 1 rfl dS_checkIndex_1 ?_
  refine j_getsq G flS_1053 dS_checkIndex_2 ?_ (fun t => ?_)
  ·
    refine j_SP G (kP_checkIndexn (xl Γ) E a n (by first | assumption | omega | (simp only [upS, reduceIte, Nat.reduceEqDiff, eq_self, List.length_cons, List.length_nil, List.length_append] <;> omega)) (by first | assumption | omega | (simp only [upS, reduceIte, Nat.reduceEqDiff, eq_self, List.length_cons, List.length_nil, List.length_append] <;> omega))) mwP_checkIndex mlS_1059 [] rfl ⟨Nat.le_of_ble_eq_true rfl, Nat.le_of_ble_eq_true rfl⟩ rfl (rest := []) rfl (Nat.le_of_ble_eq_true rfl) dS_checkIndex_5 ⟨Nat.le_of_ble_eq_true rfl, Nat.le_of_ble_eq_true rfl⟩ (fun r hr => ?_)
    obtain ⟨v2, rfl, hq1⟩ := hr
    refine j_pop G dS_checkIndex_8 rfl ?_
    exact j_vret G F dS_checkIndex_9 ⟨rfl, trivial⟩
  ·
    refine j_SP G (kP_checkIndexr (xl Γ) E t a n (by first | assumption | omega | (simp only [upS, reduceIte, Nat.reduceEqDiff, eq_self, List.length_cons, List.length_nil, List.length_append] <;> omega)) (by first | assumption | omega | (simp only [upS, reduceIte, Nat.reduceEqDiff, eq_self, List.length_cons, List.length_nil, List.length_append] <;> omega))) mwP_checkIndex mlS_1059 [] rfl ⟨Nat.le_of_ble_eq_true rfl, Nat.le_of_ble_eq_true rfl⟩ rfl (rest := []) rfl (Nat.le_of_ble_eq_true rfl) dS_checkIndex_5 ⟨Nat.le_of_ble_eq_true rfl, Nat.le_of_ble_eq_true rfl⟩ (fun r hr => ?_)
    obtain ⟨v4, rfl, hq3⟩ := hr
    refine j_pop G dS_checkIndex_8 rfl ?_
    exact j_vret G F dS_checkIndex_9 ⟨rfl, trivial⟩
theorem dS1_charAt_0 : decode cS1_charAt 0 = .ok (.iload_n 1, 1) := by decide +kernel
theorem dS1_charAt_1 : decode cS1_charAt 1 = .ok (.aload_n 0, 1) := by decide +kernel
theorem dS1_charAt_2 : decode cS1_charAt 2 = .ok (.arraylength, 1) := by decide +kernel
theorem dS1_charAt_3 : decode cS1_charAt 3 = .ok (.invokestatic 9, 3) := by decide +kernel
theorem dS1_charAt_6 : decode cS1_charAt 6 = .ok (.aload_n 0, 1) := by decide +kernel
theorem dS1_charAt_7 : decode cS1_charAt 7 = .ok (.iload_n 1, 1) := by decide +kernel
theorem dS1_charAt_8 : decode cS1_charAt 8 = .ok (.baload, 1) := by decide +kernel
theorem dS1_charAt_9 : decode cS1_charAt 9 = .ok (.sipush 255, 3) := by decide +kernel
theorem dS1_charAt_12 : decode cS1_charAt 12 = .ok (.iand, 1) := by decide +kernel
theorem dS1_charAt_13 : decode cS1_charAt 13 = .ok (.i2c, 1) := by decide +kernel
theorem dS1_charAt_14 : decode cS1_charAt 14 = .ok (.ireturn, 1) := by decide +kernel
theorem mwS1_charAt : MS yS1_charAt cS1_charAt 2 (some .char) 2 := ⟨cdS1_charAt, iniS1, naS1_charAt, stS1_charAt⟩
set_option maxHeartbeats 4000000 in
set_option maxRecDepth 100000 in
theorem kS1_charAt (l : Launch) (E : En) (i : Nat) (j : Int) (hi : i < 9) (hj : 0 ≤ j ∧ j < wl (i : Int)) : Cp l E yS1_charAt cS1_charAt 2 (some .char) 2 43 [.ref (eV E i), .int (iZ j)] [] (fun r => ∃ (v : Int), r = some (.int (iZ v)) ∧ (v = wb (i : Int) j)) := by
  refine Cp.ofF (by decide +kernel) (Nat.le_of_ble_eq_true rfl) (fun Γ hl hargs G F => ?_)
  subst hl
  have hl := sL_r i hi
  have hw := sL_w i hi
  have hb := wb_r' (k := (i : Int)) (j := j) (by omega) hj.1 hj.2
  refine j_iload_n G 1 rfl dS1_charAt_0 ?_
  refine j_aload_n G 0 rfl dS1_charAt_1 ?_
  refine j_slen G i hi dS1_charAt_2 ?_
  refine j_SP G (kS_checkIndex (xl Γ) E j ((sLen.getD i 0 : Nat) : Int) (by first | assumption | omega | (simp only [upS, reduceIte, Nat.reduceEqDiff, eq_self, List.length_cons, List.length_nil, List.length_append] <;> omega)) (by first | assumption | omega | (simp only [upS, reduceIte, Nat.reduceEqDiff, eq_self, List.length_cons, List.length_nil, List.length_append] <;> omega))) mwS_checkIndex mlS1_9 [] rfl ⟨Nat.le_of_ble_eq_true rfl, Nat.le_of_ble_eq_true rfl⟩ rfl (rest := []) rfl (Nat.le_of_ble_eq_true rfl) dS1_charAt_3 ⟨Nat.le_of_ble_eq_true rfl, Nat.le_of_ble_eq_true rfl⟩ (fun r hr => ?_)
  obtain ⟨rfl, hq1⟩ := hr
  refine j_aload_n G 0 rfl dS1_charAt_6 ?_
  refine j_iload_n G 1 rfl dS1_charAt_7 ?_
  refine j_sbal G i hi (by omega) dS1_charAt_8 ?_
  refine j_sipush G dS1_charAt_9 rfl ?_
  refine r_iand G dS1_charAt_12 ?_
  refine j_top (y := (iZ (wb (i : Int) j))) (a255 (by omega) (by omega)) ?_
  refine j_i2c G (by omega) dS1_charAt_13 ?_
  exact j_cret G F dS1_charAt_14 (narC (by omega)) ⟨wb (i : Int) j, rfl, (by rfl)⟩
theorem dS_charAt_0 : decode cS_charAt 0 = .ok (.aload_n 0, 1) := by decide +kernel
theorem dS_charAt_1 : decode cS_charAt 1 = .ok (.invokevirtual 492, 3) := by decide +kernel
theorem dS_charAt_4 : decode cS_charAt 4 = .ok (.ifCond .eq 12, 3) := by decide +kernel
theorem dS_charAt_7 : decode cS_charAt 7 = .ok (.aload_n 0, 1) := by decide +kernel
theorem dS_charAt_8 : decode cS_charAt 8 = .ok (.getfield 9, 3) := by decide +kernel
theorem dS_charAt_11 : decode cS_charAt 11 = .ok (.iload_n 1, 1) := by decide +kernel
theorem dS_charAt_12 : decode cS_charAt 12 = .ok (.invokestatic 495, 3) := by decide +kernel
theorem dS_charAt_15 : decode cS_charAt 15 = .ok (.ireturn, 1) := by decide +kernel
theorem mwS_charAt : MV yS_charAt cS_charAt 2 (some .char) 1 := ⟨cdS_charAt, iniS, naS_charAt, imS_charAt, seS_charAt⟩
set_option maxHeartbeats 4000000 in
set_option maxRecDepth 100000 in
theorem kS_charAt (l : Launch) (E : En) (i : Nat) (j : Int) (hi : i < 9) (hj : 0 ≤ j ∧ j < wl (i : Int)) : Cp l E yS_charAt cS_charAt 2 (some .char) 3 64 [.ref (eK E i), .int (iZ j)] [] (fun r => ∃ (v : Int), r = some (.int (iZ v)) ∧ (v = wb (i : Int) j)) := by
  refine Cp.ofF (by decide +kernel) (Nat.le_of_ble_eq_true rfl) (fun Γ hl hargs G F => ?_)
  subst hl
  have hl := sL_r i hi
  have hw := sL_w i hi
  have hb := wb_r' (k := (i : Int)) (j := j) (by omega) hj.1 hj.2
  refine j_aload_n G 0 rfl dS_charAt_0 ?_
  refine j_VPS G (kS_isLatin1 (xl Γ) E i (by first | assumption | omega | (simp only [upS, reduceIte, Nat.reduceEqDiff, eq_self, List.length_cons, List.length_nil, List.length_append] <;> omega))) mwS_isLatin1 mlS_492 i hi rfl ⟨Nat.le_of_ble_eq_true rfl, Nat.le_of_ble_eq_true rfl⟩ rfl (rest := []) rfl (Nat.le_of_ble_eq_true rfl) dS_charAt_1 ⟨Nat.le_of_ble_eq_true rfl, Nat.le_of_ble_eq_true rfl⟩ (fun r hr => ?_)
  obtain ⟨_, rfl, rfl⟩ := hr
  refine j_if_eq (tgt := 16) G dS_charAt_4 (by decide) (by decide) (fun h2 => absurd h2 (by decide)) (fun h2 => ?_)
  refine j_aload_n G 0 rfl dS_charAt_7 ?_
  refine j_sval G i hi flS_9 dS_charAt_8 ?_
  refine j_iload_n G 1 rfl dS_charAt_11 ?_
  refine j_SP G (kS1_charAt (xl Γ) E i j (by first | assumption | omega | (simp only [upS, reduceIte, Nat.reduceEqDiff, eq_self, List.length_cons, List.length_nil, List.length_append] <;> omega)) (by first | assumption | omega | (simp only [upS, reduceIte, Nat.reduceEqDiff, eq_self, List.length_cons, List.length_nil, List.length_append] <;> omega))) mwS1_charAt mlS_495 [] rfl ⟨Nat.le_of_ble_eq_true rfl, Nat.le_of_ble_eq_true rfl⟩ rfl (rest := []) rfl (Nat.le_of_ble_eq_true rfl) dS_charAt_12 ⟨Nat.le_of_ble_eq_true rfl, Nat.le_of_ble_eq_true rfl⟩ (fun r hr => ?_)
  obtain ⟨_, rfl, rfl⟩ := hr
  exact j_cret G F dS_charAt_15 (narC (by omega)) ⟨wb (i : Int) j, rfl, (by rfl)⟩
