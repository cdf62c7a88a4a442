/-! the law's state: both sides' cells, told by the model's numbers -/
def rU (kd vv hd : Int → Int) (t : Nat) : Nat → Int := fun i => if i = 0 then kd t else if i = 1 then vv t else if i = 2 then (t : Int) else hd t
def rL (kd : Int → Int) (t : Nat) : Nat := if kd t = 6 then 12 else 0
def rW (rm : Int → Int) (t : Nat) : Int → Int := fun j => if 0 ≤ j ∧ j < 12 then rm (12 * (t : Int) + j) else 0
def tU (ts tl : Int → Int) (t : Nat) : Nat → Int := fun i => if i = 0 then ts t else tl t
def tI (it : Int → Int) (t : Nat) : Int → Int := fun j => if 0 ≤ j ∧ j < 60 then it (60 * (t : Int) + j) else 0
def fC (E : En) (ca pa da sa : Nat → Nat) (la po pt : Int → Int) (dr sr : Nat → Int → Int) (t : Nat) : va_W := [(ca t, o1 (some (pa t)) (some (da t)) (some (sa t)) (cM la po (t : Int))), (pa t, aInt E 5 (pM pt (t : Int))), (da t, aInt E 24 (dr t)), (sa t, aInt E 24 (sr t))]
def fR (E : En) (ra rr : Nat → Nat) (kd vv hd rm : Int → Int) (t : Nat) : va_W := [(ra t, o4 (some (rr t)) (rU kd vv hd t)), (rr t, aInt E (rL kd t) (rW rm t))]
def fT (E : En) (qa qi : Nat → Nat) (ts tl it : Int → Int) (t : Nat) : va_W := [(qa t, o6 (some (qi t)) (tU ts tl t)), (qi t, aLng E 60 (tI it t))]
def WL (E : En) (xo : Nat) (mo : Nat) (xa : Nat → Nat) (ad : Nat → Nat) (tk : Nat → Option Nat) (B : Nat → Int) (bw : Int → Int) (X : Nat → Int) (U : Nat → Int) (V : Nat → Int) (Q : Nat → Int) (T : Nat → Int) (Z : Nat → Int) (Y : Nat → Int) (r0 : Option Nat) (tb : Int → Int) (cx : Int → Int) (kn : Int → Int) (pn : Int → Int) (ck : Nat → Option Nat) (rk : Nat → Option Nat) (co : Int → Int) (so : Int → Int) (si : Int → Int) (pr : Int → Int) (co2 : Int → Int) (so2 : Int → Int) (si2 : Int → Int) (pr2 : Int → Int) (bo : Int → Int) (S : Nat → Int) (tx : Int → Int) (cl : Int → Int) (wd : Int → Int) (nu : Int → Int) (fo : Int → Int) (to : Int → Int) (la : Int → Int) (po : Int → Int) (pt : Int → Int) (sg : Int → Int) (wt : Int → Int) (pl : Int → Int) (kd : Int → Int) (vv : Int → Int) (hd : Int → Int) (rm : Int → Int) (sp : Int → Int) (le : Int → Int) (mk : Int → Int) (wo : Int → Int) (mpn : Int → Int) (mr : Int → Int) (ts : Int → Int) (tl : Int → Int) (it : Int → Int) (asd : Int → Int) (mco : Int → Int) (mso : Int → Int) (msi : Int → Int) (mpr : Int → Int) (mco2 : Int → Int) (mso2 : Int → Int) (msi2 : Int → Int) (mpr2 : Int → Int) (mbo : Int → Int) : va_W := [(xo, xO xa X), (xa 0, aInt E 100 tb), (xa 2, aRef E 3 4 ck), (xa 4, aRef E 4 12 rk), (xa 6, o5 (some (xa 20)) (some (xa 21)) (some (xa 22)) (some (xa 23)) U), (xa 20, aInt E 24 co), (xa 21, aInt E 4 so), (xa 22, aInt E 4 si), (xa 23, aInt E 4 pr), (xa 7, o5 (some (xa 24)) (some (xa 25)) (some (xa 26)) (some (xa 27)) V), (xa 24, aInt E 24 co2), (xa 25, aInt E 4 so2), (xa 26, aInt E 4 si2), (xa 27, aInt E 4 pr2), (xa 9, aRef E 5 6 tk), (xa 10, o8 (some (xa 28)) Q), (xa 28, aInt E 20 bo), (xa 11, o4 (some (xa 29)) B), (xa 29, aInt E 0 bw), (xa 12, o7 r0 (some (xa 30)) T), (xa 30, aInt E 24 cx), (xa 13, o3 (some (xa 12)) (some (xa 31)) Z), (xa 31, aLng E 39852 kn), (xa 14, o2 (some (xa 12)) (some (xa 13)) (some (xa 32)) Y), (xa 32, aInt E 12 pn), (mo, mO ad S), (ad 5, aInt E 100 tx), (ad 6, aInt E 4 cl), (ad 7, aInt E 48 wd), (ad 8, aInt E 48 nu), (ad 9, aInt E 48 fo), (ad 10, aInt E 48 to), (ad 11, aInt E 36 la), (ad 12, aInt E 4 po), (ad 13, aInt E 20 pt), (ad 14, aInt E 400 sg), (ad 15, aInt E 101 wt), (ad 19, aBoo E 100 pl), (ad 22, aInt E 24 mco), (ad 24, aInt E 12 kd), (ad 25, aInt E 12 vv), (ad 26, aInt E 12 hd), (ad 27, aInt E 144 rm), (ad 32, aInt E 12 sp), (ad 33, aInt E 588 le), (ad 39, aBoo E 43173 mk), (ad 40, aInt E 43173 wo), (ad 47, aInt E 12 mpn), (ad 49, aInt E 4 mso), (ad 50, aInt E 4 msi), (ad 51, aInt E 4 mpr), (ad 52, aInt E 4 mr), (ad 58, aInt E 24 mco2), (ad 59, aInt E 4 mso2), (ad 60, aInt E 4 msi2), (ad 61, aInt E 4 mpr2), (ad 63, aInt E 20 mbo), (ad 64, aInt E 6 ts), (ad 65, aInt E 6 tl), (ad 66, aLng E 360 it), (ad 67, aLng E 60 asd)]
def WF (E : En) (qa : Nat → Nat) (qi : Nat → Nat) (ca : Nat → Nat) (pa : Nat → Nat) (da : Nat → Nat) (sa : Nat → Nat) (ra : Nat → Nat) (rr : Nat → Nat) (dr : Nat → Int → Int) (sr : Nat → Int → Int) (nC : Nat) (nR : Nat) (la : Int → Int) (po : Int → Int) (pt : Int → Int) (kd : Int → Int) (vv : Int → Int) (hd : Int → Int) (rm : Int → Int) (ts : Int → Int) (tl : Int → Int) (it : Int → Int) : va_W := fam nC (fC E ca pa da sa la po pt dr sr) ++ (fam nR (fR E ra rr kd vv hd rm) ++ fam 6 (fT E qa qi ts tl it))
def IvS (S X U V Q : Nat → Int) (nC nR : Nat) : Prop := (0 ≤ S 0 ∧ S 0 ≤ 4) ∧ (-1 ≤ S 1 ∧ S 1 ≤ S 0 - 1) ∧ (0 ≤ S 2 ∧ S 2 ≤ 100) ∧ (0 ≤ S 20 ∧ S 20 ≤ 1) ∧ (0 ≤ S 21 ∧ S 21 ≤ 40) ∧ (0 ≤ S 23 ∧ S 23 ≤ 12) ∧ (0 ≤ S 48 ∧ S 48 ≤ 4) ∧ (0 ≤ S 53 ∧ S 53 ≤ 1) ∧ (0 ≤ S 54 ∧ S 54 ≤ 1) ∧ (-1 ≤ S 55 ∧ S 55 ≤ S 0 - 1) ∧ (0 ≤ S 56 ∧ S 56 ≤ 40) ∧ (0 ≤ S 57 ∧ S 57 ≤ 4) ∧ (0 ≤ S 62 ∧ S 62 ≤ 1000000) ∧ X 1 = S 2 ∧ X 3 = S 0 ∧ X 5 = S 23 ∧ X 8 = S 53 ∧ U 1 = S 20 ∧ U 2 = S 21 ∧ ((S 1 = -1 ∧ U 3 = -5) ∨ (0 ≤ S 1 ∧ U 3 = S 1)) ∧ U 7 = S 48 ∧ V 1 = S 54 ∧ V 2 = S 56 ∧ ((S 55 = -1 ∧ V 3 = -5) ∨ (0 ≤ S 55 ∧ V 3 = S 55)) ∧ V 7 = S 57 ∧ Q 1 = S 62 ∧ S 0 = (nC : Int) ∧ S 23 = (nR : Int)
def IvP (Z : Nat → Int) (kn : Int → Int) (q : Nat) : Prop := KnB (Z 2) kn ∧ Z 2 ≤ 20 * (q : Int)
def IvT (tb tx : Int → Int) : Prop := ∀ j, 0 ≤ j → j < 100 → tb j = tx j % 256 ∧ -128 ≤ tx j ∧ tx j ≤ 127
def IvC (wd nu fo to sg cl : Int → Int) (Fq : Int → Int → Int → Int) (la po pt : Int → Int) (ck : Nat → Option Nat) (ca : Nat → Nat) (dr sr : Nat → Int → Int) (nC : Nat) : Prop := ∀ t : Nat, t < nC → ck t = some (ca t) ∧ MSum wd nu fo to sg cl Fq (t : Int) ∧ wfC (cM la po (t : Int)) (pM pt (t : Int)) ∧ (∀ c, 12 * (t : Int) ≤ c → c < 12 * (t : Int) + cl t → wd c = 3 ∨ wd c = 7 → to c ≤ 100 * (t : Int) + 100) ∧ ∀ j, 0 ≤ j → j < 24 → dr t j = smM wd nu cl Fq (t : Int) 3 (j % 12) (j / 12) ∧ sr t j = smM wd nu cl Fq (t : Int) 7 (j % 12) (j / 12)
def IvG (sg wt la pt : Int → Int) (nC : Nat) : Prop := (∀ j, 0 ≤ j → j < 400 → -200 ≤ sg j ∧ sg j ≤ 20000) ∧ (∀ j, 0 ≤ j → j < 101 → 0 ≤ wt j ∧ wt j ≤ 200) ∧ (∀ q, 0 ≤ q → q ≤ 3 → 0 ≤ la (9 * q + 8) ∧ la (9 * q + 8) ≤ 40) ∧ ∀ j, 5 * (nC : Int) ≤ j → j < 20 → pt j = 0
def IvA (pl mk : Int → Int) : Prop := (∀ j, 0 ≤ j → j < 100 → 0 ≤ pl j ∧ pl j ≤ 1) ∧ ∀ j, 0 ≤ j → j < 43173 → 0 ≤ mk j ∧ mk j ≤ 1
def IvR (kd vv hd rm : Int → Int) (rk : Nat → Option Nat) (ra : Nat → Nat) (nR : Nat) : Prop := (∀ t : Nat, t < nR → rk t = some (ra t)) ∧ (∀ j, 0 ≤ j → j < 12 → (0 ≤ kd j ∧ kd j ≤ 6) ∧ (0 ≤ vv j ∧ vv j ≤ 20) ∧ (0 ≤ hd j ∧ hd j ≤ 12) ∧ (¬ kd j = 6 → hd j = 0)) ∧ (∀ j, 0 ≤ j → j < 144 → 0 ≤ rm j ∧ rm j ≤ 1) ∧ ∀ j, 12 * (nR : Int) ≤ j → j < 144 → rm j = 0
def IvK (ts tl it : Int → Int) : Prop := (∀ j, 0 ≤ j → j < 6 → (-1 ≤ ts j ∧ ts j ≤ 4) ∧ (0 ≤ tl j ∧ tl j ≤ 60) ∧ (ts j < 0 → tl j = 0)) ∧ (∀ j, 0 ≤ j → j < 360 → R64 (it j)) ∧ ∀ t j, 0 ≤ t → t < 6 → 0 ≤ j → j < 60 → ts t < 0 ∨ ts t = 2 → R32 (it (60 * t + j))
def IvN (co so si pr : Int → Int) (m : Int) : Prop := (∀ j, 0 ≤ j → j < 24 → 0 ≤ co j ∧ co j ≤ 6) ∧ ∀ j, 0 ≤ j → j < m → (0 ≤ so j ∧ so j ≤ 3) ∧ (1 ≤ si j ∧ si j ≤ 20) ∧ (0 ≤ pr j ∧ pr j ≤ 99)
abbrev Good (E : En) (xo : Nat) (mo : Nat) (xa : Nat → Nat) (ad : Nat → Nat) (qa : Nat → Nat) (qi : Nat → Nat) (tk : Nat → Option Nat) (B : Nat → Int) (bw : Int → Int) (q : Nat) (ws : va_W) : Prop := ∃ (X : Nat → Int), ∃ (U : Nat → Int), ∃ (V : Nat → Int), ∃ (Q : Nat → Int), ∃ (T : Nat → Int), ∃ (Z : Nat → Int), ∃ (Y : Nat → Int), ∃ (r0 : Option Nat), ∃ (tb : Int → Int), ∃ (cx : Int → Int), ∃ (kn : Int → Int), ∃ (pn : Int → Int), ∃ (ck : Nat → Option Nat), ∃ (rk : Nat → Option Nat), ∃ (co : Int → Int), ∃ (so : Int → Int), ∃ (si : Int → Int), ∃ (pr : Int → Int), ∃ (co2 : Int → Int), ∃ (so2 : Int → Int), ∃ (si2 : Int → Int), ∃ (pr2 : Int → Int), ∃ (bo : Int → Int), ∃ (S : Nat → Int), ∃ (tx : Int → Int), ∃ (cl : Int → Int), ∃ (wd : Int → Int), ∃ (nu : Int → Int), ∃ (fo : Int → Int), ∃ (to : Int → Int), ∃ (la : Int → Int), ∃ (po : Int → Int), ∃ (pt : Int → Int), ∃ (sg : Int → Int), ∃ (wt : Int → Int), ∃ (pl : Int → Int), ∃ (kd : Int → Int), ∃ (vv : Int → Int), ∃ (hd : Int → Int), ∃ (rm : Int → Int), ∃ (sp : Int → Int), ∃ (le : Int → Int), ∃ (mk : Int → Int), ∃ (wo : Int → Int), ∃ (mpn : Int → Int), ∃ (mr : Int → Int), ∃ (ts : Int → Int), ∃ (tl : Int → Int), ∃ (it : Int → Int), ∃ (asd : Int → Int), ∃ (ca : Nat → Nat), ∃ (pa : Nat → Nat), ∃ (da : Nat → Nat), ∃ (sa : Nat → Nat), ∃ (ra : Nat → Nat), ∃ (rr : Nat → Nat), ∃ (dr : Nat → Int → Int), ∃ (sr : Nat → Int → Int), ∃ (nC : Nat), ∃ (nR : Nat), ∃ (Fq : Int → Int → Int → Int), ws.Perm (WL E xo mo xa ad tk B bw X U V Q T Z Y r0 tb cx kn pn ck rk co so si pr co2 so2 si2 pr2 bo S tx cl wd nu fo to la po pt sg wt pl kd vv hd rm sp le mk wo mpn mr ts tl it asd co so si pr co2 so2 si2 pr2 bo ++ WF E qa qi ca pa da sa ra rr dr sr nC nR la po pt kd vv hd rm ts tl it) ∧ IvS S X U V Q nC nR ∧ IvP Z kn q ∧ IvT tb tx ∧ IvC wd nu fo to sg cl Fq la po pt ck ca dr sr nC ∧ IvG sg wt la pt nC ∧ IvA pl mk ∧ IvR kd vv hd rm rk ra nR ∧ IvK ts tl it ∧ IvN co so si pr (S 48) ∧ IvN co2 so2 si2 pr2 (S 57)
/-! worlds up to order -/
theorem pick2 {L wc wr tail : va_W} (m : Nat) (hm : L.length = m) (is js : List Nat) (hp : (is ++ js).isPerm (List.range m) = true) (h1 : is.filterMap (fun i => L[i]?) = wc) (h2 : js.filterMap (fun i => L[i]?) = wr) : (L ++ tail).Perm (wc ++ (wr ++ tail)) := pick is js (by rw [hm]; exact hp) h1 h2
theorem pb_of {a wc wr τ : va_W} (h : a.Perm (wc ++ (wr ++ τ))) : ((wr ++ τ) ++ wc).Perm a := List.perm_append_comm.trans h.symm
theorem op1 {L τ : va_W} {n t : Nat} {f : Nat → va_W} (h : t < n) : (L ++ (fam n f ++ τ)).Perm ((L ++ f t) ++ (famx n t f ++ τ)) := by
  rw [List.append_assoc]
  refine List.Perm.append_left L ?_
  rw [← List.append_assoc]
  exact (fam_pull h).append_right τ
theorem op2 {L F τ : va_W} {n t : Nat} {f : Nat → va_W} (h : t < n) : (L ++ (F ++ (fam n f ++ τ))).Perm ((L ++ f t) ++ (F ++ (famx n t f ++ τ))) := by
  rw [List.append_assoc]
  refine List.Perm.append_left L ?_
  refine (List.Perm.append_left F ((fam_pull h).append_right τ)).trans ?_
  rw [List.append_assoc]
  rw [← List.append_assoc, ← List.append_assoc (f t)]
  exact List.perm_append_comm.append_right _
theorem op3 {L F1 F2 : va_W} {n t : Nat} {f : Nat → va_W} (h : t < n) : (L ++ (F1 ++ (F2 ++ fam n f))).Perm ((L ++ f t) ++ (F1 ++ (F2 ++ famx n t f))) := by
  have a := op2 (L := L) (F := F1 ++ F2) (τ := []) (f := f) h
  rw [List.append_nil, List.append_nil, List.append_assoc, List.append_assoc] at a
  exact a
def famy (n t o : Nat) (f : Nat → va_W) : va_W := (((List.range n).erase t).erase o).flatMap f
theorem famx_pull {n t o : Nat} {f : Nat → va_W} (h : o < n) (ho : o ≠ t) : (famx n t f).Perm (f o ++ famy n t o f) := by
  have e := List.perm_cons_erase ((List.Nodup.mem_erase_iff List.nodup_range).mpr ⟨ho, List.mem_range.mpr h⟩)
  have e2 := e.flatMap_right f
  rw [List.flatMap_cons] at e2
  exact e2
theorem famy_congr {n t o : Nat} {f g : Nat → va_W} (h : ∀ j, j < n → j ≠ t → j ≠ o → f j = g j) : famy n t o f = famy n t o g := fm_congr _ (fun j hj => by
  have h1 := (List.Nodup.mem_erase_iff (List.nodup_range.erase t)).mp hj
  have h2 := (List.Nodup.mem_erase_iff List.nodup_range).mp h1.2
  exact h j (List.mem_range.mp h2.2) h2.1 h1.1)
theorem op3y {L F1 F2 : va_W} {n t o : Nat} {f : Nat → va_W} (h : t < n) (h2 : o < n) (ho : o ≠ t) : (L ++ (F1 ++ (F2 ++ fam n f))).Perm ((L ++ (f t ++ f o)) ++ (F1 ++ (F2 ++ famy n t o f))) := by
  refine (op3 h).trans ?_
  have a : (F1 ++ (F2 ++ famx n t f)).Perm (f o ++ (F1 ++ (F2 ++ famy n t o f))) := by
    refine (List.Perm.append_left F1 (List.Perm.append_left F2 (famx_pull h2 ho))).trans ?_
    rw [← List.append_assoc, ← List.append_assoc, ← List.append_assoc, ← List.append_assoc, List.append_assoc (f o)]
    exact List.perm_append_comm.append_right _
  refine (List.Perm.append_left _ a).trans ?_
  rw [← List.append_assoc, ← List.append_assoc]
/-! steps of the law -/
def lF (i : Int) (b0 xo mo : Nat) : List (Nat × Value) := [(0, .ref b0), (1, .ref xo), (2, .ref mo), (3, .int (iZ i))]
def sv (xs0 : Nat → Int32) (i c : Int) : Int := (xs0 (i + c).toNat).toInt
theorem sv_r {xs0 : Nat → Int32} {i c w : Int} (h : w = sv xs0 i c) : R32 w := by rw [h]; exact iZ_r _
section
variable {E : En} {Γ : Ctx} {A : Nat → Prop} {own : String} {rm : Room} {k n : Nat} {ws : va_W} {pc : Nat} {ls : List (Nat × Value)} {st : List Value} {nL : Nat} {cc : ByteArray} {md : Option (Nat → Prop)}
theorem j_arg (G : Gd E nL Γ cc own rm) {b0 Ls xo mo : Nat} {xs0 : Nat → Int32} (hX : va_X b0 Ls xs0 (xs Γ) (xs Γ).heap) (hb : b0 < (xs Γ).heap.size) (hA : ¬ A b0) {i c w : Int} (hi : 0 ≤ i ∧ i + 5 < Ls ∧ Ls ≤ 3072) (hw : w = sv xs0 i c) (hc : 0 ≤ c ∧ c ≤ 5) (d0 : decode cc pc = .ok (.aload_n 0, 1)) (d1 : decode cc (pc + 1) = .ok (.iload_n 3, 1)) (d2 : decode cc (pc + 2) = .ok (.iconst c, 1)) (d3 : decode cc (pc + 3) = .ok (.iadd, 1)) (d4 : decode cc (pc + 4) = .ok (.iaload, 1)) (kk : J E nL Γ (some A) k n ws (pc + 5) (lF i b0 xo mo) (.int (iZ w) :: st)) : J E nL Γ (some A) k n ws pc (lF i b0 xo mo) st := by
  refine j_aload_n G 0 rfl d0 ?_
  refine j_iload_n G 3 rfl d1 ?_
  refine j_iconst G d2 ?_
  refine j_iadd G d3 ?_
  refine j_sld G hX hb hA ⟨by omega, by omega, by omega⟩ d4 ?_
  refine j_top (y := iZ w) (by rw [hw]; exact (iZ_of _).symm) kk
theorem j_ieq (G : Gd E nL Γ cc own rm) {off : Int} {tgt : Nat} {x : Int32} (d : decode cc pc = .ok (.if_icmp .eq off, 3)) (ht : (pc : Int) + off = (tgt : Int)) (kk : J E nL Γ md k n ws tgt ls st) : J E nL Γ md k n ws pc ls (.int x :: .int x :: st) := fun H locs hP hD hS L hL => lv_icmp_eq G.1 G.2.1 d ht (fun _ => kk H locs hP hD hS L hL) (fun h => absurd rfl h)
theorem j_leq (G : Gd E nL Γ cc own rm) {off : Int} {tgt : Nat} {x : Int64} (d : decode cc pc = .ok (.lcmp, 1)) (d2 : decode cc (pc + 1) = .ok (.ifCond .eq off, 3)) (ht : ((pc + 1 : Nat) : Int) + off = (tgt : Int)) (kk : J E nL Γ md k n ws tgt ls st) : J E nL Γ md k n ws pc ls (.long x :: .long x :: st) := fun H locs hP hD hS L hL => W.lcmp G.1 G.2.1 d (by
  have e : lg_cmp x x = iZ 0 := by simp [lg_cmp]; rfl
  rw [e]
  exact (j_if_eq G d2 ht (by decide) (fun _ => kk) (fun h => absurd rfl h)) H locs hP hD hS L hL)
end
