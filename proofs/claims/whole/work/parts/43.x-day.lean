/-- the edition stands, nothing kept is of a later one -/
def KnB (ed : Int) (kn : Int → Int) : Prop := (0 ≤ ed ∧ ed ≤ 100000000) ∧ ∀ j, 0 ≤ j → j < 39852 → 0 ≤ kn j ∧ kn j / 1048576 ≤ ed
theorem KnK.b {K : Dy} {sp ed : Int} {kn : Int → Int} (h : KnK K sp ed kn) : KnB ed kn := ⟨h.1, fun j h1 h2 => (h.2 j h1 h2).1⟩
theorem KnB.k {K : Dy} {sp ed : Int} {kn : Int → Int} (h : KnB ed kn) (he : ed < 100000000) : KnK K sp (ed + 1) kn := ⟨by have := h.1; omega, fun j h1 h2 => by
  have := h.2 j h1 h2
  exact ⟨⟨this.1, by omega⟩, fun q => by omega⟩⟩
theorem d2_begin_0 : decode c2_begin 0 = .ok (.aload_n 0, 1) := by decide +kernel
theorem d2_begin_1 : decode c2_begin 1 = .ok (.iload_n 1, 1) := by decide +kernel
theorem d2_begin_2 : decode c2_begin 2 = .ok (.putfield 74, 3) := by decide +kernel
theorem d2_begin_5 : decode c2_begin 5 = .ok (.aload_n 0, 1) := by decide +kernel
theorem d2_begin_6 : decode c2_begin 6 = .ok (.iconst 0, 1) := by decide +kernel
theorem d2_begin_7 : decode c2_begin 7 = .ok (.putfield 77, 3) := by decide +kernel
theorem d2_begin_10 : decode c2_begin 10 = .ok (.aload_n 0, 1) := by decide +kernel
theorem d2_begin_11 : decode c2_begin 11 = .ok (.iconst 0, 1) := by decide +kernel
theorem d2_begin_12 : decode c2_begin 12 = .ok (.putfield 80, 3) := by decide +kernel
theorem d2_begin_15 : decode c2_begin 15 = .ok (.aload_n 0, 1) := by decide +kernel
theorem d2_begin_16 : decode c2_begin 16 = .ok (.iconst 0, 1) := by decide +kernel
theorem d2_begin_17 : decode c2_begin 17 = .ok (.putfield 71, 3) := by decide +kernel
theorem d2_begin_20 : decode c2_begin 20 = .ok (.aload_n 0, 1) := by decide +kernel
theorem d2_begin_21 : decode c2_begin 21 = .ok (.iconst 0, 1) := by decide +kernel
theorem d2_begin_22 : decode c2_begin 22 = .ok (.putfield 83, 3) := by decide +kernel
theorem d2_begin_25 : decode c2_begin 25 = .ok (.aload_n 0, 1) := by decide +kernel
theorem d2_begin_26 : decode c2_begin 26 = .ok (.iconst 0, 1) := by decide +kernel
theorem d2_begin_27 : decode c2_begin 27 = .ok (.putfield 86, 3) := by decide +kernel
theorem d2_begin_30 : decode c2_begin 30 = .ok (.aload_n 0, 1) := by decide +kernel
theorem d2_begin_31 : decode c2_begin 31 = .ok (.iconst 0, 1) := by decide +kernel
theorem d2_begin_32 : decode c2_begin 32 = .ok (.putfield 89, 3) := by decide +kernel
theorem d2_begin_35 : decode c2_begin 35 = .ok (.aload_n 0, 1) := by decide +kernel
theorem d2_begin_36 : decode c2_begin 36 = .ok (.iconst 0, 1) := by decide +kernel
theorem d2_begin_37 : decode c2_begin 37 = .ok (.putfield 92, 3) := by decide +kernel
theorem d2_begin_40 : decode c2_begin 40 = .ok (.return_, 1) := by decide +kernel
theorem mw2_begin : MV y2_begin c2_begin 2 none 1 := ⟨cd2_begin, ini2, na2_begin, im2_begin, se2_begin⟩
set_option maxHeartbeats 4000000 in
set_option maxRecDepth 100000 in
theorem k2_begin (l : Launch) (E : En) (ya : Nat) (na : Nat) (Y : Nat → Int) (ta : Nat) (la : Nat) (p0 : Int)  : Cm l E y2_begin c2_begin 2 none { frames := 0, cells := 0, slots := 0, locals := 0 } [.ref ya, .int (iZ p0)] [(ya, o2 (some ta) (some la) (some na) Y)] (fun r ws => r = none ∧ ws = [(ya, o2 (some ta) (some la) (some na) (upS (upS (upS (upS (upS (upS (upS (upS Y 3 p0) 4 0) 5 0) 9 0) 10 0) 11 0) 12 0) 13 0))] ∧ True) := by
  refine Cm.of (by decide +kernel) (Nat.le_of_ble_eq_true rfl) (fun Γ A hl hargs hin G F => ?_)
  subst hl
  refine j_aload_n G 0 rfl d2_begin_0 ?_
  refine j_iload_n G 1 rfl d2_begin_1 ?_
  refine j_put G 0 2 3 in2 tyok2 nm2 fl2_74 d2_begin_2 rfl rfl (by decide) ⟨rfl, rfl⟩ rfl rfl (Nat.le_of_ble_eq_true rfl) (e := o2 (some ta) (some la) (some na) (upS Y 3 p0)) rfl ?_
  refine j_aload_n G 0 rfl d2_begin_5 ?_
  refine j_iconst G d2_begin_6 ?_
  refine j_put G 0 2 4 in2 tyok2 nm2 fl2_77 d2_begin_7 rfl rfl (by decide) ⟨rfl, rfl⟩ rfl rfl (Nat.le_of_ble_eq_true rfl) (e := o2 (some ta) (some la) (some na) (upS (upS Y 3 p0) 4 0)) rfl ?_
  refine j_aload_n G 0 rfl d2_begin_10 ?_
  refine j_iconst G d2_begin_11 ?_
  refine j_put G 0 2 5 in2 tyok2 nm2 fl2_80 d2_begin_12 rfl rfl (by decide) ⟨rfl, rfl⟩ rfl rfl (Nat.le_of_ble_eq_true rfl) (e := o2 (some ta) (some la) (some na) (upS (upS (upS Y 3 p0) 4 0) 5 0)) rfl ?_
  refine j_aload_n G 0 rfl d2_begin_15 ?_
  refine j_iconst G d2_begin_16 ?_
  refine j_put G 0 2 9 in2 tyok2 nm2 fl2_71 d2_begin_17 rfl rfl (by decide) ⟨rfl, rfl⟩ rfl rfl (Nat.le_of_ble_eq_true rfl) (e := o2 (some ta) (some la) (some na) (upS (upS (upS (upS Y 3 p0) 4 0) 5 0) 9 0)) rfl ?_
  refine j_aload_n G 0 rfl d2_begin_20 ?_
  refine j_iconst G d2_begin_21 ?_
  refine j_put G 0 2 10 in2 tyok2 nm2 fl2_83 d2_begin_22 rfl rfl (by decide) ⟨rfl, rfl⟩ rfl rfl (Nat.le_of_ble_eq_true rfl) (e := o2 (some ta) (some la) (some na) (upS (upS (upS (upS (upS Y 3 p0) 4 0) 5 0) 9 0) 10 0)) rfl ?_
  refine j_aload_n G 0 rfl d2_begin_25 ?_
  refine j_iconst G d2_begin_26 ?_
  refine j_put G 0 2 11 in2 tyok2 nm2 fl2_86 d2_begin_27 rfl rfl (by decide) ⟨rfl, rfl⟩ rfl rfl (Nat.le_of_ble_eq_true rfl) (e := o2 (some ta) (some la) (some na) (upS (upS (upS (upS (upS (upS Y 3 p0) 4 0) 5 0) 9 0) 10 0) 11 0)) rfl ?_
  refine j_aload_n G 0 rfl d2_begin_30 ?_
  refine j_iconst G d2_begin_31 ?_
  refine j_put G 0 2 12 in2 tyok2 nm2 fl2_89 d2_begin_32 rfl rfl (by decide) ⟨rfl, rfl⟩ rfl rfl (Nat.le_of_ble_eq_true rfl) (e := o2 (some ta) (some la) (some na) (upS (upS (upS (upS (upS (upS (upS Y 3 p0) 4 0) 5 0) 9 0) 10 0) 11 0) 12 0)) rfl ?_
  refine j_aload_n G 0 rfl d2_begin_35 ?_
  refine j_iconst G d2_begin_36 ?_
  refine j_put G 0 2 13 in2 tyok2 nm2 fl2_92 d2_begin_37 rfl rfl (by decide) ⟨rfl, rfl⟩ rfl rfl (Nat.le_of_ble_eq_true rfl) (e := o2 (some ta) (some la) (some na) (upS (upS (upS (upS (upS (upS (upS (upS Y 3 p0) 4 0) 5 0) 9 0) 10 0) 11 0) 12 0) 13 0)) rfl ?_
  exact j_vret G F d2_begin_40 ⟨rfl, rfl, trivial⟩
theorem d2_close_0 : decode c2_close 0 = .ok (.aload_n 0, 1) := by decide +kernel
theorem d2_close_1 : decode c2_close 1 = .ok (.dup, 1) := by decide +kernel
theorem d2_close_2 : decode c2_close 2 = .ok (.getfield 86, 3) := by decide +kernel
theorem d2_close_5 : decode c2_close 5 = .ok (.aload_n 0, 1) := by decide +kernel
theorem d2_close_6 : decode c2_close 6 = .ok (.getfield 77, 3) := by decide +kernel
theorem d2_close_9 : decode c2_close 9 = .ok (.aload_n 0, 1) := by decide +kernel
theorem d2_close_10 : decode c2_close 10 = .ok (.getfield 80, 3) := by decide +kernel
theorem d2_close_13 : decode c2_close 13 = .ok (.iadd, 1) := by decide +kernel
theorem d2_close_14 : decode c2_close 14 = .ok (.iadd, 1) := by decide +kernel
theorem d2_close_15 : decode c2_close 15 = .ok (.putfield 86, 3) := by decide +kernel
theorem d2_close_18 : decode c2_close 18 = .ok (.return_, 1) := by decide +kernel
theorem mw2_close : MV y2_close c2_close 1 none 0 := ⟨cd2_close, ini2, na2_close, im2_close, se2_close⟩
set_option maxHeartbeats 4000000 in
set_option maxRecDepth 100000 in
theorem k2_close (l : Launch) (E : En) (ya : Nat) (na : Nat) (Y : Nat → Int) (ta : Nat) (la : Nat)  : Cm l E y2_close c2_close 1 none { frames := 0, cells := 0, slots := 0, locals := 0 } [.ref ya] [(ya, o2 (some ta) (some la) (some na) Y)] (fun r ws => r = none ∧ ws = [(ya, o2 (some ta) (some la) (some na) (upS Y 11 (Y 11 + (Y 4 + Y 5))))] ∧ True) := by
  refine Cm.of (by decide +kernel) (Nat.le_of_ble_eq_true rfl) (fun Γ A hl hargs hin G F => ?_)
  subst hl
  refine j_aload_n G 0 rfl d2_close_0 ?_
  refine j_dup G d2_close_1 rfl ?_
  refine j_get G 0 2 11 in2 fl2_86 d2_close_2 rfl rfl (by decide) (v := .int (iZ (Y 11))) rfl rfl ?_
  refine j_aload_n G 0 rfl d2_close_5 ?_
  refine j_get G 0 2 4 in2 fl2_77 d2_close_6 rfl rfl (by decide) (v := .int (iZ (Y 4))) rfl rfl ?_
  refine j_aload_n G 0 rfl d2_close_9 ?_
  refine j_get G 0 2 5 in2 fl2_80 d2_close_10 rfl rfl (by decide) (v := .int (iZ (Y 5))) rfl rfl ?_
  refine j_iadd G d2_close_13 ?_
  refine j_iadd G d2_close_14 ?_
  refine j_put G 0 2 11 in2 tyok2 nm2 fl2_86 d2_close_15 rfl rfl (by decide) ⟨rfl, rfl⟩ rfl rfl (Nat.le_of_ble_eq_true rfl) (e := o2 (some ta) (some la) (some na) (upS Y 11 ((Y 11) + ((Y 4) + (Y 5))))) rfl ?_
  exact j_vret G F d2_close_18 ⟨rfl, rfl, trivial⟩
theorem d2_isLastStep_0 : decode c2_isLastStep 0 = .ok (.aload_n 0, 1) := by decide +kernel
theorem d2_isLastStep_1 : decode c2_isLastStep 1 = .ok (.getfield 95, 3) := by decide +kernel
theorem d2_isLastStep_4 : decode c2_isLastStep 4 = .ok (.bipush 11, 2) := by decide +kernel
theorem d2_isLastStep_6 : decode c2_isLastStep 6 = .ok (.if_icmp .ne 7, 3) := by decide +kernel
theorem d2_isLastStep_9 : decode c2_isLastStep 9 = .ok (.iconst 1, 1) := by decide +kernel
theorem d2_isLastStep_10 : decode c2_isLastStep 10 = .ok (.goto 4, 3) := by decide +kernel
theorem d2_isLastStep_13 : decode c2_isLastStep 13 = .ok (.iconst 0, 1) := by decide +kernel
theorem d2_isLastStep_14 : decode c2_isLastStep 14 = .ok (.ireturn, 1) := by decide +kernel
theorem mw2_isLastStep : MV y2_isLastStep c2_isLastStep 1 (some .boolean) 0 := ⟨cd2_isLastStep, ini2, na2_isLastStep, im2_isLastStep, se2_isLastStep⟩
set_option maxHeartbeats 4000000 in
set_option maxRecDepth 100000 in
theorem k2_isLastStep (l : Launch) (E : En) (ya : Nat) (na : Nat) (Y : Nat → Int) (ta : Nat) (la : Nat) (hy : 0 ≤ Y 2 ∧ Y 2 ≤ 11) : Cp l E y2_isLastStep c2_isLastStep 1 (some .boolean) 0 0 [.ref ya] [(ya, o2 (some ta) (some la) (some na) Y)] (fun r => ∃ (v : Int), r = some (.int (iZ v)) ∧ (((Y 2 = 11) ∧ v = 1) ∨ (¬ (Y 2 = 11) ∧ v = 0))) := by
  refine Cp.of (by decide +kernel) (Nat.le_of_ble_eq_true rfl) (fun Γ hl hargs G F => ?_)
  subst hl
  refine j_aload_n G 0 rfl d2_isLastStep_0 ?_
  refine j_get G 0 2 2 in2 fl2_95 d2_isLastStep_1 rfl rfl (by decide) (v := .int (iZ (Y 2))) rfl rfl ?_
  refine j_bipush G d2_isLastStep_4 rfl ?_
  refine j_icmp_ne (tgt := 13) G d2_isLastStep_6 (by decide) (by omega) (by decide) (fun h1 => ?_) (fun h1 => ?_)
  ·
    refine j_iconst G d2_isLastStep_13 ?_
    exact j_zret G F d2_isLastStep_14 (by decide) ⟨0, rfl, (by first | (left; exact ⟨by omega, rfl⟩) | (right; exact ⟨by omega, rfl⟩))⟩
  ·
    refine j_iconst G d2_isLastStep_9 ?_
    refine j_goto (tgt := 14) G d2_isLastStep_10 (by decide) ?_
    exact j_zret G F d2_isLastStep_14 (by decide) ⟨1, rfl, (by first | (left; exact ⟨by omega, rfl⟩) | (right; exact ⟨by omega, rfl⟩))⟩
theorem d2_worth_0 : decode c2_worth 0 = .ok (.bipush 100, 2) := by decide +kernel
theorem d2_worth_2 : decode c2_worth 2 = .ok (.aload_n 0, 1) := by decide +kernel
theorem d2_worth_3 : decode c2_worth 3 = .ok (.getfield 71, 3) := by decide +kernel
theorem d2_worth_6 : decode c2_worth 6 = .ok (.imul, 1) := by decide +kernel
theorem d2_worth_7 : decode c2_worth 7 = .ok (.aload_n 0, 1) := by decide +kernel
theorem d2_worth_8 : decode c2_worth 8 = .ok (.getfield 74, 3) := by decide +kernel
theorem d2_worth_11 : decode c2_worth 11 = .ok (.iadd, 1) := by decide +kernel
theorem d2_worth_12 : decode c2_worth 12 = .ok (.ireturn, 1) := by decide +kernel
theorem mw2_worth : MV y2_worth c2_worth 1 (some .int) 0 := ⟨cd2_worth, ini2, na2_worth, im2_worth, se2_worth⟩
set_option maxHeartbeats 4000000 in
set_option maxRecDepth 100000 in
theorem k2_worth (l : Launch) (E : En) (ya : Nat) (na : Nat) (Y : Nat → Int) (ta : Nat) (la : Nat)  : Cp l E y2_worth c2_worth 1 (some .int) 0 0 [.ref ya] [(ya, o2 (some ta) (some la) (some na) Y)] (fun r => ∃ (v : Int), r = some (.int (iZ v)) ∧ (v = 100 * Y 9 + Y 3)) := by
  refine Cp.of (by decide +kernel) (Nat.le_of_ble_eq_true rfl) (fun Γ hl hargs G F => ?_)
  subst hl
  refine j_bipush G d2_worth_0 rfl ?_
  refine j_aload_n G 0 rfl d2_worth_2 ?_
  refine j_get G 0 2 9 in2 fl2_71 d2_worth_3 rfl rfl (by decide) (v := .int (iZ (Y 9))) rfl rfl ?_
  refine j_imul G d2_worth_6 ?_
  refine j_aload_n G 0 rfl d2_worth_7 ?_
  refine j_get G 0 2 3 in2 fl2_74 d2_worth_8 rfl rfl (by decide) (v := .int (iZ (Y 3))) rfl rfl ?_
  refine j_iadd G d2_worth_11 ?_
  exact j_iret G F d2_worth_12 ⟨(100 * (Y 9)) + (Y 3), rfl, (by rfl)⟩
theorem d2_makeTrip_0 : decode c2_makeTrip 0 = .ok (.aload_n 0, 1) := by decide +kernel
theorem d2_makeTrip_1 : decode c2_makeTrip 1 = .ok (.getfield 9, 3) := by decide +kernel
theorem d2_makeTrip_4 : decode c2_makeTrip 4 = .ok (.aload_n 0, 1) := by decide +kernel
theorem d2_makeTrip_5 : decode c2_makeTrip 5 = .ok (.getfield 95, 3) := by decide +kernel
theorem d2_makeTrip_8 : decode c2_makeTrip 8 = .ok (.iload_n 1, 1) := by decide +kernel
theorem d2_makeTrip_9 : decode c2_makeTrip 9 = .ok (.iastore, 1) := by decide +kernel
theorem d2_makeTrip_10 : decode c2_makeTrip 10 = .ok (.aload_n 0, 1) := by decide +kernel
theorem d2_makeTrip_11 : decode c2_makeTrip 11 = .ok (.dup, 1) := by decide +kernel
theorem d2_makeTrip_12 : decode c2_makeTrip 12 = .ok (.getfield 74, 3) := by decide +kernel
theorem d2_makeTrip_15 : decode c2_makeTrip 15 = .ok (.iload_n 1, 1) := by decide +kernel
theorem d2_makeTrip_16 : decode c2_makeTrip 16 = .ok (.isub, 1) := by decide +kernel
theorem d2_makeTrip_17 : decode c2_makeTrip 17 = .ok (.putfield 74, 3) := by decide +kernel
theorem d2_makeTrip_20 : decode c2_makeTrip 20 = .ok (.aload_n 0, 1) := by decide +kernel
theorem d2_makeTrip_21 : decode c2_makeTrip 21 = .ok (.dup, 1) := by decide +kernel
theorem d2_makeTrip_22 : decode c2_makeTrip 22 = .ok (.getfield 77, 3) := by decide +kernel
theorem d2_makeTrip_25 : decode c2_makeTrip 25 = .ok (.aload_n 0, 1) := by decide +kernel
theorem d2_makeTrip_26 : decode c2_makeTrip 26 = .ok (.getfield 122, 3) := by decide +kernel
theorem d2_makeTrip_29 : decode c2_makeTrip 29 = .ok (.isub, 1) := by decide +kernel
theorem d2_makeTrip_30 : decode c2_makeTrip 30 = .ok (.putfield 77, 3) := by decide +kernel
theorem d2_makeTrip_33 : decode c2_makeTrip 33 = .ok (.aload_n 0, 1) := by decide +kernel
theorem d2_makeTrip_34 : decode c2_makeTrip 34 = .ok (.dup, 1) := by decide +kernel
theorem d2_makeTrip_35 : decode c2_makeTrip 35 = .ok (.getfield 80, 3) := by decide +kernel
theorem d2_makeTrip_38 : decode c2_makeTrip 38 = .ok (.aload_n 0, 1) := by decide +kernel
theorem d2_makeTrip_39 : decode c2_makeTrip 39 = .ok (.getfield 125, 3) := by decide +kernel
theorem d2_makeTrip_42 : decode c2_makeTrip 42 = .ok (.isub, 1) := by decide +kernel
theorem d2_makeTrip_43 : decode c2_makeTrip 43 = .ok (.putfield 80, 3) := by decide +kernel
theorem d2_makeTrip_46 : decode c2_makeTrip 46 = .ok (.aload_n 0, 1) := by decide +kernel
theorem d2_makeTrip_47 : decode c2_makeTrip 47 = .ok (.dup, 1) := by decide +kernel
theorem d2_makeTrip_48 : decode c2_makeTrip 48 = .ok (.getfield 83, 3) := by decide +kernel
theorem d2_makeTrip_51 : decode c2_makeTrip 51 = .ok (.aload_n 0, 1) := by decide +kernel
theorem d2_makeTrip_52 : decode c2_makeTrip 52 = .ok (.getfield 122, 3) := by decide +kernel
theorem d2_makeTrip_55 : decode c2_makeTrip 55 = .ok (.iadd, 1) := by decide +kernel
theorem d2_makeTrip_56 : decode c2_makeTrip 56 = .ok (.putfield 83, 3) := by decide +kernel
theorem d2_makeTrip_59 : decode c2_makeTrip 59 = .ok (.aload_n 0, 1) := by decide +kernel
theorem d2_makeTrip_60 : decode c2_makeTrip 60 = .ok (.dup, 1) := by decide +kernel
theorem d2_makeTrip_61 : decode c2_makeTrip 61 = .ok (.getfield 71, 3) := by decide +kernel
theorem d2_makeTrip_64 : decode c2_makeTrip 64 = .ok (.aload_n 0, 1) := by decide +kernel
theorem d2_makeTrip_65 : decode c2_makeTrip 65 = .ok (.getfield 125, 3) := by decide +kernel
theorem d2_makeTrip_68 : decode c2_makeTrip 68 = .ok (.iadd, 1) := by decide +kernel
theorem d2_makeTrip_69 : decode c2_makeTrip 69 = .ok (.putfield 71, 3) := by decide +kernel
theorem d2_makeTrip_72 : decode c2_makeTrip 72 = .ok (.aload_n 0, 1) := by decide +kernel
theorem d2_makeTrip_73 : decode c2_makeTrip 73 = .ok (.dup, 1) := by decide +kernel
theorem d2_makeTrip_74 : decode c2_makeTrip 74 = .ok (.getfield 92, 3) := by decide +kernel
theorem d2_makeTrip_77 : decode c2_makeTrip 77 = .ok (.iconst 1, 1) := by decide +kernel
theorem d2_makeTrip_78 : decode c2_makeTrip 78 = .ok (.iadd, 1) := by decide +kernel
theorem d2_makeTrip_79 : decode c2_makeTrip 79 = .ok (.putfield 92, 3) := by decide +kernel
theorem d2_makeTrip_82 : decode c2_makeTrip 82 = .ok (.return_, 1) := by decide +kernel
theorem mw2_makeTrip : MV y2_makeTrip c2_makeTrip 2 none 1 := ⟨cd2_makeTrip, ini2, na2_makeTrip, im2_makeTrip, se2_makeTrip⟩
set_option maxHeartbeats 4000000 in
set_option maxRecDepth 100000 in
theorem k2_makeTrip (l : Launch) (E : En) (ya : Nat) (na : Nat) (Y : Nat → Int) (ta : Nat) (la : Nat) (pn : Int → Int) (w : Int) (hy : 0 ≤ Y 2 ∧ Y 2 ≤ 11) : Cm l E y2_makeTrip c2_makeTrip 2 none { frames := 0, cells := 0, slots := 0, locals := 0 } [.ref ya, .int (iZ w)] [(ya, o2 (some ta) (some la) (some na) Y), (na, aInt E 12 pn)] (fun r ws => ∃ (pn1 : Int → Int), r = none ∧ ws = [(ya, o2 (some ta) (some la) (some na) (upS (upS (upS (upS (upS (upS Y 3 (Y 3 - w)) 4 (Y 4 - Y 6)) 5 (Y 5 - Y 7)) 10 (Y 10 + Y 6)) 9 (Y 9 + Y 7)) 13 (Y 13 + 1))), (na, aInt E 12 pn1)] ∧ pn1 = upI pn (Y 2) w ∧ True) := by
  refine Cm.of (by decide +kernel) (Nat.le_of_ble_eq_true rfl) (fun Γ A hl hargs hin G F => ?_)
  subst hl
  refine j_aload_n G 0 rfl d2_makeTrip_0 ?_
  refine j_get G 0 2 14 in2 fl2_9 d2_makeTrip_1 rfl rfl (by decide) (v := .ref na) rfl rfl ?_
  refine j_aload_n G 0 rfl d2_makeTrip_4 ?_
  refine j_get G 0 2 2 in2 fl2_95 d2_makeTrip_5 rfl rfl (by decide) (v := .int (iZ (Y 2))) rfl rfl ?_
  refine j_iload_n G 1 rfl d2_makeTrip_8 ?_
  refine j_iast G 1 rfl (by omega) d2_makeTrip_9 ?_
  refine j_aload_n G 0 rfl d2_makeTrip_10 ?_
  refine j_dup G d2_makeTrip_11 rfl ?_
  refine j_get G 0 2 3 in2 fl2_74 d2_makeTrip_12 rfl rfl (by decide) (v := .int (iZ (Y 3))) rfl rfl ?_
  refine j_iload_n G 1 rfl d2_makeTrip_15 ?_
  refine j_isub G d2_makeTrip_16 ?_
  refine j_put G 0 2 3 in2 tyok2 nm2 fl2_74 d2_makeTrip_17 rfl rfl (by decide) ⟨rfl, rfl⟩ rfl rfl (Nat.le_of_ble_eq_true rfl) (e := o2 (some ta) (some la) (some na) (upS Y 3 ((Y 3) - w))) rfl ?_
  refine j_aload_n G 0 rfl d2_makeTrip_20 ?_
  refine j_dup G d2_makeTrip_21 rfl ?_
  refine j_get G 0 2 4 in2 fl2_77 d2_makeTrip_22 rfl rfl (by decide) (v := .int (iZ (Y 4))) rfl rfl ?_
  refine j_aload_n G 0 rfl d2_makeTrip_25 ?_
  refine j_get G 0 2 6 in2 fl2_122 d2_makeTrip_26 rfl rfl (by decide) (v := .int (iZ (Y 6))) rfl rfl ?_
  refine j_isub G d2_makeTrip_29 ?_
  refine j_put G 0 2 4 in2 tyok2 nm2 fl2_77 d2_makeTrip_30 rfl rfl (by decide) ⟨rfl, rfl⟩ rfl rfl (Nat.le_of_ble_eq_true rfl) (e := o2 (some ta) (some la) (some na) (upS (upS Y 3 ((Y 3) - w)) 4 ((Y 4) - (Y 6)))) rfl ?_
  refine j_aload_n G 0 rfl d2_makeTrip_33 ?_
  refine j_dup G d2_makeTrip_34 rfl ?_
  refine j_get G 0 2 5 in2 fl2_80 d2_makeTrip_35 rfl rfl (by decide) (v := .int (iZ (Y 5))) rfl rfl ?_
  refine j_aload_n G 0 rfl d2_makeTrip_38 ?_
  refine j_get G 0 2 7 in2 fl2_125 d2_makeTrip_39 rfl rfl (by decide) (v := .int (iZ (Y 7))) rfl rfl ?_
  refine j_isub G d2_makeTrip_42 ?_
  refine j_put G 0 2 5 in2 tyok2 nm2 fl2_80 d2_makeTrip_43 rfl rfl (by decide) ⟨rfl, rfl⟩ rfl rfl (Nat.le_of_ble_eq_true rfl) (e := o2 (some ta) (some la) (some na) (upS (upS (upS Y 3 ((Y 3) - w)) 4 ((Y 4) - (Y 6))) 5 ((Y 5) - (Y 7)))) rfl ?_
  refine j_aload_n G 0 rfl d2_makeTrip_46 ?_
  refine j_dup G d2_makeTrip_47 rfl ?_
  refine j_get G 0 2 10 in2 fl2_83 d2_makeTrip_48 rfl rfl (by decide) (v := .int (iZ (Y 10))) rfl rfl ?_
  refine j_aload_n G 0 rfl d2_makeTrip_51 ?_
  refine j_get G 0 2 6 in2 fl2_122 d2_makeTrip_52 rfl rfl (by decide) (v := .int (iZ (Y 6))) rfl rfl ?_
  refine j_iadd G d2_makeTrip_55 ?_
  refine j_put G 0 2 10 in2 tyok2 nm2 fl2_83 d2_makeTrip_56 rfl rfl (by decide) ⟨rfl, rfl⟩ rfl rfl (Nat.le_of_ble_eq_true rfl) (e := o2 (some ta) (some la) (some na) (upS (upS (upS (upS Y 3 ((Y 3) - w)) 4 ((Y 4) - (Y 6))) 5 ((Y 5) - (Y 7))) 10 ((Y 10) + (Y 6)))) rfl ?_
  refine j_aload_n G 0 rfl d2_makeTrip_59 ?_
  refine j_dup G d2_makeTrip_60 rfl ?_
  refine j_get G 0 2 9 in2 fl2_71 d2_makeTrip_61 rfl rfl (by decide) (v := .int (iZ (Y 9))) rfl rfl ?_
  refine j_aload_n G 0 rfl d2_makeTrip_64 ?_
  refine j_get G 0 2 7 in2 fl2_125 d2_makeTrip_65 rfl rfl (by decide) (v := .int (iZ (Y 7))) rfl rfl ?_
  refine j_iadd G d2_makeTrip_68 ?_
  refine j_put G 0 2 9 in2 tyok2 nm2 fl2_71 d2_makeTrip_69 rfl rfl (by decide) ⟨rfl, rfl⟩ rfl rfl (Nat.le_of_ble_eq_true rfl) (e := o2 (some ta) (some la) (some na) (upS (upS (upS (upS (upS Y 3 ((Y 3) - w)) 4 ((Y 4) - (Y 6))) 5 ((Y 5) - (Y 7))) 10 ((Y 10) + (Y 6))) 9 ((Y 9) + (Y 7)))) rfl ?_
  refine j_aload_n G 0 rfl d2_makeTrip_72 ?_
  refine j_dup G d2_makeTrip_73 rfl ?_
  refine j_get G 0 2 13 in2 fl2_92 d2_makeTrip_74 rfl rfl (by decide) (v := .int (iZ (Y 13))) rfl rfl ?_
  refine j_iconst G d2_makeTrip_77 ?_
  refine j_iadd G d2_makeTrip_78 ?_
  refine j_put G 0 2 13 in2 tyok2 nm2 fl2_92 d2_makeTrip_79 rfl rfl (by decide) ⟨rfl, rfl⟩ rfl rfl (Nat.le_of_ble_eq_true rfl) (e := o2 (some ta) (some la) (some na) (upS (upS (upS (upS (upS (upS Y 3 ((Y 3) - w)) 4 ((Y 4) - (Y 6))) 5 ((Y 5) - (Y 7))) 10 ((Y 10) + (Y 6))) 9 ((Y 9) + (Y 7))) 13 ((Y 13) + 1))) rfl ?_
  exact j_vret G F d2_makeTrip_82 ⟨(upI pn (Y 2) w), rfl, rfl, (by first | rfl | (congr 1; omega)), trivial⟩
theorem d2_open_0 : decode c2_open 0 = .ok (.aload_n 0, 1) := by decide +kernel
theorem d2_open_1 : decode c2_open 1 = .ok (.iload_n 1, 1) := by decide +kernel
theorem d2_open_2 : decode c2_open 2 = .ok (.putfield 95, 3) := by decide +kernel
theorem d2_open_5 : decode c2_open 5 = .ok (.aload_n 0, 1) := by decide +kernel
theorem d2_open_6 : decode c2_open 6 = .ok (.getfield 9, 3) := by decide +kernel
theorem d2_open_9 : decode c2_open 9 = .ok (.iload_n 1, 1) := by decide +kernel
theorem d2_open_10 : decode c2_open 10 = .ok (.bipush (-5), 2) := by decide +kernel
theorem d2_open_12 : decode c2_open 12 = .ok (.iastore, 1) := by decide +kernel
theorem d2_open_13 : decode c2_open 13 = .ok (.aload_n 0, 1) := by decide +kernel
theorem d2_open_14 : decode c2_open 14 = .ok (.aload_n 0, 1) := by decide +kernel
theorem d2_open_15 : decode c2_open 15 = .ok (.getfield 15, 3) := by decide +kernel
theorem d2_open_18 : decode c2_open 18 = .ok (.iload_n 1, 1) := by decide +kernel
theorem d2_open_19 : decode c2_open 19 = .ok (.aload_n 0, 1) := by decide +kernel
theorem d2_open_20 : decode c2_open 20 = .ok (.getfield 74, 3) := by decide +kernel
theorem d2_open_23 : decode c2_open 23 = .ok (.invokevirtual 98, 3) := by decide +kernel
theorem d2_open_26 : decode c2_open 26 = .ok (.putfield 74, 3) := by decide +kernel
theorem d2_open_29 : decode c2_open 29 = .ok (.aload_n 0, 1) := by decide +kernel
theorem d2_open_30 : decode c2_open 30 = .ok (.dup, 1) := by decide +kernel
theorem d2_open_31 : decode c2_open 31 = .ok (.getfield 77, 3) := by decide +kernel
theorem d2_open_34 : decode c2_open 34 = .ok (.aload_n 0, 1) := by decide +kernel
theorem d2_open_35 : decode c2_open 35 = .ok (.getfield 15, 3) := by decide +kernel
theorem d2_open_38 : decode c2_open 38 = .ok (.iload_n 1, 1) := by decide +kernel
theorem d2_open_39 : decode c2_open 39 = .ok (.invokevirtual 104, 3) := by decide +kernel
theorem d2_open_42 : decode c2_open 42 = .ok (.iadd, 1) := by decide +kernel
theorem d2_open_43 : decode c2_open 43 = .ok (.putfield 77, 3) := by decide +kernel
theorem d2_open_46 : decode c2_open 46 = .ok (.aload_n 0, 1) := by decide +kernel
theorem d2_open_47 : decode c2_open 47 = .ok (.dup, 1) := by decide +kernel
theorem d2_open_48 : decode c2_open 48 = .ok (.getfield 80, 3) := by decide +kernel
theorem d2_open_51 : decode c2_open 51 = .ok (.aload_n 0, 1) := by decide +kernel
theorem d2_open_52 : decode c2_open 52 = .ok (.getfield 15, 3) := by decide +kernel
theorem d2_open_55 : decode c2_open 55 = .ok (.iload_n 1, 1) := by decide +kernel
theorem d2_open_56 : decode c2_open 56 = .ok (.invokevirtual 108, 3) := by decide +kernel
theorem d2_open_59 : decode c2_open 59 = .ok (.iadd, 1) := by decide +kernel
theorem d2_open_60 : decode c2_open 60 = .ok (.putfield 80, 3) := by decide +kernel
theorem d2_open_63 : decode c2_open 63 = .ok (.aload_n 0, 1) := by decide +kernel
theorem d2_open_64 : decode c2_open 64 = .ok (.dup, 1) := by decide +kernel
theorem d2_open_65 : decode c2_open 65 = .ok (.getfield 89, 3) := by decide +kernel
theorem d2_open_68 : decode c2_open 68 = .ok (.aload_n 0, 1) := by decide +kernel
theorem d2_open_69 : decode c2_open 69 = .ok (.getfield 77, 3) := by decide +kernel
theorem d2_open_72 : decode c2_open 72 = .ok (.bipush 8, 2) := by decide +kernel
theorem d2_open_74 : decode c2_open 74 = .ok (.isub, 1) := by decide +kernel
theorem d2_open_75 : decode c2_open 75 = .ok (.iconst 0, 1) := by decide +kernel
theorem d2_open_76 : decode c2_open 76 = .ok (.invokestatic 111, 3) := by decide +kernel
theorem d2_open_79 : decode c2_open 79 = .ok (.aload_n 0, 1) := by decide +kernel
theorem d2_open_80 : decode c2_open 80 = .ok (.getfield 80, 3) := by decide +kernel
theorem d2_open_83 : decode c2_open 83 = .ok (.bipush 8, 2) := by decide +kernel
theorem d2_open_85 : decode c2_open 85 = .ok (.isub, 1) := by decide +kernel
theorem d2_open_86 : decode c2_open 86 = .ok (.iconst 0, 1) := by decide +kernel
theorem d2_open_87 : decode c2_open 87 = .ok (.invokestatic 111, 3) := by decide +kernel
theorem d2_open_90 : decode c2_open 90 = .ok (.iadd, 1) := by decide +kernel
theorem d2_open_91 : decode c2_open 91 = .ok (.iadd, 1) := by decide +kernel
theorem d2_open_92 : decode c2_open 92 = .ok (.putfield 89, 3) := by decide +kernel
theorem d2_open_95 : decode c2_open 95 = .ok (.aload_n 0, 1) := by decide +kernel
theorem d2_open_96 : decode c2_open 96 = .ok (.aload_n 0, 1) := by decide +kernel
theorem d2_open_97 : decode c2_open 97 = .ok (.getfield 77, 3) := by decide +kernel
theorem d2_open_100 : decode c2_open 100 = .ok (.bipush 8, 2) := by decide +kernel
theorem d2_open_102 : decode c2_open 102 = .ok (.invokestatic 116, 3) := by decide +kernel
theorem d2_open_105 : decode c2_open 105 = .ok (.putfield 77, 3) := by decide +kernel
theorem d2_open_108 : decode c2_open 108 = .ok (.aload_n 0, 1) := by decide +kernel
theorem d2_open_109 : decode c2_open 109 = .ok (.aload_n 0, 1) := by decide +kernel
theorem d2_open_110 : decode c2_open 110 = .ok (.getfield 80, 3) := by decide +kernel
theorem d2_open_113 : decode c2_open 113 = .ok (.bipush 8, 2) := by decide +kernel
theorem d2_open_115 : decode c2_open 115 = .ok (.invokestatic 116, 3) := by decide +kernel
theorem d2_open_118 : decode c2_open 118 = .ok (.putfield 80, 3) := by decide +kernel
theorem d2_open_121 : decode c2_open 121 = .ok (.aload_n 0, 1) := by decide +kernel
theorem d2_open_122 : decode c2_open 122 = .ok (.aload_n 0, 1) := by decide +kernel
theorem d2_open_123 : decode c2_open 123 = .ok (.getfield 15, 3) := by decide +kernel
theorem d2_open_126 : decode c2_open 126 = .ok (.aload_n 0, 1) := by decide +kernel
theorem d2_open_127 : decode c2_open 127 = .ok (.getfield 77, 3) := by decide +kernel
theorem d2_open_130 : decode c2_open 130 = .ok (.invokevirtual 119, 3) := by decide +kernel
theorem d2_open_133 : decode c2_open 133 = .ok (.putfield 122, 3) := by decide +kernel
theorem d2_open_136 : decode c2_open 136 = .ok (.aload_n 0, 1) := by decide +kernel
theorem d2_open_137 : decode c2_open 137 = .ok (.aload_n 0, 1) := by decide +kernel
theorem d2_open_138 : decode c2_open 138 = .ok (.getfield 15, 3) := by decide +kernel
theorem d2_open_141 : decode c2_open 141 = .ok (.aload_n 0, 1) := by decide +kernel
theorem d2_open_142 : decode c2_open 142 = .ok (.getfield 80, 3) := by decide +kernel
theorem d2_open_145 : decode c2_open 145 = .ok (.invokevirtual 119, 3) := by decide +kernel
theorem d2_open_148 : decode c2_open 148 = .ok (.putfield 125, 3) := by decide +kernel
theorem d2_open_151 : decode c2_open 151 = .ok (.return_, 1) := by decide +kernel
theorem mw2_open : MV y2_open c2_open 2 none 1 := ⟨cd2_open, ini2, na2_open, im2_open, se2_open⟩
set_option maxHeartbeats 4000000 in
set_option maxRecDepth 100000 in
theorem k2_open (l : Launch) (E : En) (ya : Nat) (na : Nat) (Y : Nat → Int) (la : Nat) (ta : Nat) (oa : Nat) (T : Nat → Int) (ca : Nat) (pa : Nat) (da : Nat) (sa : Nat) (C : Nat → Int) (P : Int → Int) (dr : Int → Int) (sr : Int → Int) (co : Int → Int) (K : Dy) (pn : Int → Int) (k : Int) (htm : TmK K T C P dr sr co) (hk : 0 ≤ k ∧ k ≤ 11) (hy12 : 0 ≤ Y 12 ∧ Y 12 ≤ 1000) (hy3 : 0 ≤ Y 3 ∧ Y 3 ≤ 40) (hy4 : 0 ≤ Y 4 ∧ Y 4 ≤ 8) (hy5 : 0 ≤ Y 5 ∧ Y 5 ≤ 8) : Cm l E y2_open c2_open 2 none { frames := 2, cells := 0, slots := 0, locals := 35 } [.ref ya, .int (iZ k)] [(ya, o2 (some ta) (some la) (some na) Y), (na, aInt E 12 pn), (ta, o7 (some ca) (some oa) T), (oa, aInt E 24 co), (ca, o1 (some pa) (some da) (some sa) C), (pa, aInt E 5 P), (da, aInt E 24 dr), (sa, aInt E 24 sr)] (fun r ws => ∃ (y3 : Int), ∃ (y4 : Int), ∃ (y5 : Int), ∃ (y12 : Int), ∃ (y6 : Int), ∃ (y7 : Int), ∃ (pn1 : Int → Int), r = none ∧ ws = [(ya, o2 (some ta) (some la) (some na) (upS (upS (upS (upS (upS (upS (upS Y 2 k) 3 y3) 4 y4) 5 y5) 12 y12) 6 y6) 7 y7)), (na, aInt E 12 pn1), (ta, o7 (some ca) (some oa) T), (oa, aInt E 24 co), (ca, o1 (some pa) (some da) (some sa) C), (pa, aInt E 5 P), (da, aInt E 24 dr), (sa, aInt E 24 sr)] ∧ pn1 = upI pn k (-5) ∧ (y3 = dF K k (81 * Y 3 + 9 * Y 4 + Y 5) ∧ y4 = dA K k (81 * Y 3 + 9 * Y 4 + Y 5) ∧ y5 = dB K k (81 * Y 3 + 9 * Y 4 + Y 5) ∧ y12 = Y 12 + dLost K k (81 * Y 3 + 9 * Y 4 + Y 5) ∧ y6 = dDn K k (81 * Y 3 + 9 * Y 4 + Y 5) ∧ y7 = dUp K k (81 * Y 3 + 9 * Y 4 + Y 5))) := by
  refine Cm.of (by decide +kernel) (Nat.le_of_ble_eq_true rfl) (fun Γ A hl hargs hin G F => ?_)
  subst hl
  have tok := htm.2.1
  have hnw := st_now (K := K) (s := k) (p := Y 3) hy4 hy5
  have hdr := dR tok hk (st := (81 * Y 3 + 9 * Y 4 + Y 5)) (by omega)
  have hsp := st_p (p := Y 3) hy4 hy5
  refine j_aload_n G 0 rfl d2_open_0 ?_
  refine j_iload_n G 1 rfl d2_open_1 ?_
  refine j_put G 0 2 2 in2 tyok2 nm2 fl2_95 d2_open_2 rfl rfl (by decide) ⟨rfl, rfl⟩ rfl rfl (Nat.le_of_ble_eq_true rfl) (e := o2 (some ta) (some la) (some na) (upS Y 2 k)) rfl ?_
  refine j_aload_n G 0 rfl d2_open_5 ?_
  refine j_get G 0 2 14 in2 fl2_9 d2_open_6 rfl rfl (by decide) (v := .ref na) rfl rfl ?_
  refine j_iload_n G 1 rfl d2_open_9 ?_
  refine j_bipush G d2_open_10 rfl ?_
  refine j_iast G 1 rfl (by omega) d2_open_12 ?_
  refine j_aload_n G 0 rfl d2_open_13 ?_
  refine j_aload_n G 0 rfl d2_open_14 ?_
  refine j_get G 0 2 0 in2 fl2_15 d2_open_15 rfl rfl (by decide) (v := .ref ta) rfl rfl ?_
  refine j_iload_n G 1 rfl d2_open_18 ?_
  refine j_aload_n G 0 rfl d2_open_19 ?_
  refine j_get G 0 2 3 in2 fl2_74 d2_open_20 rfl rfl (by decide) (v := .int (iZ (Y 3))) rfl rfl ?_
  refine j_VP G (k7_pondWithSpring (xl Γ) E ta oa T ca pa da sa C P dr sr co K k (Y 3) (by first | assumption | omega | (simp only [upS, reduceIte, Nat.reduceEqDiff, eq_self, List.length_cons, List.length_nil, List.length_append] <;> omega)) (by first | assumption | omega | (simp only [upS, reduceIte, Nat.reduceEqDiff, eq_self, List.length_cons, List.length_nil, List.length_append] <;> omega)) (by first | assumption | omega | (simp only [upS, reduceIte, Nat.reduceEqDiff, eq_self, List.length_cons, List.length_nil, List.length_append] <;> omega))) mw7_pondWithSpring ml2_98 [2, 3, 4, 5, 6, 7] rfl 2 7 rfl rfl rfl ⟨Nat.le_of_ble_eq_true rfl, Nat.le_of_ble_eq_true rfl⟩ rfl (rest := [.ref ya]) rfl (Nat.le_of_ble_eq_true rfl) d2_open_23 ⟨Nat.le_of_ble_eq_true rfl, Nat.le_of_ble_eq_true rfl⟩ (fun r hr => ?_)
  obtain ⟨v2, rfl, ⟨hq1_0, hq1_1, hq1_2⟩⟩ := hr
  have hf0 := hq1_0
  have hf1 := hq1_1
  have hf2 := hq1_2
  refine j_put G 0 2 3 in2 tyok2 nm2 fl2_74 d2_open_26 rfl rfl (by decide) ⟨rfl, rfl⟩ rfl rfl (Nat.le_of_ble_eq_true rfl) (e := o2 (some ta) (some la) (some na) (upS (upS Y 2 k) 3 v2)) rfl ?_
  refine j_aload_n G 0 rfl d2_open_29 ?_
  refine j_dup G d2_open_30 rfl ?_
  refine j_get G 0 2 4 in2 fl2_77 d2_open_31 rfl rfl (by decide) (v := .int (iZ (Y 4))) rfl rfl ?_
  refine j_aload_n G 0 rfl d2_open_34 ?_
  refine j_get G 0 2 0 in2 fl2_15 d2_open_35 rfl rfl (by decide) (v := .ref ta) rfl rfl ?_
  refine j_iload_n G 1 rfl d2_open_38 ?_
  refine j_VP G (k7_comingAbove (xl Γ) E ta oa T ca pa da sa C P dr sr co K k (by first | assumption | omega | (simp only [upS, reduceIte, Nat.reduceEqDiff, eq_self, List.length_cons, List.length_nil, List.length_append] <;> omega)) (by first | assumption | omega | (simp only [upS, reduceIte, Nat.reduceEqDiff, eq_self, List.length_cons, List.length_nil, List.length_append] <;> omega))) mw7_comingAbove ml2_104 [2, 3, 4, 5, 6, 7] rfl 2 7 rfl rfl rfl ⟨Nat.le_of_ble_eq_true rfl, Nat.le_of_ble_eq_true rfl⟩ rfl (rest := [.int (iZ (Y 4)), .ref ya]) rfl (Nat.le_of_ble_eq_true rfl) d2_open_39 ⟨Nat.le_of_ble_eq_true rfl, Nat.le_of_ble_eq_true rfl⟩ (fun r hr => ?_)
  obtain ⟨v4, rfl, ⟨hq3_0, hq3_1, hq3_2⟩⟩ := hr
  have ha0 := hq3_0
  have ha1 := hq3_1
  refine j_iadd G d2_open_42 ?_
  refine j_put G 0 2 4 in2 tyok2 nm2 fl2_77 d2_open_43 rfl rfl (by decide) ⟨rfl, rfl⟩ rfl rfl (Nat.le_of_ble_eq_true rfl) (e := o2 (some ta) (some la) (some na) (upS (upS (upS Y 2 k) 3 v2) 4 ((Y 4) + v4))) rfl ?_
  refine j_aload_n G 0 rfl d2_open_46 ?_
  refine j_dup G d2_open_47 rfl ?_
  refine j_get G 0 2 5 in2 fl2_80 d2_open_48 rfl rfl (by decide) (v := .int (iZ (Y 5))) rfl rfl ?_
  refine j_aload_n G 0 rfl d2_open_51 ?_
  refine j_get G 0 2 0 in2 fl2_15 d2_open_52 rfl rfl (by decide) (v := .ref ta) rfl rfl ?_
  refine j_iload_n G 1 rfl d2_open_55 ?_
  refine j_VP G (k7_comingBelow (xl Γ) E ta oa T ca pa da sa C P dr sr co K k (by first | assumption | omega | (simp only [upS, reduceIte, Nat.reduceEqDiff, eq_self, List.length_cons, List.length_nil, List.length_append] <;> omega)) (by first | assumption | omega | (simp only [upS, reduceIte, Nat.reduceEqDiff, eq_self, List.length_cons, List.length_nil, List.length_append] <;> omega))) mw7_comingBelow ml2_108 [2, 3, 4, 5, 6, 7] rfl 2 7 rfl rfl rfl ⟨Nat.le_of_ble_eq_true rfl, Nat.le_of_ble_eq_true rfl⟩ rfl (rest := [.int (iZ (Y 5)), .ref ya]) rfl (Nat.le_of_ble_eq_true rfl) d2_open_56 ⟨Nat.le_of_ble_eq_true rfl, Nat.le_of_ble_eq_true rfl⟩ (fun r hr => ?_)
  obtain ⟨v6, rfl, ⟨hq5_0, hq5_1, hq5_2⟩⟩ := hr
  have hb0 := hq5_0
  have hb1 := hq5_1
  refine j_iadd G d2_open_59 ?_
  refine j_put G 0 2 5 in2 tyok2 nm2 fl2_80 d2_open_60 rfl rfl (by decide) ⟨rfl, rfl⟩ rfl rfl (Nat.le_of_ble_eq_true rfl) (e := o2 (some ta) (some la) (some na) (upS (upS (upS (upS Y 2 k) 3 v2) 4 ((Y 4) + v4)) 5 ((Y 5) + v6))) rfl ?_
  refine j_aload_n G 0 rfl d2_open_63 ?_
  refine j_dup G d2_open_64 rfl ?_
  refine j_get G 0 2 12 in2 fl2_89 d2_open_65 rfl rfl (by decide) (v := .int (iZ (Y 12))) rfl rfl ?_
  refine j_aload_n G 0 rfl d2_open_68 ?_
  refine j_get G 0 2 4 in2 fl2_77 d2_open_69 rfl rfl (by decide) (v := .int (iZ ((Y 4) + v4))) rfl rfl ?_
  refine j_bipush G d2_open_72 rfl ?_
  refine j_isub G d2_open_74 ?_
  refine j_iconst G d2_open_75 ?_
  refine j_mmax G ml2_111 (by omega) (by decide) ⟨Nat.le_of_ble_eq_true rfl, Nat.le_of_ble_eq_true rfl⟩ ⟨Nat.le_of_ble_eq_true rfl, Nat.le_of_ble_eq_true rfl⟩ d2_open_76 ?_
  refine j_aload_n G 0 rfl d2_open_79 ?_
  refine j_get G 0 2 5 in2 fl2_80 d2_open_80 rfl rfl (by decide) (v := .int (iZ ((Y 5) + v6))) rfl rfl ?_
  refine j_bipush G d2_open_83 rfl ?_
  refine j_isub G d2_open_85 ?_
  refine j_iconst G d2_open_86 ?_
  refine j_mmax G ml2_111 (by omega) (by decide) ⟨Nat.le_of_ble_eq_true rfl, Nat.le_of_ble_eq_true rfl⟩ ⟨Nat.le_of_ble_eq_true rfl, Nat.le_of_ble_eq_true rfl⟩ d2_open_87 ?_
  refine j_iadd G d2_open_90 ?_
  refine j_iadd G d2_open_91 ?_
  refine j_nm (fun x7 ex7 => ?_)
  refine j_put G 0 2 12 in2 tyok2 nm2 fl2_89 d2_open_92 rfl rfl (by decide) ⟨rfl, rfl⟩ rfl rfl (Nat.le_of_ble_eq_true rfl) (e := o2 (some ta) (some la) (some na) (upS (upS (upS (upS (upS Y 2 k) 3 v2) 4 ((Y 4) + v4)) 5 ((Y 5) + v6)) 12 x7)) rfl ?_
  refine j_aload_n G 0 rfl d2_open_95 ?_
  refine j_aload_n G 0 rfl d2_open_96 ?_
  refine j_get G 0 2 4 in2 fl2_77 d2_open_97 rfl rfl (by decide) (v := .int (iZ ((Y 4) + v4))) rfl rfl ?_
  refine j_bipush G d2_open_100 rfl ?_
  refine j_mmin G ml2_116 (by omega) (by decide) ⟨Nat.le_of_ble_eq_true rfl, Nat.le_of_ble_eq_true rfl⟩ ⟨Nat.le_of_ble_eq_true rfl, Nat.le_of_ble_eq_true rfl⟩ d2_open_102 ?_
  refine j_put G 0 2 4 in2 tyok2 nm2 fl2_77 d2_open_105 rfl rfl (by decide) ⟨rfl, rfl⟩ rfl rfl (Nat.le_of_ble_eq_true rfl) (e := o2 (some ta) (some la) (some na) (upS (upS (upS (upS (upS Y 2 k) 3 v2) 5 ((Y 5) + v6)) 12 x7) 4 (min ((Y 4) + v4) 8))) rfl ?_
  refine j_aload_n G 0 rfl d2_open_108 ?_
  refine j_aload_n G 0 rfl d2_open_109 ?_
  refine j_get G 0 2 5 in2 fl2_80 d2_open_110 rfl rfl (by decide) (v := .int (iZ ((Y 5) + v6))) rfl rfl ?_
  refine j_bipush G d2_open_113 rfl ?_
  refine j_mmin G ml2_116 (by omega) (by decide) ⟨Nat.le_of_ble_eq_true rfl, Nat.le_of_ble_eq_true rfl⟩ ⟨Nat.le_of_ble_eq_true rfl, Nat.le_of_ble_eq_true rfl⟩ d2_open_115 ?_
  refine j_put G 0 2 5 in2 tyok2 nm2 fl2_80 d2_open_118 rfl rfl (by decide) ⟨rfl, rfl⟩ rfl rfl (Nat.le_of_ble_eq_true rfl) (e := o2 (some ta) (some la) (some na) (upS (upS (upS (upS (upS Y 2 k) 3 v2) 12 x7) 4 (min ((Y 4) + v4) 8)) 5 (min ((Y 5) + v6) 8))) rfl ?_
  refine j_aload_n G 0 rfl d2_open_121 ?_
  refine j_aload_n G 0 rfl d2_open_122 ?_
  refine j_get G 0 2 0 in2 fl2_15 d2_open_123 rfl rfl (by decide) (v := .ref ta) rfl rfl ?_
  refine j_aload_n G 0 rfl d2_open_126 ?_
  refine j_get G 0 2 4 in2 fl2_77 d2_open_127 rfl rfl (by decide) (v := .int (iZ (min ((Y 4) + v4) 8))) rfl rfl ?_
  refine j_VP G (k7_seated (xl Γ) E ta oa T ca pa da sa C P dr sr co K (min ((Y 4) + v4) 8) (by first | assumption | omega | (simp only [upS, reduceIte, Nat.reduceEqDiff, eq_self, List.length_cons, List.length_nil, List.length_append] <;> omega)) (by first | assumption | omega | (simp only [upS, reduceIte, Nat.reduceEqDiff, eq_self, List.length_cons, List.length_nil, List.length_append] <;> omega))) mw7_seated ml2_119 [2, 3, 4, 5, 6, 7] rfl 2 7 rfl rfl rfl ⟨Nat.le_of_ble_eq_true rfl, Nat.le_of_ble_eq_true rfl⟩ rfl (rest := [.ref ya]) rfl (Nat.le_of_ble_eq_true rfl) d2_open_130 ⟨Nat.le_of_ble_eq_true rfl, Nat.le_of_ble_eq_true rfl⟩ (fun r hr => ?_)
  obtain ⟨v9, rfl, ⟨hq8_0, hq8_1, hq8_2, hq8_3, hq8_4⟩⟩ := hr
  have hd0 := hq8_0
  have hd1 := hq8_1
  refine j_put G 0 2 6 in2 tyok2 nm2 fl2_122 d2_open_133 rfl rfl (by decide) ⟨rfl, rfl⟩ rfl rfl (Nat.le_of_ble_eq_true rfl) (e := o2 (some ta) (some la) (some na) (upS (upS (upS (upS (upS (upS Y 2 k) 3 v2) 12 x7) 4 (min ((Y 4) + v4) 8)) 5 (min ((Y 5) + v6) 8)) 6 v9)) rfl ?_
  refine j_aload_n G 0 rfl d2_open_136 ?_
  refine j_aload_n G 0 rfl d2_open_137 ?_
  refine j_get G 0 2 0 in2 fl2_15 d2_open_138 rfl rfl (by decide) (v := .ref ta) rfl rfl ?_
  refine j_aload_n G 0 rfl d2_open_141 ?_
  refine j_get G 0 2 5 in2 fl2_80 d2_open_142 rfl rfl (by decide) (v := .int (iZ (min ((Y 5) + v6) 8))) rfl rfl ?_
  refine j_VP G (k7_seated (xl Γ) E ta oa T ca pa da sa C P dr sr co K (min ((Y 5) + v6) 8) (by first | assumption | omega | (simp only [upS, reduceIte, Nat.reduceEqDiff, eq_self, List.length_cons, List.length_nil, List.length_append] <;> omega)) (by first | assumption | omega | (simp only [upS, reduceIte, Nat.reduceEqDiff, eq_self, List.length_cons, List.length_nil, List.length_append] <;> omega))) mw7_seated ml2_119 [2, 3, 4, 5, 6, 7] rfl 2 7 rfl rfl rfl ⟨Nat.le_of_ble_eq_true rfl, Nat.le_of_ble_eq_true rfl⟩ rfl (rest := [.ref ya]) rfl (Nat.le_of_ble_eq_true rfl) d2_open_145 ⟨Nat.le_of_ble_eq_true rfl, Nat.le_of_ble_eq_true rfl⟩ (fun r hr => ?_)
  obtain ⟨v11, rfl, ⟨hq10_0, hq10_1, hq10_2, hq10_3, hq10_4⟩⟩ := hr
  have hu0 := hq10_0
  have hu1 := hq10_1
  refine j_put G 0 2 7 in2 tyok2 nm2 fl2_125 d2_open_148 rfl rfl (by decide) ⟨rfl, rfl⟩ rfl rfl (Nat.le_of_ble_eq_true rfl) (e := o2 (some ta) (some la) (some na) (upS (upS (upS (upS (upS (upS (upS Y 2 k) 3 v2) 12 x7) 4 (min ((Y 4) + v4) 8)) 5 (min ((Y 5) + v6) 8)) 6 v9) 7 v11)) rfl ?_
  exact j_vret G F d2_open_151 ⟨v2, (min ((Y 4) + v4) 8), (min ((Y 5) + v6) 8), x7, v9, v11, (upI pn k (-5)), rfl, rfl, (by first | rfl | (congr 1; omega)), (by exact ⟨by omega, by omega, by omega, (by unfold dLost; rw [hsp.2.1, hsp.2.2]; (repeat' split) <;> omega), (by unfold dDn; omega), (by unfold dUp; omega)⟩)⟩
theorem d2_tripCanBe_0 : decode c2_tripCanBe 0 = .ok (.aload_n 0, 1) := by decide +kernel
theorem d2_tripCanBe_1 : decode c2_tripCanBe 1 = .ok (.aload_n 0, 1) := by decide +kernel
theorem d2_tripCanBe_2 : decode c2_tripCanBe 2 = .ok (.getfield 15, 3) := by decide +kernel
theorem d2_tripCanBe_5 : decode c2_tripCanBe 5 = .ok (.aload_n 0, 1) := by decide +kernel
theorem d2_tripCanBe_6 : decode c2_tripCanBe 6 = .ok (.getfield 95, 3) := by decide +kernel
theorem d2_tripCanBe_9 : decode c2_tripCanBe 9 = .ok (.aload_n 0, 1) := by decide +kernel
theorem d2_tripCanBe_10 : decode c2_tripCanBe 10 = .ok (.getfield 122, 3) := by decide +kernel
theorem d2_tripCanBe_13 : decode c2_tripCanBe 13 = .ok (.aload_n 0, 1) := by decide +kernel
theorem d2_tripCanBe_14 : decode c2_tripCanBe 14 = .ok (.getfield 125, 3) := by decide +kernel
theorem d2_tripCanBe_17 : decode c2_tripCanBe 17 = .ok (.invokevirtual 128, 3) := by decide +kernel
theorem d2_tripCanBe_20 : decode c2_tripCanBe 20 = .ok (.putfield 47, 3) := by decide +kernel
theorem d2_tripCanBe_23 : decode c2_tripCanBe 23 = .ok (.aload_n 0, 1) := by decide +kernel
theorem d2_tripCanBe_24 : decode c2_tripCanBe 24 = .ok (.getfield 122, 3) := by decide +kernel
theorem d2_tripCanBe_27 : decode c2_tripCanBe 27 = .ok (.aload_n 0, 1) := by decide +kernel
theorem d2_tripCanBe_28 : decode c2_tripCanBe 28 = .ok (.getfield 125, 3) := by decide +kernel
theorem d2_tripCanBe_31 : decode c2_tripCanBe 31 = .ok (.iadd, 1) := by decide +kernel
theorem d2_tripCanBe_32 : decode c2_tripCanBe 32 = .ok (.ifCond .le 27, 3) := by decide +kernel
theorem d2_tripCanBe_35 : decode c2_tripCanBe 35 = .ok (.aload_n 0, 1) := by decide +kernel
theorem d2_tripCanBe_36 : decode c2_tripCanBe 36 = .ok (.getfield 47, 3) := by decide +kernel
theorem d2_tripCanBe_39 : decode c2_tripCanBe 39 = .ok (.bipush (-5), 2) := by decide +kernel
theorem d2_tripCanBe_41 : decode c2_tripCanBe 41 = .ok (.if_icmp .eq 18, 3) := by decide +kernel
theorem d2_tripCanBe_44 : decode c2_tripCanBe 44 = .ok (.aload_n 0, 1) := by decide +kernel
theorem d2_tripCanBe_45 : decode c2_tripCanBe 45 = .ok (.getfield 47, 3) := by decide +kernel
theorem d2_tripCanBe_48 : decode c2_tripCanBe 48 = .ok (.aload_n 0, 1) := by decide +kernel
theorem d2_tripCanBe_49 : decode c2_tripCanBe 49 = .ok (.getfield 74, 3) := by decide +kernel
theorem d2_tripCanBe_52 : decode c2_tripCanBe 52 = .ok (.if_icmp .gt 7, 3) := by decide +kernel
theorem d2_tripCanBe_55 : decode c2_tripCanBe 55 = .ok (.iconst 1, 1) := by decide +kernel
theorem d2_tripCanBe_56 : decode c2_tripCanBe 56 = .ok (.goto 4, 3) := by decide +kernel
theorem d2_tripCanBe_59 : decode c2_tripCanBe 59 = .ok (.iconst 0, 1) := by decide +kernel
theorem d2_tripCanBe_60 : decode c2_tripCanBe 60 = .ok (.ireturn, 1) := by decide +kernel
theorem mw2_tripCanBe : MV y2_tripCanBe c2_tripCanBe 1 (some .boolean) 0 := ⟨cd2_tripCanBe, ini2, na2_tripCanBe, im2_tripCanBe, se2_tripCanBe⟩
set_option maxHeartbeats 4000000 in
set_option maxRecDepth 100000 in
theorem k2_tripCanBe (l : Launch) (E : En) (ya : Nat) (na : Nat) (Y : Nat → Int) (la : Nat) (ta : Nat) (oa : Nat) (T : Nat → Int) (ca : Nat) (pa : Nat) (da : Nat) (sa : Nat) (C : Nat → Int) (P : Int → Int) (dr : Int → Int) (sr : Int → Int) (co : Int → Int) (K : Dy) (htm : TmK K T C P dr sr co) (hy2 : 0 ≤ Y 2 ∧ Y 2 ≤ 11) (hy3 : 0 ≤ Y 3 ∧ Y 3 ≤ 40) (hy6 : 0 ≤ Y 6 ∧ Y 6 ≤ K.se) (hy7 : 0 ≤ Y 7 ∧ Y 7 ≤ K.se) : Cm l E y2_tripCanBe c2_tripCanBe 1 (some .boolean) { frames := 3, cells := 0, slots := 0, locals := 74 } [.ref ya] [(ya, o2 (some ta) (some la) (some na) Y), (ta, o7 (some ca) (some oa) T), (oa, aInt E 24 co), (ca, o1 (some pa) (some da) (some sa) C), (pa, aInt E 5 P), (da, aInt E 24 dr), (sa, aInt E 24 sr)] (fun r ws => ∃ (v : Int), ∃ (y8 : Int), r = some (.int (iZ v)) ∧ ws = [(ya, o2 (some ta) (some la) (some na) (upS Y 8 y8)), (ta, o7 (some ca) (some oa) T), (oa, aInt E 24 co), (ca, o1 (some pa) (some da) (some sa) C), (pa, aInt E 5 P), (da, aInt E 24 dr), (sa, aInt E 24 sr)] ∧ (((0 < Y 6 + Y 7 ∧ y8 = K.lw (Y 2) (Y 6) (Y 7) ∧ ¬ y8 = -5 ∧ y8 ≤ Y 3 ∧ 0 ≤ y8) ∧ v = 1) ∨ ((¬ (0 < Y 6 + Y 7 ∧ ¬ K.lw (Y 2) (Y 6) (Y 7) = -5 ∧ K.lw (Y 2) (Y 6) (Y 7) ≤ Y 3) ∧ -5 ≤ y8 ∧ y8 ≤ 60) ∧ v = 0))) := by
  refine Cm.of (by decide +kernel) (Nat.le_of_ble_eq_true rfl) (fun Γ A hl hargs hin G F => ?_)
  subst hl
  have tk2 := htm.2.1.2.1
  refine j_aload_n G 0 rfl d2_tripCanBe_0 ?_
  refine j_aload_n G 0 rfl d2_tripCanBe_1 ?_
  refine j_get G 0 2 0 in2 fl2_15 d2_tripCanBe_2 rfl rfl (by decide) (v := .ref ta) rfl rfl ?_
  refine j_aload_n G 0 rfl d2_tripCanBe_5 ?_
  refine j_get G 0 2 2 in2 fl2_95 d2_tripCanBe_6 rfl rfl (by decide) (v := .int (iZ (Y 2))) rfl rfl ?_
  refine j_aload_n G 0 rfl d2_tripCanBe_9 ?_
  refine j_get G 0 2 6 in2 fl2_122 d2_tripCanBe_10 rfl rfl (by decide) (v := .int (iZ (Y 6))) rfl rfl ?_
  refine j_aload_n G 0 rfl d2_tripCanBe_13 ?_
  refine j_get G 0 2 7 in2 fl2_125 d2_tripCanBe_14 rfl rfl (by decide) (v := .int (iZ (Y 7))) rfl rfl ?_
  refine j_VP G (k7_leastFor (xl Γ) E ta oa T ca pa da sa C P dr sr co K (Y 2) (Y 6) (Y 7) (by first | assumption | omega | (simp only [upS, reduceIte, Nat.reduceEqDiff, eq_self, List.length_cons, List.length_nil, List.length_append] <;> omega)) (by first | assumption | omega | (simp only [upS, reduceIte, Nat.reduceEqDiff, eq_self, List.length_cons, List.length_nil, List.length_append] <;> omega)) (by first | assumption | omega | (simp only [upS, reduceIte, Nat.reduceEqDiff, eq_self, List.length_cons, List.length_nil, List.length_append] <;> omega)) (by first | assumption | omega | (simp only [upS, reduceIte, Nat.reduceEqDiff, eq_self, List.length_cons, List.length_nil, List.length_append] <;> omega))) mw7_leastFor ml2_128 [1, 2, 3, 4, 5, 6] rfl 1 7 rfl rfl rfl ⟨Nat.le_of_ble_eq_true rfl, Nat.le_of_ble_eq_true rfl⟩ rfl (rest := [.ref ya]) rfl (Nat.le_of_ble_eq_true rfl) d2_tripCanBe_17 ⟨Nat.le_of_ble_eq_true rfl, Nat.le_of_ble_eq_true rfl⟩ (fun r hr => ?_)
  obtain ⟨v2, rfl, ⟨hq1_0, hq1_1⟩⟩ := hr
  have hl0 := hq1_0
  have hl1 := hq1_1
  refine j_put G 0 2 8 in2 tyok2 nm2 fl2_47 d2_tripCanBe_20 rfl rfl (by decide) ⟨rfl, rfl⟩ rfl rfl (Nat.le_of_ble_eq_true rfl) (e := o2 (some ta) (some la) (some na) (upS Y 8 v2)) rfl ?_
  refine j_aload_n G 0 rfl d2_tripCanBe_23 ?_
  refine j_get G 0 2 6 in2 fl2_122 d2_tripCanBe_24 rfl rfl (by decide) (v := .int (iZ (Y 6))) rfl rfl ?_
  refine j_aload_n G 0 rfl d2_tripCanBe_27 ?_
  refine j_get G 0 2 7 in2 fl2_125 d2_tripCanBe_28 rfl rfl (by decide) (v := .int (iZ (Y 7))) rfl rfl ?_
  refine j_iadd G d2_tripCanBe_31 ?_
  refine j_if_le (tgt := 59) G d2_tripCanBe_32 (by decide) (by omega) (fun h3 => ?_) (fun h3 => ?_)
  ·
    refine j_iconst G d2_tripCanBe_59 ?_
    exact j_zret G F d2_tripCanBe_60 (by decide) ⟨0, v2, rfl, rfl, (by first | (left; exact ⟨⟨by omega, by omega, by omega, by omega, by omega⟩, rfl⟩) | (right; exact ⟨⟨by omega, by omega, by omega⟩, rfl⟩))⟩
  ·
    refine j_aload_n G 0 rfl d2_tripCanBe_35 ?_
    refine j_get G 0 2 8 in2 fl2_47 d2_tripCanBe_36 rfl rfl (by decide) (v := .int (iZ v2)) rfl rfl ?_
    refine j_bipush G d2_tripCanBe_39 rfl ?_
    refine j_icmp_eq (tgt := 59) G d2_tripCanBe_41 (by decide) (by omega) (by decide) (fun h4 => ?_) (fun h4 => ?_)
    ·
      refine j_iconst G d2_tripCanBe_59 ?_
      exact j_zret G F d2_tripCanBe_60 (by decide) ⟨0, v2, rfl, rfl, (by first | (left; exact ⟨⟨by omega, by omega, by omega, by omega, by omega⟩, rfl⟩) | (right; exact ⟨⟨by omega, by omega, by omega⟩, rfl⟩))⟩
    ·
      refine j_aload_n G 0 rfl d2_tripCanBe_44 ?_
      refine j_get G 0 2 8 in2 fl2_47 d2_tripCanBe_45 rfl rfl (by decide) (v := .int (iZ v2)) rfl rfl ?_
      refine j_aload_n G 0 rfl d2_tripCanBe_48 ?_
      refine j_get G 0 2 3 in2 fl2_74 d2_tripCanBe_49 rfl rfl (by decide) (v := .int (iZ (Y 3))) rfl rfl ?_
      refine j_icmp_gt (tgt := 59) G d2_tripCanBe_52 (by decide) (by omega) (by omega) (fun h5 => ?_) (fun h5 => ?_)
      ·
        refine j_iconst G d2_tripCanBe_59 ?_
        exact j_zret G F d2_tripCanBe_60 (by decide) ⟨0, v2, rfl, rfl, (by first | (left; exact ⟨⟨by omega, by omega, by omega, by omega, by omega⟩, rfl⟩) | (right; exact ⟨⟨by omega, by omega, by omega⟩, rfl⟩))⟩
      ·
        refine j_iconst G d2_tripCanBe_55 ?_
        refine j_goto (tgt := 60) G d2_tripCanBe_56 (by decide) ?_
        exact j_zret G F d2_tripCanBe_60 (by decide) ⟨1, v2, rfl, rfl, (by first | (left; exact ⟨⟨by omega, by omega, by omega, by omega, by omega⟩, rfl⟩) | (right; exact ⟨⟨by omega, by omega, by omega⟩, rfl⟩))⟩
theorem d2_tripCanBeWith_0 : decode c2_tripCanBeWith 0 = .ok (.aload_n 0, 1) := by decide +kernel
theorem d2_tripCanBeWith_1 : decode c2_tripCanBeWith 1 = .ok (.getfield 122, 3) := by decide +kernel
theorem d2_tripCanBeWith_4 : decode c2_tripCanBeWith 4 = .ok (.aload_n 0, 1) := by decide +kernel
theorem d2_tripCanBeWith_5 : decode c2_tripCanBeWith 5 = .ok (.getfield 125, 3) := by decide +kernel
theorem d2_tripCanBeWith_8 : decode c2_tripCanBeWith 8 = .ok (.iadd, 1) := by decide +kernel
theorem d2_tripCanBeWith_9 : decode c2_tripCanBeWith 9 = .ok (.ifCond .le 42, 3) := by decide +kernel
theorem d2_tripCanBeWith_12 : decode c2_tripCanBeWith 12 = .ok (.iload_n 1, 1) := by decide +kernel
theorem d2_tripCanBeWith_13 : decode c2_tripCanBeWith 13 = .ok (.ifCond .lt 38, 3) := by decide +kernel
theorem d2_tripCanBeWith_16 : decode c2_tripCanBeWith 16 = .ok (.iload_n 1, 1) := by decide +kernel
theorem d2_tripCanBeWith_17 : decode c2_tripCanBeWith 17 = .ok (.aload_n 0, 1) := by decide +kernel
theorem d2_tripCanBeWith_18 : decode c2_tripCanBeWith 18 = .ok (.getfield 74, 3) := by decide +kernel
theorem d2_tripCanBeWith_21 : decode c2_tripCanBeWith 21 = .ok (.if_icmp .gt 30, 3) := by decide +kernel
theorem d2_tripCanBeWith_24 : decode c2_tripCanBeWith 24 = .ok (.aload_n 0, 1) := by decide +kernel
theorem d2_tripCanBeWith_25 : decode c2_tripCanBeWith 25 = .ok (.getfield 15, 3) := by decide +kernel
theorem d2_tripCanBeWith_28 : decode c2_tripCanBeWith 28 = .ok (.aload_n 0, 1) := by decide +kernel
theorem d2_tripCanBeWith_29 : decode c2_tripCanBeWith 29 = .ok (.getfield 95, 3) := by decide +kernel
theorem d2_tripCanBeWith_32 : decode c2_tripCanBeWith 32 = .ok (.aload_n 0, 1) := by decide +kernel
theorem d2_tripCanBeWith_33 : decode c2_tripCanBeWith 33 = .ok (.getfield 122, 3) := by decide +kernel
theorem d2_tripCanBeWith_36 : decode c2_tripCanBeWith 36 = .ok (.aload_n 0, 1) := by decide +kernel
theorem d2_tripCanBeWith_37 : decode c2_tripCanBeWith 37 = .ok (.getfield 125, 3) := by decide +kernel
theorem d2_tripCanBeWith_40 : decode c2_tripCanBeWith 40 = .ok (.iload_n 1, 1) := by decide +kernel
theorem d2_tripCanBeWith_41 : decode c2_tripCanBeWith 41 = .ok (.invokevirtual 132, 3) := by decide +kernel
theorem d2_tripCanBeWith_44 : decode c2_tripCanBeWith 44 = .ok (.ifCond .eq 7, 3) := by decide +kernel
theorem d2_tripCanBeWith_47 : decode c2_tripCanBeWith 47 = .ok (.iconst 1, 1) := by decide +kernel
theorem d2_tripCanBeWith_48 : decode c2_tripCanBeWith 48 = .ok (.goto 4, 3) := by decide +kernel
theorem d2_tripCanBeWith_51 : decode c2_tripCanBeWith 51 = .ok (.iconst 0, 1) := by decide +kernel
theorem d2_tripCanBeWith_52 : decode c2_tripCanBeWith 52 = .ok (.ireturn, 1) := by decide +kernel
theorem mw2_tripCanBeWith : MV y2_tripCanBeWith c2_tripCanBeWith 2 (some .boolean) 1 := ⟨cd2_tripCanBeWith, ini2, na2_tripCanBeWith, im2_tripCanBeWith, se2_tripCanBeWith⟩
set_option maxHeartbeats 4000000 in
set_option maxRecDepth 100000 in
theorem k2_tripCanBeWith (l : Launch) (E : En) (ya : Nat) (na : Nat) (Y : Nat → Int) (la : Nat) (ta : Nat) (oa : Nat) (T : Nat → Int) (ca : Nat) (pa : Nat) (da : Nat) (sa : Nat) (C : Nat → Int) (P : Int → Int) (dr : Int → Int) (sr : Int → Int) (co : Int → Int) (K : Dy) (w : Int) (htm : TmK K T C P dr sr co) (hw : R32 w) (hy2 : 0 ≤ Y 2 ∧ Y 2 ≤ 11) (hy3 : 0 ≤ Y 3 ∧ Y 3 ≤ 40) (hy6 : 0 ≤ Y 6 ∧ Y 6 ≤ K.se) (hy7 : 0 ≤ Y 7 ∧ Y 7 ≤ K.se) : Cp l E y2_tripCanBeWith c2_tripCanBeWith 2 (some .boolean) 3 71 [.ref ya, .int (iZ w)] [(ya, o2 (some ta) (some la) (some na) Y), (ta, o7 (some ca) (some oa) T), (oa, aInt E 24 co), (ca, o1 (some pa) (some da) (some sa) C), (pa, aInt E 5 P), (da, aInt E 24 dr), (sa, aInt E 24 sr)] (fun r => ∃ (v : Int), r = some (.int (iZ v)) ∧ (((0 < Y 6 + Y 7 ∧ 0 ≤ w ∧ w ≤ Y 3 ∧ w ≤ K.tk ∧ stopM C P (C 3 * (Y 6 - Y 7) + w) (dr (T 1 + Y 2)) = -5) ∧ v = 1) ∨ (¬ (0 < Y 6 + Y 7 ∧ 0 ≤ w ∧ w ≤ Y 3 ∧ w ≤ K.tk ∧ stopM C P (C 3 * (Y 6 - Y 7) + w) (dr (T 1 + Y 2)) = -5) ∧ v = 0))) := by
  refine Cp.of (by decide +kernel) (Nat.le_of_ble_eq_true rfl) (fun Γ hl hargs G F => ?_)
  subst hl
  have tk2 := htm.2.1.2.1
  refine j_aload_n G 0 rfl d2_tripCanBeWith_0 ?_
  refine j_get G 0 2 6 in2 fl2_122 d2_tripCanBeWith_1 rfl rfl (by decide) (v := .int (iZ (Y 6))) rfl rfl ?_
  refine j_aload_n G 0 rfl d2_tripCanBeWith_4 ?_
  refine j_get G 0 2 7 in2 fl2_125 d2_tripCanBeWith_5 rfl rfl (by decide) (v := .int (iZ (Y 7))) rfl rfl ?_
  refine j_iadd G d2_tripCanBeWith_8 ?_
  refine j_if_le (tgt := 51) G d2_tripCanBeWith_9 (by decide) (by omega) (fun h1 => ?_) (fun h1 => ?_)
  ·
    refine j_iconst G d2_tripCanBeWith_51 ?_
    exact j_zret G F d2_tripCanBeWith_52 (by decide) ⟨0, rfl, (by first | (left; exact ⟨by omega, rfl⟩) | (right; exact ⟨by omega, rfl⟩))⟩
  ·
    refine j_iload_n G 1 rfl d2_tripCanBeWith_12 ?_
    refine j_if_lt (tgt := 51) G d2_tripCanBeWith_13 (by decide) (by omega) (fun h2 => ?_) (fun h2 => ?_)
    ·
      refine j_iconst G d2_tripCanBeWith_51 ?_
      exact j_zret G F d2_tripCanBeWith_52 (by decide) ⟨0, rfl, (by first | (left; exact ⟨by omega, rfl⟩) | (right; exact ⟨by omega, rfl⟩))⟩
    ·
      refine j_iload_n G 1 rfl d2_tripCanBeWith_16 ?_
      refine j_aload_n G 0 rfl d2_tripCanBeWith_17 ?_
      refine j_get G 0 2 3 in2 fl2_74 d2_tripCanBeWith_18 rfl rfl (by decide) (v := .int (iZ (Y 3))) rfl rfl ?_
      refine j_icmp_gt (tgt := 51) G d2_tripCanBeWith_21 (by decide) (by omega) (by omega) (fun h3 => ?_) (fun h3 => ?_)
      ·
        refine j_iconst G d2_tripCanBeWith_51 ?_
        exact j_zret G F d2_tripCanBeWith_52 (by decide) ⟨0, rfl, (by first | (left; exact ⟨by omega, rfl⟩) | (right; exact ⟨by omega, rfl⟩))⟩
      ·
        refine j_aload_n G 0 rfl d2_tripCanBeWith_24 ?_
        refine j_get G 0 2 0 in2 fl2_15 d2_tripCanBeWith_25 rfl rfl (by decide) (v := .ref ta) rfl rfl ?_
        refine j_aload_n G 0 rfl d2_tripCanBeWith_28 ?_
        refine j_get G 0 2 2 in2 fl2_95 d2_tripCanBeWith_29 rfl rfl (by decide) (v := .int (iZ (Y 2))) rfl rfl ?_
        refine j_aload_n G 0 rfl d2_tripCanBeWith_32 ?_
        refine j_get G 0 2 6 in2 fl2_122 d2_tripCanBeWith_33 rfl rfl (by decide) (v := .int (iZ (Y 6))) rfl rfl ?_
        refine j_aload_n G 0 rfl d2_tripCanBeWith_36 ?_
        refine j_get G 0 2 7 in2 fl2_125 d2_tripCanBeWith_37 rfl rfl (by decide) (v := .int (iZ (Y 7))) rfl rfl ?_
        refine j_iload_n G 1 rfl d2_tripCanBeWith_40 ?_
        refine j_VP G (k7_goesWith (xl Γ) E ta oa T ca pa da sa C P dr sr co K (Y 2) (Y 6) (Y 7) w (by first | assumption | omega | (simp only [upS, reduceIte, Nat.reduceEqDiff, eq_self, List.length_cons, List.length_nil, List.length_append] <;> omega)) (by first | assumption | omega | (simp only [upS, reduceIte, Nat.reduceEqDiff, eq_self, List.length_cons, List.length_nil, List.length_append] <;> omega)) (by first | assumption | omega | (simp only [upS, reduceIte, Nat.reduceEqDiff, eq_self, List.length_cons, List.length_nil, List.length_append] <;> omega)) (by first | assumption | omega | (simp only [upS, reduceIte, Nat.reduceEqDiff, eq_self, List.length_cons, List.length_nil, List.length_append] <;> omega)) (by first | assumption | omega | (simp only [upS, reduceIte, Nat.reduceEqDiff, eq_self, List.length_cons, List.length_nil, List.length_append] <;> omega))) mw7_goesWith ml2_132 [1, 2, 3, 4, 5, 6] rfl 1 7 rfl rfl rfl ⟨Nat.le_of_ble_eq_true rfl, Nat.le_of_ble_eq_true rfl⟩ rfl (rest := []) rfl (Nat.le_of_ble_eq_true rfl) d2_tripCanBeWith_41 ⟨Nat.le_of_ble_eq_true rfl, Nat.le_of_ble_eq_true rfl⟩ (fun r hr => ?_)
        obtain ⟨v5, rfl, hq4⟩ := hr
        rcases hq4 with ⟨hq4, rfl⟩ | ⟨hq4, rfl⟩
        ·
          refine j_if_eq (tgt := 51) G d2_tripCanBeWith_44 (by decide) (by decide) (fun h6 => absurd h6 (by decide)) (fun h6 => ?_)
          refine j_iconst G d2_tripCanBeWith_47 ?_
          refine j_goto (tgt := 52) G d2_tripCanBeWith_48 (by decide) ?_
          exact j_zret G F d2_tripCanBeWith_52 (by decide) ⟨1, rfl, (by first | (left; exact ⟨by omega, rfl⟩) | (right; exact ⟨by omega, rfl⟩))⟩
        ·
          refine j_if_eq (tgt := 51) G d2_tripCanBeWith_44 (by decide) (by decide) (fun h7 => ?_) (fun h7 => absurd h7 (by decide))
          refine j_iconst G d2_tripCanBeWith_51 ?_
          exact j_zret G F d2_tripCanBeWith_52 (by decide) ⟨0, rfl, (by first | (left; exact ⟨by omega, rfl⟩) | (right; exact ⟨by omega, rfl⟩))⟩
theorem d4_leads_0 : decode c4_leads 0 = .ok (.aload_n 0, 1) := by decide +kernel
theorem d4_leads_1 : decode c4_leads 1 = .ok (.getfield 9, 3) := by decide +kernel
theorem d4_leads_4 : decode c4_leads 4 = .ok (.tableswitch 207 1 6 #[40, 67, 91, 120, 120, 177], 40) := by decide +kernel
theorem d4_leads_44 : decode c4_leads 44 = .ok (.aload_n 1, 1) := by decide +kernel
theorem d4_leads_45 : decode c4_leads 45 = .ok (.getfield 28, 3) := by decide +kernel
theorem d4_leads_48 : decode c4_leads 48 = .ok (.aload_n 1, 1) := by decide +kernel
theorem d4_leads_49 : decode c4_leads 49 = .ok (.getfield 33, 3) := by decide +kernel
theorem d4_leads_52 : decode c4_leads 52 = .ok (.getfield 37, 3) := by decide +kernel
theorem d4_leads_55 : decode c4_leads 55 = .ok (.if_icmp .ge 10, 3) := by decide +kernel
theorem d4_leads_58 : decode c4_leads 58 = .ok (.aload_n 1, 1) := by decide +kernel
theorem d4_leads_59 : decode c4_leads 59 = .ok (.invokevirtual 42, 3) := by decide +kernel
theorem d4_leads_62 : decode c4_leads 62 = .ok (.ifCond .eq 7, 3) := by decide +kernel
theorem d4_leads_65 : decode c4_leads 65 = .ok (.iconst 1, 1) := by decide +kernel
theorem d4_leads_66 : decode c4_leads 66 = .ok (.goto 4, 3) := by decide +kernel
theorem d4_leads_69 : decode c4_leads 69 = .ok (.iconst 0, 1) := by decide +kernel
theorem d4_leads_70 : decode c4_leads 70 = .ok (.ireturn, 1) := by decide +kernel
theorem d4_leads_71 : decode c4_leads 71 = .ok (.aload_n 1, 1) := by decide +kernel
theorem d4_leads_72 : decode c4_leads 72 = .ok (.getfield 46, 3) := by decide +kernel
theorem d4_leads_75 : decode c4_leads 75 = .ok (.aload_n 0, 1) := by decide +kernel
theorem d4_leads_76 : decode c4_leads 76 = .ok (.getfield 15, 3) := by decide +kernel
theorem d4_leads_79 : decode c4_leads 79 = .ok (.iconst 1, 1) := by decide +kernel
theorem d4_leads_80 : decode c4_leads 80 = .ok (.iadd, 1) := by decide +kernel
theorem d4_leads_81 : decode c4_leads 81 = .ok (.iconst 1, 1) := by decide +kernel
theorem d4_leads_82 : decode c4_leads 82 = .ok (.invokestatic 49, 3) := by decide +kernel
theorem d4_leads_85 : decode c4_leads 85 = .ok (.irem, 1) := by decide +kernel
theorem d4_leads_86 : decode c4_leads 86 = .ok (.ifCond .ne 7, 3) := by decide +kernel
theorem d4_leads_89 : decode c4_leads 89 = .ok (.iconst 1, 1) := by decide +kernel
theorem d4_leads_90 : decode c4_leads 90 = .ok (.goto 4, 3) := by decide +kernel
theorem d4_leads_93 : decode c4_leads 93 = .ok (.iconst 0, 1) := by decide +kernel
theorem d4_leads_94 : decode c4_leads 94 = .ok (.ireturn, 1) := by decide +kernel
theorem d4_leads_95 : decode c4_leads 95 = .ok (.aload_n 1, 1) := by decide +kernel
theorem d4_leads_96 : decode c4_leads 96 = .ok (.getfield 55, 3) := by decide +kernel
theorem d4_leads_99 : decode c4_leads 99 = .ok (.aload_n 0, 1) := by decide +kernel
theorem d4_leads_100 : decode c4_leads 100 = .ok (.getfield 15, 3) := by decide +kernel
theorem d4_leads_103 : decode c4_leads 103 = .ok (.aload_n 1, 1) := by decide +kernel
theorem d4_leads_104 : decode c4_leads 104 = .ok (.getfield 58, 3) := by decide +kernel
theorem d4_leads_107 : decode c4_leads 107 = .ok (.imul, 1) := by decide +kernel
theorem d4_leads_108 : decode c4_leads 108 = .ok (.if_icmp .le 10, 3) := by decide +kernel
theorem d4_leads_111 : decode c4_leads 111 = .ok (.aload_n 1, 1) := by decide +kernel
theorem d4_leads_112 : decode c4_leads 112 = .ok (.invokevirtual 42, 3) := by decide +kernel
theorem d4_leads_115 : decode c4_leads 115 = .ok (.ifCond .eq 7, 3) := by decide +kernel
theorem d4_leads_118 : decode c4_leads 118 = .ok (.iconst 1, 1) := by decide +kernel
theorem d4_leads_119 : decode c4_leads 119 = .ok (.goto 4, 3) := by decide +kernel
theorem d4_leads_122 : decode c4_leads 122 = .ok (.iconst 0, 1) := by decide +kernel
theorem d4_leads_123 : decode c4_leads 123 = .ok (.ireturn, 1) := by decide +kernel
theorem d4_leads_124 : decode c4_leads 124 = .ok (.aload_n 1, 1) := by decide +kernel
theorem d4_leads_125 : decode c4_leads 125 = .ok (.getfield 61, 3) := by decide +kernel
theorem d4_leads_128 : decode c4_leads 128 = .ok (.aload_n 1, 1) := by decide +kernel
theorem d4_leads_129 : decode c4_leads 129 = .ok (.getfield 46, 3) := by decide +kernel
theorem d4_leads_132 : decode c4_leads 132 = .ok (.aload_n 1, 1) := by decide +kernel
theorem d4_leads_133 : decode c4_leads 133 = .ok (.getfield 65, 3) := by decide +kernel
theorem d4_leads_136 : decode c4_leads 136 = .ok (.aload_n 1, 1) := by decide +kernel
theorem d4_leads_137 : decode c4_leads 137 = .ok (.getfield 68, 3) := by decide +kernel
theorem d4_leads_140 : decode c4_leads 140 = .ok (.aload_n 1, 1) := by decide +kernel
theorem d4_leads_141 : decode c4_leads 141 = .ok (.getfield 28, 3) := by decide +kernel
theorem d4_leads_144 : decode c4_leads 144 = .ok (.invokestatic 71, 3) := by decide +kernel
theorem d4_leads_147 : decode c4_leads 147 = .ok (.aload_n 1, 1) := by decide +kernel
theorem d4_leads_148 : decode c4_leads 148 = .ok (.getfield 61, 3) := by decide +kernel
theorem d4_leads_151 : decode c4_leads 151 = .ok (.aload_n 1, 1) := by decide +kernel
theorem d4_leads_152 : decode c4_leads 152 = .ok (.getfield 46, 3) := by decide +kernel
theorem d4_leads_155 : decode c4_leads 155 = .ok (.iconst 1, 1) := by decide +kernel
theorem d4_leads_156 : decode c4_leads 156 = .ok (.iadd, 1) := by decide +kernel
theorem d4_leads_157 : decode c4_leads 157 = .ok (.aload_n 1, 1) := by decide +kernel
theorem d4_leads_158 : decode c4_leads 158 = .ok (.getfield 65, 3) := by decide +kernel
theorem d4_leads_161 : decode c4_leads 161 = .ok (.aload_n 1, 1) := by decide +kernel
theorem d4_leads_162 : decode c4_leads 162 = .ok (.getfield 68, 3) := by decide +kernel
theorem d4_leads_165 : decode c4_leads 165 = .ok (.aload_n 1, 1) := by decide +kernel
theorem d4_leads_166 : decode c4_leads 166 = .ok (.getfield 28, 3) := by decide +kernel
theorem d4_leads_169 : decode c4_leads 169 = .ok (.invokestatic 77, 3) := by decide +kernel
theorem d4_leads_172 : decode c4_leads 172 = .ok (.if_icmp .le 7, 3) := by decide +kernel
theorem d4_leads_175 : decode c4_leads 175 = .ok (.iconst 1, 1) := by decide +kernel
theorem d4_leads_176 : decode c4_leads 176 = .ok (.goto 4, 3) := by decide +kernel
theorem d4_leads_179 : decode c4_leads 179 = .ok (.iconst 0, 1) := by decide +kernel
theorem d4_leads_180 : decode c4_leads 180 = .ok (.ireturn, 1) := by decide +kernel
theorem d4_leads_181 : decode c4_leads 181 = .ok (.aload_n 1, 1) := by decide +kernel
theorem d4_leads_182 : decode c4_leads 182 = .ok (.getfield 46, 3) := by decide +kernel
theorem d4_leads_185 : decode c4_leads 185 = .ok (.aload_n 0, 1) := by decide +kernel
theorem d4_leads_186 : decode c4_leads 186 = .ok (.getfield 25, 3) := by decide +kernel
theorem d4_leads_189 : decode c4_leads 189 = .ok (.if_icmp .ge 20, 3) := by decide +kernel
theorem d4_leads_192 : decode c4_leads 192 = .ok (.aload_n 0, 1) := by decide +kernel
theorem d4_leads_193 : decode c4_leads 193 = .ok (.getfield 21, 3) := by decide +kernel
theorem d4_leads_196 : decode c4_leads 196 = .ok (.aload_n 1, 1) := by decide +kernel
theorem d4_leads_197 : decode c4_leads 197 = .ok (.getfield 46, 3) := by decide +kernel
theorem d4_leads_200 : decode c4_leads 200 = .ok (.iaload, 1) := by decide +kernel
theorem d4_leads_201 : decode c4_leads 201 = .ok (.iconst 1, 1) := by decide +kernel
theorem d4_leads_202 : decode c4_leads 202 = .ok (.if_icmp .ne 7, 3) := by decide +kernel
theorem d4_leads_205 : decode c4_leads 205 = .ok (.iconst 1, 1) := by decide +kernel
theorem d4_leads_206 : decode c4_leads 206 = .ok (.goto 4, 3) := by decide +kernel
theorem d4_leads_209 : decode c4_leads 209 = .ok (.iconst 0, 1) := by decide +kernel
theorem d4_leads_210 : decode c4_leads 210 = .ok (.ireturn, 1) := by decide +kernel
theorem d4_leads_211 : decode c4_leads 211 = .ok (.iconst 1, 1) := by decide +kernel
theorem d4_leads_212 : decode c4_leads 212 = .ok (.ireturn, 1) := by decide +kernel
theorem mw4_leads : MV y4_leads c4_leads 2 (some .boolean) 1 := ⟨cd4_leads, ini4, na4_leads, im4_leads, se4_leads⟩
set_option maxHeartbeats 4000000 in
set_option maxRecDepth 100000 in
theorem k4_leads (l : Launch) (E : En) (ra : Nat) (rr : Nat) (len : Nat) (R : Nat → Int) (rw : Int → Int) (ya : Nat) (na : Nat) (Y : Nat → Int) (la : Nat) (ka : Nat) (Q : Nat → Int) (ta : Nat) (oa : Nat) (T : Nat → Int) (ca : Nat) (pa : Nat) (da : Nat) (sa : Nat) (C : Nat → Int) (P : Int → Int) (dr : Int → Int) (sr : Int → Int) (co : Int → Int) (K : Dy) (kn : Int → Int) (st : Int) (htm : TmK K T C P dr sr co) (hkn : KnK K (Q 1) (Q 2) kn) (hsp : 0 ≤ Q 1 ∧ Q 1 ≤ 20) (hR : (0 ≤ R 0 ∧ R 0 ≤ 6) ∧ (0 ≤ R 1 ∧ R 1 ≤ 20) ∧ (0 ≤ R 4 ∧ R 4 ≤ 12)) (hlen : R 0 = 6 → len = 12) (hrw : R 0 = 6 → ∀ j, 0 ≤ j → j < 12 → 0 ≤ rw j ∧ rw j ≤ 1) (hq1 : Q 1 = spF (R 0) (R 1)) (hy2 : 0 ≤ Y 2 ∧ Y 2 ≤ 11) (hst : 0 ≤ st ∧ st ≤ 3320) (hy3 : Y 3 = dF K (Y 2) st) (hy4 : Y 4 = dA K (Y 2) st) (hy5 : Y 5 = dB K (Y 2) st) (hy7 : Y 7 = dUp K (Y 2) st) (hy8 : Y 8 = dW K (Y 2) st) (hy80 : 0 ≤ Y 8 ∧ Y 8 ≤ 60) : Cm l E y4_leads c4_leads 2 (some .boolean) { frames := 27, cells := 0, slots := 0, locals := 758 } [.ref ra, .ref ya] [(ra, o4 (some rr) R), (rr, aInt E len rw), (ya, o2 (some ta) (some la) (some na) Y), (la, o3 (some ta) (some ka) Q), (ka, aLng E 39852 kn), (ta, o7 (some ca) (some oa) T), (oa, aInt E 24 co), (ca, o1 (some pa) (some da) (some sa) C), (pa, aInt E 5 P), (da, aInt E 24 dr), (sa, aInt E 24 sr)] (fun r ws => ∃ (v : Int), ∃ (kn1 : Int → Int), r = some (.int (iZ v)) ∧ ws = [(ra, o4 (some rr) R), (rr, aInt E len rw), (ya, o2 (some ta) (some la) (some na) Y), (la, o3 (some ta) (some ka) Q), (ka, aLng E 39852 kn1), (ta, o7 (some ca) (some oa) T), (oa, aInt E 24 co), (ca, o1 (some pa) (some da) (some sa) C), (pa, aInt E 5 P), (da, aInt E 24 dr), (sa, aInt E 24 sr)] ∧ (((ldI K (R 0) (R 1) (Y 2) st (R 4) rw = 1 ∧ KnK K (Q 1) (Q 2) kn1) ∧ v = 1) ∨ ((¬ ldI K (R 0) (R 1) (Y 2) st (R 4) rw = 1 ∧ KnK K (Q 1) (Q 2) kn1) ∧ v = 0))) := by
  refine Cm.of (by decide +kernel) (Nat.le_of_ble_eq_true rfl) (fun Γ A hl hargs hin G F => ?_)
  subst hl
  have tok := htm.2.1
  have hdr := dR tok hy2 hst
  have hnr := dNow_r tok hy2 hst
  have ht4 := htm.1.2.1
  have tk2 := tok.2.1
  have hmu : 0 ≤ R 1 * Y 7 := Int.mul_nonneg (by omega) (by omega)
  have hmv := mulb (a := R 1) (b := Y 7) (A := 20) (B := 6) (by omega) (by omega) (by omega) (by omega)
  have hR2 := hR.2.1
  have hte := tp_e (sp := Q 1) tok hy2 hst
  rw [← hy3, ← hy4, ← hy5] at hte
  have hnw : dNow K (Y 2) st = 81 * Y 3 + 9 * Y 4 + Y 5 := by omega
  refine j_aload_n G 0 rfl d4_leads_0 ?_
  refine j_get G 0 4 0 in4 fl4_9 d4_leads_1 rfl rfl (by decide) (v := .int (iZ (R 0))) rfl rfl ?_
  rcases (show R 0 = 1 ∨ R 0 = 2 ∨ R 0 = 3 ∨ R 0 = 4 ∨ R 0 = 5 ∨ R 0 = 6 ∨ (R 0 < 1 ∨ 6 < R 0) by omega) with h1 | h1 | h1 | h1 | h1 | h1 | h1
  ·
    refine j_tabIn (tgt := 44) G d4_leads_4 (by omega) 1 h1 ⟨by decide, by decide⟩ rfl (by decide) ?_
    refine j_aload_n G 1 rfl d4_leads_44 ?_
    refine j_getN G 2 2 5 in2 fn4_28 d4_leads_45 rfl rfl (by decide) (v := .int (iZ (Y 5))) rfl rfl ?_
    refine j_aload_n G 1 rfl d4_leads_48 ?_
    refine j_getN G 2 2 0 in2 fn4_33 d4_leads_49 rfl rfl (by decide) (v := .ref ta) rfl rfl ?_
    refine j_getN G 5 7 4 in7 fn4_37 d4_leads_52 rfl rfl (by decide) (v := .int (iZ (T 4))) rfl rfl ?_
    refine j_icmp_ge (tgt := 65) G d4_leads_55 (by decide) (by omega) (by omega) (fun h2 => ?_) (fun h2 => ?_)
    ·
      refine j_iconst G d4_leads_65 ?_
      refine j_goto (tgt := 70) G d4_leads_66 (by decide) ?_
      exact j_zret G F d4_leads_70 (by decide) ⟨1, kn, rfl, rfl, (by first | (left; exact ⟨⟨ld_0 (by omega), hkn⟩, rfl⟩) | (rw [ld_1 (kind := R 0) (by omega)]; first | (left; exact ⟨⟨by omega, hkn⟩, rfl⟩) | (right; exact ⟨⟨by omega, hkn⟩, rfl⟩)) | (rw [ld_2 (kind := R 0) (by omega), ← hmx]; first | (left; exact ⟨⟨by omega, hkn⟩, rfl⟩) | (right; exact ⟨⟨by omega, hkn⟩, rfl⟩)) | (rw [ld_3 (kind := R 0) (by omega), ← hy7, ← hy8]; first | (left; exact ⟨⟨by omega, hkn⟩, rfl⟩) | (right; exact ⟨⟨by omega, hkn⟩, rfl⟩)) | (rw [ld_6 (kind := R 0) (by omega)]; first | (left; exact ⟨⟨by omega, hkn⟩, rfl⟩) | (right; exact ⟨⟨by omega, hkn⟩, rfl⟩)) | (left; exact ⟨⟨hcc.mpr (by omega), hn1⟩, rfl⟩) | (right; exact ⟨⟨fun z => absurd (hcc.mp z) (by omega), hn1⟩, rfl⟩))⟩
    ·
      refine j_aload_n G 1 rfl d4_leads_58 ?_
      refine j_VP G (k2_isLastStep (xl Γ) E ya na Y ta la (by first | assumption | omega | (simp only [upS, reduceIte, Nat.reduceEqDiff, eq_self, List.length_cons, List.length_nil, List.length_append] <;> omega))) mw2_isLastStep ml4_42 [2] rfl 2 2 rfl rfl rfl ⟨Nat.le_of_ble_eq_true rfl, Nat.le_of_ble_eq_true rfl⟩ rfl (rest := []) rfl (Nat.le_of_ble_eq_true rfl) d4_leads_59 ⟨Nat.le_of_ble_eq_true rfl, Nat.le_of_ble_eq_true rfl⟩ (fun r hr => ?_)
      obtain ⟨v4, rfl, hq3⟩ := hr
      rcases hq3 with ⟨hq3, rfl⟩ | ⟨hq3, rfl⟩
      ·
        refine j_if_eq (tgt := 69) G d4_leads_62 (by decide) (by decide) (fun h5 => absurd h5 (by decide)) (fun h5 => ?_)
        refine j_iconst G d4_leads_65 ?_
        refine j_goto (tgt := 70) G d4_leads_66 (by decide) ?_
        exact j_zret G F d4_leads_70 (by decide) ⟨1, kn, rfl, rfl, (by first | (left; exact ⟨⟨ld_0 (by omega), hkn⟩, rfl⟩) | (rw [ld_1 (kind := R 0) (by omega)]; first | (left; exact ⟨⟨by omega, hkn⟩, rfl⟩) | (right; exact ⟨⟨by omega, hkn⟩, rfl⟩)) | (rw [ld_2 (kind := R 0) (by omega), ← hmx]; first | (left; exact ⟨⟨by omega, hkn⟩, rfl⟩) | (right; exact ⟨⟨by omega, hkn⟩, rfl⟩)) | (rw [ld_3 (kind := R 0) (by omega), ← hy7, ← hy8]; first | (left; exact ⟨⟨by omega, hkn⟩, rfl⟩) | (right; exact ⟨⟨by omega, hkn⟩, rfl⟩)) | (rw [ld_6 (kind := R 0) (by omega)]; first | (left; exact ⟨⟨by omega, hkn⟩, rfl⟩) | (right; exact ⟨⟨by omega, hkn⟩, rfl⟩)) | (left; exact ⟨⟨hcc.mpr (by omega), hn1⟩, rfl⟩) | (right; exact ⟨⟨fun z => absurd (hcc.mp z) (by omega), hn1⟩, rfl⟩))⟩
      ·
        refine j_if_eq (tgt := 69) G d4_leads_62 (by decide) (by decide) (fun h6 => ?_) (fun h6 => absurd h6 (by decide))
        refine j_iconst G d4_leads_69 ?_
        exact j_zret G F d4_leads_70 (by decide) ⟨0, kn, rfl, rfl, (by first | (left; exact ⟨⟨ld_0 (by omega), hkn⟩, rfl⟩) | (rw [ld_1 (kind := R 0) (by omega)]; first | (left; exact ⟨⟨by omega, hkn⟩, rfl⟩) | (right; exact ⟨⟨by omega, hkn⟩, rfl⟩)) | (rw [ld_2 (kind := R 0) (by omega), ← hmx]; first | (left; exact ⟨⟨by omega, hkn⟩, rfl⟩) | (right; exact ⟨⟨by omega, hkn⟩, rfl⟩)) | (rw [ld_3 (kind := R 0) (by omega), ← hy7, ← hy8]; first | (left; exact ⟨⟨by omega, hkn⟩, rfl⟩) | (right; exact ⟨⟨by omega, hkn⟩, rfl⟩)) | (rw [ld_6 (kind := R 0) (by omega)]; first | (left; exact ⟨⟨by omega, hkn⟩, rfl⟩) | (right; exact ⟨⟨by omega, hkn⟩, rfl⟩)) | (left; exact ⟨⟨hcc.mpr (by omega), hn1⟩, rfl⟩) | (right; exact ⟨⟨fun z => absurd (hcc.mp z) (by omega), hn1⟩, rfl⟩))⟩
  ·
    refine j_tabIn (tgt := 71) G d4_leads_4 (by omega) 2 h1 ⟨by decide, by decide⟩ rfl (by decide) ?_
    refine j_aload_n G 1 rfl d4_leads_71 ?_
    refine j_getN G 2 2 2 in2 fn4_46 d4_leads_72 rfl rfl (by decide) (v := .int (iZ (Y 2))) rfl rfl ?_
    refine j_aload_n G 0 rfl d4_leads_75 ?_
    refine j_get G 0 4 1 in4 fl4_15 d4_leads_76 rfl rfl (by decide) (v := .int (iZ (R 1))) rfl rfl ?_
    refine j_iconst G d4_leads_79 ?_
    refine j_iadd G d4_leads_80 ?_
    refine j_iconst G d4_leads_81 ?_
    refine j_mmax G ml4_49 (by omega) (by decide) ⟨Nat.le_of_ble_eq_true rfl, Nat.le_of_ble_eq_true rfl⟩ ⟨Nat.le_of_ble_eq_true rfl, Nat.le_of_ble_eq_true rfl⟩ d4_leads_82 ?_
    have hem : 0 ≤ Y 2 % max (R 1 + 1) 1 := Int.emod_nonneg _ (by omega)
    have hel : Y 2 % max (R 1 + 1) 1 < max (R 1 + 1) 1 := Int.emod_lt_of_pos _ (by omega)
    have hmx : max (R 1 + 1) 1 = R 1 + 1 := by omega
    refine j_irem G d4_leads_85 (by omega) ?_
    refine j_if_ne (tgt := 93) G d4_leads_86 (by decide) (by omega) (fun h7 => ?_) (fun h7 => ?_)
    ·
      refine j_iconst G d4_leads_93 ?_
      exact j_zret G F d4_leads_94 (by decide) ⟨0, kn, rfl, rfl, (by first | (left; exact ⟨⟨ld_0 (by omega), hkn⟩, rfl⟩) | (rw [ld_1 (kind := R 0) (by omega)]; first | (left; exact ⟨⟨by omega, hkn⟩, rfl⟩) | (right; exact ⟨⟨by omega, hkn⟩, rfl⟩)) | (rw [ld_2 (kind := R 0) (by omega), ← hmx]; first | (left; exact ⟨⟨by omega, hkn⟩, rfl⟩) | (right; exact ⟨⟨by omega, hkn⟩, rfl⟩)) | (rw [ld_3 (kind := R 0) (by omega), ← hy7, ← hy8]; first | (left; exact ⟨⟨by omega, hkn⟩, rfl⟩) | (right; exact ⟨⟨by omega, hkn⟩, rfl⟩)) | (rw [ld_6 (kind := R 0) (by omega)]; first | (left; exact ⟨⟨by omega, hkn⟩, rfl⟩) | (right; exact ⟨⟨by omega, hkn⟩, rfl⟩)) | (left; exact ⟨⟨hcc.mpr (by omega), hn1⟩, rfl⟩) | (right; exact ⟨⟨fun z => absurd (hcc.mp z) (by omega), hn1⟩, rfl⟩))⟩
    ·
      refine j_iconst G d4_leads_89 ?_
      refine j_goto (tgt := 94) G d4_leads_90 (by decide) ?_
      exact j_zret G F d4_leads_94 (by decide) ⟨1, kn, rfl, rfl, (by first | (left; exact ⟨⟨ld_0 (by omega), hkn⟩, rfl⟩) | (rw [ld_1 (kind := R 0) (by omega)]; first | (left; exact ⟨⟨by omega, hkn⟩, rfl⟩) | (right; exact ⟨⟨by omega, hkn⟩, rfl⟩)) | (rw [ld_2 (kind := R 0) (by omega), ← hmx]; first | (left; exact ⟨⟨by omega, hkn⟩, rfl⟩) | (right; exact ⟨⟨by omega, hkn⟩, rfl⟩)) | (rw [ld_3 (kind := R 0) (by omega), ← hy7, ← hy8]; first | (left; exact ⟨⟨by omega, hkn⟩, rfl⟩) | (right; exact ⟨⟨by omega, hkn⟩, rfl⟩)) | (rw [ld_6 (kind := R 0) (by omega)]; first | (left; exact ⟨⟨by omega, hkn⟩, rfl⟩) | (right; exact ⟨⟨by omega, hkn⟩, rfl⟩)) | (left; exact ⟨⟨hcc.mpr (by omega), hn1⟩, rfl⟩) | (right; exact ⟨⟨fun z => absurd (hcc.mp z) (by omega), hn1⟩, rfl⟩))⟩
  ·
    refine j_tabIn (tgt := 95) G d4_leads_4 (by omega) 3 h1 ⟨by decide, by decide⟩ rfl (by decide) ?_
    refine j_aload_n G 1 rfl d4_leads_95 ?_
    refine j_getN G 2 2 8 in2 fn4_55 d4_leads_96 rfl rfl (by decide) (v := .int (iZ (Y 8))) rfl rfl ?_
    refine j_aload_n G 0 rfl d4_leads_99 ?_
    refine j_get G 0 4 1 in4 fl4_15 d4_leads_100 rfl rfl (by decide) (v := .int (iZ (R 1))) rfl rfl ?_
    refine j_aload_n G 1 rfl d4_leads_103 ?_
    refine j_getN G 2 2 7 in2 fn4_58 d4_leads_104 rfl rfl (by decide) (v := .int (iZ (Y 7))) rfl rfl ?_
    refine j_imul G d4_leads_107 ?_
    refine j_icmp_le (tgt := 118) G d4_leads_108 (by decide) (by omega) (by omega) (fun h8 => ?_) (fun h8 => ?_)
    ·
      refine j_iconst G d4_leads_118 ?_
      refine j_goto (tgt := 123) G d4_leads_119 (by decide) ?_
      exact j_zret G F d4_leads_123 (by decide) ⟨1, kn, rfl, rfl, (by first | (left; exact ⟨⟨ld_0 (by omega), hkn⟩, rfl⟩) | (rw [ld_1 (kind := R 0) (by omega)]; first | (left; exact ⟨⟨by omega, hkn⟩, rfl⟩) | (right; exact ⟨⟨by omega, hkn⟩, rfl⟩)) | (rw [ld_2 (kind := R 0) (by omega), ← hmx]; first | (left; exact ⟨⟨by omega, hkn⟩, rfl⟩) | (right; exact ⟨⟨by omega, hkn⟩, rfl⟩)) | (rw [ld_3 (kind := R 0) (by omega), ← hy7, ← hy8]; first | (left; exact ⟨⟨by omega, hkn⟩, rfl⟩) | (right; exact ⟨⟨by omega, hkn⟩, rfl⟩)) | (rw [ld_6 (kind := R 0) (by omega)]; first | (left; exact ⟨⟨by omega, hkn⟩, rfl⟩) | (right; exact ⟨⟨by omega, hkn⟩, rfl⟩)) | (left; exact ⟨⟨hcc.mpr (by omega), hn1⟩, rfl⟩) | (right; exact ⟨⟨fun z => absurd (hcc.mp z) (by omega), hn1⟩, rfl⟩))⟩
    ·
      refine j_aload_n G 1 rfl d4_leads_111 ?_
      refine j_VP G (k2_isLastStep (xl Γ) E ya na Y ta la (by first | assumption | omega | (simp only [upS, reduceIte, Nat.reduceEqDiff, eq_self, List.length_cons, List.length_nil, List.length_append] <;> omega))) mw2_isLastStep ml4_42 [2] rfl 2 2 rfl rfl rfl ⟨Nat.le_of_ble_eq_true rfl, Nat.le_of_ble_eq_true rfl⟩ rfl (rest := []) rfl (Nat.le_of_ble_eq_true rfl) d4_leads_112 ⟨Nat.le_of_ble_eq_true rfl, Nat.le_of_ble_eq_true rfl⟩ (fun r hr => ?_)
      obtain ⟨v10, rfl, hq9⟩ := hr
      rcases hq9 with ⟨hq9, rfl⟩ | ⟨hq9, rfl⟩
      ·
        refine j_if_eq (tgt := 122) G d4_leads_115 (by decide) (by decide) (fun h11 => absurd h11 (by decide)) (fun h11 => ?_)
        refine j_iconst G d4_leads_118 ?_
        refine j_goto (tgt := 123) G d4_leads_119 (by decide) ?_
        exact j_zret G F d4_leads_123 (by decide) ⟨1, kn, rfl, rfl, (by first | (left; exact ⟨⟨ld_0 (by omega), hkn⟩, rfl⟩) | (rw [ld_1 (kind := R 0) (by omega)]; first | (left; exact ⟨⟨by omega, hkn⟩, rfl⟩) | (right; exact ⟨⟨by omega, hkn⟩, rfl⟩)) | (rw [ld_2 (kind := R 0) (by omega), ← hmx]; first | (left; exact ⟨⟨by omega, hkn⟩, rfl⟩) | (right; exact ⟨⟨by omega, hkn⟩, rfl⟩)) | (rw [ld_3 (kind := R 0) (by omega), ← hy7, ← hy8]; first | (left; exact ⟨⟨by omega, hkn⟩, rfl⟩) | (right; exact ⟨⟨by omega, hkn⟩, rfl⟩)) | (rw [ld_6 (kind := R 0) (by omega)]; first | (left; exact ⟨⟨by omega, hkn⟩, rfl⟩) | (right; exact ⟨⟨by omega, hkn⟩, rfl⟩)) | (left; exact ⟨⟨hcc.mpr (by omega), hn1⟩, rfl⟩) | (right; exact ⟨⟨fun z => absurd (hcc.mp z) (by omega), hn1⟩, rfl⟩))⟩
      ·
        refine j_if_eq (tgt := 122) G d4_leads_115 (by decide) (by decide) (fun h12 => ?_) (fun h12 => absurd h12 (by decide))
        refine j_iconst G d4_leads_122 ?_
        exact j_zret G F d4_leads_123 (by decide) ⟨0, kn, rfl, rfl, (by first | (left; exact ⟨⟨ld_0 (by omega), hkn⟩, rfl⟩) | (rw [ld_1 (kind := R 0) (by omega)]; first | (left; exact ⟨⟨by omega, hkn⟩, rfl⟩) | (right; exact ⟨⟨by omega, hkn⟩, rfl⟩)) | (rw [ld_2 (kind := R 0) (by omega), ← hmx]; first | (left; exact ⟨⟨by omega, hkn⟩, rfl⟩) | (right; exact ⟨⟨by omega, hkn⟩, rfl⟩)) | (rw [ld_3 (kind := R 0) (by omega), ← hy7, ← hy8]; first | (left; exact ⟨⟨by omega, hkn⟩, rfl⟩) | (right; exact ⟨⟨by omega, hkn⟩, rfl⟩)) | (rw [ld_6 (kind := R 0) (by omega)]; first | (left; exact ⟨⟨by omega, hkn⟩, rfl⟩) | (right; exact ⟨⟨by omega, hkn⟩, rfl⟩)) | (left; exact ⟨⟨hcc.mpr (by omega), hn1⟩, rfl⟩) | (right; exact ⟨⟨fun z => absurd (hcc.mp z) (by omega), hn1⟩, rfl⟩))⟩
  ·
    refine j_tabIn (tgt := 124) G d4_leads_4 (by omega) 4 h1 ⟨by decide, by decide⟩ rfl (by decide) ?_
    refine j_aload_n G 1 rfl d4_leads_124 ?_
    refine j_getN G 2 2 1 in2 fn4_61 d4_leads_125 rfl rfl (by decide) (v := .ref la) rfl rfl ?_
    refine j_aload_n G 1 rfl d4_leads_128 ?_
    refine j_getN G 2 2 2 in2 fn4_46 d4_leads_129 rfl rfl (by decide) (v := .int (iZ (Y 2))) rfl rfl ?_
    refine j_aload_n G 1 rfl d4_leads_132 ?_
    refine j_getN G 2 2 3 in2 fn4_65 d4_leads_133 rfl rfl (by decide) (v := .int (iZ (Y 3))) rfl rfl ?_
    refine j_aload_n G 1 rfl d4_leads_136 ?_
    refine j_getN G 2 2 4 in2 fn4_68 d4_leads_137 rfl rfl (by decide) (v := .int (iZ (Y 4))) rfl rfl ?_
    refine j_aload_n G 1 rfl d4_leads_140 ?_
    refine j_getN G 2 2 5 in2 fn4_28 d4_leads_141 rfl rfl (by decide) (v := .int (iZ (Y 5))) rfl rfl ?_
    refine j_SMN G (rm' := { frames := 25, cells := 0, slots := 0, locals := 701 }) (wc := [(la, o3 (some ta) (some ka) Q), (ka, aLng E 39852 kn), (ta, o7 (some ca) (some oa) T), (oa, aInt E 24 co), (ca, o1 (some pa) (some da) (some sa) C), (pa, aInt E 5 P), (da, aInt E 24 dr), (sa, aInt E 24 sr)]) (wr := [(ra, o4 (some rr) R), (rr, aInt E len rw), (ya, o2 (some ta) (some la) (some na) Y)]) (k3_worthOfTrip_12 (xl Γ) E la ka Q ta oa T ca pa da sa C P dr sr co K kn (Y 2) (Y 3) (Y 4) (Y 5) (by first | assumption | omega | (simp only [upS, reduceIte, Nat.reduceEqDiff, eq_self, List.length_cons, List.length_nil, List.length_append] <;> omega)) (by first | assumption | omega | (simp only [upS, reduceIte, Nat.reduceEqDiff, eq_self, List.length_cons, List.length_nil, List.length_append] <;> omega)) (by first | assumption | omega | (simp only [upS, reduceIte, Nat.reduceEqDiff, eq_self, List.length_cons, List.length_nil, List.length_append] <;> omega)) (by first | assumption | omega | (simp only [upS, reduceIte, Nat.reduceEqDiff, eq_self, List.length_cons, List.length_nil, List.length_append] <;> omega)) (by first | assumption | omega | (simp only [upS, reduceIte, Nat.reduceEqDiff, eq_self, List.length_cons, List.length_nil, List.length_append] <;> omega)) (by first | assumption | omega | (simp only [upS, reduceIte, Nat.reduceEqDiff, eq_self, List.length_cons, List.length_nil, List.length_append] <;> omega)) (by first | assumption | omega | (simp only [upS, reduceIte, Nat.reduceEqDiff, eq_self, List.length_cons, List.length_nil, List.length_append] <;> omega))) mw3_worthOfTrip mn4_71 [3, 4, 5, 6, 7, 8, 9, 10] [0, 1, 2] rfl rfl ⟨rfl, rfl⟩ (by decide) ⟨Nat.le_of_ble_eq_true rfl, Nat.le_of_ble_eq_true rfl⟩ rfl (rest := []) rfl (Nat.le_of_ble_eq_true rfl) d4_leads_144 ⟨Nat.le_of_ble_eq_true rfl, Nat.le_of_ble_eq_true rfl⟩ (fun r w1 hr => ?_)
    obtain ⟨v14, kn1_15, rfl, rfl, ⟨hq13_0, hq13_1, hq13_2⟩⟩ := hr
    refine j_eq (ws' := [(ra, o4 (some rr) R), (rr, aInt E len rw), (ya, o2 (some ta) (some la) (some na) Y), (la, o3 (some ta) (some ka) Q), (ka, aLng E 39852 kn1_15), (ta, o7 (some ca) (some oa) T), (oa, aInt E 24 co), (ca, o1 (some pa) (some da) (some sa) C), (pa, aInt E 5 P), (da, aInt E 24 dr), (sa, aInt E 24 sr)]) rfl rfl rfl ?_
    obtain ⟨wt, hwt⟩ : ∃ x, x = v14 := ⟨_, rfl⟩
    have hw0 := hwt.trans hq13_0
    have hw1 := hq13_1
    have hw2 := hq13_2
    rw [hte] at hw0
    refine j_aload_n G 1 rfl d4_leads_147 ?_
    refine j_getN G 2 2 1 in2 fn4_61 d4_leads_148 rfl rfl (by decide) (v := .ref la) rfl rfl ?_
    refine j_aload_n G 1 rfl d4_leads_151 ?_
    refine j_getN G 2 2 2 in2 fn4_46 d4_leads_152 rfl rfl (by decide) (v := .int (iZ (Y 2))) rfl rfl ?_
    refine j_iconst G d4_leads_155 ?_
    refine j_iadd G d4_leads_156 ?_
    refine j_aload_n G 1 rfl d4_leads_157 ?_
    refine j_getN G 2 2 3 in2 fn4_65 d4_leads_158 rfl rfl (by decide) (v := .int (iZ (Y 3))) rfl rfl ?_
    refine j_aload_n G 1 rfl d4_leads_161 ?_
    refine j_getN G 2 2 4 in2 fn4_68 d4_leads_162 rfl rfl (by decide) (v := .int (iZ (Y 4))) rfl rfl ?_
    refine j_aload_n G 1 rfl d4_leads_165 ?_
    refine j_getN G 2 2 5 in2 fn4_28 d4_leads_166 rfl rfl (by decide) (v := .int (iZ (Y 5))) rfl rfl ?_
    refine j_SMN G (rm' := { frames := 26, cells := 0, slots := 0, locals := 728 }) (wc := [(la, o3 (some ta) (some ka) Q), (ka, aLng E 39852 kn1_15), (ta, o7 (some ca) (some oa) T), (oa, aInt E 24 co), (ca, o1 (some pa) (some da) (some sa) C), (pa, aInt E 5 P), (da, aInt E 24 dr), (sa, aInt E 24 sr)]) (wr := [(ra, o4 (some rr) R), (rr, aInt E len rw), (ya, o2 (some ta) (some la) (some na) Y)]) (k3_worthFrom_12 (xl Γ) E la ka Q ta oa T ca pa da sa C P dr sr co K kn1_15 ((Y 2) + 1) (Y 3) (Y 4) (Y 5) (by first | assumption | omega | (simp only [upS, reduceIte, Nat.reduceEqDiff, eq_self, List.length_cons, List.length_nil, List.length_append] <;> omega)) (by first | assumption | omega | (simp only [upS, reduceIte, Nat.reduceEqDiff, eq_self, List.length_cons, List.length_nil, List.length_append] <;> omega)) (by first | assumption | omega | (simp only [upS, reduceIte, Nat.reduceEqDiff, eq_self, List.length_cons, List.length_nil, List.length_append] <;> omega)) (by first | assumption | omega | (simp only [upS, reduceIte, Nat.reduceEqDiff, eq_self, List.length_cons, List.length_nil, List.length_append] <;> omega)) (by first | assumption | omega | (simp only [upS, reduceIte, Nat.reduceEqDiff, eq_self, List.length_cons, List.length_nil, List.length_append] <;> omega)) (by first | assumption | omega | (simp only [upS, reduceIte, Nat.reduceEqDiff, eq_self, List.length_cons, List.length_nil, List.length_append] <;> omega)) (by first | assumption | omega | (simp only [upS, reduceIte, Nat.reduceEqDiff, eq_self, List.length_cons, List.length_nil, List.length_append] <;> omega))) mw3_worthFrom mn4_77 [3, 4, 5, 6, 7, 8, 9, 10] [0, 1, 2] rfl rfl ⟨rfl, rfl⟩ (by decide) ⟨Nat.le_of_ble_eq_true rfl, Nat.le_of_ble_eq_true rfl⟩ rfl (rest := [.int (iZ v14)]) rfl (Nat.le_of_ble_eq_true rfl) d4_leads_169 ⟨Nat.le_of_ble_eq_true rfl, Nat.le_of_ble_eq_true rfl⟩ (fun r w1 hr => ?_)
    obtain ⟨v17, kn1_18, rfl, rfl, ⟨hq16_0, hq16_1, hq16_2⟩⟩ := hr
    refine j_eq (ws' := [(ra, o4 (some rr) R), (rr, aInt E len rw), (ya, o2 (some ta) (some la) (some na) Y), (la, o3 (some ta) (some ka) Q), (ka, aLng E 39852 kn1_18), (ta, o7 (some ca) (some oa) T), (oa, aInt E 24 co), (ca, o1 (some pa) (some da) (some sa) C), (pa, aInt E 5 P), (da, aInt E 24 dr), (sa, aInt E 24 sr)]) rfl rfl rfl ?_
    obtain ⟨wn, hwn⟩ : ∃ x, x = v17 := ⟨_, rfl⟩
    have hn0 : wn = Vn K (Q 1) (Y 2 + 1) (dNow K (Y 2) st) := by rw [hwn, hnw]; exact hq16_0
    have hn1 := hq16_1
    have hn2 := hq16_2
    have hvb := Vn_r (spare := Q 1) tok hsp.1 (s := Y 2 + 1) (by omega) hnr
    have hcc : ldI K (R 0) (R 1) (Y 2) st (R 4) rw = 1 ↔ wn < wt := by rw [ld_4 (kind := R 0) (by omega), ← hq1, hw0, hn0]; by_cases q : dCan K (Y 2) st (Q 1); (rw [if_pos q]; exact ⟨fun z => z.2, fun z => ⟨q, z⟩⟩); (rw [if_neg q]; exact ⟨fun z => absurd z.1 q, fun z => by omega⟩)
    refine j_icmp_le (tgt := 179) G d4_leads_172 (by decide) (by omega) (by omega) (fun h19 => ?_) (fun h19 => ?_)
    ·
      refine j_iconst G d4_leads_179 ?_
      exact j_zret G F d4_leads_180 (by decide) ⟨0, kn1_18, rfl, rfl, (by first | (left; exact ⟨⟨ld_0 (by omega), hkn⟩, rfl⟩) | (rw [ld_1 (kind := R 0) (by omega)]; first | (left; exact ⟨⟨by omega, hkn⟩, rfl⟩) | (right; exact ⟨⟨by omega, hkn⟩, rfl⟩)) | (rw [ld_2 (kind := R 0) (by omega), ← hmx]; first | (left; exact ⟨⟨by omega, hkn⟩, rfl⟩) | (right; exact ⟨⟨by omega, hkn⟩, rfl⟩)) | (rw [ld_3 (kind := R 0) (by omega), ← hy7, ← hy8]; first | (left; exact ⟨⟨by omega, hkn⟩, rfl⟩) | (right; exact ⟨⟨by omega, hkn⟩, rfl⟩)) | (rw [ld_6 (kind := R 0) (by omega)]; first | (left; exact ⟨⟨by omega, hkn⟩, rfl⟩) | (right; exact ⟨⟨by omega, hkn⟩, rfl⟩)) | (left; exact ⟨⟨hcc.mpr (by omega), hn1⟩, rfl⟩) | (right; exact ⟨⟨fun z => absurd (hcc.mp z) (by omega), hn1⟩, rfl⟩))⟩
    ·
      refine j_iconst G d4_leads_175 ?_
      refine j_goto (tgt := 180) G d4_leads_176 (by decide) ?_
      exact j_zret G F d4_leads_180 (by decide) ⟨1, kn1_18, rfl, rfl, (by first | (left; exact ⟨⟨ld_0 (by omega), hkn⟩, rfl⟩) | (rw [ld_1 (kind := R 0) (by omega)]; first | (left; exact ⟨⟨by omega, hkn⟩, rfl⟩) | (right; exact ⟨⟨by omega, hkn⟩, rfl⟩)) | (rw [ld_2 (kind := R 0) (by omega), ← hmx]; first | (left; exact ⟨⟨by omega, hkn⟩, rfl⟩) | (right; exact ⟨⟨by omega, hkn⟩, rfl⟩)) | (rw [ld_3 (kind := R 0) (by omega), ← hy7, ← hy8]; first | (left; exact ⟨⟨by omega, hkn⟩, rfl⟩) | (right; exact ⟨⟨by omega, hkn⟩, rfl⟩)) | (rw [ld_6 (kind := R 0) (by omega)]; first | (left; exact ⟨⟨by omega, hkn⟩, rfl⟩) | (right; exact ⟨⟨by omega, hkn⟩, rfl⟩)) | (left; exact ⟨⟨hcc.mpr (by omega), hn1⟩, rfl⟩) | (right; exact ⟨⟨fun z => absurd (hcc.mp z) (by omega), hn1⟩, rfl⟩))⟩
  ·
    refine j_tabIn (tgt := 124) G d4_leads_4 (by omega) 5 h1 ⟨by decide, by decide⟩ rfl (by decide) ?_
    refine j_aload_n G 1 rfl d4_leads_124 ?_
    refine j_getN G 2 2 1 in2 fn4_61 d4_leads_125 rfl rfl (by decide) (v := .ref la) rfl rfl ?_
    refine j_aload_n G 1 rfl d4_leads_128 ?_
    refine j_getN G 2 2 2 in2 fn4_46 d4_leads_129 rfl rfl (by decide) (v := .int (iZ (Y 2))) rfl rfl ?_
    refine j_aload_n G 1 rfl d4_leads_132 ?_
    refine j_getN G 2 2 3 in2 fn4_65 d4_leads_133 rfl rfl (by decide) (v := .int (iZ (Y 3))) rfl rfl ?_
    refine j_aload_n G 1 rfl d4_leads_136 ?_
    refine j_getN G 2 2 4 in2 fn4_68 d4_leads_137 rfl rfl (by decide) (v := .int (iZ (Y 4))) rfl rfl ?_
    refine j_aload_n G 1 rfl d4_leads_140 ?_
    refine j_getN G 2 2 5 in2 fn4_28 d4_leads_141 rfl rfl (by decide) (v := .int (iZ (Y 5))) rfl rfl ?_
    refine j_SMN G (rm' := { frames := 25, cells := 0, slots := 0, locals := 701 }) (wc := [(la, o3 (some ta) (some ka) Q), (ka, aLng E 39852 kn), (ta, o7 (some ca) (some oa) T), (oa, aInt E 24 co), (ca, o1 (some pa) (some da) (some sa) C), (pa, aInt E 5 P), (da, aInt E 24 dr), (sa, aInt E 24 sr)]) (wr := [(ra, o4 (some rr) R), (rr, aInt E len rw), (ya, o2 (some ta) (some la) (some na) Y)]) (k3_worthOfTrip_12 (xl Γ) E la ka Q ta oa T ca pa da sa C P dr sr co K kn (Y 2) (Y 3) (Y 4) (Y 5) (by first | assumption | omega | (simp only [upS, reduceIte, Nat.reduceEqDiff, eq_self, List.length_cons, List.length_nil, List.length_append] <;> omega)) (by first | assumption | omega | (simp only [upS, reduceIte, Nat.reduceEqDiff, eq_self, List.length_cons, List.length_nil, List.length_append] <;> omega)) (by first | assumption | omega | (simp only [upS, reduceIte, Nat.reduceEqDiff, eq_self, List.length_cons, List.length_nil, List.length_append] <;> omega)) (by first | assumption | omega | (simp only [upS, reduceIte, Nat.reduceEqDiff, eq_self, List.length_cons, List.length_nil, List.length_append] <;> omega)) (by first | assumption | omega | (simp only [upS, reduceIte, Nat.reduceEqDiff, eq_self, List.length_cons, List.length_nil, List.length_append] <;> omega)) (by first | assumption | omega | (simp only [upS, reduceIte, Nat.reduceEqDiff, eq_self, List.length_cons, List.length_nil, List.length_append] <;> omega)) (by first | assumption | omega | (simp only [upS, reduceIte, Nat.reduceEqDiff, eq_self, List.length_cons, List.length_nil, List.length_append] <;> omega))) mw3_worthOfTrip mn4_71 [3, 4, 5, 6, 7, 8, 9, 10] [0, 1, 2] rfl rfl ⟨rfl, rfl⟩ (by decide) ⟨Nat.le_of_ble_eq_true rfl, Nat.le_of_ble_eq_true rfl⟩ rfl (rest := []) rfl (Nat.le_of_ble_eq_true rfl) d4_leads_144 ⟨Nat.le_of_ble_eq_true rfl, Nat.le_of_ble_eq_true rfl⟩ (fun r w1 hr => ?_)
    obtain ⟨v21, kn1_22, rfl, rfl, ⟨hq20_0, hq20_1, hq20_2⟩⟩ := hr
    refine j_eq (ws' := [(ra, o4 (some rr) R), (rr, aInt E len rw), (ya, o2 (some ta) (some la) (some na) Y), (la, o3 (some ta) (some ka) Q), (ka, aLng E 39852 kn1_22), (ta, o7 (some ca) (some oa) T), (oa, aInt E 24 co), (ca, o1 (some pa) (some da) (some sa) C), (pa, aInt E 5 P), (da, aInt E 24 dr), (sa, aInt E 24 sr)]) rfl rfl rfl ?_
    obtain ⟨wt, hwt⟩ : ∃ x, x = v21 := ⟨_, rfl⟩
    have hw0 := hwt.trans hq20_0
    have hw1 := hq20_1
    have hw2 := hq20_2
    rw [hte] at hw0
    refine j_aload_n G 1 rfl d4_leads_147 ?_
    refine j_getN G 2 2 1 in2 fn4_61 d4_leads_148 rfl rfl (by decide) (v := .ref la) rfl rfl ?_
    refine j_aload_n G 1 rfl d4_leads_151 ?_
    refine j_getN G 2 2 2 in2 fn4_46 d4_leads_152 rfl rfl (by decide) (v := .int (iZ (Y 2))) rfl rfl ?_
    refine j_iconst G d4_leads_155 ?_
    refine j_iadd G d4_leads_156 ?_
    refine j_aload_n G 1 rfl d4_leads_157 ?_
    refine j_getN G 2 2 3 in2 fn4_65 d4_leads_158 rfl rfl (by decide) (v := .int (iZ (Y 3))) rfl rfl ?_
    refine j_aload_n G 1 rfl d4_leads_161 ?_
    refine j_getN G 2 2 4 in2 fn4_68 d4_leads_162 rfl rfl (by decide) (v := .int (iZ (Y 4))) rfl rfl ?_
    refine j_aload_n G 1 rfl d4_leads_165 ?_
    refine j_getN G 2 2 5 in2 fn4_28 d4_leads_166 rfl rfl (by decide) (v := .int (iZ (Y 5))) rfl rfl ?_
    refine j_SMN G (rm' := { frames := 26, cells := 0, slots := 0, locals := 728 }) (wc := [(la, o3 (some ta) (some ka) Q), (ka, aLng E 39852 kn1_22), (ta, o7 (some ca) (some oa) T), (oa, aInt E 24 co), (ca, o1 (some pa) (some da) (some sa) C), (pa, aInt E 5 P), (da, aInt E 24 dr), (sa, aInt E 24 sr)]) (wr := [(ra, o4 (some rr) R), (rr, aInt E len rw), (ya, o2 (some ta) (some la) (some na) Y)]) (k3_worthFrom_12 (xl Γ) E la ka Q ta oa T ca pa da sa C P dr sr co K kn1_22 ((Y 2) + 1) (Y 3) (Y 4) (Y 5) (by first | assumption | omega | (simp only [upS, reduceIte, Nat.reduceEqDiff, eq_self, List.length_cons, List.length_nil, List.length_append] <;> omega)) (by first | assumption | omega | (simp only [upS, reduceIte, Nat.reduceEqDiff, eq_self, List.length_cons, List.length_nil, List.length_append] <;> omega)) (by first | assumption | omega | (simp only [upS, reduceIte, Nat.reduceEqDiff, eq_self, List.length_cons, List.length_nil, List.length_append] <;> omega)) (by first | assumption | omega | (simp only [upS, reduceIte, Nat.reduceEqDiff, eq_self, List.length_cons, List.length_nil, List.length_append] <;> omega)) (by first | assumption | omega | (simp only [upS, reduceIte, Nat.reduceEqDiff, eq_self, List.length_cons, List.length_nil, List.length_append] <;> omega)) (by first | assumption | omega | (simp only [upS, reduceIte, Nat.reduceEqDiff, eq_self, List.length_cons, List.length_nil, List.length_append] <;> omega)) (by first | assumption | omega | (simp only [upS, reduceIte, Nat.reduceEqDiff, eq_self, List.length_cons, List.length_nil, List.length_append] <;> omega))) mw3_worthFrom mn4_77 [3, 4, 5, 6, 7, 8, 9, 10] [0, 1, 2] rfl rfl ⟨rfl, rfl⟩ (by decide) ⟨Nat.le_of_ble_eq_true rfl, Nat.le_of_ble_eq_true rfl⟩ rfl (rest := [.int (iZ v21)]) rfl (Nat.le_of_ble_eq_true rfl) d4_leads_169 ⟨Nat.le_of_ble_eq_true rfl, Nat.le_of_ble_eq_true rfl⟩ (fun r w1 hr => ?_)
    obtain ⟨v24, kn1_25, rfl, rfl, ⟨hq23_0, hq23_1, hq23_2⟩⟩ := hr
    refine j_eq (ws' := [(ra, o4 (some rr) R), (rr, aInt E len rw), (ya, o2 (some ta) (some la) (some na) Y), (la, o3 (some ta) (some ka) Q), (ka, aLng E 39852 kn1_25), (ta, o7 (some ca) (some oa) T), (oa, aInt E 24 co), (ca, o1 (some pa) (some da) (some sa) C), (pa, aInt E 5 P), (da, aInt E 24 dr), (sa, aInt E 24 sr)]) rfl rfl rfl ?_
    obtain ⟨wn, hwn⟩ : ∃ x, x = v24 := ⟨_, rfl⟩
    have hn0 : wn = Vn K (Q 1) (Y 2 + 1) (dNow K (Y 2) st) := by rw [hwn, hnw]; exact hq23_0
    have hn1 := hq23_1
    have hn2 := hq23_2
    have hvb := Vn_r (spare := Q 1) tok hsp.1 (s := Y 2 + 1) (by omega) hnr
    have hcc : ldI K (R 0) (R 1) (Y 2) st (R 4) rw = 1 ↔ wn < wt := by rw [ld_4 (kind := R 0) (by omega), ← hq1, hw0, hn0]; by_cases q : dCan K (Y 2) st (Q 1); (rw [if_pos q]; exact ⟨fun z => z.2, fun z => ⟨q, z⟩⟩); (rw [if_neg q]; exact ⟨fun z => absurd z.1 q, fun z => by omega⟩)
    refine j_icmp_le (tgt := 179) G d4_leads_172 (by decide) (by omega) (by omega) (fun h26 => ?_) (fun h26 => ?_)
    ·
      refine j_iconst G d4_leads_179 ?_
      exact j_zret G F d4_leads_180 (by decide) ⟨0, kn1_25, rfl, rfl, (by first | (left; exact ⟨⟨ld_0 (by omega), hkn⟩, rfl⟩) | (rw [ld_1 (kind := R 0) (by omega)]; first | (left; exact ⟨⟨by omega, hkn⟩, rfl⟩) | (right; exact ⟨⟨by omega, hkn⟩, rfl⟩)) | (rw [ld_2 (kind := R 0) (by omega), ← hmx]; first | (left; exact ⟨⟨by omega, hkn⟩, rfl⟩) | (right; exact ⟨⟨by omega, hkn⟩, rfl⟩)) | (rw [ld_3 (kind := R 0) (by omega), ← hy7, ← hy8]; first | (left; exact ⟨⟨by omega, hkn⟩, rfl⟩) | (right; exact ⟨⟨by omega, hkn⟩, rfl⟩)) | (rw [ld_6 (kind := R 0) (by omega)]; first | (left; exact ⟨⟨by omega, hkn⟩, rfl⟩) | (right; exact ⟨⟨by omega, hkn⟩, rfl⟩)) | (left; exact ⟨⟨hcc.mpr (by omega), hn1⟩, rfl⟩) | (right; exact ⟨⟨fun z => absurd (hcc.mp z) (by omega), hn1⟩, rfl⟩))⟩
    ·
      refine j_iconst G d4_leads_175 ?_
      refine j_goto (tgt := 180) G d4_leads_176 (by decide) ?_
      exact j_zret G F d4_leads_180 (by decide) ⟨1, kn1_25, rfl, rfl, (by first | (left; exact ⟨⟨ld_0 (by omega), hkn⟩, rfl⟩) | (rw [ld_1 (kind := R 0) (by omega)]; first | (left; exact ⟨⟨by omega, hkn⟩, rfl⟩) | (right; exact ⟨⟨by omega, hkn⟩, rfl⟩)) | (rw [ld_2 (kind := R 0) (by omega), ← hmx]; first | (left; exact ⟨⟨by omega, hkn⟩, rfl⟩) | (right; exact ⟨⟨by omega, hkn⟩, rfl⟩)) | (rw [ld_3 (kind := R 0) (by omega), ← hy7, ← hy8]; first | (left; exact ⟨⟨by omega, hkn⟩, rfl⟩) | (right; exact ⟨⟨by omega, hkn⟩, rfl⟩)) | (rw [ld_6 (kind := R 0) (by omega)]; first | (left; exact ⟨⟨by omega, hkn⟩, rfl⟩) | (right; exact ⟨⟨by omega, hkn⟩, rfl⟩)) | (left; exact ⟨⟨hcc.mpr (by omega), hn1⟩, rfl⟩) | (right; exact ⟨⟨fun z => absurd (hcc.mp z) (by omega), hn1⟩, rfl⟩))⟩
  ·
    refine j_tabIn (tgt := 181) G d4_leads_4 (by omega) 6 h1 ⟨by decide, by decide⟩ rfl (by decide) ?_
    refine j_aload_n G 1 rfl d4_leads_181 ?_
    refine j_getN G 2 2 2 in2 fn4_46 d4_leads_182 rfl rfl (by decide) (v := .int (iZ (Y 2))) rfl rfl ?_
    refine j_aload_n G 0 rfl d4_leads_185 ?_
    refine j_get G 0 4 4 in4 fl4_25 d4_leads_186 rfl rfl (by decide) (v := .int (iZ (R 4))) rfl rfl ?_
    refine j_icmp_ge (tgt := 209) G d4_leads_189 (by decide) (by omega) (by omega) (fun h27 => ?_) (fun h27 => ?_)
    ·
      refine j_iconst G d4_leads_209 ?_
      exact j_zret G F d4_leads_210 (by decide) ⟨0, kn, rfl, rfl, (by first | (left; exact ⟨⟨ld_0 (by omega), hkn⟩, rfl⟩) | (rw [ld_1 (kind := R 0) (by omega)]; first | (left; exact ⟨⟨by omega, hkn⟩, rfl⟩) | (right; exact ⟨⟨by omega, hkn⟩, rfl⟩)) | (rw [ld_2 (kind := R 0) (by omega), ← hmx]; first | (left; exact ⟨⟨by omega, hkn⟩, rfl⟩) | (right; exact ⟨⟨by omega, hkn⟩, rfl⟩)) | (rw [ld_3 (kind := R 0) (by omega), ← hy7, ← hy8]; first | (left; exact ⟨⟨by omega, hkn⟩, rfl⟩) | (right; exact ⟨⟨by omega, hkn⟩, rfl⟩)) | (rw [ld_6 (kind := R 0) (by omega)]; first | (left; exact ⟨⟨by omega, hkn⟩, rfl⟩) | (right; exact ⟨⟨by omega, hkn⟩, rfl⟩)) | (left; exact ⟨⟨hcc.mpr (by omega), hn1⟩, rfl⟩) | (right; exact ⟨⟨fun z => absurd (hcc.mp z) (by omega), hn1⟩, rfl⟩))⟩
    ·
      have hr12 := hlen (by omega)
      have hrb := hrw (by omega) (Y 2) (by omega) (by omega)
      refine j_aload_n G 0 rfl d4_leads_192 ?_
      refine j_get G 0 4 3 in4 fl4_21 d4_leads_193 rfl rfl (by decide) (v := .ref rr) rfl rfl ?_
      refine j_aload_n G 1 rfl d4_leads_196 ?_
      refine j_getN G 2 2 2 in2 fn4_46 d4_leads_197 rfl rfl (by decide) (v := .int (iZ (Y 2))) rfl rfl ?_
      refine j_iald G 1 rfl (by omega) d4_leads_200 ?_
      refine j_iconst G d4_leads_201 ?_
      refine j_icmp_ne (tgt := 209) G d4_leads_202 (by decide) (by omega) (by decide) (fun h28 => ?_) (fun h28 => ?_)
      ·
        refine j_iconst G d4_leads_209 ?_
        exact j_zret G F d4_leads_210 (by decide) ⟨0, kn, rfl, rfl, (by first | (left; exact ⟨⟨ld_0 (by omega), hkn⟩, rfl⟩) | (rw [ld_1 (kind := R 0) (by omega)]; first | (left; exact ⟨⟨by omega, hkn⟩, rfl⟩) | (right; exact ⟨⟨by omega, hkn⟩, rfl⟩)) | (rw [ld_2 (kind := R 0) (by omega), ← hmx]; first | (left; exact ⟨⟨by omega, hkn⟩, rfl⟩) | (right; exact ⟨⟨by omega, hkn⟩, rfl⟩)) | (rw [ld_3 (kind := R 0) (by omega), ← hy7, ← hy8]; first | (left; exact ⟨⟨by omega, hkn⟩, rfl⟩) | (right; exact ⟨⟨by omega, hkn⟩, rfl⟩)) | (rw [ld_6 (kind := R 0) (by omega)]; first | (left; exact ⟨⟨by omega, hkn⟩, rfl⟩) | (right; exact ⟨⟨by omega, hkn⟩, rfl⟩)) | (left; exact ⟨⟨hcc.mpr (by omega), hn1⟩, rfl⟩) | (right; exact ⟨⟨fun z => absurd (hcc.mp z) (by omega), hn1⟩, rfl⟩))⟩
      ·
        refine j_iconst G d4_leads_205 ?_
        refine j_goto (tgt := 210) G d4_leads_206 (by decide) ?_
        exact j_zret G F d4_leads_210 (by decide) ⟨1, kn, rfl, rfl, (by first | (left; exact ⟨⟨ld_0 (by omega), hkn⟩, rfl⟩) | (rw [ld_1 (kind := R 0) (by omega)]; first | (left; exact ⟨⟨by omega, hkn⟩, rfl⟩) | (right; exact ⟨⟨by omega, hkn⟩, rfl⟩)) | (rw [ld_2 (kind := R 0) (by omega), ← hmx]; first | (left; exact ⟨⟨by omega, hkn⟩, rfl⟩) | (right; exact ⟨⟨by omega, hkn⟩, rfl⟩)) | (rw [ld_3 (kind := R 0) (by omega), ← hy7, ← hy8]; first | (left; exact ⟨⟨by omega, hkn⟩, rfl⟩) | (right; exact ⟨⟨by omega, hkn⟩, rfl⟩)) | (rw [ld_6 (kind := R 0) (by omega)]; first | (left; exact ⟨⟨by omega, hkn⟩, rfl⟩) | (right; exact ⟨⟨by omega, hkn⟩, rfl⟩)) | (left; exact ⟨⟨hcc.mpr (by omega), hn1⟩, rfl⟩) | (right; exact ⟨⟨fun z => absurd (hcc.mp z) (by omega), hn1⟩, rfl⟩))⟩
  ·
    refine j_tabOut (tgt := 211) G d4_leads_4 (by omega) h1 (by decide) ?_
    refine j_iconst G d4_leads_211 ?_
    exact j_zret G F d4_leads_212 (by decide) ⟨1, kn, rfl, rfl, (by first | (left; exact ⟨⟨ld_0 (by omega), hkn⟩, rfl⟩) | (rw [ld_1 (kind := R 0) (by omega)]; first | (left; exact ⟨⟨by omega, hkn⟩, rfl⟩) | (right; exact ⟨⟨by omega, hkn⟩, rfl⟩)) | (rw [ld_2 (kind := R 0) (by omega), ← hmx]; first | (left; exact ⟨⟨by omega, hkn⟩, rfl⟩) | (right; exact ⟨⟨by omega, hkn⟩, rfl⟩)) | (rw [ld_3 (kind := R 0) (by omega), ← hy7, ← hy8]; first | (left; exact ⟨⟨by omega, hkn⟩, rfl⟩) | (right; exact ⟨⟨by omega, hkn⟩, rfl⟩)) | (rw [ld_6 (kind := R 0) (by omega)]; first | (left; exact ⟨⟨by omega, hkn⟩, rfl⟩) | (right; exact ⟨⟨by omega, hkn⟩, rfl⟩)) | (left; exact ⟨⟨hcc.mpr (by omega), hn1⟩, rfl⟩) | (right; exact ⟨⟨fun z => absurd (hcc.mp z) (by omega), hn1⟩, rfl⟩))⟩
