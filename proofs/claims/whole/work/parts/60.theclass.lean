theorem rhoT_124 {ρ : Nat → Option Nat} : rhoT ρ (1000 * 12 + 4) = some 29 := by
  unfold rhoT
  rw [stR_s]

theorem rhoE_10 {ρ : Nat → Option Nat} : rhoE ρ (1000 * 1 + 0) = some 2 := by
  unfold rhoE
  rw [stR_n (by omega), stR_n (by omega), mulR_n (by omega), stR_n (by omega), mulR_n (by omega), stR_n (by omega), rhoT_n (by omega), stR_s]

theorem rhoE_11 {ρ : Nat → Option Nat} : rhoE ρ (1000 * 1 + 1) = some 12 := by
  unfold rhoE
  rw [stR_n (by omega), stR_n (by omega), mulR_n (by omega), stR_n (by omega), mulR_n (by omega), stR_s]

theorem rhoE_124 {ρ : Nat → Option Nat} : rhoE ρ (1000 * 12 + 4) = some 29 := by
  unfold rhoE
  rw [stR_n (by omega), stR_n (by omega), mulR_n (by omega), stR_n (by omega), mulR_n (by omega), stR_n (by omega)]
  exact rhoT_124

theorem kdS : ∀ i, i < 4 → kd (62 + 2 * i) = 5 ∧ kd (62 + 2 * i + 1) = 9 ∧ ln (62 + 2 * i + 1) = 40 := by decide
/-- the references when i sheets are made, and the memory -/
def rhoS (ρ : Nat → Option Nat) : Nat → Nat → Option Nat
  | 0 => ρ
  | i + 1 => stR (stR (rhoS ρ i) (1000 * (62 + 2 * i) + 0) (62 + 2 * i + 1)) (1000 * 60 + i) (62 + 2 * i)
def mS (M : Nat → Int) : Nat → Nat → Int
  | 0 => M
  | i + 1 => stM (mS M i) (1000 * (62 + 2 * i) + 1) (-1)
theorem rhoS_7 {ρ : Nat → Option Nat} (h : ρ (1000 * 0 + 7) = some 60) : ∀ i, rhoS ρ i (1000 * 0 + 7) = some 60
  | 0 => h
  | i + 1 => by rw [rhoS, stR_n (by omega), stR_n (by omega)]; exact rhoS_7 h i
theorem rhoS_n {ρ : Nat → Option Nat} {n : Nat} (h : n < 60000 ∨ 70000 ≤ n) : ∀ i, i ≤ 4 → rhoS ρ i n = ρ n
  | 0, _ => rfl
  | i + 1, hi => by rw [rhoS, stR_n (by omega), stR_n (by omega)]; exact rhoS_n h i (by omega)
theorem rhoS_c {ρ ρ' : Nat → Option Nat} {n : Nat} (h : ρ n = ρ' n) : ∀ i, rhoS ρ i n = rhoS ρ' i n
  | 0 => h
  | i + 1 => stR_c (stR_c (rhoS_c h i))
theorem mS_n {M : Nat → Int} {n : Nat} (h : ¬ (62000 ≤ n ∧ n < 70000 ∧ n % 2000 = 1)) : ∀ i, i ≤ 4 → mS M i n = M n
  | 0, _ => rfl
  | i + 1, hi => by rw [mS, st_n (by omega)]; exact mS_n h i (by omega)
theorem mS_f {M : Nat → Int} {ρ : Nat → Option Nat} (h : Fr M ρ 62) : ∀ i, i ≤ 4 → Fr (mS M i) (rhoS ρ i) (62 + 2 * i)
  | 0, _ => h
  | i + 1, hi => ((((mS_f h i (by omega)).up (b' := 62 + 2 * (i + 1)) (by omega)).st (by omega)).sR (by omega)).sR (by omega)

set_option maxHeartbeats 4000000 in
theorem k_X7_loop (l : Launch) (g : Gm) (M : Nat → Int) (ρ : Nat → Option Nat) (h7 : ρ (1000 * 0 + 7) = some 60) (hF0 : Fr M ρ 62) {p : Program} {e : Env} {s : State} {m : MethodId} {args : Array Value} {below : List Frame} {meth : Method} {c : Code} {QQ : State → Prop} (hA : AOs s) (hml : c.maxLocals = 2) (hend : ∀ (gv : Gm) (H : Heap) (locs : List Loc) (ls : Array Slot), GX g gv → gN gv = 70 → Rr gv (rhoS ρ 4) → Cx gv p c m s args cX7_init "RatedBySighs" → Wo gv (mS M 4) H → va_S (ar gv) s.heap H locs → W p l e { frames := 47, cells := 69, slots := 1924, locals := 1052 } s m args below meth c H locs 69 1924 QQ (F0 m 117 ls [])) : ∀ (n i : Nat), i + n = 4 → ∀ (cl sl : Nat), cl = 61 + 2 * i → sl = 1752 + 43 * i → ∀ (gv : Gm) (H : Heap) (locs : List Loc) (ls : Array Slot), GX g gv → gN gv = 62 + 2 * i → Rr gv (rhoS ρ i) → Cx gv p c m s args cX7_init "RatedBySighs" → Wo gv (mS M i) H → va_S (ar gv) s.heap H locs → lv_has ls 2 [(1, .int (II (i : Int))), (0, .ref (gA gv 0))] → W p l e { frames := 47, cells := 69, slots := 1924, locals := 1052 } s m args below meth c H locs cl sl QQ (F0 m 93 ls [])
  | 0, i => fun hi cl sl hcl hsl gv H locs ls hX hN hR C hw hS hl => by
    obtain rfl : i = 4 := by omega
    obtain rfl : cl = 69 := by omega
    obtain rfl : sl = 1924 := by omega
    refine lv_iload_n C.1 C.2.1 dX7_init_93 rfl (lv_at hl 0 rfl) ?_
    refine lv_iconst (v := II 4) C.1 C.2.1 dX7_init_94 rfl ?_
    refine x_icmp_ge (tgt := 117) C ⟨by decide, by decide⟩ ⟨by decide, by decide⟩ dX7_init_95 (by decide) (fun _ => ?_) (fun h => absurd (by decide) h)
    exact hend gv H locs ls hX hN hR C hw hS
  | n + 1, i => fun hi cl sl hcl hsl gv H locs ls hX hN hR C hw hS hl => by
    have hF : Fr (mS M i) (rhoS ρ i) (62 + 2 * i) := mS_f hF0 i (by omega)
    refine lv_iload_n C.1 C.2.1 dX7_init_93 rfl (lv_at hl 0 rfl) ?_
    refine lv_iconst (v := II 4) C.1 C.2.1 dX7_init_94 rfl ?_
    refine x_icmp_ge (tgt := 117) C ⟨by omega, by omega⟩ ⟨by decide, by decide⟩ dX7_init_95 (by decide) (fun h => absurd h (by omega)) (fun _ => ?_)
    refine lv_aload_n C.1 C.2.1 dX7_init_98 rfl (lv_at hl 1 rfl) ?_
    refine g7 C hw 0 (by omega) rfl 7 (by decide) mw_493 (svr (hR.ref (q := 60) (rhoS_7 h7 i))) dX7_init_99 ?_
    refine lv_iload_n C.1 C.2.1 dX7_init_102 rfl (lv_at hl 0 rfl) ?_
    refine y_new5 (k := 62 + 2 * i) C hw hS hR hN (kdS i (by omega)).1 hF mw_466 mw_468 mw_129 (by show _ ≤ (69 : Nat); omega) (by show _ ≤ (1924 : Nat); omega) dX7_init_103 (fun gv1 H hX1 hN hR C hw hS => ?_)
    have hFn := hF
    have hl : lv_has ls 2 [(1, .int (II (i : Int))), (0, .ref (gA gv1 0))] := by
      have z := hl
      rw [hX1.A (k := 0) (by omega)] at z
      exact z
    rw [hX1.A (k := 60) (by omega)]
    have hX := hX.trans hX1
    have hF := hF.up (b' := 62 + 2 * i + 1) (by omega)
    refine lv_dup C.1 C.2.1 dX7_init_106 rfl ?_
    refine y_call C hA hw hS hml hl.1 (62 + 2 * i) (k_X5 l gv1 (mS M i) (rhoS ρ i) (62 + 2 * i) (kdS i (by omega)).1 (kdS i (by omega)).2.1 (kdS i (by omega)).2.2 hN hR hFn) mn_469 mw_470 mw_129 mw_471 rfl ⟨by decide, by decide, by decide +kernel⟩ ⟨Nat.le_of_ble_eq_true rfl, Nat.le_of_ble_eq_true rfl⟩ (Nat.le_of_ble_eq_true rfl) dX7_init_107 ⟨by show _ + 1 ≤ (69 : Nat); omega, by show _ + 40 ≤ (1924 : Nat); omega⟩ (fun gv2 H locs hX2 hN2 hR C hw hS => ?_)
    have hl : lv_has ls 2 [(1, .int (II (i : Int))), (0, .ref (gA gv2 0))] := by
      have z := hl
      rw [hX2.A (k := 0) (by omega)] at z
      exact z
    rw [hX2.A (k := 62 + 2 * i) (by omega), hX2.A (k := 60) (by omega)]
    have hX := hX.trans hX2
    have hN := hN2
    have hF := ((hF.up (b' := 62 + 2 * i + 2) (by omega)).st (n := 1000 * (62 + 2 * i) + 1) (x := (-1)) (by omega)).sR (n := 1000 * (62 + 2 * i) + 0) (q := (62 + 2 * i + 1)) (by omega)
    refine y_aast C hw hS hR 60 (by omega) 12 rfl (L := 4) rfl (i := i) (by omega) (by decide) 3 5 rfl (by decide) rfl (by decide) (62 + 2 * i) (by omega) (kdS i (by omega)).1 dX7_init_110 (fun gv3 H locs hX3 hN2 hR C hw hS => ?_)
    have hl : lv_has ls 2 [(1, .int (II (i : Int))), (0, .ref (gA gv3 0))] := by
      have z := hl
      rw [hX3.A (k := 0) (by omega)] at z
      exact z
    have hX := hX.trans hX3
    have hN := hN2.trans hN
    have hF := hF.sR (n := 1000 * 60 + i) (q := (62 + 2 * i)) (by omega)
    refine lv_iinc (v := II ((i : Int) + 1)) (lv' := [(1, .int (II ((i : Int) + 1))), (0, .ref (gA gv3 0))]) C.1 C.2.1 dX7_init_111 hl (k := 0) rfl (II_add _ _) (by decide) rfl (fun ls hl => ?_)
    refine lv_goto (tgt := 93) C.1 C.2.1 dX7_init_114 (by decide) ?_
    exact k_X7_loop l g M ρ h7 hF0 hA hml hend n (i + 1) (by omega) _ _ (by show cl + 1 + 1 = _; omega) (by show sl + 3 + 40 = _; omega) gv3 H locs ls hX (by omega) hR C hw hS hl

def rho7 (ρ : Nat → Option Nat) : Nat → Option Nat := stR (stR (stR (stR (rhoB 49 (stR (stR (stR (stR (rhoE ρ) (1000 * 0 + 0) 1) (1000 * 0 + 1) 2) (1000 * 0 + 2) 12) (1000 * 0 + 3) 29) 8) (1000 * 0 + 4) 49) (1000 * 0 + 6) 59) (1000 * 0 + 7) 60) (1000 * 0 + 8) 61

set_option maxHeartbeats 4000000 in
set_option maxRecDepth 100000 in
theorem k_X7 (l : Launch) (g : Gm) (M : Nat → Int) (ρ : Nat → Option Nat) (hN : gN g = 1) (hR : Rr g ρ) (hF0 : Fr M ρ 0) : CD l ({ cls := "RatedBySighs", name := "<init>", desc := "()V" } : Jvm.MethodName) cX7_init 2 { frames := 47, cells := 69, slots := 1924, locals := 1052 } g M [.ref (gA g 0)] (fun M' => ∃ M1, (TxtC M1 (1, (fun _ => evC [5, -1, -14] [0] [-1]), 0, fun i => sb 0 i) ∧ ∀ m, ¬ (12000 ≤ m ∧ m < 33000) → M1 m = M m) ∧ M' = mS (stM M1 (1000 * 59 + 0) (-1)) 4) (rhoS (rho7 ρ) 4) 70 := by
  refine yd_start (by decide) (Nat.le_of_ble_eq_true rfl) (fun p e s m below meth c ls C hA hm hr hlk hml hw hS hl => ?_)
  have hl : lv_has ls 2 [(0, .ref (gA g 0))] := hl
  generalize ([.ref (gA g 0)] : List Value).toArray = args at C ⊢
  generalize hQQ : MQ below (postD g (fun M' => ∃ M1, (TxtC M1 (1, (fun _ => evC [5, -1, -14] [0] [-1]), 0, fun i => sb 0 i) ∧ ∀ m, ¬ (12000 ≤ m ∧ m < 33000) → M1 m = M m) ∧ M' = mS (stM M1 (1000 * 59 + 0) (-1)) 4) (rhoS (rho7 ρ) 4) 70) args s 69 1924 (ar g) = QQ
  have hX : GX g g := GX.refl
  have hF : Fr M ρ 1 := hF0.up (by omega)
  refine lv_aload_n C.1 C.2.1 dX7_init_0 rfl (lv_at hl 0 rfl) ?_
  refine y_obj C mw_138 mw_139 mw_140 (hml.trans hl.1.symm) dX7_init_1 (Nat.le_of_ble_eq_true rfl) (by decide) (Nat.le_of_ble_eq_true rfl) ?_
  refine lv_aload_n C.1 C.2.1 dX7_init_4 rfl (lv_at hl 0 rfl) ?_
  refine y_new2 (k := 1) C hw hS hR hN rfl hF mw_141 mw_142 mw_118 (by decide) (by decide) dX7_init_5 (fun gv1 H hX1 hN hR C hw hS => ?_)
  have hFn := hF
  have hl : lv_has ls 2 [(0, .ref (gA gv1 0))] := by
    have z := hl
    rw [hX1.A (k := 0) (by omega)] at z
    exact z
  rw [hX1.A (k := 0) (by omega)]
  have hX := hX.trans hX1
  have hF := hF.up (b' := 2) (by omega)
  refine lv_dup C.1 C.2.1 dX7_init_8 rfl ?_
  refine yd_call C hA hw hS hml hl.1 1 (k_X2 l gv1 M ρ hN hR hFn) mn_143 mw_144 mw_118 mw_145 rfl ⟨by decide, by decide, by decide +kernel⟩ ⟨Nat.le_of_ble_eq_true rfl, Nat.le_of_ble_eq_true rfl⟩ (Nat.le_of_ble_eq_true rfl) dX7_init_9 ⟨Nat.le_of_ble_eq_true rfl, Nat.le_of_ble_eq_true rfl⟩ (fun gv2 MM1 H locs hX2 hN2 hR hP1 C hw hS => ?_)
  have hl : lv_has ls 2 [(0, .ref (gA gv2 0))] := by
    have z := hl
    rw [hX2.A (k := 0) (by omega)] at z
    exact z
  rw [hX2.A (k := 1) (by omega), hX2.A (k := 0) (by omega)]
  have hX := hX.trans hX2
  have hN := hN2
  have hF : Fr MM1 (rhoE ρ) 49 := rhoE_f (fun n hn => ⟨(hP1.2 n (by omega)).trans (hFn n (by omega)).1, (hFn n (by omega)).2⟩)
  refine y_pr7 C hw hS hR hm rfl 0 (by omega) rfl 0 (by decide) rfl mw_486 rfl 1 (by omega) (tyX7_ok 0 (by decide)) (fun _ => rfl) (fun _ => rfl) dX7_init_12 (fun gv3 H locs hX3 hN2 hR C hw hS => ?_)
  have hl : lv_has ls 2 [(0, .ref (gA gv3 0))] := by
    have z := hl
    rw [hX3.A (k := 0) (by omega)] at z
    exact z
  have hX := hX.trans hX3
  have hN := hN2.trans hN
  have hF := hF.sR (n := 1000 * 0 + 0) (q := 1) (by omega)
  refine lv_aload_n C.1 C.2.1 dX7_init_15 rfl (lv_at hl 0 rfl) ?_
  refine lv_aload_n C.1 C.2.1 dX7_init_16 rfl (lv_at hl 0 rfl) ?_
  refine g7 C hw 0 (by omega) rfl 0 (by decide) mw_486 (svr (hR.ref (q := 1) (by rw [stR_s]))) dX7_init_17 ?_
  refine gn2 C hw 1 (by omega) rfl 0 (by decide) mn_422 (svr (hR.ref (q := 2) (by rw [stR_n (by omega)]; exact rhoE_10))) dX7_init_20 ?_
  refine y_pr7 C hw hS hR hm rfl 0 (by omega) rfl 1 (by decide) rfl mw_487 rfl 2 (by omega) (tyX7_ok 1 (by decide)) (fun _ => rfl) (fun _ => rfl) dX7_init_23 (fun gv4 H locs hX4 hN2 hR C hw hS => ?_)
  have hl : lv_has ls 2 [(0, .ref (gA gv4 0))] := by
    have z := hl
    rw [hX4.A (k := 0) (by omega)] at z
    exact z
  have hX := hX.trans hX4
  have hN := hN2.trans hN
  have hF := hF.sR (n := 1000 * 0 + 1) (q := 2) (by omega)
  refine lv_aload_n C.1 C.2.1 dX7_init_26 rfl (lv_at hl 0 rfl) ?_
  refine lv_aload_n C.1 C.2.1 dX7_init_27 rfl (lv_at hl 0 rfl) ?_
  refine g7 C hw 0 (by omega) rfl 0 (by decide) mw_486 (svr (hR.ref (q := 1) (by rw [stR_n (by omega), stR_s]))) dX7_init_28 ?_
  refine gn2 C hw 1 (by omega) rfl 1 (by decide) mn_424 (svr (hR.ref (q := 12) (by rw [stR_n (by omega), stR_n (by omega)]; exact rhoE_11))) dX7_init_31 ?_
  refine y_pr7 C hw hS hR hm rfl 0 (by omega) rfl 2 (by decide) rfl mw_488 rfl 12 (by omega) (tyX7_ok 2 (by decide)) (fun _ => rfl) (fun _ => rfl) dX7_init_34 (fun gv5 H locs hX5 hN2 hR C hw hS => ?_)
  have hl : lv_has ls 2 [(0, .ref (gA gv5 0))] := by
    have z := hl
    rw [hX5.A (k := 0) (by omega)] at z
    exact z
  have hX := hX.trans hX5
  have hN := hN2.trans hN
  have hF := hF.sR (n := 1000 * 0 + 2) (q := 12) (by omega)
  refine lv_aload_n C.1 C.2.1 dX7_init_37 rfl (lv_at hl 0 rfl) ?_
  refine lv_aload_n C.1 C.2.1 dX7_init_38 rfl (lv_at hl 0 rfl) ?_
  refine g7 C hw 0 (by omega) rfl 2 (by decide) mw_488 (svr (hR.ref (q := 12) (by rw [stR_s]))) dX7_init_39 ?_
  refine gn6 C hw 12 (by omega) rfl 4 (by decide) mn_402 (svr (hR.ref (q := 29) (by rw [stR_n (by omega), stR_n (by omega), stR_n (by omega)]; exact rhoE_124))) dX7_init_42 ?_
  refine y_pr7 C hw hS hR hm rfl 0 (by omega) rfl 3 (by decide) rfl mw_489 rfl 29 (by omega) (tyX7_ok 3 (by decide)) (fun _ => rfl) (fun _ => rfl) dX7_init_45 (fun gv6 H locs hX6 hN2 hR C hw hS => ?_)
  have hl : lv_has ls 2 [(0, .ref (gA gv6 0))] := by
    have z := hl
    rw [hX6.A (k := 0) (by omega)] at z
    exact z
  have hX := hX.trans hX6
  have hN := hN2.trans hN
  have hF := hF.sR (n := 1000 * 0 + 3) (q := 29) (by omega)
  refine lv_aload_n C.1 C.2.1 dX7_init_48 rfl (lv_at hl 0 rfl) ?_
  refine y_new1 (k := 49) C hw hS hR hN rfl hF mw_451 mw_148 mw_119 (by decide) (by decide) dX7_init_49 (fun gv7 H hX7 hN hR C hw hS => ?_)
  have hFn := hF
  have hl : lv_has ls 2 [(0, .ref (gA gv7 0))] := by
    have z := hl
    rw [hX7.A (k := 0) (by omega)] at z
    exact z
  rw [hX7.A (k := 0) (by omega)]
  have hX := hX.trans hX7
  have hF := hF.up (b' := 50) (by omega)
  refine lv_dup C.1 C.2.1 dX7_init_52 rfl ?_
  refine y_call C hA hw hS hml hl.1 49 (k_X1 l gv7 MM1 (stR (stR (stR (stR (rhoE ρ) (1000 * 0 + 0) 1) (1000 * 0 + 1) 2) (1000 * 0 + 2) 12) (1000 * 0 + 3) 29) 49 (by decide) hN hR hFn) mn_452 mw_150 mw_119 mw_151 rfl ⟨by decide, by decide, by decide +kernel⟩ ⟨Nat.le_of_ble_eq_true rfl, Nat.le_of_ble_eq_true rfl⟩ (Nat.le_of_ble_eq_true rfl) dX7_init_53 ⟨Nat.le_of_ble_eq_true rfl, Nat.le_of_ble_eq_true rfl⟩ (fun gv8 H locs hX8 hN2 hR C hw hS => ?_)
  have hl : lv_has ls 2 [(0, .ref (gA gv8 0))] := by
    have z := hl
    rw [hX8.A (k := 0) (by omega)] at z
    exact z
  rw [hX8.A (k := 49) (by omega), hX8.A (k := 0) (by omega)]
  have hX := hX.trans hX8
  have hN := hN2
  have hF := (rhoB_f (b := 49) (hF.up (b' := 49 + 2) (by omega)) 8 (by omega)).up (b' := 59) (by omega)
  refine y_pr7 C hw hS hR hm rfl 0 (by omega) rfl 4 (by decide) rfl mw_490 rfl 49 (by omega) (tyX7_ok 4 (by decide)) (fun _ => rfl) (fun _ => rfl) dX7_init_56 (fun gv9 H locs hX9 hN2 hR C hw hS => ?_)
  have hl : lv_has ls 2 [(0, .ref (gA gv9 0))] := by
    have z := hl
    rw [hX9.A (k := 0) (by omega)] at z
    exact z
  have hX := hX.trans hX9
  have hN := hN2.trans hN
  have hF := hF.sR (n := 1000 * 0 + 4) (q := 49) (by omega)
  refine lv_aload_n C.1 C.2.1 dX7_init_59 rfl (lv_at hl 0 rfl) ?_
  refine lv_iconst (v := II 0) C.1 C.2.1 dX7_init_60 rfl ?_
  refine p7 C hw hS 0 (by omega) rfl 5 (by decide) mw_491 rfl (x := 0) ⟨by decide, by decide⟩ (svi st_s) (tyX7_ok 5 (by decide)) rfl rfl dX7_init_61 (fun H locs hw hS => ?_)
  rw [st_same ((hP1.2 _ (by omega)).trans (hF0 _ (by omega)).1)] at hw
  refine lv_aload_n C.1 C.2.1 dX7_init_64 rfl (lv_at hl 0 rfl) ?_
  refine y_new0 (k := 59) C hw hS hR hN rfl hF mw_453 mw_454 mw_128 (by decide) (by decide) dX7_init_65 (fun gv10 H hX10 hN hR C hw hS => ?_)
  have hFn := hF
  have hl : lv_has ls 2 [(0, .ref (gA gv10 0))] := by
    have z := hl
    rw [hX10.A (k := 0) (by omega)] at z
    exact z
  rw [hX10.A (k := 0) (by omega)]
  have hX := hX.trans hX10
  have hF := hF.up (b' := 60) (by omega)
  refine lv_dup C.1 C.2.1 dX7_init_68 rfl ?_
  refine y_call C hA hw hS hml hl.1 59 (k_X0 l gv10 MM1 (stR (rhoB 49 (stR (stR (stR (stR (rhoE ρ) (1000 * 0 + 0) 1) (1000 * 0 + 1) 2) (1000 * 0 + 2) 12) (1000 * 0 + 3) 29) 8) (1000 * 0 + 4) 49) hN hR hFn) mn_455 mw_456 mw_128 mw_457 rfl ⟨by decide, by decide, by decide +kernel⟩ ⟨Nat.le_of_ble_eq_true rfl, Nat.le_of_ble_eq_true rfl⟩ (Nat.le_of_ble_eq_true rfl) dX7_init_69 ⟨Nat.le_of_ble_eq_true rfl, Nat.le_of_ble_eq_true rfl⟩ (fun gv11 H locs hX11 hN2 hR C hw hS => ?_)
  have hl : lv_has ls 2 [(0, .ref (gA gv11 0))] := by
    have z := hl
    rw [hX11.A (k := 0) (by omega)] at z
    exact z
  rw [hX11.A (k := 59) (by omega), hX11.A (k := 0) (by omega)]
  have hX := hX.trans hX11
  have hN := hN2
  have hF := hF.st (n := 1000 * 59 + 0) (x := (-1)) (by omega)
  refine y_pr7 C hw hS hR hm rfl 0 (by omega) rfl 6 (by decide) rfl mw_492 rfl 59 (by omega) (tyX7_ok 6 (by decide)) (fun _ => rfl) (fun _ => rfl) dX7_init_72 (fun gv12 H locs hX12 hN2 hR C hw hS => ?_)
  have hl : lv_has ls 2 [(0, .ref (gA gv12 0))] := by
    have z := hl
    rw [hX12.A (k := 0) (by omega)] at z
    exact z
  have hX := hX.trans hX12
  have hN := hN2.trans hN
  have hF := hF.sR (n := 1000 * 0 + 6) (q := 59) (by omega)
  refine lv_aload_n C.1 C.2.1 dX7_init_75 rfl (lv_at hl 0 rfl) ?_
  refine lv_iconst (v := II 4) C.1 C.2.1 dX7_init_76 rfl ?_
  refine y_newq (k := 60) C hw hS hR hN 12 rfl (L := 4) rfl (by decide) hF 3 rfl (by decide) hA.2.1 mw_466 (by decide) (by decide) dX7_init_77 (fun gv13 H hX13 hN hR C hw hS => ?_)
  have hl : lv_has ls 2 [(0, .ref (gA gv13 0))] := by
    have z := hl
    rw [hX13.A (k := 0) (by omega)] at z
    exact z
  rw [hX13.A (k := 0) (by omega)]
  have hX := hX.trans hX13
  have hF := hF.up (b' := 61) (by omega)
  refine y_pr7 C hw hS hR hm rfl 0 (by omega) rfl 7 (by decide) rfl mw_493 rfl 60 (by omega) (tyX7_ok 7 (by decide)) (fun _ => rfl) (fun _ => rfl) dX7_init_80 (fun gv14 H locs hX14 hN2 hR C hw hS => ?_)
  have hl : lv_has ls 2 [(0, .ref (gA gv14 0))] := by
    have z := hl
    rw [hX14.A (k := 0) (by omega)] at z
    exact z
  have hX := hX.trans hX14
  have hN := hN2.trans hN
  have hF := hF.sR (n := 1000 * 0 + 7) (q := 60) (by omega)
  refine lv_aload_n C.1 C.2.1 dX7_init_83 rfl (lv_at hl 0 rfl) ?_
  refine lv_bipush (v := II 8) C.1 C.2.1 dX7_init_84 (by decide) ?_
  refine y_newI (k := 61) C hw hS hR hN 9 rfl (L := 8) rfl (by decide) hF (at_ := .int) (by decide) mw_258 (by decide) (by decide) dX7_init_86 (fun gv15 H hX15 hN hR C hw hS => ?_)
  have hl : lv_has ls 2 [(0, .ref (gA gv15 0))] := by
    have z := hl
    rw [hX15.A (k := 0) (by omega)] at z
    exact z
  rw [hX15.A (k := 0) (by omega)]
  have hX := hX.trans hX15
  have hF := hF.up (b' := 62) (by omega)
  refine y_pr7 C hw hS hR hm rfl 0 (by omega) rfl 8 (by decide) rfl mw_494 rfl 61 (by omega) (tyX7_ok 8 (by decide)) (fun _ => rfl) (fun _ => rfl) dX7_init_88 (fun gv16 H locs hX16 hN2 hR C hw hS => ?_)
  have hl : lv_has ls 2 [(0, .ref (gA gv16 0))] := by
    have z := hl
    rw [hX16.A (k := 0) (by omega)] at z
    exact z
  have hX := hX.trans hX16
  have hN := hN2.trans hN
  have hF := hF.sR (n := 1000 * 0 + 8) (q := 61) (by omega)
  refine lv_iconst (v := II 0) C.1 C.2.1 dX7_init_91 rfl ?_
  refine lv_istore_n (lv' := [(1, .int (II 0)), (0, .ref (gA gv16 0))]) C.1 C.2.1 dX7_init_92 rfl hl (by decide) rfl (fun ls hl => ?_)
  refine k_X7_loop l g (stM MM1 (1000 * 59 + 0) (-1)) (rho7 ρ) (by unfold rho7; rw [stR_n (by omega), stR_s]) hF hA hml ?_ 4 0 rfl _ _ rfl rfl gv16 H locs ls hX hN hR C hw hS hl
  intro gv H locs ls hX hN hR C hw hS
  subst hQQ; exact yd_end hX C hr hlk hw hS hR hN ⟨MM1, hP1, rfl⟩ rfl dX7_init_117
