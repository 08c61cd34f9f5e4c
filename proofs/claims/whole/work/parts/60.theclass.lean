theorem rhoE_10 {ρ : Nat → Option Nat} : rhoE ρ (1000 * 1 + 0) = some 2 := by
  unfold rhoE
  rw [stR_n (by omega), stR_n (by omega), mulR_n (by omega), stR_n (by omega), mulR_n (by omega), stR_n (by omega), rhoT_n (by omega), stR_s]

theorem rhoE_11 {ρ : Nat → Option Nat} : rhoE ρ (1000 * 1 + 1) = some 12 := by
  unfold rhoE
  rw [stR_n (by omega), stR_n (by omega), mulR_n (by omega), stR_n (by omega), mulR_n (by omega), stR_s]

theorem kdS : ∀ i, i < 4 → kd (62 + 2 * i) = 5 ∧ kd (62 + 2 * i + 1) = 9 ∧ ln (62 + 2 * i + 1) = 40 := by decide
/-- the references when i sheets are made, and the memory -/
def rhoS (ρ : Nat → Option Nat) : Nat → Nat → Option Nat
  | 0 => ρ
  | i + 1 => stR (stR (rhoS ρ i) (1000 * (62 + 2 * i) + 0) (62 + 2 * i + 1)) (1000 * 60 + i) (62 + 2 * i)
def mS (M : Nat → Int) : Nat → Nat → Int
  | 0 => M
  | i + 1 => stM (mS M i) (1000 * (62 + 2 * i) + 1) (-1)
theorem rhoS_7 {ρ : Nat → Option Nat} (h : ρ (1000 * 0 + 7) = some 60) : ∀ i, rhoS ρ i (1000 * 0 + 7) = some 60
  | 0 => h
  | i + 1 => by rw [rhoS, stR_n (by omega), stR_n (by omega)]; exact rhoS_7 h i
theorem rhoS_n {ρ : Nat → Option Nat} {n : Nat} (h : n < 60000 ∨ 70000 ≤ n) : ∀ i, i ≤ 4 → rhoS ρ i n = ρ n
  | 0, _ => rfl
  | i + 1, hi => by rw [rhoS, stR_n (by omega), stR_n (by omega)]; exact rhoS_n h i (by omega)
theorem rhoS_c {ρ ρ' : Nat → Option Nat} {n : Nat} (h : ρ n = ρ' n) : ∀ i, rhoS ρ i n = rhoS ρ' i n
  | 0 => h
  | i + 1 => stR_c (stR_c (rhoS_c h i))
theorem mS_n {M : Nat → Int} {n : Nat} (h : ¬ (62000 ≤ n ∧ n < 70000 ∧ n % 2000 = 1)) : ∀ i, i ≤ 4 → mS M i n = M n
  | 0, _ => rfl
  | i + 1, hi => by rw [mS, st_n (by omega)]; exact mS_n h i (by omega)
theorem mS_f {M : Nat → Int} {ρ : Nat → Option Nat} (h : Fr M ρ 62) : ∀ i, i ≤ 4 → Fr (mS M i) (rhoS ρ i) (62 + 2 * i)
  | 0, _ => h
  | i + 1, hi => ((((mS_f h i (by omega)).up (b' := 62 + 2 * (i + 1)) (by omega)).st (by omega)).sR (by omega)).sR (by omega)

set_option maxHeartbeats 4000000 in
theorem k_X7_loop (l : Launch) (g : Gm) (M : Nat → Int) (ρ : Nat → Option Nat) (h7 : ρ (1000 * 0 + 7) = some 60) (hF0 : Fr M ρ 62) {p : Program} {e : Env} {s : State} {m : MethodId} {args : Array Value} {below : List Frame} {meth : Method} {c : Code} {QQ : State → Prop} (hA : AOs s) (hml : c.maxLocals = 2) (hend : ∀ (gv : Gm) (H : Heap) (locs : List Loc) (ls : Array Slot), GX g gv → gN gv = 70 → Rr gv (rhoS ρ 4) → Cx gv p c m s args cX7_init "RatedBySighs" → Wo gv (mS M 4) H → va_S (ar gv) s.heap H locs → lv_has ls 2 [(0, .ref (gA gv 0))] → W p l e { frames := 44, cells := 69, slots := 1923, locals := 991 } s m args below meth c H locs 69 1923 QQ (F0 m 117 ls [])) : ∀ (n i : Nat), i + n = 4 → ∀ (cl sl : Nat), cl = 61 + 2 * i → sl = 1751 + 43 * i → ∀ (gv : Gm) (H : Heap) (locs : List Loc) (ls : Array Slot), GX g gv → gN gv = 62 + 2 * i → Rr gv (rhoS ρ i) → Cx gv p c m s args cX7_init "RatedBySighs" → Wo gv (mS M i) H → va_S (ar gv) s.heap H locs → lv_has ls 2 [(1, .int (II (i : Int))), (0, .ref (gA gv 0))] → W p l e { frames := 44, cells := 69, slots := 1923, locals := 991 } s m args below meth c H locs cl sl QQ (F0 m 93 ls [])
  | 0, i => fun hi cl sl hcl hsl gv H locs ls hX hN hR C hw hS hl => by
    obtain rfl : i = 4 := by omega
    obtain rfl : cl = 69 := by omega
    obtain rfl : sl = 1923 := by omega
    refine lv_iload_n C.1 C.2.1 dX7_init_93 rfl (lv_at hl 0 rfl) ?_
    refine lv_iconst (v := II 4) C.1 C.2.1 dX7_init_94 rfl ?_
    refine x_icmp_ge (tgt := 117) C ⟨by decide, by decide⟩ ⟨by decide, by decide⟩ dX7_init_95 (by decide) (fun _ => ?_) (fun h => absurd (by decide) h)
    exact hend gv H locs ls hX hN hR C hw hS (lv_sub hl [1] rfl)
  | n + 1, i => fun hi cl sl hcl hsl gv H locs ls hX hN hR C hw hS hl => by
    have hF : Fr (mS M i) (rhoS ρ i) (62 + 2 * i) := mS_f hF0 i (by omega)
    refine lv_iload_n C.1 C.2.1 dX7_init_93 rfl (lv_at hl 0 rfl) ?_
    refine lv_iconst (v := II 4) C.1 C.2.1 dX7_init_94 rfl ?_
    refine x_icmp_ge (tgt := 117) C ⟨by omega, by omega⟩ ⟨by decide, by decide⟩ dX7_init_95 (by decide) (fun h => absurd h (by omega)) (fun _ => ?_)
    refine lv_aload_n C.1 C.2.1 dX7_init_98 rfl (lv_at hl 1 rfl) ?_
    refine g7 C hw 0 (by omega) rfl 7 (by decide) mw_487 (svr (hR.ref (q := 60) (rhoS_7 h7 i))) dX7_init_99 ?_
    refine lv_iload_n C.1 C.2.1 dX7_init_102 rfl (lv_at hl 0 rfl) ?_
    refine y_new5 (k := 62 + 2 * i) C hw hS hR hN (kdS i (by omega)).1 hF mw_321 mw_323 mw_124 (by show _ ≤ (69 : Nat); omega) (by show _ ≤ (1923 : Nat); omega) dX7_init_103 (fun gv1 H hX1 hN hR C hw hS => ?_)
    have hFn := hF
    have hl : lv_has ls 2 [(1, .int (II (i : Int))), (0, .ref (gA gv1 0))] := by
      have z := hl
      rw [hX1.A (k := 0) (by omega)] at z
      exact z
    rw [hX1.A (k := 60) (by omega)]
    have hX := hX.trans hX1
    have hF := hF.up (b' := 62 + 2 * i + 1) (by omega)
    refine lv_dup C.1 C.2.1 dX7_init_106 rfl ?_
    refine y_call C hA hw hS hml hl.1 (62 + 2 * i) (k_X5 l gv1 (mS M i) (rhoS ρ i) (62 + 2 * i) (kdS i (by omega)).1 (kdS i (by omega)).2.1 (kdS i (by omega)).2.2 hN hR hFn) mn_324 mw_325 mw_124 mw_326 rfl ⟨by decide, by decide, by decide +kernel⟩ ⟨Nat.le_of_ble_eq_true rfl, Nat.le_of_ble_eq_true rfl⟩ (Nat.le_of_ble_eq_true rfl) dX7_init_107 ⟨by show _ + 1 ≤ (69 : Nat); omega, by show _ + 40 ≤ (1923 : Nat); omega⟩ (fun gv2 H locs hX2 hN2 hR C hw hS => ?_)
    have hl : lv_has ls 2 [(1, .int (II (i : Int))), (0, .ref (gA gv2 0))] := by
      have z := hl
      rw [hX2.A (k := 0) (by omega)] at z
      exact z
    rw [hX2.A (k := 62 + 2 * i) (by omega), hX2.A (k := 60) (by omega)]
    have hX := hX.trans hX2
    have hN := hN2
    have hF := ((hF.up (b' := 62 + 2 * i + 2) (by omega)).st (n := 1000 * (62 + 2 * i) + 1) (x := (-1)) (by omega)).sR (n := 1000 * (62 + 2 * i) + 0) (q := (62 + 2 * i + 1)) (by omega)
    refine y_aast C hw hS hR 60 (by omega) 12 rfl (L := 4) rfl (i := i) (by omega) (by decide) 3 5 rfl (by decide) rfl (by decide) (62 + 2 * i) (by omega) (kdS i (by omega)).1 dX7_init_110 (fun gv3 H locs hX3 hN2 hR C hw hS => ?_)
    have hl : lv_has ls 2 [(1, .int (II (i : Int))), (0, .ref (gA gv3 0))] := by
      have z := hl
      rw [hX3.A (k := 0) (by omega)] at z
      exact z
    have hX := hX.trans hX3
    have hN := hN2.trans hN
    have hF := hF.sR (n := 1000 * 60 + i) (q := (62 + 2 * i)) (by omega)
    refine lv_iinc (v := II ((i : Int) + 1)) (lv' := [(1, .int (II ((i : Int) + 1))), (0, .ref (gA gv3 0))]) C.1 C.2.1 dX7_init_111 hl (k := 0) rfl (II_add _ _) (by decide) rfl (fun ls hl => ?_)
    refine lv_goto (tgt := 93) C.1 C.2.1 dX7_init_114 (by decide) ?_
    exact k_X7_loop l g M ρ h7 hF0 hA hml hend n (i + 1) (by omega) _ _ (by show cl + 1 + 1 = _; omega) (by show sl + 3 + 40 = _; omega) gv3 H locs ls hX (by omega) hR C hw hS hl

def rho7 (ρ : Nat → Option Nat) : Nat → Option Nat := stR (stR (stR (stR (rhoB 49 (stR (stR (stR (stR (stR (stR (stR (rhoE ρ) (1000 * 0 + 0) 1) (1000 * 0 + 1) 2) (1000 * 0 + 2) 12) (1000 * 45 + 0) 46) (1000 * 45 + 6) 47) (1000 * 45 + 7) 48) (1000 * 0 + 3) 45) 8) (1000 * 0 + 4) 49) (1000 * 0 + 6) 59) (1000 * 0 + 7) 60) (1000 * 0 + 8) 61

theorem rho7_all (n : Nat) (hn : n < 70000) : rhoS (rho7 (fun _ => none)) 4 n = R0 n := by
  by_cases e0 : n = 0
  · subst e0; decide +kernel
  by_cases e1 : n = 1
  · subst e1; decide +kernel
  by_cases e2 : n = 2
  · subst e2; decide +kernel
  by_cases e3 : n = 3
  · subst e3; decide +kernel
  by_cases e4 : n = 4
  · subst e4; decide +kernel
  by_cases e5 : n = 6
  · subst e5; decide +kernel
  by_cases e6 : n = 7
  · subst e6; decide +kernel
  by_cases e7 : n = 8
  · subst e7; decide +kernel
  by_cases e8 : n = 1000
  · subst e8; decide +kernel
  by_cases e9 : n = 1001
  · subst e9; decide +kernel
  by_cases e10 : n = 1002
  · subst e10; decide +kernel
  by_cases e11 : n = 1003
  · subst e11; decide +kernel
  by_cases e12 : n = 1004
  · subst e12; decide +kernel
  by_cases e13 : n = 2000
  · subst e13; decide +kernel
  by_cases e14 : n = 12000
  · subst e14; decide +kernel
  by_cases e15 : n = 12001
  · subst e15; decide +kernel
  by_cases e16 : n = 12002
  · subst e16; decide +kernel
  by_cases e17 : n = 12003
  · subst e17; decide +kernel
  by_cases e18 : n = 45000
  · subst e18; decide +kernel
  by_cases e19 : n = 45006
  · subst e19; decide +kernel
  by_cases e20 : n = 45007
  · subst e20; decide +kernel
  by_cases e21 : n = 49000
  · subst e21; decide +kernel
  by_cases e22 : n = 62000
  · subst e22; decide +kernel
  by_cases e23 : n = 64000
  · subst e23; decide +kernel
  by_cases e24 : n = 66000
  · subst e24; decide +kernel
  by_cases e25 : n = 68000
  · subst e25; decide +kernel
  by_cases e39 : 3000 ≤ n ∧ n < 3000 + 8
  · obtain ⟨i, rfl⟩ : ∃ i, n = 3000 + i := ⟨n - 3000, by omega⟩
    exact (by decide +kernel : ∀ i, i < 8 → rhoS (rho7 (fun _ => none)) 4 (3000 + i) = R0 (3000 + i)) i (by omega)
  by_cases e40 : 13000 ≤ n ∧ n < 13000 + 6
  · obtain ⟨i, rfl⟩ : ∃ i, n = 13000 + i := ⟨n - 13000, by omega⟩
    exact (by decide +kernel : ∀ i, i < 6 → rhoS (rho7 (fun _ => none)) 4 (13000 + i) = R0 (13000 + i)) i (by omega)
  by_cases e41 : 20000 ≤ n ∧ n < 20000 + 6
  · obtain ⟨i, rfl⟩ : ∃ i, n = 20000 + i := ⟨n - 20000, by omega⟩
    exact (by decide +kernel : ∀ i, i < 6 → rhoS (rho7 (fun _ => none)) 4 (20000 + i) = R0 (20000 + i)) i (by omega)
  by_cases e42 : 29000 ≤ n ∧ n < 29000 + 7
  · obtain ⟨i, rfl⟩ : ∃ i, n = 29000 + i := ⟨n - 29000, by omega⟩
    exact (by decide +kernel : ∀ i, i < 7 → rhoS (rho7 (fun _ => none)) 4 (29000 + i) = R0 (29000 + i)) i (by omega)
  by_cases e43 : 37000 ≤ n ∧ n < 37000 + 6
  · obtain ⟨i, rfl⟩ : ∃ i, n = 37000 + i := ⟨n - 37000, by omega⟩
    exact (by decide +kernel : ∀ i, i < 6 → rhoS (rho7 (fun _ => none)) 4 (37000 + i) = R0 (37000 + i)) i (by omega)
  by_cases e44 : 50000 ≤ n ∧ n < 50000 + 8
  · obtain ⟨i, rfl⟩ : ∃ i, n = 50000 + i := ⟨n - 50000, by omega⟩
    exact (by decide +kernel : ∀ i, i < 8 → rhoS (rho7 (fun _ => none)) 4 (50000 + i) = R0 (50000 + i)) i (by omega)
  by_cases e45 : 60000 ≤ n ∧ n < 60000 + 4
  · obtain ⟨i, rfl⟩ : ∃ i, n = 60000 + i := ⟨n - 60000, by omega⟩
    exact (by decide +kernel : ∀ i, i < 4 → rhoS (rho7 (fun _ => none)) 4 (60000 + i) = R0 (60000 + i)) i (by omega)
  rw [R0_none (by intro q hq; simp only [rtab, List.mem_cons, List.not_mem_nil, or_false] at hq; (repeat (rcases hq with rfl | hq; · (try simp only); omega)); (try (subst hq; (try simp only); omega)))]
  simp only [rhoS]
  rw [stR_n (by omega), stR_n (by omega), stR_n (by omega), stR_n (by omega), stR_n (by omega), stR_n (by omega), stR_n (by omega), stR_n (by omega)]
  unfold rho7
  rw [stR_n (by omega), stR_n (by omega), stR_n (by omega), stR_n (by omega), rhoB_n (by omega) (by omega) 8 (by omega), stR_n (by omega), stR_n (by omega), stR_n (by omega), stR_n (by omega), stR_n (by omega), stR_n (by omega), stR_n (by omega)]
  unfold rhoE
  rw [stR_n (by omega), stR_n (by omega), mulR_n (by omega), stR_n (by omega), mulR_n (by omega), stR_n (by omega)]
  unfold rhoT
  rw [stR_n (by omega), stR_n (by omega), stR_n (by omega), mulR_n (by omega), stR_n (by omega), mulR_n (by omega)]
  rw [stR_n (by omega), rhoB_n (by omega) (by omega) 8 (by omega)]

set_option maxHeartbeats 4000000 in
set_option maxRecDepth 100000 in
theorem k_X7_tail (l : Launch) (g : Gm) (M : Nat → Int) (hT : LvT g) (hm5 : M 12004 = ((0 : Nat) : Int)) (hz : M 45001 = ((0 : Nat) : Int)) {p : Program} {e : Env} {s : State} {m : MethodId} {args : Array Value} {below : List Frame} {meth : Method} {c : Code} {QQ : State → Prop} (C : Cx g p c m s args cX7_init "RatedBySighs") (hml : c.maxLocals = 2) {H : Heap} {locs : List Loc} {ls : Array Slot} (hw : Wo g M H) (hS : va_S (ar g) s.heap H locs) (hl : lv_has ls 2 [(0, .ref (gA g 0))]) (hend : ∀ (M' : Nat → Int) (H : Heap) (locs : List Loc) (ls : Array Slot), (TxtC M' (1, (fun _ => evC [5, -1, -14] [0] [-1]), 0, fun i => sb 0 i) ∧ ∀ m, ¬ ((12000 ≤ m ∧ m < 27000) ∨ (45000 ≤ m ∧ m < 49000)) → M' m = M m) → Cx g p c m s args cX7_init "RatedBySighs" → Wo g M' H → va_S (ar g) s.heap H locs → W p l e { frames := 44, cells := 69, slots := 1923, locals := 991 } s m args below meth c H locs 69 1923 QQ (F0 m 168 ls [])) : W p l e { frames := 44, cells := 69, slots := 1923, locals := 991 } s m args below meth c H locs 69 1923 QQ (F0 m 117 ls []) := by
  have hN : 70 ≤ gN g := hT.1
  have g_M := hw.rg
  refine lv_iconst (v := II 0) C.1 C.2.1 dX7_init_117 rfl ?_
  refine lv_istore_n (lv' := [(1, .int (II 0)), (0, .ref (gA g 0))]) C.1 C.2.1 dX7_init_118 rfl hl (by decide) rfl (fun ls hl => ?_)
  have L119 : ∀ (f1 : Nat) (j : Nat) (M2 : Nat → Int), (38 - j) < f1 → (j ≤ 38) → (M2 45001 = (j : Int)) → (∀ x, x < j → M2 (46000 + x) = sb 0 x) → (∀ m, ¬ (m = 45001 ∨ (46000 ≤ m ∧ m < 46160)) → M2 m = M m) → ∀ (H : Heap) (locs : List Loc) (ls : Array Slot), Wo g M2 H → va_S (ar g) s.heap H locs → lv_has ls 2 [(0, .ref (gA g 0)), (1, .int (II (j : Int)))] → W p l e { frames := 44, cells := 69, slots := 1923, locals := 991 } s m args below meth c H locs 69 1923 QQ (F0 m 119 ls []) := by
    intro f1
    induction f1 with
    | zero => intro j M2 hmu; exact absurd hmu (Nat.not_lt_zero _)
    | succ f1 ih =>
      intro j M2 hmu h1 hb ht hf H locs ls hw hS hl
      have ih119 := ih
      have g_M2 := hw.rg
      have hsl : sl 0 = 38 := rfl
      refine lv_iload_n C.1 C.2.1 dX7_init_119 rfl (lv_at hl 1 rfl) ?_
      refine x_ldcS C 0 (by decide) rfl rfl dX7_init_120 ?_
      refine x_ci (x_runVs (n := 0) C hw hS hml hl.1 0 (by decide) (c_J0_length l g M2 0 (by first | assumption | omega | exact ⟨by omega, by omega⟩ | decide)) mw_342 mw_343 mw_344 mw_125 mw_345 rfl rfl (by decide +kernel) ⟨Nat.le_of_ble_eq_true rfl, Nat.le_of_ble_eq_true rfl⟩ rfl rfl (Nat.le_of_ble_eq_true rfl) dX7_init_122 ⟨Nat.le_of_ble_eq_true rfl, Nat.le_of_ble_eq_true rfl⟩) hS (fun r122 M122 H locs hr122 hp hw hS => ?_)
      obtain ⟨em122, er122⟩ := hp
      have hw : Wo g M2 H := em122 ▸ hw
      rw [er122] at hr122 ⊢
      refine x_icmp_ge (tgt := 148) C ⟨by omega, by omega⟩ hr122 dX7_init_125 (by decide) (fun c125 => ?_) (fun c125 => ?_)
      · have hj : j = 38 := by omega
        subst hj
        refine lv_aload_n C.1 C.2.1 dX7_init_148 rfl (lv_at hl 0 rfl) ?_
        refine g7 C hw 0 (by omega) rfl 3 (by decide) mw_483 (svr (hT.2 3 (by decide))) dX7_init_149 ?_
        refine x_ci (x_runVN (n := 0) C hw hS hml hl.1 45 4 (by omega) rfl (by decide) rfl (c_X4_takesTape l g M2 hT.r (fun i => sb 0 i) 38 ⟨hb, by decide, fun i hi => ht i hi⟩) mn_394 mw_396 mw_1 mw_122 mw_397 rfl rfl (by decide +kernel) ⟨Nat.le_of_ble_eq_true rfl, Nat.le_of_ble_eq_true rfl⟩ rfl rfl (Nat.le_of_ble_eq_true rfl) dX7_init_152 ⟨Nat.le_of_ble_eq_true rfl, Nat.le_of_ble_eq_true rfl⟩) hS (fun r152 M152 H locs hr152 hp hw hS => ?_)
        rcases hp with ⟨h152f, h152z, (⟨er152, h152b⟩ | ⟨er152, h152b⟩)⟩
        · have g_M152 := hw.rg
          rw [er152]
          obtain ⟨d0, d1, d2, hd, hc2⟩ := h152b
          rw [first_eq] at hd
          cases hd
          refine lv_pop C.1 C.2.1 dX7_init_155 rfl ?_
          refine lv_aload_n C.1 C.2.1 dX7_init_156 rfl (lv_at hl 0 rfl) ?_
          refine g7 C hw 0 (by omega) rfl 2 (by decide) mw_482 (svr (hT.2 2 (by decide))) dX7_init_157 ?_
          refine lv_aload_n C.1 C.2.1 dX7_init_160 rfl (lv_at hl 0 rfl) ?_
          refine g7 C hw 0 (by omega) rfl 3 (by decide) mw_483 (svr (hT.2 3 (by decide))) dX7_init_161 ?_
          refine x_ci (x_runVN (n := 1) C hw hS hml hl.1 12 6 (by omega) rfl (by decide) rfl (c_X6_keep l g M152 hT (0 : Nat) ⟨(h152f 12004 (by unfold rdr; omega)).trans ((hf 12004 (by omega)).trans hm5), by decide⟩) mn_473 mw_475 mw_15 mw_121 mw_476 rfl rfl (by decide +kernel) ⟨Nat.le_of_ble_eq_true rfl, Nat.le_of_ble_eq_true rfl⟩ rfl rfl (Nat.le_of_ble_eq_true rfl) dX7_init_164 ⟨Nat.le_of_ble_eq_true rfl, Nat.le_of_ble_eq_true rfl⟩) hS (fun r164 M164 H locs hr164 hp hw hS => ?_)
          obtain ⟨em164, er164⟩ := hp
          have hw : Wo g (stM (cpM (cpM M152 47000 (1000 * (14 + (0 : Nat)) + 0) 160) 48000 (1000 * (21 + (0 : Nat)) + 0) 4) 12004 (((0 : Nat) : Int) + 1)) H := em164 ▸ hw
          rw [er164] at hr164 ⊢
          refine lv_pop C.1 C.2.1 dX7_init_167 rfl ?_
          (have hT2 := TxtC.keep (tc := 0) (EE := fun _ => evC [] [] []) (n := 38) (b := fun i => sb 0 i) (M := M2) ⟨(hf 12004 (by omega)).trans hm5, fun _ h => absurd h (Nat.not_lt_zero _), hb, fun i hi => ht i hi⟩ (by decide) h152f h152z hc2; exact hend _ H locs ls ⟨⟨hT2.1, fun t ht => (by have z := hT2.2.1 t ht; have e : t = 0 := (by have : t < 1 := ht; omega); subst e; exact z), hT2.2.2.1, hT2.2.2.2⟩, fun m hm => (by rw [st_n (by omega), cp_n (by omega), cp_n (by omega)]; exact (h152f m (by unfold rdr; omega)).trans (hf m (by omega)))⟩ C hw hS)
        · have g_M152 := hw.rg
          rw [er152]
          exact (by obtain ⟨q, z, -⟩ := h152b; rw [first_eq] at z; cases z)
      · refine lv_aload_n C.1 C.2.1 dX7_init_128 rfl (lv_at hl 0 rfl) ?_
        refine g7 C hw 0 (by omega) rfl 3 (by decide) mw_483 (svr (hT.2 3 (by decide))) dX7_init_129 ?_
        have hsb := sb_in 0 (by decide) j (by omega)
        refine x_ldcS C 0 (by decide) rfl rfl dX7_init_132 ?_
        refine lv_iload_n C.1 C.2.1 dX7_init_134 rfl (lv_at hl 1 rfl) ?_
        refine x_ci (x_runVs (n := 1) C hw hS hml hl.1 0 (by decide) (c_J0_charAt l g M2 0 (by first | assumption | omega | exact ⟨by omega, by omega⟩ | decide) j (by omega)) mw_352 mw_353 mw_354 mw_125 mw_355 rfl rfl (by decide +kernel) ⟨Nat.le_of_ble_eq_true rfl, Nat.le_of_ble_eq_true rfl⟩ rfl rfl (Nat.le_of_ble_eq_true rfl) dX7_init_135 ⟨Nat.le_of_ble_eq_true rfl, Nat.le_of_ble_eq_true rfl⟩) hS (fun r135 M135 H locs hr135 hp hw hS => ?_)
        obtain ⟨em135, er135⟩ := hp
        have hw : Wo g M2 H := em135 ▸ hw
        rw [er135] at hr135 ⊢
        refine x_ci (x_runVN (n := 1) C hw hS hml hl.1 45 4 (by omega) rfl (by decide) rfl (c_X4_append l g M2 hT.r j ⟨hb, by omega⟩ (sb 0 j) ⟨by omega, by omega⟩) mn_390 mw_392 mw_0 mw_122 mw_393 rfl rfl (by decide +kernel) ⟨Nat.le_of_ble_eq_true rfl, Nat.le_of_ble_eq_true rfl⟩ rfl rfl (Nat.le_of_ble_eq_true rfl) dX7_init_138 ⟨Nat.le_of_ble_eq_true rfl, Nat.le_of_ble_eq_true rfl⟩) hS (fun r138 M138 H locs hr138 hp hw hS => ?_)
        rcases hp with ⟨er138, h138b⟩ | ⟨er138, h138b⟩
        · have g_M138 := hw.rg
          rw [er138]
          skip
          refine lv_pop C.1 C.2.1 dX7_init_141 rfl ?_
          refine lv_iinc (v := II ((j : Int) + 1)) (lv' := [(1, .int (II ((j : Int) + 1))), (0, .ref (gA g 0))]) C.1 C.2.1 dX7_init_142 hl (k := 1) rfl (II_add _ _) (by decide) rfl (fun ls hl => ?_)
          refine lv_goto (tgt := 119) C.1 C.2.1 dX7_init_145 (by decide) ?_
          exact ih119  (j + 1) M138 (by omega) (by omega) (by rw [h138b.2, st_s]; omega) (fun x hx => by
      rw [h138b.2, st_n (by omega)]
      by_cases e : x = j
      · rw [e, st_s]
      · rw [st_n (by omega)]; exact ht x (by omega)) (fun m hm => by rw [h138b.2, st_n (by omega), st_n (by omega)]; exact hf m hm) _ _ _ hw hS (lv_sub hl [1, 0] rfl)
        · have g_M138 := hw.rg
          rw [er138]
          exact absurd h138b.1 (by omega)
  exact L119 _ 0 M (Nat.lt_succ_self _) (by omega) hz (fun _ h => absurd h (Nat.not_lt_zero _)) (fun _ _ => rfl) _ _ _ hw hS (lv_sub hl [1, 0] rfl)

set_option maxHeartbeats 4000000 in
set_option maxRecDepth 100000 in
theorem k_X7 (l : Launch) (g : Gm) (M : Nat → Int) (ρ : Nat → Option Nat) (hN : gN g = 1) (hR : Rr g ρ) (hF0 : Fr M ρ 0) : CD l ({ cls := "RatedBySighs", name := "<init>", desc := "()V" } : Jvm.MethodName) cX7_init 2 { frames := 44, cells := 69, slots := 1923, locals := 991 } g M [.ref (gA g 0)] (fun M' => TxtC M' (1, (fun _ => evC [5, -1, -14] [0] [-1]), 0, fun i => sb 0 i) ∧ ∀ m, ¬ ((12000 ≤ m ∧ m < 27000) ∨ (45000 ≤ m ∧ m < 49000)) → M' m = mS (stM (stM M (1000 * 45 + 3) 7) (1000 * 59 + 0) (-1)) 4 m) (rhoS (rho7 (fun _ => none)) 4) 70 := by
  obtain rfl : ρ = fun _ => none := funext (fun n => (hF0 n (by omega)).2)
  refine yd_start (by decide) (Nat.le_of_ble_eq_true rfl) (fun p e s m below meth c ls C hA hm hr hlk hml hw hS hl => ?_)
  have hl : lv_has ls 2 [(0, .ref (gA g 0))] := hl
  generalize ([.ref (gA g 0)] : List Value).toArray = args at C ⊢
  generalize hQQ : MQ below (postD g (fun M' => TxtC M' (1, (fun _ => evC [5, -1, -14] [0] [-1]), 0, fun i => sb 0 i) ∧ ∀ m, ¬ ((12000 ≤ m ∧ m < 27000) ∨ (45000 ≤ m ∧ m < 49000)) → M' m = mS (stM (stM M (1000 * 45 + 3) 7) (1000 * 59 + 0) (-1)) 4 m) (rhoS (rho7 (fun _ => none)) 4) 70) args s 69 1923 (ar g) = QQ
  have hX : GX g g := GX.refl
  have hF : Fr M (fun _ => none) 1 := hF0.up (by omega)
  refine lv_aload_n C.1 C.2.1 dX7_init_0 rfl (lv_at hl 0 rfl) ?_
  refine y_obj C mw_138 mw_139 mw_140 (hml.trans hl.1.symm) dX7_init_1 (Nat.le_of_ble_eq_true rfl) (by decide) (Nat.le_of_ble_eq_true rfl) ?_
  refine lv_aload_n C.1 C.2.1 dX7_init_4 rfl (lv_at hl 0 rfl) ?_
  refine y_new2 (k := 1) C hw hS hR hN rfl hF mw_141 mw_142 mw_118 (by decide) (by decide) dX7_init_5 (fun gv1 H hX1 hN hR C hw hS => ?_)
  have hFn := hF
  have hl : lv_has ls 2 [(0, .ref (gA gv1 0))] := by
    have z := hl
    rw [hX1.A (k := 0) (by omega)] at z
    exact z
  rw [hX1.A (k := 0) (by omega)]
  have hX := hX.trans hX1
  have hF := hF.up (b' := 2) (by omega)
  refine lv_dup C.1 C.2.1 dX7_init_8 rfl ?_
  refine y_call C hA hw hS hml hl.1 1 (k_X2 l gv1 M (fun _ => none) hN hR hFn) mn_143 mw_144 mw_118 mw_145 rfl ⟨by decide, by decide, by decide +kernel⟩ ⟨Nat.le_of_ble_eq_true rfl, Nat.le_of_ble_eq_true rfl⟩ (Nat.le_of_ble_eq_true rfl) dX7_init_9 ⟨Nat.le_of_ble_eq_true rfl, Nat.le_of_ble_eq_true rfl⟩ (fun gv2 H locs hX2 hN2 hR C hw hS => ?_)
  have hl : lv_has ls 2 [(0, .ref (gA gv2 0))] := by
    have z := hl
    rw [hX2.A (k := 0) (by omega)] at z
    exact z
  rw [hX2.A (k := 1) (by omega), hX2.A (k := 0) (by omega)]
  have hX := hX.trans hX2
  have hN := hN2
  have hF := rhoE_f (hF.up (b' := 45) (by omega))
  refine y_pr7 C hw hS hR hm rfl 0 (by omega) rfl 0 (by decide) rfl mw_480 rfl 1 (by omega) (tyX7_ok 0 (by decide)) (fun _ => rfl) (fun _ => rfl) dX7_init_12 (fun gv3 H locs hX3 hN2 hR C hw hS => ?_)
  have hl : lv_has ls 2 [(0, .ref (gA gv3 0))] := by
    have z := hl
    rw [hX3.A (k := 0) (by omega)] at z
    exact z
  have hX := hX.trans hX3
  have hN := hN2.trans hN
  have hF := hF.sR (n := 1000 * 0 + 0) (q := 1) (by omega)
  refine lv_aload_n C.1 C.2.1 dX7_init_15 rfl (lv_at hl 0 rfl) ?_
  refine lv_aload_n C.1 C.2.1 dX7_init_16 rfl (lv_at hl 0 rfl) ?_
  refine g7 C hw 0 (by omega) rfl 0 (by decide) mw_480 (svr (hR.ref (q := 1) (by rw [stR_s]))) dX7_init_17 ?_
  refine gn2 C hw 1 (by omega) rfl 0 (by decide) mn_239 (svr (hR.ref (q := 2) (by rw [stR_n (by omega)]; exact rhoE_10))) dX7_init_20 ?_
  refine y_pr7 C hw hS hR hm rfl 0 (by omega) rfl 1 (by decide) rfl mw_481 rfl 2 (by omega) (tyX7_ok 1 (by decide)) (fun _ => rfl) (fun _ => rfl) dX7_init_23 (fun gv4 H locs hX4 hN2 hR C hw hS => ?_)
  have hl : lv_has ls 2 [(0, .ref (gA gv4 0))] := by
    have z := hl
    rw [hX4.A (k := 0) (by omega)] at z
    exact z
  have hX := hX.trans hX4
  have hN := hN2.trans hN
  have hF := hF.sR (n := 1000 * 0 + 1) (q := 2) (by omega)
  refine lv_aload_n C.1 C.2.1 dX7_init_26 rfl (lv_at hl 0 rfl) ?_
  refine lv_aload_n C.1 C.2.1 dX7_init_27 rfl (lv_at hl 0 rfl) ?_
  refine g7 C hw 0 (by omega) rfl 0 (by decide) mw_480 (svr (hR.ref (q := 1) (by rw [stR_n (by omega), stR_s]))) dX7_init_28 ?_
  refine gn2 C hw 1 (by omega) rfl 1 (by decide) mn_241 (svr (hR.ref (q := 12) (by rw [stR_n (by omega), stR_n (by omega)]; exact rhoE_11))) dX7_init_31 ?_
  refine y_pr7 C hw hS hR hm rfl 0 (by omega) rfl 2 (by decide) rfl mw_482 rfl 12 (by omega) (tyX7_ok 2 (by decide)) (fun _ => rfl) (fun _ => rfl) dX7_init_34 (fun gv5 H locs hX5 hN2 hR C hw hS => ?_)
  have hl : lv_has ls 2 [(0, .ref (gA gv5 0))] := by
    have z := hl
    rw [hX5.A (k := 0) (by omega)] at z
    exact z
  have hX := hX.trans hX5
  have hN := hN2.trans hN
  have hF := hF.sR (n := 1000 * 0 + 2) (q := 12) (by omega)
  refine lv_aload_n C.1 C.2.1 dX7_init_37 rfl (lv_at hl 0 rfl) ?_
  refine y_new4 (k := 45) C hw hS hR hN rfl hF mw_268 mw_269 mw_122 (by decide) (by decide) dX7_init_38 (fun gv6 H hX6 hN hR C hw hS => ?_)
  have hFn := hF
  have hl : lv_has ls 2 [(0, .ref (gA gv6 0))] := by
    have z := hl
    rw [hX6.A (k := 0) (by omega)] at z
    exact z
  rw [hX6.A (k := 0) (by omega)]
  have hX := hX.trans hX6
  have hF := hF.up (b' := 46) (by omega)
  refine lv_dup C.1 C.2.1 dX7_init_41 rfl ?_
  refine y_call C hA hw hS hml hl.1 45 (k_X4 l gv6 M (stR (stR (stR (rhoE (fun _ => none)) (1000 * 0 + 0) 1) (1000 * 0 + 1) 2) (1000 * 0 + 2) 12) hN hR hFn) mn_270 mw_271 mw_122 mw_272 rfl ⟨by decide, by decide, by decide +kernel⟩ ⟨Nat.le_of_ble_eq_true rfl, Nat.le_of_ble_eq_true rfl⟩ (Nat.le_of_ble_eq_true rfl) dX7_init_42 ⟨Nat.le_of_ble_eq_true rfl, Nat.le_of_ble_eq_true rfl⟩ (fun gv7 H locs hX7 hN2 hR C hw hS => ?_)
  have hl : lv_has ls 2 [(0, .ref (gA gv7 0))] := by
    have z := hl
    rw [hX7.A (k := 0) (by omega)] at z
    exact z
  rw [hX7.A (k := 45) (by omega), hX7.A (k := 0) (by omega)]
  have hX := hX.trans hX7
  have hN := hN2
  have hF := ((((hF.up (b' := 49) (by omega)).st (n := 1000 * 45 + 3) (x := 7) (by omega)).sR (n := 1000 * 45 + 0) (q := 46) (by omega)).sR (n := 1000 * 45 + 6) (q := 47) (by omega)).sR (n := 1000 * 45 + 7) (q := 48) (by omega)
  refine y_pr7 C hw hS hR hm rfl 0 (by omega) rfl 3 (by decide) rfl mw_483 rfl 45 (by omega) (tyX7_ok 3 (by decide)) (fun _ => rfl) (fun _ => rfl) dX7_init_45 (fun gv8 H locs hX8 hN2 hR C hw hS => ?_)
  have hl : lv_has ls 2 [(0, .ref (gA gv8 0))] := by
    have z := hl
    rw [hX8.A (k := 0) (by omega)] at z
    exact z
  have hX := hX.trans hX8
  have hN := hN2.trans hN
  have hF := hF.sR (n := 1000 * 0 + 3) (q := 45) (by omega)
  refine lv_aload_n C.1 C.2.1 dX7_init_48 rfl (lv_at hl 0 rfl) ?_
  refine y_new1 (k := 49) C hw hS hR hN rfl hF mw_306 mw_148 mw_119 (by decide) (by decide) dX7_init_49 (fun gv9 H hX9 hN hR C hw hS => ?_)
  have hFn := hF
  have hl : lv_has ls 2 [(0, .ref (gA gv9 0))] := by
    have z := hl
    rw [hX9.A (k := 0) (by omega)] at z
    exact z
  rw [hX9.A (k := 0) (by omega)]
  have hX := hX.trans hX9
  have hF := hF.up (b' := 50) (by omega)
  refine lv_dup C.1 C.2.1 dX7_init_52 rfl ?_
  refine y_call C hA hw hS hml hl.1 49 (k_X1 l gv9 (stM M (1000 * 45 + 3) 7) (stR (stR (stR (stR (stR (stR (stR (rhoE (fun _ => none)) (1000 * 0 + 0) 1) (1000 * 0 + 1) 2) (1000 * 0 + 2) 12) (1000 * 45 + 0) 46) (1000 * 45 + 6) 47) (1000 * 45 + 7) 48) (1000 * 0 + 3) 45) 49 (by decide) hN hR hFn) mn_307 mw_150 mw_119 mw_151 rfl ⟨by decide, by decide, by decide +kernel⟩ ⟨Nat.le_of_ble_eq_true rfl, Nat.le_of_ble_eq_true rfl⟩ (Nat.le_of_ble_eq_true rfl) dX7_init_53 ⟨Nat.le_of_ble_eq_true rfl, Nat.le_of_ble_eq_true rfl⟩ (fun gv10 H locs hX10 hN2 hR C hw hS => ?_)
  have hl : lv_has ls 2 [(0, .ref (gA gv10 0))] := by
    have z := hl
    rw [hX10.A (k := 0) (by omega)] at z
    exact z
  rw [hX10.A (k := 49) (by omega), hX10.A (k := 0) (by omega)]
  have hX := hX.trans hX10
  have hN := hN2
  have hF := (rhoB_f (b := 49) (hF.up (b' := 49 + 2) (by omega)) 8 (by omega)).up (b' := 59) (by omega)
  refine y_pr7 C hw hS hR hm rfl 0 (by omega) rfl 4 (by decide) rfl mw_484 rfl 49 (by omega) (tyX7_ok 4 (by decide)) (fun _ => rfl) (fun _ => rfl) dX7_init_56 (fun gv11 H locs hX11 hN2 hR C hw hS => ?_)
  have hl : lv_has ls 2 [(0, .ref (gA gv11 0))] := by
    have z := hl
    rw [hX11.A (k := 0) (by omega)] at z
    exact z
  have hX := hX.trans hX11
  have hN := hN2.trans hN
  have hF := hF.sR (n := 1000 * 0 + 4) (q := 49) (by omega)
  refine lv_aload_n C.1 C.2.1 dX7_init_59 rfl (lv_at hl 0 rfl) ?_
  refine lv_iconst (v := II 0) C.1 C.2.1 dX7_init_60 rfl ?_
  refine p7 C hw hS 0 (by omega) rfl 5 (by decide) mw_485 rfl (x := 0) ⟨by decide, by decide⟩ (svi st_s) (tyX7_ok 5 (by decide)) rfl rfl dX7_init_61 (fun H locs hw hS => ?_)
  rw [st_same (by first | exact (hF0 _ (by omega)).1 | (rw [st_n (by omega)]; exact (hF0 _ (by omega)).1) | (rw [st_n (by omega), st_n (by omega)]; exact (hF0 _ (by omega)).1))] at hw
  refine lv_aload_n C.1 C.2.1 dX7_init_64 rfl (lv_at hl 0 rfl) ?_
  refine y_new0 (k := 59) C hw hS hR hN rfl hF mw_308 mw_309 mw_123 (by decide) (by decide) dX7_init_65 (fun gv12 H hX12 hN hR C hw hS => ?_)
  have hFn := hF
  have hl : lv_has ls 2 [(0, .ref (gA gv12 0))] := by
    have z := hl
    rw [hX12.A (k := 0) (by omega)] at z
    exact z
  rw [hX12.A (k := 0) (by omega)]
  have hX := hX.trans hX12
  have hF := hF.up (b' := 60) (by omega)
  refine lv_dup C.1 C.2.1 dX7_init_68 rfl ?_
  refine y_call C hA hw hS hml hl.1 59 (k_X0 l gv12 (stM M (1000 * 45 + 3) 7) (stR (rhoB 49 (stR (stR (stR (stR (stR (stR (stR (rhoE (fun _ => none)) (1000 * 0 + 0) 1) (1000 * 0 + 1) 2) (1000 * 0 + 2) 12) (1000 * 45 + 0) 46) (1000 * 45 + 6) 47) (1000 * 45 + 7) 48) (1000 * 0 + 3) 45) 8) (1000 * 0 + 4) 49) hN hR hFn) mn_310 mw_311 mw_123 mw_312 rfl ⟨by decide, by decide, by decide +kernel⟩ ⟨Nat.le_of_ble_eq_true rfl, Nat.le_of_ble_eq_true rfl⟩ (Nat.le_of_ble_eq_true rfl) dX7_init_69 ⟨Nat.le_of_ble_eq_true rfl, Nat.le_of_ble_eq_true rfl⟩ (fun gv13 H locs hX13 hN2 hR C hw hS => ?_)
  have hl : lv_has ls 2 [(0, .ref (gA gv13 0))] := by
    have z := hl
    rw [hX13.A (k := 0) (by omega)] at z
    exact z
  rw [hX13.A (k := 59) (by omega), hX13.A (k := 0) (by omega)]
  have hX := hX.trans hX13
  have hN := hN2
  have hF := hF.st (n := 1000 * 59 + 0) (x := (-1)) (by omega)
  refine y_pr7 C hw hS hR hm rfl 0 (by omega) rfl 6 (by decide) rfl mw_486 rfl 59 (by omega) (tyX7_ok 6 (by decide)) (fun _ => rfl) (fun _ => rfl) dX7_init_72 (fun gv14 H locs hX14 hN2 hR C hw hS => ?_)
  have hl : lv_has ls 2 [(0, .ref (gA gv14 0))] := by
    have z := hl
    rw [hX14.A (k := 0) (by omega)] at z
    exact z
  have hX := hX.trans hX14
  have hN := hN2.trans hN
  have hF := hF.sR (n := 1000 * 0 + 6) (q := 59) (by omega)
  refine lv_aload_n C.1 C.2.1 dX7_init_75 rfl (lv_at hl 0 rfl) ?_
  refine lv_iconst (v := II 4) C.1 C.2.1 dX7_init_76 rfl ?_
  refine y_newq (k := 60) C hw hS hR hN 12 rfl (L := 4) rfl (by decide) hF 3 rfl (by decide) hA.2.1 mw_321 (by decide) (by decide) dX7_init_77 (fun gv15 H hX15 hN hR C hw hS => ?_)
  have hl : lv_has ls 2 [(0, .ref (gA gv15 0))] := by
    have z := hl
    rw [hX15.A (k := 0) (by omega)] at z
    exact z
  rw [hX15.A (k := 0) (by omega)]
  have hX := hX.trans hX15
  have hF := hF.up (b' := 61) (by omega)
  refine y_pr7 C hw hS hR hm rfl 0 (by omega) rfl 7 (by decide) rfl mw_487 rfl 60 (by omega) (tyX7_ok 7 (by decide)) (fun _ => rfl) (fun _ => rfl) dX7_init_80 (fun gv16 H locs hX16 hN2 hR C hw hS => ?_)
  have hl : lv_has ls 2 [(0, .ref (gA gv16 0))] := by
    have z := hl
    rw [hX16.A (k := 0) (by omega)] at z
    exact z
  have hX := hX.trans hX16
  have hN := hN2.trans hN
  have hF := hF.sR (n := 1000 * 0 + 7) (q := 60) (by omega)
  refine lv_aload_n C.1 C.2.1 dX7_init_83 rfl (lv_at hl 0 rfl) ?_
  refine lv_bipush (v := II 8) C.1 C.2.1 dX7_init_84 (by decide) ?_
  refine y_newI (k := 61) C hw hS hR hN 9 rfl (L := 8) rfl (by decide) hF (at_ := .int) (by decide) mw_236 (by decide) (by decide) dX7_init_86 (fun gv17 H hX17 hN hR C hw hS => ?_)
  have hl : lv_has ls 2 [(0, .ref (gA gv17 0))] := by
    have z := hl
    rw [hX17.A (k := 0) (by omega)] at z
    exact z
  rw [hX17.A (k := 0) (by omega)]
  have hX := hX.trans hX17
  have hF := hF.up (b' := 62) (by omega)
  refine y_pr7 C hw hS hR hm rfl 0 (by omega) rfl 8 (by decide) rfl mw_488 rfl 61 (by omega) (tyX7_ok 8 (by decide)) (fun _ => rfl) (fun _ => rfl) dX7_init_88 (fun gv18 H locs hX18 hN2 hR C hw hS => ?_)
  have hl : lv_has ls 2 [(0, .ref (gA gv18 0))] := by
    have z := hl
    rw [hX18.A (k := 0) (by omega)] at z
    exact z
  have hX := hX.trans hX18
  have hN := hN2.trans hN
  have hF := hF.sR (n := 1000 * 0 + 8) (q := 61) (by omega)
  refine lv_iconst (v := II 0) C.1 C.2.1 dX7_init_91 rfl ?_
  refine lv_istore_n (lv' := [(1, .int (II 0)), (0, .ref (gA gv18 0))]) C.1 C.2.1 dX7_init_92 rfl hl (by decide) rfl (fun ls hl => ?_)
  refine k_X7_loop l g (stM (stM M (1000 * 45 + 3) 7) (1000 * 59 + 0) (-1)) (rho7 (fun _ => none)) (by decide +kernel) hF hA hml ?_ 4 0 rfl _ _ rfl rfl gv18 H locs ls hX hN hR C hw hS hl
  intro gv H locs ls hX hN hR C hw hS hl
  have hLT : LvT gv := ⟨by omega, fun n h => by rw [hR.1, rho7_all n h]⟩
  refine k_X7_tail l gv (mS (stM (stM M (1000 * 45 + 3) 7) (1000 * 59 + 0) (-1)) 4) hLT (by rw [mS_n (by omega) 4 (by decide), st_n (by omega), st_n (by omega)]; exact (hF0 _ (by omega)).1) (by rw [mS_n (by omega) 4 (by decide), st_n (by omega), st_n (by omega)]; exact (hF0 _ (by omega)).1) C hml hw hS hl ?_
  intro M2 H locs ls hP C hw hS
  subst hQQ; exact yd_end hX C hr hlk hw hS hR hN hP rfl dX7_init_168
