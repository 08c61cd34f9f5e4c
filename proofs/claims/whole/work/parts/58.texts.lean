theorem R0_none {n : Nat} (h : ∀ q ∈ rtab, ¬ (q.1 ≤ n ∧ n < q.1 + q.2.1)) : R0 n = none := by
  unfold R0
  rw [List.find?_eq_none.mpr (fun q hq => by simpa using h q hq)]
  rfl
theorem first_eq : txP (fun i => sb 0 i) 38 = .inr ([5, -1, -14], [0], [-1]) := by decide +kernel
def rhoT (ρ : Nat → Option Nat) : Nat → Option Nat := stR (stR (stR (stR (stR (stR (stR (mulR (stR (mulR ρ 13 6) (1000 * 12 + 0) 13) 20 6) (1000 * 12 + 1) 20) (1000 * 12 + 2) 27) (1000 * 12 + 3) 28) (1000 * 29 + 0) 30) (1000 * 29 + 6) 31) (1000 * 29 + 7) 32) (1000 * 12 + 4) 29
theorem rhoT_f {M : Nat → Int} {ρ : Nat → Option Nat} (h : Fr M ρ 33) : Fr M (rhoT ρ) 33 := ((((((((((h).mR (k := 13) (N := 6) (by decide) (by decide)).sR (n := 1000 * 12 + 0) (q := 13) (by decide)).mR (k := 20) (N := 6) (by decide) (by decide)).sR (n := 1000 * 12 + 1) (q := 20) (by decide)).sR (n := 1000 * 12 + 2) (q := 27) (by decide)).sR (n := 1000 * 12 + 3) (q := 28) (by decide)).sR (n := 1000 * 29 + 0) (q := 30) (by decide)).sR (n := 1000 * 29 + 6) (q := 31) (by decide)).sR (n := 1000 * 29 + 7) (q := 32) (by decide)).sR (n := 1000 * 12 + 4) (q := 29) (by decide)
theorem rhoT_n {ρ : Nat → Option Nat} {n : Nat} (h : ¬ (12000 ≤ n ∧ n < 33000)) : rhoT ρ n = ρ n := by
  unfold rhoT
  rw [stR_n (by omega), stR_n (by omega), stR_n (by omega), stR_n (by omega), stR_n (by omega), stR_n (by omega), stR_n (by omega), mulR_n (by omega), stR_n (by omega), mulR_n (by omega)]
theorem rhoT_c {ρ ρ' : Nat → Option Nat} {n : Nat} (h : ρ n = ρ' n) : rhoT ρ n = rhoT ρ' n := stR_c (stR_c (stR_c (stR_c (stR_c (stR_c (stR_c (mulR_c (stR_c (mulR_c (h))))))))))
theorem rhoT_eq {M : Nat → Int} {ρ : Nat → Option Nat} (h : Fr M ρ 12) {n : Nat} (h1 : 12000 ≤ n) (h2 : n < 33000) : rhoT ρ n = R0 n := by
  rw [rhoT_c (ρ' := fun _ => none) (h n (by omega)).2]
  by_cases e0 : n = 1000 * 12 + 4
  · subst e0; decide +kernel
  by_cases e1 : n = 1000 * 29 + 7
  · subst e1; decide +kernel
  by_cases e2 : n = 1000 * 29 + 6
  · subst e2; decide +kernel
  by_cases e3 : n = 1000 * 29 + 0
  · subst e3; decide +kernel
  by_cases e4 : n = 1000 * 12 + 3
  · subst e4; decide +kernel
  by_cases e5 : n = 1000 * 12 + 2
  · subst e5; decide +kernel
  by_cases e6 : n = 1000 * 12 + 1
  · subst e6; decide +kernel
  by_cases e7 : 1000 * 20 ≤ n ∧ n < 1000 * 20 + 6
  · obtain ⟨i, rfl⟩ : ∃ i, n = 1000 * 20 + i := ⟨n - 1000 * 20, by omega⟩
    exact (by decide +kernel : ∀ i, i < 6 → rhoT (fun _ => none) (1000 * 20 + i) = R0 (1000 * 20 + i)) i (by omega)
  by_cases e8 : n = 1000 * 12 + 0
  · subst e8; decide +kernel
  by_cases e9 : 1000 * 13 ≤ n ∧ n < 1000 * 13 + 6
  · obtain ⟨i, rfl⟩ : ∃ i, n = 1000 * 13 + i := ⟨n - 1000 * 13, by omega⟩
    exact (by decide +kernel : ∀ i, i < 6 → rhoT (fun _ => none) (1000 * 13 + i) = R0 (1000 * 13 + i)) i (by omega)
  rw [R0_none (by intro q hq; simp only [rtab, List.mem_cons, List.not_mem_nil, or_false] at hq; (repeat (rcases hq with rfl | hq; · (try simp only); omega)))]
  unfold rhoT
  rw [stR_n e0, stR_n e1, stR_n e2, stR_n e3, stR_n e4, stR_n e5, stR_n e6, mulR_n e7, stR_n e8, mulR_n e9]

set_option maxHeartbeats 4000000 in
set_option maxRecDepth 100000 in
theorem k_X6_tail (l : Launch) (g : Gm) (M : Nat → Int) (hT : LvT g) (hm5 : M 12005 = ((0 : Nat) : Int)) (hz : M 29001 = ((0 : Nat) : Int)) {p : Program} {e : Env} {s : State} {m : MethodId} {args : Array Value} {below : List Frame} {meth : Method} {c : Code} {QQ : State → Prop} (C : Cx g p c m s args cX6_init "RatedBySighs$Texts") (hml : c.maxLocals = 2) {H : Heap} {locs : List Loc} {ls : Array Slot} (hw : Wo g M H) (hS : va_S (ar g) s.heap H locs) (hl : lv_has ls 2 [(0, .ref (gA g 12))]) (hend : ∀ (M' : Nat → Int) (H : Heap) (locs : List Loc) (ls : Array Slot), (TxtC M' (1, (fun _ => evC [5, -1, -14] [0] [-1]), 0, fun i => sb 0 i) ∧ ∀ m, ¬ (12000 ≤ m ∧ m < 33000) → M' m = M m) → Cx g p c m s args cX6_init "RatedBySighs$Texts" → Wo g M' H → va_S (ar g) s.heap H locs → W p l e { frames := 45, cells := 20, slots := 1495, locals := 1011 } s m args below meth c H locs 20 1495 QQ (F0 m 97 ls [])) : W p l e { frames := 45, cells := 20, slots := 1495, locals := 1011 } s m args below meth c H locs 20 1495 QQ (F0 m 61 ls []) := by
  have hN : 33 ≤ gN g := hT.1
  have g_M := hw.rg
  refine lv_iconst (v := II 0) C.1 C.2.1 dX6_init_61 rfl ?_
  refine lv_istore_n (lv' := [(1, .int (II 0)), (0, .ref (gA g 12))]) C.1 C.2.1 dX6_init_62 rfl hl (by decide) rfl (fun ls hl => ?_)
  have L63 : ∀ (f1 : Nat) (j : Nat) (M2 : Nat → Int), (38 - j) < f1 → (j ≤ 38) → (M2 29001 = (j : Int)) → (∀ x, x < j → M2 (30000 + x) = sb 0 x) → (∀ m, ¬ (m = 29001 ∨ (30000 ≤ m ∧ m < 30160)) → M2 m = M m) → ∀ (H : Heap) (locs : List Loc) (ls : Array Slot), Wo g M2 H → va_S (ar g) s.heap H locs → lv_has ls 2 [(0, .ref (gA g 12)), (1, .int (II (j : Int)))] → W p l e { frames := 45, cells := 20, slots := 1495, locals := 1011 } s m args below meth c H locs 20 1495 QQ (F0 m 63 ls []) := by
    intro f1
    induction f1 with
    | zero => intro j M2 hmu; exact absurd hmu (Nat.not_lt_zero _)
    | succ f1 ih =>
      intro j M2 hmu h1 hb ht hf H locs ls hw hS hl
      have ih63 := ih
      have g_M2 := hw.rg
      have hsl : sl 0 = 38 := rfl
      refine lv_iload_n C.1 C.2.1 dX6_init_63 rfl (lv_at hl 1 rfl) ?_
      refine x_ldcS C 0 (by decide) rfl rfl dX6_init_64 ?_
      refine x_ci (x_runVs (n := 0) C hw hS hml hl.1 0 (by decide) (c_J0_length l g M2 0 (by first | assumption | omega | exact ⟨by omega, by omega⟩ | decide)) mw_260 mw_261 mw_262 mw_123 mw_263 rfl rfl (by decide +kernel) ⟨Nat.le_of_ble_eq_true rfl, Nat.le_of_ble_eq_true rfl⟩ rfl rfl (Nat.le_of_ble_eq_true rfl) dX6_init_66 ⟨Nat.le_of_ble_eq_true rfl, Nat.le_of_ble_eq_true rfl⟩) hS (fun r66 M66 H locs hr66 hp hw hS => ?_)
      obtain ⟨em66, er66⟩ := hp
      have hw : Wo g M2 H := em66 ▸ hw
      rw [er66] at hr66 ⊢
      refine x_icmp_ge (tgt := 92) C ⟨by omega, by omega⟩ hr66 dX6_init_69 (by decide) (fun c69 => ?_) (fun c69 => ?_)
      · have hj : j = 38 := by omega
        subst hj
        refine lv_aload_n C.1 C.2.1 dX6_init_92 rfl (lv_at hl 0 rfl) ?_
        refine x_ci (x_runV (n := 0) C hw hS hml hl.1 12 6 (by omega) rfl (by decide) rfl (c_X6_takesTape l g M2 hT 0 (fun _ => evC [] [] []) 38 (fun i => sb 0 i) ⟨(hf 12005 (by omega)).trans hm5, fun _ h => absurd h (Nat.not_lt_zero _), hb, fun i hi => ht i hi⟩ ⟨by decide, by decide⟩) mw_312 mw_314 mw_1 mw_121 mw_315 rfl rfl (by decide +kernel) ⟨Nat.le_of_ble_eq_true rfl, Nat.le_of_ble_eq_true rfl⟩ rfl rfl (Nat.le_of_ble_eq_true rfl) dX6_init_93 ⟨Nat.le_of_ble_eq_true rfl, Nat.le_of_ble_eq_true rfl⟩) hS (fun r93 M93 H locs hr93 hp hw hS => ?_)
        rcases hp with ⟨h93f, (⟨er93, h93b⟩ | ⟨er93, h93b⟩)⟩
        · have g_M93 := hw.rg
          rw [er93]
          skip
          refine lv_pop C.1 C.2.1 dX6_init_96 rfl ?_
          (obtain ⟨-, d0, d1, d2, hd, hT2⟩ := h93b; rw [first_eq] at hd; cases hd; exact hend M93 H locs ls ⟨⟨hT2.1, fun t ht => (by have z := hT2.2.1 t ht; have e : t = 0 := (by have : t < 1 := ht; omega); subst e; exact z), hT2.2.2.1, hT2.2.2.2⟩, fun m hm => (h93f m hm).trans (hf m (by omega))⟩ C hw hS)
        · have g_M93 := hw.rg
          rw [er93]
          exact absurd h93b.1 (fun z => by rcases z with z | ⟨q, z, -⟩ <;> first | omega | (rw [first_eq] at z; cases z))
      · refine lv_aload_n C.1 C.2.1 dX6_init_72 rfl (lv_at hl 0 rfl) ?_
        refine g6 C hw 12 (by omega) rfl 4 (by decide) mw_403 (svr (show gR g 12004 = some (gA g 29) from hT.2 12004 (by decide) (by decide))) dX6_init_73 ?_
        have hsb := sb_in 0 (by decide) j (by omega)
        refine x_ldcS C 0 (by decide) rfl rfl dX6_init_76 ?_
        refine lv_iload_n C.1 C.2.1 dX6_init_78 rfl (lv_at hl 1 rfl) ?_
        refine x_ci (x_runVs (n := 1) C hw hS hml hl.1 0 (by decide) (c_J0_charAt l g M2 0 (by first | assumption | omega | exact ⟨by omega, by omega⟩ | decide) j (by omega)) mw_270 mw_271 mw_272 mw_123 mw_273 rfl rfl (by decide +kernel) ⟨Nat.le_of_ble_eq_true rfl, Nat.le_of_ble_eq_true rfl⟩ rfl rfl (Nat.le_of_ble_eq_true rfl) dX6_init_79 ⟨Nat.le_of_ble_eq_true rfl, Nat.le_of_ble_eq_true rfl⟩) hS (fun r79 M79 H locs hr79 hp hw hS => ?_)
        obtain ⟨em79, er79⟩ := hp
        have hw : Wo g M2 H := em79 ▸ hw
        rw [er79] at hr79 ⊢
        refine x_ci (x_runVN (n := 1) C hw hS hml hl.1 29 4 (by omega) rfl (by decide) rfl (c_X4_append l g M2 hT.r j ⟨hb, by omega⟩ (sb 0 j) ⟨by omega, by omega⟩) mn_308 mw_310 mw_0 mw_122 mw_311 rfl rfl (by decide +kernel) ⟨Nat.le_of_ble_eq_true rfl, Nat.le_of_ble_eq_true rfl⟩ rfl rfl (Nat.le_of_ble_eq_true rfl) dX6_init_82 ⟨Nat.le_of_ble_eq_true rfl, Nat.le_of_ble_eq_true rfl⟩) hS (fun r82 M82 H locs hr82 hp hw hS => ?_)
        rcases hp with ⟨er82, h82b⟩ | ⟨er82, h82b⟩
        · have g_M82 := hw.rg
          rw [er82]
          skip
          refine lv_pop C.1 C.2.1 dX6_init_85 rfl ?_
          refine lv_iinc (v := II ((j : Int) + 1)) (lv' := [(1, .int (II ((j : Int) + 1))), (0, .ref (gA g 12))]) C.1 C.2.1 dX6_init_86 hl (k := 1) rfl (II_add _ _) (by decide) rfl (fun ls hl => ?_)
          refine lv_goto (tgt := 63) C.1 C.2.1 dX6_init_89 (by decide) ?_
          exact ih63  (j + 1) M82 (by omega) (by omega) (by rw [h82b.2, st_s]; omega) (fun x hx => by
      rw [h82b.2, st_n (by omega)]
      by_cases e : x = j
      · rw [e, st_s]
      · rw [st_n (by omega)]; exact ht x (by omega)) (fun m hm => by rw [h82b.2, st_n (by omega), st_n (by omega)]; exact hf m hm) _ _ _ hw hS (lv_sub hl [1, 0] rfl)
        · have g_M82 := hw.rg
          rw [er82]
          exact absurd h82b.1 (by omega)
  exact L63 _ 0 M (Nat.lt_succ_self _) (by omega) hz (fun _ h => absurd h (Nat.not_lt_zero _)) (fun _ _ => rfl) _ _ _ hw hS (lv_sub hl [1, 0] rfl)

set_option maxHeartbeats 4000000 in
set_option maxRecDepth 100000 in
theorem k_X6 (l : Launch) (g : Gm) (M : Nat → Int) (ρ : Nat → Option Nat) (hN : gN g = 13) (hR : Rr g ρ) (hF0 : Fr M ρ 12) : CD l ({ cls := "RatedBySighs$Texts", name := "<init>", desc := "()V" } : Jvm.MethodName) cX6_init 2 { frames := 45, cells := 20, slots := 1495, locals := 1011 } g M [.ref (gA g 12)] (fun M' => TxtC M' (1, (fun _ => evC [5, -1, -14] [0] [-1]), 0, fun i => sb 0 i) ∧ ∀ m, ¬ (12000 ≤ m ∧ m < 33000) → M' m = M m) (rhoT ρ) 33 := by
  have hF00 := hF0
  refine yd_start (by decide) (Nat.le_of_ble_eq_true rfl) (fun p e s m below meth c ls C hA hm hr hlk hml hw hS hl => ?_)
  have hl : lv_has ls 2 [(0, .ref (gA g 12))] := hl
  generalize ([.ref (gA g 12)] : List Value).toArray = args at C ⊢
  generalize hQQ : MQ below (postD g (fun M' => TxtC M' (1, (fun _ => evC [5, -1, -14] [0] [-1]), 0, fun i => sb 0 i) ∧ ∀ m, ¬ (12000 ≤ m ∧ m < 33000) → M' m = M m) (rhoT ρ) 33) args s 20 1495 (ar g) = QQ
  have hX : GX g g := GX.refl
  have hF : Fr M ρ 13 := hF0.up (by omega)
  refine lv_aload_n C.1 C.2.1 dX6_init_0 rfl (lv_at hl 0 rfl) ?_
  refine y_obj C mw_216 mw_139 mw_140 (hml.trans hl.1.symm) dX6_init_1 (Nat.le_of_ble_eq_true rfl) (by decide) (Nat.le_of_ble_eq_true rfl) ?_
  refine lv_aload_n C.1 C.2.1 dX6_init_4 rfl (lv_at hl 0 rfl) ?_
  refine lv_bipush (v := II 6) C.1 C.2.1 dX6_init_5 (by decide) ?_
  refine lv_sipush (v := II 160) C.1 C.2.1 dX6_init_7 (by decide) ?_
  refine y_mna (k := 13) C hw hS hR hN rfl (N := 6) (K := 160) rfl (by decide) (by decide) (by decide) hF hA.2.2 mw_217 mw_258 (by decide) (by decide) dX6_init_10 (fun gv1 H hX1 hN hR C hw hS => ?_)
  have hl : lv_has ls 2 [(0, .ref (gA gv1 12))] := by
    have z := hl
    rw [hX1.A (k := 12) (by omega)] at z
    exact z
  rw [hX1.A (k := 12) (by omega)]
  have hX := hX.trans hX1
  have hN : gN gv1 = 20 := hN
  have hF := (hF.up (b' := 20) (by omega)).mR (k := 13) (N := 6) (by decide) (by decide)
  refine y_pr6 C hw hS hR hm rfl 12 (by omega) rfl 0 (by decide) rfl mw_398 rfl 13 (by omega) (tyX6_ok 0 (by decide)) (fun _ => rfl) (fun _ => rfl) dX6_init_14 (fun gv2 H locs hX2 hN2 hR C hw hS => ?_)
  have hl : lv_has ls 2 [(0, .ref (gA gv2 12))] := by
    have z := hl
    rw [hX2.A (k := 12) (by omega)] at z
    exact z
  have hX := hX.trans hX2
  have hN := hN2.trans hN
  have hF := hF.sR (n := 1000 * 12 + 0) (q := 13) (by omega)
  refine lv_aload_n C.1 C.2.1 dX6_init_17 rfl (lv_at hl 0 rfl) ?_
  refine lv_bipush (v := II 6) C.1 C.2.1 dX6_init_18 (by decide) ?_
  refine lv_iconst (v := II 4) C.1 C.2.1 dX6_init_20 rfl ?_
  refine y_mna (k := 20) C hw hS hR hN rfl (N := 6) (K := 4) rfl (by decide) (by decide) (by decide) hF hA.2.2 mw_217 mw_258 (by decide) (by decide) dX6_init_21 (fun gv3 H hX3 hN hR C hw hS => ?_)
  have hl : lv_has ls 2 [(0, .ref (gA gv3 12))] := by
    have z := hl
    rw [hX3.A (k := 12) (by omega)] at z
    exact z
  rw [hX3.A (k := 12) (by omega)]
  have hX := hX.trans hX3
  have hN : gN gv3 = 27 := hN
  have hF := (hF.up (b' := 27) (by omega)).mR (k := 20) (N := 6) (by decide) (by decide)
  refine y_pr6 C hw hS hR hm rfl 12 (by omega) rfl 1 (by decide) rfl mw_399 rfl 20 (by omega) (tyX6_ok 1 (by decide)) (fun _ => rfl) (fun _ => rfl) dX6_init_25 (fun gv4 H locs hX4 hN2 hR C hw hS => ?_)
  have hl : lv_has ls 2 [(0, .ref (gA gv4 12))] := by
    have z := hl
    rw [hX4.A (k := 12) (by omega)] at z
    exact z
  have hX := hX.trans hX4
  have hN := hN2.trans hN
  have hF := hF.sR (n := 1000 * 12 + 1) (q := 20) (by omega)
  refine lv_aload_n C.1 C.2.1 dX6_init_28 rfl (lv_at hl 0 rfl) ?_
  refine lv_bipush (v := II 6) C.1 C.2.1 dX6_init_29 (by decide) ?_
  refine y_newI (k := 27) C hw hS hR hN 9 rfl (L := 6) rfl (by decide) hF (at_ := .int) (by decide) mw_258 (by decide) (by decide) dX6_init_31 (fun gv5 H hX5 hN hR C hw hS => ?_)
  have hl : lv_has ls 2 [(0, .ref (gA gv5 12))] := by
    have z := hl
    rw [hX5.A (k := 12) (by omega)] at z
    exact z
  rw [hX5.A (k := 12) (by omega)]
  have hX := hX.trans hX5
  have hF := hF.up (b' := 28) (by omega)
  refine y_pr6 C hw hS hR hm rfl 12 (by omega) rfl 2 (by decide) rfl mw_400 rfl 27 (by omega) (tyX6_ok 2 (by decide)) (fun _ => rfl) (fun _ => rfl) dX6_init_33 (fun gv6 H locs hX6 hN2 hR C hw hS => ?_)
  have hl : lv_has ls 2 [(0, .ref (gA gv6 12))] := by
    have z := hl
    rw [hX6.A (k := 12) (by omega)] at z
    exact z
  have hX := hX.trans hX6
  have hN := hN2.trans hN
  have hF := hF.sR (n := 1000 * 12 + 2) (q := 27) (by omega)
  refine lv_aload_n C.1 C.2.1 dX6_init_36 rfl (lv_at hl 0 rfl) ?_
  refine lv_sipush (v := II 160) C.1 C.2.1 dX6_init_37 (by decide) ?_
  refine y_newI (k := 28) C hw hS hR hN 9 rfl (L := 160) rfl (by decide) hF (at_ := .int) (by decide) mw_258 (by decide) (by decide) dX6_init_40 (fun gv7 H hX7 hN hR C hw hS => ?_)
  have hl : lv_has ls 2 [(0, .ref (gA gv7 12))] := by
    have z := hl
    rw [hX7.A (k := 12) (by omega)] at z
    exact z
  rw [hX7.A (k := 12) (by omega)]
  have hX := hX.trans hX7
  have hF := hF.up (b' := 29) (by omega)
  refine y_pr6 C hw hS hR hm rfl 12 (by omega) rfl 3 (by decide) rfl mw_401 rfl 28 (by omega) (tyX6_ok 3 (by decide)) (fun _ => rfl) (fun _ => rfl) dX6_init_42 (fun gv8 H locs hX8 hN2 hR C hw hS => ?_)
  have hl : lv_has ls 2 [(0, .ref (gA gv8 12))] := by
    have z := hl
    rw [hX8.A (k := 12) (by omega)] at z
    exact z
  have hX := hX.trans hX8
  have hN := hN2.trans hN
  have hF := hF.sR (n := 1000 * 12 + 3) (q := 28) (by omega)
  refine lv_aload_n C.1 C.2.1 dX6_init_45 rfl (lv_at hl 0 rfl) ?_
  refine y_new4 (k := 29) C hw hS hR hN rfl hF mw_219 mw_220 mw_122 (by decide) (by decide) dX6_init_46 (fun gv9 H hX9 hN hR C hw hS => ?_)
  have hFn := hF
  have hl : lv_has ls 2 [(0, .ref (gA gv9 12))] := by
    have z := hl
    rw [hX9.A (k := 12) (by omega)] at z
    exact z
  rw [hX9.A (k := 12) (by omega)]
  have hX := hX.trans hX9
  have hF := hF.up (b' := 30) (by omega)
  refine lv_dup C.1 C.2.1 dX6_init_49 rfl ?_
  refine y_call C hA hw hS hml hl.1 29 (k_X4 l gv9 M (stR (stR (stR (mulR (stR (mulR ρ 13 6) (1000 * 12 + 0) 13) 20 6) (1000 * 12 + 1) 20) (1000 * 12 + 2) 27) (1000 * 12 + 3) 28) hN hR hFn) mn_221 mw_222 mw_122 mw_223 rfl ⟨by decide, by decide, by decide +kernel⟩ ⟨Nat.le_of_ble_eq_true rfl, Nat.le_of_ble_eq_true rfl⟩ (Nat.le_of_ble_eq_true rfl) dX6_init_50 ⟨Nat.le_of_ble_eq_true rfl, Nat.le_of_ble_eq_true rfl⟩ (fun gv10 H locs hX10 hN2 hR C hw hS => ?_)
  have hl : lv_has ls 2 [(0, .ref (gA gv10 12))] := by
    have z := hl
    rw [hX10.A (k := 12) (by omega)] at z
    exact z
  rw [hX10.A (k := 29) (by omega), hX10.A (k := 12) (by omega)]
  have hX := hX.trans hX10
  have hN := hN2
  have hF := ((((hF.up (b' := 33) (by omega)).st (n := 1000 * 29 + 3) (x := 7) (by omega)).sR (n := 1000 * 29 + 0) (q := 30) (by omega)).sR (n := 1000 * 29 + 6) (q := 31) (by omega)).sR (n := 1000 * 29 + 7) (q := 32) (by omega)
  refine y_pr6 C hw hS hR hm rfl 12 (by omega) rfl 4 (by decide) rfl mw_403 rfl 29 (by omega) (tyX6_ok 4 (by decide)) (fun _ => rfl) (fun _ => rfl) dX6_init_53 (fun gv11 H locs hX11 hN2 hR C hw hS => ?_)
  have hl : lv_has ls 2 [(0, .ref (gA gv11 12))] := by
    have z := hl
    rw [hX11.A (k := 12) (by omega)] at z
    exact z
  have hX := hX.trans hX11
  have hN := hN2.trans hN
  have hF := hF.sR (n := 1000 * 12 + 4) (q := 29) (by omega)
  refine lv_aload_n C.1 C.2.1 dX6_init_56 rfl (lv_at hl 0 rfl) ?_
  refine lv_iconst (v := II 0) C.1 C.2.1 dX6_init_57 rfl ?_
  refine p6 C hw hS 12 (by omega) rfl 5 (by decide) mw_404 rfl (x := 0) ⟨by decide, by decide⟩ (svi st_s) (tyX6_ok 5 (by decide)) rfl rfl dX6_init_58 (fun H locs hw hS => ?_)
  rw [st_same (by first | exact (hF0 _ (by omega)).1 | (rw [st_n (by omega)]; exact (hF0 _ (by omega)).1) | (rw [st_n (by omega), st_n (by omega)]; exact (hF0 _ (by omega)).1))] at hw
  have hLT : LvT gv11 := ⟨by omega, fun n h1 h2 => by rw [hR.1, show (stR (stR (stR (stR (stR (stR (stR (mulR (stR (mulR ρ 13 6) (1000 * 12 + 0) 13) 20 6) (1000 * 12 + 1) 20) (1000 * 12 + 2) 27) (1000 * 12 + 3) 28) (1000 * 29 + 0) 30) (1000 * 29 + 6) 31) (1000 * 29 + 7) 32) (1000 * 12 + 4) 29) n = R0 n from rhoT_eq hF00 h1 (by omega)]⟩
  refine k_X6_tail l gv11 (stM M (1000 * 29 + 3) 7) hLT (by rw [st_n (by omega)]; exact (hF00 _ (by omega)).1) (by rw [st_n (by omega)]; exact (hF00 _ (by omega)).1) C hml hw hS hl ?_
  intro M2 H locs ls hP C hw hS
  subst hQQ; exact yd_end hX C hr hlk hw hS hR hN ⟨hP.1, fun m hm => (hP.2 m hm).trans (st_n (by omega))⟩ rfl dX6_init_97
