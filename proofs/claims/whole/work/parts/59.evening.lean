def rhoE (ρ : Nat → Option Nat) : Nat → Option Nat := stR (stR (mulR (stR (mulR (stR (rhoT (stR (rhoB 2 ρ 8) (1000 * 1 + 0) 2)) (1000 * 1 + 1) 12) 33 7) (1000 * 1 + 2) 33) 41 6) (1000 * 1 + 3) 41) (1000 * 1 + 4) 48
theorem rhoB_n {b : Nat} {ρ : Nat → Option Nat} {n : Nat} (h : n ≠ 1000 * b + 0) (h2 : ¬ (1000 * (b + 1) ≤ n ∧ n < 1000 * (b + 1) + 8)) : ∀ i, i ≤ 8 → rhoB b ρ i n = ρ n
  | 0, _ => stR_n h
  | i + 1, hi => by rw [rhoB, stR_n (by omega)]; exact rhoB_n h h2 i (by omega)
theorem rhoB_c {b : Nat} {ρ ρ' : Nat → Option Nat} {n : Nat} (h : ρ n = ρ' n) : ∀ i, rhoB b ρ i n = rhoB b ρ' i n
  | 0 => stR_c h
  | i + 1 => stR_c (rhoB_c h i)

set_option maxHeartbeats 4000000 in
set_option maxRecDepth 100000 in
theorem k_X2 (l : Launch) (g : Gm) (M : Nat → Int) (ρ : Nat → Option Nat) (hN : gN g = 2) (hR : Rr g ρ) (hF0 : Fr M ρ 1) : CD l ({ cls := "RatedBySighs$Evening", name := "<init>", desc := "()V" } : Jvm.MethodName) cX2_init 1 { frames := 46, cells := 47, slots := 1677, locals := 1032 } g M [.ref (gA g 1)] (fun M' => TxtC M' (1, (fun _ => evC [5, -1, -14] [0] [-1]), 0, fun i => sb 0 i) ∧ ∀ m, ¬ (12000 ≤ m ∧ m < 33000) → M' m = M m) (rhoE ρ) 49 := by
  refine yd_start (by decide) (Nat.le_of_ble_eq_true rfl) (fun p e s m below meth c ls C hA hm hr hlk hml hw hS hl => ?_)
  have hl : lv_has ls 1 [(0, .ref (gA g 1))] := hl
  generalize ([.ref (gA g 1)] : List Value).toArray = args at C ⊢
  generalize hQQ : MQ below (postD g (fun M' => TxtC M' (1, (fun _ => evC [5, -1, -14] [0] [-1]), 0, fun i => sb 0 i) ∧ ∀ m, ¬ (12000 ≤ m ∧ m < 33000) → M' m = M m) (rhoE ρ) 49) args s 47 1677 (ar g) = QQ
  have hX : GX g g := GX.refl
  have hF : Fr M ρ 2 := hF0.up (by omega)
  refine lv_aload_n C.1 C.2.1 dX2_init_0 rfl (lv_at hl 0 rfl) ?_
  refine y_obj C mw_146 mw_139 mw_140 (hml.trans hl.1.symm) dX2_init_1 (Nat.le_of_ble_eq_true rfl) (by decide) (Nat.le_of_ble_eq_true rfl) ?_
  refine lv_aload_n C.1 C.2.1 dX2_init_4 rfl (lv_at hl 0 rfl) ?_
  refine y_new1 (k := 2) C hw hS hR hN rfl hF mw_147 mw_148 mw_119 (by decide) (by decide) dX2_init_5 (fun gv1 H hX1 hN hR C hw hS => ?_)
  have hFn := hF
  have hl : lv_has ls 1 [(0, .ref (gA gv1 1))] := by
    have z := hl
    rw [hX1.A (k := 1) (by omega)] at z
    exact z
  rw [hX1.A (k := 1) (by omega)]
  have hX := hX.trans hX1
  have hF := hF.up (b' := 3) (by omega)
  refine lv_dup C.1 C.2.1 dX2_init_8 rfl ?_
  refine y_call C hA hw hS hml hl.1 2 (k_X1 l gv1 M ρ 2 (by decide) hN hR hFn) mn_149 mw_150 mw_119 mw_151 rfl ⟨by decide, by decide, by decide +kernel⟩ ⟨Nat.le_of_ble_eq_true rfl, Nat.le_of_ble_eq_true rfl⟩ (Nat.le_of_ble_eq_true rfl) dX2_init_9 ⟨Nat.le_of_ble_eq_true rfl, Nat.le_of_ble_eq_true rfl⟩ (fun gv2 H locs hX2 hN2 hR C hw hS => ?_)
  have hl : lv_has ls 1 [(0, .ref (gA gv2 1))] := by
    have z := hl
    rw [hX2.A (k := 1) (by omega)] at z
    exact z
  rw [hX2.A (k := 2) (by omega), hX2.A (k := 1) (by omega)]
  have hX := hX.trans hX2
  have hN := hN2
  have hF := (rhoB_f (b := 2) (hF.up (b' := 2 + 2) (by omega)) 8 (by omega)).up (b' := 12) (by omega)
  refine y_pr2 C hw hS hR hm rfl 1 (by omega) rfl 0 (by decide) rfl mw_421 rfl 2 (by omega) (tyX2_ok 0 (by decide)) (fun _ => rfl) (fun _ => rfl) dX2_init_12 (fun gv3 H locs hX3 hN2 hR C hw hS => ?_)
  have hl : lv_has ls 1 [(0, .ref (gA gv3 1))] := by
    have z := hl
    rw [hX3.A (k := 1) (by omega)] at z
    exact z
  have hX := hX.trans hX3
  have hN := hN2.trans hN
  have hF := hF.sR (n := 1000 * 1 + 0) (q := 2) (by omega)
  refine lv_aload_n C.1 C.2.1 dX2_init_15 rfl (lv_at hl 0 rfl) ?_
  refine y_new6 (k := 12) C hw hS hR hN rfl hF mw_211 mw_212 mw_121 (by decide) (by decide) dX2_init_16 (fun gv4 H hX4 hN hR C hw hS => ?_)
  have hFn := hF
  have hl : lv_has ls 1 [(0, .ref (gA gv4 1))] := by
    have z := hl
    rw [hX4.A (k := 1) (by omega)] at z
    exact z
  rw [hX4.A (k := 1) (by omega)]
  have hX := hX.trans hX4
  have hF := hF.up (b' := 13) (by omega)
  refine lv_dup C.1 C.2.1 dX2_init_19 rfl ?_
  refine yd_call C hA hw hS hml hl.1 12 (k_X6 l gv4 M (stR (rhoB 2 ρ 8) (1000 * 1 + 0) 2) hN hR hFn) mn_213 mw_214 mw_121 mw_215 rfl ⟨by decide, by decide, by decide +kernel⟩ ⟨Nat.le_of_ble_eq_true rfl, Nat.le_of_ble_eq_true rfl⟩ (Nat.le_of_ble_eq_true rfl) dX2_init_20 ⟨Nat.le_of_ble_eq_true rfl, Nat.le_of_ble_eq_true rfl⟩ (fun gv5 MM1 H locs hX5 hN2 hR hP1 C hw hS => ?_)
  have hl : lv_has ls 1 [(0, .ref (gA gv5 1))] := by
    have z := hl
    rw [hX5.A (k := 1) (by omega)] at z
    exact z
  rw [hX5.A (k := 12) (by omega), hX5.A (k := 1) (by omega)]
  have hX := hX.trans hX5
  have hN := hN2
  have hF : Fr MM1 (rhoT (stR (rhoB 2 ρ 8) (1000 * 1 + 0) 2)) 33 := rhoT_f (fun n hn => ⟨(hP1.2 n (by omega)).trans (hFn n (by omega)).1, (hFn n (by omega)).2⟩)
  refine y_pr2 C hw hS hR hm rfl 1 (by omega) rfl 1 (by decide) rfl mw_423 rfl 12 (by omega) (tyX2_ok 1 (by decide)) (fun _ => rfl) (fun _ => rfl) dX2_init_23 (fun gv6 H locs hX6 hN2 hR C hw hS => ?_)
  have hl : lv_has ls 1 [(0, .ref (gA gv6 1))] := by
    have z := hl
    rw [hX6.A (k := 1) (by omega)] at z
    exact z
  have hX := hX.trans hX6
  have hN := hN2.trans hN
  have hF := hF.sR (n := 1000 * 1 + 1) (q := 12) (by omega)
  refine lv_aload_n C.1 C.2.1 dX2_init_26 rfl (lv_at hl 0 rfl) ?_
  refine lv_bipush (v := II 7) C.1 C.2.1 dX2_init_27 (by decide) ?_
  refine lv_bipush (v := II 8) C.1 C.2.1 dX2_init_29 (by decide) ?_
  refine y_mna (k := 33) C hw hS hR hN rfl (N := 7) (K := 8) rfl (by decide) (by decide) (by decide) hF hA.2.2 mw_420 mw_258 (by decide) (by decide) dX2_init_31 (fun gv7 H hX7 hN hR C hw hS => ?_)
  have hl : lv_has ls 1 [(0, .ref (gA gv7 1))] := by
    have z := hl
    rw [hX7.A (k := 1) (by omega)] at z
    exact z
  rw [hX7.A (k := 1) (by omega)]
  have hX := hX.trans hX7
  have hN : gN gv7 = 41 := hN
  have hF := (hF.up (b' := 41) (by omega)).mR (k := 33) (N := 7) (by decide) (by decide)
  refine y_pr2 C hw hS hR hm rfl 1 (by omega) rfl 2 (by decide) rfl mw_425 rfl 33 (by omega) (tyX2_ok 2 (by decide)) (fun _ => rfl) (fun _ => rfl) dX2_init_35 (fun gv8 H locs hX8 hN2 hR C hw hS => ?_)
  have hl : lv_has ls 1 [(0, .ref (gA gv8 1))] := by
    have z := hl
    rw [hX8.A (k := 1) (by omega)] at z
    exact z
  have hX := hX.trans hX8
  have hN := hN2.trans hN
  have hF := hF.sR (n := 1000 * 1 + 2) (q := 33) (by omega)
  refine lv_aload_n C.1 C.2.1 dX2_init_38 rfl (lv_at hl 0 rfl) ?_
  refine lv_bipush (v := II 6) C.1 C.2.1 dX2_init_39 (by decide) ?_
  refine lv_bipush (v := II 8) C.1 C.2.1 dX2_init_41 (by decide) ?_
  refine y_mna (k := 41) C hw hS hR hN rfl (N := 6) (K := 8) rfl (by decide) (by decide) (by decide) hF hA.2.2 mw_420 mw_258 (by decide) (by decide) dX2_init_43 (fun gv9 H hX9 hN hR C hw hS => ?_)
  have hl : lv_has ls 1 [(0, .ref (gA gv9 1))] := by
    have z := hl
    rw [hX9.A (k := 1) (by omega)] at z
    exact z
  rw [hX9.A (k := 1) (by omega)]
  have hX := hX.trans hX9
  have hN : gN gv9 = 48 := hN
  have hF := (hF.up (b' := 48) (by omega)).mR (k := 41) (N := 6) (by decide) (by decide)
  refine y_pr2 C hw hS hR hm rfl 1 (by omega) rfl 3 (by decide) rfl mw_427 rfl 41 (by omega) (tyX2_ok 3 (by decide)) (fun _ => rfl) (fun _ => rfl) dX2_init_47 (fun gv10 H locs hX10 hN2 hR C hw hS => ?_)
  have hl : lv_has ls 1 [(0, .ref (gA gv10 1))] := by
    have z := hl
    rw [hX10.A (k := 1) (by omega)] at z
    exact z
  have hX := hX.trans hX10
  have hN := hN2.trans hN
  have hF := hF.sR (n := 1000 * 1 + 3) (q := 41) (by omega)
  refine lv_aload_n C.1 C.2.1 dX2_init_50 rfl (lv_at hl 0 rfl) ?_
  refine lv_bipush (v := II 6) C.1 C.2.1 dX2_init_51 (by decide) ?_
  refine y_newI (k := 48) C hw hS hR hN 9 rfl (L := 6) rfl (by decide) hF (at_ := .int) (by decide) mw_258 (by decide) (by decide) dX2_init_53 (fun gv11 H hX11 hN hR C hw hS => ?_)
  have hl : lv_has ls 1 [(0, .ref (gA gv11 1))] := by
    have z := hl
    rw [hX11.A (k := 1) (by omega)] at z
    exact z
  rw [hX11.A (k := 1) (by omega)]
  have hX := hX.trans hX11
  have hF := hF.up (b' := 49) (by omega)
  refine y_pr2 C hw hS hR hm rfl 1 (by omega) rfl 4 (by decide) rfl mw_429 rfl 48 (by omega) (tyX2_ok 4 (by decide)) (fun _ => rfl) (fun _ => rfl) dX2_init_55 (fun gv12 H locs hX12 hN2 hR C hw hS => ?_)
  have hl : lv_has ls 1 [(0, .ref (gA gv12 1))] := by
    have z := hl
    rw [hX12.A (k := 1) (by omega)] at z
    exact z
  have hX := hX.trans hX12
  have hN := hN2.trans hN
  have hF := hF.sR (n := 1000 * 1 + 4) (q := 48) (by omega)
  refine lv_aload_n C.1 C.2.1 dX2_init_58 rfl (lv_at hl 0 rfl) ?_
  refine lv_iconst (v := II 0) C.1 C.2.1 dX2_init_59 rfl ?_
  refine p2 C hw hS 1 (by omega) rfl 5 (by decide) mw_431 rfl (x := 0) ⟨by decide, by decide⟩ (svi st_s) (tyX2_ok 5 (by decide)) rfl rfl dX2_init_60 (fun H locs hw hS => ?_)
  rw [st_same ((hP1.2 _ (by omega)).trans (hF0 _ (by omega)).1)] at hw
  refine lv_aload_n C.1 C.2.1 dX2_init_63 rfl (lv_at hl 0 rfl) ?_
  refine lv_iconst (v := II 0) C.1 C.2.1 dX2_init_64 rfl ?_
  refine p2 C hw hS 1 (by omega) rfl 6 (by decide) mw_432 rfl (x := 0) ⟨by decide, by decide⟩ (svi st_s) (tyX2_ok 6 (by decide)) rfl rfl dX2_init_65 (fun H locs hw hS => ?_)
  rw [st_same ((hP1.2 _ (by omega)).trans (hF0 _ (by omega)).1)] at hw
  refine lv_aload_n C.1 C.2.1 dX2_init_68 rfl (lv_at hl 0 rfl) ?_
  refine lv_iconst (v := II 0) C.1 C.2.1 dX2_init_69 rfl ?_
  refine p2 C hw hS 1 (by omega) rfl 7 (by decide) mw_433 rfl (x := 0) ⟨by decide, by decide⟩ (svi st_s) (tyX2_ok 7 (by decide)) rfl rfl dX2_init_70 (fun H locs hw hS => ?_)
  rw [st_same ((hP1.2 _ (by omega)).trans (hF0 _ (by omega)).1)] at hw
  subst hQQ; exact yd_end hX C hr hlk hw hS hR hN hP1 rfl dX2_init_73

theorem rhoE_c {ρ ρ' : Nat → Option Nat} {n : Nat} (h : ρ n = ρ' n) : rhoE ρ n = rhoE ρ' n := stR_c (stR_c (mulR_c (stR_c (mulR_c (stR_c (rhoT_c (stR_c (rhoB_c (h) 8))))))))

theorem rhoE_n {ρ : Nat → Option Nat} {n : Nat} (h : n < 1000 ∨ 49000 ≤ n) : rhoE ρ n = ρ n := by
  unfold rhoE
  rw [stR_n (by omega), stR_n (by omega), mulR_n (by omega), stR_n (by omega), mulR_n (by omega), stR_n (by omega), rhoT_n (by omega), stR_n (by omega), rhoB_n (by omega) (by omega) 8 (by omega)]

theorem rhoE_f {M : Nat → Int} {ρ : Nat → Option Nat} (h : Fr M ρ 49) : Fr M (rhoE ρ) 49 := fun n hn => ⟨(h n hn).1, (rhoE_n (by omega)).trans (h n hn).2⟩
