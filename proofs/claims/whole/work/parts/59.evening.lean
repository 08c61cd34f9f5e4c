theorem rhoB_n {b : Nat} {ρ : Nat → Option Nat} {n : Nat} (h : n ≠ 1000 * b + 0) (h2 : ¬ (1000 * (b + 1) ≤ n ∧ n < 1000 * (b + 1) + 8)) : ∀ i, i ≤ 8 → rhoB b ρ i n = ρ n
  | 0, _ => stR_n h
  | i + 1, hi => by rw [rhoB, stR_n (by omega)]; exact rhoB_n h h2 i (by omega)
theorem rhoB_c {b : Nat} {ρ ρ' : Nat → Option Nat} {n : Nat} (h : ρ n = ρ' n) : ∀ i, rhoB b ρ i n = rhoB b ρ' i n
  | 0 => stR_c h
  | i + 1 => stR_c (rhoB_c h i)
def rhoE (ρ : Nat → Option Nat) : Nat → Option Nat := stR (stR (mulR (stR (mulR (stR (rhoT (stR (rhoB 2 ρ 8) (1000 * 1 + 0) 2)) (1000 * 1 + 1) 12) 29 7) (1000 * 1 + 2) 29) 37 6) (1000 * 1 + 3) 37) (1000 * 1 + 4) 44
theorem rhoE_n {ρ : Nat → Option Nat} {n : Nat} (h : n < 1000 ∨ 45000 ≤ n) : rhoE ρ n = ρ n := by
  unfold rhoE
  rw [stR_n (by omega), stR_n (by omega), mulR_n (by omega), stR_n (by omega), mulR_n (by omega), stR_n (by omega), rhoT_n (by omega), stR_n (by omega), rhoB_n (by omega) (by omega) 8 (by omega)]
theorem rhoE_f {M : Nat → Int} {ρ : Nat → Option Nat} (h : Fr M ρ 45) : Fr M (rhoE ρ) 45 := fun n hn => ⟨(h n hn).1, (rhoE_n (by omega)).trans (h n hn).2⟩

set_option maxHeartbeats 4000000 in
set_option maxRecDepth 100000 in
theorem k_X2 (l : Launch) (g : Gm) (M : Nat → Int) (ρ : Nat → Option Nat) (hN : gN g = 2) (hR : Rr g ρ) (hF0 : Fr M ρ 1) : CC l ({ cls := "RatedBySighs$Evening", name := "<init>", desc := "()V" } : Jvm.MethodName) cX2_init 1 { frames := 3, cells := 43, slots := 1343, locals := 101 } g M [.ref (gA g 1)] (M) (rhoE ρ) (45) := by
  refine y_start (by decide) (Nat.le_of_ble_eq_true rfl) (fun p e s m below meth c ls C hA hm hr hlk hml hw hS hl => ?_)
  have hl : lv_has ls 1 [(0, .ref (gA g 1))] := hl
  generalize ([.ref (gA g 1)] : List Value).toArray = args at C ⊢
  generalize hQQ : MQ below (pstQ g (M) (rhoE ρ) (45)) args s 43 1343 (ar g) = QQ
  have hX : GX g g := GX.refl
  have hF : Fr M ρ 2 := hF0.up (by omega)
  refine lv_aload_n C.1 C.2.1 dX2_init_0 rfl (lv_at hl 0 rfl) ?_
  refine y_obj C mw_146 mw_139 mw_140 (hml.trans hl.1.symm) dX2_init_1 (Nat.le_of_ble_eq_true rfl) (by decide) (Nat.le_of_ble_eq_true rfl) ?_
  refine lv_aload_n C.1 C.2.1 dX2_init_4 rfl (lv_at hl 0 rfl) ?_
  refine y_new1 (k := 2) C hw hS hR hN rfl hF mw_147 mw_148 mw_119 (by decide) (by decide) dX2_init_5 (fun gv1 H hX1 hN hR C hw hS => ?_)
  have hFn := hF
  have hl : lv_has ls 1 [(0, .ref (gA gv1 1))] := by
    have z := hl
    rw [hX1.A (k := 1) (by omega)] at z
    exact z
  rw [hX1.A (k := 1) (by omega)]
  have hX := hX.trans hX1
  have hF := hF.up (b' := 3) (by omega)
  refine lv_dup C.1 C.2.1 dX2_init_8 rfl ?_
  refine y_call C hA hw hS hml hl.1 2 (k_X1 l gv1 M ρ 2 (by decide) hN hR hFn) mn_149 mw_150 mw_119 mw_151 rfl ⟨by decide, by decide, by decide +kernel⟩ ⟨Nat.le_of_ble_eq_true rfl, Nat.le_of_ble_eq_true rfl⟩ (Nat.le_of_ble_eq_true rfl) dX2_init_9 ⟨Nat.le_of_ble_eq_true rfl, Nat.le_of_ble_eq_true rfl⟩ (fun gv2 H locs hX2 hN2 hR C hw hS => ?_)
  have hl : lv_has ls 1 [(0, .ref (gA gv2 1))] := by
    have z := hl
    rw [hX2.A (k := 1) (by omega)] at z
    exact z
  rw [hX2.A (k := 2) (by omega), hX2.A (k := 1) (by omega)]
  have hX := hX.trans hX2
  have hN := hN2
  have hF := (rhoB_f (b := 2) (hF.up (b' := 2 + 2) (by omega)) 8 (by omega)).up (b' := 12) (by omega)
  refine y_pr2 C hw hS hR hm rfl 1 (by omega) rfl 0 (by decide) rfl mw_238 rfl 2 (by omega) (tyX2_ok 0 (by decide)) (fun _ => rfl) (fun _ => rfl) dX2_init_12 (fun gv3 H locs hX3 hN2 hR C hw hS => ?_)
  have hl : lv_has ls 1 [(0, .ref (gA gv3 1))] := by
    have z := hl
    rw [hX3.A (k := 1) (by omega)] at z
    exact z
  have hX := hX.trans hX3
  have hN := hN2.trans hN
  have hF := hF.sR (n := 1000 * 1 + 0) (q := 2) (by omega)
  refine lv_aload_n C.1 C.2.1 dX2_init_15 rfl (lv_at hl 0 rfl) ?_
  refine y_new6 (k := 12) C hw hS hR hN rfl hF mw_211 mw_212 mw_121 (by decide) (by decide) dX2_init_16 (fun gv4 H hX4 hN hR C hw hS => ?_)
  have hFn := hF
  have hl : lv_has ls 1 [(0, .ref (gA gv4 1))] := by
    have z := hl
    rw [hX4.A (k := 1) (by omega)] at z
    exact z
  rw [hX4.A (k := 1) (by omega)]
  have hX := hX.trans hX4
  have hF := hF.up (b' := 13) (by omega)
  refine lv_dup C.1 C.2.1 dX2_init_19 rfl ?_
  refine y_call C hA hw hS hml hl.1 12 (k_X6 l gv4 M (stR (rhoB 2 ρ 8) (1000 * 1 + 0) 2) hN hR hFn) mn_213 mw_214 mw_121 mw_215 rfl ⟨by decide, by decide, by decide +kernel⟩ ⟨Nat.le_of_ble_eq_true rfl, Nat.le_of_ble_eq_true rfl⟩ (Nat.le_of_ble_eq_true rfl) dX2_init_20 ⟨Nat.le_of_ble_eq_true rfl, Nat.le_of_ble_eq_true rfl⟩ (fun gv5 H locs hX5 hN2 hR C hw hS => ?_)
  have hl : lv_has ls 1 [(0, .ref (gA gv5 1))] := by
    have z := hl
    rw [hX5.A (k := 1) (by omega)] at z
    exact z
  rw [hX5.A (k := 12) (by omega), hX5.A (k := 1) (by omega)]
  have hX := hX.trans hX5
  have hN := hN2
  have hF := rhoT_f (hF.up (b' := 29) (by omega))
  refine y_pr2 C hw hS hR hm rfl 1 (by omega) rfl 1 (by decide) rfl mw_240 rfl 12 (by omega) (tyX2_ok 1 (by decide)) (fun _ => rfl) (fun _ => rfl) dX2_init_23 (fun gv6 H locs hX6 hN2 hR C hw hS => ?_)
  have hl : lv_has ls 1 [(0, .ref (gA gv6 1))] := by
    have z := hl
    rw [hX6.A (k := 1) (by omega)] at z
    exact z
  have hX := hX.trans hX6
  have hN := hN2.trans hN
  have hF := hF.sR (n := 1000 * 1 + 1) (q := 12) (by omega)
  refine lv_aload_n C.1 C.2.1 dX2_init_26 rfl (lv_at hl 0 rfl) ?_
  refine lv_bipush (v := II 7) C.1 C.2.1 dX2_init_27 (by decide) ?_
  refine lv_bipush (v := II 8) C.1 C.2.1 dX2_init_29 (by decide) ?_
  refine y_mna (k := 29) C hw hS hR hN rfl (N := 7) (K := 8) rfl (by decide) (by decide) (by decide) hF hA.2.2 mw_237 mw_236 (by decide) (by decide) dX2_init_31 (fun gv7 H hX7 hN hR C hw hS => ?_)
  have hl : lv_has ls 1 [(0, .ref (gA gv7 1))] := by
    have z := hl
    rw [hX7.A (k := 1) (by omega)] at z
    exact z
  rw [hX7.A (k := 1) (by omega)]
  have hX := hX.trans hX7
  have hN : gN gv7 = 37 := hN
  have hF := (hF.up (b' := 37) (by omega)).mR (k := 29) (N := 7) (by decide) (by decide)
  refine y_pr2 C hw hS hR hm rfl 1 (by omega) rfl 2 (by decide) rfl mw_242 rfl 29 (by omega) (tyX2_ok 2 (by decide)) (fun _ => rfl) (fun _ => rfl) dX2_init_35 (fun gv8 H locs hX8 hN2 hR C hw hS => ?_)
  have hl : lv_has ls 1 [(0, .ref (gA gv8 1))] := by
    have z := hl
    rw [hX8.A (k := 1) (by omega)] at z
    exact z
  have hX := hX.trans hX8
  have hN := hN2.trans hN
  have hF := hF.sR (n := 1000 * 1 + 2) (q := 29) (by omega)
  refine lv_aload_n C.1 C.2.1 dX2_init_38 rfl (lv_at hl 0 rfl) ?_
  refine lv_bipush (v := II 6) C.1 C.2.1 dX2_init_39 (by decide) ?_
  refine lv_bipush (v := II 8) C.1 C.2.1 dX2_init_41 (by decide) ?_
  refine y_mna (k := 37) C hw hS hR hN rfl (N := 6) (K := 8) rfl (by decide) (by decide) (by decide) hF hA.2.2 mw_237 mw_236 (by decide) (by decide) dX2_init_43 (fun gv9 H hX9 hN hR C hw hS => ?_)
  have hl : lv_has ls 1 [(0, .ref (gA gv9 1))] := by
    have z := hl
    rw [hX9.A (k := 1) (by omega)] at z
    exact z
  rw [hX9.A (k := 1) (by omega)]
  have hX := hX.trans hX9
  have hN : gN gv9 = 44 := hN
  have hF := (hF.up (b' := 44) (by omega)).mR (k := 37) (N := 6) (by decide) (by decide)
  refine y_pr2 C hw hS hR hm rfl 1 (by omega) rfl 3 (by decide) rfl mw_244 rfl 37 (by omega) (tyX2_ok 3 (by decide)) (fun _ => rfl) (fun _ => rfl) dX2_init_47 (fun gv10 H locs hX10 hN2 hR C hw hS => ?_)
  have hl : lv_has ls 1 [(0, .ref (gA gv10 1))] := by
    have z := hl
    rw [hX10.A (k := 1) (by omega)] at z
    exact z
  have hX := hX.trans hX10
  have hN := hN2.trans hN
  have hF := hF.sR (n := 1000 * 1 + 3) (q := 37) (by omega)
  refine lv_aload_n C.1 C.2.1 dX2_init_50 rfl (lv_at hl 0 rfl) ?_
  refine lv_bipush (v := II 6) C.1 C.2.1 dX2_init_51 (by decide) ?_
  refine y_newI (k := 44) C hw hS hR hN 9 rfl (L := 6) rfl (by decide) hF (at_ := .int) (by decide) mw_236 (by decide) (by decide) dX2_init_53 (fun gv11 H hX11 hN hR C hw hS => ?_)
  have hl : lv_has ls 1 [(0, .ref (gA gv11 1))] := by
    have z := hl
    rw [hX11.A (k := 1) (by omega)] at z
    exact z
  rw [hX11.A (k := 1) (by omega)]
  have hX := hX.trans hX11
  have hF := hF.up (b' := 45) (by omega)
  refine y_pr2 C hw hS hR hm rfl 1 (by omega) rfl 4 (by decide) rfl mw_246 rfl 44 (by omega) (tyX2_ok 4 (by decide)) (fun _ => rfl) (fun _ => rfl) dX2_init_55 (fun gv12 H locs hX12 hN2 hR C hw hS => ?_)
  have hl : lv_has ls 1 [(0, .ref (gA gv12 1))] := by
    have z := hl
    rw [hX12.A (k := 1) (by omega)] at z
    exact z
  have hX := hX.trans hX12
  have hN := hN2.trans hN
  have hF := hF.sR (n := 1000 * 1 + 4) (q := 44) (by omega)
  refine lv_aload_n C.1 C.2.1 dX2_init_58 rfl (lv_at hl 0 rfl) ?_
  refine lv_iconst (v := II 0) C.1 C.2.1 dX2_init_59 rfl ?_
  refine p2 C hw hS 1 (by omega) rfl 5 (by decide) mw_248 rfl (x := 0) ⟨by decide, by decide⟩ (svi st_s) (tyX2_ok 5 (by decide)) rfl rfl dX2_init_60 (fun H locs hw hS => ?_)
  rw [st_same (by first | exact (hF0 _ (by omega)).1 | (rw [st_n (by omega)]; exact (hF0 _ (by omega)).1) | (rw [st_n (by omega), st_n (by omega)]; exact (hF0 _ (by omega)).1))] at hw
  refine lv_aload_n C.1 C.2.1 dX2_init_63 rfl (lv_at hl 0 rfl) ?_
  refine lv_iconst (v := II 0) C.1 C.2.1 dX2_init_64 rfl ?_
  refine p2 C hw hS 1 (by omega) rfl 6 (by decide) mw_249 rfl (x := 0) ⟨by decide, by decide⟩ (svi st_s) (tyX2_ok 6 (by decide)) rfl rfl dX2_init_65 (fun H locs hw hS => ?_)
  rw [st_same (by first | exact (hF0 _ (by omega)).1 | (rw [st_n (by omega)]; exact (hF0 _ (by omega)).1) | (rw [st_n (by omega), st_n (by omega)]; exact (hF0 _ (by omega)).1))] at hw
  refine lv_aload_n C.1 C.2.1 dX2_init_68 rfl (lv_at hl 0 rfl) ?_
  refine lv_iconst (v := II 0) C.1 C.2.1 dX2_init_69 rfl ?_
  refine p2 C hw hS 1 (by omega) rfl 7 (by decide) mw_250 rfl (x := 0) ⟨by decide, by decide⟩ (svi st_s) (tyX2_ok 7 (by decide)) rfl rfl dX2_init_70 (fun H locs hw hS => ?_)
  rw [st_same (by first | exact (hF0 _ (by omega)).1 | (rw [st_n (by omega)]; exact (hF0 _ (by omega)).1) | (rw [st_n (by omega), st_n (by omega)]; exact (hF0 _ (by omega)).1))] at hw
  subst hQQ; exact y_end hX C hr hlk hw hS hR hN rfl rfl dX2_init_73
