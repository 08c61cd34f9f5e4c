theorem R0_none {n : Nat} (h : ∀ q ∈ rtab, ¬ (q.1 ≤ n ∧ n < q.1 + q.2.1)) : R0 n = none := by
  unfold R0
  rw [List.find?_eq_none.mpr (fun q hq => by simpa using h q hq)]
  rfl
theorem first_eq : txP (fun i => sb 0 i) 38 = .inr ([5, -1, -14], [0], [-1]) := by decide +kernel
def rhoT (ρ : Nat → Option Nat) : Nat → Option Nat := stR (stR (stR (mulR (stR (mulR ρ 13 6) (1000 * 12 + 0) 13) 20 6) (1000 * 12 + 1) 20) (1000 * 12 + 2) 27) (1000 * 12 + 3) 28
theorem rhoT_f {M : Nat → Int} {ρ : Nat → Option Nat} (h : Fr M ρ 29) : Fr M (rhoT ρ) 29 := ((((((h).mR (k := 13) (N := 6) (by decide) (by decide)).sR (n := 1000 * 12 + 0) (q := 13) (by decide)).mR (k := 20) (N := 6) (by decide) (by decide)).sR (n := 1000 * 12 + 1) (q := 20) (by decide)).sR (n := 1000 * 12 + 2) (q := 27) (by decide)).sR (n := 1000 * 12 + 3) (q := 28) (by decide)
theorem rhoT_n {ρ : Nat → Option Nat} {n : Nat} (h : ¬ (12000 ≤ n ∧ n < 29000)) : rhoT ρ n = ρ n := by
  unfold rhoT
  rw [stR_n (by omega), stR_n (by omega), stR_n (by omega), mulR_n (by omega), stR_n (by omega), mulR_n (by omega)]
theorem rhoT_c {ρ ρ' : Nat → Option Nat} {n : Nat} (h : ρ n = ρ' n) : rhoT ρ n = rhoT ρ' n := stR_c (stR_c (stR_c (mulR_c (stR_c (mulR_c (h))))))

set_option maxHeartbeats 4000000 in
set_option maxRecDepth 100000 in
theorem k_X6 (l : Launch) (g : Gm) (M : Nat → Int) (ρ : Nat → Option Nat) (hN : gN g = 13) (hR : Rr g ρ) (hF0 : Fr M ρ 12) : CC l ({ cls := "RatedBySighs$Texts", name := "<init>", desc := "()V" } : Jvm.MethodName) cX6_init 1 { frames := 1, cells := 16, slots := 1162, locals := 60 } g M [.ref (gA g 12)] (M) (rhoT ρ) (29) := by
  refine y_start (by decide) (Nat.le_of_ble_eq_true rfl) (fun p e s m below meth c ls C hA hm hr hlk hml hw hS hl => ?_)
  have hl : lv_has ls 1 [(0, .ref (gA g 12))] := hl
  generalize ([.ref (gA g 12)] : List Value).toArray = args at C ⊢
  generalize hQQ : MQ below (pstQ g (M) (rhoT ρ) (29)) args s 16 1162 (ar g) = QQ
  have hX : GX g g := GX.refl
  have hF : Fr M ρ 13 := hF0.up (by omega)
  refine lv_aload_n C.1 C.2.1 dX6_init_0 rfl (lv_at hl 0 rfl) ?_
  refine y_obj C mw_216 mw_139 mw_140 (hml.trans hl.1.symm) dX6_init_1 (Nat.le_of_ble_eq_true rfl) (by decide) (Nat.le_of_ble_eq_true rfl) ?_
  refine lv_aload_n C.1 C.2.1 dX6_init_4 rfl (lv_at hl 0 rfl) ?_
  refine lv_bipush (v := II 6) C.1 C.2.1 dX6_init_5 (by decide) ?_
  refine lv_sipush (v := II 160) C.1 C.2.1 dX6_init_7 (by decide) ?_
  refine y_mna (k := 13) C hw hS hR hN rfl (N := 6) (K := 160) rfl (by decide) (by decide) (by decide) hF hA.2.2 mw_217 mw_236 (by decide) (by decide) dX6_init_10 (fun gv1 H hX1 hN hR C hw hS => ?_)
  have hl : lv_has ls 1 [(0, .ref (gA gv1 12))] := by
    have z := hl
    rw [hX1.A (k := 12) (by omega)] at z
    exact z
  rw [hX1.A (k := 12) (by omega)]
  have hX := hX.trans hX1
  have hN : gN gv1 = 20 := hN
  have hF := (hF.up (b' := 20) (by omega)).mR (k := 13) (N := 6) (by decide) (by decide)
  refine y_pr6 C hw hS hR hm rfl 12 (by omega) rfl 0 (by decide) rfl mw_219 rfl 13 (by omega) (tyX6_ok 0 (by decide)) (fun _ => rfl) (fun _ => rfl) dX6_init_14 (fun gv2 H locs hX2 hN2 hR C hw hS => ?_)
  have hl : lv_has ls 1 [(0, .ref (gA gv2 12))] := by
    have z := hl
    rw [hX2.A (k := 12) (by omega)] at z
    exact z
  have hX := hX.trans hX2
  have hN := hN2.trans hN
  have hF := hF.sR (n := 1000 * 12 + 0) (q := 13) (by omega)
  refine lv_aload_n C.1 C.2.1 dX6_init_17 rfl (lv_at hl 0 rfl) ?_
  refine lv_bipush (v := II 6) C.1 C.2.1 dX6_init_18 (by decide) ?_
  refine lv_iconst (v := II 4) C.1 C.2.1 dX6_init_20 rfl ?_
  refine y_mna (k := 20) C hw hS hR hN rfl (N := 6) (K := 4) rfl (by decide) (by decide) (by decide) hF hA.2.2 mw_217 mw_236 (by decide) (by decide) dX6_init_21 (fun gv3 H hX3 hN hR C hw hS => ?_)
  have hl : lv_has ls 1 [(0, .ref (gA gv3 12))] := by
    have z := hl
    rw [hX3.A (k := 12) (by omega)] at z
    exact z
  rw [hX3.A (k := 12) (by omega)]
  have hX := hX.trans hX3
  have hN : gN gv3 = 27 := hN
  have hF := (hF.up (b' := 27) (by omega)).mR (k := 20) (N := 6) (by decide) (by decide)
  refine y_pr6 C hw hS hR hm rfl 12 (by omega) rfl 1 (by decide) rfl mw_220 rfl 20 (by omega) (tyX6_ok 1 (by decide)) (fun _ => rfl) (fun _ => rfl) dX6_init_25 (fun gv4 H locs hX4 hN2 hR C hw hS => ?_)
  have hl : lv_has ls 1 [(0, .ref (gA gv4 12))] := by
    have z := hl
    rw [hX4.A (k := 12) (by omega)] at z
    exact z
  have hX := hX.trans hX4
  have hN := hN2.trans hN
  have hF := hF.sR (n := 1000 * 12 + 1) (q := 20) (by omega)
  refine lv_aload_n C.1 C.2.1 dX6_init_28 rfl (lv_at hl 0 rfl) ?_
  refine lv_bipush (v := II 6) C.1 C.2.1 dX6_init_29 (by decide) ?_
  refine y_newI (k := 27) C hw hS hR hN 9 rfl (L := 6) rfl (by decide) hF (at_ := .int) (by decide) mw_236 (by decide) (by decide) dX6_init_31 (fun gv5 H hX5 hN hR C hw hS => ?_)
  have hl : lv_has ls 1 [(0, .ref (gA gv5 12))] := by
    have z := hl
    rw [hX5.A (k := 12) (by omega)] at z
    exact z
  rw [hX5.A (k := 12) (by omega)]
  have hX := hX.trans hX5
  have hF := hF.up (b' := 28) (by omega)
  refine y_pr6 C hw hS hR hm rfl 12 (by omega) rfl 2 (by decide) rfl mw_221 rfl 27 (by omega) (tyX6_ok 2 (by decide)) (fun _ => rfl) (fun _ => rfl) dX6_init_33 (fun gv6 H locs hX6 hN2 hR C hw hS => ?_)
  have hl : lv_has ls 1 [(0, .ref (gA gv6 12))] := by
    have z := hl
    rw [hX6.A (k := 12) (by omega)] at z
    exact z
  have hX := hX.trans hX6
  have hN := hN2.trans hN
  have hF := hF.sR (n := 1000 * 12 + 2) (q := 27) (by omega)
  refine lv_aload_n C.1 C.2.1 dX6_init_36 rfl (lv_at hl 0 rfl) ?_
  refine lv_sipush (v := II 160) C.1 C.2.1 dX6_init_37 (by decide) ?_
  refine y_newI (k := 28) C hw hS hR hN 9 rfl (L := 160) rfl (by decide) hF (at_ := .int) (by decide) mw_236 (by decide) (by decide) dX6_init_40 (fun gv7 H hX7 hN hR C hw hS => ?_)
  have hl : lv_has ls 1 [(0, .ref (gA gv7 12))] := by
    have z := hl
    rw [hX7.A (k := 12) (by omega)] at z
    exact z
  rw [hX7.A (k := 12) (by omega)]
  have hX := hX.trans hX7
  have hF := hF.up (b' := 29) (by omega)
  refine y_pr6 C hw hS hR hm rfl 12 (by omega) rfl 3 (by decide) rfl mw_222 rfl 28 (by omega) (tyX6_ok 3 (by decide)) (fun _ => rfl) (fun _ => rfl) dX6_init_42 (fun gv8 H locs hX8 hN2 hR C hw hS => ?_)
  have hl : lv_has ls 1 [(0, .ref (gA gv8 12))] := by
    have z := hl
    rw [hX8.A (k := 12) (by omega)] at z
    exact z
  have hX := hX.trans hX8
  have hN := hN2.trans hN
  have hF := hF.sR (n := 1000 * 12 + 3) (q := 28) (by omega)
  refine lv_aload_n C.1 C.2.1 dX6_init_45 rfl (lv_at hl 0 rfl) ?_
  refine lv_iconst (v := II 0) C.1 C.2.1 dX6_init_46 rfl ?_
  refine p6 C hw hS 12 (by omega) rfl 4 (by decide) mw_223 rfl (x := 0) ⟨by decide, by decide⟩ (svi st_s) (tyX6_ok 4 (by decide)) rfl rfl dX6_init_47 (fun H locs hw hS => ?_)
  rw [st_same (by first | exact (hF0 _ (by omega)).1 | (rw [st_n (by omega)]; exact (hF0 _ (by omega)).1) | (rw [st_n (by omega), st_n (by omega)]; exact (hF0 _ (by omega)).1))] at hw
  subst hQQ; exact y_end hX C hr hlk hw hS hR hN rfl rfl dX6_init_50
