set_option maxHeartbeats 4000000 in
set_option maxRecDepth 100000 in
theorem k_X3 (l : Launch) (g : Gm) (M : Nat → Int) (ρ : Nat → Option Nat) (b : Nat) (hkd : kd b = 3) (hN : gN g = b + 1) (hR : Rr g ρ) (hF0 : Fr M ρ b) : CC l ({ cls := "RatedBySighs$Person", name := "<init>", desc := "()V" } : Jvm.MethodName) cX3_init 1 { frames := 1, cells := 0, slots := 0, locals := 60 } g M [.ref (gA g b)] (M) (ρ) (b + 1) := by
  refine y_start (by decide) (Nat.le_of_ble_eq_true rfl) (fun p e s m below meth c ls C hA hm hr hlk hml hw hS hl => ?_)
  have hl : lv_has ls 1 [(0, .ref (gA g b))] := hl
  generalize ([.ref (gA g b)] : List Value).toArray = args at C ⊢
  generalize hQQ : MQ below (pstQ g (M) (ρ) (b + 1)) args s 0 0 (ar g) = QQ
  have hX : GX g g := GX.refl
  have hF : Fr M ρ (b + 1) := hF0.up (by omega)
  refine lv_aload_n C.1 C.2.1 dX3_init_0 rfl (lv_at hl 0 rfl) ?_
  refine y_obj C mw_159 mw_139 mw_140 (hml.trans hl.1.symm) dX3_init_1 (Nat.le_of_ble_eq_true rfl) (by decide) (Nat.le_of_ble_eq_true rfl) ?_
  refine lv_aload_n C.1 C.2.1 dX3_init_4 rfl (lv_at hl 0 rfl) ?_
  refine lv_iconst (v := II 0) C.1 C.2.1 dX3_init_5 rfl ?_
  refine p3 C hw hS b (by omega) hkd 0 (by decide) mw_160 rfl (x := 0) ⟨by decide, by decide⟩ (svi st_s) (tyX3_ok 0 (by decide)) rfl rfl dX3_init_6 (fun H locs hw hS => ?_)
  rw [st_same (by first | exact (hF0 _ (by omega)).1 | (rw [st_n (by omega)]; exact (hF0 _ (by omega)).1) | (rw [st_n (by omega), st_n (by omega)]; exact (hF0 _ (by omega)).1))] at hw
  refine lv_aload_n C.1 C.2.1 dX3_init_9 rfl (lv_at hl 0 rfl) ?_
  refine lv_iconst (v := II 0) C.1 C.2.1 dX3_init_10 rfl ?_
  refine p3 C hw hS b (by omega) hkd 1 (by decide) mw_164 rfl (x := 0) ⟨by decide, by decide⟩ (svi st_s) (tyX3_ok 1 (by decide)) rfl rfl dX3_init_11 (fun H locs hw hS => ?_)
  rw [st_same (by first | exact (hF0 _ (by omega)).1 | (rw [st_n (by omega)]; exact (hF0 _ (by omega)).1) | (rw [st_n (by omega), st_n (by omega)]; exact (hF0 _ (by omega)).1))] at hw
  refine lv_aload_n C.1 C.2.1 dX3_init_14 rfl (lv_at hl 0 rfl) ?_
  refine lv_iconst (v := II 0) C.1 C.2.1 dX3_init_15 rfl ?_
  refine p3 C hw hS b (by omega) hkd 2 (by decide) mw_167 rfl (x := 0) ⟨by decide, by decide⟩ (svi st_s) (tyX3_ok 2 (by decide)) rfl rfl dX3_init_16 (fun H locs hw hS => ?_)
  rw [st_same (by first | exact (hF0 _ (by omega)).1 | (rw [st_n (by omega)]; exact (hF0 _ (by omega)).1) | (rw [st_n (by omega), st_n (by omega)]; exact (hF0 _ (by omega)).1))] at hw
  refine lv_aload_n C.1 C.2.1 dX3_init_19 rfl (lv_at hl 0 rfl) ?_
  refine lv_iconst (v := II 0) C.1 C.2.1 dX3_init_20 rfl ?_
  refine p3 C hw hS b (by omega) hkd 3 (by decide) mw_170 rfl (x := 0) ⟨by decide, by decide⟩ (svi st_s) (tyX3_ok 3 (by decide)) rfl rfl dX3_init_21 (fun H locs hw hS => ?_)
  rw [st_same (by first | exact (hF0 _ (by omega)).1 | (rw [st_n (by omega)]; exact (hF0 _ (by omega)).1) | (rw [st_n (by omega), st_n (by omega)]; exact (hF0 _ (by omega)).1))] at hw
  refine lv_aload_n C.1 C.2.1 dX3_init_24 rfl (lv_at hl 0 rfl) ?_
  refine lv_iconst (v := II 0) C.1 C.2.1 dX3_init_25 rfl ?_
  refine p3 C hw hS b (by omega) hkd 4 (by decide) mw_173 rfl (x := 0) ⟨by decide, by decide⟩ (svi st_s) (tyX3_ok 4 (by decide)) rfl rfl dX3_init_26 (fun H locs hw hS => ?_)
  rw [st_same (by first | exact (hF0 _ (by omega)).1 | (rw [st_n (by omega)]; exact (hF0 _ (by omega)).1) | (rw [st_n (by omega), st_n (by omega)]; exact (hF0 _ (by omega)).1))] at hw
  subst hQQ; exact y_end hX C hr hlk hw hS hR hN rfl rfl dX3_init_29

set_option maxHeartbeats 4000000 in
set_option maxRecDepth 100000 in
theorem k_X0 (l : Launch) (g : Gm) (M : Nat → Int) (ρ : Nat → Option Nat) (hN : gN g = 60) (hR : Rr g ρ) (hF0 : Fr M ρ 59) : CC l ({ cls := "RatedBySighs$Best", name := "<init>", desc := "()V" } : Jvm.MethodName) cX0_init 1 { frames := 1, cells := 0, slots := 0, locals := 60 } g M [.ref (gA g 59)] (stM M (1000 * 59 + 0) (-1)) (ρ) (60) := by
  refine y_start (by decide) (Nat.le_of_ble_eq_true rfl) (fun p e s m below meth c ls C hA hm hr hlk hml hw hS hl => ?_)
  have hl : lv_has ls 1 [(0, .ref (gA g 59))] := hl
  generalize ([.ref (gA g 59)] : List Value).toArray = args at C ⊢
  generalize hQQ : MQ below (pstQ g (stM M (1000 * 59 + 0) (-1)) (ρ) (60)) args s 0 0 (ar g) = QQ
  have hX : GX g g := GX.refl
  have hF : Fr M ρ 60 := hF0.up (by omega)
  refine lv_aload_n C.1 C.2.1 dX0_init_0 rfl (lv_at hl 0 rfl) ?_
  refine y_obj C mw_313 mw_139 mw_140 (hml.trans hl.1.symm) dX0_init_1 (Nat.le_of_ble_eq_true rfl) (by decide) (Nat.le_of_ble_eq_true rfl) ?_
  refine lv_aload_n C.1 C.2.1 dX0_init_4 rfl (lv_at hl 0 rfl) ?_
  refine lv_iconst (v := II (-1)) C.1 C.2.1 dX0_init_5 rfl ?_
  refine p0 C hw hS 59 (by omega) rfl 0 (by decide) mw_314 rfl (x := (-1)) ⟨by decide, by decide⟩ (svi st_s) (tyX0_ok 0 (by decide)) rfl rfl dX0_init_6 (fun H locs hw hS => ?_)
  have hF := hF.st (n := 1000 * 59 + 0) (x := (-1)) (by omega)
  refine lv_aload_n C.1 C.2.1 dX0_init_9 rfl (lv_at hl 0 rfl) ?_
  refine lv_iconst (v := II 0) C.1 C.2.1 dX0_init_10 rfl ?_
  refine p0 C hw hS 59 (by omega) rfl 1 (by decide) mw_315 rfl (x := 0) ⟨by decide, by decide⟩ (svi st_s) (tyX0_ok 1 (by decide)) rfl rfl dX0_init_11 (fun H locs hw hS => ?_)
  rw [st_same (by first | exact (hF0 _ (by omega)).1 | (rw [st_n (by omega)]; exact (hF0 _ (by omega)).1) | (rw [st_n (by omega), st_n (by omega)]; exact (hF0 _ (by omega)).1))] at hw
  subst hQQ; exact y_end hX C hr hlk hw hS hR hN rfl rfl dX0_init_14

set_option maxHeartbeats 4000000 in
set_option maxRecDepth 100000 in
theorem k_X5 (l : Launch) (g : Gm) (M : Nat → Int) (ρ : Nat → Option Nat) (b : Nat) (hkd : kd b = 5) (hkd1 : kd (b + 1) = 9) (hln : ln (b + 1) = 40) (hN : gN g = b + 1) (hR : Rr g ρ) (hF0 : Fr M ρ b) : CC l ({ cls := "RatedBySighs$Sheet", name := "<init>", desc := "()V" } : Jvm.MethodName) cX5_init 1 { frames := 1, cells := 1, slots := 40, locals := 60 } g M [.ref (gA g b)] (stM M (1000 * b + 1) (-1)) (stR ρ (1000 * b + 0) (b + 1)) (b + 2) := by
  refine y_start (by decide) (Nat.le_of_ble_eq_true rfl) (fun p e s m below meth c ls C hA hm hr hlk hml hw hS hl => ?_)
  have hl : lv_has ls 1 [(0, .ref (gA g b))] := hl
  generalize ([.ref (gA g b)] : List Value).toArray = args at C ⊢
  generalize hQQ : MQ below (pstQ g (stM M (1000 * b + 1) (-1)) (stR ρ (1000 * b + 0) (b + 1)) (b + 2)) args s 1 40 (ar g) = QQ
  have hX : GX g g := GX.refl
  have hF : Fr M ρ (b + 1) := hF0.up (by omega)
  refine lv_aload_n C.1 C.2.1 dX5_init_0 rfl (lv_at hl 0 rfl) ?_
  refine y_obj C mw_327 mw_139 mw_140 (hml.trans hl.1.symm) dX5_init_1 (Nat.le_of_ble_eq_true rfl) (by decide) (Nat.le_of_ble_eq_true rfl) ?_
  refine lv_aload_n C.1 C.2.1 dX5_init_4 rfl (lv_at hl 0 rfl) ?_
  refine lv_bipush (v := II 40) C.1 C.2.1 dX5_init_5 (by decide) ?_
  refine y_newI (k := b + 1) C hw hS hR hN 9 hkd1 (L := 40) hln (by decide) hF (at_ := .int) (by decide) mw_236 (by decide) (by decide) dX5_init_7 (fun gv1 H hX1 hN hR C hw hS => ?_)
  have hl : lv_has ls 1 [(0, .ref (gA gv1 b))] := by
    have z := hl
    rw [hX1.A (k := b) (by omega)] at z
    exact z
  rw [hX1.A (k := b) (by omega)]
  have hX := hX.trans hX1
  have hF := hF.up (b' := b + 2) (by omega)
  refine y_pr5 C hw hS hR hm rfl b (by omega) hkd 0 (by decide) rfl mw_328 rfl (b + 1) (by omega) (tyX5_ok 0 (by decide)) (fun _ => rfl) (fun _ => rfl) dX5_init_9 (fun gv2 H locs hX2 hN2 hR C hw hS => ?_)
  have hl : lv_has ls 1 [(0, .ref (gA gv2 b))] := by
    have z := hl
    rw [hX2.A (k := b) (by omega)] at z
    exact z
  have hX := hX.trans hX2
  have hN := hN2.trans hN
  have hF := hF.sR (n := 1000 * b + 0) (q := (b + 1)) (by omega)
  refine lv_aload_n C.1 C.2.1 dX5_init_12 rfl (lv_at hl 0 rfl) ?_
  refine lv_iconst (v := II (-1)) C.1 C.2.1 dX5_init_13 rfl ?_
  refine p5 C hw hS b (by omega) hkd 1 (by decide) mw_330 rfl (x := (-1)) ⟨by decide, by decide⟩ (svi st_s) (tyX5_ok 1 (by decide)) rfl rfl dX5_init_14 (fun H locs hw hS => ?_)
  have hF := hF.st (n := 1000 * b + 1) (x := (-1)) (by omega)
  refine lv_aload_n C.1 C.2.1 dX5_init_17 rfl (lv_at hl 0 rfl) ?_
  refine lv_iconst (v := II 0) C.1 C.2.1 dX5_init_18 rfl ?_
  refine p5 C hw hS b (by omega) hkd 2 (by decide) mw_332 rfl (x := 0) ⟨by decide, by decide⟩ (svi st_s) (tyX5_ok 2 (by decide)) rfl rfl dX5_init_19 (fun H locs hw hS => ?_)
  rw [st_same (by first | exact (hF0 _ (by omega)).1 | (rw [st_n (by omega)]; exact (hF0 _ (by omega)).1) | (rw [st_n (by omega), st_n (by omega)]; exact (hF0 _ (by omega)).1))] at hw
  subst hQQ; exact y_end hX C hr hlk hw hS hR hN rfl rfl dX5_init_22

set_option maxHeartbeats 4000000 in
set_option maxRecDepth 100000 in
theorem k_X4 (l : Launch) (g : Gm) (M : Nat → Int) (ρ : Nat → Option Nat) (hN : gN g = 46) (hR : Rr g ρ) (hF0 : Fr M ρ 45) : CC l ({ cls := "RatedBySighs$Reader", name := "<init>", desc := "()V" } : Jvm.MethodName) cX4_init 1 { frames := 1, cells := 3, slots := 324, locals := 60 } g M [.ref (gA g 45)] (stM M (1000 * 45 + 3) 7) (stR (stR (stR ρ (1000 * 45 + 0) 46) (1000 * 45 + 6) 47) (1000 * 45 + 7) 48) (49) := by
  refine y_start (by decide) (Nat.le_of_ble_eq_true rfl) (fun p e s m below meth c ls C hA hm hr hlk hml hw hS hl => ?_)
  have hl : lv_has ls 1 [(0, .ref (gA g 45))] := hl
  generalize ([.ref (gA g 45)] : List Value).toArray = args at C ⊢
  generalize hQQ : MQ below (pstQ g (stM M (1000 * 45 + 3) 7) (stR (stR (stR ρ (1000 * 45 + 0) 46) (1000 * 45 + 6) 47) (1000 * 45 + 7) 48) (49)) args s 3 324 (ar g) = QQ
  have hX : GX g g := GX.refl
  have hF : Fr M ρ 46 := hF0.up (by omega)
  refine lv_aload_n C.1 C.2.1 dX4_init_0 rfl (lv_at hl 0 rfl) ?_
  refine y_obj C mw_273 mw_139 mw_140 (hml.trans hl.1.symm) dX4_init_1 (Nat.le_of_ble_eq_true rfl) (by decide) (Nat.le_of_ble_eq_true rfl) ?_
  refine lv_aload_n C.1 C.2.1 dX4_init_4 rfl (lv_at hl 0 rfl) ?_
  refine lv_sipush (v := II 160) C.1 C.2.1 dX4_init_5 (by decide) ?_
  refine y_newI (k := 46) C hw hS hR hN 9 rfl (L := 160) rfl (by decide) hF (at_ := .int) (by decide) mw_236 (by decide) (by decide) dX4_init_8 (fun gv1 H hX1 hN hR C hw hS => ?_)
  have hl : lv_has ls 1 [(0, .ref (gA gv1 45))] := by
    have z := hl
    rw [hX1.A (k := 45) (by omega)] at z
    exact z
  rw [hX1.A (k := 45) (by omega)]
  have hX := hX.trans hX1
  have hF := hF.up (b' := 47) (by omega)
  refine y_pr4 C hw hS hR hm rfl 45 (by omega) rfl 0 (by decide) rfl mw_274 rfl 46 (by omega) (tyX4_ok 0 (by decide)) (fun _ => rfl) (fun _ => rfl) dX4_init_10 (fun gv2 H locs hX2 hN2 hR C hw hS => ?_)
  have hl : lv_has ls 1 [(0, .ref (gA gv2 45))] := by
    have z := hl
    rw [hX2.A (k := 45) (by omega)] at z
    exact z
  have hX := hX.trans hX2
  have hN := hN2.trans hN
  have hF := hF.sR (n := 1000 * 45 + 0) (q := 46) (by omega)
  refine lv_aload_n C.1 C.2.1 dX4_init_13 rfl (lv_at hl 0 rfl) ?_
  refine lv_iconst (v := II 0) C.1 C.2.1 dX4_init_14 rfl ?_
  refine p4 C hw hS 45 (by omega) rfl 1 (by decide) mw_275 rfl (x := 0) ⟨by decide, by decide⟩ (svi st_s) (tyX4_ok 1 (by decide)) rfl rfl dX4_init_15 (fun H locs hw hS => ?_)
  rw [st_same (by first | exact (hF0 _ (by omega)).1 | (rw [st_n (by omega)]; exact (hF0 _ (by omega)).1) | (rw [st_n (by omega), st_n (by omega)]; exact (hF0 _ (by omega)).1))] at hw
  refine lv_aload_n C.1 C.2.1 dX4_init_18 rfl (lv_at hl 0 rfl) ?_
  refine lv_iconst (v := II 0) C.1 C.2.1 dX4_init_19 rfl ?_
  refine p4 C hw hS 45 (by omega) rfl 2 (by decide) mw_277 rfl (x := 0) ⟨by decide, by decide⟩ (svi st_s) (tyX4_ok 2 (by decide)) rfl rfl dX4_init_20 (fun H locs hw hS => ?_)
  rw [st_same (by first | exact (hF0 _ (by omega)).1 | (rw [st_n (by omega)]; exact (hF0 _ (by omega)).1) | (rw [st_n (by omega), st_n (by omega)]; exact (hF0 _ (by omega)).1))] at hw
  refine lv_aload_n C.1 C.2.1 dX4_init_23 rfl (lv_at hl 0 rfl) ?_
  refine lv_bipush (v := II 7) C.1 C.2.1 dX4_init_24 (by decide) ?_
  refine p4 C hw hS 45 (by omega) rfl 3 (by decide) mw_278 rfl (x := 7) ⟨by decide, by decide⟩ (svi st_s) (tyX4_ok 3 (by decide)) rfl rfl dX4_init_26 (fun H locs hw hS => ?_)
  have hF := hF.st (n := 1000 * 45 + 3) (x := 7) (by omega)
  refine lv_aload_n C.1 C.2.1 dX4_init_29 rfl (lv_at hl 0 rfl) ?_
  refine lv_iconst (v := II 0) C.1 C.2.1 dX4_init_30 rfl ?_
  refine p4 C hw hS 45 (by omega) rfl 4 (by decide) mw_279 rfl (x := 0) ⟨by decide, by decide⟩ (svi st_s) (tyX4_ok 4 (by decide)) rfl rfl dX4_init_31 (fun H locs hw hS => ?_)
  rw [st_same (by first | exact (hF0 _ (by omega)).1 | (rw [st_n (by omega)]; exact (hF0 _ (by omega)).1) | (rw [st_n (by omega), st_n (by omega)]; exact (hF0 _ (by omega)).1))] at hw
  refine lv_aload_n C.1 C.2.1 dX4_init_34 rfl (lv_at hl 0 rfl) ?_
  refine lv_iconst (v := II 0) C.1 C.2.1 dX4_init_35 rfl ?_
  refine p4 C hw hS 45 (by omega) rfl 5 (by decide) mw_281 rfl (x := 0) ⟨by decide, by decide⟩ (svi st_s) (tyX4_ok 5 (by decide)) rfl rfl dX4_init_36 (fun H locs hw hS => ?_)
  rw [st_same (by first | exact (hF0 _ (by omega)).1 | (rw [st_n (by omega)]; exact (hF0 _ (by omega)).1) | (rw [st_n (by omega), st_n (by omega)]; exact (hF0 _ (by omega)).1))] at hw
  refine lv_aload_n C.1 C.2.1 dX4_init_39 rfl (lv_at hl 0 rfl) ?_
  refine lv_sipush (v := II 160) C.1 C.2.1 dX4_init_40 (by decide) ?_
  refine y_newI (k := 47) C hw hS hR hN 9 rfl (L := 160) rfl (by decide) hF (at_ := .int) (by decide) mw_236 (by decide) (by decide) dX4_init_43 (fun gv3 H hX3 hN hR C hw hS => ?_)
  have hl : lv_has ls 1 [(0, .ref (gA gv3 45))] := by
    have z := hl
    rw [hX3.A (k := 45) (by omega)] at z
    exact z
  rw [hX3.A (k := 45) (by omega)]
  have hX := hX.trans hX3
  have hF := hF.up (b' := 48) (by omega)
  refine y_pr4 C hw hS hR hm rfl 45 (by omega) rfl 6 (by decide) rfl mw_282 rfl 47 (by omega) (tyX4_ok 6 (by decide)) (fun _ => rfl) (fun _ => rfl) dX4_init_45 (fun gv4 H locs hX4 hN2 hR C hw hS => ?_)
  have hl : lv_has ls 1 [(0, .ref (gA gv4 45))] := by
    have z := hl
    rw [hX4.A (k := 45) (by omega)] at z
    exact z
  have hX := hX.trans hX4
  have hN := hN2.trans hN
  have hF := hF.sR (n := 1000 * 45 + 6) (q := 47) (by omega)
  refine lv_aload_n C.1 C.2.1 dX4_init_48 rfl (lv_at hl 0 rfl) ?_
  refine lv_iconst (v := II 4) C.1 C.2.1 dX4_init_49 rfl ?_
  refine y_newI (k := 48) C hw hS hR hN 9 rfl (L := 4) rfl (by decide) hF (at_ := .int) (by decide) mw_236 (by decide) (by decide) dX4_init_50 (fun gv5 H hX5 hN hR C hw hS => ?_)
  have hl : lv_has ls 1 [(0, .ref (gA gv5 45))] := by
    have z := hl
    rw [hX5.A (k := 45) (by omega)] at z
    exact z
  rw [hX5.A (k := 45) (by omega)]
  have hX := hX.trans hX5
  have hF := hF.up (b' := 49) (by omega)
  refine y_pr4 C hw hS hR hm rfl 45 (by omega) rfl 7 (by decide) rfl mw_284 rfl 48 (by omega) (tyX4_ok 7 (by decide)) (fun _ => rfl) (fun _ => rfl) dX4_init_52 (fun gv6 H locs hX6 hN2 hR C hw hS => ?_)
  have hl : lv_has ls 1 [(0, .ref (gA gv6 45))] := by
    have z := hl
    rw [hX6.A (k := 45) (by omega)] at z
    exact z
  have hX := hX.trans hX6
  have hN := hN2.trans hN
  have hF := hF.sR (n := 1000 * 45 + 7) (q := 48) (by omega)
  refine lv_aload_n C.1 C.2.1 dX4_init_55 rfl (lv_at hl 0 rfl) ?_
  refine lv_iconst (v := II 0) C.1 C.2.1 dX4_init_56 rfl ?_
  refine p4 C hw hS 45 (by omega) rfl 8 (by decide) mw_286 rfl (x := 0) ⟨by decide, by decide⟩ (svi st_s) (tyX4_ok 8 (by decide)) rfl rfl dX4_init_57 (fun H locs hw hS => ?_)
  rw [st_same (by first | exact (hF0 _ (by omega)).1 | (rw [st_n (by omega)]; exact (hF0 _ (by omega)).1) | (rw [st_n (by omega), st_n (by omega)]; exact (hF0 _ (by omega)).1))] at hw
  subst hQQ; exact y_end hX C hr hlk hw hS hR hN rfl rfl dX4_init_60
