set_option maxHeartbeats 4000000 in
set_option maxRecDepth 100000 in
theorem c_X4_prefixed7_4 (l : Launch) (g : Gm) (M : Nat → Int) (hT : LvR g) (b : Nat → Int) (n : Nat) (i : Nat) (c0 : List Int) (hs : RS M b n i c0) (htk : tK b n i = -14) : CI l ({ cls := "RatedBySighs$Reader", name := "prefixed", desc := "(II)Z" } : Jvm.MethodName) cX4_prefixed 4 .boolean (rmm 8 168) g M [.ref (gA g 45), .int (II (-7)), .int (II 4)] (fun r M' => (RX M M') ∧ ((r = 1 ∧ (∃ c2 j2, q1 b n 1 i = .inr (c2, j2) ∧ RS M' b n j2 (c0 ++ c2))) ∨ (r = 0 ∧ (∃ q, q1 b n 1 i = .inl q ∧ RF M' q)))) := by
  refine c_start (by decide) (Nat.le_of_ble_eq_true rfl) (fun p e s m below meth c ls C hr hlk hml hw hS hl => ?_)
  have hl : lv_has ls 4 [(0, .ref (gA g 45)), (1, .int (II (-7))), (2, .int (II 4))] := hl
  have g_M := hw.rg
  have hN : 49 ≤ gN g := hT.1
  refine lv_iload_n C.1 C.2.1 dX4_prefixed_0 rfl (lv_at hl 2 rfl) ?_
  refine lv_iconst (v := II 5) C.1 C.2.1 dX4_prefixed_1 rfl ?_
  refine x_icmp_lt (tgt := 7) C ⟨by decide, by decide⟩ ⟨by decide, by decide⟩ dX4_prefixed_2 (by decide) (fun _ => ?_) (fun h => absurd h (by decide))
  refine lv_aload_n C.1 C.2.1 dX4_prefixed_7 rfl (lv_at hl 0 rfl) ?_
  refine x_cv (x_runV (n := 0) C hw hS hml hl.1 45 4 (by omega) rfl (by decide) rfl (c_X4_next l g M hT b n hs.1.1 (tE b n i) (tE_in hs.1.2).2.1 hs.2.1.1) mw_398 mw_400 mw_2 mw_122 mw_401 rfl rfl (by decide +kernel) ⟨Nat.le_of_ble_eq_true rfl, Nat.le_of_ble_eq_true rfl⟩ rfl rfl (Nat.le_of_ble_eq_true rfl) dX4_prefixed_8 ⟨Nat.zero_le _, Nat.zero_le _⟩) hS (fun M8 H locs hp hw hS => ?_)
  have h8p := hp
  have g_M8 := hw.rg
  have hs1 := hs.next h8p
  have ht7 := tK_7 (b := b) hs.1.2 (show tK b n i ≠ 7 by omega)
  refine lv_iload_n C.1 C.2.1 dX4_prefixed_11 rfl (lv_at hl 1 rfl) ?_
  refine lv_bipush (v := II (-8)) C.1 C.2.1 dX4_prefixed_12 (by decide) ?_
  refine x_icmp_ne (tgt := 27) C ⟨by decide, by decide⟩ ⟨by decide, by decide⟩ dX4_prefixed_14 (by decide) (fun _ => ?_) (fun h => absurd h (by decide))
  refine lv_aload_n C.1 C.2.1 dX4_prefixed_27 rfl (lv_at hl 0 rfl) ?_
  refine lv_iload_n C.1 C.2.1 dX4_prefixed_28 rfl (lv_at hl 2 rfl) ?_
  refine lv_iconst (v := II 1) C.1 C.2.1 dX4_prefixed_29 rfl ?_
  refine x_iadd C dX4_prefixed_30 ?_
  rw [show (4 + 1 : Int) = 5 from by decide]
  refine x_ci (x_runV (n := 1) C hw hS hml hl.1 45 4 (by omega) rfl (by decide) rfl (c_X4_single5 l g M8 hT b n (tE b n i) c0 hs1) mw_457 mw_459 mw_11 mw_122 mw_460 rfl rfl (by decide +kernel) ⟨Nat.le_of_ble_eq_true rfl, Nat.le_of_ble_eq_true rfl⟩ rfl rfl (Nat.le_of_ble_eq_true rfl) dX4_prefixed_31 ⟨Nat.zero_le _, Nat.zero_le _⟩) hS (fun r31 M31 H locs hr31 hp hw hS => ?_)
  rcases hp with ⟨h31f, (⟨er31, h31b⟩ | ⟨er31, h31b⟩)⟩
  · have g_M31 := hw.rg
    rw [er31]
    obtain ⟨c2, j2, eq2, hs2⟩ := h31b
    have hz2 := hs2.len
    refine lv_istore_n (lv' := [(3, .int (II 1)), (0, .ref (gA g 45)), (1, .int (II (-7))), (2, .int (II 4))]) C.1 C.2.1 dX4_prefixed_34 rfl hl (by decide) rfl (fun ls hl => ?_)
    refine lv_aload_n C.1 C.2.1 dX4_prefixed_35 rfl (lv_at hl 1 rfl) ?_
    refine lv_iload_n C.1 C.2.1 dX4_prefixed_36 rfl (lv_at hl 2 rfl) ?_
    refine x_cv (x_runV (n := 1) C hw hS hml hl.1 45 4 (by omega) rfl (by decide) rfl (c_X4_put l g M31 hT ((c0 ++ c2).length) (by omega) hs2.2.2.1 (-7) ⟨by decide, by decide⟩) mw_461 mw_463 mw_12 mw_122 mw_464 rfl rfl (by decide +kernel) ⟨Nat.le_of_ble_eq_true rfl, Nat.le_of_ble_eq_true rfl⟩ rfl rfl (Nat.le_of_ble_eq_true rfl) dX4_prefixed_37 ⟨Nat.zero_le _, Nat.zero_le _⟩) hS (fun M37 H locs hp hw hS => ?_)
    have em37 := hp
    have hw : Wo g (putM M31 ((c0 ++ c2).length) (-7)) H := em37 ▸ hw
    refine lv_iload_n C.1 C.2.1 dX4_prefixed_40 rfl (lv_at hl 0 rfl) ?_
    exact x_ireturn C hr hlk hw hS ⟨by decide, by decide⟩ (by decide) ⟨(h8p.rx.tr h31f).tr putM_rx, Or.inl ⟨rfl, c2 ++ [-7], j2, by rw [q1_s]; exact p1_neg htk eq2, by rw [← List.append_assoc]; exact hs2.put (by have hk := (ok_q1 b n 0).r ht7.2 eq2; have hz := hs.len; rw [List.length_append]; omega)⟩⟩ dX4_prefixed_41
  · have g_M31 := hw.rg
    rw [er31]
    obtain ⟨q2, eq2, hf2⟩ := h31b
    obtain ⟨L2, hL2, hl2⟩ := hf2.2
    refine lv_istore_n (lv' := [(3, .int (II 0)), (0, .ref (gA g 45)), (1, .int (II (-7))), (2, .int (II 4))]) C.1 C.2.1 dX4_prefixed_34 rfl hl (by decide) rfl (fun ls hl => ?_)
    refine lv_aload_n C.1 C.2.1 dX4_prefixed_35 rfl (lv_at hl 1 rfl) ?_
    refine lv_iload_n C.1 C.2.1 dX4_prefixed_36 rfl (lv_at hl 2 rfl) ?_
    refine x_cv (x_runV (n := 1) C hw hS hml hl.1 45 4 (by omega) rfl (by decide) rfl (c_X4_put l g M31 hT L2 hL2 hl2 (-7) ⟨by decide, by decide⟩) mw_461 mw_463 mw_12 mw_122 mw_464 rfl rfl (by decide +kernel) ⟨Nat.le_of_ble_eq_true rfl, Nat.le_of_ble_eq_true rfl⟩ rfl rfl (Nat.le_of_ble_eq_true rfl) dX4_prefixed_37 ⟨Nat.zero_le _, Nat.zero_le _⟩) hS (fun M37 H locs hp hw hS => ?_)
    have em37 := hp
    have hw : Wo g (putM M31 L2 (-7)) H := em37 ▸ hw
    refine lv_iload_n C.1 C.2.1 dX4_prefixed_40 rfl (lv_at hl 0 rfl) ?_
    exact x_ireturn C hr hlk hw hS ⟨by decide, by decide⟩ (by decide) ⟨(h8p.rx.tr h31f).tr putM_rx, Or.inr ⟨rfl, q2, by rw [q1_s]; exact p1_negn htk eq2, hf2.put hL2 hl2⟩⟩ dX4_prefixed_41

set_option maxHeartbeats 4000000 in
set_option maxRecDepth 100000 in
theorem c_X4_prefixed8_4 (l : Launch) (g : Gm) (M : Nat → Int) (hT : LvR g) (b : Nat → Int) (n : Nat) (i : Nat) (c0 : List Int) (hs : RS M b n i c0) (htk : tK b n i = -8) : CI l ({ cls := "RatedBySighs$Reader", name := "prefixed", desc := "(II)Z" } : Jvm.MethodName) cX4_prefixed 4 .boolean (rmm 11 238) g M [.ref (gA g 45), .int (II (-8)), .int (II 4)] (fun r M' => (RX M M') ∧ ((r = 1 ∧ (∃ c2 j2, qN b n 1 i = .inr (c2, j2) ∧ RS M' b n j2 (c0 ++ c2))) ∨ (r = 0 ∧ (∃ q, qN b n 1 i = .inl q ∧ RF M' q)))) := by
  refine c_start (by decide) (Nat.le_of_ble_eq_true rfl) (fun p e s m below meth c ls C hr hlk hml hw hS hl => ?_)
  have hl : lv_has ls 4 [(0, .ref (gA g 45)), (1, .int (II (-8))), (2, .int (II 4))] := hl
  have g_M := hw.rg
  have hN : 49 ≤ gN g := hT.1
  refine lv_iload_n C.1 C.2.1 dX4_prefixed_0 rfl (lv_at hl 2 rfl) ?_
  refine lv_iconst (v := II 5) C.1 C.2.1 dX4_prefixed_1 rfl ?_
  refine x_icmp_lt (tgt := 7) C ⟨by decide, by decide⟩ ⟨by decide, by decide⟩ dX4_prefixed_2 (by decide) (fun _ => ?_) (fun h => absurd h (by decide))
  refine lv_aload_n C.1 C.2.1 dX4_prefixed_7 rfl (lv_at hl 0 rfl) ?_
  refine x_cv (x_runV (n := 0) C hw hS hml hl.1 45 4 (by omega) rfl (by decide) rfl (c_X4_next l g M hT b n hs.1.1 (tE b n i) (tE_in hs.1.2).2.1 hs.2.1.1) mw_398 mw_400 mw_2 mw_122 mw_401 rfl rfl (by decide +kernel) ⟨Nat.le_of_ble_eq_true rfl, Nat.le_of_ble_eq_true rfl⟩ rfl rfl (Nat.le_of_ble_eq_true rfl) dX4_prefixed_8 ⟨Nat.zero_le _, Nat.zero_le _⟩) hS (fun M8 H locs hp hw hS => ?_)
  have h8p := hp
  have g_M8 := hw.rg
  have hs1 := hs.next h8p
  have ht7 := tK_7 (b := b) hs.1.2 (show tK b n i ≠ 7 by omega)
  refine lv_iload_n C.1 C.2.1 dX4_prefixed_11 rfl (lv_at hl 1 rfl) ?_
  refine lv_bipush (v := II (-8)) C.1 C.2.1 dX4_prefixed_12 (by decide) ?_
  refine x_icmp_ne (tgt := 27) C ⟨by decide, by decide⟩ ⟨by decide, by decide⟩ dX4_prefixed_14 (by decide) (fun h => absurd h (by decide)) (fun _ => ?_)
  refine lv_aload_n C.1 C.2.1 dX4_prefixed_17 rfl (lv_at hl 0 rfl) ?_
  refine lv_iload_n C.1 C.2.1 dX4_prefixed_18 rfl (lv_at hl 2 rfl) ?_
  refine lv_iconst (v := II 1) C.1 C.2.1 dX4_prefixed_19 rfl ?_
  refine x_iadd C dX4_prefixed_20 ?_
  rw [show (4 + 1 : Int) = 5 from by decide]
  refine x_ci (x_runV (n := 1) C hw hS hml hl.1 45 4 (by omega) rfl (by decide) rfl (c_X4_denied5 l g M8 hT b n (tE b n i) c0 hs1) mw_449 mw_451 mw_9 mw_122 mw_452 rfl rfl (by decide +kernel) ⟨Nat.le_of_ble_eq_true rfl, Nat.le_of_ble_eq_true rfl⟩ rfl rfl (Nat.le_of_ble_eq_true rfl) dX4_prefixed_21 ⟨Nat.zero_le _, Nat.zero_le _⟩) hS (fun r21 M21 H locs hr21 hp hw hS => ?_)
  rcases hp with ⟨h21f, (⟨er21, h21b⟩ | ⟨er21, h21b⟩)⟩
  · have g_M21 := hw.rg
    rw [er21]
    obtain ⟨c2, j2, eq2, hs2⟩ := h21b
    have hz2 := hs2.len
    refine lv_goto (tgt := 34) C.1 C.2.1 dX4_prefixed_24 (by decide) ?_
    refine lv_istore_n (lv' := [(3, .int (II 1)), (0, .ref (gA g 45)), (1, .int (II (-8))), (2, .int (II 4))]) C.1 C.2.1 dX4_prefixed_34 rfl hl (by decide) rfl (fun ls hl => ?_)
    refine lv_aload_n C.1 C.2.1 dX4_prefixed_35 rfl (lv_at hl 1 rfl) ?_
    refine lv_iload_n C.1 C.2.1 dX4_prefixed_36 rfl (lv_at hl 2 rfl) ?_
    refine x_cv (x_runV (n := 1) C hw hS hml hl.1 45 4 (by omega) rfl (by decide) rfl (c_X4_put l g M21 hT ((c0 ++ c2).length) (by omega) hs2.2.2.1 (-8) ⟨by decide, by decide⟩) mw_461 mw_463 mw_12 mw_122 mw_464 rfl rfl (by decide +kernel) ⟨Nat.le_of_ble_eq_true rfl, Nat.le_of_ble_eq_true rfl⟩ rfl rfl (Nat.le_of_ble_eq_true rfl) dX4_prefixed_37 ⟨Nat.zero_le _, Nat.zero_le _⟩) hS (fun M37 H locs hp hw hS => ?_)
    have em37 := hp
    have hw : Wo g (putM M21 ((c0 ++ c2).length) (-8)) H := em37 ▸ hw
    refine lv_iload_n C.1 C.2.1 dX4_prefixed_40 rfl (lv_at hl 0 rfl) ?_
    exact x_ireturn C hr hlk hw hS ⟨by decide, by decide⟩ (by decide) ⟨(h8p.rx.tr h21f).tr putM_rx, Or.inl ⟨rfl, c2 ++ [-8], j2, by rw [qN_s]; exact pN_not htk eq2, by rw [← List.append_assoc]; exact hs2.put (by have hk := (ok_qN b n 0).r ht7.2 eq2; have hz := hs.len; rw [List.length_append]; omega)⟩⟩ dX4_prefixed_41
  · have g_M21 := hw.rg
    rw [er21]
    obtain ⟨q2, eq2, hf2⟩ := h21b
    obtain ⟨L2, hL2, hl2⟩ := hf2.2
    refine lv_goto (tgt := 34) C.1 C.2.1 dX4_prefixed_24 (by decide) ?_
    refine lv_istore_n (lv' := [(3, .int (II 0)), (0, .ref (gA g 45)), (1, .int (II (-8))), (2, .int (II 4))]) C.1 C.2.1 dX4_prefixed_34 rfl hl (by decide) rfl (fun ls hl => ?_)
    refine lv_aload_n C.1 C.2.1 dX4_prefixed_35 rfl (lv_at hl 1 rfl) ?_
    refine lv_iload_n C.1 C.2.1 dX4_prefixed_36 rfl (lv_at hl 2 rfl) ?_
    refine x_cv (x_runV (n := 1) C hw hS hml hl.1 45 4 (by omega) rfl (by decide) rfl (c_X4_put l g M21 hT L2 hL2 hl2 (-8) ⟨by decide, by decide⟩) mw_461 mw_463 mw_12 mw_122 mw_464 rfl rfl (by decide +kernel) ⟨Nat.le_of_ble_eq_true rfl, Nat.le_of_ble_eq_true rfl⟩ rfl rfl (Nat.le_of_ble_eq_true rfl) dX4_prefixed_37 ⟨Nat.zero_le _, Nat.zero_le _⟩) hS (fun M37 H locs hp hw hS => ?_)
    have em37 := hp
    have hw : Wo g (putM M21 L2 (-8)) H := em37 ▸ hw
    refine lv_iload_n C.1 C.2.1 dX4_prefixed_40 rfl (lv_at hl 0 rfl) ?_
    exact x_ireturn C hr hlk hw hS ⟨by decide, by decide⟩ (by decide) ⟨(h8p.rx.tr h21f).tr putM_rx, Or.inr ⟨rfl, q2, by rw [qN_s]; exact pN_notn htk eq2, hf2.put hL2 hl2⟩⟩ dX4_prefixed_41

set_option maxHeartbeats 4000000 in
set_option maxRecDepth 100000 in
theorem c_X4_single4 (l : Launch) (g : Gm) (M : Nat → Int) (hT : LvR g) (b : Nat → Int) (n : Nat) (i : Nat) (c0 : List Int) (hs : RS M b n i c0) : CI l ({ cls := "RatedBySighs$Reader", name := "single", desc := "(I)Z" } : Jvm.MethodName) cX4_single 2 .boolean (rmm 13 284) g M [.ref (gA g 45), .int (II 4)] (fun r M' => (RX M M') ∧ ((r = 1 ∧ (∃ c2 j2, q1 b n 1 i = .inr (c2, j2) ∧ RS M' b n j2 (c0 ++ c2))) ∨ (r = 0 ∧ (∃ q, q1 b n 1 i = .inl q ∧ RF M' q)))) := by
  refine c_start (by decide) (Nat.le_of_ble_eq_true rfl) (fun p e s m below meth c ls C hr hlk hml hw hS hl => ?_)
  have hl : lv_has ls 2 [(0, .ref (gA g 45)), (1, .int (II 4))] := hl
  have g_M := hw.rg
  have hN : 49 ≤ gN g := hT.1
  have hz0 := hs.len
  refine lv_aload_n C.1 C.2.1 dX4_single_0 rfl (lv_at hl 0 rfl) ?_
  refine g4 C hw 45 (by omega) rfl 3 (by decide) mw_278 (svi (x := tK b n i) hs.2.1.2.1) dX4_single_1 ?_
  refine x_if_eq (tgt := 23) C ⟨by have := g_M 45003; have := hs.2.1.2.1; omega, by have := g_M 45003; have := hs.2.1.2.1; omega⟩ dX4_single_4 (by decide) (fun c4 => ?_) (fun c4 => ?_)
  · refine lv_aload_n C.1 C.2.1 dX4_single_23 rfl (lv_at hl 0 rfl) ?_
    refine lv_aload_n C.1 C.2.1 dX4_single_24 rfl (lv_at hl 0 rfl) ?_
    refine g4 C hw 45 (by omega) rfl 3 (by decide) mw_278 (svi (x := tK b n i) hs.2.1.2.1) dX4_single_25 ?_
    refine x_if_ne (tgt := 38) C ⟨by have := g_M 45003; have := hs.2.1.2.1; omega, by have := g_M 45003; have := hs.2.1.2.1; omega⟩ dX4_single_28 (by decide) (fun c28 => ?_) (fun c28 => ?_)
    · skip
      refine lv_aload_n C.1 C.2.1 dX4_single_38 rfl (lv_at hl 0 rfl) ?_
      refine g4 C hw 45 (by omega) rfl 3 (by decide) mw_278 (svi (x := tK b n i) hs.2.1.2.1) dX4_single_39 ?_
      refine x_cv (x_runV (n := 1) C hw hS hml hl.1 45 4 (by omega) rfl (by decide) rfl (c_X4_put l g M hT (c0.length) (by omega) hs.2.2.1 (tK b n i) ⟨by have := g_M 45003; have := hs.2.1.2.1; omega, by have := g_M 45003; have := hs.2.1.2.1; omega⟩) mw_461 mw_463 mw_12 mw_122 mw_464 rfl rfl (by decide +kernel) ⟨Nat.le_of_ble_eq_true rfl, Nat.le_of_ble_eq_true rfl⟩ rfl rfl (Nat.le_of_ble_eq_true rfl) dX4_single_42 ⟨Nat.zero_le _, Nat.zero_le _⟩) hS (fun M42 H locs hp hw hS => ?_)
      have em42 := hp
      have hw : Wo g (putM M (c0.length) (tK b n i)) H := em42 ▸ hw
      have ht7 := tK_7 (b := b) hs.1.2 (show tK b n i ≠ 7 by omega)
      have hs9 := hs.putT (w := tK b n i)
      refine lv_aload_n C.1 C.2.1 dX4_single_45 rfl (lv_at hl 0 rfl) ?_
      refine x_cv (x_runV (n := 0) C hw hS hml hl.1 45 4 (by omega) rfl (by decide) rfl (c_X4_next l g (putM M (c0.length) (tK b n i)) hT b n hs9.1 (tE b n i) (tE_in hs.1.2).2.1 hs9.2) mw_398 mw_400 mw_2 mw_122 mw_401 rfl rfl (by decide +kernel) ⟨Nat.le_of_ble_eq_true rfl, Nat.le_of_ble_eq_true rfl⟩ rfl rfl (Nat.le_of_ble_eq_true rfl) dX4_single_46 ⟨Nat.zero_le _, Nat.zero_le _⟩) hS (fun M46 H locs hp hw hS => ?_)
      have h46p := hp
      have g_M46 := hw.rg
      refine lv_iconst (v := II 1) C.1 C.2.1 dX4_single_49 rfl ?_
      exact x_ireturn C hr hlk hw hS ⟨by decide, by decide⟩ (by decide) (by
    refine ⟨putM_rx.tr h46p.rx, Or.inl ⟨rfl, [tK b n i], tE b n i, by rw [q1_s]; exact p1_nam (by omega), ?_⟩⟩
    exact hs.pn ht7.1 h46p) dX4_single_50
    · skip
      refine lv_aload_n C.1 C.2.1 dX4_single_31 rfl (lv_at hl 0 rfl) ?_
      refine g4 C hw 45 (by omega) rfl 5 (by decide) mw_281 (svi (x := tV b n i) (hs.2.1.2.2.2 (by omega))) dX4_single_32 ?_
      refine lv_goto (tgt := 42) C.1 C.2.1 dX4_single_35 (by decide) ?_
      refine x_cv (x_runV (n := 1) C hw hS hml hl.1 45 4 (by omega) rfl (by decide) rfl (c_X4_put l g M hT (c0.length) (by omega) hs.2.2.1 (tV b n i) ⟨by have := g_M 45005; have := (hs.2.1.2.2.2 (by omega)); omega, by have := g_M 45005; have := (hs.2.1.2.2.2 (by omega)); omega⟩) mw_461 mw_463 mw_12 mw_122 mw_464 rfl rfl (by decide +kernel) ⟨Nat.le_of_ble_eq_true rfl, Nat.le_of_ble_eq_true rfl⟩ rfl rfl (Nat.le_of_ble_eq_true rfl) dX4_single_42 ⟨Nat.zero_le _, Nat.zero_le _⟩) hS (fun M42 H locs hp hw hS => ?_)
      have em42 := hp
      have hw : Wo g (putM M (c0.length) (tV b n i)) H := em42 ▸ hw
      have ht7 := tK_7 (b := b) hs.1.2 (show tK b n i ≠ 7 by omega)
      have hs9 := hs.putT (w := tV b n i)
      refine lv_aload_n C.1 C.2.1 dX4_single_45 rfl (lv_at hl 0 rfl) ?_
      refine x_cv (x_runV (n := 0) C hw hS hml hl.1 45 4 (by omega) rfl (by decide) rfl (c_X4_next l g (putM M (c0.length) (tV b n i)) hT b n hs9.1 (tE b n i) (tE_in hs.1.2).2.1 hs9.2) mw_398 mw_400 mw_2 mw_122 mw_401 rfl rfl (by decide +kernel) ⟨Nat.le_of_ble_eq_true rfl, Nat.le_of_ble_eq_true rfl⟩ rfl rfl (Nat.le_of_ble_eq_true rfl) dX4_single_46 ⟨Nat.zero_le _, Nat.zero_le _⟩) hS (fun M46 H locs hp hw hS => ?_)
      have h46p := hp
      have g_M46 := hw.rg
      refine lv_iconst (v := II 1) C.1 C.2.1 dX4_single_49 rfl ?_
      exact x_ireturn C hr hlk hw hS ⟨by decide, by decide⟩ (by decide) (by
    refine ⟨putM_rx.tr h46p.rx, Or.inl ⟨rfl, [tV b n i], tE b n i, by rw [q1_s]; exact p1_num (by omega), ?_⟩⟩
    exact hs.pn ht7.1 h46p) dX4_single_50
  · refine lv_aload_n C.1 C.2.1 dX4_single_7 rfl (lv_at hl 0 rfl) ?_
    refine g4 C hw 45 (by omega) rfl 3 (by decide) mw_278 (svi (x := tK b n i) hs.2.1.2.1) dX4_single_8 ?_
    refine x_if_ge (tgt := 51) C ⟨by have := g_M 45003; have := hs.2.1.2.1; omega, by have := g_M 45003; have := hs.2.1.2.1; omega⟩ dX4_single_11 (by decide) (fun c11 => ?_) (fun c11 => ?_)
    · refine lv_aload_n C.1 C.2.1 dX4_single_51 rfl (lv_at hl 0 rfl) ?_
      refine g4 C hw 45 (by omega) rfl 3 (by decide) mw_278 (svi (x := tK b n i) hs.2.1.2.1) dX4_single_52 ?_
      refine lv_bipush (v := II (-14)) C.1 C.2.1 dX4_single_55 (by decide) ?_
      refine x_icmp_ne (tgt := 68) C ⟨by have := g_M 45003; have := hs.2.1.2.1; omega, by have := g_M 45003; have := hs.2.1.2.1; omega⟩ ⟨by decide, by decide⟩ dX4_single_57 (by decide) (fun c57 => ?_) (fun c57 => ?_)
      · refine lv_aload_n C.1 C.2.1 dX4_single_68 rfl (lv_at hl 0 rfl) ?_
        refine g4 C hw 45 (by omega) rfl 3 (by decide) mw_278 (svi (x := tK b n i) hs.2.1.2.1) dX4_single_69 ?_
        refine lv_iconst (v := II 4) C.1 C.2.1 dX4_single_72 rfl ?_
        refine x_icmp_ne (tgt := 81) C ⟨by have := g_M 45003; have := hs.2.1.2.1; omega, by have := g_M 45003; have := hs.2.1.2.1; omega⟩ ⟨by decide, by decide⟩ dX4_single_73 (by decide) (fun c73 => ?_) (fun c73 => ?_)
        · refine lv_iconst (v := II 0) C.1 C.2.1 dX4_single_81 rfl ?_
          exact x_ireturn C hr hlk hw hS ⟨by decide, by decide⟩ (by decide) ⟨RX.rfl', Or.inr ⟨rfl, tS b n i, by rw [q1_s]; exact p1_no (by omega) (by omega) (by omega) (fun q => absurd q.1 (by omega)), hs.rf⟩⟩ dX4_single_82
        · refine lv_iload_n C.1 C.2.1 dX4_single_76 rfl (lv_at hl 1 rfl) ?_
          refine lv_iconst (v := II 5) C.1 C.2.1 dX4_single_77 rfl ?_
          refine x_icmp_lt (tgt := 83) C ⟨by decide, by decide⟩ ⟨by decide, by decide⟩ dX4_single_78 (by decide) (fun _ => ?_) (fun h => absurd h (by decide))
          refine lv_aload_n C.1 C.2.1 dX4_single_83 rfl (lv_at hl 0 rfl) ?_
          refine x_cv (x_runV (n := 0) C hw hS hml hl.1 45 4 (by omega) rfl (by decide) rfl (c_X4_next l g M hT b n hs.1.1 (tE b n i) (tE_in hs.1.2).2.1 hs.2.1.1) mw_398 mw_400 mw_2 mw_122 mw_401 rfl rfl (by decide +kernel) ⟨Nat.le_of_ble_eq_true rfl, Nat.le_of_ble_eq_true rfl⟩ rfl rfl (Nat.le_of_ble_eq_true rfl) dX4_single_84 ⟨Nat.zero_le _, Nat.zero_le _⟩) hS (fun M84 H locs hp hw hS => ?_)
          have h84p := hp
          have g_M84 := hw.rg
          have hs1 := hs.next h84p
          refine lv_aload_n C.1 C.2.1 dX4_single_87 rfl (lv_at hl 0 rfl) ?_
          refine lv_iload_n C.1 C.2.1 dX4_single_88 rfl (lv_at hl 1 rfl) ?_
          refine lv_iconst (v := II 1) C.1 C.2.1 dX4_single_89 rfl ?_
          refine x_iadd C dX4_single_90 ?_
          rw [show (4 + 1 : Int) = 5 from by decide]
          refine x_ci (x_runV (n := 1) C hw hS hml hl.1 45 4 (by omega) rfl (by decide) rfl (c_X4_either5 l g M84 hT b n (tE b n i) c0 hs1) mw_441 mw_443 mw_7 mw_122 mw_444 rfl rfl (by decide +kernel) ⟨Nat.le_of_ble_eq_true rfl, Nat.le_of_ble_eq_true rfl⟩ rfl rfl (Nat.le_of_ble_eq_true rfl) dX4_single_91 ⟨Nat.zero_le _, Nat.zero_le _⟩) hS (fun r91 M91 H locs hr91 hp hw hS => ?_)
          rcases hp with ⟨h91f, (⟨er91, h91b⟩ | ⟨er91, h91b⟩)⟩
          · have g_M91 := hw.rg
            rw [er91]
            obtain ⟨c2, j2, eq2, hs2⟩ := h91b
            have hz2 := hs2.len
            refine x_if_eq (tgt := 109) C ⟨by decide, by decide⟩ dX4_single_94 (by decide) (fun h => absurd h (by decide)) (fun _ => ?_)
            refine lv_aload_n C.1 C.2.1 dX4_single_97 rfl (lv_at hl 0 rfl) ?_
            refine lv_iconst (v := II 5) C.1 C.2.1 dX4_single_98 rfl ?_
            refine x_ci (x_runV (n := 1) C hw hS hml hl.1 45 4 (by omega) rfl (by decide) rfl (c_X4_passes l g M91 hT b n j2 (c0 ++ c2) hs2 5 ⟨by decide, by decide⟩) mw_437 mw_439 mw_6 mw_122 mw_440 rfl rfl (by decide +kernel) ⟨Nat.le_of_ble_eq_true rfl, Nat.le_of_ble_eq_true rfl⟩ rfl rfl (Nat.le_of_ble_eq_true rfl) dX4_single_99 ⟨Nat.zero_le _, Nat.zero_le _⟩) hS (fun r99 M99 H locs hr99 hp hw hS => ?_)
            rcases hp with ⟨h99f, (⟨er99, h99b⟩ | ⟨er99, h99b⟩)⟩
            · have g_M99 := hw.rg
              rw [er99]
              refine x_if_eq (tgt := 109) C ⟨by decide, by decide⟩ dX4_single_102 (by decide) (fun h => absurd h (by decide)) (fun _ => ?_)
              refine lv_iconst (v := II 1) C.1 C.2.1 dX4_single_105 rfl ?_
              refine lv_goto (tgt := 110) C.1 C.2.1 dX4_single_106 (by decide) ?_
              exact x_ireturn C hr hlk hw hS ⟨by decide, by decide⟩ (by decide) ⟨(h84p.rx.tr h91f).tr h99f, Or.inl ⟨rfl, c2, tE b n j2, by rw [q1_s]; exact p1_par (by omega) eq2 h99b.1, h99b.2⟩⟩ dX4_single_110
            · have g_M99 := hw.rg
              rw [er99]
              refine x_if_eq (tgt := 109) C ⟨by decide, by decide⟩ dX4_single_102 (by decide) (fun _ => ?_) (fun h => absurd h (by decide))
              refine lv_iconst (v := II 0) C.1 C.2.1 dX4_single_109 rfl ?_
              exact x_ireturn C hr hlk hw hS ⟨by decide, by decide⟩ (by decide) ⟨(h84p.rx.tr h91f).tr h99f, Or.inr ⟨rfl, tS b n j2, by rw [q1_s]; exact p1_parn (by omega) eq2 h99b.1, h99b.2⟩⟩ dX4_single_110
          · have g_M91 := hw.rg
            rw [er91]
            obtain ⟨q2, eq2, hf2⟩ := h91b
            obtain ⟨L2, hL2, hl2⟩ := hf2.2
            refine x_if_eq (tgt := 109) C ⟨by decide, by decide⟩ dX4_single_94 (by decide) (fun _ => ?_) (fun h => absurd h (by decide))
            refine lv_iconst (v := II 0) C.1 C.2.1 dX4_single_109 rfl ?_
            exact x_ireturn C hr hlk hw hS ⟨by decide, by decide⟩ (by decide) ⟨h84p.rx.tr h91f, Or.inr ⟨rfl, q2, by rw [q1_s]; exact p1_pare (by omega) eq2, hf2⟩⟩ dX4_single_110
      · refine lv_aload_n C.1 C.2.1 dX4_single_60 rfl (lv_at hl 0 rfl) ?_
        refine lv_bipush (v := II (-7)) C.1 C.2.1 dX4_single_61 (by decide) ?_
        refine lv_iload_n C.1 C.2.1 dX4_single_63 rfl (lv_at hl 1 rfl) ?_
        refine x_ci (x_runV (n := 2) C hw hS hml hl.1 45 4 (by omega) rfl (by decide) rfl (c_X4_prefixed7_4 l g M hT b n i c0 hs (by omega)) mw_453 mw_455 mw_10 mw_122 mw_456 rfl rfl (by decide +kernel) ⟨Nat.le_of_ble_eq_true rfl, Nat.le_of_ble_eq_true rfl⟩ rfl rfl (Nat.le_of_ble_eq_true rfl) dX4_single_64 ⟨Nat.zero_le _, Nat.zero_le _⟩) hS (fun r64 M64 H locs hr64 hp hw hS => ?_)
        rcases hp with ⟨h64f, (⟨er64, h64b⟩ | ⟨er64, h64b⟩)⟩
        · have g_M64 := hw.rg
          rw [er64]
          exact x_ireturn C hr hlk hw hS ⟨by decide, by decide⟩ (by decide) ⟨h64f, Or.inl ⟨rfl, h64b⟩⟩ dX4_single_67
        · have g_M64 := hw.rg
          rw [er64]
          exact x_ireturn C hr hlk hw hS ⟨by decide, by decide⟩ (by decide) ⟨h64f, Or.inr ⟨rfl, h64b⟩⟩ dX4_single_67
    · refine lv_aload_n C.1 C.2.1 dX4_single_14 rfl (lv_at hl 0 rfl) ?_
      refine g4 C hw 45 (by omega) rfl 3 (by decide) mw_278 (svi (x := tK b n i) hs.2.1.2.1) dX4_single_15 ?_
      refine lv_bipush (v := II (-6)) C.1 C.2.1 dX4_single_18 (by decide) ?_
      refine x_icmp_lt (tgt := 51) C ⟨by have := g_M 45003; have := hs.2.1.2.1; omega, by have := g_M 45003; have := hs.2.1.2.1; omega⟩ ⟨by decide, by decide⟩ dX4_single_20 (by decide) (fun c20 => ?_) (fun c20 => ?_)
      · refine lv_aload_n C.1 C.2.1 dX4_single_51 rfl (lv_at hl 0 rfl) ?_
        refine g4 C hw 45 (by omega) rfl 3 (by decide) mw_278 (svi (x := tK b n i) hs.2.1.2.1) dX4_single_52 ?_
        refine lv_bipush (v := II (-14)) C.1 C.2.1 dX4_single_55 (by decide) ?_
        refine x_icmp_ne (tgt := 68) C ⟨by have := g_M 45003; have := hs.2.1.2.1; omega, by have := g_M 45003; have := hs.2.1.2.1; omega⟩ ⟨by decide, by decide⟩ dX4_single_57 (by decide) (fun c57 => ?_) (fun c57 => ?_)
        · refine lv_aload_n C.1 C.2.1 dX4_single_68 rfl (lv_at hl 0 rfl) ?_
          refine g4 C hw 45 (by omega) rfl 3 (by decide) mw_278 (svi (x := tK b n i) hs.2.1.2.1) dX4_single_69 ?_
          refine lv_iconst (v := II 4) C.1 C.2.1 dX4_single_72 rfl ?_
          refine x_icmp_ne (tgt := 81) C ⟨by have := g_M 45003; have := hs.2.1.2.1; omega, by have := g_M 45003; have := hs.2.1.2.1; omega⟩ ⟨by decide, by decide⟩ dX4_single_73 (by decide) (fun c73 => ?_) (fun c73 => ?_)
          · refine lv_iconst (v := II 0) C.1 C.2.1 dX4_single_81 rfl ?_
            exact x_ireturn C hr hlk hw hS ⟨by decide, by decide⟩ (by decide) ⟨RX.rfl', Or.inr ⟨rfl, tS b n i, by rw [q1_s]; exact p1_no (by omega) (by omega) (by omega) (fun q => absurd q.1 (by omega)), hs.rf⟩⟩ dX4_single_82
          · refine lv_iload_n C.1 C.2.1 dX4_single_76 rfl (lv_at hl 1 rfl) ?_
            refine lv_iconst (v := II 5) C.1 C.2.1 dX4_single_77 rfl ?_
            refine x_icmp_lt (tgt := 83) C ⟨by decide, by decide⟩ ⟨by decide, by decide⟩ dX4_single_78 (by decide) (fun _ => ?_) (fun h => absurd h (by decide))
            refine lv_aload_n C.1 C.2.1 dX4_single_83 rfl (lv_at hl 0 rfl) ?_
            refine x_cv (x_runV (n := 0) C hw hS hml hl.1 45 4 (by omega) rfl (by decide) rfl (c_X4_next l g M hT b n hs.1.1 (tE b n i) (tE_in hs.1.2).2.1 hs.2.1.1) mw_398 mw_400 mw_2 mw_122 mw_401 rfl rfl (by decide +kernel) ⟨Nat.le_of_ble_eq_true rfl, Nat.le_of_ble_eq_true rfl⟩ rfl rfl (Nat.le_of_ble_eq_true rfl) dX4_single_84 ⟨Nat.zero_le _, Nat.zero_le _⟩) hS (fun M84 H locs hp hw hS => ?_)
            have h84p := hp
            have g_M84 := hw.rg
            have hs1 := hs.next h84p
            refine lv_aload_n C.1 C.2.1 dX4_single_87 rfl (lv_at hl 0 rfl) ?_
            refine lv_iload_n C.1 C.2.1 dX4_single_88 rfl (lv_at hl 1 rfl) ?_
            refine lv_iconst (v := II 1) C.1 C.2.1 dX4_single_89 rfl ?_
            refine x_iadd C dX4_single_90 ?_
            rw [show (4 + 1 : Int) = 5 from by decide]
            refine x_ci (x_runV (n := 1) C hw hS hml hl.1 45 4 (by omega) rfl (by decide) rfl (c_X4_either5 l g M84 hT b n (tE b n i) c0 hs1) mw_441 mw_443 mw_7 mw_122 mw_444 rfl rfl (by decide +kernel) ⟨Nat.le_of_ble_eq_true rfl, Nat.le_of_ble_eq_true rfl⟩ rfl rfl (Nat.le_of_ble_eq_true rfl) dX4_single_91 ⟨Nat.zero_le _, Nat.zero_le _⟩) hS (fun r91 M91 H locs hr91 hp hw hS => ?_)
            rcases hp with ⟨h91f, (⟨er91, h91b⟩ | ⟨er91, h91b⟩)⟩
            · have g_M91 := hw.rg
              rw [er91]
              obtain ⟨c2, j2, eq2, hs2⟩ := h91b
              have hz2 := hs2.len
              refine x_if_eq (tgt := 109) C ⟨by decide, by decide⟩ dX4_single_94 (by decide) (fun h => absurd h (by decide)) (fun _ => ?_)
              refine lv_aload_n C.1 C.2.1 dX4_single_97 rfl (lv_at hl 0 rfl) ?_
              refine lv_iconst (v := II 5) C.1 C.2.1 dX4_single_98 rfl ?_
              refine x_ci (x_runV (n := 1) C hw hS hml hl.1 45 4 (by omega) rfl (by decide) rfl (c_X4_passes l g M91 hT b n j2 (c0 ++ c2) hs2 5 ⟨by decide, by decide⟩) mw_437 mw_439 mw_6 mw_122 mw_440 rfl rfl (by decide +kernel) ⟨Nat.le_of_ble_eq_true rfl, Nat.le_of_ble_eq_true rfl⟩ rfl rfl (Nat.le_of_ble_eq_true rfl) dX4_single_99 ⟨Nat.zero_le _, Nat.zero_le _⟩) hS (fun r99 M99 H locs hr99 hp hw hS => ?_)
              rcases hp with ⟨h99f, (⟨er99, h99b⟩ | ⟨er99, h99b⟩)⟩
              · have g_M99 := hw.rg
                rw [er99]
                refine x_if_eq (tgt := 109) C ⟨by decide, by decide⟩ dX4_single_102 (by decide) (fun h => absurd h (by decide)) (fun _ => ?_)
                refine lv_iconst (v := II 1) C.1 C.2.1 dX4_single_105 rfl ?_
                refine lv_goto (tgt := 110) C.1 C.2.1 dX4_single_106 (by decide) ?_
                exact x_ireturn C hr hlk hw hS ⟨by decide, by decide⟩ (by decide) ⟨(h84p.rx.tr h91f).tr h99f, Or.inl ⟨rfl, c2, tE b n j2, by rw [q1_s]; exact p1_par (by omega) eq2 h99b.1, h99b.2⟩⟩ dX4_single_110
              · have g_M99 := hw.rg
                rw [er99]
                refine x_if_eq (tgt := 109) C ⟨by decide, by decide⟩ dX4_single_102 (by decide) (fun _ => ?_) (fun h => absurd h (by decide))
                refine lv_iconst (v := II 0) C.1 C.2.1 dX4_single_109 rfl ?_
                exact x_ireturn C hr hlk hw hS ⟨by decide, by decide⟩ (by decide) ⟨(h84p.rx.tr h91f).tr h99f, Or.inr ⟨rfl, tS b n j2, by rw [q1_s]; exact p1_parn (by omega) eq2 h99b.1, h99b.2⟩⟩ dX4_single_110
            · have g_M91 := hw.rg
              rw [er91]
              obtain ⟨q2, eq2, hf2⟩ := h91b
              obtain ⟨L2, hL2, hl2⟩ := hf2.2
              refine x_if_eq (tgt := 109) C ⟨by decide, by decide⟩ dX4_single_94 (by decide) (fun _ => ?_) (fun h => absurd h (by decide))
              refine lv_iconst (v := II 0) C.1 C.2.1 dX4_single_109 rfl ?_
              exact x_ireturn C hr hlk hw hS ⟨by decide, by decide⟩ (by decide) ⟨h84p.rx.tr h91f, Or.inr ⟨rfl, q2, by rw [q1_s]; exact p1_pare (by omega) eq2, hf2⟩⟩ dX4_single_110
        · refine lv_aload_n C.1 C.2.1 dX4_single_60 rfl (lv_at hl 0 rfl) ?_
          refine lv_bipush (v := II (-7)) C.1 C.2.1 dX4_single_61 (by decide) ?_
          refine lv_iload_n C.1 C.2.1 dX4_single_63 rfl (lv_at hl 1 rfl) ?_
          refine x_ci (x_runV (n := 2) C hw hS hml hl.1 45 4 (by omega) rfl (by decide) rfl (c_X4_prefixed7_4 l g M hT b n i c0 hs (by omega)) mw_453 mw_455 mw_10 mw_122 mw_456 rfl rfl (by decide +kernel) ⟨Nat.le_of_ble_eq_true rfl, Nat.le_of_ble_eq_true rfl⟩ rfl rfl (Nat.le_of_ble_eq_true rfl) dX4_single_64 ⟨Nat.zero_le _, Nat.zero_le _⟩) hS (fun r64 M64 H locs hr64 hp hw hS => ?_)
          rcases hp with ⟨h64f, (⟨er64, h64b⟩ | ⟨er64, h64b⟩)⟩
          · have g_M64 := hw.rg
            rw [er64]
            exact x_ireturn C hr hlk hw hS ⟨by decide, by decide⟩ (by decide) ⟨h64f, Or.inl ⟨rfl, h64b⟩⟩ dX4_single_67
          · have g_M64 := hw.rg
            rw [er64]
            exact x_ireturn C hr hlk hw hS ⟨by decide, by decide⟩ (by decide) ⟨h64f, Or.inr ⟨rfl, h64b⟩⟩ dX4_single_67
      · refine lv_aload_n C.1 C.2.1 dX4_single_23 rfl (lv_at hl 0 rfl) ?_
        refine lv_aload_n C.1 C.2.1 dX4_single_24 rfl (lv_at hl 0 rfl) ?_
        refine g4 C hw 45 (by omega) rfl 3 (by decide) mw_278 (svi (x := tK b n i) hs.2.1.2.1) dX4_single_25 ?_
        refine x_if_ne (tgt := 38) C ⟨by have := g_M 45003; have := hs.2.1.2.1; omega, by have := g_M 45003; have := hs.2.1.2.1; omega⟩ dX4_single_28 (by decide) (fun c28 => ?_) (fun c28 => ?_)
        · skip
          refine lv_aload_n C.1 C.2.1 dX4_single_38 rfl (lv_at hl 0 rfl) ?_
          refine g4 C hw 45 (by omega) rfl 3 (by decide) mw_278 (svi (x := tK b n i) hs.2.1.2.1) dX4_single_39 ?_
          refine x_cv (x_runV (n := 1) C hw hS hml hl.1 45 4 (by omega) rfl (by decide) rfl (c_X4_put l g M hT (c0.length) (by omega) hs.2.2.1 (tK b n i) ⟨by have := g_M 45003; have := hs.2.1.2.1; omega, by have := g_M 45003; have := hs.2.1.2.1; omega⟩) mw_461 mw_463 mw_12 mw_122 mw_464 rfl rfl (by decide +kernel) ⟨Nat.le_of_ble_eq_true rfl, Nat.le_of_ble_eq_true rfl⟩ rfl rfl (Nat.le_of_ble_eq_true rfl) dX4_single_42 ⟨Nat.zero_le _, Nat.zero_le _⟩) hS (fun M42 H locs hp hw hS => ?_)
          have em42 := hp
          have hw : Wo g (putM M (c0.length) (tK b n i)) H := em42 ▸ hw
          have ht7 := tK_7 (b := b) hs.1.2 (show tK b n i ≠ 7 by omega)
          have hs9 := hs.putT (w := tK b n i)
          refine lv_aload_n C.1 C.2.1 dX4_single_45 rfl (lv_at hl 0 rfl) ?_
          refine x_cv (x_runV (n := 0) C hw hS hml hl.1 45 4 (by omega) rfl (by decide) rfl (c_X4_next l g (putM M (c0.length) (tK b n i)) hT b n hs9.1 (tE b n i) (tE_in hs.1.2).2.1 hs9.2) mw_398 mw_400 mw_2 mw_122 mw_401 rfl rfl (by decide +kernel) ⟨Nat.le_of_ble_eq_true rfl, Nat.le_of_ble_eq_true rfl⟩ rfl rfl (Nat.le_of_ble_eq_true rfl) dX4_single_46 ⟨Nat.zero_le _, Nat.zero_le _⟩) hS (fun M46 H locs hp hw hS => ?_)
          have h46p := hp
          have g_M46 := hw.rg
          refine lv_iconst (v := II 1) C.1 C.2.1 dX4_single_49 rfl ?_
          exact x_ireturn C hr hlk hw hS ⟨by decide, by decide⟩ (by decide) (by
    refine ⟨putM_rx.tr h46p.rx, Or.inl ⟨rfl, [tK b n i], tE b n i, by rw [q1_s]; exact p1_nam (by omega), ?_⟩⟩
    exact hs.pn ht7.1 h46p) dX4_single_50
        · skip
          refine lv_aload_n C.1 C.2.1 dX4_single_31 rfl (lv_at hl 0 rfl) ?_
          refine g4 C hw 45 (by omega) rfl 5 (by decide) mw_281 (svi (x := tV b n i) (hs.2.1.2.2.2 (by omega))) dX4_single_32 ?_
          refine lv_goto (tgt := 42) C.1 C.2.1 dX4_single_35 (by decide) ?_
          refine x_cv (x_runV (n := 1) C hw hS hml hl.1 45 4 (by omega) rfl (by decide) rfl (c_X4_put l g M hT (c0.length) (by omega) hs.2.2.1 (tV b n i) ⟨by have := g_M 45005; have := (hs.2.1.2.2.2 (by omega)); omega, by have := g_M 45005; have := (hs.2.1.2.2.2 (by omega)); omega⟩) mw_461 mw_463 mw_12 mw_122 mw_464 rfl rfl (by decide +kernel) ⟨Nat.le_of_ble_eq_true rfl, Nat.le_of_ble_eq_true rfl⟩ rfl rfl (Nat.le_of_ble_eq_true rfl) dX4_single_42 ⟨Nat.zero_le _, Nat.zero_le _⟩) hS (fun M42 H locs hp hw hS => ?_)
          have em42 := hp
          have hw : Wo g (putM M (c0.length) (tV b n i)) H := em42 ▸ hw
          have ht7 := tK_7 (b := b) hs.1.2 (show tK b n i ≠ 7 by omega)
          have hs9 := hs.putT (w := tV b n i)
          refine lv_aload_n C.1 C.2.1 dX4_single_45 rfl (lv_at hl 0 rfl) ?_
          refine x_cv (x_runV (n := 0) C hw hS hml hl.1 45 4 (by omega) rfl (by decide) rfl (c_X4_next l g (putM M (c0.length) (tV b n i)) hT b n hs9.1 (tE b n i) (tE_in hs.1.2).2.1 hs9.2) mw_398 mw_400 mw_2 mw_122 mw_401 rfl rfl (by decide +kernel) ⟨Nat.le_of_ble_eq_true rfl, Nat.le_of_ble_eq_true rfl⟩ rfl rfl (Nat.le_of_ble_eq_true rfl) dX4_single_46 ⟨Nat.zero_le _, Nat.zero_le _⟩) hS (fun M46 H locs hp hw hS => ?_)
          have h46p := hp
          have g_M46 := hw.rg
          refine lv_iconst (v := II 1) C.1 C.2.1 dX4_single_49 rfl ?_
          exact x_ireturn C hr hlk hw hS ⟨by decide, by decide⟩ (by decide) (by
    refine ⟨putM_rx.tr h46p.rx, Or.inl ⟨rfl, [tV b n i], tE b n i, by rw [q1_s]; exact p1_num (by omega), ?_⟩⟩
    exact hs.pn ht7.1 h46p) dX4_single_50

set_option maxHeartbeats 4000000 in
set_option maxRecDepth 100000 in
theorem c_X4_term4 (l : Launch) (g : Gm) (M : Nat → Int) (hT : LvR g) (b : Nat → Int) (n : Nat) (i : Nat) (c0 : List Int) (hs : RS M b n i c0) : CI l ({ cls := "RatedBySighs$Reader", name := "term", desc := "(I)Z" } : Jvm.MethodName) cX4_term 4 .boolean (rmm 14 305) g M [.ref (gA g 45), .int (II 4)] (fun r M' => (RX M M') ∧ ((r = 1 ∧ (∃ c2 j2, qT b n 1 i = .inr (c2, j2) ∧ RS M' b n j2 (c0 ++ c2))) ∨ (r = 0 ∧ (∃ q, qT b n 1 i = .inl q ∧ RF M' q)))) := by
  refine c_start (by decide) (Nat.le_of_ble_eq_true rfl) (fun p e s m below meth c ls C hr hlk hml hw hS hl => ?_)
  have hl : lv_has ls 4 [(0, .ref (gA g 45)), (1, .int (II 4))] := hl
  generalize ([.ref (gA g 45), .int (II 4)] : List Value).toArray = args at C ⊢
  generalize hQQ : MQ below (postI g (fun r M' => (RX M M') ∧ ((r = 1 ∧ (∃ c2 j2, qT b n 1 i = .inr (c2, j2) ∧ RS M' b n j2 (c0 ++ c2))) ∨ (r = 0 ∧ (∃ q, qT b n 1 i = .inl q ∧ RF M' q))))) args s 0 0 (ar g) = QQ
  have g_M := hw.rg
  have hN : 49 ≤ gN g := hT.1
  refine lv_aload_n C.1 C.2.1 dX4_term_0 rfl (lv_at hl 0 rfl) ?_
  refine lv_iload_n C.1 C.2.1 dX4_term_1 rfl (lv_at hl 1 rfl) ?_
  refine x_ci (x_runV (n := 1) C hw hS hml hl.1 45 4 (by omega) rfl (by decide) rfl (c_X4_single4 l g M hT b n i c0 hs) mw_457 mw_459 mw_11 mw_122 mw_460 rfl rfl (by decide +kernel) ⟨Nat.le_of_ble_eq_true rfl, Nat.le_of_ble_eq_true rfl⟩ rfl rfl (Nat.le_of_ble_eq_true rfl) dX4_term_2 ⟨Nat.zero_le _, Nat.zero_le _⟩) hS (fun r2 M2 H locs hr2 hp hw hS => ?_)
  rcases hp with ⟨h2f, (⟨er2, h2b⟩ | ⟨er2, h2b⟩)⟩
  · have g_M2 := hw.rg
    rw [er2]
    obtain ⟨c2, j2, eq2, hs2⟩ := h2b
    have hz2 := hs2.len
    refine lv_istore_n (lv' := [(2, .int (II 1)), (0, .ref (gA g 45)), (1, .int (II 4))]) C.1 C.2.1 dX4_term_5 rfl hl (by decide) rfl (fun ls hl => ?_)
    refine lv_iconst (v := II 0) C.1 C.2.1 dX4_term_6 rfl ?_
    refine lv_istore_n (lv' := [(3, .int (II 0)), (2, .int (II 1)), (0, .ref (gA g 45)), (1, .int (II 4))]) C.1 C.2.1 dX4_term_7 rfl hl (by decide) rfl (fun ls hl => ?_)
    have L8 : ∀ (f1 : Nat) (k : Nat) (fu : Nat) (c1 : List Int) (j : Nat) (MM : Nat → Int), (160 - k) < f1 → (k ≤ 160 ∧ k ≤ j ∧ j ≤ n ∧ n ≤ 160) → (n - j < fu) → (RS MM b n j (c0 ++ c1)) → (lpP b n (q1 b n 1) oTi fu c1 j = chP b n (q1 b n 1) oTi i) → (RX M MM) → ∀ (H : Heap) (locs : List Loc) (ls : Array Slot), Wo g MM H → va_S (ar g) s.heap H locs → lv_has ls 4 [(0, .ref (gA g 45)), (1, .int (II 4)), (2, .int (II 1)), (3, .int (II (k : Int)))] → W p l e (rmm 14 305) s m args below meth c H locs 0 0 QQ (F0 m 8 ls []) := by
      intro f1
      induction f1 with
      | zero => intro k fu c1 j MM hmu; exact absurd hmu (Nat.not_lt_zero _)
      | succ f1 ih =>
        intro k fu c1 j MM hmu h1 hfu hs2 hq hx H locs ls hw hS hl
        have ih8 := ih
        have g_MM := hw.rg
        refine lv_iload_n C.1 C.2.1 dX4_term_8 rfl (lv_at hl 3 rfl) ?_
        refine lv_sipush (v := II 160) C.1 C.2.1 dX4_term_9 (by decide) ?_
        refine x_icmp_ge (tgt := 50) C ⟨by omega, by omega⟩ ⟨by decide, by decide⟩ dX4_term_12 (by decide) (fun c12 => ?_) (fun c12 => ?_)
        · refine lv_iload_n C.1 C.2.1 dX4_term_50 rfl (lv_at hl 2 rfl) ?_
          subst hQQ; exact x_ireturn C hr hlk hw hS ⟨by decide, by decide⟩ (by decide) ⟨hx, Or.inl ⟨rfl, c1, j, by show chP b n (q1 b n 1) oTi i = _; rw [← hq]; refine lp_end ?_; first | (rw [show tK b n j = 7 from tK_end (by omega) (by omega)]; rfl) | exact decide_eq_false (by omega), hs2⟩⟩ dX4_term_51
        · refine lv_iload_n C.1 C.2.1 dX4_term_15 rfl (lv_at hl 2 rfl) ?_
          refine x_if_eq (tgt := 50) C ⟨by decide, by decide⟩ dX4_term_16 (by decide) (fun h => absurd h (by decide)) (fun _ => ?_)
          refine lv_aload_n C.1 C.2.1 dX4_term_19 rfl (lv_at hl 0 rfl) ?_
          refine g4 C hw 45 (by omega) rfl 3 (by decide) mw_278 (svi (x := tK b n j) hs2.2.1.2.1) dX4_term_20 ?_
          refine lv_bipush (v := II (-15)) C.1 C.2.1 dX4_term_23 (by decide) ?_
          refine x_icmp_ne (tgt := 50) C ⟨by have := g_MM 45003; have := hs2.2.1.2.1; omega, by have := g_MM 45003; have := hs2.2.1.2.1; omega⟩ ⟨by decide, by decide⟩ dX4_term_25 (by decide) (fun c25 => ?_) (fun c25 => ?_)
          · refine lv_iload_n C.1 C.2.1 dX4_term_50 rfl (lv_at hl 2 rfl) ?_
            subst hQQ; exact x_ireturn C hr hlk hw hS ⟨by decide, by decide⟩ (by decide) ⟨hx, Or.inl ⟨rfl, c1, j, by show chP b n (q1 b n 1) oTi i = _; rw [← hq]; refine lp_end ?_; first | (rw [show tK b n j = 7 from tK_end (by omega) (by omega)]; rfl) | exact decide_eq_false (by omega), hs2⟩⟩ dX4_term_51
          · obtain ⟨f2, rfl⟩ : ∃ f2, fu = f2 + 1 := ⟨fu - 1, by omega⟩
            have hop : oTi (tK b n j) = true := decide_eq_true (by omega)
            have ht7 := tK_7 (b := b) hs2.1.2 (show tK b n j ≠ 7 by omega)
            refine lv_aload_n C.1 C.2.1 dX4_term_28 rfl (lv_at hl 0 rfl) ?_
            refine x_cv (x_runV (n := 0) C hw hS hml hl.1 45 4 (by omega) rfl (by decide) rfl (c_X4_next l g MM hT b n hs2.1.1 (tE b n j) (tE_in hs2.1.2).2.1 hs2.2.1.1) mw_398 mw_400 mw_2 mw_122 mw_401 rfl rfl (by decide +kernel) ⟨Nat.le_of_ble_eq_true rfl, Nat.le_of_ble_eq_true rfl⟩ rfl rfl (Nat.le_of_ble_eq_true rfl) dX4_term_29 ⟨Nat.zero_le _, Nat.zero_le _⟩) hS (fun M29 H locs hp hw hS => ?_)
            have h29p := hp
            have g_M29 := hw.rg
            have hs1 := hs2.next h29p
            refine lv_aload_n C.1 C.2.1 dX4_term_32 rfl (lv_at hl 0 rfl) ?_
            refine lv_iload_n C.1 C.2.1 dX4_term_33 rfl (lv_at hl 1 rfl) ?_
            refine x_ci (x_runV (n := 1) C hw hS hml hl.1 45 4 (by omega) rfl (by decide) rfl (c_X4_single4 l g M29 hT b n (tE b n j) (c0 ++ c1) hs1) mw_457 mw_459 mw_11 mw_122 mw_460 rfl rfl (by decide +kernel) ⟨Nat.le_of_ble_eq_true rfl, Nat.le_of_ble_eq_true rfl⟩ rfl rfl (Nat.le_of_ble_eq_true rfl) dX4_term_34 ⟨Nat.zero_le _, Nat.zero_le _⟩) hS (fun r34 M34 H locs hr34 hp hw hS => ?_)
            rcases hp with ⟨h34f, (⟨er34, h34b⟩ | ⟨er34, h34b⟩)⟩
            · have g_M34 := hw.rg
              rw [er34]
              obtain ⟨c3, j3, eq3, hs3⟩ := h34b
              have hz3 := hs3.len
              have hk3 := (ok_q1 b n 1).r ht7.2 eq3
              refine lv_istore_n (lv' := [(2, .int (II 1)), (0, .ref (gA g 45)), (1, .int (II 4)), (3, .int (II (k : Int)))]) C.1 C.2.1 dX4_term_37 rfl hl (by decide) rfl (fun ls hl => ?_)
              refine lv_aload_n C.1 C.2.1 dX4_term_38 rfl (lv_at hl 1 rfl) ?_
              refine lv_bipush (v := II (-15)) C.1 C.2.1 dX4_term_39 (by decide) ?_
              refine x_cv (x_runV (n := 1) C hw hS hml hl.1 45 4 (by omega) rfl (by decide) rfl (c_X4_put l g M34 hT ((c0 ++ c1 ++ c3).length) (by omega) hs3.2.2.1 (-15) ⟨by decide, by decide⟩) mw_461 mw_463 mw_12 mw_122 mw_464 rfl rfl (by decide +kernel) ⟨Nat.le_of_ble_eq_true rfl, Nat.le_of_ble_eq_true rfl⟩ rfl rfl (Nat.le_of_ble_eq_true rfl) dX4_term_41 ⟨Nat.zero_le _, Nat.zero_le _⟩) hS (fun M41 H locs hp hw hS => ?_)
              have em41 := hp
              have hw : Wo g (putM M34 ((c0 ++ c1 ++ c3).length) (-15)) H := em41 ▸ hw
              refine lv_iinc (v := II ((k : Int) + 1)) (lv' := [(3, .int (II ((k : Int) + 1))), (2, .int (II 1)), (0, .ref (gA g 45)), (1, .int (II 4))]) C.1 C.2.1 dX4_term_44 hl (k := 3) rfl (II_add _ _) (by decide) rfl (fun ls hl => ?_)
              refine lv_goto (tgt := 8) C.1 C.2.1 dX4_term_47 (by decide) ?_
              have hs4 : RS (putM M34 (c0 ++ c1 ++ c3).length (-15)) b n j3 (c0 ++ (c1 ++ c3 ++ [tK b n j])) := by
                have := hs3.put (w := (-15)) (by rw [List.length_append]; have hz := hs2.len; omega)
                have e : c0 ++ (c1 ++ c3 ++ [tK b n j]) = c0 ++ c1 ++ c3 ++ [(-15)] := by rw [show tK b n j = (-15) by omega]; simp only [List.append_assoc]
                rw [e]; exact this
              exact ih8  (k + 1) f2 (c1 ++ c3 ++ [tK b n j]) j3 (putM M34 ((c0 ++ c1 ++ c3).length) (-15)) (by omega) (by omega) (by omega) hs4 ((lp_step hop eq3).symm.trans hq) (((hx.tr h29p.rx).tr h34f).tr putM_rx) _ _ _ hw hS (lv_sub hl [2, 3, 1, 0] rfl)
            · have g_M34 := hw.rg
              rw [er34]
              obtain ⟨q2, eq3, hf2⟩ := h34b
              obtain ⟨L2, hL2, hl2⟩ := hf2.2
              skip
              refine lv_istore_n (lv' := [(2, .int (II 0)), (0, .ref (gA g 45)), (1, .int (II 4)), (3, .int (II (k : Int)))]) C.1 C.2.1 dX4_term_37 rfl hl (by decide) rfl (fun ls hl => ?_)
              refine lv_aload_n C.1 C.2.1 dX4_term_38 rfl (lv_at hl 1 rfl) ?_
              refine lv_bipush (v := II (-15)) C.1 C.2.1 dX4_term_39 (by decide) ?_
              refine x_cv (x_runV (n := 1) C hw hS hml hl.1 45 4 (by omega) rfl (by decide) rfl (c_X4_put l g M34 hT L2 hL2 hl2 (-15) ⟨by decide, by decide⟩) mw_461 mw_463 mw_12 mw_122 mw_464 rfl rfl (by decide +kernel) ⟨Nat.le_of_ble_eq_true rfl, Nat.le_of_ble_eq_true rfl⟩ rfl rfl (Nat.le_of_ble_eq_true rfl) dX4_term_41 ⟨Nat.zero_le _, Nat.zero_le _⟩) hS (fun M41 H locs hp hw hS => ?_)
              have em41 := hp
              have hw : Wo g (putM M34 L2 (-15)) H := em41 ▸ hw
              refine lv_iinc (v := II ((k : Int) + 1)) (lv' := [(3, .int (II ((k : Int) + 1))), (2, .int (II 0)), (0, .ref (gA g 45)), (1, .int (II 4))]) C.1 C.2.1 dX4_term_44 hl (k := 3) rfl (II_add _ _) (by decide) rfl (fun ls hl => ?_)
              refine lv_goto (tgt := 8) C.1 C.2.1 dX4_term_47 (by decide) ?_
              refine lv_iload_n C.1 C.2.1 dX4_term_8 rfl (lv_at hl 0 rfl) ?_
              refine lv_sipush (v := II 160) C.1 C.2.1 dX4_term_9 (by decide) ?_
              refine x_icmp_ge (tgt := 50) C ⟨by omega, by omega⟩ ⟨by decide, by decide⟩ dX4_term_12 (by decide) (fun c12 => ?_) (fun c12 => ?_)
              · refine lv_iload_n C.1 C.2.1 dX4_term_50 rfl (lv_at hl 1 rfl) ?_
                subst hQQ; exact x_ireturn C hr hlk hw hS ⟨by decide, by decide⟩ (by decide) ⟨((hx.tr h29p.rx).tr h34f).tr putM_rx, Or.inr ⟨rfl, q2, by show chP b n (q1 b n 1) oTi i = _; rw [← hq]; exact lp_no hop eq3, hf2.put hL2 hl2⟩⟩ dX4_term_51
              · refine lv_iload_n C.1 C.2.1 dX4_term_15 rfl (lv_at hl 1 rfl) ?_
                refine x_if_eq (tgt := 50) C ⟨by decide, by decide⟩ dX4_term_16 (by decide) (fun _ => ?_) (fun h => absurd h (by decide))
                refine lv_iload_n C.1 C.2.1 dX4_term_50 rfl (lv_at hl 1 rfl) ?_
                subst hQQ; exact x_ireturn C hr hlk hw hS ⟨by decide, by decide⟩ (by decide) ⟨((hx.tr h29p.rx).tr h34f).tr putM_rx, Or.inr ⟨rfl, q2, by show chP b n (q1 b n 1) oTi i = _; rw [← hq]; exact lp_no hop eq3, hf2.put hL2 hl2⟩⟩ dX4_term_51
    exact L8 _ 0 161 c2 j2 M2 (Nat.lt_succ_self _) (by omega) (by omega) hs2 ((ch_ok eq2).symm) h2f _ _ _ hw hS (lv_sub hl [2, 3, 1, 0] rfl)
  · have g_M2 := hw.rg
    rw [er2]
    obtain ⟨q2, eq2, hf2⟩ := h2b
    obtain ⟨L2, hL2, hl2⟩ := hf2.2
    refine lv_istore_n (lv' := [(2, .int (II 0)), (0, .ref (gA g 45)), (1, .int (II 4))]) C.1 C.2.1 dX4_term_5 rfl hl (by decide) rfl (fun ls hl => ?_)
    refine lv_iconst (v := II 0) C.1 C.2.1 dX4_term_6 rfl ?_
    refine lv_istore_n (lv' := [(3, .int (II 0)), (2, .int (II 0)), (0, .ref (gA g 45)), (1, .int (II 4))]) C.1 C.2.1 dX4_term_7 rfl hl (by decide) rfl (fun ls hl => ?_)
    refine lv_iload_n C.1 C.2.1 dX4_term_8 rfl (lv_at hl 0 rfl) ?_
    refine lv_sipush (v := II 160) C.1 C.2.1 dX4_term_9 (by decide) ?_
    refine x_icmp_ge (tgt := 50) C ⟨by decide, by decide⟩ ⟨by decide, by decide⟩ dX4_term_12 (by decide) (fun h => absurd h (by decide)) (fun _ => ?_)
    refine lv_iload_n C.1 C.2.1 dX4_term_15 rfl (lv_at hl 1 rfl) ?_
    refine x_if_eq (tgt := 50) C ⟨by decide, by decide⟩ dX4_term_16 (by decide) (fun _ => ?_) (fun h => absurd h (by decide))
    refine lv_iload_n C.1 C.2.1 dX4_term_50 rfl (lv_at hl 1 rfl) ?_
    subst hQQ; exact x_ireturn C hr hlk hw hS ⟨by decide, by decide⟩ (by decide) ⟨h2f, Or.inr ⟨rfl, q2, by show chP b n (q1 b n 1) oTi i = _; exact ch_no eq2, hf2⟩⟩ dX4_term_51

set_option maxHeartbeats 4000000 in
set_option maxRecDepth 100000 in
theorem c_X4_sum4 (l : Launch) (g : Gm) (M : Nat → Int) (hT : LvR g) (b : Nat → Int) (n : Nat) (i : Nat) (c0 : List Int) (hs : RS M b n i c0) : CI l ({ cls := "RatedBySighs$Reader", name := "sum", desc := "(I)Z" } : Jvm.MethodName) cX4_sum 5 .boolean (rmm 15 328) g M [.ref (gA g 45), .int (II 4)] (fun r M' => (RX M M') ∧ ((r = 1 ∧ (∃ c2 j2, qS b n 1 i = .inr (c2, j2) ∧ RS M' b n j2 (c0 ++ c2))) ∨ (r = 0 ∧ (∃ q, qS b n 1 i = .inl q ∧ RF M' q)))) := by
  refine c_start (by decide) (Nat.le_of_ble_eq_true rfl) (fun p e s m below meth c ls C hr hlk hml hw hS hl => ?_)
  have hl : lv_has ls 5 [(0, .ref (gA g 45)), (1, .int (II 4))] := hl
  generalize ([.ref (gA g 45), .int (II 4)] : List Value).toArray = args at C ⊢
  generalize hQQ : MQ below (postI g (fun r M' => (RX M M') ∧ ((r = 1 ∧ (∃ c2 j2, qS b n 1 i = .inr (c2, j2) ∧ RS M' b n j2 (c0 ++ c2))) ∨ (r = 0 ∧ (∃ q, qS b n 1 i = .inl q ∧ RF M' q))))) args s 0 0 (ar g) = QQ
  have g_M := hw.rg
  have hN : 49 ≤ gN g := hT.1
  refine lv_aload_n C.1 C.2.1 dX4_sum_0 rfl (lv_at hl 0 rfl) ?_
  refine lv_iload_n C.1 C.2.1 dX4_sum_1 rfl (lv_at hl 1 rfl) ?_
  refine x_ci (x_runV (n := 1) C hw hS hml hl.1 45 4 (by omega) rfl (by decide) rfl (c_X4_term4 l g M hT b n i c0 hs) mw_469 mw_471 mw_14 mw_122 mw_472 rfl rfl (by decide +kernel) ⟨Nat.le_of_ble_eq_true rfl, Nat.le_of_ble_eq_true rfl⟩ rfl rfl (Nat.le_of_ble_eq_true rfl) dX4_sum_2 ⟨Nat.zero_le _, Nat.zero_le _⟩) hS (fun r2 M2 H locs hr2 hp hw hS => ?_)
  rcases hp with ⟨h2f, (⟨er2, h2b⟩ | ⟨er2, h2b⟩)⟩
  · have g_M2 := hw.rg
    rw [er2]
    obtain ⟨c2, j2, eq2, hs2⟩ := h2b
    have hz2 := hs2.len
    refine lv_istore_n (lv' := [(2, .int (II 1)), (0, .ref (gA g 45)), (1, .int (II 4))]) C.1 C.2.1 dX4_sum_5 rfl hl (by decide) rfl (fun ls hl => ?_)
    refine lv_iconst (v := II 0) C.1 C.2.1 dX4_sum_6 rfl ?_
    refine lv_istore_n (lv' := [(3, .int (II 0)), (2, .int (II 1)), (0, .ref (gA g 45)), (1, .int (II 4))]) C.1 C.2.1 dX4_sum_7 rfl hl (by decide) rfl (fun ls hl => ?_)
    have L8 : ∀ (f1 : Nat) (k : Nat) (fu : Nat) (c1 : List Int) (j : Nat) (MM : Nat → Int), (160 - k) < f1 → (k ≤ 160 ∧ k ≤ j ∧ j ≤ n ∧ n ≤ 160) → (n - j < fu) → (RS MM b n j (c0 ++ c1)) → (lpP b n (qT b n 1) oPl fu c1 j = chP b n (qT b n 1) oPl i) → (RX M MM) → ∀ (H : Heap) (locs : List Loc) (ls : Array Slot), Wo g MM H → va_S (ar g) s.heap H locs → lv_has ls 5 [(0, .ref (gA g 45)), (1, .int (II 4)), (2, .int (II 1)), (3, .int (II (k : Int)))] → W p l e (rmm 15 328) s m args below meth c H locs 0 0 QQ (F0 m 8 ls []) := by
      intro f1
      induction f1 with
      | zero => intro k fu c1 j MM hmu; exact absurd hmu (Nat.not_lt_zero _)
      | succ f1 ih =>
        intro k fu c1 j MM hmu h1 hfu hs2 hq hx H locs ls hw hS hl
        have ih8 := ih
        have g_MM := hw.rg
        refine lv_iload_n C.1 C.2.1 dX4_sum_8 rfl (lv_at hl 3 rfl) ?_
        refine lv_sipush (v := II 160) C.1 C.2.1 dX4_sum_9 (by decide) ?_
        refine x_icmp_ge (tgt := 65) C ⟨by omega, by omega⟩ ⟨by decide, by decide⟩ dX4_sum_12 (by decide) (fun c12 => ?_) (fun c12 => ?_)
        · refine lv_iload_n C.1 C.2.1 dX4_sum_65 rfl (lv_at hl 2 rfl) ?_
          subst hQQ; exact x_ireturn C hr hlk hw hS ⟨by decide, by decide⟩ (by decide) ⟨hx, Or.inl ⟨rfl, c1, j, by show chP b n (qT b n 1) oPl i = _; rw [← hq]; refine lp_end ?_; first | (rw [show tK b n j = 7 from tK_end (by omega) (by omega)]; rfl) | exact decide_eq_false (by omega), hs2⟩⟩ dX4_sum_66
        · refine lv_iload_n C.1 C.2.1 dX4_sum_15 rfl (lv_at hl 2 rfl) ?_
          refine x_if_eq (tgt := 65) C ⟨by decide, by decide⟩ dX4_sum_16 (by decide) (fun h => absurd h (by decide)) (fun _ => ?_)
          refine lv_aload_n C.1 C.2.1 dX4_sum_19 rfl (lv_at hl 0 rfl) ?_
          refine g4 C hw 45 (by omega) rfl 3 (by decide) mw_278 (svi (x := tK b n j) hs2.2.1.2.1) dX4_sum_20 ?_
          refine lv_bipush (v := II (-13)) C.1 C.2.1 dX4_sum_23 (by decide) ?_
          refine x_icmp_eq (tgt := 37) C ⟨by have := g_MM 45003; have := hs2.2.1.2.1; omega, by have := g_MM 45003; have := hs2.2.1.2.1; omega⟩ ⟨by decide, by decide⟩ dX4_sum_25 (by decide) (fun c25 => ?_) (fun c25 => ?_)
          · obtain ⟨f2, rfl⟩ : ∃ f2, fu = f2 + 1 := ⟨fu - 1, by omega⟩
            have hop : oPl (tK b n j) = true := decide_eq_true (by omega)
            have ht7 := tK_7 (b := b) hs2.1.2 (show tK b n j ≠ 7 by omega)
            refine lv_aload_n C.1 C.2.1 dX4_sum_37 rfl (lv_at hl 0 rfl) ?_
            refine g4 C hw 45 (by omega) rfl 3 (by decide) mw_278 (svi (x := tK b n j) hs2.2.1.2.1) dX4_sum_38 ?_
            refine lv_istore (lv' := [(4, .int (II (tK b n j))), (0, .ref (gA g 45)), (1, .int (II 4)), (2, .int (II 1)), (3, .int (II (k : Int)))]) C.1 C.2.1 dX4_sum_41 hl (by decide) rfl (fun ls hl => ?_)
            refine lv_aload_n C.1 C.2.1 dX4_sum_43 rfl (lv_at hl 1 rfl) ?_
            refine x_cv (x_runV (n := 0) C hw hS hml hl.1 45 4 (by omega) rfl (by decide) rfl (c_X4_next l g MM hT b n hs2.1.1 (tE b n j) (tE_in hs2.1.2).2.1 hs2.2.1.1) mw_398 mw_400 mw_2 mw_122 mw_401 rfl rfl (by decide +kernel) ⟨Nat.le_of_ble_eq_true rfl, Nat.le_of_ble_eq_true rfl⟩ rfl rfl (Nat.le_of_ble_eq_true rfl) dX4_sum_44 ⟨Nat.zero_le _, Nat.zero_le _⟩) hS (fun M44 H locs hp hw hS => ?_)
            have h44p := hp
            have g_M44 := hw.rg
            have hs1 := hs2.next h44p
            refine lv_aload_n C.1 C.2.1 dX4_sum_47 rfl (lv_at hl 1 rfl) ?_
            refine lv_iload_n C.1 C.2.1 dX4_sum_48 rfl (lv_at hl 2 rfl) ?_
            refine x_ci (x_runV (n := 1) C hw hS hml hl.1 45 4 (by omega) rfl (by decide) rfl (c_X4_term4 l g M44 hT b n (tE b n j) (c0 ++ c1) hs1) mw_469 mw_471 mw_14 mw_122 mw_472 rfl rfl (by decide +kernel) ⟨Nat.le_of_ble_eq_true rfl, Nat.le_of_ble_eq_true rfl⟩ rfl rfl (Nat.le_of_ble_eq_true rfl) dX4_sum_49 ⟨Nat.zero_le _, Nat.zero_le _⟩) hS (fun r49 M49 H locs hr49 hp hw hS => ?_)
            rcases hp with ⟨h49f, (⟨er49, h49b⟩ | ⟨er49, h49b⟩)⟩
            · have g_M49 := hw.rg
              rw [er49]
              obtain ⟨c3, j3, eq3, hs3⟩ := h49b
              have hz3 := hs3.len
              have hk3 := (ok_qT b n 1).r ht7.2 eq3
              refine lv_istore_n (lv' := [(2, .int (II 1)), (4, .int (II (tK b n j))), (0, .ref (gA g 45)), (1, .int (II 4)), (3, .int (II (k : Int)))]) C.1 C.2.1 dX4_sum_52 rfl hl (by decide) rfl (fun ls hl => ?_)
              refine lv_aload_n C.1 C.2.1 dX4_sum_53 rfl (lv_at hl 2 rfl) ?_
              refine lv_iload C.1 C.2.1 dX4_sum_54 (lv_at hl 1 rfl) ?_
              refine x_cv (x_runV (n := 1) C hw hS hml hl.1 45 4 (by omega) rfl (by decide) rfl (c_X4_put l g M49 hT ((c0 ++ c1 ++ c3).length) (by omega) hs3.2.2.1 (tK b n j) ⟨by have := g_MM 45003; have := hs2.2.1.2.1; omega, by have := g_MM 45003; have := hs2.2.1.2.1; omega⟩) mw_461 mw_463 mw_12 mw_122 mw_464 rfl rfl (by decide +kernel) ⟨Nat.le_of_ble_eq_true rfl, Nat.le_of_ble_eq_true rfl⟩ rfl rfl (Nat.le_of_ble_eq_true rfl) dX4_sum_56 ⟨Nat.zero_le _, Nat.zero_le _⟩) hS (fun M56 H locs hp hw hS => ?_)
              have em56 := hp
              have hw : Wo g (putM M49 ((c0 ++ c1 ++ c3).length) (tK b n j)) H := em56 ▸ hw
              refine lv_iinc (v := II ((k : Int) + 1)) (lv' := [(3, .int (II ((k : Int) + 1))), (2, .int (II 1)), (4, .int (II (tK b n j))), (0, .ref (gA g 45)), (1, .int (II 4))]) C.1 C.2.1 dX4_sum_59 hl (k := 4) rfl (II_add _ _) (by decide) rfl (fun ls hl => ?_)
              refine lv_goto (tgt := 8) C.1 C.2.1 dX4_sum_62 (by decide) ?_
              have hs4 : RS (putM M49 (c0 ++ c1 ++ c3).length (tK b n j)) b n j3 (c0 ++ (c1 ++ c3 ++ [tK b n j])) := by
                have := hs3.put (w := (tK b n j)) (by rw [List.length_append]; have hz := hs2.len; omega)
                have e : c0 ++ (c1 ++ c3 ++ [tK b n j]) = c0 ++ c1 ++ c3 ++ [tK b n j] := by simp only [List.append_assoc]
                rw [e]; exact this
              exact ih8  (k + 1) f2 (c1 ++ c3 ++ [tK b n j]) j3 (putM M49 ((c0 ++ c1 ++ c3).length) (tK b n j)) (by omega) (by omega) (by omega) hs4 ((lp_step hop eq3).symm.trans hq) (((hx.tr h44p.rx).tr h49f).tr putM_rx) _ _ _ hw hS (lv_sub hl [3, 4, 1, 0] rfl)
            · have g_M49 := hw.rg
              rw [er49]
              obtain ⟨q2, eq3, hf2⟩ := h49b
              obtain ⟨L2, hL2, hl2⟩ := hf2.2
              skip
              refine lv_istore_n (lv' := [(2, .int (II 0)), (4, .int (II (tK b n j))), (0, .ref (gA g 45)), (1, .int (II 4)), (3, .int (II (k : Int)))]) C.1 C.2.1 dX4_sum_52 rfl hl (by decide) rfl (fun ls hl => ?_)
              refine lv_aload_n C.1 C.2.1 dX4_sum_53 rfl (lv_at hl 2 rfl) ?_
              refine lv_iload C.1 C.2.1 dX4_sum_54 (lv_at hl 1 rfl) ?_
              refine x_cv (x_runV (n := 1) C hw hS hml hl.1 45 4 (by omega) rfl (by decide) rfl (c_X4_put l g M49 hT L2 hL2 hl2 (tK b n j) ⟨by have := g_MM 45003; have := hs2.2.1.2.1; omega, by have := g_MM 45003; have := hs2.2.1.2.1; omega⟩) mw_461 mw_463 mw_12 mw_122 mw_464 rfl rfl (by decide +kernel) ⟨Nat.le_of_ble_eq_true rfl, Nat.le_of_ble_eq_true rfl⟩ rfl rfl (Nat.le_of_ble_eq_true rfl) dX4_sum_56 ⟨Nat.zero_le _, Nat.zero_le _⟩) hS (fun M56 H locs hp hw hS => ?_)
              have em56 := hp
              have hw : Wo g (putM M49 L2 (tK b n j)) H := em56 ▸ hw
              refine lv_iinc (v := II ((k : Int) + 1)) (lv' := [(3, .int (II ((k : Int) + 1))), (2, .int (II 0)), (4, .int (II (tK b n j))), (0, .ref (gA g 45)), (1, .int (II 4))]) C.1 C.2.1 dX4_sum_59 hl (k := 4) rfl (II_add _ _) (by decide) rfl (fun ls hl => ?_)
              refine lv_goto (tgt := 8) C.1 C.2.1 dX4_sum_62 (by decide) ?_
              refine lv_iload_n C.1 C.2.1 dX4_sum_8 rfl (lv_at hl 0 rfl) ?_
              refine lv_sipush (v := II 160) C.1 C.2.1 dX4_sum_9 (by decide) ?_
              refine x_icmp_ge (tgt := 65) C ⟨by omega, by omega⟩ ⟨by decide, by decide⟩ dX4_sum_12 (by decide) (fun c12 => ?_) (fun c12 => ?_)
              · refine lv_iload_n C.1 C.2.1 dX4_sum_65 rfl (lv_at hl 1 rfl) ?_
                subst hQQ; exact x_ireturn C hr hlk hw hS ⟨by decide, by decide⟩ (by decide) ⟨((hx.tr h44p.rx).tr h49f).tr putM_rx, Or.inr ⟨rfl, q2, by show chP b n (qT b n 1) oPl i = _; rw [← hq]; exact lp_no hop eq3, hf2.put hL2 hl2⟩⟩ dX4_sum_66
              · refine lv_iload_n C.1 C.2.1 dX4_sum_15 rfl (lv_at hl 1 rfl) ?_
                refine x_if_eq (tgt := 65) C ⟨by decide, by decide⟩ dX4_sum_16 (by decide) (fun _ => ?_) (fun h => absurd h (by decide))
                refine lv_iload_n C.1 C.2.1 dX4_sum_65 rfl (lv_at hl 1 rfl) ?_
                subst hQQ; exact x_ireturn C hr hlk hw hS ⟨by decide, by decide⟩ (by decide) ⟨((hx.tr h44p.rx).tr h49f).tr putM_rx, Or.inr ⟨rfl, q2, by show chP b n (qT b n 1) oPl i = _; rw [← hq]; exact lp_no hop eq3, hf2.put hL2 hl2⟩⟩ dX4_sum_66
          · refine lv_aload_n C.1 C.2.1 dX4_sum_28 rfl (lv_at hl 0 rfl) ?_
            refine g4 C hw 45 (by omega) rfl 3 (by decide) mw_278 (svi (x := tK b n j) hs2.2.1.2.1) dX4_sum_29 ?_
            refine lv_bipush (v := II (-14)) C.1 C.2.1 dX4_sum_32 (by decide) ?_
            refine x_icmp_ne (tgt := 65) C ⟨by have := g_MM 45003; have := hs2.2.1.2.1; omega, by have := g_MM 45003; have := hs2.2.1.2.1; omega⟩ ⟨by decide, by decide⟩ dX4_sum_34 (by decide) (fun c34 => ?_) (fun c34 => ?_)
            · refine lv_iload_n C.1 C.2.1 dX4_sum_65 rfl (lv_at hl 2 rfl) ?_
              subst hQQ; exact x_ireturn C hr hlk hw hS ⟨by decide, by decide⟩ (by decide) ⟨hx, Or.inl ⟨rfl, c1, j, by show chP b n (qT b n 1) oPl i = _; rw [← hq]; refine lp_end ?_; first | (rw [show tK b n j = 7 from tK_end (by omega) (by omega)]; rfl) | exact decide_eq_false (by omega), hs2⟩⟩ dX4_sum_66
            · obtain ⟨f2, rfl⟩ : ∃ f2, fu = f2 + 1 := ⟨fu - 1, by omega⟩
              have hop : oPl (tK b n j) = true := decide_eq_true (by omega)
              have ht7 := tK_7 (b := b) hs2.1.2 (show tK b n j ≠ 7 by omega)
              refine lv_aload_n C.1 C.2.1 dX4_sum_37 rfl (lv_at hl 0 rfl) ?_
              refine g4 C hw 45 (by omega) rfl 3 (by decide) mw_278 (svi (x := tK b n j) hs2.2.1.2.1) dX4_sum_38 ?_
              refine lv_istore (lv' := [(4, .int (II (tK b n j))), (0, .ref (gA g 45)), (1, .int (II 4)), (2, .int (II 1)), (3, .int (II (k : Int)))]) C.1 C.2.1 dX4_sum_41 hl (by decide) rfl (fun ls hl => ?_)
              refine lv_aload_n C.1 C.2.1 dX4_sum_43 rfl (lv_at hl 1 rfl) ?_
              refine x_cv (x_runV (n := 0) C hw hS hml hl.1 45 4 (by omega) rfl (by decide) rfl (c_X4_next l g MM hT b n hs2.1.1 (tE b n j) (tE_in hs2.1.2).2.1 hs2.2.1.1) mw_398 mw_400 mw_2 mw_122 mw_401 rfl rfl (by decide +kernel) ⟨Nat.le_of_ble_eq_true rfl, Nat.le_of_ble_eq_true rfl⟩ rfl rfl (Nat.le_of_ble_eq_true rfl) dX4_sum_44 ⟨Nat.zero_le _, Nat.zero_le _⟩) hS (fun M44 H locs hp hw hS => ?_)
              have h44p := hp
              have g_M44 := hw.rg
              have hs1 := hs2.next h44p
              refine lv_aload_n C.1 C.2.1 dX4_sum_47 rfl (lv_at hl 1 rfl) ?_
              refine lv_iload_n C.1 C.2.1 dX4_sum_48 rfl (lv_at hl 2 rfl) ?_
              refine x_ci (x_runV (n := 1) C hw hS hml hl.1 45 4 (by omega) rfl (by decide) rfl (c_X4_term4 l g M44 hT b n (tE b n j) (c0 ++ c1) hs1) mw_469 mw_471 mw_14 mw_122 mw_472 rfl rfl (by decide +kernel) ⟨Nat.le_of_ble_eq_true rfl, Nat.le_of_ble_eq_true rfl⟩ rfl rfl (Nat.le_of_ble_eq_true rfl) dX4_sum_49 ⟨Nat.zero_le _, Nat.zero_le _⟩) hS (fun r49 M49 H locs hr49 hp hw hS => ?_)
              rcases hp with ⟨h49f, (⟨er49, h49b⟩ | ⟨er49, h49b⟩)⟩
              · have g_M49 := hw.rg
                rw [er49]
                obtain ⟨c3, j3, eq3, hs3⟩ := h49b
                have hz3 := hs3.len
                have hk3 := (ok_qT b n 1).r ht7.2 eq3
                refine lv_istore_n (lv' := [(2, .int (II 1)), (4, .int (II (tK b n j))), (0, .ref (gA g 45)), (1, .int (II 4)), (3, .int (II (k : Int)))]) C.1 C.2.1 dX4_sum_52 rfl hl (by decide) rfl (fun ls hl => ?_)
                refine lv_aload_n C.1 C.2.1 dX4_sum_53 rfl (lv_at hl 2 rfl) ?_
                refine lv_iload C.1 C.2.1 dX4_sum_54 (lv_at hl 1 rfl) ?_
                refine x_cv (x_runV (n := 1) C hw hS hml hl.1 45 4 (by omega) rfl (by decide) rfl (c_X4_put l g M49 hT ((c0 ++ c1 ++ c3).length) (by omega) hs3.2.2.1 (tK b n j) ⟨by have := g_MM 45003; have := hs2.2.1.2.1; omega, by have := g_MM 45003; have := hs2.2.1.2.1; omega⟩) mw_461 mw_463 mw_12 mw_122 mw_464 rfl rfl (by decide +kernel) ⟨Nat.le_of_ble_eq_true rfl, Nat.le_of_ble_eq_true rfl⟩ rfl rfl (Nat.le_of_ble_eq_true rfl) dX4_sum_56 ⟨Nat.zero_le _, Nat.zero_le _⟩) hS (fun M56 H locs hp hw hS => ?_)
                have em56 := hp
                have hw : Wo g (putM M49 ((c0 ++ c1 ++ c3).length) (tK b n j)) H := em56 ▸ hw
                refine lv_iinc (v := II ((k : Int) + 1)) (lv' := [(3, .int (II ((k : Int) + 1))), (2, .int (II 1)), (4, .int (II (tK b n j))), (0, .ref (gA g 45)), (1, .int (II 4))]) C.1 C.2.1 dX4_sum_59 hl (k := 4) rfl (II_add _ _) (by decide) rfl (fun ls hl => ?_)
                refine lv_goto (tgt := 8) C.1 C.2.1 dX4_sum_62 (by decide) ?_
                have hs4 : RS (putM M49 (c0 ++ c1 ++ c3).length (tK b n j)) b n j3 (c0 ++ (c1 ++ c3 ++ [tK b n j])) := by
                  have := hs3.put (w := (tK b n j)) (by rw [List.length_append]; have hz := hs2.len; omega)
                  have e : c0 ++ (c1 ++ c3 ++ [tK b n j]) = c0 ++ c1 ++ c3 ++ [tK b n j] := by simp only [List.append_assoc]
                  rw [e]; exact this
                exact ih8  (k + 1) f2 (c1 ++ c3 ++ [tK b n j]) j3 (putM M49 ((c0 ++ c1 ++ c3).length) (tK b n j)) (by omega) (by omega) (by omega) hs4 ((lp_step hop eq3).symm.trans hq) (((hx.tr h44p.rx).tr h49f).tr putM_rx) _ _ _ hw hS (lv_sub hl [3, 4, 1, 0] rfl)
              · have g_M49 := hw.rg
                rw [er49]
                obtain ⟨q2, eq3, hf2⟩ := h49b
                obtain ⟨L2, hL2, hl2⟩ := hf2.2
                skip
                refine lv_istore_n (lv' := [(2, .int (II 0)), (4, .int (II (tK b n j))), (0, .ref (gA g 45)), (1, .int (II 4)), (3, .int (II (k : Int)))]) C.1 C.2.1 dX4_sum_52 rfl hl (by decide) rfl (fun ls hl => ?_)
                refine lv_aload_n C.1 C.2.1 dX4_sum_53 rfl (lv_at hl 2 rfl) ?_
                refine lv_iload C.1 C.2.1 dX4_sum_54 (lv_at hl 1 rfl) ?_
                refine x_cv (x_runV (n := 1) C hw hS hml hl.1 45 4 (by omega) rfl (by decide) rfl (c_X4_put l g M49 hT L2 hL2 hl2 (tK b n j) ⟨by have := g_MM 45003; have := hs2.2.1.2.1; omega, by have := g_MM 45003; have := hs2.2.1.2.1; omega⟩) mw_461 mw_463 mw_12 mw_122 mw_464 rfl rfl (by decide +kernel) ⟨Nat.le_of_ble_eq_true rfl, Nat.le_of_ble_eq_true rfl⟩ rfl rfl (Nat.le_of_ble_eq_true rfl) dX4_sum_56 ⟨Nat.zero_le _, Nat.zero_le _⟩) hS (fun M56 H locs hp hw hS => ?_)
                have em56 := hp
                have hw : Wo g (putM M49 L2 (tK b n j)) H := em56 ▸ hw
                refine lv_iinc (v := II ((k : Int) + 1)) (lv' := [(3, .int (II ((k : Int) + 1))), (2, .int (II 0)), (4, .int (II (tK b n j))), (0, .ref (gA g 45)), (1, .int (II 4))]) C.1 C.2.1 dX4_sum_59 hl (k := 4) rfl (II_add _ _) (by decide) rfl (fun ls hl => ?_)
                refine lv_goto (tgt := 8) C.1 C.2.1 dX4_sum_62 (by decide) ?_
                refine lv_iload_n C.1 C.2.1 dX4_sum_8 rfl (lv_at hl 0 rfl) ?_
                refine lv_sipush (v := II 160) C.1 C.2.1 dX4_sum_9 (by decide) ?_
                refine x_icmp_ge (tgt := 65) C ⟨by omega, by omega⟩ ⟨by decide, by decide⟩ dX4_sum_12 (by decide) (fun c12 => ?_) (fun c12 => ?_)
                · refine lv_iload_n C.1 C.2.1 dX4_sum_65 rfl (lv_at hl 1 rfl) ?_
                  subst hQQ; exact x_ireturn C hr hlk hw hS ⟨by decide, by decide⟩ (by decide) ⟨((hx.tr h44p.rx).tr h49f).tr putM_rx, Or.inr ⟨rfl, q2, by show chP b n (qT b n 1) oPl i = _; rw [← hq]; exact lp_no hop eq3, hf2.put hL2 hl2⟩⟩ dX4_sum_66
                · refine lv_iload_n C.1 C.2.1 dX4_sum_15 rfl (lv_at hl 1 rfl) ?_
                  refine x_if_eq (tgt := 65) C ⟨by decide, by decide⟩ dX4_sum_16 (by decide) (fun _ => ?_) (fun h => absurd h (by decide))
                  refine lv_iload_n C.1 C.2.1 dX4_sum_65 rfl (lv_at hl 1 rfl) ?_
                  subst hQQ; exact x_ireturn C hr hlk hw hS ⟨by decide, by decide⟩ (by decide) ⟨((hx.tr h44p.rx).tr h49f).tr putM_rx, Or.inr ⟨rfl, q2, by show chP b n (qT b n 1) oPl i = _; rw [← hq]; exact lp_no hop eq3, hf2.put hL2 hl2⟩⟩ dX4_sum_66
    exact L8 _ 0 161 c2 j2 M2 (Nat.lt_succ_self _) (by omega) (by omega) hs2 ((ch_ok eq2).symm) h2f _ _ _ hw hS (lv_sub hl [2, 3, 1, 0] rfl)
  · have g_M2 := hw.rg
    rw [er2]
    obtain ⟨q2, eq2, hf2⟩ := h2b
    obtain ⟨L2, hL2, hl2⟩ := hf2.2
    refine lv_istore_n (lv' := [(2, .int (II 0)), (0, .ref (gA g 45)), (1, .int (II 4))]) C.1 C.2.1 dX4_sum_5 rfl hl (by decide) rfl (fun ls hl => ?_)
    refine lv_iconst (v := II 0) C.1 C.2.1 dX4_sum_6 rfl ?_
    refine lv_istore_n (lv' := [(3, .int (II 0)), (2, .int (II 0)), (0, .ref (gA g 45)), (1, .int (II 4))]) C.1 C.2.1 dX4_sum_7 rfl hl (by decide) rfl (fun ls hl => ?_)
    refine lv_iload_n C.1 C.2.1 dX4_sum_8 rfl (lv_at hl 0 rfl) ?_
    refine lv_sipush (v := II 160) C.1 C.2.1 dX4_sum_9 (by decide) ?_
    refine x_icmp_ge (tgt := 65) C ⟨by decide, by decide⟩ ⟨by decide, by decide⟩ dX4_sum_12 (by decide) (fun h => absurd h (by decide)) (fun _ => ?_)
    refine lv_iload_n C.1 C.2.1 dX4_sum_15 rfl (lv_at hl 1 rfl) ?_
    refine x_if_eq (tgt := 65) C ⟨by decide, by decide⟩ dX4_sum_16 (by decide) (fun _ => ?_) (fun h => absurd h (by decide))
    refine lv_iload_n C.1 C.2.1 dX4_sum_65 rfl (lv_at hl 1 rfl) ?_
    subst hQQ; exact x_ireturn C hr hlk hw hS ⟨by decide, by decide⟩ (by decide) ⟨h2f, Or.inr ⟨rfl, q2, by show chP b n (qT b n 1) oPl i = _; exact ch_no eq2, hf2⟩⟩ dX4_sum_66

set_option maxHeartbeats 4000000 in
set_option maxRecDepth 100000 in
theorem c_X4_denied4 (l : Launch) (g : Gm) (M : Nat → Int) (hT : LvR g) (b : Nat → Int) (n : Nat) (i : Nat) (c0 : List Int) (hs : RS M b n i c0) : CI l ({ cls := "RatedBySighs$Reader", name := "denied", desc := "(I)Z" } : Jvm.MethodName) cX4_denied 4 .boolean (rmm 16 352) g M [.ref (gA g 45), .int (II 4)] (fun r M' => (RX M M') ∧ ((r = 1 ∧ (∃ c2 j2, qN b n 1 i = .inr (c2, j2) ∧ RS M' b n j2 (c0 ++ c2))) ∨ (r = 0 ∧ (∃ q, qN b n 1 i = .inl q ∧ RF M' q)))) := by
  refine c_start (by decide) (Nat.le_of_ble_eq_true rfl) (fun p e s m below meth c ls C hr hlk hml hw hS hl => ?_)
  have hl : lv_has ls 4 [(0, .ref (gA g 45)), (1, .int (II 4))] := hl
  have g_M := hw.rg
  have hN : 49 ≤ gN g := hT.1
  refine lv_aload_n C.1 C.2.1 dX4_denied_0 rfl (lv_at hl 0 rfl) ?_
  refine g4 C hw 45 (by omega) rfl 3 (by decide) mw_278 (svi (x := tK b n i) hs.2.1.2.1) dX4_denied_1 ?_
  refine lv_bipush (v := II (-8)) C.1 C.2.1 dX4_denied_4 (by decide) ?_
  refine x_icmp_ne (tgt := 17) C ⟨by have := g_M 45003; have := hs.2.1.2.1; omega, by have := g_M 45003; have := hs.2.1.2.1; omega⟩ ⟨by decide, by decide⟩ dX4_denied_6 (by decide) (fun c6 => ?_) (fun c6 => ?_)
  · refine lv_aload_n C.1 C.2.1 dX4_denied_17 rfl (lv_at hl 0 rfl) ?_
    refine lv_iload_n C.1 C.2.1 dX4_denied_18 rfl (lv_at hl 1 rfl) ?_
    refine x_ci (x_runV (n := 1) C hw hS hml hl.1 45 4 (by omega) rfl (by decide) rfl (c_X4_sum4 l g M hT b n i c0 hs) mw_465 mw_467 mw_13 mw_122 mw_468 rfl rfl (by decide +kernel) ⟨Nat.le_of_ble_eq_true rfl, Nat.le_of_ble_eq_true rfl⟩ rfl rfl (Nat.le_of_ble_eq_true rfl) dX4_denied_19 ⟨Nat.zero_le _, Nat.zero_le _⟩) hS (fun r19 M19 H locs hr19 hp hw hS => ?_)
    rcases hp with ⟨h19f, (⟨er19, h19b⟩ | ⟨er19, h19b⟩)⟩
    · have g_M19 := hw.rg
      rw [er19]
      obtain ⟨c2, j2, eq2, hs2⟩ := h19b
      have hz2 := hs2.len
      refine x_if_ne (tgt := 27) C ⟨by decide, by decide⟩ dX4_denied_22 (by decide) (fun _ => ?_) (fun h => absurd h (by decide))
      refine lv_aload_n C.1 C.2.1 dX4_denied_27 rfl (lv_at hl 0 rfl) ?_
      refine g4 C hw 45 (by omega) rfl 3 (by decide) mw_278 (svi (x := tK b n j2) hs2.2.1.2.1) dX4_denied_28 ?_
      refine lv_bipush (v := II (-11)) C.1 C.2.1 dX4_denied_31 (by decide) ?_
      refine x_icmp_eq (tgt := 47) C ⟨by have := g_M19 45003; have := hs2.2.1.2.1; omega, by have := g_M19 45003; have := hs2.2.1.2.1; omega⟩ ⟨by decide, by decide⟩ dX4_denied_33 (by decide) (fun c33 => ?_) (fun c33 => ?_)
      · have ht7 := tK_7 (b := b) hs2.1.2 (show tK b n j2 ≠ 7 by omega)
        refine lv_aload_n C.1 C.2.1 dX4_denied_47 rfl (lv_at hl 0 rfl) ?_
        refine g4 C hw 45 (by omega) rfl 3 (by decide) mw_278 (svi (x := tK b n j2) hs2.2.1.2.1) dX4_denied_48 ?_
        refine lv_istore_n (lv' := [(2, .int (II (tK b n j2))), (0, .ref (gA g 45)), (1, .int (II 4))]) C.1 C.2.1 dX4_denied_51 rfl hl (by decide) rfl (fun ls hl => ?_)
        refine lv_aload_n C.1 C.2.1 dX4_denied_52 rfl (lv_at hl 1 rfl) ?_
        refine x_cv (x_runV (n := 0) C hw hS hml hl.1 45 4 (by omega) rfl (by decide) rfl (c_X4_next l g M19 hT b n hs2.1.1 (tE b n j2) (tE_in hs2.1.2).2.1 hs2.2.1.1) mw_398 mw_400 mw_2 mw_122 mw_401 rfl rfl (by decide +kernel) ⟨Nat.le_of_ble_eq_true rfl, Nat.le_of_ble_eq_true rfl⟩ rfl rfl (Nat.le_of_ble_eq_true rfl) dX4_denied_53 ⟨Nat.zero_le _, Nat.zero_le _⟩) hS (fun M53 H locs hp hw hS => ?_)
        have h53p := hp
        have g_M53 := hw.rg
        have hs1 := hs2.next h53p
        refine lv_aload_n C.1 C.2.1 dX4_denied_56 rfl (lv_at hl 1 rfl) ?_
        refine lv_iload_n C.1 C.2.1 dX4_denied_57 rfl (lv_at hl 2 rfl) ?_
        refine x_ci (x_runV (n := 1) C hw hS hml hl.1 45 4 (by omega) rfl (by decide) rfl (c_X4_sum4 l g M53 hT b n (tE b n j2) (c0 ++ c2) hs1) mw_465 mw_467 mw_13 mw_122 mw_468 rfl rfl (by decide +kernel) ⟨Nat.le_of_ble_eq_true rfl, Nat.le_of_ble_eq_true rfl⟩ rfl rfl (Nat.le_of_ble_eq_true rfl) dX4_denied_58 ⟨Nat.zero_le _, Nat.zero_le _⟩) hS (fun r58 M58 H locs hr58 hp hw hS => ?_)
        rcases hp with ⟨h58f, (⟨er58, h58b⟩ | ⟨er58, h58b⟩)⟩
        · have g_M58 := hw.rg
          rw [er58]
          obtain ⟨c3, j3, eq3, hs3⟩ := h58b
          have hz3 := hs3.len
          have hk3 := (ok_qS b n 1).r ht7.2 eq3
          refine lv_istore_n (lv' := [(3, .int (II 1)), (2, .int (II (tK b n j2))), (0, .ref (gA g 45)), (1, .int (II 4))]) C.1 C.2.1 dX4_denied_61 rfl hl (by decide) rfl (fun ls hl => ?_)
          refine lv_aload_n C.1 C.2.1 dX4_denied_62 rfl (lv_at hl 2 rfl) ?_
          refine lv_iload_n C.1 C.2.1 dX4_denied_63 rfl (lv_at hl 1 rfl) ?_
          refine x_cv (x_runV (n := 1) C hw hS hml hl.1 45 4 (by omega) rfl (by decide) rfl (c_X4_put l g M58 hT ((c0 ++ c2 ++ c3).length) (by omega) hs3.2.2.1 (tK b n j2) ⟨by have := g_M19 45003; have := hs2.2.1.2.1; omega, by have := g_M19 45003; have := hs2.2.1.2.1; omega⟩) mw_461 mw_463 mw_12 mw_122 mw_464 rfl rfl (by decide +kernel) ⟨Nat.le_of_ble_eq_true rfl, Nat.le_of_ble_eq_true rfl⟩ rfl rfl (Nat.le_of_ble_eq_true rfl) dX4_denied_64 ⟨Nat.zero_le _, Nat.zero_le _⟩) hS (fun M64 H locs hp hw hS => ?_)
          have em64 := hp
          have hw : Wo g (putM M58 ((c0 ++ c2 ++ c3).length) (tK b n j2)) H := em64 ▸ hw
          refine lv_iload_n C.1 C.2.1 dX4_denied_67 rfl (lv_at hl 0 rfl) ?_
          exact x_ireturn C hr hlk hw hS ⟨by decide, by decide⟩ (by decide) ⟨((h19f.tr h53p.rx).tr h58f).tr putM_rx, Or.inl ⟨rfl, c2 ++ c3 ++ [tK b n j2], j3, by rw [qN_s]; exact pN_two c6 eq2 (by omega) eq3, by have := hs3.put (w := tK b n j2) (by rw [List.length_append]; have hz := hs2.len; omega); rw [← List.append_assoc, ← List.append_assoc]; exact this⟩⟩ dX4_denied_68
        · have g_M58 := hw.rg
          rw [er58]
          obtain ⟨q2, eq3, hf2⟩ := h58b
          obtain ⟨L2, hL2, hl2⟩ := hf2.2
          refine lv_istore_n (lv' := [(3, .int (II 0)), (2, .int (II (tK b n j2))), (0, .ref (gA g 45)), (1, .int (II 4))]) C.1 C.2.1 dX4_denied_61 rfl hl (by decide) rfl (fun ls hl => ?_)
          refine lv_aload_n C.1 C.2.1 dX4_denied_62 rfl (lv_at hl 2 rfl) ?_
          refine lv_iload_n C.1 C.2.1 dX4_denied_63 rfl (lv_at hl 1 rfl) ?_
          refine x_cv (x_runV (n := 1) C hw hS hml hl.1 45 4 (by omega) rfl (by decide) rfl (c_X4_put l g M58 hT L2 hL2 hl2 (tK b n j2) ⟨by have := g_M19 45003; have := hs2.2.1.2.1; omega, by have := g_M19 45003; have := hs2.2.1.2.1; omega⟩) mw_461 mw_463 mw_12 mw_122 mw_464 rfl rfl (by decide +kernel) ⟨Nat.le_of_ble_eq_true rfl, Nat.le_of_ble_eq_true rfl⟩ rfl rfl (Nat.le_of_ble_eq_true rfl) dX4_denied_64 ⟨Nat.zero_le _, Nat.zero_le _⟩) hS (fun M64 H locs hp hw hS => ?_)
          have em64 := hp
          have hw : Wo g (putM M58 L2 (tK b n j2)) H := em64 ▸ hw
          refine lv_iload_n C.1 C.2.1 dX4_denied_67 rfl (lv_at hl 0 rfl) ?_
          exact x_ireturn C hr hlk hw hS ⟨by decide, by decide⟩ (by decide) ⟨((h19f.tr h53p.rx).tr h58f).tr putM_rx, Or.inr ⟨rfl, q2, by rw [qN_s]; exact pN_twon c6 eq2 (by omega) eq3, hf2.put hL2 hl2⟩⟩ dX4_denied_68
      · refine lv_aload_n C.1 C.2.1 dX4_denied_36 rfl (lv_at hl 0 rfl) ?_
        refine g4 C hw 45 (by omega) rfl 3 (by decide) mw_278 (svi (x := tK b n j2) hs2.2.1.2.1) dX4_denied_37 ?_
        refine lv_bipush (v := II (-12)) C.1 C.2.1 dX4_denied_40 (by decide) ?_
        refine x_icmp_eq (tgt := 47) C ⟨by have := g_M19 45003; have := hs2.2.1.2.1; omega, by have := g_M19 45003; have := hs2.2.1.2.1; omega⟩ ⟨by decide, by decide⟩ dX4_denied_42 (by decide) (fun c42 => ?_) (fun c42 => ?_)
        · have ht7 := tK_7 (b := b) hs2.1.2 (show tK b n j2 ≠ 7 by omega)
          refine lv_aload_n C.1 C.2.1 dX4_denied_47 rfl (lv_at hl 0 rfl) ?_
          refine g4 C hw 45 (by omega) rfl 3 (by decide) mw_278 (svi (x := tK b n j2) hs2.2.1.2.1) dX4_denied_48 ?_
          refine lv_istore_n (lv' := [(2, .int (II (tK b n j2))), (0, .ref (gA g 45)), (1, .int (II 4))]) C.1 C.2.1 dX4_denied_51 rfl hl (by decide) rfl (fun ls hl => ?_)
          refine lv_aload_n C.1 C.2.1 dX4_denied_52 rfl (lv_at hl 1 rfl) ?_
          refine x_cv (x_runV (n := 0) C hw hS hml hl.1 45 4 (by omega) rfl (by decide) rfl (c_X4_next l g M19 hT b n hs2.1.1 (tE b n j2) (tE_in hs2.1.2).2.1 hs2.2.1.1) mw_398 mw_400 mw_2 mw_122 mw_401 rfl rfl (by decide +kernel) ⟨Nat.le_of_ble_eq_true rfl, Nat.le_of_ble_eq_true rfl⟩ rfl rfl (Nat.le_of_ble_eq_true rfl) dX4_denied_53 ⟨Nat.zero_le _, Nat.zero_le _⟩) hS (fun M53 H locs hp hw hS => ?_)
          have h53p := hp
          have g_M53 := hw.rg
          have hs1 := hs2.next h53p
          refine lv_aload_n C.1 C.2.1 dX4_denied_56 rfl (lv_at hl 1 rfl) ?_
          refine lv_iload_n C.1 C.2.1 dX4_denied_57 rfl (lv_at hl 2 rfl) ?_
          refine x_ci (x_runV (n := 1) C hw hS hml hl.1 45 4 (by omega) rfl (by decide) rfl (c_X4_sum4 l g M53 hT b n (tE b n j2) (c0 ++ c2) hs1) mw_465 mw_467 mw_13 mw_122 mw_468 rfl rfl (by decide +kernel) ⟨Nat.le_of_ble_eq_true rfl, Nat.le_of_ble_eq_true rfl⟩ rfl rfl (Nat.le_of_ble_eq_true rfl) dX4_denied_58 ⟨Nat.zero_le _, Nat.zero_le _⟩) hS (fun r58 M58 H locs hr58 hp hw hS => ?_)
          rcases hp with ⟨h58f, (⟨er58, h58b⟩ | ⟨er58, h58b⟩)⟩
          · have g_M58 := hw.rg
            rw [er58]
            obtain ⟨c3, j3, eq3, hs3⟩ := h58b
            have hz3 := hs3.len
            have hk3 := (ok_qS b n 1).r ht7.2 eq3
            refine lv_istore_n (lv' := [(3, .int (II 1)), (2, .int (II (tK b n j2))), (0, .ref (gA g 45)), (1, .int (II 4))]) C.1 C.2.1 dX4_denied_61 rfl hl (by decide) rfl (fun ls hl => ?_)
            refine lv_aload_n C.1 C.2.1 dX4_denied_62 rfl (lv_at hl 2 rfl) ?_
            refine lv_iload_n C.1 C.2.1 dX4_denied_63 rfl (lv_at hl 1 rfl) ?_
            refine x_cv (x_runV (n := 1) C hw hS hml hl.1 45 4 (by omega) rfl (by decide) rfl (c_X4_put l g M58 hT ((c0 ++ c2 ++ c3).length) (by omega) hs3.2.2.1 (tK b n j2) ⟨by have := g_M19 45003; have := hs2.2.1.2.1; omega, by have := g_M19 45003; have := hs2.2.1.2.1; omega⟩) mw_461 mw_463 mw_12 mw_122 mw_464 rfl rfl (by decide +kernel) ⟨Nat.le_of_ble_eq_true rfl, Nat.le_of_ble_eq_true rfl⟩ rfl rfl (Nat.le_of_ble_eq_true rfl) dX4_denied_64 ⟨Nat.zero_le _, Nat.zero_le _⟩) hS (fun M64 H locs hp hw hS => ?_)
            have em64 := hp
            have hw : Wo g (putM M58 ((c0 ++ c2 ++ c3).length) (tK b n j2)) H := em64 ▸ hw
            refine lv_iload_n C.1 C.2.1 dX4_denied_67 rfl (lv_at hl 0 rfl) ?_
            exact x_ireturn C hr hlk hw hS ⟨by decide, by decide⟩ (by decide) ⟨((h19f.tr h53p.rx).tr h58f).tr putM_rx, Or.inl ⟨rfl, c2 ++ c3 ++ [tK b n j2], j3, by rw [qN_s]; exact pN_two c6 eq2 (by omega) eq3, by have := hs3.put (w := tK b n j2) (by rw [List.length_append]; have hz := hs2.len; omega); rw [← List.append_assoc, ← List.append_assoc]; exact this⟩⟩ dX4_denied_68
          · have g_M58 := hw.rg
            rw [er58]
            obtain ⟨q2, eq3, hf2⟩ := h58b
            obtain ⟨L2, hL2, hl2⟩ := hf2.2
            refine lv_istore_n (lv' := [(3, .int (II 0)), (2, .int (II (tK b n j2))), (0, .ref (gA g 45)), (1, .int (II 4))]) C.1 C.2.1 dX4_denied_61 rfl hl (by decide) rfl (fun ls hl => ?_)
            refine lv_aload_n C.1 C.2.1 dX4_denied_62 rfl (lv_at hl 2 rfl) ?_
            refine lv_iload_n C.1 C.2.1 dX4_denied_63 rfl (lv_at hl 1 rfl) ?_
            refine x_cv (x_runV (n := 1) C hw hS hml hl.1 45 4 (by omega) rfl (by decide) rfl (c_X4_put l g M58 hT L2 hL2 hl2 (tK b n j2) ⟨by have := g_M19 45003; have := hs2.2.1.2.1; omega, by have := g_M19 45003; have := hs2.2.1.2.1; omega⟩) mw_461 mw_463 mw_12 mw_122 mw_464 rfl rfl (by decide +kernel) ⟨Nat.le_of_ble_eq_true rfl, Nat.le_of_ble_eq_true rfl⟩ rfl rfl (Nat.le_of_ble_eq_true rfl) dX4_denied_64 ⟨Nat.zero_le _, Nat.zero_le _⟩) hS (fun M64 H locs hp hw hS => ?_)
            have em64 := hp
            have hw : Wo g (putM M58 L2 (tK b n j2)) H := em64 ▸ hw
            refine lv_iload_n C.1 C.2.1 dX4_denied_67 rfl (lv_at hl 0 rfl) ?_
            exact x_ireturn C hr hlk hw hS ⟨by decide, by decide⟩ (by decide) ⟨((h19f.tr h53p.rx).tr h58f).tr putM_rx, Or.inr ⟨rfl, q2, by rw [qN_s]; exact pN_twon c6 eq2 (by omega) eq3, hf2.put hL2 hl2⟩⟩ dX4_denied_68
        · refine lv_iconst (v := II 1) C.1 C.2.1 dX4_denied_45 rfl ?_
          exact x_ireturn C hr hlk hw hS ⟨by decide, by decide⟩ (by decide) ⟨h19f, Or.inl ⟨rfl, c2, j2, by rw [qN_s]; exact pN_one c6 eq2 (by omega), hs2⟩⟩ dX4_denied_46
    · have g_M19 := hw.rg
      rw [er19]
      obtain ⟨q2, eq2, hf2⟩ := h19b
      obtain ⟨L2, hL2, hl2⟩ := hf2.2
      refine x_if_ne (tgt := 27) C ⟨by decide, by decide⟩ dX4_denied_22 (by decide) (fun h => absurd h (by decide)) (fun _ => ?_)
      refine lv_iconst (v := II 0) C.1 C.2.1 dX4_denied_25 rfl ?_
      exact x_ireturn C hr hlk hw hS ⟨by decide, by decide⟩ (by decide) ⟨h19f, Or.inr ⟨rfl, q2, by rw [qN_s]; exact pN_no c6 eq2, hf2⟩⟩ dX4_denied_26
  · refine lv_aload_n C.1 C.2.1 dX4_denied_9 rfl (lv_at hl 0 rfl) ?_
    refine lv_bipush (v := II (-8)) C.1 C.2.1 dX4_denied_10 (by decide) ?_
    refine lv_iload_n C.1 C.2.1 dX4_denied_12 rfl (lv_at hl 1 rfl) ?_
    refine x_ci (x_runV (n := 2) C hw hS hml hl.1 45 4 (by omega) rfl (by decide) rfl (c_X4_prefixed8_4 l g M hT b n i c0 hs (by omega)) mw_453 mw_455 mw_10 mw_122 mw_456 rfl rfl (by decide +kernel) ⟨Nat.le_of_ble_eq_true rfl, Nat.le_of_ble_eq_true rfl⟩ rfl rfl (Nat.le_of_ble_eq_true rfl) dX4_denied_13 ⟨Nat.zero_le _, Nat.zero_le _⟩) hS (fun r13 M13 H locs hr13 hp hw hS => ?_)
    rcases hp with ⟨h13f, (⟨er13, h13b⟩ | ⟨er13, h13b⟩)⟩
    · have g_M13 := hw.rg
      rw [er13]
      exact x_ireturn C hr hlk hw hS ⟨by decide, by decide⟩ (by decide) ⟨h13f, Or.inl ⟨rfl, h13b⟩⟩ dX4_denied_16
    · have g_M13 := hw.rg
      rw [er13]
      exact x_ireturn C hr hlk hw hS ⟨by decide, by decide⟩ (by decide) ⟨h13f, Or.inr ⟨rfl, h13b⟩⟩ dX4_denied_16

set_option maxHeartbeats 4000000 in
set_option maxRecDepth 100000 in
theorem c_X4_both4 (l : Launch) (g : Gm) (M : Nat → Int) (hT : LvR g) (b : Nat → Int) (n : Nat) (i : Nat) (c0 : List Int) (hs : RS M b n i c0) : CI l ({ cls := "RatedBySighs$Reader", name := "both", desc := "(I)Z" } : Jvm.MethodName) cX4_both 4 .boolean (rmm 17 375) g M [.ref (gA g 45), .int (II 4)] (fun r M' => (RX M M') ∧ ((r = 1 ∧ (∃ c2 j2, qA b n 1 i = .inr (c2, j2) ∧ RS M' b n j2 (c0 ++ c2))) ∨ (r = 0 ∧ (∃ q, qA b n 1 i = .inl q ∧ RF M' q)))) := by
  refine c_start (by decide) (Nat.le_of_ble_eq_true rfl) (fun p e s m below meth c ls C hr hlk hml hw hS hl => ?_)
  have hl : lv_has ls 4 [(0, .ref (gA g 45)), (1, .int (II 4))] := hl
  generalize ([.ref (gA g 45), .int (II 4)] : List Value).toArray = args at C ⊢
  generalize hQQ : MQ below (postI g (fun r M' => (RX M M') ∧ ((r = 1 ∧ (∃ c2 j2, qA b n 1 i = .inr (c2, j2) ∧ RS M' b n j2 (c0 ++ c2))) ∨ (r = 0 ∧ (∃ q, qA b n 1 i = .inl q ∧ RF M' q))))) args s 0 0 (ar g) = QQ
  have g_M := hw.rg
  have hN : 49 ≤ gN g := hT.1
  refine lv_aload_n C.1 C.2.1 dX4_both_0 rfl (lv_at hl 0 rfl) ?_
  refine lv_iload_n C.1 C.2.1 dX4_both_1 rfl (lv_at hl 1 rfl) ?_
  refine x_ci (x_runV (n := 1) C hw hS hml hl.1 45 4 (by omega) rfl (by decide) rfl (c_X4_denied4 l g M hT b n i c0 hs) mw_449 mw_451 mw_9 mw_122 mw_452 rfl rfl (by decide +kernel) ⟨Nat.le_of_ble_eq_true rfl, Nat.le_of_ble_eq_true rfl⟩ rfl rfl (Nat.le_of_ble_eq_true rfl) dX4_both_2 ⟨Nat.zero_le _, Nat.zero_le _⟩) hS (fun r2 M2 H locs hr2 hp hw hS => ?_)
  rcases hp with ⟨h2f, (⟨er2, h2b⟩ | ⟨er2, h2b⟩)⟩
  · have g_M2 := hw.rg
    rw [er2]
    obtain ⟨c2, j2, eq2, hs2⟩ := h2b
    have hz2 := hs2.len
    refine lv_istore_n (lv' := [(2, .int (II 1)), (0, .ref (gA g 45)), (1, .int (II 4))]) C.1 C.2.1 dX4_both_5 rfl hl (by decide) rfl (fun ls hl => ?_)
    refine lv_iconst (v := II 0) C.1 C.2.1 dX4_both_6 rfl ?_
    refine lv_istore_n (lv' := [(3, .int (II 0)), (2, .int (II 1)), (0, .ref (gA g 45)), (1, .int (II 4))]) C.1 C.2.1 dX4_both_7 rfl hl (by decide) rfl (fun ls hl => ?_)
    have L8 : ∀ (f1 : Nat) (k : Nat) (fu : Nat) (c1 : List Int) (j : Nat) (MM : Nat → Int), (160 - k) < f1 → (k ≤ 160 ∧ k ≤ j ∧ j ≤ n ∧ n ≤ 160) → (n - j < fu) → (RS MM b n j (c0 ++ c1)) → (lpP b n (qN b n 1) oAn fu c1 j = chP b n (qN b n 1) oAn i) → (RX M MM) → ∀ (H : Heap) (locs : List Loc) (ls : Array Slot), Wo g MM H → va_S (ar g) s.heap H locs → lv_has ls 4 [(0, .ref (gA g 45)), (1, .int (II 4)), (2, .int (II 1)), (3, .int (II (k : Int)))] → W p l e (rmm 17 375) s m args below meth c H locs 0 0 QQ (F0 m 8 ls []) := by
      intro f1
      induction f1 with
      | zero => intro k fu c1 j MM hmu; exact absurd hmu (Nat.not_lt_zero _)
      | succ f1 ih =>
        intro k fu c1 j MM hmu h1 hfu hs2 hq hx H locs ls hw hS hl
        have ih8 := ih
        have g_MM := hw.rg
        refine lv_iload_n C.1 C.2.1 dX4_both_8 rfl (lv_at hl 3 rfl) ?_
        refine lv_sipush (v := II 160) C.1 C.2.1 dX4_both_9 (by decide) ?_
        refine x_icmp_ge (tgt := 50) C ⟨by omega, by omega⟩ ⟨by decide, by decide⟩ dX4_both_12 (by decide) (fun c12 => ?_) (fun c12 => ?_)
        · refine lv_iload_n C.1 C.2.1 dX4_both_50 rfl (lv_at hl 2 rfl) ?_
          subst hQQ; exact x_ireturn C hr hlk hw hS ⟨by decide, by decide⟩ (by decide) ⟨hx, Or.inl ⟨rfl, c1, j, by show chP b n (qN b n 1) oAn i = _; rw [← hq]; refine lp_end ?_; first | (rw [show tK b n j = 7 from tK_end (by omega) (by omega)]; rfl) | exact decide_eq_false (by omega), hs2⟩⟩ dX4_both_51
        · refine lv_iload_n C.1 C.2.1 dX4_both_15 rfl (lv_at hl 2 rfl) ?_
          refine x_if_eq (tgt := 50) C ⟨by decide, by decide⟩ dX4_both_16 (by decide) (fun h => absurd h (by decide)) (fun _ => ?_)
          refine lv_aload_n C.1 C.2.1 dX4_both_19 rfl (lv_at hl 0 rfl) ?_
          refine g4 C hw 45 (by omega) rfl 3 (by decide) mw_278 (svi (x := tK b n j) hs2.2.1.2.1) dX4_both_20 ?_
          refine lv_bipush (v := II (-10)) C.1 C.2.1 dX4_both_23 (by decide) ?_
          refine x_icmp_ne (tgt := 50) C ⟨by have := g_MM 45003; have := hs2.2.1.2.1; omega, by have := g_MM 45003; have := hs2.2.1.2.1; omega⟩ ⟨by decide, by decide⟩ dX4_both_25 (by decide) (fun c25 => ?_) (fun c25 => ?_)
          · refine lv_iload_n C.1 C.2.1 dX4_both_50 rfl (lv_at hl 2 rfl) ?_
            subst hQQ; exact x_ireturn C hr hlk hw hS ⟨by decide, by decide⟩ (by decide) ⟨hx, Or.inl ⟨rfl, c1, j, by show chP b n (qN b n 1) oAn i = _; rw [← hq]; refine lp_end ?_; first | (rw [show tK b n j = 7 from tK_end (by omega) (by omega)]; rfl) | exact decide_eq_false (by omega), hs2⟩⟩ dX4_both_51
          · obtain ⟨f2, rfl⟩ : ∃ f2, fu = f2 + 1 := ⟨fu - 1, by omega⟩
            have hop : oAn (tK b n j) = true := decide_eq_true (by omega)
            have ht7 := tK_7 (b := b) hs2.1.2 (show tK b n j ≠ 7 by omega)
            refine lv_aload_n C.1 C.2.1 dX4_both_28 rfl (lv_at hl 0 rfl) ?_
            refine x_cv (x_runV (n := 0) C hw hS hml hl.1 45 4 (by omega) rfl (by decide) rfl (c_X4_next l g MM hT b n hs2.1.1 (tE b n j) (tE_in hs2.1.2).2.1 hs2.2.1.1) mw_398 mw_400 mw_2 mw_122 mw_401 rfl rfl (by decide +kernel) ⟨Nat.le_of_ble_eq_true rfl, Nat.le_of_ble_eq_true rfl⟩ rfl rfl (Nat.le_of_ble_eq_true rfl) dX4_both_29 ⟨Nat.zero_le _, Nat.zero_le _⟩) hS (fun M29 H locs hp hw hS => ?_)
            have h29p := hp
            have g_M29 := hw.rg
            have hs1 := hs2.next h29p
            refine lv_aload_n C.1 C.2.1 dX4_both_32 rfl (lv_at hl 0 rfl) ?_
            refine lv_iload_n C.1 C.2.1 dX4_both_33 rfl (lv_at hl 1 rfl) ?_
            refine x_ci (x_runV (n := 1) C hw hS hml hl.1 45 4 (by omega) rfl (by decide) rfl (c_X4_denied4 l g M29 hT b n (tE b n j) (c0 ++ c1) hs1) mw_449 mw_451 mw_9 mw_122 mw_452 rfl rfl (by decide +kernel) ⟨Nat.le_of_ble_eq_true rfl, Nat.le_of_ble_eq_true rfl⟩ rfl rfl (Nat.le_of_ble_eq_true rfl) dX4_both_34 ⟨Nat.zero_le _, Nat.zero_le _⟩) hS (fun r34 M34 H locs hr34 hp hw hS => ?_)
            rcases hp with ⟨h34f, (⟨er34, h34b⟩ | ⟨er34, h34b⟩)⟩
            · have g_M34 := hw.rg
              rw [er34]
              obtain ⟨c3, j3, eq3, hs3⟩ := h34b
              have hz3 := hs3.len
              have hk3 := (ok_qN b n 1).r ht7.2 eq3
              refine lv_istore_n (lv' := [(2, .int (II 1)), (0, .ref (gA g 45)), (1, .int (II 4)), (3, .int (II (k : Int)))]) C.1 C.2.1 dX4_both_37 rfl hl (by decide) rfl (fun ls hl => ?_)
              refine lv_aload_n C.1 C.2.1 dX4_both_38 rfl (lv_at hl 1 rfl) ?_
              refine lv_bipush (v := II (-10)) C.1 C.2.1 dX4_both_39 (by decide) ?_
              refine x_cv (x_runV (n := 1) C hw hS hml hl.1 45 4 (by omega) rfl (by decide) rfl (c_X4_put l g M34 hT ((c0 ++ c1 ++ c3).length) (by omega) hs3.2.2.1 (-10) ⟨by decide, by decide⟩) mw_461 mw_463 mw_12 mw_122 mw_464 rfl rfl (by decide +kernel) ⟨Nat.le_of_ble_eq_true rfl, Nat.le_of_ble_eq_true rfl⟩ rfl rfl (Nat.le_of_ble_eq_true rfl) dX4_both_41 ⟨Nat.zero_le _, Nat.zero_le _⟩) hS (fun M41 H locs hp hw hS => ?_)
              have em41 := hp
              have hw : Wo g (putM M34 ((c0 ++ c1 ++ c3).length) (-10)) H := em41 ▸ hw
              refine lv_iinc (v := II ((k : Int) + 1)) (lv' := [(3, .int (II ((k : Int) + 1))), (2, .int (II 1)), (0, .ref (gA g 45)), (1, .int (II 4))]) C.1 C.2.1 dX4_both_44 hl (k := 3) rfl (II_add _ _) (by decide) rfl (fun ls hl => ?_)
              refine lv_goto (tgt := 8) C.1 C.2.1 dX4_both_47 (by decide) ?_
              have hs4 : RS (putM M34 (c0 ++ c1 ++ c3).length (-10)) b n j3 (c0 ++ (c1 ++ c3 ++ [tK b n j])) := by
                have := hs3.put (w := (-10)) (by rw [List.length_append]; have hz := hs2.len; omega)
                have e : c0 ++ (c1 ++ c3 ++ [tK b n j]) = c0 ++ c1 ++ c3 ++ [(-10)] := by rw [show tK b n j = (-10) by omega]; simp only [List.append_assoc]
                rw [e]; exact this
              exact ih8  (k + 1) f2 (c1 ++ c3 ++ [tK b n j]) j3 (putM M34 ((c0 ++ c1 ++ c3).length) (-10)) (by omega) (by omega) (by omega) hs4 ((lp_step hop eq3).symm.trans hq) (((hx.tr h29p.rx).tr h34f).tr putM_rx) _ _ _ hw hS (lv_sub hl [2, 3, 1, 0] rfl)
            · have g_M34 := hw.rg
              rw [er34]
              obtain ⟨q2, eq3, hf2⟩ := h34b
              obtain ⟨L2, hL2, hl2⟩ := hf2.2
              skip
              refine lv_istore_n (lv' := [(2, .int (II 0)), (0, .ref (gA g 45)), (1, .int (II 4)), (3, .int (II (k : Int)))]) C.1 C.2.1 dX4_both_37 rfl hl (by decide) rfl (fun ls hl => ?_)
              refine lv_aload_n C.1 C.2.1 dX4_both_38 rfl (lv_at hl 1 rfl) ?_
              refine lv_bipush (v := II (-10)) C.1 C.2.1 dX4_both_39 (by decide) ?_
              refine x_cv (x_runV (n := 1) C hw hS hml hl.1 45 4 (by omega) rfl (by decide) rfl (c_X4_put l g M34 hT L2 hL2 hl2 (-10) ⟨by decide, by decide⟩) mw_461 mw_463 mw_12 mw_122 mw_464 rfl rfl (by decide +kernel) ⟨Nat.le_of_ble_eq_true rfl, Nat.le_of_ble_eq_true rfl⟩ rfl rfl (Nat.le_of_ble_eq_true rfl) dX4_both_41 ⟨Nat.zero_le _, Nat.zero_le _⟩) hS (fun M41 H locs hp hw hS => ?_)
              have em41 := hp
              have hw : Wo g (putM M34 L2 (-10)) H := em41 ▸ hw
              refine lv_iinc (v := II ((k : Int) + 1)) (lv' := [(3, .int (II ((k : Int) + 1))), (2, .int (II 0)), (0, .ref (gA g 45)), (1, .int (II 4))]) C.1 C.2.1 dX4_both_44 hl (k := 3) rfl (II_add _ _) (by decide) rfl (fun ls hl => ?_)
              refine lv_goto (tgt := 8) C.1 C.2.1 dX4_both_47 (by decide) ?_
              refine lv_iload_n C.1 C.2.1 dX4_both_8 rfl (lv_at hl 0 rfl) ?_
              refine lv_sipush (v := II 160) C.1 C.2.1 dX4_both_9 (by decide) ?_
              refine x_icmp_ge (tgt := 50) C ⟨by omega, by omega⟩ ⟨by decide, by decide⟩ dX4_both_12 (by decide) (fun c12 => ?_) (fun c12 => ?_)
              · refine lv_iload_n C.1 C.2.1 dX4_both_50 rfl (lv_at hl 1 rfl) ?_
                subst hQQ; exact x_ireturn C hr hlk hw hS ⟨by decide, by decide⟩ (by decide) ⟨((hx.tr h29p.rx).tr h34f).tr putM_rx, Or.inr ⟨rfl, q2, by show chP b n (qN b n 1) oAn i = _; rw [← hq]; exact lp_no hop eq3, hf2.put hL2 hl2⟩⟩ dX4_both_51
              · refine lv_iload_n C.1 C.2.1 dX4_both_15 rfl (lv_at hl 1 rfl) ?_
                refine x_if_eq (tgt := 50) C ⟨by decide, by decide⟩ dX4_both_16 (by decide) (fun _ => ?_) (fun h => absurd h (by decide))
                refine lv_iload_n C.1 C.2.1 dX4_both_50 rfl (lv_at hl 1 rfl) ?_
                subst hQQ; exact x_ireturn C hr hlk hw hS ⟨by decide, by decide⟩ (by decide) ⟨((hx.tr h29p.rx).tr h34f).tr putM_rx, Or.inr ⟨rfl, q2, by show chP b n (qN b n 1) oAn i = _; rw [← hq]; exact lp_no hop eq3, hf2.put hL2 hl2⟩⟩ dX4_both_51
    exact L8 _ 0 161 c2 j2 M2 (Nat.lt_succ_self _) (by omega) (by omega) hs2 ((ch_ok eq2).symm) h2f _ _ _ hw hS (lv_sub hl [2, 3, 1, 0] rfl)
  · have g_M2 := hw.rg
    rw [er2]
    obtain ⟨q2, eq2, hf2⟩ := h2b
    obtain ⟨L2, hL2, hl2⟩ := hf2.2
    refine lv_istore_n (lv' := [(2, .int (II 0)), (0, .ref (gA g 45)), (1, .int (II 4))]) C.1 C.2.1 dX4_both_5 rfl hl (by decide) rfl (fun ls hl => ?_)
    refine lv_iconst (v := II 0) C.1 C.2.1 dX4_both_6 rfl ?_
    refine lv_istore_n (lv' := [(3, .int (II 0)), (2, .int (II 0)), (0, .ref (gA g 45)), (1, .int (II 4))]) C.1 C.2.1 dX4_both_7 rfl hl (by decide) rfl (fun ls hl => ?_)
    refine lv_iload_n C.1 C.2.1 dX4_both_8 rfl (lv_at hl 0 rfl) ?_
    refine lv_sipush (v := II 160) C.1 C.2.1 dX4_both_9 (by decide) ?_
    refine x_icmp_ge (tgt := 50) C ⟨by decide, by decide⟩ ⟨by decide, by decide⟩ dX4_both_12 (by decide) (fun h => absurd h (by decide)) (fun _ => ?_)
    refine lv_iload_n C.1 C.2.1 dX4_both_15 rfl (lv_at hl 1 rfl) ?_
    refine x_if_eq (tgt := 50) C ⟨by decide, by decide⟩ dX4_both_16 (by decide) (fun _ => ?_) (fun h => absurd h (by decide))
    refine lv_iload_n C.1 C.2.1 dX4_both_50 rfl (lv_at hl 1 rfl) ?_
    subst hQQ; exact x_ireturn C hr hlk hw hS ⟨by decide, by decide⟩ (by decide) ⟨h2f, Or.inr ⟨rfl, q2, by show chP b n (qN b n 1) oAn i = _; exact ch_no eq2, hf2⟩⟩ dX4_both_51

set_option maxHeartbeats 4000000 in
set_option maxRecDepth 100000 in
theorem c_X4_either4 (l : Launch) (g : Gm) (M : Nat → Int) (hT : LvR g) (b : Nat → Int) (n : Nat) (i : Nat) (c0 : List Int) (hs : RS M b n i c0) : CI l ({ cls := "RatedBySighs$Reader", name := "either", desc := "(I)Z" } : Jvm.MethodName) cX4_either 4 .boolean (rmm 18 398) g M [.ref (gA g 45), .int (II 4)] (fun r M' => (RX M M') ∧ ((r = 1 ∧ (∃ c2 j2, qE b n 1 i = .inr (c2, j2) ∧ RS M' b n j2 (c0 ++ c2))) ∨ (r = 0 ∧ (∃ q, qE b n 1 i = .inl q ∧ RF M' q)))) := by
  refine c_start (by decide) (Nat.le_of_ble_eq_true rfl) (fun p e s m below meth c ls C hr hlk hml hw hS hl => ?_)
  have hl : lv_has ls 4 [(0, .ref (gA g 45)), (1, .int (II 4))] := hl
  generalize ([.ref (gA g 45), .int (II 4)] : List Value).toArray = args at C ⊢
  generalize hQQ : MQ below (postI g (fun r M' => (RX M M') ∧ ((r = 1 ∧ (∃ c2 j2, qE b n 1 i = .inr (c2, j2) ∧ RS M' b n j2 (c0 ++ c2))) ∨ (r = 0 ∧ (∃ q, qE b n 1 i = .inl q ∧ RF M' q))))) args s 0 0 (ar g) = QQ
  have g_M := hw.rg
  have hN : 49 ≤ gN g := hT.1
  refine lv_aload_n C.1 C.2.1 dX4_either_0 rfl (lv_at hl 0 rfl) ?_
  refine lv_iload_n C.1 C.2.1 dX4_either_1 rfl (lv_at hl 1 rfl) ?_
  refine x_ci (x_runV (n := 1) C hw hS hml hl.1 45 4 (by omega) rfl (by decide) rfl (c_X4_both4 l g M hT b n i c0 hs) mw_445 mw_447 mw_8 mw_122 mw_448 rfl rfl (by decide +kernel) ⟨Nat.le_of_ble_eq_true rfl, Nat.le_of_ble_eq_true rfl⟩ rfl rfl (Nat.le_of_ble_eq_true rfl) dX4_either_2 ⟨Nat.zero_le _, Nat.zero_le _⟩) hS (fun r2 M2 H locs hr2 hp hw hS => ?_)
  rcases hp with ⟨h2f, (⟨er2, h2b⟩ | ⟨er2, h2b⟩)⟩
  · have g_M2 := hw.rg
    rw [er2]
    obtain ⟨c2, j2, eq2, hs2⟩ := h2b
    have hz2 := hs2.len
    refine lv_istore_n (lv' := [(2, .int (II 1)), (0, .ref (gA g 45)), (1, .int (II 4))]) C.1 C.2.1 dX4_either_5 rfl hl (by decide) rfl (fun ls hl => ?_)
    refine lv_iconst (v := II 0) C.1 C.2.1 dX4_either_6 rfl ?_
    refine lv_istore_n (lv' := [(3, .int (II 0)), (2, .int (II 1)), (0, .ref (gA g 45)), (1, .int (II 4))]) C.1 C.2.1 dX4_either_7 rfl hl (by decide) rfl (fun ls hl => ?_)
    have L8 : ∀ (f1 : Nat) (k : Nat) (fu : Nat) (c1 : List Int) (j : Nat) (MM : Nat → Int), (160 - k) < f1 → (k ≤ 160 ∧ k ≤ j ∧ j ≤ n ∧ n ≤ 160) → (n - j < fu) → (RS MM b n j (c0 ++ c1)) → (lpP b n (qA b n 1) oOr fu c1 j = chP b n (qA b n 1) oOr i) → (RX M MM) → ∀ (H : Heap) (locs : List Loc) (ls : Array Slot), Wo g MM H → va_S (ar g) s.heap H locs → lv_has ls 4 [(0, .ref (gA g 45)), (1, .int (II 4)), (2, .int (II 1)), (3, .int (II (k : Int)))] → W p l e (rmm 18 398) s m args below meth c H locs 0 0 QQ (F0 m 8 ls []) := by
      intro f1
      induction f1 with
      | zero => intro k fu c1 j MM hmu; exact absurd hmu (Nat.not_lt_zero _)
      | succ f1 ih =>
        intro k fu c1 j MM hmu h1 hfu hs2 hq hx H locs ls hw hS hl
        have ih8 := ih
        have g_MM := hw.rg
        refine lv_iload_n C.1 C.2.1 dX4_either_8 rfl (lv_at hl 3 rfl) ?_
        refine lv_sipush (v := II 160) C.1 C.2.1 dX4_either_9 (by decide) ?_
        refine x_icmp_ge (tgt := 50) C ⟨by omega, by omega⟩ ⟨by decide, by decide⟩ dX4_either_12 (by decide) (fun c12 => ?_) (fun c12 => ?_)
        · refine lv_iload_n C.1 C.2.1 dX4_either_50 rfl (lv_at hl 2 rfl) ?_
          subst hQQ; exact x_ireturn C hr hlk hw hS ⟨by decide, by decide⟩ (by decide) ⟨hx, Or.inl ⟨rfl, c1, j, by rw [qE_eq]; rw [← hq]; refine lp_end ?_; first | (rw [show tK b n j = 7 from tK_end (by omega) (by omega)]; rfl) | exact decide_eq_false (by omega), hs2⟩⟩ dX4_either_51
        · refine lv_iload_n C.1 C.2.1 dX4_either_15 rfl (lv_at hl 2 rfl) ?_
          refine x_if_eq (tgt := 50) C ⟨by decide, by decide⟩ dX4_either_16 (by decide) (fun h => absurd h (by decide)) (fun _ => ?_)
          refine lv_aload_n C.1 C.2.1 dX4_either_19 rfl (lv_at hl 0 rfl) ?_
          refine g4 C hw 45 (by omega) rfl 3 (by decide) mw_278 (svi (x := tK b n j) hs2.2.1.2.1) dX4_either_20 ?_
          refine lv_bipush (v := II (-9)) C.1 C.2.1 dX4_either_23 (by decide) ?_
          refine x_icmp_ne (tgt := 50) C ⟨by have := g_MM 45003; have := hs2.2.1.2.1; omega, by have := g_MM 45003; have := hs2.2.1.2.1; omega⟩ ⟨by decide, by decide⟩ dX4_either_25 (by decide) (fun c25 => ?_) (fun c25 => ?_)
          · refine lv_iload_n C.1 C.2.1 dX4_either_50 rfl (lv_at hl 2 rfl) ?_
            subst hQQ; exact x_ireturn C hr hlk hw hS ⟨by decide, by decide⟩ (by decide) ⟨hx, Or.inl ⟨rfl, c1, j, by rw [qE_eq]; rw [← hq]; refine lp_end ?_; first | (rw [show tK b n j = 7 from tK_end (by omega) (by omega)]; rfl) | exact decide_eq_false (by omega), hs2⟩⟩ dX4_either_51
          · obtain ⟨f2, rfl⟩ : ∃ f2, fu = f2 + 1 := ⟨fu - 1, by omega⟩
            have hop : oOr (tK b n j) = true := decide_eq_true (by omega)
            have ht7 := tK_7 (b := b) hs2.1.2 (show tK b n j ≠ 7 by omega)
            refine lv_aload_n C.1 C.2.1 dX4_either_28 rfl (lv_at hl 0 rfl) ?_
            refine x_cv (x_runV (n := 0) C hw hS hml hl.1 45 4 (by omega) rfl (by decide) rfl (c_X4_next l g MM hT b n hs2.1.1 (tE b n j) (tE_in hs2.1.2).2.1 hs2.2.1.1) mw_398 mw_400 mw_2 mw_122 mw_401 rfl rfl (by decide +kernel) ⟨Nat.le_of_ble_eq_true rfl, Nat.le_of_ble_eq_true rfl⟩ rfl rfl (Nat.le_of_ble_eq_true rfl) dX4_either_29 ⟨Nat.zero_le _, Nat.zero_le _⟩) hS (fun M29 H locs hp hw hS => ?_)
            have h29p := hp
            have g_M29 := hw.rg
            have hs1 := hs2.next h29p
            refine lv_aload_n C.1 C.2.1 dX4_either_32 rfl (lv_at hl 0 rfl) ?_
            refine lv_iload_n C.1 C.2.1 dX4_either_33 rfl (lv_at hl 1 rfl) ?_
            refine x_ci (x_runV (n := 1) C hw hS hml hl.1 45 4 (by omega) rfl (by decide) rfl (c_X4_both4 l g M29 hT b n (tE b n j) (c0 ++ c1) hs1) mw_445 mw_447 mw_8 mw_122 mw_448 rfl rfl (by decide +kernel) ⟨Nat.le_of_ble_eq_true rfl, Nat.le_of_ble_eq_true rfl⟩ rfl rfl (Nat.le_of_ble_eq_true rfl) dX4_either_34 ⟨Nat.zero_le _, Nat.zero_le _⟩) hS (fun r34 M34 H locs hr34 hp hw hS => ?_)
            rcases hp with ⟨h34f, (⟨er34, h34b⟩ | ⟨er34, h34b⟩)⟩
            · have g_M34 := hw.rg
              rw [er34]
              obtain ⟨c3, j3, eq3, hs3⟩ := h34b
              have hz3 := hs3.len
              have hk3 := (ok_qA b n 1).r ht7.2 eq3
              refine lv_istore_n (lv' := [(2, .int (II 1)), (0, .ref (gA g 45)), (1, .int (II 4)), (3, .int (II (k : Int)))]) C.1 C.2.1 dX4_either_37 rfl hl (by decide) rfl (fun ls hl => ?_)
              refine lv_aload_n C.1 C.2.1 dX4_either_38 rfl (lv_at hl 1 rfl) ?_
              refine lv_bipush (v := II (-9)) C.1 C.2.1 dX4_either_39 (by decide) ?_
              refine x_cv (x_runV (n := 1) C hw hS hml hl.1 45 4 (by omega) rfl (by decide) rfl (c_X4_put l g M34 hT ((c0 ++ c1 ++ c3).length) (by omega) hs3.2.2.1 (-9) ⟨by decide, by decide⟩) mw_461 mw_463 mw_12 mw_122 mw_464 rfl rfl (by decide +kernel) ⟨Nat.le_of_ble_eq_true rfl, Nat.le_of_ble_eq_true rfl⟩ rfl rfl (Nat.le_of_ble_eq_true rfl) dX4_either_41 ⟨Nat.zero_le _, Nat.zero_le _⟩) hS (fun M41 H locs hp hw hS => ?_)
              have em41 := hp
              have hw : Wo g (putM M34 ((c0 ++ c1 ++ c3).length) (-9)) H := em41 ▸ hw
              refine lv_iinc (v := II ((k : Int) + 1)) (lv' := [(3, .int (II ((k : Int) + 1))), (2, .int (II 1)), (0, .ref (gA g 45)), (1, .int (II 4))]) C.1 C.2.1 dX4_either_44 hl (k := 3) rfl (II_add _ _) (by decide) rfl (fun ls hl => ?_)
              refine lv_goto (tgt := 8) C.1 C.2.1 dX4_either_47 (by decide) ?_
              have hs4 : RS (putM M34 (c0 ++ c1 ++ c3).length (-9)) b n j3 (c0 ++ (c1 ++ c3 ++ [tK b n j])) := by
                have := hs3.put (w := (-9)) (by rw [List.length_append]; have hz := hs2.len; omega)
                have e : c0 ++ (c1 ++ c3 ++ [tK b n j]) = c0 ++ c1 ++ c3 ++ [(-9)] := by rw [show tK b n j = (-9) by omega]; simp only [List.append_assoc]
                rw [e]; exact this
              exact ih8  (k + 1) f2 (c1 ++ c3 ++ [tK b n j]) j3 (putM M34 ((c0 ++ c1 ++ c3).length) (-9)) (by omega) (by omega) (by omega) hs4 ((lp_step hop eq3).symm.trans hq) (((hx.tr h29p.rx).tr h34f).tr putM_rx) _ _ _ hw hS (lv_sub hl [2, 3, 1, 0] rfl)
            · have g_M34 := hw.rg
              rw [er34]
              obtain ⟨q2, eq3, hf2⟩ := h34b
              obtain ⟨L2, hL2, hl2⟩ := hf2.2
              skip
              refine lv_istore_n (lv' := [(2, .int (II 0)), (0, .ref (gA g 45)), (1, .int (II 4)), (3, .int (II (k : Int)))]) C.1 C.2.1 dX4_either_37 rfl hl (by decide) rfl (fun ls hl => ?_)
              refine lv_aload_n C.1 C.2.1 dX4_either_38 rfl (lv_at hl 1 rfl) ?_
              refine lv_bipush (v := II (-9)) C.1 C.2.1 dX4_either_39 (by decide) ?_
              refine x_cv (x_runV (n := 1) C hw hS hml hl.1 45 4 (by omega) rfl (by decide) rfl (c_X4_put l g M34 hT L2 hL2 hl2 (-9) ⟨by decide, by decide⟩) mw_461 mw_463 mw_12 mw_122 mw_464 rfl rfl (by decide +kernel) ⟨Nat.le_of_ble_eq_true rfl, Nat.le_of_ble_eq_true rfl⟩ rfl rfl (Nat.le_of_ble_eq_true rfl) dX4_either_41 ⟨Nat.zero_le _, Nat.zero_le _⟩) hS (fun M41 H locs hp hw hS => ?_)
              have em41 := hp
              have hw : Wo g (putM M34 L2 (-9)) H := em41 ▸ hw
              refine lv_iinc (v := II ((k : Int) + 1)) (lv' := [(3, .int (II ((k : Int) + 1))), (2, .int (II 0)), (0, .ref (gA g 45)), (1, .int (II 4))]) C.1 C.2.1 dX4_either_44 hl (k := 3) rfl (II_add _ _) (by decide) rfl (fun ls hl => ?_)
              refine lv_goto (tgt := 8) C.1 C.2.1 dX4_either_47 (by decide) ?_
              refine lv_iload_n C.1 C.2.1 dX4_either_8 rfl (lv_at hl 0 rfl) ?_
              refine lv_sipush (v := II 160) C.1 C.2.1 dX4_either_9 (by decide) ?_
              refine x_icmp_ge (tgt := 50) C ⟨by omega, by omega⟩ ⟨by decide, by decide⟩ dX4_either_12 (by decide) (fun c12 => ?_) (fun c12 => ?_)
              · refine lv_iload_n C.1 C.2.1 dX4_either_50 rfl (lv_at hl 1 rfl) ?_
                subst hQQ; exact x_ireturn C hr hlk hw hS ⟨by decide, by decide⟩ (by decide) ⟨((hx.tr h29p.rx).tr h34f).tr putM_rx, Or.inr ⟨rfl, q2, by rw [qE_eq]; rw [← hq]; exact lp_no hop eq3, hf2.put hL2 hl2⟩⟩ dX4_either_51
              · refine lv_iload_n C.1 C.2.1 dX4_either_15 rfl (lv_at hl 1 rfl) ?_
                refine x_if_eq (tgt := 50) C ⟨by decide, by decide⟩ dX4_either_16 (by decide) (fun _ => ?_) (fun h => absurd h (by decide))
                refine lv_iload_n C.1 C.2.1 dX4_either_50 rfl (lv_at hl 1 rfl) ?_
                subst hQQ; exact x_ireturn C hr hlk hw hS ⟨by decide, by decide⟩ (by decide) ⟨((hx.tr h29p.rx).tr h34f).tr putM_rx, Or.inr ⟨rfl, q2, by rw [qE_eq]; rw [← hq]; exact lp_no hop eq3, hf2.put hL2 hl2⟩⟩ dX4_either_51
    exact L8 _ 0 161 c2 j2 M2 (Nat.lt_succ_self _) (by omega) (by omega) hs2 ((ch_ok eq2).symm) h2f _ _ _ hw hS (lv_sub hl [2, 3, 1, 0] rfl)
  · have g_M2 := hw.rg
    rw [er2]
    obtain ⟨q2, eq2, hf2⟩ := h2b
    obtain ⟨L2, hL2, hl2⟩ := hf2.2
    refine lv_istore_n (lv' := [(2, .int (II 0)), (0, .ref (gA g 45)), (1, .int (II 4))]) C.1 C.2.1 dX4_either_5 rfl hl (by decide) rfl (fun ls hl => ?_)
    refine lv_iconst (v := II 0) C.1 C.2.1 dX4_either_6 rfl ?_
    refine lv_istore_n (lv' := [(3, .int (II 0)), (2, .int (II 0)), (0, .ref (gA g 45)), (1, .int (II 4))]) C.1 C.2.1 dX4_either_7 rfl hl (by decide) rfl (fun ls hl => ?_)
    refine lv_iload_n C.1 C.2.1 dX4_either_8 rfl (lv_at hl 0 rfl) ?_
    refine lv_sipush (v := II 160) C.1 C.2.1 dX4_either_9 (by decide) ?_
    refine x_icmp_ge (tgt := 50) C ⟨by decide, by decide⟩ ⟨by decide, by decide⟩ dX4_either_12 (by decide) (fun h => absurd h (by decide)) (fun _ => ?_)
    refine lv_iload_n C.1 C.2.1 dX4_either_15 rfl (lv_at hl 1 rfl) ?_
    refine x_if_eq (tgt := 50) C ⟨by decide, by decide⟩ dX4_either_16 (by decide) (fun _ => ?_) (fun h => absurd h (by decide))
    refine lv_iload_n C.1 C.2.1 dX4_either_50 rfl (lv_at hl 1 rfl) ?_
    subst hQQ; exact x_ireturn C hr hlk hw hS ⟨by decide, by decide⟩ (by decide) ⟨h2f, Or.inr ⟨rfl, q2, by rw [qE_eq]; exact ch_no eq2, hf2⟩⟩ dX4_either_51
