def RY (M M' : Nat → Int) : Prop := ∀ m, ¬ (rdr m ∨ (48000 ≤ m ∧ m < 49000) ∨ m = 45001) → M' m = M m
theorem RY.rx {M M1 M2 : Nat → Int} (h : RY M M1) (h2 : RX M1 M2) : RY M M2 := fun m hm => (h2 m (fun z => hm (Or.inl z))).trans (h m hm)
theorem RY.st {M M1 : Nat → Int} {k : Nat} {x : Int} (h : RY M M1) (hk : (48000 ≤ k ∧ k < 49000) ∨ k = 45001) : RY M (stM M1 k x) := fun m hm => (st_n (fun z => hm (Or.inr (by omega)))).trans (h m hm)
theorem RS.st {M : Nat → Int} {b : Nat → Int} {n i : Nat} {c0 : List Int} {k : Nat} {x : Int} (h : RS M b n i c0) (hk : 48000 ≤ k ∧ k < 49000) : RS (stM M k x) b n i c0 := by
  have h3 := h.len
  obtain ⟨⟨h1, h2⟩, ⟨g1, g2, g3, g4⟩, h5, h6, h7⟩ := h
  exact ⟨⟨h1.fr (fun m hm => st_n (by omega)), h2⟩, ⟨(st_n (by omega)).trans g1, (st_n (by omega)).trans g2, (st_n (by omega)).trans g3, fun z => (st_n (by omega)).trans (g4 z)⟩, (st_n (by omega)).trans h5, h6, fun y hy => (st_n (by omega)).trans (h7 y hy)⟩
theorem pt_key {b : Nat → Int} {n i : Nat} {k : Int} (h : ¬ tK b n i = k) : ptP b n k i = .inl (tS b n i) := by unfold ptP; rw [if_neg h]
theorem pt_e {b : Nat → Int} {n i q : Nat} {k : Int} (h : tK b n i = k) (h2 : qE b n 5 (tE b n i) = .inl q) : ptP b n k i = .inl q := by unfold ptP; rw [if_pos h, h2]
theorem pt_ok {b : Nat → Int} {n i j : Nat} {c : List Int} {k : Int} (h : tK b n i = k) (h2 : qE b n 5 (tE b n i) = .inr (c, j)) (h3 : tK b n j = 6) : ptP b n k i = .inr (c, tE b n j) := by unfold ptP; rw [if_pos h, h2]; exact if_pos h3
theorem pt_no {b : Nat → Int} {n i j : Nat} {c : List Int} {k : Int} (h : tK b n i = k) (h2 : qE b n 5 (tE b n i) = .inr (c, j)) (h3 : ¬ tK b n j = 6) : ptP b n k i = .inl (tS b n j) := by unfold ptP; rw [if_pos h, h2]; exact if_neg h3
theorem tx_0 {b : Nat → Int} {n q : Nat} (h : ptP b n 1 0 = .inl q) : txP b n = .inl q := by unfold txP; rw [h]
theorem tx_1 {b : Nat → Int} {n q i1 : Nat} {d0 : List Int} (h : ptP b n 1 0 = .inr (d0, i1)) (h1 : ptP b n 2 i1 = .inl q) : txP b n = .inl q := by unfold txP; rw [h]; show (match ptP b n 2 i1 with | .inl q => _ | .inr (c1, i2) => _) = _; rw [h1]
theorem tx_2 {b : Nat → Int} {n q i1 i2 : Nat} {d0 d1 : List Int} (h : ptP b n 1 0 = .inr (d0, i1)) (h1 : ptP b n 2 i1 = .inr (d1, i2)) (h2 : ptP b n 3 i2 = .inl q) : txP b n = .inl q := by simp only [txP, h, h1, h2]
theorem tx_3 {b : Nat → Int} {n i1 i2 i3 : Nat} {d0 d1 d2 : List Int} (h : ptP b n 1 0 = .inr (d0, i1)) (h1 : ptP b n 2 i1 = .inr (d1, i2)) (h2 : ptP b n 3 i2 = .inr (d2, i3)) (h3 : ¬ tK b n i3 = 7) : txP b n = .inl (tS b n i3) := by simp only [txP, h, h1, h2, if_neg h3]
theorem tx_4 {b : Nat → Int} {n i1 i2 i3 : Nat} {d0 d1 d2 : List Int} (h : ptP b n 1 0 = .inr (d0, i1)) (h1 : ptP b n 2 i1 = .inr (d1, i2)) (h2 : ptP b n 3 i2 = .inr (d2, i3)) (h3 : tK b n i3 = 7) : txP b n = .inr (d0, d1, d2) := by simp only [txP, h, h1, h2, if_pos h3]
/-- the reader's rows hold three codes -/
def CDM (M : Nat → Int) (d0 d1 d2 : List Int) : Prop := (gdC d0 ∧ gdC d1 ∧ gdC d2) ∧ d0.length + d1.length + d2.length ≤ 160 ∧ (M 48000 = 0 ∧ M 48001 = (d0.length : Int) ∧ M 48002 = ((d0.length + d1.length : Nat) : Int) ∧ M 48003 = ((d0.length + d1.length + d2.length : Nat) : Int)) ∧ ∀ x, x < (d0 ++ d1 ++ d2).length → M (47000 + x) = (d0 ++ d1 ++ d2).getD x 0
set_option maxHeartbeats 4000000 in
set_option maxRecDepth 100000 in
theorem c_X4_takesTape (l : Launch) (g : Gm) (M : Nat → Int) (hT : LvR g) (b : Nat → Int) (n : Nat) (hb : TP M b n) : CI l ({ cls := "RatedBySighs$Reader", name := "takesTape", desc := "()Z" } : Jvm.MethodName) cX4_takesTape 3 .boolean (rmm 43 969) g M [.ref (gA g 45)] (fun r M' => (RY M M') ∧ (M' 45001 = 0) ∧ ((r = 1 ∧ (∃ d0 d1 d2, txP b n = .inr (d0, d1, d2) ∧ CDM M' d0 d1 d2)) ∨ (r = 0 ∧ (∃ q : Nat, txP b n = .inl q ∧ M' 45004 = (q : Int))))) := by
  refine c_start (by decide) (Nat.le_of_ble_eq_true rfl) (fun p e s m below meth c ls C hr hlk hml hw hS hl => ?_)
  have hl : lv_has ls 3 [(0, .ref (gA g 45))] := hl
  have g_M := hw.rg
  have hN : 49 ≤ gN g := hT.1
  refine lv_aload_n C.1 C.2.1 dX4_takesTape_0 rfl (lv_at hl 0 rfl) ?_
  refine lv_iconst (v := II 0) C.1 C.2.1 dX4_takesTape_1 rfl ?_
  refine p4 C hw hS 45 (by omega) rfl 2 (by decide) mw_277 rfl (x := 0) ⟨by decide, by decide⟩ (svi st_s) (tyX4_ok 2 (by decide)) rfl rfl dX4_takesTape_2 (fun H locs hw hS => ?_)
  have hw : Wo g (stM M 45002 0) H := hw
  refine lv_aload_n C.1 C.2.1 dX4_takesTape_5 rfl (lv_at hl 0 rfl) ?_
  refine lv_iconst (v := II 0) C.1 C.2.1 dX4_takesTape_6 rfl ?_
  refine p4 C hw hS 45 (by omega) rfl 8 (by decide) mw_286 rfl (x := 0) ⟨by decide, by decide⟩ (svi st_s) (tyX4_ok 8 (by decide)) rfl rfl dX4_takesTape_7 (fun H locs hw hS => ?_)
  have hw : Wo g (stM (stM M 45002 0) 45008 0) H := hw
  refine lv_aload_n C.1 C.2.1 dX4_takesTape_10 rfl (lv_at hl 0 rfl) ?_
  refine x_cv (x_runV (n := 0) C hw hS hml hl.1 45 4 (by omega) rfl (by decide) rfl (c_X4_next l g (stM (stM M 45002 0) 45008 0) hT b n (hb.fr (fun m hm => (st_n (by omega)).trans (st_n (by omega)))) 0 (Nat.zero_le _) ((st_n (by decide)).trans st_s)) mw_398 mw_400 mw_2 mw_122 mw_401 rfl rfl (by decide +kernel) ⟨Nat.le_of_ble_eq_true rfl, Nat.le_of_ble_eq_true rfl⟩ rfl rfl (Nat.le_of_ble_eq_true rfl) dX4_takesTape_11 ⟨Nat.zero_le _, Nat.zero_le _⟩) hS (fun M11 H locs hp hw hS => ?_)
  have h11p := hp
  have g_M11 := hw.rg
  have hsr0 : RS M11 b n 0 ([] : List Int) := by
    refine ⟨⟨hb.fr (fun m hm => (h11p.2 m (by omega)).trans ((st_n (by omega)).trans (st_n (by omega)))), Nat.zero_le _⟩, h11p.1, (h11p.2 _ (by omega)).trans st_s, Nat.zero_le _, fun x hx => absurd hx (Nat.not_lt_zero _)⟩
  have hxr0 : RY M M11 := fun m hm => by
    unfold rdr at hm
    rw [h11p.2 m (by omega), st_n (by omega), st_n (by omega)]
  refine lv_iconst (v := II 1) C.1 C.2.1 dX4_takesTape_14 rfl ?_
  refine lv_istore_n (lv' := [(1, .int (II 1)), (0, .ref (gA g 45))]) C.1 C.2.1 dX4_takesTape_15 rfl hl (by decide) rfl (fun ls hl => ?_)
  refine lv_iconst (v := II 0) C.1 C.2.1 dX4_takesTape_16 rfl ?_
  refine lv_istore_n (lv' := [(2, .int (II 0)), (1, .int (II 1)), (0, .ref (gA g 45))]) C.1 C.2.1 dX4_takesTape_17 rfl hl (by decide) rfl (fun ls hl => ?_)
  refine lv_iload_n C.1 C.2.1 dX4_takesTape_18 rfl (lv_at hl 0 rfl) ?_
  refine lv_iconst (v := II 3) C.1 C.2.1 dX4_takesTape_19 rfl ?_
  refine x_icmp_ge (tgt := 76) C ⟨by decide, by decide⟩ ⟨by decide, by decide⟩ dX4_takesTape_20 (by decide) (fun h => absurd h (by decide)) (fun _ => ?_)
  refine lv_iload_n C.1 C.2.1 dX4_takesTape_23 rfl (lv_at hl 1 rfl) ?_
  refine x_if_eq (tgt := 76) C ⟨by decide, by decide⟩ dX4_takesTape_24 (by decide) (fun h => absurd h (by decide)) (fun _ => ?_)
  have hlz := hsr0.len
  refine lv_aload_n C.1 C.2.1 dX4_takesTape_27 rfl (lv_at hl 2 rfl) ?_
  refine g4 C hw 45 (by omega) rfl 7 (by decide) mw_284 (svr hT.2.2.2) dX4_takesTape_28 ?_
  refine lv_iload_n C.1 C.2.1 dX4_takesTape_31 rfl (lv_at hl 0 rfl) ?_
  refine lv_aload_n C.1 C.2.1 dX4_takesTape_32 rfl (lv_at hl 2 rfl) ?_
  refine g4 C hw 45 (by omega) rfl 8 (by decide) mw_286 (svi (x := ((([] : List Int).length : Nat) : Int)) hsr0.2.2.1) dX4_takesTape_33 ?_
  refine x_iastore (L := 4) C hw hS 48 (by omega) rfl rfl (by omega) (by omega) (by decide) (x := ((([] : List Int).length : Nat) : Int)) ⟨by have := g_M11 45008; have := hsr0.2.2.1; omega, by have := g_M11 45008; have := hsr0.2.2.1; omega⟩ dX4_takesTape_36 (fun H locs hw hS => ?_)
  have hw : Wo g (stM M11 48000 ((([] : List Int).length : Nat) : Int)) H := hw
  have hsw0 := hsr0.st (k := 48000) (x := ((([] : List Int).length : Nat) : Int)) (by decide)
  have hxw0 := hxr0.st (k := 48000) (x := ((([] : List Int).length : Nat) : Int)) (by decide)
  have hu0_0 : (stM M11 48000 ((([] : List Int).length : Nat) : Int)) 48000 = ((([] : List Int).length : Nat) : Int) := st_s
  refine lv_aload_n C.1 C.2.1 dX4_takesTape_37 rfl (lv_at hl 2 rfl) ?_
  refine lv_iconst (v := II 1) C.1 C.2.1 dX4_takesTape_38 rfl ?_
  refine lv_iload_n C.1 C.2.1 dX4_takesTape_39 rfl (lv_at hl 0 rfl) ?_
  refine x_iadd C dX4_takesTape_40 ?_
  rw [show (1 + 0 : Int) = 1 from by decide]
  refine x_ci (x_runV (n := 1) C hw hS hml hl.1 45 4 (by omega) rfl (by decide) rfl (c_X4_passes l g (stM M11 48000 ((([] : List Int).length : Nat) : Int)) hT b n 0 ([] : List Int) hsw0 1 ⟨by decide, by decide⟩) mw_437 mw_439 mw_6 mw_122 mw_440 rfl rfl (by decide +kernel) ⟨Nat.le_of_ble_eq_true rfl, Nat.le_of_ble_eq_true rfl⟩ rfl rfl (Nat.le_of_ble_eq_true rfl) dX4_takesTape_41 ⟨Nat.zero_le _, Nat.zero_le _⟩) hS (fun r41 M41 H locs hr41 hp hw hS => ?_)
  rcases hp with ⟨h41f, (⟨er41, h41b⟩ | ⟨er41, h41b⟩)⟩
  · have g_M41 := hw.rg
    rw [er41]
    have hp0 := h41b
    have hxp0 := hxw0.rx h41f
    have ep41 := h41f
    refine x_if_eq (tgt := 68) C ⟨by decide, by decide⟩ dX4_takesTape_44 (by decide) (fun h => absurd h (by decide)) (fun _ => ?_)
    refine lv_aload_n C.1 C.2.1 dX4_takesTape_47 rfl (lv_at hl 2 rfl) ?_
    refine lv_iconst (v := II 0) C.1 C.2.1 dX4_takesTape_48 rfl ?_
    refine x_ci (x_runV (n := 1) C hw hS hml hl.1 45 4 (by omega) rfl (by decide) rfl (c_X4_either0 l g M41 hT b n (tE b n 0) ([] : List Int) hp0.2) mw_441 mw_443 mw_7 mw_122 mw_444 rfl rfl (by decide +kernel) ⟨Nat.le_of_ble_eq_true rfl, Nat.le_of_ble_eq_true rfl⟩ rfl rfl (Nat.le_of_ble_eq_true rfl) dX4_takesTape_49 ⟨Nat.zero_le _, Nat.zero_le _⟩) hS (fun r49 M49 H locs hr49 hp hw hS => ?_)
    rcases hp with ⟨h49f, (⟨er49, h49b⟩ | ⟨er49, h49b⟩)⟩
    · have g_M49 := hw.rg
      rw [er49]
      obtain ⟨d0, y0, eq0, hs0⟩ := h49b
      have hxe0 := hxp0.rx h49f
      have ep49 := h49f
      refine x_if_eq (tgt := 68) C ⟨by decide, by decide⟩ dX4_takesTape_52 (by decide) (fun h => absurd h (by decide)) (fun _ => ?_)
      refine lv_aload_n C.1 C.2.1 dX4_takesTape_55 rfl (lv_at hl 2 rfl) ?_
      refine lv_bipush (v := II 6) C.1 C.2.1 dX4_takesTape_56 (by decide) ?_
      refine x_ci (x_runV (n := 1) C hw hS hml hl.1 45 4 (by omega) rfl (by decide) rfl (c_X4_passes l g M49 hT b n y0 (([] : List Int) ++ d0) hs0 6 ⟨by decide, by decide⟩) mw_437 mw_439 mw_6 mw_122 mw_440 rfl rfl (by decide +kernel) ⟨Nat.le_of_ble_eq_true rfl, Nat.le_of_ble_eq_true rfl⟩ rfl rfl (Nat.le_of_ble_eq_true rfl) dX4_takesTape_58 ⟨Nat.zero_le _, Nat.zero_le _⟩) hS (fun r58 M58 H locs hr58 hp hw hS => ?_)
      rcases hp with ⟨h58f, (⟨er58, h58b⟩ | ⟨er58, h58b⟩)⟩
      · have g_M58 := hw.rg
        rw [er58]
        have hsr1 := h58b.2
        have hxr1 := hxe0.rx h58f
        have ept0 := pt_ok (k := 1) hp0.1 eq0 h58b.1
        have hkg0 := (ok_qE b n 5).r hp0.2.1.2 eq0
        have ht1_0 : M58 48000 = ((([] : List Int).length : Nat) : Int) := (h58f _ (by unfold rdr; omega)).trans ((ep49 _ (by unfold rdr; omega)).trans ((ep41 _ (by unfold rdr; omega)).trans hu0_0))
        refine x_if_eq (tgt := 68) C ⟨by decide, by decide⟩ dX4_takesTape_61 (by decide) (fun h => absurd h (by decide)) (fun _ => ?_)
        refine lv_iconst (v := II 1) C.1 C.2.1 dX4_takesTape_64 rfl ?_
        refine lv_goto (tgt := 69) C.1 C.2.1 dX4_takesTape_65 (by decide) ?_
        refine lv_istore_n (lv' := [(1, .int (II 1)), (2, .int (II 0)), (0, .ref (gA g 45))]) C.1 C.2.1 dX4_takesTape_69 rfl hl (by decide) rfl (fun ls hl => ?_)
        refine lv_iinc (v := II 1) (lv' := [(2, .int (II 1)), (1, .int (II 1)), (0, .ref (gA g 45))]) C.1 C.2.1 dX4_takesTape_70 hl (k := 1) rfl rfl (by decide) rfl (fun ls hl => ?_)
        refine lv_goto (tgt := 18) C.1 C.2.1 dX4_takesTape_73 (by decide) ?_
        refine lv_iload_n C.1 C.2.1 dX4_takesTape_18 rfl (lv_at hl 0 rfl) ?_
        refine lv_iconst (v := II 3) C.1 C.2.1 dX4_takesTape_19 rfl ?_
        refine x_icmp_ge (tgt := 76) C ⟨by decide, by decide⟩ ⟨by decide, by decide⟩ dX4_takesTape_20 (by decide) (fun h => absurd h (by decide)) (fun _ => ?_)
        refine lv_iload_n C.1 C.2.1 dX4_takesTape_23 rfl (lv_at hl 1 rfl) ?_
        refine x_if_eq (tgt := 76) C ⟨by decide, by decide⟩ dX4_takesTape_24 (by decide) (fun h => absurd h (by decide)) (fun _ => ?_)
        have hlz := hsr1.len
        refine lv_aload_n C.1 C.2.1 dX4_takesTape_27 rfl (lv_at hl 2 rfl) ?_
        refine g4 C hw 45 (by omega) rfl 7 (by decide) mw_284 (svr hT.2.2.2) dX4_takesTape_28 ?_
        refine lv_iload_n C.1 C.2.1 dX4_takesTape_31 rfl (lv_at hl 0 rfl) ?_
        refine lv_aload_n C.1 C.2.1 dX4_takesTape_32 rfl (lv_at hl 2 rfl) ?_
        refine g4 C hw 45 (by omega) rfl 8 (by decide) mw_286 (svi (x := (((([] : List Int) ++ d0).length : Nat) : Int)) hsr1.2.2.1) dX4_takesTape_33 ?_
        refine x_iastore (L := 4) C hw hS 48 (by omega) rfl rfl (by omega) (by omega) (by decide) (x := (((([] : List Int) ++ d0).length : Nat) : Int)) ⟨by have := g_M58 45008; have := hsr1.2.2.1; omega, by have := g_M58 45008; have := hsr1.2.2.1; omega⟩ dX4_takesTape_36 (fun H locs hw hS => ?_)
        have hw : Wo g (stM M58 48001 (((([] : List Int) ++ d0).length : Nat) : Int)) H := hw
        have hsw1 := hsr1.st (k := 48001) (x := (((([] : List Int) ++ d0).length : Nat) : Int)) (by decide)
        have hxw1 := hxr1.st (k := 48001) (x := (((([] : List Int) ++ d0).length : Nat) : Int)) (by decide)
        have hu1_0 : (stM M58 48001 (((([] : List Int) ++ d0).length : Nat) : Int)) 48000 = ((([] : List Int).length : Nat) : Int) := ((st_n (by decide)).trans ht1_0)
        have hu1_1 : (stM M58 48001 (((([] : List Int) ++ d0).length : Nat) : Int)) 48001 = (((([] : List Int) ++ d0).length : Nat) : Int) := st_s
        refine lv_aload_n C.1 C.2.1 dX4_takesTape_37 rfl (lv_at hl 2 rfl) ?_
        refine lv_iconst (v := II 1) C.1 C.2.1 dX4_takesTape_38 rfl ?_
        refine lv_iload_n C.1 C.2.1 dX4_takesTape_39 rfl (lv_at hl 0 rfl) ?_
        refine x_iadd C dX4_takesTape_40 ?_
        rw [show (1 + 1 : Int) = 2 from by decide]
        refine x_ci (x_runV (n := 1) C hw hS hml hl.1 45 4 (by omega) rfl (by decide) rfl (c_X4_passes l g (stM M58 48001 (((([] : List Int) ++ d0).length : Nat) : Int)) hT b n (tE b n y0) (([] : List Int) ++ d0) hsw1 2 ⟨by decide, by decide⟩) mw_437 mw_439 mw_6 mw_122 mw_440 rfl rfl (by decide +kernel) ⟨Nat.le_of_ble_eq_true rfl, Nat.le_of_ble_eq_true rfl⟩ rfl rfl (Nat.le_of_ble_eq_true rfl) dX4_takesTape_41 ⟨Nat.zero_le _, Nat.zero_le _⟩) hS (fun r41 M41 H locs hr41 hp hw hS => ?_)
        rcases hp with ⟨h41f, (⟨er41, h41b⟩ | ⟨er41, h41b⟩)⟩
        · have g_M41 := hw.rg
          rw [er41]
          have hp1 := h41b
          have hxp1 := hxw1.rx h41f
          have ep41 := h41f
          refine x_if_eq (tgt := 68) C ⟨by decide, by decide⟩ dX4_takesTape_44 (by decide) (fun h => absurd h (by decide)) (fun _ => ?_)
          refine lv_aload_n C.1 C.2.1 dX4_takesTape_47 rfl (lv_at hl 2 rfl) ?_
          refine lv_iconst (v := II 0) C.1 C.2.1 dX4_takesTape_48 rfl ?_
          refine x_ci (x_runV (n := 1) C hw hS hml hl.1 45 4 (by omega) rfl (by decide) rfl (c_X4_either0 l g M41 hT b n (tE b n (tE b n y0)) (([] : List Int) ++ d0) hp1.2) mw_441 mw_443 mw_7 mw_122 mw_444 rfl rfl (by decide +kernel) ⟨Nat.le_of_ble_eq_true rfl, Nat.le_of_ble_eq_true rfl⟩ rfl rfl (Nat.le_of_ble_eq_true rfl) dX4_takesTape_49 ⟨Nat.zero_le _, Nat.zero_le _⟩) hS (fun r49 M49 H locs hr49 hp hw hS => ?_)
          rcases hp with ⟨h49f, (⟨er49, h49b⟩ | ⟨er49, h49b⟩)⟩
          · have g_M49 := hw.rg
            rw [er49]
            obtain ⟨d1, y1, eq1, hs1⟩ := h49b
            have hxe1 := hxp1.rx h49f
            have ep49 := h49f
            refine x_if_eq (tgt := 68) C ⟨by decide, by decide⟩ dX4_takesTape_52 (by decide) (fun h => absurd h (by decide)) (fun _ => ?_)
            refine lv_aload_n C.1 C.2.1 dX4_takesTape_55 rfl (lv_at hl 2 rfl) ?_
            refine lv_bipush (v := II 6) C.1 C.2.1 dX4_takesTape_56 (by decide) ?_
            refine x_ci (x_runV (n := 1) C hw hS hml hl.1 45 4 (by omega) rfl (by decide) rfl (c_X4_passes l g M49 hT b n y1 (([] : List Int) ++ d0 ++ d1) hs1 6 ⟨by decide, by decide⟩) mw_437 mw_439 mw_6 mw_122 mw_440 rfl rfl (by decide +kernel) ⟨Nat.le_of_ble_eq_true rfl, Nat.le_of_ble_eq_true rfl⟩ rfl rfl (Nat.le_of_ble_eq_true rfl) dX4_takesTape_58 ⟨Nat.zero_le _, Nat.zero_le _⟩) hS (fun r58 M58 H locs hr58 hp hw hS => ?_)
            rcases hp with ⟨h58f, (⟨er58, h58b⟩ | ⟨er58, h58b⟩)⟩
            · have g_M58 := hw.rg
              rw [er58]
              have hsr2 := h58b.2
              have hxr2 := hxe1.rx h58f
              have ept1 := pt_ok (k := 2) hp1.1 eq1 h58b.1
              have hkg1 := (ok_qE b n 5).r hp1.2.1.2 eq1
              have ht2_0 : M58 48000 = ((([] : List Int).length : Nat) : Int) := (h58f _ (by unfold rdr; omega)).trans ((ep49 _ (by unfold rdr; omega)).trans ((ep41 _ (by unfold rdr; omega)).trans hu1_0))
              have ht2_1 : M58 48001 = (((([] : List Int) ++ d0).length : Nat) : Int) := (h58f _ (by unfold rdr; omega)).trans ((ep49 _ (by unfold rdr; omega)).trans ((ep41 _ (by unfold rdr; omega)).trans hu1_1))
              refine x_if_eq (tgt := 68) C ⟨by decide, by decide⟩ dX4_takesTape_61 (by decide) (fun h => absurd h (by decide)) (fun _ => ?_)
              refine lv_iconst (v := II 1) C.1 C.2.1 dX4_takesTape_64 rfl ?_
              refine lv_goto (tgt := 69) C.1 C.2.1 dX4_takesTape_65 (by decide) ?_
              refine lv_istore_n (lv' := [(1, .int (II 1)), (2, .int (II 1)), (0, .ref (gA g 45))]) C.1 C.2.1 dX4_takesTape_69 rfl hl (by decide) rfl (fun ls hl => ?_)
              refine lv_iinc (v := II 2) (lv' := [(2, .int (II 2)), (1, .int (II 1)), (0, .ref (gA g 45))]) C.1 C.2.1 dX4_takesTape_70 hl (k := 1) rfl rfl (by decide) rfl (fun ls hl => ?_)
              refine lv_goto (tgt := 18) C.1 C.2.1 dX4_takesTape_73 (by decide) ?_
              refine lv_iload_n C.1 C.2.1 dX4_takesTape_18 rfl (lv_at hl 0 rfl) ?_
              refine lv_iconst (v := II 3) C.1 C.2.1 dX4_takesTape_19 rfl ?_
              refine x_icmp_ge (tgt := 76) C ⟨by decide, by decide⟩ ⟨by decide, by decide⟩ dX4_takesTape_20 (by decide) (fun h => absurd h (by decide)) (fun _ => ?_)
              refine lv_iload_n C.1 C.2.1 dX4_takesTape_23 rfl (lv_at hl 1 rfl) ?_
              refine x_if_eq (tgt := 76) C ⟨by decide, by decide⟩ dX4_takesTape_24 (by decide) (fun h => absurd h (by decide)) (fun _ => ?_)
              have hlz := hsr2.len
              refine lv_aload_n C.1 C.2.1 dX4_takesTape_27 rfl (lv_at hl 2 rfl) ?_
              refine g4 C hw 45 (by omega) rfl 7 (by decide) mw_284 (svr hT.2.2.2) dX4_takesTape_28 ?_
              refine lv_iload_n C.1 C.2.1 dX4_takesTape_31 rfl (lv_at hl 0 rfl) ?_
              refine lv_aload_n C.1 C.2.1 dX4_takesTape_32 rfl (lv_at hl 2 rfl) ?_
              refine g4 C hw 45 (by omega) rfl 8 (by decide) mw_286 (svi (x := (((([] : List Int) ++ d0 ++ d1).length : Nat) : Int)) hsr2.2.2.1) dX4_takesTape_33 ?_
              refine x_iastore (L := 4) C hw hS 48 (by omega) rfl rfl (by omega) (by omega) (by decide) (x := (((([] : List Int) ++ d0 ++ d1).length : Nat) : Int)) ⟨by have := g_M58 45008; have := hsr2.2.2.1; omega, by have := g_M58 45008; have := hsr2.2.2.1; omega⟩ dX4_takesTape_36 (fun H locs hw hS => ?_)
              have hw : Wo g (stM M58 48002 (((([] : List Int) ++ d0 ++ d1).length : Nat) : Int)) H := hw
              have hsw2 := hsr2.st (k := 48002) (x := (((([] : List Int) ++ d0 ++ d1).length : Nat) : Int)) (by decide)
              have hxw2 := hxr2.st (k := 48002) (x := (((([] : List Int) ++ d0 ++ d1).length : Nat) : Int)) (by decide)
              have hu2_0 : (stM M58 48002 (((([] : List Int) ++ d0 ++ d1).length : Nat) : Int)) 48000 = ((([] : List Int).length : Nat) : Int) := ((st_n (by decide)).trans ht2_0)
              have hu2_1 : (stM M58 48002 (((([] : List Int) ++ d0 ++ d1).length : Nat) : Int)) 48001 = (((([] : List Int) ++ d0).length : Nat) : Int) := ((st_n (by decide)).trans ht2_1)
              have hu2_2 : (stM M58 48002 (((([] : List Int) ++ d0 ++ d1).length : Nat) : Int)) 48002 = (((([] : List Int) ++ d0 ++ d1).length : Nat) : Int) := st_s
              refine lv_aload_n C.1 C.2.1 dX4_takesTape_37 rfl (lv_at hl 2 rfl) ?_
              refine lv_iconst (v := II 1) C.1 C.2.1 dX4_takesTape_38 rfl ?_
              refine lv_iload_n C.1 C.2.1 dX4_takesTape_39 rfl (lv_at hl 0 rfl) ?_
              refine x_iadd C dX4_takesTape_40 ?_
              rw [show (1 + 2 : Int) = 3 from by decide]
              refine x_ci (x_runV (n := 1) C hw hS hml hl.1 45 4 (by omega) rfl (by decide) rfl (c_X4_passes l g (stM M58 48002 (((([] : List Int) ++ d0 ++ d1).length : Nat) : Int)) hT b n (tE b n y1) (([] : List Int) ++ d0 ++ d1) hsw2 3 ⟨by decide, by decide⟩) mw_437 mw_439 mw_6 mw_122 mw_440 rfl rfl (by decide +kernel) ⟨Nat.le_of_ble_eq_true rfl, Nat.le_of_ble_eq_true rfl⟩ rfl rfl (Nat.le_of_ble_eq_true rfl) dX4_takesTape_41 ⟨Nat.zero_le _, Nat.zero_le _⟩) hS (fun r41 M41 H locs hr41 hp hw hS => ?_)
              rcases hp with ⟨h41f, (⟨er41, h41b⟩ | ⟨er41, h41b⟩)⟩
              · have g_M41 := hw.rg
                rw [er41]
                have hp2 := h41b
                have hxp2 := hxw2.rx h41f
                have ep41 := h41f
                refine x_if_eq (tgt := 68) C ⟨by decide, by decide⟩ dX4_takesTape_44 (by decide) (fun h => absurd h (by decide)) (fun _ => ?_)
                refine lv_aload_n C.1 C.2.1 dX4_takesTape_47 rfl (lv_at hl 2 rfl) ?_
                refine lv_iconst (v := II 0) C.1 C.2.1 dX4_takesTape_48 rfl ?_
                refine x_ci (x_runV (n := 1) C hw hS hml hl.1 45 4 (by omega) rfl (by decide) rfl (c_X4_either0 l g M41 hT b n (tE b n (tE b n y1)) (([] : List Int) ++ d0 ++ d1) hp2.2) mw_441 mw_443 mw_7 mw_122 mw_444 rfl rfl (by decide +kernel) ⟨Nat.le_of_ble_eq_true rfl, Nat.le_of_ble_eq_true rfl⟩ rfl rfl (Nat.le_of_ble_eq_true rfl) dX4_takesTape_49 ⟨Nat.zero_le _, Nat.zero_le _⟩) hS (fun r49 M49 H locs hr49 hp hw hS => ?_)
                rcases hp with ⟨h49f, (⟨er49, h49b⟩ | ⟨er49, h49b⟩)⟩
                · have g_M49 := hw.rg
                  rw [er49]
                  obtain ⟨d2, y2, eq2, hs2⟩ := h49b
                  have hxe2 := hxp2.rx h49f
                  have ep49 := h49f
                  refine x_if_eq (tgt := 68) C ⟨by decide, by decide⟩ dX4_takesTape_52 (by decide) (fun h => absurd h (by decide)) (fun _ => ?_)
                  refine lv_aload_n C.1 C.2.1 dX4_takesTape_55 rfl (lv_at hl 2 rfl) ?_
                  refine lv_bipush (v := II 6) C.1 C.2.1 dX4_takesTape_56 (by decide) ?_
                  refine x_ci (x_runV (n := 1) C hw hS hml hl.1 45 4 (by omega) rfl (by decide) rfl (c_X4_passes l g M49 hT b n y2 (([] : List Int) ++ d0 ++ d1 ++ d2) hs2 6 ⟨by decide, by decide⟩) mw_437 mw_439 mw_6 mw_122 mw_440 rfl rfl (by decide +kernel) ⟨Nat.le_of_ble_eq_true rfl, Nat.le_of_ble_eq_true rfl⟩ rfl rfl (Nat.le_of_ble_eq_true rfl) dX4_takesTape_58 ⟨Nat.zero_le _, Nat.zero_le _⟩) hS (fun r58 M58 H locs hr58 hp hw hS => ?_)
                  rcases hp with ⟨h58f, (⟨er58, h58b⟩ | ⟨er58, h58b⟩)⟩
                  · have g_M58 := hw.rg
                    rw [er58]
                    have hsr3 := h58b.2
                    have hxr3 := hxe2.rx h58f
                    have ept2 := pt_ok (k := 3) hp2.1 eq2 h58b.1
                    have hkg2 := (ok_qE b n 5).r hp2.2.1.2 eq2
                    have ht3_0 : M58 48000 = ((([] : List Int).length : Nat) : Int) := (h58f _ (by unfold rdr; omega)).trans ((ep49 _ (by unfold rdr; omega)).trans ((ep41 _ (by unfold rdr; omega)).trans hu2_0))
                    have ht3_1 : M58 48001 = (((([] : List Int) ++ d0).length : Nat) : Int) := (h58f _ (by unfold rdr; omega)).trans ((ep49 _ (by unfold rdr; omega)).trans ((ep41 _ (by unfold rdr; omega)).trans hu2_1))
                    have ht3_2 : M58 48002 = (((([] : List Int) ++ d0 ++ d1).length : Nat) : Int) := (h58f _ (by unfold rdr; omega)).trans ((ep49 _ (by unfold rdr; omega)).trans ((ep41 _ (by unfold rdr; omega)).trans hu2_2))
                    refine x_if_eq (tgt := 68) C ⟨by decide, by decide⟩ dX4_takesTape_61 (by decide) (fun h => absurd h (by decide)) (fun _ => ?_)
                    refine lv_iconst (v := II 1) C.1 C.2.1 dX4_takesTape_64 rfl ?_
                    refine lv_goto (tgt := 69) C.1 C.2.1 dX4_takesTape_65 (by decide) ?_
                    refine lv_istore_n (lv' := [(1, .int (II 1)), (2, .int (II 2)), (0, .ref (gA g 45))]) C.1 C.2.1 dX4_takesTape_69 rfl hl (by decide) rfl (fun ls hl => ?_)
                    refine lv_iinc (v := II 3) (lv' := [(2, .int (II 3)), (1, .int (II 1)), (0, .ref (gA g 45))]) C.1 C.2.1 dX4_takesTape_70 hl (k := 1) rfl rfl (by decide) rfl (fun ls hl => ?_)
                    refine lv_goto (tgt := 18) C.1 C.2.1 dX4_takesTape_73 (by decide) ?_
                    refine lv_iload_n C.1 C.2.1 dX4_takesTape_18 rfl (lv_at hl 0 rfl) ?_
                    refine lv_iconst (v := II 3) C.1 C.2.1 dX4_takesTape_19 rfl ?_
                    refine x_icmp_ge (tgt := 76) C ⟨by decide, by decide⟩ ⟨by decide, by decide⟩ dX4_takesTape_20 (by decide) (fun _ => ?_) (fun h => absurd h (by decide))
                    have hlz := hsr3.len
                    have htr := g_M58 45003
                    rw [hsr3.2.1.2.1] at htr
                    refine lv_aload_n C.1 C.2.1 dX4_takesTape_76 rfl (lv_at hl 2 rfl) ?_
                    refine g4 C hw 45 (by omega) rfl 7 (by decide) mw_284 (svr hT.2.2.2) dX4_takesTape_77 ?_
                    refine lv_iconst (v := II 3) C.1 C.2.1 dX4_takesTape_80 rfl ?_
                    refine lv_aload_n C.1 C.2.1 dX4_takesTape_81 rfl (lv_at hl 2 rfl) ?_
                    refine g4 C hw 45 (by omega) rfl 8 (by decide) mw_286 (svi (x := (((([] : List Int) ++ d0 ++ d1 ++ d2).length : Nat) : Int)) hsr3.2.2.1) dX4_takesTape_82 ?_
                    refine x_iastore (L := 4) C hw hS 48 (by omega) rfl rfl (by omega) (by omega) (by decide) (x := (((([] : List Int) ++ d0 ++ d1 ++ d2).length : Nat) : Int)) ⟨by have := g_M58 45008; have := hsr3.2.2.1; omega, by have := g_M58 45008; have := hsr3.2.2.1; omega⟩ dX4_takesTape_85 (fun H locs hw hS => ?_)
                    have hw : Wo g (stM M58 48003 (((([] : List Int) ++ d0 ++ d1 ++ d2).length : Nat) : Int)) H := hw
                    refine lv_aload_n C.1 C.2.1 dX4_takesTape_86 rfl (lv_at hl 2 rfl) ?_
                    refine lv_iconst (v := II 0) C.1 C.2.1 dX4_takesTape_87 rfl ?_
                    refine p4 C hw hS 45 (by omega) rfl 1 (by decide) mw_275 rfl (x := 0) ⟨by decide, by decide⟩ (svi st_s) (tyX4_ok 1 (by decide)) rfl rfl dX4_takesTape_88 (fun H locs hw hS => ?_)
                    have hw : Wo g (stM (stM M58 48003 (((([] : List Int) ++ d0 ++ d1 ++ d2).length : Nat) : Int)) 45001 0) H := hw
                    refine lv_iload_n C.1 C.2.1 dX4_takesTape_91 rfl (lv_at hl 1 rfl) ?_
                    refine x_if_eq (tgt := 108) C ⟨by decide, by decide⟩ dX4_takesTape_92 (by decide) (fun h => absurd h (by decide)) (fun _ => ?_)
                    refine lv_aload_n C.1 C.2.1 dX4_takesTape_95 rfl (lv_at hl 2 rfl) ?_
                    refine g4 C hw 45 (by omega) rfl 3 (by decide) mw_278 (svi (x := tK b n (tE b n y2)) ((st_n (by decide)).trans ((st_n (by decide)).trans hsr3.2.1.2.1))) dX4_takesTape_96 ?_
                    refine lv_bipush (v := II 7) C.1 C.2.1 dX4_takesTape_99 (by decide) ?_
                    refine x_icmp_ne (tgt := 108) C ⟨by omega, by omega⟩ ⟨by decide, by decide⟩ dX4_takesTape_101 (by decide) (fun c101 => ?_) (fun c101 => ?_)
                    · refine lv_iconst (v := II 0) C.1 C.2.1 dX4_takesTape_108 rfl ?_
                      exact x_ireturn C hr hlk hw hS ⟨by decide, by decide⟩ (by decide) ⟨(hxr3.st (by decide)).st (by decide), st_s, Or.inr ⟨rfl, _, tx_3 ept0 ept1 ept2 (by omega), (st_n (by decide)).trans ((st_n (by decide)).trans hsr3.2.1.2.2.1)⟩⟩ dX4_takesTape_109
                    · refine lv_iconst (v := II 1) C.1 C.2.1 dX4_takesTape_104 rfl ?_
                      refine lv_goto (tgt := 109) C.1 C.2.1 dX4_takesTape_105 (by decide) ?_
                      exact x_ireturn C hr hlk hw hS ⟨by decide, by decide⟩ (by decide) (by
    have hz := hsr3.len
    have hn9 : (([] : List Int) ++ d0 ++ d1 ++ d2).length = d0.length + d1.length + d2.length := by simp; omega
    refine ⟨(hxr3.st (by decide)).st (by decide), st_s, Or.inl ⟨rfl, d0, d1, d2, tx_4 ept0 ept1 ept2 (by omega), ⟨⟨hkg0.1, hkg1.1, hkg2.1⟩, by omega, ⟨?_, ?_, ?_, ?_⟩, fun x hx => ?_⟩⟩⟩
    · rw [st_n (by decide), st_n (by decide), ht3_0]; rfl
    · rw [st_n (by decide), st_n (by decide), ht3_1]; rfl
    · rw [st_n (by decide), st_n (by decide), ht3_2]; simp
    · rw [st_n (by decide), st_s, hn9]
    · have hx9 : x < d0.length + d1.length + d2.length := by simpa [Nat.add_assoc] using hx
      rw [st_n (by omega), st_n (by omega)]
      exact hsr3.2.2.2.2 x (by omega)) dX4_takesTape_109
                  · have g_M58 := hw.rg
                    rw [er58]
                    skip
                    refine x_if_eq (tgt := 68) C ⟨by decide, by decide⟩ dX4_takesTape_61 (by decide) (fun _ => ?_) (fun h => absurd h (by decide))
                    refine lv_iconst (v := II 0) C.1 C.2.1 dX4_takesTape_68 rfl ?_
                    refine lv_istore_n (lv' := [(1, .int (II 0)), (2, .int (II 2)), (0, .ref (gA g 45))]) C.1 C.2.1 dX4_takesTape_69 rfl hl (by decide) rfl (fun ls hl => ?_)
                    refine lv_iinc (v := II 3) (lv' := [(2, .int (II 3)), (1, .int (II 0)), (0, .ref (gA g 45))]) C.1 C.2.1 dX4_takesTape_70 hl (k := 1) rfl rfl (by decide) rfl (fun ls hl => ?_)
                    refine lv_goto (tgt := 18) C.1 C.2.1 dX4_takesTape_73 (by decide) ?_
                    refine lv_iload_n C.1 C.2.1 dX4_takesTape_18 rfl (lv_at hl 0 rfl) ?_
                    refine lv_iconst (v := II 3) C.1 C.2.1 dX4_takesTape_19 rfl ?_
                    refine x_icmp_ge (tgt := 76) C ⟨by decide, by decide⟩ ⟨by decide, by decide⟩ dX4_takesTape_20 (by decide) (fun _ => ?_) (fun h => absurd h (by decide))
                    skip
                    refine lv_aload_n C.1 C.2.1 dX4_takesTape_76 rfl (lv_at hl 2 rfl) ?_
                    refine g4 C hw 45 (by omega) rfl 7 (by decide) mw_284 (svr hT.2.2.2) dX4_takesTape_77 ?_
                    refine lv_iconst (v := II 3) C.1 C.2.1 dX4_takesTape_80 rfl ?_
                    refine lv_aload_n C.1 C.2.1 dX4_takesTape_81 rfl (lv_at hl 2 rfl) ?_
                    refine g4 C hw 45 (by omega) rfl 8 (by decide) mw_286 (svi (x := M58 45008) rfl) dX4_takesTape_82 ?_
                    refine x_iastore (L := 4) C hw hS 48 (by omega) rfl rfl (by omega) (by omega) (by decide) (x := M58 45008) (g_M58 _) dX4_takesTape_85 (fun H locs hw hS => ?_)
                    have hw : Wo g (stM M58 48003 (M58 45008)) H := hw
                    refine lv_aload_n C.1 C.2.1 dX4_takesTape_86 rfl (lv_at hl 2 rfl) ?_
                    refine lv_iconst (v := II 0) C.1 C.2.1 dX4_takesTape_87 rfl ?_
                    refine p4 C hw hS 45 (by omega) rfl 1 (by decide) mw_275 rfl (x := 0) ⟨by decide, by decide⟩ (svi st_s) (tyX4_ok 1 (by decide)) rfl rfl dX4_takesTape_88 (fun H locs hw hS => ?_)
                    have hw : Wo g (stM (stM M58 48003 (M58 45008)) 45001 0) H := hw
                    refine lv_iload_n C.1 C.2.1 dX4_takesTape_91 rfl (lv_at hl 1 rfl) ?_
                    refine x_if_eq (tgt := 108) C ⟨by decide, by decide⟩ dX4_takesTape_92 (by decide) (fun _ => ?_) (fun h => absurd h (by decide))
                    refine lv_iconst (v := II 0) C.1 C.2.1 dX4_takesTape_108 rfl ?_
                    exact x_ireturn C hr hlk hw hS ⟨by decide, by decide⟩ (by decide) ⟨((hxe2.rx h58f).st (by decide)).st (by decide), st_s, Or.inr ⟨rfl, _, tx_2 ept0 ept1 (pt_no hp2.1 eq2 h58b.1), (st_n (by decide)).trans ((st_n (by decide)).trans h58b.2.1)⟩⟩ dX4_takesTape_109
                · have g_M49 := hw.rg
                  rw [er49]
                  obtain ⟨q2, eq2, hf2⟩ := h49b
                  refine x_if_eq (tgt := 68) C ⟨by decide, by decide⟩ dX4_takesTape_52 (by decide) (fun _ => ?_) (fun h => absurd h (by decide))
                  refine lv_iconst (v := II 0) C.1 C.2.1 dX4_takesTape_68 rfl ?_
                  refine lv_istore_n (lv' := [(1, .int (II 0)), (2, .int (II 2)), (0, .ref (gA g 45))]) C.1 C.2.1 dX4_takesTape_69 rfl hl (by decide) rfl (fun ls hl => ?_)
                  refine lv_iinc (v := II 3) (lv' := [(2, .int (II 3)), (1, .int (II 0)), (0, .ref (gA g 45))]) C.1 C.2.1 dX4_takesTape_70 hl (k := 1) rfl rfl (by decide) rfl (fun ls hl => ?_)
                  refine lv_goto (tgt := 18) C.1 C.2.1 dX4_takesTape_73 (by decide) ?_
                  refine lv_iload_n C.1 C.2.1 dX4_takesTape_18 rfl (lv_at hl 0 rfl) ?_
                  refine lv_iconst (v := II 3) C.1 C.2.1 dX4_takesTape_19 rfl ?_
                  refine x_icmp_ge (tgt := 76) C ⟨by decide, by decide⟩ ⟨by decide, by decide⟩ dX4_takesTape_20 (by decide) (fun _ => ?_) (fun h => absurd h (by decide))
                  skip
                  refine lv_aload_n C.1 C.2.1 dX4_takesTape_76 rfl (lv_at hl 2 rfl) ?_
                  refine g4 C hw 45 (by omega) rfl 7 (by decide) mw_284 (svr hT.2.2.2) dX4_takesTape_77 ?_
                  refine lv_iconst (v := II 3) C.1 C.2.1 dX4_takesTape_80 rfl ?_
                  refine lv_aload_n C.1 C.2.1 dX4_takesTape_81 rfl (lv_at hl 2 rfl) ?_
                  refine g4 C hw 45 (by omega) rfl 8 (by decide) mw_286 (svi (x := M49 45008) rfl) dX4_takesTape_82 ?_
                  refine x_iastore (L := 4) C hw hS 48 (by omega) rfl rfl (by omega) (by omega) (by decide) (x := M49 45008) (g_M49 _) dX4_takesTape_85 (fun H locs hw hS => ?_)
                  have hw : Wo g (stM M49 48003 (M49 45008)) H := hw
                  refine lv_aload_n C.1 C.2.1 dX4_takesTape_86 rfl (lv_at hl 2 rfl) ?_
                  refine lv_iconst (v := II 0) C.1 C.2.1 dX4_takesTape_87 rfl ?_
                  refine p4 C hw hS 45 (by omega) rfl 1 (by decide) mw_275 rfl (x := 0) ⟨by decide, by decide⟩ (svi st_s) (tyX4_ok 1 (by decide)) rfl rfl dX4_takesTape_88 (fun H locs hw hS => ?_)
                  have hw : Wo g (stM (stM M49 48003 (M49 45008)) 45001 0) H := hw
                  refine lv_iload_n C.1 C.2.1 dX4_takesTape_91 rfl (lv_at hl 1 rfl) ?_
                  refine x_if_eq (tgt := 108) C ⟨by decide, by decide⟩ dX4_takesTape_92 (by decide) (fun _ => ?_) (fun h => absurd h (by decide))
                  refine lv_iconst (v := II 0) C.1 C.2.1 dX4_takesTape_108 rfl ?_
                  exact x_ireturn C hr hlk hw hS ⟨by decide, by decide⟩ (by decide) ⟨((hxp2.rx h49f).st (by decide)).st (by decide), st_s, Or.inr ⟨rfl, _, tx_2 ept0 ept1 (pt_e hp2.1 eq2), (st_n (by decide)).trans ((st_n (by decide)).trans hf2.1)⟩⟩ dX4_takesTape_109
              · have g_M41 := hw.rg
                rw [er41]
                skip
                refine x_if_eq (tgt := 68) C ⟨by decide, by decide⟩ dX4_takesTape_44 (by decide) (fun _ => ?_) (fun h => absurd h (by decide))
                refine lv_iconst (v := II 0) C.1 C.2.1 dX4_takesTape_68 rfl ?_
                refine lv_istore_n (lv' := [(1, .int (II 0)), (2, .int (II 2)), (0, .ref (gA g 45))]) C.1 C.2.1 dX4_takesTape_69 rfl hl (by decide) rfl (fun ls hl => ?_)
                refine lv_iinc (v := II 3) (lv' := [(2, .int (II 3)), (1, .int (II 0)), (0, .ref (gA g 45))]) C.1 C.2.1 dX4_takesTape_70 hl (k := 1) rfl rfl (by decide) rfl (fun ls hl => ?_)
                refine lv_goto (tgt := 18) C.1 C.2.1 dX4_takesTape_73 (by decide) ?_
                refine lv_iload_n C.1 C.2.1 dX4_takesTape_18 rfl (lv_at hl 0 rfl) ?_
                refine lv_iconst (v := II 3) C.1 C.2.1 dX4_takesTape_19 rfl ?_
                refine x_icmp_ge (tgt := 76) C ⟨by decide, by decide⟩ ⟨by decide, by decide⟩ dX4_takesTape_20 (by decide) (fun _ => ?_) (fun h => absurd h (by decide))
                skip
                refine lv_aload_n C.1 C.2.1 dX4_takesTape_76 rfl (lv_at hl 2 rfl) ?_
                refine g4 C hw 45 (by omega) rfl 7 (by decide) mw_284 (svr hT.2.2.2) dX4_takesTape_77 ?_
                refine lv_iconst (v := II 3) C.1 C.2.1 dX4_takesTape_80 rfl ?_
                refine lv_aload_n C.1 C.2.1 dX4_takesTape_81 rfl (lv_at hl 2 rfl) ?_
                refine g4 C hw 45 (by omega) rfl 8 (by decide) mw_286 (svi (x := M41 45008) rfl) dX4_takesTape_82 ?_
                refine x_iastore (L := 4) C hw hS 48 (by omega) rfl rfl (by omega) (by omega) (by decide) (x := M41 45008) (g_M41 _) dX4_takesTape_85 (fun H locs hw hS => ?_)
                have hw : Wo g (stM M41 48003 (M41 45008)) H := hw
                refine lv_aload_n C.1 C.2.1 dX4_takesTape_86 rfl (lv_at hl 2 rfl) ?_
                refine lv_iconst (v := II 0) C.1 C.2.1 dX4_takesTape_87 rfl ?_
                refine p4 C hw hS 45 (by omega) rfl 1 (by decide) mw_275 rfl (x := 0) ⟨by decide, by decide⟩ (svi st_s) (tyX4_ok 1 (by decide)) rfl rfl dX4_takesTape_88 (fun H locs hw hS => ?_)
                have hw : Wo g (stM (stM M41 48003 (M41 45008)) 45001 0) H := hw
                refine lv_iload_n C.1 C.2.1 dX4_takesTape_91 rfl (lv_at hl 1 rfl) ?_
                refine x_if_eq (tgt := 108) C ⟨by decide, by decide⟩ dX4_takesTape_92 (by decide) (fun _ => ?_) (fun h => absurd h (by decide))
                refine lv_iconst (v := II 0) C.1 C.2.1 dX4_takesTape_108 rfl ?_
                exact x_ireturn C hr hlk hw hS ⟨by decide, by decide⟩ (by decide) ⟨((hxw2.rx h41f).st (by decide)).st (by decide), st_s, Or.inr ⟨rfl, _, tx_2 ept0 ept1 (pt_key h41b.1), (st_n (by decide)).trans ((st_n (by decide)).trans h41b.2.1)⟩⟩ dX4_takesTape_109
            · have g_M58 := hw.rg
              rw [er58]
              skip
              refine x_if_eq (tgt := 68) C ⟨by decide, by decide⟩ dX4_takesTape_61 (by decide) (fun _ => ?_) (fun h => absurd h (by decide))
              refine lv_iconst (v := II 0) C.1 C.2.1 dX4_takesTape_68 rfl ?_
              refine lv_istore_n (lv' := [(1, .int (II 0)), (2, .int (II 1)), (0, .ref (gA g 45))]) C.1 C.2.1 dX4_takesTape_69 rfl hl (by decide) rfl (fun ls hl => ?_)
              refine lv_iinc (v := II 2) (lv' := [(2, .int (II 2)), (1, .int (II 0)), (0, .ref (gA g 45))]) C.1 C.2.1 dX4_takesTape_70 hl (k := 1) rfl rfl (by decide) rfl (fun ls hl => ?_)
              refine lv_goto (tgt := 18) C.1 C.2.1 dX4_takesTape_73 (by decide) ?_
              refine lv_iload_n C.1 C.2.1 dX4_takesTape_18 rfl (lv_at hl 0 rfl) ?_
              refine lv_iconst (v := II 3) C.1 C.2.1 dX4_takesTape_19 rfl ?_
              refine x_icmp_ge (tgt := 76) C ⟨by decide, by decide⟩ ⟨by decide, by decide⟩ dX4_takesTape_20 (by decide) (fun h => absurd h (by decide)) (fun _ => ?_)
              refine lv_iload_n C.1 C.2.1 dX4_takesTape_23 rfl (lv_at hl 1 rfl) ?_
              refine x_if_eq (tgt := 76) C ⟨by decide, by decide⟩ dX4_takesTape_24 (by decide) (fun _ => ?_) (fun h => absurd h (by decide))
              skip
              refine lv_aload_n C.1 C.2.1 dX4_takesTape_76 rfl (lv_at hl 2 rfl) ?_
              refine g4 C hw 45 (by omega) rfl 7 (by decide) mw_284 (svr hT.2.2.2) dX4_takesTape_77 ?_
              refine lv_iconst (v := II 3) C.1 C.2.1 dX4_takesTape_80 rfl ?_
              refine lv_aload_n C.1 C.2.1 dX4_takesTape_81 rfl (lv_at hl 2 rfl) ?_
              refine g4 C hw 45 (by omega) rfl 8 (by decide) mw_286 (svi (x := M58 45008) rfl) dX4_takesTape_82 ?_
              refine x_iastore (L := 4) C hw hS 48 (by omega) rfl rfl (by omega) (by omega) (by decide) (x := M58 45008) (g_M58 _) dX4_takesTape_85 (fun H locs hw hS => ?_)
              have hw : Wo g (stM M58 48003 (M58 45008)) H := hw
              refine lv_aload_n C.1 C.2.1 dX4_takesTape_86 rfl (lv_at hl 2 rfl) ?_
              refine lv_iconst (v := II 0) C.1 C.2.1 dX4_takesTape_87 rfl ?_
              refine p4 C hw hS 45 (by omega) rfl 1 (by decide) mw_275 rfl (x := 0) ⟨by decide, by decide⟩ (svi st_s) (tyX4_ok 1 (by decide)) rfl rfl dX4_takesTape_88 (fun H locs hw hS => ?_)
              have hw : Wo g (stM (stM M58 48003 (M58 45008)) 45001 0) H := hw
              refine lv_iload_n C.1 C.2.1 dX4_takesTape_91 rfl (lv_at hl 1 rfl) ?_
              refine x_if_eq (tgt := 108) C ⟨by decide, by decide⟩ dX4_takesTape_92 (by decide) (fun _ => ?_) (fun h => absurd h (by decide))
              refine lv_iconst (v := II 0) C.1 C.2.1 dX4_takesTape_108 rfl ?_
              exact x_ireturn C hr hlk hw hS ⟨by decide, by decide⟩ (by decide) ⟨((hxe1.rx h58f).st (by decide)).st (by decide), st_s, Or.inr ⟨rfl, _, tx_1 ept0 (pt_no hp1.1 eq1 h58b.1), (st_n (by decide)).trans ((st_n (by decide)).trans h58b.2.1)⟩⟩ dX4_takesTape_109
          · have g_M49 := hw.rg
            rw [er49]
            obtain ⟨q2, eq2, hf2⟩ := h49b
            refine x_if_eq (tgt := 68) C ⟨by decide, by decide⟩ dX4_takesTape_52 (by decide) (fun _ => ?_) (fun h => absurd h (by decide))
            refine lv_iconst (v := II 0) C.1 C.2.1 dX4_takesTape_68 rfl ?_
            refine lv_istore_n (lv' := [(1, .int (II 0)), (2, .int (II 1)), (0, .ref (gA g 45))]) C.1 C.2.1 dX4_takesTape_69 rfl hl (by decide) rfl (fun ls hl => ?_)
            refine lv_iinc (v := II 2) (lv' := [(2, .int (II 2)), (1, .int (II 0)), (0, .ref (gA g 45))]) C.1 C.2.1 dX4_takesTape_70 hl (k := 1) rfl rfl (by decide) rfl (fun ls hl => ?_)
            refine lv_goto (tgt := 18) C.1 C.2.1 dX4_takesTape_73 (by decide) ?_
            refine lv_iload_n C.1 C.2.1 dX4_takesTape_18 rfl (lv_at hl 0 rfl) ?_
            refine lv_iconst (v := II 3) C.1 C.2.1 dX4_takesTape_19 rfl ?_
            refine x_icmp_ge (tgt := 76) C ⟨by decide, by decide⟩ ⟨by decide, by decide⟩ dX4_takesTape_20 (by decide) (fun h => absurd h (by decide)) (fun _ => ?_)
            refine lv_iload_n C.1 C.2.1 dX4_takesTape_23 rfl (lv_at hl 1 rfl) ?_
            refine x_if_eq (tgt := 76) C ⟨by decide, by decide⟩ dX4_takesTape_24 (by decide) (fun _ => ?_) (fun h => absurd h (by decide))
            skip
            refine lv_aload_n C.1 C.2.1 dX4_takesTape_76 rfl (lv_at hl 2 rfl) ?_
            refine g4 C hw 45 (by omega) rfl 7 (by decide) mw_284 (svr hT.2.2.2) dX4_takesTape_77 ?_
            refine lv_iconst (v := II 3) C.1 C.2.1 dX4_takesTape_80 rfl ?_
            refine lv_aload_n C.1 C.2.1 dX4_takesTape_81 rfl (lv_at hl 2 rfl) ?_
            refine g4 C hw 45 (by omega) rfl 8 (by decide) mw_286 (svi (x := M49 45008) rfl) dX4_takesTape_82 ?_
            refine x_iastore (L := 4) C hw hS 48 (by omega) rfl rfl (by omega) (by omega) (by decide) (x := M49 45008) (g_M49 _) dX4_takesTape_85 (fun H locs hw hS => ?_)
            have hw : Wo g (stM M49 48003 (M49 45008)) H := hw
            refine lv_aload_n C.1 C.2.1 dX4_takesTape_86 rfl (lv_at hl 2 rfl) ?_
            refine lv_iconst (v := II 0) C.1 C.2.1 dX4_takesTape_87 rfl ?_
            refine p4 C hw hS 45 (by omega) rfl 1 (by decide) mw_275 rfl (x := 0) ⟨by decide, by decide⟩ (svi st_s) (tyX4_ok 1 (by decide)) rfl rfl dX4_takesTape_88 (fun H locs hw hS => ?_)
            have hw : Wo g (stM (stM M49 48003 (M49 45008)) 45001 0) H := hw
            refine lv_iload_n C.1 C.2.1 dX4_takesTape_91 rfl (lv_at hl 1 rfl) ?_
            refine x_if_eq (tgt := 108) C ⟨by decide, by decide⟩ dX4_takesTape_92 (by decide) (fun _ => ?_) (fun h => absurd h (by decide))
            refine lv_iconst (v := II 0) C.1 C.2.1 dX4_takesTape_108 rfl ?_
            exact x_ireturn C hr hlk hw hS ⟨by decide, by decide⟩ (by decide) ⟨((hxp1.rx h49f).st (by decide)).st (by decide), st_s, Or.inr ⟨rfl, _, tx_1 ept0 (pt_e hp1.1 eq2), (st_n (by decide)).trans ((st_n (by decide)).trans hf2.1)⟩⟩ dX4_takesTape_109
        · have g_M41 := hw.rg
          rw [er41]
          skip
          refine x_if_eq (tgt := 68) C ⟨by decide, by decide⟩ dX4_takesTape_44 (by decide) (fun _ => ?_) (fun h => absurd h (by decide))
          refine lv_iconst (v := II 0) C.1 C.2.1 dX4_takesTape_68 rfl ?_
          refine lv_istore_n (lv' := [(1, .int (II 0)), (2, .int (II 1)), (0, .ref (gA g 45))]) C.1 C.2.1 dX4_takesTape_69 rfl hl (by decide) rfl (fun ls hl => ?_)
          refine lv_iinc (v := II 2) (lv' := [(2, .int (II 2)), (1, .int (II 0)), (0, .ref (gA g 45))]) C.1 C.2.1 dX4_takesTape_70 hl (k := 1) rfl rfl (by decide) rfl (fun ls hl => ?_)
          refine lv_goto (tgt := 18) C.1 C.2.1 dX4_takesTape_73 (by decide) ?_
          refine lv_iload_n C.1 C.2.1 dX4_takesTape_18 rfl (lv_at hl 0 rfl) ?_
          refine lv_iconst (v := II 3) C.1 C.2.1 dX4_takesTape_19 rfl ?_
          refine x_icmp_ge (tgt := 76) C ⟨by decide, by decide⟩ ⟨by decide, by decide⟩ dX4_takesTape_20 (by decide) (fun h => absurd h (by decide)) (fun _ => ?_)
          refine lv_iload_n C.1 C.2.1 dX4_takesTape_23 rfl (lv_at hl 1 rfl) ?_
          refine x_if_eq (tgt := 76) C ⟨by decide, by decide⟩ dX4_takesTape_24 (by decide) (fun _ => ?_) (fun h => absurd h (by decide))
          skip
          refine lv_aload_n C.1 C.2.1 dX4_takesTape_76 rfl (lv_at hl 2 rfl) ?_
          refine g4 C hw 45 (by omega) rfl 7 (by decide) mw_284 (svr hT.2.2.2) dX4_takesTape_77 ?_
          refine lv_iconst (v := II 3) C.1 C.2.1 dX4_takesTape_80 rfl ?_
          refine lv_aload_n C.1 C.2.1 dX4_takesTape_81 rfl (lv_at hl 2 rfl) ?_
          refine g4 C hw 45 (by omega) rfl 8 (by decide) mw_286 (svi (x := M41 45008) rfl) dX4_takesTape_82 ?_
          refine x_iastore (L := 4) C hw hS 48 (by omega) rfl rfl (by omega) (by omega) (by decide) (x := M41 45008) (g_M41 _) dX4_takesTape_85 (fun H locs hw hS => ?_)
          have hw : Wo g (stM M41 48003 (M41 45008)) H := hw
          refine lv_aload_n C.1 C.2.1 dX4_takesTape_86 rfl (lv_at hl 2 rfl) ?_
          refine lv_iconst (v := II 0) C.1 C.2.1 dX4_takesTape_87 rfl ?_
          refine p4 C hw hS 45 (by omega) rfl 1 (by decide) mw_275 rfl (x := 0) ⟨by decide, by decide⟩ (svi st_s) (tyX4_ok 1 (by decide)) rfl rfl dX4_takesTape_88 (fun H locs hw hS => ?_)
          have hw : Wo g (stM (stM M41 48003 (M41 45008)) 45001 0) H := hw
          refine lv_iload_n C.1 C.2.1 dX4_takesTape_91 rfl (lv_at hl 1 rfl) ?_
          refine x_if_eq (tgt := 108) C ⟨by decide, by decide⟩ dX4_takesTape_92 (by decide) (fun _ => ?_) (fun h => absurd h (by decide))
          refine lv_iconst (v := II 0) C.1 C.2.1 dX4_takesTape_108 rfl ?_
          exact x_ireturn C hr hlk hw hS ⟨by decide, by decide⟩ (by decide) ⟨((hxw1.rx h41f).st (by decide)).st (by decide), st_s, Or.inr ⟨rfl, _, tx_1 ept0 (pt_key h41b.1), (st_n (by decide)).trans ((st_n (by decide)).trans h41b.2.1)⟩⟩ dX4_takesTape_109
      · have g_M58 := hw.rg
        rw [er58]
        skip
        refine x_if_eq (tgt := 68) C ⟨by decide, by decide⟩ dX4_takesTape_61 (by decide) (fun _ => ?_) (fun h => absurd h (by decide))
        refine lv_iconst (v := II 0) C.1 C.2.1 dX4_takesTape_68 rfl ?_
        refine lv_istore_n (lv' := [(1, .int (II 0)), (2, .int (II 0)), (0, .ref (gA g 45))]) C.1 C.2.1 dX4_takesTape_69 rfl hl (by decide) rfl (fun ls hl => ?_)
        refine lv_iinc (v := II 1) (lv' := [(2, .int (II 1)), (1, .int (II 0)), (0, .ref (gA g 45))]) C.1 C.2.1 dX4_takesTape_70 hl (k := 1) rfl rfl (by decide) rfl (fun ls hl => ?_)
        refine lv_goto (tgt := 18) C.1 C.2.1 dX4_takesTape_73 (by decide) ?_
        refine lv_iload_n C.1 C.2.1 dX4_takesTape_18 rfl (lv_at hl 0 rfl) ?_
        refine lv_iconst (v := II 3) C.1 C.2.1 dX4_takesTape_19 rfl ?_
        refine x_icmp_ge (tgt := 76) C ⟨by decide, by decide⟩ ⟨by decide, by decide⟩ dX4_takesTape_20 (by decide) (fun h => absurd h (by decide)) (fun _ => ?_)
        refine lv_iload_n C.1 C.2.1 dX4_takesTape_23 rfl (lv_at hl 1 rfl) ?_
        refine x_if_eq (tgt := 76) C ⟨by decide, by decide⟩ dX4_takesTape_24 (by decide) (fun _ => ?_) (fun h => absurd h (by decide))
        skip
        refine lv_aload_n C.1 C.2.1 dX4_takesTape_76 rfl (lv_at hl 2 rfl) ?_
        refine g4 C hw 45 (by omega) rfl 7 (by decide) mw_284 (svr hT.2.2.2) dX4_takesTape_77 ?_
        refine lv_iconst (v := II 3) C.1 C.2.1 dX4_takesTape_80 rfl ?_
        refine lv_aload_n C.1 C.2.1 dX4_takesTape_81 rfl (lv_at hl 2 rfl) ?_
        refine g4 C hw 45 (by omega) rfl 8 (by decide) mw_286 (svi (x := M58 45008) rfl) dX4_takesTape_82 ?_
        refine x_iastore (L := 4) C hw hS 48 (by omega) rfl rfl (by omega) (by omega) (by decide) (x := M58 45008) (g_M58 _) dX4_takesTape_85 (fun H locs hw hS => ?_)
        have hw : Wo g (stM M58 48003 (M58 45008)) H := hw
        refine lv_aload_n C.1 C.2.1 dX4_takesTape_86 rfl (lv_at hl 2 rfl) ?_
        refine lv_iconst (v := II 0) C.1 C.2.1 dX4_takesTape_87 rfl ?_
        refine p4 C hw hS 45 (by omega) rfl 1 (by decide) mw_275 rfl (x := 0) ⟨by decide, by decide⟩ (svi st_s) (tyX4_ok 1 (by decide)) rfl rfl dX4_takesTape_88 (fun H locs hw hS => ?_)
        have hw : Wo g (stM (stM M58 48003 (M58 45008)) 45001 0) H := hw
        refine lv_iload_n C.1 C.2.1 dX4_takesTape_91 rfl (lv_at hl 1 rfl) ?_
        refine x_if_eq (tgt := 108) C ⟨by decide, by decide⟩ dX4_takesTape_92 (by decide) (fun _ => ?_) (fun h => absurd h (by decide))
        refine lv_iconst (v := II 0) C.1 C.2.1 dX4_takesTape_108 rfl ?_
        exact x_ireturn C hr hlk hw hS ⟨by decide, by decide⟩ (by decide) ⟨((hxe0.rx h58f).st (by decide)).st (by decide), st_s, Or.inr ⟨rfl, _, tx_0 (pt_no hp0.1 eq0 h58b.1), (st_n (by decide)).trans ((st_n (by decide)).trans h58b.2.1)⟩⟩ dX4_takesTape_109
    · have g_M49 := hw.rg
      rw [er49]
      obtain ⟨q2, eq2, hf2⟩ := h49b
      refine x_if_eq (tgt := 68) C ⟨by decide, by decide⟩ dX4_takesTape_52 (by decide) (fun _ => ?_) (fun h => absurd h (by decide))
      refine lv_iconst (v := II 0) C.1 C.2.1 dX4_takesTape_68 rfl ?_
      refine lv_istore_n (lv' := [(1, .int (II 0)), (2, .int (II 0)), (0, .ref (gA g 45))]) C.1 C.2.1 dX4_takesTape_69 rfl hl (by decide) rfl (fun ls hl => ?_)
      refine lv_iinc (v := II 1) (lv' := [(2, .int (II 1)), (1, .int (II 0)), (0, .ref (gA g 45))]) C.1 C.2.1 dX4_takesTape_70 hl (k := 1) rfl rfl (by decide) rfl (fun ls hl => ?_)
      refine lv_goto (tgt := 18) C.1 C.2.1 dX4_takesTape_73 (by decide) ?_
      refine lv_iload_n C.1 C.2.1 dX4_takesTape_18 rfl (lv_at hl 0 rfl) ?_
      refine lv_iconst (v := II 3) C.1 C.2.1 dX4_takesTape_19 rfl ?_
      refine x_icmp_ge (tgt := 76) C ⟨by decide, by decide⟩ ⟨by decide, by decide⟩ dX4_takesTape_20 (by decide) (fun h => absurd h (by decide)) (fun _ => ?_)
      refine lv_iload_n C.1 C.2.1 dX4_takesTape_23 rfl (lv_at hl 1 rfl) ?_
      refine x_if_eq (tgt := 76) C ⟨by decide, by decide⟩ dX4_takesTape_24 (by decide) (fun _ => ?_) (fun h => absurd h (by decide))
      skip
      refine lv_aload_n C.1 C.2.1 dX4_takesTape_76 rfl (lv_at hl 2 rfl) ?_
      refine g4 C hw 45 (by omega) rfl 7 (by decide) mw_284 (svr hT.2.2.2) dX4_takesTape_77 ?_
      refine lv_iconst (v := II 3) C.1 C.2.1 dX4_takesTape_80 rfl ?_
      refine lv_aload_n C.1 C.2.1 dX4_takesTape_81 rfl (lv_at hl 2 rfl) ?_
      refine g4 C hw 45 (by omega) rfl 8 (by decide) mw_286 (svi (x := M49 45008) rfl) dX4_takesTape_82 ?_
      refine x_iastore (L := 4) C hw hS 48 (by omega) rfl rfl (by omega) (by omega) (by decide) (x := M49 45008) (g_M49 _) dX4_takesTape_85 (fun H locs hw hS => ?_)
      have hw : Wo g (stM M49 48003 (M49 45008)) H := hw
      refine lv_aload_n C.1 C.2.1 dX4_takesTape_86 rfl (lv_at hl 2 rfl) ?_
      refine lv_iconst (v := II 0) C.1 C.2.1 dX4_takesTape_87 rfl ?_
      refine p4 C hw hS 45 (by omega) rfl 1 (by decide) mw_275 rfl (x := 0) ⟨by decide, by decide⟩ (svi st_s) (tyX4_ok 1 (by decide)) rfl rfl dX4_takesTape_88 (fun H locs hw hS => ?_)
      have hw : Wo g (stM (stM M49 48003 (M49 45008)) 45001 0) H := hw
      refine lv_iload_n C.1 C.2.1 dX4_takesTape_91 rfl (lv_at hl 1 rfl) ?_
      refine x_if_eq (tgt := 108) C ⟨by decide, by decide⟩ dX4_takesTape_92 (by decide) (fun _ => ?_) (fun h => absurd h (by decide))
      refine lv_iconst (v := II 0) C.1 C.2.1 dX4_takesTape_108 rfl ?_
      exact x_ireturn C hr hlk hw hS ⟨by decide, by decide⟩ (by decide) ⟨((hxp0.rx h49f).st (by decide)).st (by decide), st_s, Or.inr ⟨rfl, _, tx_0 (pt_e hp0.1 eq2), (st_n (by decide)).trans ((st_n (by decide)).trans hf2.1)⟩⟩ dX4_takesTape_109
  · have g_M41 := hw.rg
    rw [er41]
    skip
    refine x_if_eq (tgt := 68) C ⟨by decide, by decide⟩ dX4_takesTape_44 (by decide) (fun _ => ?_) (fun h => absurd h (by decide))
    refine lv_iconst (v := II 0) C.1 C.2.1 dX4_takesTape_68 rfl ?_
    refine lv_istore_n (lv' := [(1, .int (II 0)), (2, .int (II 0)), (0, .ref (gA g 45))]) C.1 C.2.1 dX4_takesTape_69 rfl hl (by decide) rfl (fun ls hl => ?_)
    refine lv_iinc (v := II 1) (lv' := [(2, .int (II 1)), (1, .int (II 0)), (0, .ref (gA g 45))]) C.1 C.2.1 dX4_takesTape_70 hl (k := 1) rfl rfl (by decide) rfl (fun ls hl => ?_)
    refine lv_goto (tgt := 18) C.1 C.2.1 dX4_takesTape_73 (by decide) ?_
    refine lv_iload_n C.1 C.2.1 dX4_takesTape_18 rfl (lv_at hl 0 rfl) ?_
    refine lv_iconst (v := II 3) C.1 C.2.1 dX4_takesTape_19 rfl ?_
    refine x_icmp_ge (tgt := 76) C ⟨by decide, by decide⟩ ⟨by decide, by decide⟩ dX4_takesTape_20 (by decide) (fun h => absurd h (by decide)) (fun _ => ?_)
    refine lv_iload_n C.1 C.2.1 dX4_takesTape_23 rfl (lv_at hl 1 rfl) ?_
    refine x_if_eq (tgt := 76) C ⟨by decide, by decide⟩ dX4_takesTape_24 (by decide) (fun _ => ?_) (fun h => absurd h (by decide))
    skip
    refine lv_aload_n C.1 C.2.1 dX4_takesTape_76 rfl (lv_at hl 2 rfl) ?_
    refine g4 C hw 45 (by omega) rfl 7 (by decide) mw_284 (svr hT.2.2.2) dX4_takesTape_77 ?_
    refine lv_iconst (v := II 3) C.1 C.2.1 dX4_takesTape_80 rfl ?_
    refine lv_aload_n C.1 C.2.1 dX4_takesTape_81 rfl (lv_at hl 2 rfl) ?_
    refine g4 C hw 45 (by omega) rfl 8 (by decide) mw_286 (svi (x := M41 45008) rfl) dX4_takesTape_82 ?_
    refine x_iastore (L := 4) C hw hS 48 (by omega) rfl rfl (by omega) (by omega) (by decide) (x := M41 45008) (g_M41 _) dX4_takesTape_85 (fun H locs hw hS => ?_)
    have hw : Wo g (stM M41 48003 (M41 45008)) H := hw
    refine lv_aload_n C.1 C.2.1 dX4_takesTape_86 rfl (lv_at hl 2 rfl) ?_
    refine lv_iconst (v := II 0) C.1 C.2.1 dX4_takesTape_87 rfl ?_
    refine p4 C hw hS 45 (by omega) rfl 1 (by decide) mw_275 rfl (x := 0) ⟨by decide, by decide⟩ (svi st_s) (tyX4_ok 1 (by decide)) rfl rfl dX4_takesTape_88 (fun H locs hw hS => ?_)
    have hw : Wo g (stM (stM M41 48003 (M41 45008)) 45001 0) H := hw
    refine lv_iload_n C.1 C.2.1 dX4_takesTape_91 rfl (lv_at hl 1 rfl) ?_
    refine x_if_eq (tgt := 108) C ⟨by decide, by decide⟩ dX4_takesTape_92 (by decide) (fun _ => ?_) (fun h => absurd h (by decide))
    refine lv_iconst (v := II 0) C.1 C.2.1 dX4_takesTape_108 rfl ?_
    exact x_ireturn C hr hlk hw hS ⟨by decide, by decide⟩ (by decide) ⟨((hxw0.rx h41f).st (by decide)).st (by decide), st_s, Or.inr ⟨rfl, _, tx_0 (pt_key h41b.1), (st_n (by decide)).trans ((st_n (by decide)).trans h41b.2.1)⟩⟩ dX4_takesTape_109
