def RY (M M' : Nat → Int) : Prop := ∀ m, ¬ (rdr m ∨ (32000 ≤ m ∧ m < 33000)) → M' m = M m
theorem RY.rx {M M1 M2 : Nat → Int} (h : RY M M1) (h2 : RX M1 M2) : RY M M2 := fun m hm => (h2 m (fun z => hm (Or.inl z))).trans (h m hm)
theorem RY.st {M M1 : Nat → Int} {k : Nat} {x : Int} (h : RY M M1) (hk : 32000 ≤ k ∧ k < 33000) : RY M (stM M1 k x) := fun m hm => (st_n (fun z => hm (Or.inr (by omega)))).trans (h m hm)
theorem RS.st {M : Nat → Int} {b : Nat → Int} {n i : Nat} {c0 : List Int} {k : Nat} {x : Int} (h : RS M b n i c0) (hk : 32000 ≤ k ∧ k < 33000) : RS (stM M k x) b n i c0 := by
  have h3 := h.len
  obtain ⟨⟨h1, h2⟩, ⟨g1, g2, g3, g4⟩, h5, h6, h7⟩ := h
  exact ⟨⟨h1.fr (fun m hm => st_n (by omega)), h2⟩, ⟨(st_n (by omega)).trans g1, (st_n (by omega)).trans g2, (st_n (by omega)).trans g3, fun z => (st_n (by omega)).trans (g4 z)⟩, (st_n (by omega)).trans h5, h6, fun y hy => (st_n (by omega)).trans (h7 y hy)⟩
theorem pt_key {b : Nat → Int} {n i : Nat} {k : Int} (h : ¬ tK b n i = k) : ptP b n k i = .inl (tS b n i) := by unfold ptP; rw [if_neg h]
theorem pt_e {b : Nat → Int} {n i q : Nat} {k : Int} (h : tK b n i = k) (h2 : qE b n 5 (tE b n i) = .inl q) : ptP b n k i = .inl q := by unfold ptP; rw [if_pos h, h2]
theorem pt_ok {b : Nat → Int} {n i j : Nat} {c : List Int} {k : Int} (h : tK b n i = k) (h2 : qE b n 5 (tE b n i) = .inr (c, j)) (h3 : tK b n j = 6) : ptP b n k i = .inr (c, tE b n j) := by unfold ptP; rw [if_pos h, h2]; exact if_pos h3
theorem pt_no {b : Nat → Int} {n i j : Nat} {c : List Int} {k : Int} (h : tK b n i = k) (h2 : qE b n 5 (tE b n i) = .inr (c, j)) (h3 : ¬ tK b n j = 6) : ptP b n k i = .inl (tS b n j) := by unfold ptP; rw [if_pos h, h2]; exact if_neg h3
theorem tx_0 {b : Nat → Int} {n q : Nat} (h : ptP b n 1 0 = .inl q) : txP b n = .inl q := by unfold txP; rw [h]
theorem tx_1 {b : Nat → Int} {n q i1 : Nat} {d0 : List Int} (h : ptP b n 1 0 = .inr (d0, i1)) (h1 : ptP b n 2 i1 = .inl q) : txP b n = .inl q := by unfold txP; rw [h]; show (match ptP b n 2 i1 with | .inl q => _ | .inr (c1, i2) => _) = _; rw [h1]
theorem tx_2 {b : Nat → Int} {n q i1 i2 : Nat} {d0 d1 : List Int} (h : ptP b n 1 0 = .inr (d0, i1)) (h1 : ptP b n 2 i1 = .inr (d1, i2)) (h2 : ptP b n 3 i2 = .inl q) : txP b n = .inl q := by simp only [txP, h, h1, h2]
theorem tx_3 {b : Nat → Int} {n i1 i2 i3 : Nat} {d0 d1 d2 : List Int} (h : ptP b n 1 0 = .inr (d0, i1)) (h1 : ptP b n 2 i1 = .inr (d1, i2)) (h2 : ptP b n 3 i2 = .inr (d2, i3)) (h3 : ¬ tK b n i3 = 7) : txP b n = .inl (tS b n i3) := by simp only [txP, h, h1, h2, if_neg h3]
theorem tx_4 {b : Nat → Int} {n i1 i2 i3 : Nat} {d0 d1 d2 : List Int} (h : ptP b n 1 0 = .inr (d0, i1)) (h1 : ptP b n 2 i1 = .inr (d1, i2)) (h2 : ptP b n 3 i2 = .inr (d2, i3)) (h3 : tK b n i3 = 7) : txP b n = .inr (d0, d1, d2) := by simp only [txP, h, h1, h2, if_pos h3]
/-- the reader's rows hold three codes -/
def CDM (M : Nat → Int) (d0 d1 d2 : List Int) : Prop := (gdC d0 ∧ gdC d1 ∧ gdC d2) ∧ d0.length + d1.length + d2.length ≤ 160 ∧ (M 32000 = 0 ∧ M 32001 = (d0.length : Int) ∧ M 32002 = ((d0.length + d1.length : Nat) : Int) ∧ M 32003 = ((d0.length + d1.length + d2.length : Nat) : Int)) ∧ ∀ x, x < (d0 ++ d1 ++ d2).length → M (31000 + x) = (d0 ++ d1 ++ d2).getD x 0
set_option maxHeartbeats 4000000 in
set_option maxRecDepth 100000 in
theorem c_X4_readsText (l : Launch) (g : Gm) (M : Nat → Int) (hT : LvR g) (b : Nat → Int) (n : Nat) (hb : TP M b n) : CI l ({ cls := "RatedBySighs$Reader", name := "readsText", desc := "()Z" } : Jvm.MethodName) cX4_readsText 2 .boolean (rmm 43 969) g M [.ref (gA g 29)] (fun r M' => (RY M M') ∧ ((r = 1 ∧ (∃ d0 d1 d2, txP b n = .inr (d0, d1, d2) ∧ CDM M' d0 d1 d2)) ∨ (r = 0 ∧ (∃ q : Nat, txP b n = .inl q ∧ M' 29004 = (q : Int))))) := by
  refine c_start (by decide) (Nat.le_of_ble_eq_true rfl) (fun p e s m below meth c ls C hr hlk hml hw hS hl => ?_)
  have hl : lv_has ls 2 [(0, .ref (gA g 29))] := hl
  have g_M := hw.rg
  have hN : 33 ≤ gN g := hT.1
  refine lv_aload_n C.1 C.2.1 dX4_readsText_0 rfl (lv_at hl 0 rfl) ?_
  refine lv_iconst (v := II 0) C.1 C.2.1 dX4_readsText_1 rfl ?_
  refine p4 C hw hS 29 (by omega) rfl 2 (by decide) mw_229 rfl (x := 0) ⟨by decide, by decide⟩ (svi st_s) (tyX4_ok 2 (by decide)) rfl rfl dX4_readsText_2 (fun H locs hw hS => ?_)
  have hw : Wo g (stM M 29002 0) H := hw
  refine lv_aload_n C.1 C.2.1 dX4_readsText_5 rfl (lv_at hl 0 rfl) ?_
  refine lv_iconst (v := II 0) C.1 C.2.1 dX4_readsText_6 rfl ?_
  refine p4 C hw hS 29 (by omega) rfl 8 (by decide) mw_238 rfl (x := 0) ⟨by decide, by decide⟩ (svi st_s) (tyX4_ok 8 (by decide)) rfl rfl dX4_readsText_7 (fun H locs hw hS => ?_)
  have hw : Wo g (stM (stM M 29002 0) 29008 0) H := hw
  refine lv_aload_n C.1 C.2.1 dX4_readsText_10 rfl (lv_at hl 0 rfl) ?_
  refine x_cv (x_runV (n := 0) C hw hS hml hl.1 29 4 (by omega) rfl (by decide) rfl (c_X4_next l g (stM (stM M 29002 0) 29008 0) hT b n (hb.fr (fun m hm => (st_n (by omega)).trans (st_n (by omega)))) 0 (Nat.zero_le _) ((st_n (by decide)).trans st_s)) mw_320 mw_322 mw_3 mw_122 mw_323 rfl rfl (by decide +kernel) ⟨Nat.le_of_ble_eq_true rfl, Nat.le_of_ble_eq_true rfl⟩ rfl rfl (Nat.le_of_ble_eq_true rfl) dX4_readsText_11 ⟨Nat.zero_le _, Nat.zero_le _⟩) hS (fun M11 H locs hp hw hS => ?_)
  have h11p := hp
  have g_M11 := hw.rg
  have hsr0 : RS M11 b n 0 ([] : List Int) := by
    refine ⟨⟨hb.fr (fun m hm => (h11p.2 m (by omega)).trans ((st_n (by omega)).trans (st_n (by omega)))), Nat.zero_le _⟩, h11p.1, (h11p.2 _ (by omega)).trans st_s, Nat.zero_le _, fun x hx => absurd hx (Nat.not_lt_zero _)⟩
  have hxr0 : RY M M11 := fun m hm => by
    unfold rdr at hm
    rw [h11p.2 m (by omega), st_n (by omega), st_n (by omega)]
  refine lv_iconst (v := II 0) C.1 C.2.1 dX4_readsText_14 rfl ?_
  refine lv_istore_n (lv' := [(1, .int (II 0)), (0, .ref (gA g 29))]) C.1 C.2.1 dX4_readsText_15 rfl hl (by decide) rfl (fun ls hl => ?_)
  refine lv_iload_n C.1 C.2.1 dX4_readsText_16 rfl (lv_at hl 0 rfl) ?_
  refine lv_iconst (v := II 3) C.1 C.2.1 dX4_readsText_17 rfl ?_
  refine x_icmp_ge (tgt := 66) C ⟨by decide, by decide⟩ ⟨by decide, by decide⟩ dX4_readsText_18 (by decide) (fun h => absurd h (by decide)) (fun _ => ?_)
  have hlz := hsr0.len
  refine lv_aload_n C.1 C.2.1 dX4_readsText_21 rfl (lv_at hl 1 rfl) ?_
  refine g4 C hw 29 (by omega) rfl 7 (by decide) mw_236 (svr hT.2.2.2) dX4_readsText_22 ?_
  refine lv_iload_n C.1 C.2.1 dX4_readsText_25 rfl (lv_at hl 0 rfl) ?_
  refine lv_aload_n C.1 C.2.1 dX4_readsText_26 rfl (lv_at hl 1 rfl) ?_
  refine g4 C hw 29 (by omega) rfl 8 (by decide) mw_238 (svi (x := ((([] : List Int).length : Nat) : Int)) hsr0.2.2.1) dX4_readsText_27 ?_
  refine x_iastore (L := 4) C hw hS 32 (by omega) rfl rfl (by omega) (by omega) (by decide) (x := ((([] : List Int).length : Nat) : Int)) ⟨by have := g_M11 29008; have := hsr0.2.2.1; omega, by have := g_M11 29008; have := hsr0.2.2.1; omega⟩ dX4_readsText_30 (fun H locs hw hS => ?_)
  have hw : Wo g (stM M11 32000 ((([] : List Int).length : Nat) : Int)) H := hw
  have hsw0 := hsr0.st (k := 32000) (x := ((([] : List Int).length : Nat) : Int)) (by decide)
  have hxw0 := hxr0.st (k := 32000) (x := ((([] : List Int).length : Nat) : Int)) (by decide)
  have hu0_0 : (stM M11 32000 ((([] : List Int).length : Nat) : Int)) 32000 = ((([] : List Int).length : Nat) : Int) := st_s
  refine lv_aload_n C.1 C.2.1 dX4_readsText_31 rfl (lv_at hl 1 rfl) ?_
  refine lv_iconst (v := II 1) C.1 C.2.1 dX4_readsText_32 rfl ?_
  refine lv_iload_n C.1 C.2.1 dX4_readsText_33 rfl (lv_at hl 0 rfl) ?_
  refine x_iadd C dX4_readsText_34 ?_
  rw [show (1 + 0 : Int) = 1 from by decide]
  refine x_ci (x_runV (n := 1) C hw hS hml hl.1 29 4 (by omega) rfl (by decide) rfl (c_X4_passes l g (stM M11 32000 ((([] : List Int).length : Nat) : Int)) hT b n 0 ([] : List Int) hsw0 1 ⟨by decide, by decide⟩) mw_359 mw_361 mw_7 mw_122 mw_362 rfl rfl (by decide +kernel) ⟨Nat.le_of_ble_eq_true rfl, Nat.le_of_ble_eq_true rfl⟩ rfl rfl (Nat.le_of_ble_eq_true rfl) dX4_readsText_35 ⟨Nat.zero_le _, Nat.zero_le _⟩) hS (fun r35 M35 H locs hr35 hp hw hS => ?_)
  rcases hp with ⟨h35f, (⟨er35, h35b⟩ | ⟨er35, h35b⟩)⟩
  · have g_M35 := hw.rg
    rw [er35]
    have hp0 := h35b
    have hxp0 := hxw0.rx h35f
    have ep35 := h35f
    refine x_if_eq (tgt := 58) C ⟨by decide, by decide⟩ dX4_readsText_38 (by decide) (fun h => absurd h (by decide)) (fun _ => ?_)
    refine lv_aload_n C.1 C.2.1 dX4_readsText_41 rfl (lv_at hl 1 rfl) ?_
    refine lv_iconst (v := II 0) C.1 C.2.1 dX4_readsText_42 rfl ?_
    refine x_ci (x_runV (n := 1) C hw hS hml hl.1 29 4 (by omega) rfl (by decide) rfl (c_X4_either0 l g M35 hT b n (tE b n 0) ([] : List Int) hp0.2) mw_363 mw_365 mw_8 mw_122 mw_366 rfl rfl (by decide +kernel) ⟨Nat.le_of_ble_eq_true rfl, Nat.le_of_ble_eq_true rfl⟩ rfl rfl (Nat.le_of_ble_eq_true rfl) dX4_readsText_43 ⟨Nat.zero_le _, Nat.zero_le _⟩) hS (fun r43 M43 H locs hr43 hp hw hS => ?_)
    rcases hp with ⟨h43f, (⟨er43, h43b⟩ | ⟨er43, h43b⟩)⟩
    · have g_M43 := hw.rg
      rw [er43]
      obtain ⟨d0, y0, eq0, hs0⟩ := h43b
      have hxe0 := hxp0.rx h43f
      have ep43 := h43f
      refine x_if_eq (tgt := 58) C ⟨by decide, by decide⟩ dX4_readsText_46 (by decide) (fun h => absurd h (by decide)) (fun _ => ?_)
      refine lv_aload_n C.1 C.2.1 dX4_readsText_49 rfl (lv_at hl 1 rfl) ?_
      refine lv_bipush (v := II 6) C.1 C.2.1 dX4_readsText_50 (by decide) ?_
      refine x_ci (x_runV (n := 1) C hw hS hml hl.1 29 4 (by omega) rfl (by decide) rfl (c_X4_passes l g M43 hT b n y0 (([] : List Int) ++ d0) hs0 6 ⟨by decide, by decide⟩) mw_359 mw_361 mw_7 mw_122 mw_362 rfl rfl (by decide +kernel) ⟨Nat.le_of_ble_eq_true rfl, Nat.le_of_ble_eq_true rfl⟩ rfl rfl (Nat.le_of_ble_eq_true rfl) dX4_readsText_52 ⟨Nat.zero_le _, Nat.zero_le _⟩) hS (fun r52 M52 H locs hr52 hp hw hS => ?_)
      rcases hp with ⟨h52f, (⟨er52, h52b⟩ | ⟨er52, h52b⟩)⟩
      · have g_M52 := hw.rg
        rw [er52]
        have hsr1 := h52b.2
        have hxr1 := hxe0.rx h52f
        have ept0 := pt_ok (k := 1) hp0.1 eq0 h52b.1
        have hkg0 := (ok_qE b n 5).r hp0.2.1.2 eq0
        have ht1_0 : M52 32000 = ((([] : List Int).length : Nat) : Int) := (h52f _ (by unfold rdr; omega)).trans ((ep43 _ (by unfold rdr; omega)).trans ((ep35 _ (by unfold rdr; omega)).trans hu0_0))
        refine x_if_ne (tgt := 60) C ⟨by decide, by decide⟩ dX4_readsText_55 (by decide) (fun _ => ?_) (fun h => absurd h (by decide))
        refine lv_iinc (v := II 1) (lv' := [(1, .int (II 1)), (0, .ref (gA g 29))]) C.1 C.2.1 dX4_readsText_60 hl (k := 0) rfl rfl (by decide) rfl (fun ls hl => ?_)
        refine lv_goto (tgt := 16) C.1 C.2.1 dX4_readsText_63 (by decide) ?_
        refine lv_iload_n C.1 C.2.1 dX4_readsText_16 rfl (lv_at hl 0 rfl) ?_
        refine lv_iconst (v := II 3) C.1 C.2.1 dX4_readsText_17 rfl ?_
        refine x_icmp_ge (tgt := 66) C ⟨by decide, by decide⟩ ⟨by decide, by decide⟩ dX4_readsText_18 (by decide) (fun h => absurd h (by decide)) (fun _ => ?_)
        have hlz := hsr1.len
        refine lv_aload_n C.1 C.2.1 dX4_readsText_21 rfl (lv_at hl 1 rfl) ?_
        refine g4 C hw 29 (by omega) rfl 7 (by decide) mw_236 (svr hT.2.2.2) dX4_readsText_22 ?_
        refine lv_iload_n C.1 C.2.1 dX4_readsText_25 rfl (lv_at hl 0 rfl) ?_
        refine lv_aload_n C.1 C.2.1 dX4_readsText_26 rfl (lv_at hl 1 rfl) ?_
        refine g4 C hw 29 (by omega) rfl 8 (by decide) mw_238 (svi (x := (((([] : List Int) ++ d0).length : Nat) : Int)) hsr1.2.2.1) dX4_readsText_27 ?_
        refine x_iastore (L := 4) C hw hS 32 (by omega) rfl rfl (by omega) (by omega) (by decide) (x := (((([] : List Int) ++ d0).length : Nat) : Int)) ⟨by have := g_M52 29008; have := hsr1.2.2.1; omega, by have := g_M52 29008; have := hsr1.2.2.1; omega⟩ dX4_readsText_30 (fun H locs hw hS => ?_)
        have hw : Wo g (stM M52 32001 (((([] : List Int) ++ d0).length : Nat) : Int)) H := hw
        have hsw1 := hsr1.st (k := 32001) (x := (((([] : List Int) ++ d0).length : Nat) : Int)) (by decide)
        have hxw1 := hxr1.st (k := 32001) (x := (((([] : List Int) ++ d0).length : Nat) : Int)) (by decide)
        have hu1_0 : (stM M52 32001 (((([] : List Int) ++ d0).length : Nat) : Int)) 32000 = ((([] : List Int).length : Nat) : Int) := ((st_n (by decide)).trans ht1_0)
        have hu1_1 : (stM M52 32001 (((([] : List Int) ++ d0).length : Nat) : Int)) 32001 = (((([] : List Int) ++ d0).length : Nat) : Int) := st_s
        refine lv_aload_n C.1 C.2.1 dX4_readsText_31 rfl (lv_at hl 1 rfl) ?_
        refine lv_iconst (v := II 1) C.1 C.2.1 dX4_readsText_32 rfl ?_
        refine lv_iload_n C.1 C.2.1 dX4_readsText_33 rfl (lv_at hl 0 rfl) ?_
        refine x_iadd C dX4_readsText_34 ?_
        rw [show (1 + 1 : Int) = 2 from by decide]
        refine x_ci (x_runV (n := 1) C hw hS hml hl.1 29 4 (by omega) rfl (by decide) rfl (c_X4_passes l g (stM M52 32001 (((([] : List Int) ++ d0).length : Nat) : Int)) hT b n (tE b n y0) (([] : List Int) ++ d0) hsw1 2 ⟨by decide, by decide⟩) mw_359 mw_361 mw_7 mw_122 mw_362 rfl rfl (by decide +kernel) ⟨Nat.le_of_ble_eq_true rfl, Nat.le_of_ble_eq_true rfl⟩ rfl rfl (Nat.le_of_ble_eq_true rfl) dX4_readsText_35 ⟨Nat.zero_le _, Nat.zero_le _⟩) hS (fun r35 M35 H locs hr35 hp hw hS => ?_)
        rcases hp with ⟨h35f, (⟨er35, h35b⟩ | ⟨er35, h35b⟩)⟩
        · have g_M35 := hw.rg
          rw [er35]
          have hp1 := h35b
          have hxp1 := hxw1.rx h35f
          have ep35 := h35f
          refine x_if_eq (tgt := 58) C ⟨by decide, by decide⟩ dX4_readsText_38 (by decide) (fun h => absurd h (by decide)) (fun _ => ?_)
          refine lv_aload_n C.1 C.2.1 dX4_readsText_41 rfl (lv_at hl 1 rfl) ?_
          refine lv_iconst (v := II 0) C.1 C.2.1 dX4_readsText_42 rfl ?_
          refine x_ci (x_runV (n := 1) C hw hS hml hl.1 29 4 (by omega) rfl (by decide) rfl (c_X4_either0 l g M35 hT b n (tE b n (tE b n y0)) (([] : List Int) ++ d0) hp1.2) mw_363 mw_365 mw_8 mw_122 mw_366 rfl rfl (by decide +kernel) ⟨Nat.le_of_ble_eq_true rfl, Nat.le_of_ble_eq_true rfl⟩ rfl rfl (Nat.le_of_ble_eq_true rfl) dX4_readsText_43 ⟨Nat.zero_le _, Nat.zero_le _⟩) hS (fun r43 M43 H locs hr43 hp hw hS => ?_)
          rcases hp with ⟨h43f, (⟨er43, h43b⟩ | ⟨er43, h43b⟩)⟩
          · have g_M43 := hw.rg
            rw [er43]
            obtain ⟨d1, y1, eq1, hs1⟩ := h43b
            have hxe1 := hxp1.rx h43f
            have ep43 := h43f
            refine x_if_eq (tgt := 58) C ⟨by decide, by decide⟩ dX4_readsText_46 (by decide) (fun h => absurd h (by decide)) (fun _ => ?_)
            refine lv_aload_n C.1 C.2.1 dX4_readsText_49 rfl (lv_at hl 1 rfl) ?_
            refine lv_bipush (v := II 6) C.1 C.2.1 dX4_readsText_50 (by decide) ?_
            refine x_ci (x_runV (n := 1) C hw hS hml hl.1 29 4 (by omega) rfl (by decide) rfl (c_X4_passes l g M43 hT b n y1 (([] : List Int) ++ d0 ++ d1) hs1 6 ⟨by decide, by decide⟩) mw_359 mw_361 mw_7 mw_122 mw_362 rfl rfl (by decide +kernel) ⟨Nat.le_of_ble_eq_true rfl, Nat.le_of_ble_eq_true rfl⟩ rfl rfl (Nat.le_of_ble_eq_true rfl) dX4_readsText_52 ⟨Nat.zero_le _, Nat.zero_le _⟩) hS (fun r52 M52 H locs hr52 hp hw hS => ?_)
            rcases hp with ⟨h52f, (⟨er52, h52b⟩ | ⟨er52, h52b⟩)⟩
            · have g_M52 := hw.rg
              rw [er52]
              have hsr2 := h52b.2
              have hxr2 := hxe1.rx h52f
              have ept1 := pt_ok (k := 2) hp1.1 eq1 h52b.1
              have hkg1 := (ok_qE b n 5).r hp1.2.1.2 eq1
              have ht2_0 : M52 32000 = ((([] : List Int).length : Nat) : Int) := (h52f _ (by unfold rdr; omega)).trans ((ep43 _ (by unfold rdr; omega)).trans ((ep35 _ (by unfold rdr; omega)).trans hu1_0))
              have ht2_1 : M52 32001 = (((([] : List Int) ++ d0).length : Nat) : Int) := (h52f _ (by unfold rdr; omega)).trans ((ep43 _ (by unfold rdr; omega)).trans ((ep35 _ (by unfold rdr; omega)).trans hu1_1))
              refine x_if_ne (tgt := 60) C ⟨by decide, by decide⟩ dX4_readsText_55 (by decide) (fun _ => ?_) (fun h => absurd h (by decide))
              refine lv_iinc (v := II 2) (lv' := [(1, .int (II 2)), (0, .ref (gA g 29))]) C.1 C.2.1 dX4_readsText_60 hl (k := 0) rfl rfl (by decide) rfl (fun ls hl => ?_)
              refine lv_goto (tgt := 16) C.1 C.2.1 dX4_readsText_63 (by decide) ?_
              refine lv_iload_n C.1 C.2.1 dX4_readsText_16 rfl (lv_at hl 0 rfl) ?_
              refine lv_iconst (v := II 3) C.1 C.2.1 dX4_readsText_17 rfl ?_
              refine x_icmp_ge (tgt := 66) C ⟨by decide, by decide⟩ ⟨by decide, by decide⟩ dX4_readsText_18 (by decide) (fun h => absurd h (by decide)) (fun _ => ?_)
              have hlz := hsr2.len
              refine lv_aload_n C.1 C.2.1 dX4_readsText_21 rfl (lv_at hl 1 rfl) ?_
              refine g4 C hw 29 (by omega) rfl 7 (by decide) mw_236 (svr hT.2.2.2) dX4_readsText_22 ?_
              refine lv_iload_n C.1 C.2.1 dX4_readsText_25 rfl (lv_at hl 0 rfl) ?_
              refine lv_aload_n C.1 C.2.1 dX4_readsText_26 rfl (lv_at hl 1 rfl) ?_
              refine g4 C hw 29 (by omega) rfl 8 (by decide) mw_238 (svi (x := (((([] : List Int) ++ d0 ++ d1).length : Nat) : Int)) hsr2.2.2.1) dX4_readsText_27 ?_
              refine x_iastore (L := 4) C hw hS 32 (by omega) rfl rfl (by omega) (by omega) (by decide) (x := (((([] : List Int) ++ d0 ++ d1).length : Nat) : Int)) ⟨by have := g_M52 29008; have := hsr2.2.2.1; omega, by have := g_M52 29008; have := hsr2.2.2.1; omega⟩ dX4_readsText_30 (fun H locs hw hS => ?_)
              have hw : Wo g (stM M52 32002 (((([] : List Int) ++ d0 ++ d1).length : Nat) : Int)) H := hw
              have hsw2 := hsr2.st (k := 32002) (x := (((([] : List Int) ++ d0 ++ d1).length : Nat) : Int)) (by decide)
              have hxw2 := hxr2.st (k := 32002) (x := (((([] : List Int) ++ d0 ++ d1).length : Nat) : Int)) (by decide)
              have hu2_0 : (stM M52 32002 (((([] : List Int) ++ d0 ++ d1).length : Nat) : Int)) 32000 = ((([] : List Int).length : Nat) : Int) := ((st_n (by decide)).trans ht2_0)
              have hu2_1 : (stM M52 32002 (((([] : List Int) ++ d0 ++ d1).length : Nat) : Int)) 32001 = (((([] : List Int) ++ d0).length : Nat) : Int) := ((st_n (by decide)).trans ht2_1)
              have hu2_2 : (stM M52 32002 (((([] : List Int) ++ d0 ++ d1).length : Nat) : Int)) 32002 = (((([] : List Int) ++ d0 ++ d1).length : Nat) : Int) := st_s
              refine lv_aload_n C.1 C.2.1 dX4_readsText_31 rfl (lv_at hl 1 rfl) ?_
              refine lv_iconst (v := II 1) C.1 C.2.1 dX4_readsText_32 rfl ?_
              refine lv_iload_n C.1 C.2.1 dX4_readsText_33 rfl (lv_at hl 0 rfl) ?_
              refine x_iadd C dX4_readsText_34 ?_
              rw [show (1 + 2 : Int) = 3 from by decide]
              refine x_ci (x_runV (n := 1) C hw hS hml hl.1 29 4 (by omega) rfl (by decide) rfl (c_X4_passes l g (stM M52 32002 (((([] : List Int) ++ d0 ++ d1).length : Nat) : Int)) hT b n (tE b n y1) (([] : List Int) ++ d0 ++ d1) hsw2 3 ⟨by decide, by decide⟩) mw_359 mw_361 mw_7 mw_122 mw_362 rfl rfl (by decide +kernel) ⟨Nat.le_of_ble_eq_true rfl, Nat.le_of_ble_eq_true rfl⟩ rfl rfl (Nat.le_of_ble_eq_true rfl) dX4_readsText_35 ⟨Nat.zero_le _, Nat.zero_le _⟩) hS (fun r35 M35 H locs hr35 hp hw hS => ?_)
              rcases hp with ⟨h35f, (⟨er35, h35b⟩ | ⟨er35, h35b⟩)⟩
              · have g_M35 := hw.rg
                rw [er35]
                have hp2 := h35b
                have hxp2 := hxw2.rx h35f
                have ep35 := h35f
                refine x_if_eq (tgt := 58) C ⟨by decide, by decide⟩ dX4_readsText_38 (by decide) (fun h => absurd h (by decide)) (fun _ => ?_)
                refine lv_aload_n C.1 C.2.1 dX4_readsText_41 rfl (lv_at hl 1 rfl) ?_
                refine lv_iconst (v := II 0) C.1 C.2.1 dX4_readsText_42 rfl ?_
                refine x_ci (x_runV (n := 1) C hw hS hml hl.1 29 4 (by omega) rfl (by decide) rfl (c_X4_either0 l g M35 hT b n (tE b n (tE b n y1)) (([] : List Int) ++ d0 ++ d1) hp2.2) mw_363 mw_365 mw_8 mw_122 mw_366 rfl rfl (by decide +kernel) ⟨Nat.le_of_ble_eq_true rfl, Nat.le_of_ble_eq_true rfl⟩ rfl rfl (Nat.le_of_ble_eq_true rfl) dX4_readsText_43 ⟨Nat.zero_le _, Nat.zero_le _⟩) hS (fun r43 M43 H locs hr43 hp hw hS => ?_)
                rcases hp with ⟨h43f, (⟨er43, h43b⟩ | ⟨er43, h43b⟩)⟩
                · have g_M43 := hw.rg
                  rw [er43]
                  obtain ⟨d2, y2, eq2, hs2⟩ := h43b
                  have hxe2 := hxp2.rx h43f
                  have ep43 := h43f
                  refine x_if_eq (tgt := 58) C ⟨by decide, by decide⟩ dX4_readsText_46 (by decide) (fun h => absurd h (by decide)) (fun _ => ?_)
                  refine lv_aload_n C.1 C.2.1 dX4_readsText_49 rfl (lv_at hl 1 rfl) ?_
                  refine lv_bipush (v := II 6) C.1 C.2.1 dX4_readsText_50 (by decide) ?_
                  refine x_ci (x_runV (n := 1) C hw hS hml hl.1 29 4 (by omega) rfl (by decide) rfl (c_X4_passes l g M43 hT b n y2 (([] : List Int) ++ d0 ++ d1 ++ d2) hs2 6 ⟨by decide, by decide⟩) mw_359 mw_361 mw_7 mw_122 mw_362 rfl rfl (by decide +kernel) ⟨Nat.le_of_ble_eq_true rfl, Nat.le_of_ble_eq_true rfl⟩ rfl rfl (Nat.le_of_ble_eq_true rfl) dX4_readsText_52 ⟨Nat.zero_le _, Nat.zero_le _⟩) hS (fun r52 M52 H locs hr52 hp hw hS => ?_)
                  rcases hp with ⟨h52f, (⟨er52, h52b⟩ | ⟨er52, h52b⟩)⟩
                  · have g_M52 := hw.rg
                    rw [er52]
                    have hsr3 := h52b.2
                    have hxr3 := hxe2.rx h52f
                    have ept2 := pt_ok (k := 3) hp2.1 eq2 h52b.1
                    have hkg2 := (ok_qE b n 5).r hp2.2.1.2 eq2
                    have ht3_0 : M52 32000 = ((([] : List Int).length : Nat) : Int) := (h52f _ (by unfold rdr; omega)).trans ((ep43 _ (by unfold rdr; omega)).trans ((ep35 _ (by unfold rdr; omega)).trans hu2_0))
                    have ht3_1 : M52 32001 = (((([] : List Int) ++ d0).length : Nat) : Int) := (h52f _ (by unfold rdr; omega)).trans ((ep43 _ (by unfold rdr; omega)).trans ((ep35 _ (by unfold rdr; omega)).trans hu2_1))
                    have ht3_2 : M52 32002 = (((([] : List Int) ++ d0 ++ d1).length : Nat) : Int) := (h52f _ (by unfold rdr; omega)).trans ((ep43 _ (by unfold rdr; omega)).trans ((ep35 _ (by unfold rdr; omega)).trans hu2_2))
                    refine x_if_ne (tgt := 60) C ⟨by decide, by decide⟩ dX4_readsText_55 (by decide) (fun _ => ?_) (fun h => absurd h (by decide))
                    refine lv_iinc (v := II 3) (lv' := [(1, .int (II 3)), (0, .ref (gA g 29))]) C.1 C.2.1 dX4_readsText_60 hl (k := 0) rfl rfl (by decide) rfl (fun ls hl => ?_)
                    refine lv_goto (tgt := 16) C.1 C.2.1 dX4_readsText_63 (by decide) ?_
                    refine lv_iload_n C.1 C.2.1 dX4_readsText_16 rfl (lv_at hl 0 rfl) ?_
                    refine lv_iconst (v := II 3) C.1 C.2.1 dX4_readsText_17 rfl ?_
                    refine x_icmp_ge (tgt := 66) C ⟨by decide, by decide⟩ ⟨by decide, by decide⟩ dX4_readsText_18 (by decide) (fun _ => ?_) (fun h => absurd h (by decide))
                    have hlz := hsr3.len
                    have htr := g_M52 29003
                    rw [hsr3.2.1.2.1] at htr
                    refine lv_aload_n C.1 C.2.1 dX4_readsText_66 rfl (lv_at hl 1 rfl) ?_
                    refine g4 C hw 29 (by omega) rfl 7 (by decide) mw_236 (svr hT.2.2.2) dX4_readsText_67 ?_
                    refine lv_iconst (v := II 3) C.1 C.2.1 dX4_readsText_70 rfl ?_
                    refine lv_aload_n C.1 C.2.1 dX4_readsText_71 rfl (lv_at hl 1 rfl) ?_
                    refine g4 C hw 29 (by omega) rfl 8 (by decide) mw_238 (svi (x := (((([] : List Int) ++ d0 ++ d1 ++ d2).length : Nat) : Int)) hsr3.2.2.1) dX4_readsText_72 ?_
                    refine x_iastore (L := 4) C hw hS 32 (by omega) rfl rfl (by omega) (by omega) (by decide) (x := (((([] : List Int) ++ d0 ++ d1 ++ d2).length : Nat) : Int)) ⟨by have := g_M52 29008; have := hsr3.2.2.1; omega, by have := g_M52 29008; have := hsr3.2.2.1; omega⟩ dX4_readsText_75 (fun H locs hw hS => ?_)
                    have hw : Wo g (stM M52 32003 (((([] : List Int) ++ d0 ++ d1 ++ d2).length : Nat) : Int)) H := hw
                    refine lv_aload_n C.1 C.2.1 dX4_readsText_76 rfl (lv_at hl 1 rfl) ?_
                    refine g4 C hw 29 (by omega) rfl 3 (by decide) mw_230 (svi (x := tK b n (tE b n y2)) ((st_n (by decide)).trans hsr3.2.1.2.1)) dX4_readsText_77 ?_
                    refine lv_bipush (v := II 7) C.1 C.2.1 dX4_readsText_80 (by decide) ?_
                    refine x_icmp_ne (tgt := 89) C ⟨by omega, by omega⟩ ⟨by decide, by decide⟩ dX4_readsText_82 (by decide) (fun c82 => ?_) (fun c82 => ?_)
                    · refine lv_iconst (v := II 0) C.1 C.2.1 dX4_readsText_89 rfl ?_
                      exact x_ireturn C hr hlk hw hS ⟨by decide, by decide⟩ (by decide) ⟨hxr3.st (by decide), Or.inr ⟨rfl, _, tx_3 ept0 ept1 ept2 (by omega), (st_n (by decide)).trans hsr3.2.1.2.2.1⟩⟩ dX4_readsText_90
                    · refine lv_iconst (v := II 1) C.1 C.2.1 dX4_readsText_85 rfl ?_
                      refine lv_goto (tgt := 90) C.1 C.2.1 dX4_readsText_86 (by decide) ?_
                      exact x_ireturn C hr hlk hw hS ⟨by decide, by decide⟩ (by decide) (by
    have hz := hsr3.len
    have hn9 : (([] : List Int) ++ d0 ++ d1 ++ d2).length = d0.length + d1.length + d2.length := by simp; omega
    refine ⟨hxr3.st (by decide), Or.inl ⟨rfl, d0, d1, d2, tx_4 ept0 ept1 ept2 (by omega), ⟨⟨hkg0.1, hkg1.1, hkg2.1⟩, by omega, ⟨?_, ?_, ?_, ?_⟩, fun x hx => ?_⟩⟩⟩
    · rw [st_n (by decide), ht3_0]; rfl
    · rw [st_n (by decide), ht3_1]; rfl
    · rw [st_n (by decide), ht3_2]; simp
    · rw [st_s, hn9]
    · have hx9 : x < d0.length + d1.length + d2.length := by simpa [Nat.add_assoc] using hx
      rw [st_n (by omega)]
      exact hsr3.2.2.2.2 x (by omega)) dX4_readsText_90
                  · have g_M52 := hw.rg
                    rw [er52]
                    skip
                    refine x_if_ne (tgt := 60) C ⟨by decide, by decide⟩ dX4_readsText_55 (by decide) (fun h => absurd h (by decide)) (fun _ => ?_)
                    refine lv_iconst (v := II 0) C.1 C.2.1 dX4_readsText_58 rfl ?_
                    exact x_ireturn C hr hlk hw hS ⟨by decide, by decide⟩ (by decide) ⟨hxe2.rx h52f, Or.inr ⟨rfl, _, tx_2 ept0 ept1 (pt_no hp2.1 eq2 h52b.1), h52b.2.1⟩⟩ dX4_readsText_59
                · have g_M43 := hw.rg
                  rw [er43]
                  obtain ⟨q2, eq2, hf2⟩ := h43b
                  refine x_if_eq (tgt := 58) C ⟨by decide, by decide⟩ dX4_readsText_46 (by decide) (fun _ => ?_) (fun h => absurd h (by decide))
                  refine lv_iconst (v := II 0) C.1 C.2.1 dX4_readsText_58 rfl ?_
                  exact x_ireturn C hr hlk hw hS ⟨by decide, by decide⟩ (by decide) ⟨hxp2.rx h43f, Or.inr ⟨rfl, _, tx_2 ept0 ept1 (pt_e hp2.1 eq2), hf2.1⟩⟩ dX4_readsText_59
              · have g_M35 := hw.rg
                rw [er35]
                skip
                refine x_if_eq (tgt := 58) C ⟨by decide, by decide⟩ dX4_readsText_38 (by decide) (fun _ => ?_) (fun h => absurd h (by decide))
                refine lv_iconst (v := II 0) C.1 C.2.1 dX4_readsText_58 rfl ?_
                exact x_ireturn C hr hlk hw hS ⟨by decide, by decide⟩ (by decide) ⟨hxw2.rx h35f, Or.inr ⟨rfl, _, tx_2 ept0 ept1 (pt_key h35b.1), h35b.2.1⟩⟩ dX4_readsText_59
            · have g_M52 := hw.rg
              rw [er52]
              skip
              refine x_if_ne (tgt := 60) C ⟨by decide, by decide⟩ dX4_readsText_55 (by decide) (fun h => absurd h (by decide)) (fun _ => ?_)
              refine lv_iconst (v := II 0) C.1 C.2.1 dX4_readsText_58 rfl ?_
              exact x_ireturn C hr hlk hw hS ⟨by decide, by decide⟩ (by decide) ⟨hxe1.rx h52f, Or.inr ⟨rfl, _, tx_1 ept0 (pt_no hp1.1 eq1 h52b.1), h52b.2.1⟩⟩ dX4_readsText_59
          · have g_M43 := hw.rg
            rw [er43]
            obtain ⟨q2, eq2, hf2⟩ := h43b
            refine x_if_eq (tgt := 58) C ⟨by decide, by decide⟩ dX4_readsText_46 (by decide) (fun _ => ?_) (fun h => absurd h (by decide))
            refine lv_iconst (v := II 0) C.1 C.2.1 dX4_readsText_58 rfl ?_
            exact x_ireturn C hr hlk hw hS ⟨by decide, by decide⟩ (by decide) ⟨hxp1.rx h43f, Or.inr ⟨rfl, _, tx_1 ept0 (pt_e hp1.1 eq2), hf2.1⟩⟩ dX4_readsText_59
        · have g_M35 := hw.rg
          rw [er35]
          skip
          refine x_if_eq (tgt := 58) C ⟨by decide, by decide⟩ dX4_readsText_38 (by decide) (fun _ => ?_) (fun h => absurd h (by decide))
          refine lv_iconst (v := II 0) C.1 C.2.1 dX4_readsText_58 rfl ?_
          exact x_ireturn C hr hlk hw hS ⟨by decide, by decide⟩ (by decide) ⟨hxw1.rx h35f, Or.inr ⟨rfl, _, tx_1 ept0 (pt_key h35b.1), h35b.2.1⟩⟩ dX4_readsText_59
      · have g_M52 := hw.rg
        rw [er52]
        skip
        refine x_if_ne (tgt := 60) C ⟨by decide, by decide⟩ dX4_readsText_55 (by decide) (fun h => absurd h (by decide)) (fun _ => ?_)
        refine lv_iconst (v := II 0) C.1 C.2.1 dX4_readsText_58 rfl ?_
        exact x_ireturn C hr hlk hw hS ⟨by decide, by decide⟩ (by decide) ⟨hxe0.rx h52f, Or.inr ⟨rfl, _, tx_0 (pt_no hp0.1 eq0 h52b.1), h52b.2.1⟩⟩ dX4_readsText_59
    · have g_M43 := hw.rg
      rw [er43]
      obtain ⟨q2, eq2, hf2⟩ := h43b
      refine x_if_eq (tgt := 58) C ⟨by decide, by decide⟩ dX4_readsText_46 (by decide) (fun _ => ?_) (fun h => absurd h (by decide))
      refine lv_iconst (v := II 0) C.1 C.2.1 dX4_readsText_58 rfl ?_
      exact x_ireturn C hr hlk hw hS ⟨by decide, by decide⟩ (by decide) ⟨hxp0.rx h43f, Or.inr ⟨rfl, _, tx_0 (pt_e hp0.1 eq2), hf2.1⟩⟩ dX4_readsText_59
  · have g_M35 := hw.rg
    rw [er35]
    skip
    refine x_if_eq (tgt := 58) C ⟨by decide, by decide⟩ dX4_readsText_38 (by decide) (fun _ => ?_) (fun h => absurd h (by decide))
    refine lv_iconst (v := II 0) C.1 C.2.1 dX4_readsText_58 rfl ?_
    exact x_ireturn C hr hlk hw hS ⟨by decide, by decide⟩ (by decide) ⟨hxw0.rx h35f, Or.inr ⟨rfl, _, tx_0 (pt_key h35b.1), h35b.2.1⟩⟩ dX4_readsText_59
