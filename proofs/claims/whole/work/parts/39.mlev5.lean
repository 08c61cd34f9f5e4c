def NMS (M nm : Nat → Int) : Prop := ∀ k, k < 6 → M (70012 + k) = nm k
theorem NMS.mx {M M' nm : Nat → Int} (h : NMS M nm) (hx : MX M M') : NMS M' nm := fun k hk => (hx _ (by omega)).trans (h k hk)
theorem MS.fl {M : Nat → Int} {b : Nat → Int} {n f i k : Nat} (h : MS M b n f i k) : MF (stM (stM M 70025 1) 70026 ((tS b n i : Nat) : Int)) (tS b n i) k :=
  ⟨(st_n (by decide)).trans st_s, st_s, (st_n (by decide)).trans ((st_n (by decide)).trans h.2.2.1)⟩
theorem jk_15 (a b : Int) : joinK (-15) a b = wr (a * b) := by simp [joinK]
theorem jk_13 (a b : Int) : joinK (-13) a b = wr (a + b) := by simp [joinK]
theorem jk_14 (a b : Int) : joinK (-14) a b = wr (a - b) := by simp [joinK]
theorem jk_11 (a b : Int) : joinK (-11) a b = if a < b then 1 else 0 := by simp [joinK]
theorem jk_12 (a b : Int) : joinK (-12) a b = if a = b then 1 else 0 := by simp [joinK]
theorem jk_9 (a b : Int) : joinK (-9) a b = if a ≠ 0 ∨ b ≠ 0 then 1 else 0 := by simp [joinK]
theorem jk_10 (a b : Int) : joinK (-10) a b = if a ≠ 0 ∧ b ≠ 0 then 1 else 0 := by simp [joinK]
set_option maxHeartbeats 4000000 in
set_option maxRecDepth 100000 in
theorem c_X8_opens0 (l : Launch) (g : Gm) (M : Nat → Int) (hF : LvF g) (b : Nat → Int) (n : Nat) (f : Nat) (i : Nat) (k : Nat) (hk : k < 5) (h4 : mT b n i ≠ 4) (hs : MS M b n f i k) : CI l ({ cls := "RatedBySighsModel", name := "opens", desc := "()Z" } : Jvm.MethodName) cX8_opens 1 .boolean (rmm 2 47) g M [.ref (gA g 70)] (fun r M' => r = 1 ∧ (MS M' b n f (tE b n i) (k + 1)) ∧ (MX M M')) := by
  refine c_start (by decide) (Nat.le_of_ble_eq_true rfl) (fun p e s m below meth c ls C hr hlk hml hw hS hl => ?_)
  have hl : lv_has ls 1 [(0, .ref (gA g 70))] := hl
  have g_M := hw.rg
  have hN : gN g = 84 := hF.1
  refine lv_aload_n C.1 C.2.1 dX8_opens_0 rfl (lv_at hl 0 rfl) ?_
  refine g8 C hw 70 (by omega) rfl 24 (by decide) mw_848 (svi (x := (k : Int)) hs.2.2.1) dX8_opens_1 ?_
  refine lv_iconst (v := II 5) C.1 C.2.1 dX8_opens_4 rfl ?_
  refine x_icmp_ne (tgt := 14) C ⟨by have := g_M 70024; have := hs.2.2.1; omega, by have := g_M 70024; have := hs.2.2.1; omega⟩ ⟨by decide, by decide⟩ dX8_opens_5 (by decide) (fun c5 => ?_) (fun c5 => by exfalso; omega)
  refine lv_aload_n C.1 C.2.1 dX8_opens_14 rfl (lv_at hl 0 rfl) ?_
  refine lv_dup C.1 C.2.1 dX8_opens_15 rfl ?_
  refine g8 C hw 70 (by omega) rfl 24 (by decide) mw_848 (svi (x := (k : Int)) hs.2.2.1) dX8_opens_16 ?_
  refine lv_iconst (v := II 1) C.1 C.2.1 dX8_opens_19 rfl ?_
  refine x_iadd C dX8_opens_20 ?_
  refine p8 C hw hS 70 (by omega) rfl 24 (by decide) mw_848 rfl (x := (k : Int) + 1) ⟨by have := g_M 70024; have := hs.2.2.1; omega, by have := g_M 70024; have := hs.2.2.1; omega⟩ (svi st_s) (tyX8_ok 24 (by decide)) rfl rfl dX8_opens_21 (fun H locs hw hS => ?_)
  have hw : Wo g (stM M 70024 ((k : Int) + 1)) H := hw
  refine lv_aload_n C.1 C.2.1 dX8_opens_24 rfl (lv_at hl 0 rfl) ?_
  have hs2 := hs.op (x := (k : Int) + 1) (j := k + 1) (by omega)
  refine x_cv (x_runV (n := 0) C hw hS hml hl.1 70 8 (by omega) rfl (by decide) rfl (c_X8_next l g (stM M 70024 ((k : Int) + 1)) hF b n f hs2.1.1 (tE b n i) (tE_in hs2.1.2).2.1 (hs2.2.1.2.2.1 h4)) mw_1003 mw_1005 mw_60 mw_130 mw_1006 rfl rfl (by decide +kernel) ⟨Nat.le_of_ble_eq_true rfl, Nat.le_of_ble_eq_true rfl⟩ rfl rfl (Nat.le_of_ble_eq_true rfl) dX8_opens_25 ⟨Nat.zero_le _, Nat.zero_le _⟩) hS (fun M25 H locs hp hw hS => ?_)
  have h25p := hp
  have g_M25 := hw.rg
  refine lv_iconst (v := II 1) C.1 C.2.1 dX8_opens_28 rfl ?_
  exact x_ireturn C hr hlk hw hS ⟨by decide, by decide⟩ (by decide) ⟨rfl, hs2.next h25p, (MX.rfl'.st (by decide)).tr h25p.mx⟩ dX8_opens_29

set_option maxHeartbeats 4000000 in
set_option maxRecDepth 100000 in
theorem c_X8_opens5 (l : Launch) (g : Gm) (M : Nat → Int) (hF : LvF g) (b : Nat → Int) (n : Nat) (f : Nat) (i : Nat) (hs : MS M b n f i 5) : CI l ({ cls := "RatedBySighsModel", name := "opens", desc := "()Z" } : Jvm.MethodName) cX8_opens 1 .boolean (rmm 1 20) g M [.ref (gA g 70)] (fun r M' => M' = stM (stM M 70025 1) 70026 ((tS b n i : Nat) : Int) ∧ r = 0) := by
  refine c_start (by decide) (Nat.le_of_ble_eq_true rfl) (fun p e s m below meth c ls C hr hlk hml hw hS hl => ?_)
  have hl : lv_has ls 1 [(0, .ref (gA g 70))] := hl
  have g_M := hw.rg
  have hN : gN g = 84 := hF.1
  refine lv_aload_n C.1 C.2.1 dX8_opens_0 rfl (lv_at hl 0 rfl) ?_
  refine g8 C hw 70 (by omega) rfl 24 (by decide) mw_848 (svi (x := 5) (by have := hs.2.2.1; omega)) dX8_opens_1 ?_
  refine lv_iconst (v := II 5) C.1 C.2.1 dX8_opens_4 rfl ?_
  refine x_icmp_ne (tgt := 14) C ⟨by decide, by decide⟩ ⟨by decide, by decide⟩ dX8_opens_5 (by decide) (fun h => absurd h (by decide)) (fun _ => ?_)
  refine lv_aload_n C.1 C.2.1 dX8_opens_8 rfl (lv_at hl 0 rfl) ?_
  refine x_cv (x_runV (n := 0) C hw hS hml hl.1 70 8 (by omega) rfl (by decide) rfl (c_X8_fail0 l g M hF (tS b n i) hs.2.1.2.1 hs.2.2.2) mw_1027 mw_1029 mw_65 mw_130 mw_1030 rfl rfl (by decide +kernel) ⟨Nat.le_of_ble_eq_true rfl, Nat.le_of_ble_eq_true rfl⟩ rfl rfl (Nat.le_of_ble_eq_true rfl) dX8_opens_9 ⟨Nat.zero_le _, Nat.zero_le _⟩) hS (fun M9 H locs hp hw hS => ?_)
  have em9 := hp
  have hw : Wo g (stM (stM M 70025 1) 70026 ((tS b n i) : Int)) H := em9 ▸ hw
  refine lv_iconst (v := II 0) C.1 C.2.1 dX8_opens_12 rfl ?_
  exact x_ireturn C hr hlk hw hS ⟨by decide, by decide⟩ (by decide) ⟨rfl, rfl⟩ dX8_opens_13

set_option maxHeartbeats 4000000 in
set_option maxRecDepth 100000 in
theorem c_X8_name (l : Launch) (g : Gm) (M : Nat → Int) (hF : LvF g) (nm : Nat → Int) (hnm : NMS M nm) (b : Nat → Int) (n : Nat) (f : Nat) (i : Nat) (k : Nat) (hs : MS M b n f i k) : CI l ({ cls := "RatedBySighsModel", name := "name", desc := "()I" } : Jvm.MethodName) cX8_name 1 .int (rmm 3 71) g M [.ref (gA g 70)] (fun r M' => ((((tK b n i < 0 ∧ -6 ≤ tK b n i) ∧ r = nm (-1 - tK b n i).toNat ∧ M' = M)) ∨ ((¬ (tK b n i < 0 ∧ -6 ≤ tK b n i) ∧ MF M' (tS b n i) k ∧ MX M M')))) := by
  refine c_start (by decide) (Nat.le_of_ble_eq_true rfl) (fun p e s m below meth c ls C hr hlk hml hw hS hl => ?_)
  have hl : lv_has ls 1 [(0, .ref (gA g 70))] := hl
  have g_M := hw.rg
  have hN : gN g = 84 := hF.1
  have gn : ∀ x, x < 6 → rg (nm x) := fun x hx => by rw [← hnm x hx]; exact g_M _
  refine lv_aload_n C.1 C.2.1 dX8_name_0 rfl (lv_at hl 0 rfl) ?_
  refine lv_bipush (v := II 109) C.1 C.2.1 dX8_name_1 (by decide) ?_
  refine lv_bipush (v := II 111) C.1 C.2.1 dX8_name_3 (by decide) ?_
  refine lv_bipush (v := II 111) C.1 C.2.1 dX8_name_5 (by decide) ?_
  refine lv_bipush (v := II 100) C.1 C.2.1 dX8_name_7 (by decide) ?_
  refine lv_iconst (v := II 0) C.1 C.2.1 dX8_name_9 rfl ?_
  refine lv_iconst (v := II 0) C.1 C.2.1 dX8_name_10 rfl ?_
  refine lv_iconst (v := II 0) C.1 C.2.1 dX8_name_11 rfl ?_
  refine lv_iconst (v := II 0) C.1 C.2.1 dX8_name_12 rfl ?_
  refine x_ci (x_runV (n := 8) C hw hS hml hl.1 70 8 (by omega) rfl (by decide) rfl (c_X8_isWord0 l g M hF b n f i k hs [109, 111, 111, 100] (-1) 109 ⟨by decide, by decide⟩ 111 ⟨by decide, by decide⟩ 111 ⟨by decide, by decide⟩ 100 ⟨by decide, by decide⟩ 0 ⟨by decide, by decide⟩ 0 ⟨by decide, by decide⟩ 0 ⟨by decide, by decide⟩ 0 ⟨by decide, by decide⟩ (by decide) wd_mood) mw_1015 mw_1017 mw_62 mw_130 mw_1018 rfl rfl (by decide +kernel) ⟨Nat.le_of_ble_eq_true rfl, Nat.le_of_ble_eq_true rfl⟩ rfl rfl (Nat.le_of_ble_eq_true rfl) dX8_name_13 ⟨Nat.zero_le _, Nat.zero_le _⟩) hS (fun r13 M13 H locs hr13 hp hw hS => ?_)
  rcases hp with ⟨em13, (⟨er13, h13b⟩ | ⟨er13, h13b⟩)⟩
  · have hw : Wo g M H := em13 ▸ hw
    rw [er13]
    obtain ⟨hm13, -⟩ := (wrd_iff (b := b) (n := n) (i := i) wd_mood).mp h13b
    refine x_if_eq (tgt := 24) C ⟨by decide, by decide⟩ dX8_name_16 (by decide) (fun h => absurd h (by decide)) (fun _ => ?_)
    refine lv_aload_n C.1 C.2.1 dX8_name_19 rfl (lv_at hl 0 rfl) ?_
    refine g8 C hw 70 (by omega) rfl 12 (by decide) mw_836 (svi (x := nm 0) (show M 70012 = nm 0 from hnm.mx MX.rfl' 0 (by decide))) dX8_name_20 ?_
    exact x_ireturn C hr hlk hw hS ⟨by have := g_M 70012; have := (show M 70012 = nm 0 from hnm.mx MX.rfl' 0 (by decide)); omega, by have := g_M 70012; have := (show M 70012 = nm 0 from hnm.mx MX.rfl' 0 (by decide)); omega⟩ rfl (Or.inl ⟨by omega, by rw [show (-1 - tK b n i).toNat = 0 by omega], rfl⟩) dX8_name_23
  · have hw : Wo g M H := em13 ▸ hw
    rw [er13]
    refine x_if_eq (tgt := 24) C ⟨by decide, by decide⟩ dX8_name_16 (by decide) (fun _ => ?_) (fun h => absurd h (by decide))
    refine lv_aload_n C.1 C.2.1 dX8_name_24 rfl (lv_at hl 0 rfl) ?_
    refine lv_bipush (v := II 104) C.1 C.2.1 dX8_name_25 (by decide) ?_
    refine lv_bipush (v := II 111) C.1 C.2.1 dX8_name_27 (by decide) ?_
    refine lv_bipush (v := II 117) C.1 C.2.1 dX8_name_29 (by decide) ?_
    refine lv_bipush (v := II 114) C.1 C.2.1 dX8_name_31 (by decide) ?_
    refine lv_iconst (v := II 0) C.1 C.2.1 dX8_name_33 rfl ?_
    refine lv_iconst (v := II 0) C.1 C.2.1 dX8_name_34 rfl ?_
    refine lv_iconst (v := II 0) C.1 C.2.1 dX8_name_35 rfl ?_
    refine lv_iconst (v := II 0) C.1 C.2.1 dX8_name_36 rfl ?_
    refine x_ci (x_runV (n := 8) C hw hS hml hl.1 70 8 (by omega) rfl (by decide) rfl (c_X8_isWord0 l g M hF b n f i k hs [104, 111, 117, 114] (-2) 104 ⟨by decide, by decide⟩ 111 ⟨by decide, by decide⟩ 117 ⟨by decide, by decide⟩ 114 ⟨by decide, by decide⟩ 0 ⟨by decide, by decide⟩ 0 ⟨by decide, by decide⟩ 0 ⟨by decide, by decide⟩ 0 ⟨by decide, by decide⟩ (by decide) wd_hour) mw_1015 mw_1017 mw_62 mw_130 mw_1018 rfl rfl (by decide +kernel) ⟨Nat.le_of_ble_eq_true rfl, Nat.le_of_ble_eq_true rfl⟩ rfl rfl (Nat.le_of_ble_eq_true rfl) dX8_name_37 ⟨Nat.zero_le _, Nat.zero_le _⟩) hS (fun r37 M37 H locs hr37 hp hw hS => ?_)
    rcases hp with ⟨em37, (⟨er37, h37b⟩ | ⟨er37, h37b⟩)⟩
    · have hw : Wo g M H := em37 ▸ hw
      rw [er37]
      obtain ⟨hm37, -⟩ := (wrd_iff (b := b) (n := n) (i := i) wd_hour).mp h37b
      refine x_if_eq (tgt := 48) C ⟨by decide, by decide⟩ dX8_name_40 (by decide) (fun h => absurd h (by decide)) (fun _ => ?_)
      refine lv_aload_n C.1 C.2.1 dX8_name_43 rfl (lv_at hl 0 rfl) ?_
      refine g8 C hw 70 (by omega) rfl 13 (by decide) mw_837 (svi (x := nm 1) (show M 70013 = nm 1 from hnm.mx MX.rfl' 1 (by decide))) dX8_name_44 ?_
      exact x_ireturn C hr hlk hw hS ⟨by have := g_M 70013; have := (show M 70013 = nm 1 from hnm.mx MX.rfl' 1 (by decide)); omega, by have := g_M 70013; have := (show M 70013 = nm 1 from hnm.mx MX.rfl' 1 (by decide)); omega⟩ rfl (Or.inl ⟨by omega, by rw [show (-1 - tK b n i).toNat = 1 by omega], rfl⟩) dX8_name_47
    · have hw : Wo g M H := em37 ▸ hw
      rw [er37]
      refine x_if_eq (tgt := 48) C ⟨by decide, by decide⟩ dX8_name_40 (by decide) (fun _ => ?_) (fun h => absurd h (by decide))
      refine lv_aload_n C.1 C.2.1 dX8_name_48 rfl (lv_at hl 0 rfl) ?_
      refine lv_bipush (v := II 110) C.1 C.2.1 dX8_name_49 (by decide) ?_
      refine lv_bipush (v := II 117) C.1 C.2.1 dX8_name_51 (by decide) ?_
      refine lv_bipush (v := II 109) C.1 C.2.1 dX8_name_53 (by decide) ?_
      refine lv_bipush (v := II 98) C.1 C.2.1 dX8_name_55 (by decide) ?_
      refine lv_bipush (v := II 101) C.1 C.2.1 dX8_name_57 (by decide) ?_
      refine lv_bipush (v := II 114) C.1 C.2.1 dX8_name_59 (by decide) ?_
      refine lv_iconst (v := II 0) C.1 C.2.1 dX8_name_61 rfl ?_
      refine lv_iconst (v := II 0) C.1 C.2.1 dX8_name_62 rfl ?_
      refine x_ci (x_runV (n := 8) C hw hS hml hl.1 70 8 (by omega) rfl (by decide) rfl (c_X8_isWord0 l g M hF b n f i k hs [110, 117, 109, 98, 101, 114] (-3) 110 ⟨by decide, by decide⟩ 117 ⟨by decide, by decide⟩ 109 ⟨by decide, by decide⟩ 98 ⟨by decide, by decide⟩ 101 ⟨by decide, by decide⟩ 114 ⟨by decide, by decide⟩ 0 ⟨by decide, by decide⟩ 0 ⟨by decide, by decide⟩ (by decide) wd_number) mw_1015 mw_1017 mw_62 mw_130 mw_1018 rfl rfl (by decide +kernel) ⟨Nat.le_of_ble_eq_true rfl, Nat.le_of_ble_eq_true rfl⟩ rfl rfl (Nat.le_of_ble_eq_true rfl) dX8_name_63 ⟨Nat.zero_le _, Nat.zero_le _⟩) hS (fun r63 M63 H locs hr63 hp hw hS => ?_)
      rcases hp with ⟨em63, (⟨er63, h63b⟩ | ⟨er63, h63b⟩)⟩
      · have hw : Wo g M H := em63 ▸ hw
        rw [er63]
        obtain ⟨hm63, -⟩ := (wrd_iff (b := b) (n := n) (i := i) wd_number).mp h63b
        refine x_if_eq (tgt := 74) C ⟨by decide, by decide⟩ dX8_name_66 (by decide) (fun h => absurd h (by decide)) (fun _ => ?_)
        refine lv_aload_n C.1 C.2.1 dX8_name_69 rfl (lv_at hl 0 rfl) ?_
        refine g8 C hw 70 (by omega) rfl 14 (by decide) mw_838 (svi (x := nm 2) (show M 70014 = nm 2 from hnm.mx MX.rfl' 2 (by decide))) dX8_name_70 ?_
        exact x_ireturn C hr hlk hw hS ⟨by have := g_M 70014; have := (show M 70014 = nm 2 from hnm.mx MX.rfl' 2 (by decide)); omega, by have := g_M 70014; have := (show M 70014 = nm 2 from hnm.mx MX.rfl' 2 (by decide)); omega⟩ rfl (Or.inl ⟨by omega, by rw [show (-1 - tK b n i).toNat = 2 by omega], rfl⟩) dX8_name_73
      · have hw : Wo g M H := em63 ▸ hw
        rw [er63]
        refine x_if_eq (tgt := 74) C ⟨by decide, by decide⟩ dX8_name_66 (by decide) (fun _ => ?_) (fun h => absurd h (by decide))
        refine lv_aload_n C.1 C.2.1 dX8_name_74 rfl (lv_at hl 0 rfl) ?_
        refine lv_bipush (v := II 111) C.1 C.2.1 dX8_name_75 (by decide) ?_
        refine lv_bipush (v := II 116) C.1 C.2.1 dX8_name_77 (by decide) ?_
        refine lv_bipush (v := II 104) C.1 C.2.1 dX8_name_79 (by decide) ?_
        refine lv_bipush (v := II 101) C.1 C.2.1 dX8_name_81 (by decide) ?_
        refine lv_bipush (v := II 114) C.1 C.2.1 dX8_name_83 (by decide) ?_
        refine lv_bipush (v := II 115) C.1 C.2.1 dX8_name_85 (by decide) ?_
        refine lv_iconst (v := II 0) C.1 C.2.1 dX8_name_87 rfl ?_
        refine lv_iconst (v := II 0) C.1 C.2.1 dX8_name_88 rfl ?_
        refine x_ci (x_runV (n := 8) C hw hS hml hl.1 70 8 (by omega) rfl (by decide) rfl (c_X8_isWord0 l g M hF b n f i k hs [111, 116, 104, 101, 114, 115] (-4) 111 ⟨by decide, by decide⟩ 116 ⟨by decide, by decide⟩ 104 ⟨by decide, by decide⟩ 101 ⟨by decide, by decide⟩ 114 ⟨by decide, by decide⟩ 115 ⟨by decide, by decide⟩ 0 ⟨by decide, by decide⟩ 0 ⟨by decide, by decide⟩ (by decide) wd_others) mw_1015 mw_1017 mw_62 mw_130 mw_1018 rfl rfl (by decide +kernel) ⟨Nat.le_of_ble_eq_true rfl, Nat.le_of_ble_eq_true rfl⟩ rfl rfl (Nat.le_of_ble_eq_true rfl) dX8_name_89 ⟨Nat.zero_le _, Nat.zero_le _⟩) hS (fun r89 M89 H locs hr89 hp hw hS => ?_)
        rcases hp with ⟨em89, (⟨er89, h89b⟩ | ⟨er89, h89b⟩)⟩
        · have hw : Wo g M H := em89 ▸ hw
          rw [er89]
          obtain ⟨hm89, -⟩ := (wrd_iff (b := b) (n := n) (i := i) wd_others).mp h89b
          refine x_if_eq (tgt := 100) C ⟨by decide, by decide⟩ dX8_name_92 (by decide) (fun h => absurd h (by decide)) (fun _ => ?_)
          refine lv_aload_n C.1 C.2.1 dX8_name_95 rfl (lv_at hl 0 rfl) ?_
          refine g8 C hw 70 (by omega) rfl 15 (by decide) mw_839 (svi (x := nm 3) (show M 70015 = nm 3 from hnm.mx MX.rfl' 3 (by decide))) dX8_name_96 ?_
          exact x_ireturn C hr hlk hw hS ⟨by have := g_M 70015; have := (show M 70015 = nm 3 from hnm.mx MX.rfl' 3 (by decide)); omega, by have := g_M 70015; have := (show M 70015 = nm 3 from hnm.mx MX.rfl' 3 (by decide)); omega⟩ rfl (Or.inl ⟨by omega, by rw [show (-1 - tK b n i).toNat = 3 by omega], rfl⟩) dX8_name_99
        · have hw : Wo g M H := em89 ▸ hw
          rw [er89]
          refine x_if_eq (tgt := 100) C ⟨by decide, by decide⟩ dX8_name_92 (by decide) (fun _ => ?_) (fun h => absurd h (by decide))
          refine lv_aload_n C.1 C.2.1 dX8_name_100 rfl (lv_at hl 0 rfl) ?_
          refine lv_bipush (v := II 104) C.1 C.2.1 dX8_name_101 (by decide) ?_
          refine lv_bipush (v := II 111) C.1 C.2.1 dX8_name_103 (by decide) ?_
          refine lv_bipush (v := II 117) C.1 C.2.1 dX8_name_105 (by decide) ?_
          refine lv_bipush (v := II 115) C.1 C.2.1 dX8_name_107 (by decide) ?_
          refine lv_bipush (v := II 101) C.1 C.2.1 dX8_name_109 (by decide) ?_
          refine lv_iconst (v := II 0) C.1 C.2.1 dX8_name_111 rfl ?_
          refine lv_iconst (v := II 0) C.1 C.2.1 dX8_name_112 rfl ?_
          refine lv_iconst (v := II 0) C.1 C.2.1 dX8_name_113 rfl ?_
          refine x_ci (x_runV (n := 8) C hw hS hml hl.1 70 8 (by omega) rfl (by decide) rfl (c_X8_isWord0 l g M hF b n f i k hs [104, 111, 117, 115, 101] (-5) 104 ⟨by decide, by decide⟩ 111 ⟨by decide, by decide⟩ 117 ⟨by decide, by decide⟩ 115 ⟨by decide, by decide⟩ 101 ⟨by decide, by decide⟩ 0 ⟨by decide, by decide⟩ 0 ⟨by decide, by decide⟩ 0 ⟨by decide, by decide⟩ (by decide) wd_house) mw_1015 mw_1017 mw_62 mw_130 mw_1018 rfl rfl (by decide +kernel) ⟨Nat.le_of_ble_eq_true rfl, Nat.le_of_ble_eq_true rfl⟩ rfl rfl (Nat.le_of_ble_eq_true rfl) dX8_name_114 ⟨Nat.zero_le _, Nat.zero_le _⟩) hS (fun r114 M114 H locs hr114 hp hw hS => ?_)
          rcases hp with ⟨em114, (⟨er114, h114b⟩ | ⟨er114, h114b⟩)⟩
          · have hw : Wo g M H := em114 ▸ hw
            rw [er114]
            obtain ⟨hm114, -⟩ := (wrd_iff (b := b) (n := n) (i := i) wd_house).mp h114b
            refine x_if_eq (tgt := 125) C ⟨by decide, by decide⟩ dX8_name_117 (by decide) (fun h => absurd h (by decide)) (fun _ => ?_)
            refine lv_aload_n C.1 C.2.1 dX8_name_120 rfl (lv_at hl 0 rfl) ?_
            refine g8 C hw 70 (by omega) rfl 16 (by decide) mw_840 (svi (x := nm 4) (show M 70016 = nm 4 from hnm.mx MX.rfl' 4 (by decide))) dX8_name_121 ?_
            exact x_ireturn C hr hlk hw hS ⟨by have := g_M 70016; have := (show M 70016 = nm 4 from hnm.mx MX.rfl' 4 (by decide)); omega, by have := g_M 70016; have := (show M 70016 = nm 4 from hnm.mx MX.rfl' 4 (by decide)); omega⟩ rfl (Or.inl ⟨by omega, by rw [show (-1 - tK b n i).toNat = 4 by omega], rfl⟩) dX8_name_124
          · have hw : Wo g M H := em114 ▸ hw
            rw [er114]
            refine x_if_eq (tgt := 125) C ⟨by decide, by decide⟩ dX8_name_117 (by decide) (fun _ => ?_) (fun h => absurd h (by decide))
            refine lv_aload_n C.1 C.2.1 dX8_name_125 rfl (lv_at hl 0 rfl) ?_
            refine lv_bipush (v := II 102) C.1 C.2.1 dX8_name_126 (by decide) ?_
            refine lv_bipush (v := II 111) C.1 C.2.1 dX8_name_128 (by decide) ?_
            refine lv_bipush (v := II 111) C.1 C.2.1 dX8_name_130 (by decide) ?_
            refine lv_bipush (v := II 108) C.1 C.2.1 dX8_name_132 (by decide) ?_
            refine lv_bipush (v := II 115) C.1 C.2.1 dX8_name_134 (by decide) ?_
            refine lv_iconst (v := II 0) C.1 C.2.1 dX8_name_136 rfl ?_
            refine lv_iconst (v := II 0) C.1 C.2.1 dX8_name_137 rfl ?_
            refine lv_iconst (v := II 0) C.1 C.2.1 dX8_name_138 rfl ?_
            refine x_ci (x_runV (n := 8) C hw hS hml hl.1 70 8 (by omega) rfl (by decide) rfl (c_X8_isWord0 l g M hF b n f i k hs [102, 111, 111, 108, 115] (-6) 102 ⟨by decide, by decide⟩ 111 ⟨by decide, by decide⟩ 111 ⟨by decide, by decide⟩ 108 ⟨by decide, by decide⟩ 115 ⟨by decide, by decide⟩ 0 ⟨by decide, by decide⟩ 0 ⟨by decide, by decide⟩ 0 ⟨by decide, by decide⟩ (by decide) wd_fools) mw_1015 mw_1017 mw_62 mw_130 mw_1018 rfl rfl (by decide +kernel) ⟨Nat.le_of_ble_eq_true rfl, Nat.le_of_ble_eq_true rfl⟩ rfl rfl (Nat.le_of_ble_eq_true rfl) dX8_name_139 ⟨Nat.zero_le _, Nat.zero_le _⟩) hS (fun r139 M139 H locs hr139 hp hw hS => ?_)
            rcases hp with ⟨em139, (⟨er139, h139b⟩ | ⟨er139, h139b⟩)⟩
            · have hw : Wo g M H := em139 ▸ hw
              rw [er139]
              obtain ⟨hm139, -⟩ := (wrd_iff (b := b) (n := n) (i := i) wd_fools).mp h139b
              refine x_if_eq (tgt := 150) C ⟨by decide, by decide⟩ dX8_name_142 (by decide) (fun h => absurd h (by decide)) (fun _ => ?_)
              refine lv_aload_n C.1 C.2.1 dX8_name_145 rfl (lv_at hl 0 rfl) ?_
              refine g8 C hw 70 (by omega) rfl 17 (by decide) mw_841 (svi (x := nm 5) (show M 70017 = nm 5 from hnm.mx MX.rfl' 5 (by decide))) dX8_name_146 ?_
              exact x_ireturn C hr hlk hw hS ⟨by have := g_M 70017; have := (show M 70017 = nm 5 from hnm.mx MX.rfl' 5 (by decide)); omega, by have := g_M 70017; have := (show M 70017 = nm 5 from hnm.mx MX.rfl' 5 (by decide)); omega⟩ rfl (Or.inl ⟨by omega, by rw [show (-1 - tK b n i).toNat = 5 by omega], rfl⟩) dX8_name_149
            · have hw : Wo g M H := em139 ▸ hw
              rw [er139]
              refine x_if_eq (tgt := 150) C ⟨by decide, by decide⟩ dX8_name_142 (by decide) (fun _ => ?_) (fun h => absurd h (by decide))
              refine lv_aload_n C.1 C.2.1 dX8_name_150 rfl (lv_at hl 0 rfl) ?_
              refine x_cv (x_runV (n := 0) C hw hS hml hl.1 70 8 (by omega) rfl (by decide) rfl (c_X8_fail0 l g M hF (tS b n i) hs.2.1.2.1 hs.2.2.2) mw_1027 mw_1029 mw_65 mw_130 mw_1030 rfl rfl (by decide +kernel) ⟨Nat.le_of_ble_eq_true rfl, Nat.le_of_ble_eq_true rfl⟩ rfl rfl (Nat.le_of_ble_eq_true rfl) dX8_name_151 ⟨Nat.zero_le _, Nat.zero_le _⟩) hS (fun M151 H locs hp hw hS => ?_)
              have em151 := hp
              have hw : Wo g (stM (stM M 70025 1) 70026 ((tS b n i) : Int)) H := em151 ▸ hw
              have hf151 := hs.fl
              refine lv_iconst (v := II 0) C.1 C.2.1 dX8_name_154 rfl ?_
              exact x_ireturn C hr hlk hw hS ⟨by decide, by decide⟩ rfl (Or.inr ⟨by omega, hs.fl, (MX.rfl'.st (by decide)).st (by decide)⟩) dX8_name_155

set_option maxHeartbeats 4000000 in
set_option maxRecDepth 100000 in
theorem c_X8_atom5 (l : Launch) (g : Gm) (M : Nat → Int) (hF : LvF g) (nm : Nat → Int) (hnm : NMS M nm) (b : Nat → Int) (n : Nat) (f : Nat) (i : Nat) (hs : MS M b n f i 5) : CI l ({ cls := "RatedBySighsModel", name := "atom5", desc := "()I" } : Jvm.MethodName) cX8_atom5 2 .int (rmm 4 91) g M [.ref (gA g 70)] (fun r M' => (MX M M') ∧ (((∃ c j, q1 b n 0 i = .inr (c, j) ∧ MS M' b n f j 5 ∧ r = vC nm c)) ∨ ((∃ q, q1 b n 0 i = .inl q ∧ MF M' q 5)))) := by
  refine c_start (by decide) (Nat.le_of_ble_eq_true rfl) (fun p e s m below meth c ls C hr hlk hml hw hS hl => ?_)
  have hl : lv_has ls 2 [(0, .ref (gA g 70))] := hl
  have g_M := hw.rg
  have hN : gN g = 84 := hF.1
  have hi3 := mT_in (b := b) (n := n) (i := i)
  have hsg := sgT_in (x := b (tS b n i))
  have hwd := wdT_in (b := b) (s := tS b n i) (e := tE b n i)
  refine lv_iconst (v := II 0) C.1 C.2.1 dX8_atom5_0 rfl ?_
  refine lv_istore_n (lv' := [(1, .int (II 0)), (0, .ref (gA g 70))]) C.1 C.2.1 dX8_atom5_1 rfl hl (by decide) rfl (fun ls hl => ?_)
  refine lv_aload_n C.1 C.2.1 dX8_atom5_2 rfl (lv_at hl 1 rfl) ?_
  refine lv_bipush (v := II 45) C.1 C.2.1 dX8_atom5_3 (by decide) ?_
  refine x_ci (x_runV (n := 1) C hw hS hml hl.1 70 8 (by omega) rfl (by decide) rfl (c_X8_isSign0 l g M hF b n f i 5 hs 45 ⟨by decide, by decide⟩ (-14) (by decide)) mw_1079 mw_1081 mw_78 mw_130 mw_1082 rfl rfl (by decide +kernel) ⟨Nat.le_of_ble_eq_true rfl, Nat.le_of_ble_eq_true rfl⟩ rfl rfl (Nat.le_of_ble_eq_true rfl) dX8_atom5_5 ⟨Nat.zero_le _, Nat.zero_le _⟩) hS (fun r5 M5 H locs hr5 hp hw hS => ?_)
  rcases hp with ⟨em5, (⟨er5, h5b⟩ | ⟨er5, h5b⟩)⟩
  · have hw : Wo g M H := em5 ▸ hw
    rw [er5]
    obtain ⟨hm5, hw5⟩ := (sgn_iff (b := b) (n := n) (i := i) (x := 45) (tk := (-14)) (by decide) (by decide)).mp h5b
    refine x_if_eq (tgt := 19) C ⟨by decide, by decide⟩ dX8_atom5_8 (by decide) (fun h => absurd h (by decide)) (fun _ => ?_)
    refine lv_aload_n C.1 C.2.1 dX8_atom5_11 rfl (lv_at hl 1 rfl) ?_
    refine x_ci (x_runV (n := 0) C hw hS hml hl.1 70 8 (by omega) rfl (by decide) rfl (c_X8_opens5 l g M hF b n f i hs) mw_1043 mw_1045 mw_69 mw_130 mw_1046 rfl rfl (by decide +kernel) ⟨Nat.le_of_ble_eq_true rfl, Nat.le_of_ble_eq_true rfl⟩ rfl rfl (Nat.le_of_ble_eq_true rfl) dX8_atom5_12 ⟨Nat.zero_le _, Nat.zero_le _⟩) hS (fun r12 M12 H locs hr12 hp hw hS => ?_)
    obtain ⟨em12, er12⟩ := hp
    have hw : Wo g (stM (stM M 70025 1) 70026 ((tS b n i : Nat) : Int)) H := em12 ▸ hw
    rw [er12] at hr12 ⊢
    have hf12 := hs.fl
    refine lv_pop C.1 C.2.1 dX8_atom5_15 rfl ?_
    refine lv_goto (tgt := 102) C.1 C.2.1 dX8_atom5_16 (by decide) ?_
    refine lv_iload_n C.1 C.2.1 dX8_atom5_102 rfl (lv_at hl 0 rfl) ?_
    exact x_ireturn C hr hlk hw hS ⟨by decide, by decide⟩ rfl (by refine ⟨((MX.rfl'.st (by decide)).st (by decide)), Or.inr ⟨(tS b n i), by rw [q1_0]; exact p1_negf h5b, hf12⟩⟩) dX8_atom5_103
  · have hw : Wo g M H := em5 ▸ hw
    rw [er5]
    refine x_if_eq (tgt := 19) C ⟨by decide, by decide⟩ dX8_atom5_8 (by decide) (fun _ => ?_) (fun h => absurd h (by decide))
    refine lv_aload_n C.1 C.2.1 dX8_atom5_19 rfl (lv_at hl 1 rfl) ?_
    refine lv_bipush (v := II 40) C.1 C.2.1 dX8_atom5_20 (by decide) ?_
    refine x_ci (x_runV (n := 1) C hw hS hml hl.1 70 8 (by omega) rfl (by decide) rfl (c_X8_isSign0 l g M hF b n f i 5 hs 40 ⟨by decide, by decide⟩ 4 (by decide)) mw_1079 mw_1081 mw_78 mw_130 mw_1082 rfl rfl (by decide +kernel) ⟨Nat.le_of_ble_eq_true rfl, Nat.le_of_ble_eq_true rfl⟩ rfl rfl (Nat.le_of_ble_eq_true rfl) dX8_atom5_22 ⟨Nat.zero_le _, Nat.zero_le _⟩) hS (fun r22 M22 H locs hr22 hp hw hS => ?_)
    rcases hp with ⟨em22, (⟨er22, h22b⟩ | ⟨er22, h22b⟩)⟩
    · have hw : Wo g M H := em22 ▸ hw
      rw [er22]
      obtain ⟨hm22, hw22⟩ := (sgn_iff (b := b) (n := n) (i := i) (x := 40) (tk := 4) (by decide) (by decide)).mp h22b
      refine x_if_eq (tgt := 36) C ⟨by decide, by decide⟩ dX8_atom5_25 (by decide) (fun h => absurd h (by decide)) (fun _ => ?_)
      refine lv_aload_n C.1 C.2.1 dX8_atom5_28 rfl (lv_at hl 1 rfl) ?_
      refine x_ci (x_runV (n := 0) C hw hS hml hl.1 70 8 (by omega) rfl (by decide) rfl (c_X8_opens5 l g M hF b n f i hs) mw_1043 mw_1045 mw_69 mw_130 mw_1046 rfl rfl (by decide +kernel) ⟨Nat.le_of_ble_eq_true rfl, Nat.le_of_ble_eq_true rfl⟩ rfl rfl (Nat.le_of_ble_eq_true rfl) dX8_atom5_29 ⟨Nat.zero_le _, Nat.zero_le _⟩) hS (fun r29 M29 H locs hr29 hp hw hS => ?_)
      obtain ⟨em29, er29⟩ := hp
      have hw : Wo g (stM (stM M 70025 1) 70026 ((tS b n i : Nat) : Int)) H := em29 ▸ hw
      rw [er29] at hr29 ⊢
      have hf29 := hs.fl
      refine lv_pop C.1 C.2.1 dX8_atom5_32 rfl ?_
      refine lv_goto (tgt := 102) C.1 C.2.1 dX8_atom5_33 (by decide) ?_
      refine lv_iload_n C.1 C.2.1 dX8_atom5_102 rfl (lv_at hl 0 rfl) ?_
      exact x_ireturn C hr hlk hw hS ⟨by decide, by decide⟩ rfl (by refine ⟨((MX.rfl'.st (by decide)).st (by decide)), Or.inr ⟨(tS b n i), by rw [q1_0]; exact p1_no (by omega) (by omega) (by omega) (fun q => absurd q.2 (by decide)), hf29⟩⟩) dX8_atom5_103
    · have hw : Wo g M H := em22 ▸ hw
      rw [er22]
      refine x_if_eq (tgt := 36) C ⟨by decide, by decide⟩ dX8_atom5_25 (by decide) (fun _ => ?_) (fun h => absurd h (by decide))
      refine lv_aload_n C.1 C.2.1 dX8_atom5_36 rfl (lv_at hl 1 rfl) ?_
      refine g8 C hw 70 (by omega) rfl 25 (by decide) mw_849 (svi (x := 0) hs.2.2.2) dX8_atom5_37 ?_
      refine x_if_ne (tgt := 64) C ⟨by decide, by decide⟩ dX8_atom5_40 (by decide) (fun h => absurd h (by decide)) (fun _ => ?_)
      refine lv_aload_n C.1 C.2.1 dX8_atom5_43 rfl (lv_at hl 1 rfl) ?_
      refine g8 C hw 70 (by omega) rfl 21 (by decide) mw_845 (svi (x := mT b n i) hs.2.1.1) dX8_atom5_44 ?_
      refine lv_iconst (v := II 2) C.1 C.2.1 dX8_atom5_47 rfl ?_
      refine x_icmp_ne (tgt := 64) C ⟨by have := g_M 70021; have := hs.2.1.1; omega, by have := g_M 70021; have := hs.2.1.1; omega⟩ ⟨by decide, by decide⟩ dX8_atom5_48 (by decide) (fun c48 => ?_) (fun c48 => ?_)
      · refine lv_aload_n C.1 C.2.1 dX8_atom5_64 rfl (lv_at hl 1 rfl) ?_
        refine g8 C hw 70 (by omega) rfl 25 (by decide) mw_849 (svi (x := 0) hs.2.2.2) dX8_atom5_65 ?_
        refine x_if_ne (tgt := 98) C ⟨by decide, by decide⟩ dX8_atom5_68 (by decide) (fun h => absurd h (by decide)) (fun _ => ?_)
        refine lv_aload_n C.1 C.2.1 dX8_atom5_71 rfl (lv_at hl 1 rfl) ?_
        refine g8 C hw 70 (by omega) rfl 21 (by decide) mw_845 (svi (x := mT b n i) hs.2.1.1) dX8_atom5_72 ?_
        refine lv_iconst (v := II 1) C.1 C.2.1 dX8_atom5_75 rfl ?_
        refine x_icmp_ne (tgt := 98) C ⟨by have := g_M 70021; have := hs.2.1.1; omega, by have := g_M 70021; have := hs.2.1.1; omega⟩ ⟨by decide, by decide⟩ dX8_atom5_76 (by decide) (fun c76 => ?_) (fun c76 => ?_)
        · refine lv_aload_n C.1 C.2.1 dX8_atom5_98 rfl (lv_at hl 1 rfl) ?_
          refine x_cv (x_runV (n := 0) C hw hS hml hl.1 70 8 (by omega) rfl (by decide) rfl (c_X8_fail0 l g M hF (tS b n i) hs.2.1.2.1 hs.2.2.2) mw_1027 mw_1029 mw_65 mw_130 mw_1030 rfl rfl (by decide +kernel) ⟨Nat.le_of_ble_eq_true rfl, Nat.le_of_ble_eq_true rfl⟩ rfl rfl (Nat.le_of_ble_eq_true rfl) dX8_atom5_99 ⟨Nat.zero_le _, Nat.zero_le _⟩) hS (fun M99 H locs hp hw hS => ?_)
          have em99 := hp
          have hw : Wo g (stM (stM M 70025 1) 70026 ((tS b n i) : Int)) H := em99 ▸ hw
          have hf99 := hs.fl
          refine lv_iload_n C.1 C.2.1 dX8_atom5_102 rfl (lv_at hl 0 rfl) ?_
          exact x_ireturn C hr hlk hw hS ⟨by decide, by decide⟩ rfl (by refine ⟨((MX.rfl'.st (by decide)).st (by decide)), Or.inr ⟨(tS b n i), by rw [q1_0]; exact p1_no (by omega) (by omega) (by omega) (fun q => absurd q.2 (by decide)), hf99⟩⟩) dX8_atom5_103
        · refine lv_aload_n C.1 C.2.1 dX8_atom5_79 rfl (lv_at hl 1 rfl) ?_
          refine x_ci (x_runV (n := 0) C hw hS hml hl.1 70 8 (by omega) rfl (by decide) rfl (c_X8_name l g M hF nm (hnm.mx MX.rfl') b n f i 5 hs) mw_1083 mw_1085 mw_79 mw_130 mw_1086 rfl rfl (by decide +kernel) ⟨Nat.le_of_ble_eq_true rfl, Nat.le_of_ble_eq_true rfl⟩ rfl rfl (Nat.le_of_ble_eq_true rfl) dX8_atom5_80 ⟨Nat.zero_le _, Nat.zero_le _⟩) hS (fun r80 M80 H locs hr80 hp hw hS => ?_)
          rcases hp with h80b | h80b
          · have g_M80 := hw.rg
            obtain ⟨hn80, hv80, hq80⟩ := h80b
            have hs80 : MS M80 b n f i 5 := by rw [hq80]; exact hs
            have hx80 : MX M M80 := by rw [hq80]; exact MX.rfl'
            refine lv_istore_n (lv' := [(1, .int (II r80)), (0, .ref (gA g 70))]) C.1 C.2.1 dX8_atom5_83 rfl hl (by decide) rfl (fun ls hl => ?_)
            refine lv_aload_n C.1 C.2.1 dX8_atom5_84 rfl (lv_at hl 1 rfl) ?_
            refine g8 C hw 70 (by omega) rfl 25 (by decide) mw_849 (svi (x := 0) hs80.2.2.2) dX8_atom5_85 ?_
            refine x_if_ne (tgt := 102) C ⟨by decide, by decide⟩ dX8_atom5_88 (by decide) (fun h => absurd h (by decide)) (fun _ => ?_)
            refine lv_aload_n C.1 C.2.1 dX8_atom5_91 rfl (lv_at hl 1 rfl) ?_
            refine x_cv (x_runV (n := 0) C hw hS hml hl.1 70 8 (by omega) rfl (by decide) rfl (c_X8_next l g M80 hF b n f hs80.1.1 (tE b n i) (tE_in hs80.1.2).2.1 (hs80.2.1.2.2.1 (by omega))) mw_1003 mw_1005 mw_60 mw_130 mw_1006 rfl rfl (by decide +kernel) ⟨Nat.le_of_ble_eq_true rfl, Nat.le_of_ble_eq_true rfl⟩ rfl rfl (Nat.le_of_ble_eq_true rfl) dX8_atom5_92 ⟨Nat.zero_le _, Nat.zero_le _⟩) hS (fun M92 H locs hp hw hS => ?_)
            have h92p := hp
            have g_M92 := hw.rg
            have hs92 := hs80.next h92p
            have ht92 := tK_7 (b := b) hs80.1.2 (by omega)
            have hx92 := (hx80).tr h92p.mx
            refine lv_goto (tgt := 102) C.1 C.2.1 dX8_atom5_95 (by decide) ?_
            refine lv_iload_n C.1 C.2.1 dX8_atom5_102 rfl (lv_at hl 0 rfl) ?_
            exact x_ireturn C hr hlk hw hS hr80 rfl (by refine ⟨hx92, Or.inl ⟨[tK b n i], (tE b n i), by rw [q1_0]; exact p1_nam hn80, hs92, by rw [hv80, (gd_nam hn80).2]⟩⟩) dX8_atom5_103
          · have g_M80 := hw.rg
            obtain ⟨hn80, hf80, hq80⟩ := h80b
            have hx80 := (MX.rfl').tr hq80
            refine lv_istore_n (lv' := [(1, .int (II r80)), (0, .ref (gA g 70))]) C.1 C.2.1 dX8_atom5_83 rfl hl (by decide) rfl (fun ls hl => ?_)
            refine lv_aload_n C.1 C.2.1 dX8_atom5_84 rfl (lv_at hl 1 rfl) ?_
            refine g8 C hw 70 (by omega) rfl 25 (by decide) mw_849 (svi (x := 1) hf80.1) dX8_atom5_85 ?_
            refine x_if_ne (tgt := 102) C ⟨by decide, by decide⟩ dX8_atom5_88 (by decide) (fun _ => ?_) (fun h => absurd h (by decide))
            refine lv_iload_n C.1 C.2.1 dX8_atom5_102 rfl (lv_at hl 0 rfl) ?_
            exact x_ireturn C hr hlk hw hS hr80 rfl (by refine ⟨hx80, Or.inr ⟨(tS b n i), by rw [q1_0]; exact p1_no (by omega) (by omega) (by omega) (fun q => absurd q.2 (by decide)), hf80⟩⟩) dX8_atom5_103
      · refine lv_aload_n C.1 C.2.1 dX8_atom5_51 rfl (lv_at hl 1 rfl) ?_
        skip
        refine g8 C hw 70 (by omega) rfl 23 (by decide) mw_847 (svl (x := tV b n i) (hs.2.1.2.2.2.1 (by omega))) dX8_atom5_52 ?_
        refine x_l2i C ⟨by have := g_M 70023; have := (hs.2.1.2.2.2.1 (by omega)); omega, by have := g_M 70023; have := (hs.2.1.2.2.2.1 (by omega)); omega⟩ dX8_atom5_55 ?_
        refine lv_istore_n (lv' := [(1, .int (II (tV b n i))), (0, .ref (gA g 70))]) C.1 C.2.1 dX8_atom5_56 rfl hl (by decide) rfl (fun ls hl => ?_)
        refine lv_aload_n C.1 C.2.1 dX8_atom5_57 rfl (lv_at hl 1 rfl) ?_
        refine x_cv (x_runV (n := 0) C hw hS hml hl.1 70 8 (by omega) rfl (by decide) rfl (c_X8_next l g M hF b n f hs.1.1 (tE b n i) (tE_in hs.1.2).2.1 (hs.2.1.2.2.1 (by omega))) mw_1003 mw_1005 mw_60 mw_130 mw_1006 rfl rfl (by decide +kernel) ⟨Nat.le_of_ble_eq_true rfl, Nat.le_of_ble_eq_true rfl⟩ rfl rfl (Nat.le_of_ble_eq_true rfl) dX8_atom5_58 ⟨Nat.zero_le _, Nat.zero_le _⟩) hS (fun M58 H locs hp hw hS => ?_)
        have h58p := hp
        have g_M58 := hw.rg
        have hs58 := hs.next h58p
        have ht58 := tK_7 (b := b) hs.1.2 (by omega)
        have hx58 := (MX.rfl').tr h58p.mx
        refine lv_goto (tgt := 102) C.1 C.2.1 dX8_atom5_61 (by decide) ?_
        refine lv_iload_n C.1 C.2.1 dX8_atom5_102 rfl (lv_at hl 0 rfl) ?_
        exact x_ireturn C hr hlk hw hS ⟨by have := g_M 70023; have := (hs.2.1.2.2.2.1 (by omega)); omega, by have := g_M 70023; have := (hs.2.1.2.2.2.1 (by omega)); omega⟩ rfl (by refine ⟨hx58, Or.inl ⟨[tV b n i], (tE b n i), by rw [q1_0]; exact p1_num (by omega), hs58, ((gd_num (tV_pos (by omega))).2 nm).symm⟩⟩) dX8_atom5_103

set_option maxHeartbeats 4000000 in
set_option maxRecDepth 100000 in
theorem c_X8_term5 (l : Launch) (g : Gm) (M : Nat → Int) (hF : LvF g) (nm : Nat → Int) (hnm : NMS M nm) (b : Nat → Int) (n : Nat) (f : Nat) (i : Nat) (hs : MS M b n f i 5) : CI l ({ cls := "RatedBySighsModel", name := "term5", desc := "()I" } : Jvm.MethodName) cX8_term5 2 .int (rmm 5 112) g M [.ref (gA g 70)] (fun r M' => (MX M M') ∧ (((∃ c j, qT b n 0 i = .inr (c, j) ∧ MS M' b n f j 5 ∧ r = vC nm c)) ∨ ((∃ q, qT b n 0 i = .inl q ∧ MF M' q 5)))) := by
  refine c_start (by decide) (Nat.le_of_ble_eq_true rfl) (fun p e s m below meth c ls C hr hlk hml hw hS hl => ?_)
  have hl : lv_has ls 2 [(0, .ref (gA g 70))] := hl
  generalize ([.ref (gA g 70)] : List Value).toArray = args at C ⊢
  generalize hQQ : MQ below (postI g (fun r M' => (MX M M') ∧ (((∃ c j, qT b n 0 i = .inr (c, j) ∧ MS M' b n f j 5 ∧ r = vC nm c)) ∨ ((∃ q, qT b n 0 i = .inl q ∧ MF M' q 5))))) args s 0 0 (ar g) = QQ
  have g_M := hw.rg
  have hN : gN g = 84 := hF.1
  refine lv_aload_n C.1 C.2.1 dX8_term5_0 rfl (lv_at hl 0 rfl) ?_
  refine x_ci (x_runV (n := 0) C hw hS hml hl.1 70 8 (by omega) rfl (by decide) rfl (c_X8_atom5 l g M hF nm (hnm.mx MX.rfl') b n f i hs) mw_1075 mw_1077 mw_77 mw_130 mw_1078 rfl rfl (by decide +kernel) ⟨Nat.le_of_ble_eq_true rfl, Nat.le_of_ble_eq_true rfl⟩ rfl rfl (Nat.le_of_ble_eq_true rfl) dX8_term5_1 ⟨Nat.zero_le _, Nat.zero_le _⟩) hS (fun r1 M1 H locs hr1 hp hw hS => ?_)
  rcases hp with ⟨h1f, (h1b | h1b)⟩
  · have g_M1 := hw.rg
    obtain ⟨y1, j1, eq1, hs1, hv1⟩ := h1b
    have hx1 := (MX.rfl').tr h1f
    have hk1 := (ok_q1 b n 0).r hs.1.2 eq1
    refine lv_istore_n (lv' := [(1, .int (II r1)), (0, .ref (gA g 70))]) C.1 C.2.1 dX8_term5_4 rfl hl (by decide) rfl (fun ls hl => ?_)
    have L5 : ∀ (f1 : Nat) (fu : Nat) (c1 : List Int) (j : Nat) (x : Int) (MM : Nat → Int), (n - j) < f1 → (j ≤ n ∧ n ≤ 160) → (i ≤ j) → (n - j < fu) → (MS MM b n f j 5) → (lpP b n (q1 b n 0) oTi fu c1 j = chP b n (q1 b n 0) oTi i) → (MX M MM) → (gdC c1) → (rg x) → (x = vC nm c1) → ∀ (H : Heap) (locs : List Loc) (ls : Array Slot), Wo g MM H → va_S (ar g) s.heap H locs → lv_has ls 2 [(0, .ref (gA g 70)), (1, .int (II x))] → W p l e (rmm 5 112) s m args below meth c H locs 0 0 QQ (F0 m 5 ls []) := by
      intro f1
      induction f1 with
      | zero => intro fu c1 j x MM hmu; exact absurd hmu (Nat.not_lt_zero _)
      | succ f1 ih =>
        intro fu c1 j x MM hmu h1 hi0 hfu hs2 hq hx hg gx hvx H locs ls hw hS hl
        have ih5 := ih
        have g_MM := hw.rg
        refine lv_aload_n C.1 C.2.1 dX8_term5_5 rfl (lv_at hl 0 rfl) ?_
        refine lv_bipush (v := II 42) C.1 C.2.1 dX8_term5_6 (by decide) ?_
        refine x_ci (x_runV (n := 1) C hw hS hml hl.1 70 8 (by omega) rfl (by decide) rfl (c_X8_isSign0 l g MM hF b n f j 5 hs2 42 ⟨by decide, by decide⟩ (-15) (by decide)) mw_1079 mw_1081 mw_78 mw_130 mw_1082 rfl rfl (by decide +kernel) ⟨Nat.le_of_ble_eq_true rfl, Nat.le_of_ble_eq_true rfl⟩ rfl rfl (Nat.le_of_ble_eq_true rfl) dX8_term5_8 ⟨Nat.zero_le _, Nat.zero_le _⟩) hS (fun r8 M8 H locs hr8 hp hw hS => ?_)
        rcases hp with ⟨em8, (⟨er8, h8b⟩ | ⟨er8, h8b⟩)⟩
        · have hw : Wo g MM H := em8 ▸ hw
          rw [er8]
          obtain ⟨hm8, hw8⟩ := (sgn_iff (b := b) (n := n) (i := j) (x := 42) (tk := (-15)) (by decide) (by decide)).mp h8b
          obtain ⟨f2, rfl⟩ : ∃ f2, fu = f2 + 1 := ⟨fu - 1, by omega⟩
          have hop : oTi (tK b n j) = true := decide_eq_true (by omega)
          refine x_if_eq (tgt := 28) C ⟨by decide, by decide⟩ dX8_term5_11 (by decide) (fun h => absurd h (by decide)) (fun _ => ?_)
          refine lv_aload_n C.1 C.2.1 dX8_term5_14 rfl (lv_at hl 0 rfl) ?_
          have hi9 := mT_in (b := b) (n := n) (i := j)
          refine x_cv (x_runV (n := 0) C hw hS hml hl.1 70 8 (by omega) rfl (by decide) rfl (c_X8_next l g MM hF b n f hs2.1.1 (tE b n j) (tE_in hs2.1.2).2.1 (hs2.2.1.2.2.1 (by omega))) mw_1003 mw_1005 mw_60 mw_130 mw_1006 rfl rfl (by decide +kernel) ⟨Nat.le_of_ble_eq_true rfl, Nat.le_of_ble_eq_true rfl⟩ rfl rfl (Nat.le_of_ble_eq_true rfl) dX8_term5_15 ⟨Nat.zero_le _, Nat.zero_le _⟩) hS (fun M15 H locs hp hw hS => ?_)
          have h15p := hp
          have g_M15 := hw.rg
          have hs15 := hs2.next h15p
          have ht15 := tK_7 (b := b) hs2.1.2 (by omega)
          have hx15 := (hx).tr h15p.mx
          refine lv_iload_n C.1 C.2.1 dX8_term5_18 rfl (lv_at hl 1 rfl) ?_
          refine lv_aload_n C.1 C.2.1 dX8_term5_19 rfl (lv_at hl 0 rfl) ?_
          refine x_ci (x_runV (n := 0) C hw hS hml hl.1 70 8 (by omega) rfl (by decide) rfl (c_X8_atom5 l g M15 hF nm (hnm.mx hx15) b n f (tE b n j) hs15) mw_1075 mw_1077 mw_77 mw_130 mw_1078 rfl rfl (by decide +kernel) ⟨Nat.le_of_ble_eq_true rfl, Nat.le_of_ble_eq_true rfl⟩ rfl rfl (Nat.le_of_ble_eq_true rfl) dX8_term5_20 ⟨Nat.zero_le _, Nat.zero_le _⟩) hS (fun r20 M20 H locs hr20 hp hw hS => ?_)
          rcases hp with ⟨h20f, (h20b | h20b)⟩
          · have g_M20 := hw.rg
            obtain ⟨y20, j20, eq20, hs20, hv20⟩ := h20b
            have hx20 := (hx15).tr h20f
            have hk20 := (ok_q1 b n 0).r hs15.1.2 eq20
            refine x_imul C dX8_term5_23 ?_
            refine x_top (b := wr (x * r20)) (II_self _).symm ?_
            refine lv_istore_n (lv' := [(1, .int (II (wr (x * r20)))), (0, .ref (gA g 70))]) C.1 C.2.1 dX8_term5_24 rfl hl (by decide) rfl (fun ls hl => ?_)
            refine lv_goto (tgt := 5) C.1 C.2.1 dX8_term5_25 (by decide) ?_
            exact ih5  f2 (c1 ++ y20 ++ [tK b n j]) j20 (wr (x * r20)) M20 (by omega) (by omega) (by omega) (by omega) hs20 ((lp_step hop eq20).symm.trans hq) hx20 ((gd_op hg hk20.1 (show tK b n j < -8 by omega)).1) (rg_toInt _) (by rw [(gd_op hg hk20.1 (show tK b n j < -8 by omega)).2, h8b, jk_15, ← hvx, ← hv20]) _ _ _ hw hS (lv_sub hl [1, 0] rfl)
          · have g_M20 := hw.rg
            obtain ⟨qz20, eq20, hf20⟩ := h20b
            have hx20 := (hx15).tr h20f
            refine x_imul C dX8_term5_23 ?_
            refine x_top (b := wr (x * r20)) (II_self _).symm ?_
            refine lv_istore_n (lv' := [(1, .int (II (wr (x * r20)))), (0, .ref (gA g 70))]) C.1 C.2.1 dX8_term5_24 rfl hl (by decide) rfl (fun ls hl => ?_)
            refine lv_goto (tgt := 5) C.1 C.2.1 dX8_term5_25 (by decide) ?_
            refine lv_aload_n C.1 C.2.1 dX8_term5_5 rfl (lv_at hl 1 rfl) ?_
            refine lv_bipush (v := II 42) C.1 C.2.1 dX8_term5_6 (by decide) ?_
            refine x_ci (x_runV (n := 1) C hw hS hml hl.1 70 8 (by omega) rfl (by decide) rfl (c_X8_isSign1 l g M20 hF hf20.1 42 ⟨by decide, by decide⟩) mw_1079 mw_1081 mw_78 mw_130 mw_1082 rfl rfl (by decide +kernel) ⟨Nat.le_of_ble_eq_true rfl, Nat.le_of_ble_eq_true rfl⟩ rfl rfl (Nat.le_of_ble_eq_true rfl) dX8_term5_8 ⟨Nat.zero_le _, Nat.zero_le _⟩) hS (fun r8 M8 H locs hr8 hp hw hS => ?_)
            obtain ⟨em8, er8⟩ := hp
            have hw : Wo g M20 H := em8 ▸ hw
            rw [er8] at hr8 ⊢
            refine x_if_eq (tgt := 28) C ⟨by decide, by decide⟩ dX8_term5_11 (by decide) (fun _ => ?_) (fun h => absurd h (by decide))
            refine lv_iload_n C.1 C.2.1 dX8_term5_28 rfl (lv_at hl 0 rfl) ?_
            subst hQQ; exact x_ireturn C hr hlk hw hS (rg_toInt _) rfl (by refine ⟨hx20, Or.inr ⟨qz20, by show chP b n (q1 b n 0) oTi i = _; rw [← hq]; exact lp_no hop eq20, hf20⟩⟩) dX8_term5_29
        · have hw : Wo g MM H := em8 ▸ hw
          rw [er8]
          refine x_if_eq (tgt := 28) C ⟨by decide, by decide⟩ dX8_term5_11 (by decide) (fun _ => ?_) (fun h => absurd h (by decide))
          refine lv_iload_n C.1 C.2.1 dX8_term5_28 rfl (lv_at hl 1 rfl) ?_
          subst hQQ; exact x_ireturn C hr hlk hw hS gx rfl (by refine ⟨hx, Or.inl ⟨c1, j, by show chP b n (q1 b n 0) oTi i = _; rw [← hq]; exact lp_end (decide_eq_false (by omega)), hs2, hvx⟩⟩) dX8_term5_29
    exact L5 _ 161 y1 j1 r1 M1 (Nat.lt_succ_self _) (by have := hs1.1.2; have := hs1.1.1.2.2.1; omega) (by omega) (by have := hs1.1.1.2.2.1; omega) hs1 ((ch_ok eq1).symm) hx1 hk1.1 hr1 hv1 _ _ _ hw hS (lv_sub hl [1, 0] rfl)
  · have g_M1 := hw.rg
    obtain ⟨qz1, eq1, hf1⟩ := h1b
    have hx1 := (MX.rfl').tr h1f
    refine lv_istore_n (lv' := [(1, .int (II r1)), (0, .ref (gA g 70))]) C.1 C.2.1 dX8_term5_4 rfl hl (by decide) rfl (fun ls hl => ?_)
    refine lv_aload_n C.1 C.2.1 dX8_term5_5 rfl (lv_at hl 1 rfl) ?_
    refine lv_bipush (v := II 42) C.1 C.2.1 dX8_term5_6 (by decide) ?_
    refine x_ci (x_runV (n := 1) C hw hS hml hl.1 70 8 (by omega) rfl (by decide) rfl (c_X8_isSign1 l g M1 hF hf1.1 42 ⟨by decide, by decide⟩) mw_1079 mw_1081 mw_78 mw_130 mw_1082 rfl rfl (by decide +kernel) ⟨Nat.le_of_ble_eq_true rfl, Nat.le_of_ble_eq_true rfl⟩ rfl rfl (Nat.le_of_ble_eq_true rfl) dX8_term5_8 ⟨Nat.zero_le _, Nat.zero_le _⟩) hS (fun r8 M8 H locs hr8 hp hw hS => ?_)
    obtain ⟨em8, er8⟩ := hp
    have hw : Wo g M1 H := em8 ▸ hw
    rw [er8] at hr8 ⊢
    refine x_if_eq (tgt := 28) C ⟨by decide, by decide⟩ dX8_term5_11 (by decide) (fun _ => ?_) (fun h => absurd h (by decide))
    refine lv_iload_n C.1 C.2.1 dX8_term5_28 rfl (lv_at hl 0 rfl) ?_
    subst hQQ; exact x_ireturn C hr hlk hw hS hr1 rfl (by refine ⟨hx1, Or.inr ⟨qz1, by show chP b n (q1 b n 0) oTi i = _; exact ch_no eq1, hf1⟩⟩) dX8_term5_29

set_option maxHeartbeats 4000000 in
set_option maxRecDepth 100000 in
theorem c_X8_added5 (l : Launch) (g : Gm) (M : Nat → Int) (hF : LvF g) (nm : Nat → Int) (hnm : NMS M nm) (b : Nat → Int) (n : Nat) (f : Nat) (i : Nat) (hs : MS M b n f i 5) : CI l ({ cls := "RatedBySighsModel", name := "added5", desc := "()I" } : Jvm.MethodName) cX8_added5 4 .int (rmm 6 133) g M [.ref (gA g 70)] (fun r M' => (MX M M') ∧ (((∃ c j, qS b n 0 i = .inr (c, j) ∧ MS M' b n f j 5 ∧ r = vC nm c)) ∨ ((∃ q, qS b n 0 i = .inl q ∧ MF M' q 5)))) := by
  refine c_start (by decide) (Nat.le_of_ble_eq_true rfl) (fun p e s m below meth c ls C hr hlk hml hw hS hl => ?_)
  have hl : lv_has ls 4 [(0, .ref (gA g 70))] := hl
  generalize ([.ref (gA g 70)] : List Value).toArray = args at C ⊢
  generalize hQQ : MQ below (postI g (fun r M' => (MX M M') ∧ (((∃ c j, qS b n 0 i = .inr (c, j) ∧ MS M' b n f j 5 ∧ r = vC nm c)) ∨ ((∃ q, qS b n 0 i = .inl q ∧ MF M' q 5))))) args s 0 0 (ar g) = QQ
  have g_M := hw.rg
  have hN : gN g = 84 := hF.1
  refine lv_aload_n C.1 C.2.1 dX8_added5_0 rfl (lv_at hl 0 rfl) ?_
  refine x_ci (x_runV (n := 0) C hw hS hml hl.1 70 8 (by omega) rfl (by decide) rfl (c_X8_term5 l g M hF nm (hnm.mx MX.rfl') b n f i hs) mw_1071 mw_1073 mw_76 mw_130 mw_1074 rfl rfl (by decide +kernel) ⟨Nat.le_of_ble_eq_true rfl, Nat.le_of_ble_eq_true rfl⟩ rfl rfl (Nat.le_of_ble_eq_true rfl) dX8_added5_1 ⟨Nat.zero_le _, Nat.zero_le _⟩) hS (fun r1 M1 H locs hr1 hp hw hS => ?_)
  rcases hp with ⟨h1f, (h1b | h1b)⟩
  · have g_M1 := hw.rg
    obtain ⟨y1, j1, eq1, hs1, hv1⟩ := h1b
    have hx1 := (MX.rfl').tr h1f
    have hk1 := (ok_qT b n 0).r hs.1.2 eq1
    refine lv_istore_n (lv' := [(1, .int (II r1)), (0, .ref (gA g 70))]) C.1 C.2.1 dX8_added5_4 rfl hl (by decide) rfl (fun ls hl => ?_)
    have L5 : ∀ (f1 : Nat) (fu : Nat) (c1 : List Int) (j : Nat) (x : Int) (MM : Nat → Int), (n - j) < f1 → (j ≤ n ∧ n ≤ 160) → (i ≤ j) → (n - j < fu) → (MS MM b n f j 5) → (lpP b n (qT b n 0) oPl fu c1 j = chP b n (qT b n 0) oPl i) → (MX M MM) → (gdC c1) → (rg x) → (x = vC nm c1) → ∀ (H : Heap) (locs : List Loc) (ls : Array Slot), Wo g MM H → va_S (ar g) s.heap H locs → lv_has ls 4 [(0, .ref (gA g 70)), (1, .int (II x))] → W p l e (rmm 6 133) s m args below meth c H locs 0 0 QQ (F0 m 5 ls []) := by
      intro f1
      induction f1 with
      | zero => intro fu c1 j x MM hmu; exact absurd hmu (Nat.not_lt_zero _)
      | succ f1 ih =>
        intro fu c1 j x MM hmu h1 hi0 hfu hs2 hq hx hg gx hvx H locs ls hw hS hl
        have ih5 := ih
        have g_MM := hw.rg
        refine lv_aload_n C.1 C.2.1 dX8_added5_5 rfl (lv_at hl 0 rfl) ?_
        refine lv_bipush (v := II 43) C.1 C.2.1 dX8_added5_6 (by decide) ?_
        refine x_ci (x_runV (n := 1) C hw hS hml hl.1 70 8 (by omega) rfl (by decide) rfl (c_X8_isSign0 l g MM hF b n f j 5 hs2 43 ⟨by decide, by decide⟩ (-13) (by decide)) mw_1079 mw_1081 mw_78 mw_130 mw_1082 rfl rfl (by decide +kernel) ⟨Nat.le_of_ble_eq_true rfl, Nat.le_of_ble_eq_true rfl⟩ rfl rfl (Nat.le_of_ble_eq_true rfl) dX8_added5_8 ⟨Nat.zero_le _, Nat.zero_le _⟩) hS (fun r8 M8 H locs hr8 hp hw hS => ?_)
        rcases hp with ⟨em8, (⟨er8, h8b⟩ | ⟨er8, h8b⟩)⟩
        · have hw : Wo g MM H := em8 ▸ hw
          rw [er8]
          obtain ⟨hm8, hw8⟩ := (sgn_iff (b := b) (n := n) (i := j) (x := 43) (tk := (-13)) (by decide) (by decide)).mp h8b
          obtain ⟨f2, rfl⟩ : ∃ f2, fu = f2 + 1 := ⟨fu - 1, by omega⟩
          have hop : oPl (tK b n j) = true := decide_eq_true (by omega)
          refine x_if_ne (tgt := 23) C ⟨by decide, by decide⟩ dX8_added5_11 (by decide) (fun _ => ?_) (fun h => absurd h (by decide))
          refine lv_aload_n C.1 C.2.1 dX8_added5_23 rfl (lv_at hl 0 rfl) ?_
          refine g8 C hw 70 (by omega) rfl 23 (by decide) mw_847 (svl (x := 43) ((hs2.2.1.2.2.2.2 (by omega)).trans hw8)) dX8_added5_24 ?_
          refine lv_ldc2 C.1 C.2.1 C.2.2.1 (C.2.2.2.1 _ mw_1087) dX8_added5_27 ?_
          rw [show (43 : Int64) = LL 43 from by decide]
          refine x_lcmp C ⟨by decide, by decide⟩ ⟨by decide, by decide⟩ dX8_added5_30 ?_
          rw [show cmpI 43 43 = 0 from by decide]
          refine x_if_ne (tgt := 38) C ⟨by decide, by decide⟩ dX8_added5_31 (by decide) (fun h => absurd h (by decide)) (fun _ => ?_)
          refine lv_iconst (v := II 1) C.1 C.2.1 dX8_added5_34 rfl ?_
          refine lv_goto (tgt := 39) C.1 C.2.1 dX8_added5_35 (by decide) ?_
          refine lv_istore_n (lv' := [(2, .int (II 1)), (0, .ref (gA g 70)), (1, .int (II x))]) C.1 C.2.1 dX8_added5_39 rfl hl (by decide) rfl (fun ls hl => ?_)
          refine lv_aload_n C.1 C.2.1 dX8_added5_40 rfl (lv_at hl 1 rfl) ?_
          have hi9 := mT_in (b := b) (n := n) (i := j)
          refine x_cv (x_runV (n := 0) C hw hS hml hl.1 70 8 (by omega) rfl (by decide) rfl (c_X8_next l g MM hF b n f hs2.1.1 (tE b n j) (tE_in hs2.1.2).2.1 (hs2.2.1.2.2.1 (by omega))) mw_1003 mw_1005 mw_60 mw_130 mw_1006 rfl rfl (by decide +kernel) ⟨Nat.le_of_ble_eq_true rfl, Nat.le_of_ble_eq_true rfl⟩ rfl rfl (Nat.le_of_ble_eq_true rfl) dX8_added5_41 ⟨Nat.zero_le _, Nat.zero_le _⟩) hS (fun M41 H locs hp hw hS => ?_)
          have h41p := hp
          have g_M41 := hw.rg
          have hs41 := hs2.next h41p
          have ht41 := tK_7 (b := b) hs2.1.2 (by omega)
          have hx41 := (hx).tr h41p.mx
          refine lv_aload_n C.1 C.2.1 dX8_added5_44 rfl (lv_at hl 1 rfl) ?_
          refine x_ci (x_runV (n := 0) C hw hS hml hl.1 70 8 (by omega) rfl (by decide) rfl (c_X8_term5 l g M41 hF nm (hnm.mx hx41) b n f (tE b n j) hs41) mw_1071 mw_1073 mw_76 mw_130 mw_1074 rfl rfl (by decide +kernel) ⟨Nat.le_of_ble_eq_true rfl, Nat.le_of_ble_eq_true rfl⟩ rfl rfl (Nat.le_of_ble_eq_true rfl) dX8_added5_45 ⟨Nat.zero_le _, Nat.zero_le _⟩) hS (fun r45 M45 H locs hr45 hp hw hS => ?_)
          rcases hp with ⟨h45f, (h45b | h45b)⟩
          · have g_M45 := hw.rg
            obtain ⟨y45, j45, eq45, hs45, hv45⟩ := h45b
            have hx45 := (hx41).tr h45f
            have hk45 := (ok_qT b n 0).r hs41.1.2 eq45
            refine lv_istore_n (lv' := [(3, .int (II r45)), (2, .int (II 1)), (0, .ref (gA g 70)), (1, .int (II x))]) C.1 C.2.1 dX8_added5_48 rfl hl (by decide) rfl (fun ls hl => ?_)
            refine lv_iload_n C.1 C.2.1 dX8_added5_49 rfl (lv_at hl 1 rfl) ?_
            refine x_if_eq (tgt := 59) C ⟨by decide, by decide⟩ dX8_added5_50 (by decide) (fun h => absurd h (by decide)) (fun _ => ?_)
            refine lv_iload_n C.1 C.2.1 dX8_added5_53 rfl (lv_at hl 3 rfl) ?_
            refine lv_iload_n C.1 C.2.1 dX8_added5_54 rfl (lv_at hl 0 rfl) ?_
            refine x_iadd C dX8_added5_55 ?_
            refine x_top (b := wr (x + r45)) (II_self _).symm ?_
            refine lv_goto (tgt := 62) C.1 C.2.1 dX8_added5_56 (by decide) ?_
            refine lv_istore_n (lv' := [(1, .int (II (wr (x + r45)))), (3, .int (II r45)), (2, .int (II 1)), (0, .ref (gA g 70))]) C.1 C.2.1 dX8_added5_62 rfl hl (by decide) rfl (fun ls hl => ?_)
            refine lv_goto (tgt := 5) C.1 C.2.1 dX8_added5_63 (by decide) ?_
            exact ih5  f2 (c1 ++ y45 ++ [tK b n j]) j45 (wr (x + r45)) M45 (by omega) (by omega) (by omega) (by omega) hs45 ((lp_step hop eq45).symm.trans hq) hx45 ((gd_op hg hk45.1 (show tK b n j < -8 by omega)).1) (rg_toInt _) (by rw [(gd_op hg hk45.1 (show tK b n j < -8 by omega)).2, h8b, jk_13, ← hvx, ← hv45]) _ _ _ hw hS (lv_sub hl [3, 0] rfl)
          · have g_M45 := hw.rg
            obtain ⟨qz45, eq45, hf45⟩ := h45b
            have hx45 := (hx41).tr h45f
            refine lv_istore_n (lv' := [(3, .int (II r45)), (2, .int (II 1)), (0, .ref (gA g 70)), (1, .int (II x))]) C.1 C.2.1 dX8_added5_48 rfl hl (by decide) rfl (fun ls hl => ?_)
            refine lv_iload_n C.1 C.2.1 dX8_added5_49 rfl (lv_at hl 1 rfl) ?_
            refine x_if_eq (tgt := 59) C ⟨by decide, by decide⟩ dX8_added5_50 (by decide) (fun h => absurd h (by decide)) (fun _ => ?_)
            refine lv_iload_n C.1 C.2.1 dX8_added5_53 rfl (lv_at hl 3 rfl) ?_
            refine lv_iload_n C.1 C.2.1 dX8_added5_54 rfl (lv_at hl 0 rfl) ?_
            refine x_iadd C dX8_added5_55 ?_
            refine x_top (b := wr (x + r45)) (II_self _).symm ?_
            refine lv_goto (tgt := 62) C.1 C.2.1 dX8_added5_56 (by decide) ?_
            refine lv_istore_n (lv' := [(1, .int (II (wr (x + r45)))), (3, .int (II r45)), (2, .int (II 1)), (0, .ref (gA g 70))]) C.1 C.2.1 dX8_added5_62 rfl hl (by decide) rfl (fun ls hl => ?_)
            refine lv_goto (tgt := 5) C.1 C.2.1 dX8_added5_63 (by decide) ?_
            refine lv_aload_n C.1 C.2.1 dX8_added5_5 rfl (lv_at hl 3 rfl) ?_
            refine lv_bipush (v := II 43) C.1 C.2.1 dX8_added5_6 (by decide) ?_
            refine x_ci (x_runV (n := 1) C hw hS hml hl.1 70 8 (by omega) rfl (by decide) rfl (c_X8_isSign1 l g M45 hF hf45.1 43 ⟨by decide, by decide⟩) mw_1079 mw_1081 mw_78 mw_130 mw_1082 rfl rfl (by decide +kernel) ⟨Nat.le_of_ble_eq_true rfl, Nat.le_of_ble_eq_true rfl⟩ rfl rfl (Nat.le_of_ble_eq_true rfl) dX8_added5_8 ⟨Nat.zero_le _, Nat.zero_le _⟩) hS (fun r8 M8 H locs hr8 hp hw hS => ?_)
            obtain ⟨em8, er8⟩ := hp
            have hw : Wo g M45 H := em8 ▸ hw
            rw [er8] at hr8 ⊢
            refine x_if_ne (tgt := 23) C ⟨by decide, by decide⟩ dX8_added5_11 (by decide) (fun h => absurd h (by decide)) (fun _ => ?_)
            refine lv_aload_n C.1 C.2.1 dX8_added5_14 rfl (lv_at hl 3 rfl) ?_
            refine lv_bipush (v := II 45) C.1 C.2.1 dX8_added5_15 (by decide) ?_
            refine x_ci (x_runV (n := 1) C hw hS hml hl.1 70 8 (by omega) rfl (by decide) rfl (c_X8_isSign1 l g M45 hF hf45.1 45 ⟨by decide, by decide⟩) mw_1079 mw_1081 mw_78 mw_130 mw_1082 rfl rfl (by decide +kernel) ⟨Nat.le_of_ble_eq_true rfl, Nat.le_of_ble_eq_true rfl⟩ rfl rfl (Nat.le_of_ble_eq_true rfl) dX8_added5_17 ⟨Nat.zero_le _, Nat.zero_le _⟩) hS (fun r17 M17 H locs hr17 hp hw hS => ?_)
            obtain ⟨em17, er17⟩ := hp
            have hw : Wo g M45 H := em17 ▸ hw
            rw [er17] at hr17 ⊢
            refine x_if_eq (tgt := 66) C ⟨by decide, by decide⟩ dX8_added5_20 (by decide) (fun _ => ?_) (fun h => absurd h (by decide))
            refine lv_iload_n C.1 C.2.1 dX8_added5_66 rfl (lv_at hl 0 rfl) ?_
            subst hQQ; exact x_ireturn C hr hlk hw hS (rg_toInt _) rfl (by refine ⟨hx45, Or.inr ⟨qz45, by show chP b n (qT b n 0) oPl i = _; rw [← hq]; exact lp_no hop eq45, hf45⟩⟩) dX8_added5_67
        · have hw : Wo g MM H := em8 ▸ hw
          rw [er8]
          refine x_if_ne (tgt := 23) C ⟨by decide, by decide⟩ dX8_added5_11 (by decide) (fun h => absurd h (by decide)) (fun _ => ?_)
          refine lv_aload_n C.1 C.2.1 dX8_added5_14 rfl (lv_at hl 0 rfl) ?_
          refine lv_bipush (v := II 45) C.1 C.2.1 dX8_added5_15 (by decide) ?_
          refine x_ci (x_runV (n := 1) C hw hS hml hl.1 70 8 (by omega) rfl (by decide) rfl (c_X8_isSign0 l g MM hF b n f j 5 hs2 45 ⟨by decide, by decide⟩ (-14) (by decide)) mw_1079 mw_1081 mw_78 mw_130 mw_1082 rfl rfl (by decide +kernel) ⟨Nat.le_of_ble_eq_true rfl, Nat.le_of_ble_eq_true rfl⟩ rfl rfl (Nat.le_of_ble_eq_true rfl) dX8_added5_17 ⟨Nat.zero_le _, Nat.zero_le _⟩) hS (fun r17 M17 H locs hr17 hp hw hS => ?_)
          rcases hp with ⟨em17, (⟨er17, h17b⟩ | ⟨er17, h17b⟩)⟩
          · have hw : Wo g MM H := em17 ▸ hw
            rw [er17]
            obtain ⟨hm17, hw17⟩ := (sgn_iff (b := b) (n := n) (i := j) (x := 45) (tk := (-14)) (by decide) (by decide)).mp h17b
            obtain ⟨f2, rfl⟩ : ∃ f2, fu = f2 + 1 := ⟨fu - 1, by omega⟩
            have hop : oPl (tK b n j) = true := decide_eq_true (by omega)
            refine x_if_eq (tgt := 66) C ⟨by decide, by decide⟩ dX8_added5_20 (by decide) (fun h => absurd h (by decide)) (fun _ => ?_)
            refine lv_aload_n C.1 C.2.1 dX8_added5_23 rfl (lv_at hl 0 rfl) ?_
            refine g8 C hw 70 (by omega) rfl 23 (by decide) mw_847 (svl (x := 45) ((hs2.2.1.2.2.2.2 (by omega)).trans hw17)) dX8_added5_24 ?_
            refine lv_ldc2 C.1 C.2.1 C.2.2.1 (C.2.2.2.1 _ mw_1087) dX8_added5_27 ?_
            rw [show (43 : Int64) = LL 43 from by decide]
            refine x_lcmp C ⟨by decide, by decide⟩ ⟨by decide, by decide⟩ dX8_added5_30 ?_
            rw [show cmpI 45 43 = 1 from by decide]
            refine x_if_ne (tgt := 38) C ⟨by decide, by decide⟩ dX8_added5_31 (by decide) (fun _ => ?_) (fun h => absurd h (by decide))
            refine lv_iconst (v := II 0) C.1 C.2.1 dX8_added5_38 rfl ?_
            refine lv_istore_n (lv' := [(2, .int (II 0)), (0, .ref (gA g 70)), (1, .int (II x))]) C.1 C.2.1 dX8_added5_39 rfl hl (by decide) rfl (fun ls hl => ?_)
            refine lv_aload_n C.1 C.2.1 dX8_added5_40 rfl (lv_at hl 1 rfl) ?_
            have hi9 := mT_in (b := b) (n := n) (i := j)
            refine x_cv (x_runV (n := 0) C hw hS hml hl.1 70 8 (by omega) rfl (by decide) rfl (c_X8_next l g MM hF b n f hs2.1.1 (tE b n j) (tE_in hs2.1.2).2.1 (hs2.2.1.2.2.1 (by omega))) mw_1003 mw_1005 mw_60 mw_130 mw_1006 rfl rfl (by decide +kernel) ⟨Nat.le_of_ble_eq_true rfl, Nat.le_of_ble_eq_true rfl⟩ rfl rfl (Nat.le_of_ble_eq_true rfl) dX8_added5_41 ⟨Nat.zero_le _, Nat.zero_le _⟩) hS (fun M41 H locs hp hw hS => ?_)
            have h41p := hp
            have g_M41 := hw.rg
            have hs41 := hs2.next h41p
            have ht41 := tK_7 (b := b) hs2.1.2 (by omega)
            have hx41 := (hx).tr h41p.mx
            refine lv_aload_n C.1 C.2.1 dX8_added5_44 rfl (lv_at hl 1 rfl) ?_
            refine x_ci (x_runV (n := 0) C hw hS hml hl.1 70 8 (by omega) rfl (by decide) rfl (c_X8_term5 l g M41 hF nm (hnm.mx hx41) b n f (tE b n j) hs41) mw_1071 mw_1073 mw_76 mw_130 mw_1074 rfl rfl (by decide +kernel) ⟨Nat.le_of_ble_eq_true rfl, Nat.le_of_ble_eq_true rfl⟩ rfl rfl (Nat.le_of_ble_eq_true rfl) dX8_added5_45 ⟨Nat.zero_le _, Nat.zero_le _⟩) hS (fun r45 M45 H locs hr45 hp hw hS => ?_)
            rcases hp with ⟨h45f, (h45b | h45b)⟩
            · have g_M45 := hw.rg
              obtain ⟨y45, j45, eq45, hs45, hv45⟩ := h45b
              have hx45 := (hx41).tr h45f
              have hk45 := (ok_qT b n 0).r hs41.1.2 eq45
              refine lv_istore_n (lv' := [(3, .int (II r45)), (2, .int (II 0)), (0, .ref (gA g 70)), (1, .int (II x))]) C.1 C.2.1 dX8_added5_48 rfl hl (by decide) rfl (fun ls hl => ?_)
              refine lv_iload_n C.1 C.2.1 dX8_added5_49 rfl (lv_at hl 1 rfl) ?_
              refine x_if_eq (tgt := 59) C ⟨by decide, by decide⟩ dX8_added5_50 (by decide) (fun _ => ?_) (fun h => absurd h (by decide))
              refine lv_iload_n C.1 C.2.1 dX8_added5_59 rfl (lv_at hl 3 rfl) ?_
              refine lv_iload_n C.1 C.2.1 dX8_added5_60 rfl (lv_at hl 0 rfl) ?_
              refine x_isub C dX8_added5_61 ?_
              refine x_top (b := wr (x - r45)) (II_self _).symm ?_
              refine lv_istore_n (lv' := [(1, .int (II (wr (x - r45)))), (3, .int (II r45)), (2, .int (II 0)), (0, .ref (gA g 70))]) C.1 C.2.1 dX8_added5_62 rfl hl (by decide) rfl (fun ls hl => ?_)
              refine lv_goto (tgt := 5) C.1 C.2.1 dX8_added5_63 (by decide) ?_
              exact ih5  f2 (c1 ++ y45 ++ [tK b n j]) j45 (wr (x - r45)) M45 (by omega) (by omega) (by omega) (by omega) hs45 ((lp_step hop eq45).symm.trans hq) hx45 ((gd_op hg hk45.1 (show tK b n j < -8 by omega)).1) (rg_toInt _) (by rw [(gd_op hg hk45.1 (show tK b n j < -8 by omega)).2, h17b, jk_14, ← hvx, ← hv45]) _ _ _ hw hS (lv_sub hl [3, 0] rfl)
            · have g_M45 := hw.rg
              obtain ⟨qz45, eq45, hf45⟩ := h45b
              have hx45 := (hx41).tr h45f
              refine lv_istore_n (lv' := [(3, .int (II r45)), (2, .int (II 0)), (0, .ref (gA g 70)), (1, .int (II x))]) C.1 C.2.1 dX8_added5_48 rfl hl (by decide) rfl (fun ls hl => ?_)
              refine lv_iload_n C.1 C.2.1 dX8_added5_49 rfl (lv_at hl 1 rfl) ?_
              refine x_if_eq (tgt := 59) C ⟨by decide, by decide⟩ dX8_added5_50 (by decide) (fun _ => ?_) (fun h => absurd h (by decide))
              refine lv_iload_n C.1 C.2.1 dX8_added5_59 rfl (lv_at hl 3 rfl) ?_
              refine lv_iload_n C.1 C.2.1 dX8_added5_60 rfl (lv_at hl 0 rfl) ?_
              refine x_isub C dX8_added5_61 ?_
              refine x_top (b := wr (x - r45)) (II_self _).symm ?_
              refine lv_istore_n (lv' := [(1, .int (II (wr (x - r45)))), (3, .int (II r45)), (2, .int (II 0)), (0, .ref (gA g 70))]) C.1 C.2.1 dX8_added5_62 rfl hl (by decide) rfl (fun ls hl => ?_)
              refine lv_goto (tgt := 5) C.1 C.2.1 dX8_added5_63 (by decide) ?_
              refine lv_aload_n C.1 C.2.1 dX8_added5_5 rfl (lv_at hl 3 rfl) ?_
              refine lv_bipush (v := II 43) C.1 C.2.1 dX8_added5_6 (by decide) ?_
              refine x_ci (x_runV (n := 1) C hw hS hml hl.1 70 8 (by omega) rfl (by decide) rfl (c_X8_isSign1 l g M45 hF hf45.1 43 ⟨by decide, by decide⟩) mw_1079 mw_1081 mw_78 mw_130 mw_1082 rfl rfl (by decide +kernel) ⟨Nat.le_of_ble_eq_true rfl, Nat.le_of_ble_eq_true rfl⟩ rfl rfl (Nat.le_of_ble_eq_true rfl) dX8_added5_8 ⟨Nat.zero_le _, Nat.zero_le _⟩) hS (fun r8 M8 H locs hr8 hp hw hS => ?_)
              obtain ⟨em8, er8⟩ := hp
              have hw : Wo g M45 H := em8 ▸ hw
              rw [er8] at hr8 ⊢
              refine x_if_ne (tgt := 23) C ⟨by decide, by decide⟩ dX8_added5_11 (by decide) (fun h => absurd h (by decide)) (fun _ => ?_)
              refine lv_aload_n C.1 C.2.1 dX8_added5_14 rfl (lv_at hl 3 rfl) ?_
              refine lv_bipush (v := II 45) C.1 C.2.1 dX8_added5_15 (by decide) ?_
              refine x_ci (x_runV (n := 1) C hw hS hml hl.1 70 8 (by omega) rfl (by decide) rfl (c_X8_isSign1 l g M45 hF hf45.1 45 ⟨by decide, by decide⟩) mw_1079 mw_1081 mw_78 mw_130 mw_1082 rfl rfl (by decide +kernel) ⟨Nat.le_of_ble_eq_true rfl, Nat.le_of_ble_eq_true rfl⟩ rfl rfl (Nat.le_of_ble_eq_true rfl) dX8_added5_17 ⟨Nat.zero_le _, Nat.zero_le _⟩) hS (fun r17 M17 H locs hr17 hp hw hS => ?_)
              obtain ⟨em17, er17⟩ := hp
              have hw : Wo g M45 H := em17 ▸ hw
              rw [er17] at hr17 ⊢
              refine x_if_eq (tgt := 66) C ⟨by decide, by decide⟩ dX8_added5_20 (by decide) (fun _ => ?_) (fun h => absurd h (by decide))
              refine lv_iload_n C.1 C.2.1 dX8_added5_66 rfl (lv_at hl 0 rfl) ?_
              subst hQQ; exact x_ireturn C hr hlk hw hS (rg_toInt _) rfl (by refine ⟨hx45, Or.inr ⟨qz45, by show chP b n (qT b n 0) oPl i = _; rw [← hq]; exact lp_no hop eq45, hf45⟩⟩) dX8_added5_67
          · have hw : Wo g MM H := em17 ▸ hw
            rw [er17]
            refine x_if_eq (tgt := 66) C ⟨by decide, by decide⟩ dX8_added5_20 (by decide) (fun _ => ?_) (fun h => absurd h (by decide))
            refine lv_iload_n C.1 C.2.1 dX8_added5_66 rfl (lv_at hl 1 rfl) ?_
            subst hQQ; exact x_ireturn C hr hlk hw hS gx rfl (by refine ⟨hx, Or.inl ⟨c1, j, by show chP b n (qT b n 0) oPl i = _; rw [← hq]; exact lp_end (decide_eq_false (by omega)), hs2, hvx⟩⟩) dX8_added5_67
    exact L5 _ 161 y1 j1 r1 M1 (Nat.lt_succ_self _) (by have := hs1.1.2; have := hs1.1.1.2.2.1; omega) (by omega) (by have := hs1.1.1.2.2.1; omega) hs1 ((ch_ok eq1).symm) hx1 hk1.1 hr1 hv1 _ _ _ hw hS (lv_sub hl [1, 0] rfl)
  · have g_M1 := hw.rg
    obtain ⟨qz1, eq1, hf1⟩ := h1b
    have hx1 := (MX.rfl').tr h1f
    refine lv_istore_n (lv' := [(1, .int (II r1)), (0, .ref (gA g 70))]) C.1 C.2.1 dX8_added5_4 rfl hl (by decide) rfl (fun ls hl => ?_)
    refine lv_aload_n C.1 C.2.1 dX8_added5_5 rfl (lv_at hl 1 rfl) ?_
    refine lv_bipush (v := II 43) C.1 C.2.1 dX8_added5_6 (by decide) ?_
    refine x_ci (x_runV (n := 1) C hw hS hml hl.1 70 8 (by omega) rfl (by decide) rfl (c_X8_isSign1 l g M1 hF hf1.1 43 ⟨by decide, by decide⟩) mw_1079 mw_1081 mw_78 mw_130 mw_1082 rfl rfl (by decide +kernel) ⟨Nat.le_of_ble_eq_true rfl, Nat.le_of_ble_eq_true rfl⟩ rfl rfl (Nat.le_of_ble_eq_true rfl) dX8_added5_8 ⟨Nat.zero_le _, Nat.zero_le _⟩) hS (fun r8 M8 H locs hr8 hp hw hS => ?_)
    obtain ⟨em8, er8⟩ := hp
    have hw : Wo g M1 H := em8 ▸ hw
    rw [er8] at hr8 ⊢
    refine x_if_ne (tgt := 23) C ⟨by decide, by decide⟩ dX8_added5_11 (by decide) (fun h => absurd h (by decide)) (fun _ => ?_)
    refine lv_aload_n C.1 C.2.1 dX8_added5_14 rfl (lv_at hl 1 rfl) ?_
    refine lv_bipush (v := II 45) C.1 C.2.1 dX8_added5_15 (by decide) ?_
    refine x_ci (x_runV (n := 1) C hw hS hml hl.1 70 8 (by omega) rfl (by decide) rfl (c_X8_isSign1 l g M1 hF hf1.1 45 ⟨by decide, by decide⟩) mw_1079 mw_1081 mw_78 mw_130 mw_1082 rfl rfl (by decide +kernel) ⟨Nat.le_of_ble_eq_true rfl, Nat.le_of_ble_eq_true rfl⟩ rfl rfl (Nat.le_of_ble_eq_true rfl) dX8_added5_17 ⟨Nat.zero_le _, Nat.zero_le _⟩) hS (fun r17 M17 H locs hr17 hp hw hS => ?_)
    obtain ⟨em17, er17⟩ := hp
    have hw : Wo g M1 H := em17 ▸ hw
    rw [er17] at hr17 ⊢
    refine x_if_eq (tgt := 66) C ⟨by decide, by decide⟩ dX8_added5_20 (by decide) (fun _ => ?_) (fun h => absurd h (by decide))
    refine lv_iload_n C.1 C.2.1 dX8_added5_66 rfl (lv_at hl 0 rfl) ?_
    subst hQQ; exact x_ireturn C hr hlk hw hS hr1 rfl (by refine ⟨hx1, Or.inr ⟨qz1, by show chP b n (qT b n 0) oPl i = _; exact ch_no eq1, hf1⟩⟩) dX8_added5_67

set_option maxHeartbeats 4000000 in
set_option maxRecDepth 100000 in
theorem c_X8_not5 (l : Launch) (g : Gm) (M : Nat → Int) (hF : LvF g) (nm : Nat → Int) (hnm : NMS M nm) (b : Nat → Int) (n : Nat) (f : Nat) (i : Nat) (hs : MS M b n f i 5) : CI l ({ cls := "RatedBySighsModel", name := "not5", desc := "()I" } : Jvm.MethodName) cX8_not5 4 .int (rmm 7 156) g M [.ref (gA g 70)] (fun r M' => (MX M M') ∧ (((∃ c j, qN b n 0 i = .inr (c, j) ∧ MS M' b n f j 5 ∧ r = vC nm c)) ∨ ((∃ q, qN b n 0 i = .inl q ∧ MF M' q 5)))) := by
  refine c_start (by decide) (Nat.le_of_ble_eq_true rfl) (fun p e s m below meth c ls C hr hlk hml hw hS hl => ?_)
  have hl : lv_has ls 4 [(0, .ref (gA g 70))] := hl
  have g_M := hw.rg
  have hN : gN g = 84 := hF.1
  have hi3 := mT_in (b := b) (n := n) (i := i)
  have hsg := sgT_in (x := b (tS b n i))
  have hwd := wdT_in (b := b) (s := tS b n i) (e := tE b n i)
  refine lv_aload_n C.1 C.2.1 dX8_not5_0 rfl (lv_at hl 0 rfl) ?_
  refine lv_bipush (v := II 110) C.1 C.2.1 dX8_not5_1 (by decide) ?_
  refine lv_bipush (v := II 111) C.1 C.2.1 dX8_not5_3 (by decide) ?_
  refine lv_bipush (v := II 116) C.1 C.2.1 dX8_not5_5 (by decide) ?_
  refine lv_iconst (v := II 0) C.1 C.2.1 dX8_not5_7 rfl ?_
  refine lv_iconst (v := II 0) C.1 C.2.1 dX8_not5_8 rfl ?_
  refine lv_iconst (v := II 0) C.1 C.2.1 dX8_not5_9 rfl ?_
  refine lv_iconst (v := II 0) C.1 C.2.1 dX8_not5_10 rfl ?_
  refine lv_iconst (v := II 0) C.1 C.2.1 dX8_not5_11 rfl ?_
  refine x_ci (x_runV (n := 8) C hw hS hml hl.1 70 8 (by omega) rfl (by decide) rfl (c_X8_isWord0 l g M hF b n f i 5 hs [110, 111, 116] (-8) 110 ⟨by decide, by decide⟩ 111 ⟨by decide, by decide⟩ 116 ⟨by decide, by decide⟩ 0 ⟨by decide, by decide⟩ 0 ⟨by decide, by decide⟩ 0 ⟨by decide, by decide⟩ 0 ⟨by decide, by decide⟩ 0 ⟨by decide, by decide⟩ (by decide) wd_not) mw_1015 mw_1017 mw_62 mw_130 mw_1018 rfl rfl (by decide +kernel) ⟨Nat.le_of_ble_eq_true rfl, Nat.le_of_ble_eq_true rfl⟩ rfl rfl (Nat.le_of_ble_eq_true rfl) dX8_not5_12 ⟨Nat.zero_le _, Nat.zero_le _⟩) hS (fun r12 M12 H locs hr12 hp hw hS => ?_)
  rcases hp with ⟨em12, (⟨er12, h12b⟩ | ⟨er12, h12b⟩)⟩
  · have hw : Wo g M H := em12 ▸ hw
    rw [er12]
    obtain ⟨hm12, -⟩ := (wrd_iff (b := b) (n := n) (i := i) wd_not).mp h12b
    refine x_if_eq (tgt := 25) C ⟨by decide, by decide⟩ dX8_not5_15 (by decide) (fun h => absurd h (by decide)) (fun _ => ?_)
    refine lv_aload_n C.1 C.2.1 dX8_not5_18 rfl (lv_at hl 0 rfl) ?_
    refine x_ci (x_runV (n := 0) C hw hS hml hl.1 70 8 (by omega) rfl (by decide) rfl (c_X8_opens5 l g M hF b n f i hs) mw_1043 mw_1045 mw_69 mw_130 mw_1046 rfl rfl (by decide +kernel) ⟨Nat.le_of_ble_eq_true rfl, Nat.le_of_ble_eq_true rfl⟩ rfl rfl (Nat.le_of_ble_eq_true rfl) dX8_not5_19 ⟨Nat.zero_le _, Nat.zero_le _⟩) hS (fun r19 M19 H locs hr19 hp hw hS => ?_)
    obtain ⟨em19, er19⟩ := hp
    have hw : Wo g (stM (stM M 70025 1) 70026 ((tS b n i : Nat) : Int)) H := em19 ▸ hw
    rw [er19] at hr19 ⊢
    have hf19 := hs.fl
    refine lv_pop C.1 C.2.1 dX8_not5_22 rfl ?_
    refine lv_iconst (v := II 0) C.1 C.2.1 dX8_not5_23 rfl ?_
    exact x_ireturn C hr hlk hw hS ⟨by decide, by decide⟩ rfl (by refine ⟨((MX.rfl'.st (by decide)).st (by decide)), Or.inr ⟨(tS b n i), by rw [qN_0]; exact pN_notf h12b, hf19⟩⟩) dX8_not5_24
  · have hw : Wo g M H := em12 ▸ hw
    rw [er12]
    refine x_if_eq (tgt := 25) C ⟨by decide, by decide⟩ dX8_not5_15 (by decide) (fun _ => ?_) (fun h => absurd h (by decide))
    refine lv_aload_n C.1 C.2.1 dX8_not5_25 rfl (lv_at hl 0 rfl) ?_
    refine x_ci (x_runV (n := 0) C hw hS hml hl.1 70 8 (by omega) rfl (by decide) rfl (c_X8_added5 l g M hF nm (hnm.mx MX.rfl') b n f i hs) mw_1067 mw_1069 mw_75 mw_130 mw_1070 rfl rfl (by decide +kernel) ⟨Nat.le_of_ble_eq_true rfl, Nat.le_of_ble_eq_true rfl⟩ rfl rfl (Nat.le_of_ble_eq_true rfl) dX8_not5_26 ⟨Nat.zero_le _, Nat.zero_le _⟩) hS (fun r26 M26 H locs hr26 hp hw hS => ?_)
    rcases hp with ⟨h26f, (h26b | h26b)⟩
    · have g_M26 := hw.rg
      obtain ⟨y26, j26, eq26, hs26, hv26⟩ := h26b
      have hx26 := (MX.rfl').tr h26f
      have hk26 := (ok_qS b n 0).r hs.1.2 eq26
      refine lv_istore_n (lv' := [(1, .int (II r26)), (0, .ref (gA g 70))]) C.1 C.2.1 dX8_not5_29 rfl hl (by decide) rfl (fun ls hl => ?_)
      refine lv_aload_n C.1 C.2.1 dX8_not5_30 rfl (lv_at hl 1 rfl) ?_
      refine lv_bipush (v := II 60) C.1 C.2.1 dX8_not5_31 (by decide) ?_
      refine x_ci (x_runV (n := 1) C hw hS hml hl.1 70 8 (by omega) rfl (by decide) rfl (c_X8_isSign0 l g M26 hF b n f j26 5 hs26 60 ⟨by decide, by decide⟩ (-11) (by decide)) mw_1079 mw_1081 mw_78 mw_130 mw_1082 rfl rfl (by decide +kernel) ⟨Nat.le_of_ble_eq_true rfl, Nat.le_of_ble_eq_true rfl⟩ rfl rfl (Nat.le_of_ble_eq_true rfl) dX8_not5_33 ⟨Nat.zero_le _, Nat.zero_le _⟩) hS (fun r33 M33 H locs hr33 hp hw hS => ?_)
      rcases hp with ⟨em33, (⟨er33, h33b⟩ | ⟨er33, h33b⟩)⟩
      · have hw : Wo g M26 H := em33 ▸ hw
        rw [er33]
        obtain ⟨hm33, hw33⟩ := (sgn_iff (b := b) (n := n) (i := j26) (x := 60) (tk := (-11)) (by decide) (by decide)).mp h33b
        refine x_if_ne (tgt := 50) C ⟨by decide, by decide⟩ dX8_not5_36 (by decide) (fun _ => ?_) (fun h => absurd h (by decide))
        refine lv_aload_n C.1 C.2.1 dX8_not5_50 rfl (lv_at hl 1 rfl) ?_
        refine g8 C hw 70 (by omega) rfl 23 (by decide) mw_847 (svl (x := 60) ((hs26.2.1.2.2.2.2 (by omega)).trans hw33)) dX8_not5_51 ?_
        refine lv_ldc2 C.1 C.2.1 C.2.2.1 (C.2.2.2.1 _ mw_1088) dX8_not5_54 ?_
        rw [show (60 : Int64) = LL 60 from by decide]
        refine x_lcmp C ⟨by decide, by decide⟩ ⟨by decide, by decide⟩ dX8_not5_57 ?_
        rw [show cmpI 60 60 = 0 from by decide]
        refine x_if_ne (tgt := 65) C ⟨by decide, by decide⟩ dX8_not5_58 (by decide) (fun h => absurd h (by decide)) (fun _ => ?_)
        refine lv_iconst (v := II 1) C.1 C.2.1 dX8_not5_61 rfl ?_
        refine lv_goto (tgt := 66) C.1 C.2.1 dX8_not5_62 (by decide) ?_
        refine lv_istore_n (lv' := [(2, .int (II 1)), (1, .int (II r26)), (0, .ref (gA g 70))]) C.1 C.2.1 dX8_not5_66 rfl hl (by decide) rfl (fun ls hl => ?_)
        refine lv_aload_n C.1 C.2.1 dX8_not5_67 rfl (lv_at hl 2 rfl) ?_
        have hi9 := mT_in (b := b) (n := n) (i := j26)
        refine x_cv (x_runV (n := 0) C hw hS hml hl.1 70 8 (by omega) rfl (by decide) rfl (c_X8_next l g M26 hF b n f hs26.1.1 (tE b n j26) (tE_in hs26.1.2).2.1 (hs26.2.1.2.2.1 (by omega))) mw_1003 mw_1005 mw_60 mw_130 mw_1006 rfl rfl (by decide +kernel) ⟨Nat.le_of_ble_eq_true rfl, Nat.le_of_ble_eq_true rfl⟩ rfl rfl (Nat.le_of_ble_eq_true rfl) dX8_not5_68 ⟨Nat.zero_le _, Nat.zero_le _⟩) hS (fun M68 H locs hp hw hS => ?_)
        have h68p := hp
        have g_M68 := hw.rg
        have hs68 := hs26.next h68p
        have ht68 := tK_7 (b := b) hs26.1.2 (by omega)
        have hx68 := (hx26).tr h68p.mx
        refine lv_aload_n C.1 C.2.1 dX8_not5_71 rfl (lv_at hl 2 rfl) ?_
        refine x_ci (x_runV (n := 0) C hw hS hml hl.1 70 8 (by omega) rfl (by decide) rfl (c_X8_added5 l g M68 hF nm (hnm.mx hx68) b n f (tE b n j26) hs68) mw_1067 mw_1069 mw_75 mw_130 mw_1070 rfl rfl (by decide +kernel) ⟨Nat.le_of_ble_eq_true rfl, Nat.le_of_ble_eq_true rfl⟩ rfl rfl (Nat.le_of_ble_eq_true rfl) dX8_not5_72 ⟨Nat.zero_le _, Nat.zero_le _⟩) hS (fun r72 M72 H locs hr72 hp hw hS => ?_)
        rcases hp with ⟨h72f, (h72b | h72b)⟩
        · have g_M72 := hw.rg
          obtain ⟨y72, j72, eq72, hs72, hv72⟩ := h72b
          have hx72 := (hx68).tr h72f
          have hk72 := (ok_qS b n 0).r hs68.1.2 eq72
          refine lv_istore_n (lv' := [(3, .int (II r72)), (2, .int (II 1)), (1, .int (II r26)), (0, .ref (gA g 70))]) C.1 C.2.1 dX8_not5_75 rfl hl (by decide) rfl (fun ls hl => ?_)
          refine lv_iload_n C.1 C.2.1 dX8_not5_76 rfl (lv_at hl 1 rfl) ?_
          refine x_if_eq (tgt := 88) C ⟨by decide, by decide⟩ dX8_not5_77 (by decide) (fun h => absurd h (by decide)) (fun _ => ?_)
          refine lv_iload_n C.1 C.2.1 dX8_not5_80 rfl (lv_at hl 2 rfl) ?_
          refine lv_iload_n C.1 C.2.1 dX8_not5_81 rfl (lv_at hl 0 rfl) ?_
          refine x_icmp_ge (tgt := 97) C hr26 hr72 dX8_not5_82 (by decide) (fun c82 => ?_) (fun c82 => ?_)
          · refine lv_iconst (v := II 0) C.1 C.2.1 dX8_not5_97 rfl ?_
            exact x_ireturn C hr hlk hw hS ⟨by decide, by decide⟩ rfl (by refine ⟨hx72, Or.inl ⟨y26 ++ y72 ++ [tK b n j26], j72, by rw [qN_0]; exact pN_two h12b eq26 (by omega) eq72, hs72, by rw [(gd_op hk26.1 hk72.1 (show tK b n j26 < -8 by omega)).2, h33b, jk_11, ← hv26, ← hv72]; first | (rw [if_pos (by omega)]; done) | (rw [if_neg (by omega)]; done)⟩⟩) dX8_not5_98
          · refine lv_goto (tgt := 93) C.1 C.2.1 dX8_not5_85 (by decide) ?_
            refine lv_iconst (v := II 1) C.1 C.2.1 dX8_not5_93 rfl ?_
            refine lv_goto (tgt := 98) C.1 C.2.1 dX8_not5_94 (by decide) ?_
            exact x_ireturn C hr hlk hw hS ⟨by decide, by decide⟩ rfl (by refine ⟨hx72, Or.inl ⟨y26 ++ y72 ++ [tK b n j26], j72, by rw [qN_0]; exact pN_two h12b eq26 (by omega) eq72, hs72, by rw [(gd_op hk26.1 hk72.1 (show tK b n j26 < -8 by omega)).2, h33b, jk_11, ← hv26, ← hv72]; first | (rw [if_pos (by omega)]; done) | (rw [if_neg (by omega)]; done)⟩⟩) dX8_not5_98
        · have g_M72 := hw.rg
          obtain ⟨qz72, eq72, hf72⟩ := h72b
          have hx72 := (hx68).tr h72f
          refine lv_istore_n (lv' := [(3, .int (II r72)), (2, .int (II 1)), (1, .int (II r26)), (0, .ref (gA g 70))]) C.1 C.2.1 dX8_not5_75 rfl hl (by decide) rfl (fun ls hl => ?_)
          refine lv_iload_n C.1 C.2.1 dX8_not5_76 rfl (lv_at hl 1 rfl) ?_
          refine x_if_eq (tgt := 88) C ⟨by decide, by decide⟩ dX8_not5_77 (by decide) (fun h => absurd h (by decide)) (fun _ => ?_)
          refine lv_iload_n C.1 C.2.1 dX8_not5_80 rfl (lv_at hl 2 rfl) ?_
          refine lv_iload_n C.1 C.2.1 dX8_not5_81 rfl (lv_at hl 0 rfl) ?_
          refine x_icmp_ge (tgt := 97) C hr26 hr72 dX8_not5_82 (by decide) (fun c82 => ?_) (fun c82 => ?_)
          · refine lv_iconst (v := II 0) C.1 C.2.1 dX8_not5_97 rfl ?_
            exact x_ireturn C hr hlk hw hS ⟨by decide, by decide⟩ rfl (by refine ⟨hx72, Or.inr ⟨qz72, by rw [qN_0]; exact pN_twon h12b eq26 (by omega) eq72, hf72⟩⟩) dX8_not5_98
          · refine lv_goto (tgt := 93) C.1 C.2.1 dX8_not5_85 (by decide) ?_
            refine lv_iconst (v := II 1) C.1 C.2.1 dX8_not5_93 rfl ?_
            refine lv_goto (tgt := 98) C.1 C.2.1 dX8_not5_94 (by decide) ?_
            exact x_ireturn C hr hlk hw hS ⟨by decide, by decide⟩ rfl (by refine ⟨hx72, Or.inr ⟨qz72, by rw [qN_0]; exact pN_twon h12b eq26 (by omega) eq72, hf72⟩⟩) dX8_not5_98
      · have hw : Wo g M26 H := em33 ▸ hw
        rw [er33]
        refine x_if_ne (tgt := 50) C ⟨by decide, by decide⟩ dX8_not5_36 (by decide) (fun h => absurd h (by decide)) (fun _ => ?_)
        refine lv_aload_n C.1 C.2.1 dX8_not5_39 rfl (lv_at hl 1 rfl) ?_
        refine lv_bipush (v := II 61) C.1 C.2.1 dX8_not5_40 (by decide) ?_
        refine x_ci (x_runV (n := 1) C hw hS hml hl.1 70 8 (by omega) rfl (by decide) rfl (c_X8_isSign0 l g M26 hF b n f j26 5 hs26 61 ⟨by decide, by decide⟩ (-12) (by decide)) mw_1079 mw_1081 mw_78 mw_130 mw_1082 rfl rfl (by decide +kernel) ⟨Nat.le_of_ble_eq_true rfl, Nat.le_of_ble_eq_true rfl⟩ rfl rfl (Nat.le_of_ble_eq_true rfl) dX8_not5_42 ⟨Nat.zero_le _, Nat.zero_le _⟩) hS (fun r42 M42 H locs hr42 hp hw hS => ?_)
        rcases hp with ⟨em42, (⟨er42, h42b⟩ | ⟨er42, h42b⟩)⟩
        · have hw : Wo g M26 H := em42 ▸ hw
          rw [er42]
          obtain ⟨hm42, hw42⟩ := (sgn_iff (b := b) (n := n) (i := j26) (x := 61) (tk := (-12)) (by decide) (by decide)).mp h42b
          refine x_if_ne (tgt := 50) C ⟨by decide, by decide⟩ dX8_not5_45 (by decide) (fun _ => ?_) (fun h => absurd h (by decide))
          refine lv_aload_n C.1 C.2.1 dX8_not5_50 rfl (lv_at hl 1 rfl) ?_
          refine g8 C hw 70 (by omega) rfl 23 (by decide) mw_847 (svl (x := 61) ((hs26.2.1.2.2.2.2 (by omega)).trans hw42)) dX8_not5_51 ?_
          refine lv_ldc2 C.1 C.2.1 C.2.2.1 (C.2.2.2.1 _ mw_1088) dX8_not5_54 ?_
          rw [show (60 : Int64) = LL 60 from by decide]
          refine x_lcmp C ⟨by decide, by decide⟩ ⟨by decide, by decide⟩ dX8_not5_57 ?_
          rw [show cmpI 61 60 = 1 from by decide]
          refine x_if_ne (tgt := 65) C ⟨by decide, by decide⟩ dX8_not5_58 (by decide) (fun _ => ?_) (fun h => absurd h (by decide))
          refine lv_iconst (v := II 0) C.1 C.2.1 dX8_not5_65 rfl ?_
          refine lv_istore_n (lv' := [(2, .int (II 0)), (1, .int (II r26)), (0, .ref (gA g 70))]) C.1 C.2.1 dX8_not5_66 rfl hl (by decide) rfl (fun ls hl => ?_)
          refine lv_aload_n C.1 C.2.1 dX8_not5_67 rfl (lv_at hl 2 rfl) ?_
          have hi9 := mT_in (b := b) (n := n) (i := j26)
          refine x_cv (x_runV (n := 0) C hw hS hml hl.1 70 8 (by omega) rfl (by decide) rfl (c_X8_next l g M26 hF b n f hs26.1.1 (tE b n j26) (tE_in hs26.1.2).2.1 (hs26.2.1.2.2.1 (by omega))) mw_1003 mw_1005 mw_60 mw_130 mw_1006 rfl rfl (by decide +kernel) ⟨Nat.le_of_ble_eq_true rfl, Nat.le_of_ble_eq_true rfl⟩ rfl rfl (Nat.le_of_ble_eq_true rfl) dX8_not5_68 ⟨Nat.zero_le _, Nat.zero_le _⟩) hS (fun M68 H locs hp hw hS => ?_)
          have h68p := hp
          have g_M68 := hw.rg
          have hs68 := hs26.next h68p
          have ht68 := tK_7 (b := b) hs26.1.2 (by omega)
          have hx68 := (hx26).tr h68p.mx
          refine lv_aload_n C.1 C.2.1 dX8_not5_71 rfl (lv_at hl 2 rfl) ?_
          refine x_ci (x_runV (n := 0) C hw hS hml hl.1 70 8 (by omega) rfl (by decide) rfl (c_X8_added5 l g M68 hF nm (hnm.mx hx68) b n f (tE b n j26) hs68) mw_1067 mw_1069 mw_75 mw_130 mw_1070 rfl rfl (by decide +kernel) ⟨Nat.le_of_ble_eq_true rfl, Nat.le_of_ble_eq_true rfl⟩ rfl rfl (Nat.le_of_ble_eq_true rfl) dX8_not5_72 ⟨Nat.zero_le _, Nat.zero_le _⟩) hS (fun r72 M72 H locs hr72 hp hw hS => ?_)
          rcases hp with ⟨h72f, (h72b | h72b)⟩
          · have g_M72 := hw.rg
            obtain ⟨y72, j72, eq72, hs72, hv72⟩ := h72b
            have hx72 := (hx68).tr h72f
            have hk72 := (ok_qS b n 0).r hs68.1.2 eq72
            refine lv_istore_n (lv' := [(3, .int (II r72)), (2, .int (II 0)), (1, .int (II r26)), (0, .ref (gA g 70))]) C.1 C.2.1 dX8_not5_75 rfl hl (by decide) rfl (fun ls hl => ?_)
            refine lv_iload_n C.1 C.2.1 dX8_not5_76 rfl (lv_at hl 1 rfl) ?_
            refine x_if_eq (tgt := 88) C ⟨by decide, by decide⟩ dX8_not5_77 (by decide) (fun _ => ?_) (fun h => absurd h (by decide))
            refine lv_iload_n C.1 C.2.1 dX8_not5_88 rfl (lv_at hl 2 rfl) ?_
            refine lv_iload_n C.1 C.2.1 dX8_not5_89 rfl (lv_at hl 0 rfl) ?_
            refine x_icmp_ne (tgt := 97) C hr26 hr72 dX8_not5_90 (by decide) (fun c90 => ?_) (fun c90 => ?_)
            · refine lv_iconst (v := II 0) C.1 C.2.1 dX8_not5_97 rfl ?_
              exact x_ireturn C hr hlk hw hS ⟨by decide, by decide⟩ rfl (by refine ⟨hx72, Or.inl ⟨y26 ++ y72 ++ [tK b n j26], j72, by rw [qN_0]; exact pN_two h12b eq26 (by omega) eq72, hs72, by rw [(gd_op hk26.1 hk72.1 (show tK b n j26 < -8 by omega)).2, h42b, jk_12, ← hv26, ← hv72]; first | (rw [if_pos (by omega)]; done) | (rw [if_neg (by omega)]; done)⟩⟩) dX8_not5_98
            · refine lv_iconst (v := II 1) C.1 C.2.1 dX8_not5_93 rfl ?_
              refine lv_goto (tgt := 98) C.1 C.2.1 dX8_not5_94 (by decide) ?_
              exact x_ireturn C hr hlk hw hS ⟨by decide, by decide⟩ rfl (by refine ⟨hx72, Or.inl ⟨y26 ++ y72 ++ [tK b n j26], j72, by rw [qN_0]; exact pN_two h12b eq26 (by omega) eq72, hs72, by rw [(gd_op hk26.1 hk72.1 (show tK b n j26 < -8 by omega)).2, h42b, jk_12, ← hv26, ← hv72]; first | (rw [if_pos (by omega)]; done) | (rw [if_neg (by omega)]; done)⟩⟩) dX8_not5_98
          · have g_M72 := hw.rg
            obtain ⟨qz72, eq72, hf72⟩ := h72b
            have hx72 := (hx68).tr h72f
            refine lv_istore_n (lv' := [(3, .int (II r72)), (2, .int (II 0)), (1, .int (II r26)), (0, .ref (gA g 70))]) C.1 C.2.1 dX8_not5_75 rfl hl (by decide) rfl (fun ls hl => ?_)
            refine lv_iload_n C.1 C.2.1 dX8_not5_76 rfl (lv_at hl 1 rfl) ?_
            refine x_if_eq (tgt := 88) C ⟨by decide, by decide⟩ dX8_not5_77 (by decide) (fun _ => ?_) (fun h => absurd h (by decide))
            refine lv_iload_n C.1 C.2.1 dX8_not5_88 rfl (lv_at hl 2 rfl) ?_
            refine lv_iload_n C.1 C.2.1 dX8_not5_89 rfl (lv_at hl 0 rfl) ?_
            refine x_icmp_ne (tgt := 97) C hr26 hr72 dX8_not5_90 (by decide) (fun c90 => ?_) (fun c90 => ?_)
            · refine lv_iconst (v := II 0) C.1 C.2.1 dX8_not5_97 rfl ?_
              exact x_ireturn C hr hlk hw hS ⟨by decide, by decide⟩ rfl (by refine ⟨hx72, Or.inr ⟨qz72, by rw [qN_0]; exact pN_twon h12b eq26 (by omega) eq72, hf72⟩⟩) dX8_not5_98
            · refine lv_iconst (v := II 1) C.1 C.2.1 dX8_not5_93 rfl ?_
              refine lv_goto (tgt := 98) C.1 C.2.1 dX8_not5_94 (by decide) ?_
              exact x_ireturn C hr hlk hw hS ⟨by decide, by decide⟩ rfl (by refine ⟨hx72, Or.inr ⟨qz72, by rw [qN_0]; exact pN_twon h12b eq26 (by omega) eq72, hf72⟩⟩) dX8_not5_98
        · have hw : Wo g M26 H := em42 ▸ hw
          rw [er42]
          refine x_if_ne (tgt := 50) C ⟨by decide, by decide⟩ dX8_not5_45 (by decide) (fun h => absurd h (by decide)) (fun _ => ?_)
          refine lv_iload_n C.1 C.2.1 dX8_not5_48 rfl (lv_at hl 0 rfl) ?_
          exact x_ireturn C hr hlk hw hS hr26 rfl (by refine ⟨hx26, Or.inl ⟨y26, j26, by rw [qN_0]; exact pN_one h12b eq26 (by omega), hs26, hv26⟩⟩) dX8_not5_49
    · have g_M26 := hw.rg
      obtain ⟨qz26, eq26, hf26⟩ := h26b
      have hx26 := (MX.rfl').tr h26f
      refine lv_istore_n (lv' := [(1, .int (II r26)), (0, .ref (gA g 70))]) C.1 C.2.1 dX8_not5_29 rfl hl (by decide) rfl (fun ls hl => ?_)
      refine lv_aload_n C.1 C.2.1 dX8_not5_30 rfl (lv_at hl 1 rfl) ?_
      refine lv_bipush (v := II 60) C.1 C.2.1 dX8_not5_31 (by decide) ?_
      refine x_ci (x_runV (n := 1) C hw hS hml hl.1 70 8 (by omega) rfl (by decide) rfl (c_X8_isSign1 l g M26 hF hf26.1 60 ⟨by decide, by decide⟩) mw_1079 mw_1081 mw_78 mw_130 mw_1082 rfl rfl (by decide +kernel) ⟨Nat.le_of_ble_eq_true rfl, Nat.le_of_ble_eq_true rfl⟩ rfl rfl (Nat.le_of_ble_eq_true rfl) dX8_not5_33 ⟨Nat.zero_le _, Nat.zero_le _⟩) hS (fun r33 M33 H locs hr33 hp hw hS => ?_)
      obtain ⟨em33, er33⟩ := hp
      have hw : Wo g M26 H := em33 ▸ hw
      rw [er33] at hr33 ⊢
      refine x_if_ne (tgt := 50) C ⟨by decide, by decide⟩ dX8_not5_36 (by decide) (fun h => absurd h (by decide)) (fun _ => ?_)
      refine lv_aload_n C.1 C.2.1 dX8_not5_39 rfl (lv_at hl 1 rfl) ?_
      refine lv_bipush (v := II 61) C.1 C.2.1 dX8_not5_40 (by decide) ?_
      refine x_ci (x_runV (n := 1) C hw hS hml hl.1 70 8 (by omega) rfl (by decide) rfl (c_X8_isSign1 l g M26 hF hf26.1 61 ⟨by decide, by decide⟩) mw_1079 mw_1081 mw_78 mw_130 mw_1082 rfl rfl (by decide +kernel) ⟨Nat.le_of_ble_eq_true rfl, Nat.le_of_ble_eq_true rfl⟩ rfl rfl (Nat.le_of_ble_eq_true rfl) dX8_not5_42 ⟨Nat.zero_le _, Nat.zero_le _⟩) hS (fun r42 M42 H locs hr42 hp hw hS => ?_)
      obtain ⟨em42, er42⟩ := hp
      have hw : Wo g M26 H := em42 ▸ hw
      rw [er42] at hr42 ⊢
      refine x_if_ne (tgt := 50) C ⟨by decide, by decide⟩ dX8_not5_45 (by decide) (fun h => absurd h (by decide)) (fun _ => ?_)
      refine lv_iload_n C.1 C.2.1 dX8_not5_48 rfl (lv_at hl 0 rfl) ?_
      exact x_ireturn C hr hlk hw hS hr26 rfl (by refine ⟨hx26, Or.inr ⟨qz26, by rw [qN_0]; exact pN_no h12b eq26, hf26⟩⟩) dX8_not5_49

set_option maxHeartbeats 4000000 in
set_option maxRecDepth 100000 in
theorem c_X8_both5 (l : Launch) (g : Gm) (M : Nat → Int) (hF : LvF g) (nm : Nat → Int) (hnm : NMS M nm) (b : Nat → Int) (n : Nat) (f : Nat) (i : Nat) (hs : MS M b n f i 5) : CI l ({ cls := "RatedBySighsModel", name := "both5", desc := "()I" } : Jvm.MethodName) cX8_both5 3 .int (rmm 8 179) g M [.ref (gA g 70)] (fun r M' => (MX M M') ∧ (((∃ c j, qA b n 0 i = .inr (c, j) ∧ MS M' b n f j 5 ∧ r = vC nm c)) ∨ ((∃ q, qA b n 0 i = .inl q ∧ MF M' q 5)))) := by
  refine c_start (by decide) (Nat.le_of_ble_eq_true rfl) (fun p e s m below meth c ls C hr hlk hml hw hS hl => ?_)
  have hl : lv_has ls 3 [(0, .ref (gA g 70))] := hl
  generalize ([.ref (gA g 70)] : List Value).toArray = args at C ⊢
  generalize hQQ : MQ below (postI g (fun r M' => (MX M M') ∧ (((∃ c j, qA b n 0 i = .inr (c, j) ∧ MS M' b n f j 5 ∧ r = vC nm c)) ∨ ((∃ q, qA b n 0 i = .inl q ∧ MF M' q 5))))) args s 0 0 (ar g) = QQ
  have g_M := hw.rg
  have hN : gN g = 84 := hF.1
  refine lv_aload_n C.1 C.2.1 dX8_both5_0 rfl (lv_at hl 0 rfl) ?_
  refine x_ci (x_runV (n := 0) C hw hS hml hl.1 70 8 (by omega) rfl (by decide) rfl (c_X8_not5 l g M hF nm (hnm.mx MX.rfl') b n f i hs) mw_1063 mw_1065 mw_74 mw_130 mw_1066 rfl rfl (by decide +kernel) ⟨Nat.le_of_ble_eq_true rfl, Nat.le_of_ble_eq_true rfl⟩ rfl rfl (Nat.le_of_ble_eq_true rfl) dX8_both5_1 ⟨Nat.zero_le _, Nat.zero_le _⟩) hS (fun r1 M1 H locs hr1 hp hw hS => ?_)
  rcases hp with ⟨h1f, (h1b | h1b)⟩
  · have g_M1 := hw.rg
    obtain ⟨y1, j1, eq1, hs1, hv1⟩ := h1b
    have hx1 := (MX.rfl').tr h1f
    have hk1 := (ok_qN b n 0).r hs.1.2 eq1
    refine lv_istore_n (lv' := [(1, .int (II r1)), (0, .ref (gA g 70))]) C.1 C.2.1 dX8_both5_4 rfl hl (by decide) rfl (fun ls hl => ?_)
    have L5 : ∀ (f1 : Nat) (fu : Nat) (c1 : List Int) (j : Nat) (x : Int) (MM : Nat → Int), (n - j) < f1 → (j ≤ n ∧ n ≤ 160) → (i ≤ j) → (n - j < fu) → (MS MM b n f j 5) → (lpP b n (qN b n 0) oAn fu c1 j = chP b n (qN b n 0) oAn i) → (MX M MM) → (gdC c1) → (rg x) → (x = vC nm c1) → ∀ (H : Heap) (locs : List Loc) (ls : Array Slot), Wo g MM H → va_S (ar g) s.heap H locs → lv_has ls 3 [(0, .ref (gA g 70)), (1, .int (II x))] → W p l e (rmm 8 179) s m args below meth c H locs 0 0 QQ (F0 m 5 ls []) := by
      intro f1
      induction f1 with
      | zero => intro fu c1 j x MM hmu; exact absurd hmu (Nat.not_lt_zero _)
      | succ f1 ih =>
        intro fu c1 j x MM hmu h1 hi0 hfu hs2 hq hx hg gx hvx H locs ls hw hS hl
        have ih5 := ih
        have g_MM := hw.rg
        refine lv_aload_n C.1 C.2.1 dX8_both5_5 rfl (lv_at hl 0 rfl) ?_
        refine lv_bipush (v := II 97) C.1 C.2.1 dX8_both5_6 (by decide) ?_
        refine lv_bipush (v := II 110) C.1 C.2.1 dX8_both5_8 (by decide) ?_
        refine lv_bipush (v := II 100) C.1 C.2.1 dX8_both5_10 (by decide) ?_
        refine lv_iconst (v := II 0) C.1 C.2.1 dX8_both5_12 rfl ?_
        refine lv_iconst (v := II 0) C.1 C.2.1 dX8_both5_13 rfl ?_
        refine lv_iconst (v := II 0) C.1 C.2.1 dX8_both5_14 rfl ?_
        refine lv_iconst (v := II 0) C.1 C.2.1 dX8_both5_15 rfl ?_
        refine lv_iconst (v := II 0) C.1 C.2.1 dX8_both5_16 rfl ?_
        refine x_ci (x_runV (n := 8) C hw hS hml hl.1 70 8 (by omega) rfl (by decide) rfl (c_X8_isWord0 l g MM hF b n f j 5 hs2 [97, 110, 100] (-10) 97 ⟨by decide, by decide⟩ 110 ⟨by decide, by decide⟩ 100 ⟨by decide, by decide⟩ 0 ⟨by decide, by decide⟩ 0 ⟨by decide, by decide⟩ 0 ⟨by decide, by decide⟩ 0 ⟨by decide, by decide⟩ 0 ⟨by decide, by decide⟩ (by decide) wd_and) mw_1015 mw_1017 mw_62 mw_130 mw_1018 rfl rfl (by decide +kernel) ⟨Nat.le_of_ble_eq_true rfl, Nat.le_of_ble_eq_true rfl⟩ rfl rfl (Nat.le_of_ble_eq_true rfl) dX8_both5_17 ⟨Nat.zero_le _, Nat.zero_le _⟩) hS (fun r17 M17 H locs hr17 hp hw hS => ?_)
        rcases hp with ⟨em17, (⟨er17, h17b⟩ | ⟨er17, h17b⟩)⟩
        · have hw : Wo g MM H := em17 ▸ hw
          rw [er17]
          obtain ⟨hm17, -⟩ := (wrd_iff (b := b) (n := n) (i := j) wd_and).mp h17b
          obtain ⟨f2, rfl⟩ : ∃ f2, fu = f2 + 1 := ⟨fu - 1, by omega⟩
          have hop : oAn (tK b n j) = true := decide_eq_true (by omega)
          refine x_if_eq (tgt := 49) C ⟨by decide, by decide⟩ dX8_both5_20 (by decide) (fun h => absurd h (by decide)) (fun _ => ?_)
          refine lv_aload_n C.1 C.2.1 dX8_both5_23 rfl (lv_at hl 0 rfl) ?_
          have hi9 := mT_in (b := b) (n := n) (i := j)
          refine x_cv (x_runV (n := 0) C hw hS hml hl.1 70 8 (by omega) rfl (by decide) rfl (c_X8_next l g MM hF b n f hs2.1.1 (tE b n j) (tE_in hs2.1.2).2.1 (hs2.2.1.2.2.1 (by omega))) mw_1003 mw_1005 mw_60 mw_130 mw_1006 rfl rfl (by decide +kernel) ⟨Nat.le_of_ble_eq_true rfl, Nat.le_of_ble_eq_true rfl⟩ rfl rfl (Nat.le_of_ble_eq_true rfl) dX8_both5_24 ⟨Nat.zero_le _, Nat.zero_le _⟩) hS (fun M24 H locs hp hw hS => ?_)
          have h24p := hp
          have g_M24 := hw.rg
          have hs24 := hs2.next h24p
          have ht24 := tK_7 (b := b) hs2.1.2 (by omega)
          have hx24 := (hx).tr h24p.mx
          refine lv_aload_n C.1 C.2.1 dX8_both5_27 rfl (lv_at hl 0 rfl) ?_
          refine x_ci (x_runV (n := 0) C hw hS hml hl.1 70 8 (by omega) rfl (by decide) rfl (c_X8_not5 l g M24 hF nm (hnm.mx hx24) b n f (tE b n j) hs24) mw_1063 mw_1065 mw_74 mw_130 mw_1066 rfl rfl (by decide +kernel) ⟨Nat.le_of_ble_eq_true rfl, Nat.le_of_ble_eq_true rfl⟩ rfl rfl (Nat.le_of_ble_eq_true rfl) dX8_both5_28 ⟨Nat.zero_le _, Nat.zero_le _⟩) hS (fun r28 M28 H locs hr28 hp hw hS => ?_)
          rcases hp with ⟨h28f, (h28b | h28b)⟩
          · have g_M28 := hw.rg
            obtain ⟨y28, j28, eq28, hs28, hv28⟩ := h28b
            have hx28 := (hx24).tr h28f
            have hk28 := (ok_qN b n 0).r hs24.1.2 eq28
            refine lv_istore_n (lv' := [(2, .int (II r28)), (0, .ref (gA g 70)), (1, .int (II x))]) C.1 C.2.1 dX8_both5_31 rfl hl (by decide) rfl (fun ls hl => ?_)
            refine lv_iload_n C.1 C.2.1 dX8_both5_32 rfl (lv_at hl 2 rfl) ?_
            refine x_if_eq (tgt := 44) C gx dX8_both5_33 (by decide) (fun c33 => ?_) (fun c33 => ?_)
            · refine lv_iconst (v := II 0) C.1 C.2.1 dX8_both5_44 rfl ?_
              refine lv_istore_n (lv' := [(1, .int (II 0)), (2, .int (II r28)), (0, .ref (gA g 70))]) C.1 C.2.1 dX8_both5_45 rfl hl (by decide) rfl (fun ls hl => ?_)
              refine lv_goto (tgt := 5) C.1 C.2.1 dX8_both5_46 (by decide) ?_
              exact ih5  f2 (c1 ++ y28 ++ [tK b n j]) j28 0 M28 (by omega) (by omega) (by omega) (by omega) hs28 ((lp_step hop eq28).symm.trans hq) hx28 ((gd_op hg hk28.1 (show tK b n j < -8 by omega)).1) (⟨by decide, by decide⟩) (by rw [(gd_op hg hk28.1 (show tK b n j < -8 by omega)).2, h17b, jk_10, ← hvx, ← hv28]; first | (rw [if_pos (by omega)]; done) | (rw [if_neg (by omega)]; done)) _ _ _ hw hS (lv_sub hl [2, 0] rfl)
            · refine lv_iload_n C.1 C.2.1 dX8_both5_36 rfl (lv_at hl 0 rfl) ?_
              refine x_if_eq (tgt := 44) C hr28 dX8_both5_37 (by decide) (fun c37 => ?_) (fun c37 => ?_)
              · refine lv_iconst (v := II 0) C.1 C.2.1 dX8_both5_44 rfl ?_
                refine lv_istore_n (lv' := [(1, .int (II 0)), (2, .int (II r28)), (0, .ref (gA g 70))]) C.1 C.2.1 dX8_both5_45 rfl hl (by decide) rfl (fun ls hl => ?_)
                refine lv_goto (tgt := 5) C.1 C.2.1 dX8_both5_46 (by decide) ?_
                exact ih5  f2 (c1 ++ y28 ++ [tK b n j]) j28 0 M28 (by omega) (by omega) (by omega) (by omega) hs28 ((lp_step hop eq28).symm.trans hq) hx28 ((gd_op hg hk28.1 (show tK b n j < -8 by omega)).1) (⟨by decide, by decide⟩) (by rw [(gd_op hg hk28.1 (show tK b n j < -8 by omega)).2, h17b, jk_10, ← hvx, ← hv28]; first | (rw [if_pos (by omega)]; done) | (rw [if_neg (by omega)]; done)) _ _ _ hw hS (lv_sub hl [2, 0] rfl)
              · refine lv_iconst (v := II 1) C.1 C.2.1 dX8_both5_40 rfl ?_
                refine lv_goto (tgt := 45) C.1 C.2.1 dX8_both5_41 (by decide) ?_
                refine lv_istore_n (lv' := [(1, .int (II 1)), (2, .int (II r28)), (0, .ref (gA g 70))]) C.1 C.2.1 dX8_both5_45 rfl hl (by decide) rfl (fun ls hl => ?_)
                refine lv_goto (tgt := 5) C.1 C.2.1 dX8_both5_46 (by decide) ?_
                exact ih5  f2 (c1 ++ y28 ++ [tK b n j]) j28 1 M28 (by omega) (by omega) (by omega) (by omega) hs28 ((lp_step hop eq28).symm.trans hq) hx28 ((gd_op hg hk28.1 (show tK b n j < -8 by omega)).1) (⟨by decide, by decide⟩) (by rw [(gd_op hg hk28.1 (show tK b n j < -8 by omega)).2, h17b, jk_10, ← hvx, ← hv28]; first | (rw [if_pos (by omega)]; done) | (rw [if_neg (by omega)]; done)) _ _ _ hw hS (lv_sub hl [2, 0] rfl)
          · have g_M28 := hw.rg
            obtain ⟨qz28, eq28, hf28⟩ := h28b
            have hx28 := (hx24).tr h28f
            refine lv_istore_n (lv' := [(2, .int (II r28)), (0, .ref (gA g 70)), (1, .int (II x))]) C.1 C.2.1 dX8_both5_31 rfl hl (by decide) rfl (fun ls hl => ?_)
            refine lv_iload_n C.1 C.2.1 dX8_both5_32 rfl (lv_at hl 2 rfl) ?_
            refine x_if_eq (tgt := 44) C gx dX8_both5_33 (by decide) (fun c33 => ?_) (fun c33 => ?_)
            · refine lv_iconst (v := II 0) C.1 C.2.1 dX8_both5_44 rfl ?_
              refine lv_istore_n (lv' := [(1, .int (II 0)), (2, .int (II r28)), (0, .ref (gA g 70))]) C.1 C.2.1 dX8_both5_45 rfl hl (by decide) rfl (fun ls hl => ?_)
              refine lv_goto (tgt := 5) C.1 C.2.1 dX8_both5_46 (by decide) ?_
              refine lv_aload_n C.1 C.2.1 dX8_both5_5 rfl (lv_at hl 2 rfl) ?_
              refine lv_bipush (v := II 97) C.1 C.2.1 dX8_both5_6 (by decide) ?_
              refine lv_bipush (v := II 110) C.1 C.2.1 dX8_both5_8 (by decide) ?_
              refine lv_bipush (v := II 100) C.1 C.2.1 dX8_both5_10 (by decide) ?_
              refine lv_iconst (v := II 0) C.1 C.2.1 dX8_both5_12 rfl ?_
              refine lv_iconst (v := II 0) C.1 C.2.1 dX8_both5_13 rfl ?_
              refine lv_iconst (v := II 0) C.1 C.2.1 dX8_both5_14 rfl ?_
              refine lv_iconst (v := II 0) C.1 C.2.1 dX8_both5_15 rfl ?_
              refine lv_iconst (v := II 0) C.1 C.2.1 dX8_both5_16 rfl ?_
              refine x_ci (x_runV (n := 8) C hw hS hml hl.1 70 8 (by omega) rfl (by decide) rfl (c_X8_isWord1 l g M28 hF hf28.1 97 ⟨by decide, by decide⟩ 110 ⟨by decide, by decide⟩ 100 ⟨by decide, by decide⟩ 0 ⟨by decide, by decide⟩ 0 ⟨by decide, by decide⟩ 0 ⟨by decide, by decide⟩ 0 ⟨by decide, by decide⟩ 0 ⟨by decide, by decide⟩) mw_1015 mw_1017 mw_62 mw_130 mw_1018 rfl rfl (by decide +kernel) ⟨Nat.le_of_ble_eq_true rfl, Nat.le_of_ble_eq_true rfl⟩ rfl rfl (Nat.le_of_ble_eq_true rfl) dX8_both5_17 ⟨Nat.zero_le _, Nat.zero_le _⟩) hS (fun r17 M17 H locs hr17 hp hw hS => ?_)
              obtain ⟨em17, er17⟩ := hp
              have hw : Wo g M28 H := em17 ▸ hw
              rw [er17] at hr17 ⊢
              refine x_if_eq (tgt := 49) C ⟨by decide, by decide⟩ dX8_both5_20 (by decide) (fun _ => ?_) (fun h => absurd h (by decide))
              refine lv_iload_n C.1 C.2.1 dX8_both5_49 rfl (lv_at hl 0 rfl) ?_
              subst hQQ; exact x_ireturn C hr hlk hw hS ⟨by decide, by decide⟩ rfl (by refine ⟨hx28, Or.inr ⟨qz28, by show chP b n (qN b n 0) oAn i = _; rw [← hq]; exact lp_no hop eq28, hf28⟩⟩) dX8_both5_50
            · refine lv_iload_n C.1 C.2.1 dX8_both5_36 rfl (lv_at hl 0 rfl) ?_
              refine x_if_eq (tgt := 44) C hr28 dX8_both5_37 (by decide) (fun c37 => ?_) (fun c37 => ?_)
              · refine lv_iconst (v := II 0) C.1 C.2.1 dX8_both5_44 rfl ?_
                refine lv_istore_n (lv' := [(1, .int (II 0)), (2, .int (II r28)), (0, .ref (gA g 70))]) C.1 C.2.1 dX8_both5_45 rfl hl (by decide) rfl (fun ls hl => ?_)
                refine lv_goto (tgt := 5) C.1 C.2.1 dX8_both5_46 (by decide) ?_
                refine lv_aload_n C.1 C.2.1 dX8_both5_5 rfl (lv_at hl 2 rfl) ?_
                refine lv_bipush (v := II 97) C.1 C.2.1 dX8_both5_6 (by decide) ?_
                refine lv_bipush (v := II 110) C.1 C.2.1 dX8_both5_8 (by decide) ?_
                refine lv_bipush (v := II 100) C.1 C.2.1 dX8_both5_10 (by decide) ?_
                refine lv_iconst (v := II 0) C.1 C.2.1 dX8_both5_12 rfl ?_
                refine lv_iconst (v := II 0) C.1 C.2.1 dX8_both5_13 rfl ?_
                refine lv_iconst (v := II 0) C.1 C.2.1 dX8_both5_14 rfl ?_
                refine lv_iconst (v := II 0) C.1 C.2.1 dX8_both5_15 rfl ?_
                refine lv_iconst (v := II 0) C.1 C.2.1 dX8_both5_16 rfl ?_
                refine x_ci (x_runV (n := 8) C hw hS hml hl.1 70 8 (by omega) rfl (by decide) rfl (c_X8_isWord1 l g M28 hF hf28.1 97 ⟨by decide, by decide⟩ 110 ⟨by decide, by decide⟩ 100 ⟨by decide, by decide⟩ 0 ⟨by decide, by decide⟩ 0 ⟨by decide, by decide⟩ 0 ⟨by decide, by decide⟩ 0 ⟨by decide, by decide⟩ 0 ⟨by decide, by decide⟩) mw_1015 mw_1017 mw_62 mw_130 mw_1018 rfl rfl (by decide +kernel) ⟨Nat.le_of_ble_eq_true rfl, Nat.le_of_ble_eq_true rfl⟩ rfl rfl (Nat.le_of_ble_eq_true rfl) dX8_both5_17 ⟨Nat.zero_le _, Nat.zero_le _⟩) hS (fun r17 M17 H locs hr17 hp hw hS => ?_)
                obtain ⟨em17, er17⟩ := hp
                have hw : Wo g M28 H := em17 ▸ hw
                rw [er17] at hr17 ⊢
                refine x_if_eq (tgt := 49) C ⟨by decide, by decide⟩ dX8_both5_20 (by decide) (fun _ => ?_) (fun h => absurd h (by decide))
                refine lv_iload_n C.1 C.2.1 dX8_both5_49 rfl (lv_at hl 0 rfl) ?_
                subst hQQ; exact x_ireturn C hr hlk hw hS ⟨by decide, by decide⟩ rfl (by refine ⟨hx28, Or.inr ⟨qz28, by show chP b n (qN b n 0) oAn i = _; rw [← hq]; exact lp_no hop eq28, hf28⟩⟩) dX8_both5_50
              · refine lv_iconst (v := II 1) C.1 C.2.1 dX8_both5_40 rfl ?_
                refine lv_goto (tgt := 45) C.1 C.2.1 dX8_both5_41 (by decide) ?_
                refine lv_istore_n (lv' := [(1, .int (II 1)), (2, .int (II r28)), (0, .ref (gA g 70))]) C.1 C.2.1 dX8_both5_45 rfl hl (by decide) rfl (fun ls hl => ?_)
                refine lv_goto (tgt := 5) C.1 C.2.1 dX8_both5_46 (by decide) ?_
                refine lv_aload_n C.1 C.2.1 dX8_both5_5 rfl (lv_at hl 2 rfl) ?_
                refine lv_bipush (v := II 97) C.1 C.2.1 dX8_both5_6 (by decide) ?_
                refine lv_bipush (v := II 110) C.1 C.2.1 dX8_both5_8 (by decide) ?_
                refine lv_bipush (v := II 100) C.1 C.2.1 dX8_both5_10 (by decide) ?_
                refine lv_iconst (v := II 0) C.1 C.2.1 dX8_both5_12 rfl ?_
                refine lv_iconst (v := II 0) C.1 C.2.1 dX8_both5_13 rfl ?_
                refine lv_iconst (v := II 0) C.1 C.2.1 dX8_both5_14 rfl ?_
                refine lv_iconst (v := II 0) C.1 C.2.1 dX8_both5_15 rfl ?_
                refine lv_iconst (v := II 0) C.1 C.2.1 dX8_both5_16 rfl ?_
                refine x_ci (x_runV (n := 8) C hw hS hml hl.1 70 8 (by omega) rfl (by decide) rfl (c_X8_isWord1 l g M28 hF hf28.1 97 ⟨by decide, by decide⟩ 110 ⟨by decide, by decide⟩ 100 ⟨by decide, by decide⟩ 0 ⟨by decide, by decide⟩ 0 ⟨by decide, by decide⟩ 0 ⟨by decide, by decide⟩ 0 ⟨by decide, by decide⟩ 0 ⟨by decide, by decide⟩) mw_1015 mw_1017 mw_62 mw_130 mw_1018 rfl rfl (by decide +kernel) ⟨Nat.le_of_ble_eq_true rfl, Nat.le_of_ble_eq_true rfl⟩ rfl rfl (Nat.le_of_ble_eq_true rfl) dX8_both5_17 ⟨Nat.zero_le _, Nat.zero_le _⟩) hS (fun r17 M17 H locs hr17 hp hw hS => ?_)
                obtain ⟨em17, er17⟩ := hp
                have hw : Wo g M28 H := em17 ▸ hw
                rw [er17] at hr17 ⊢
                refine x_if_eq (tgt := 49) C ⟨by decide, by decide⟩ dX8_both5_20 (by decide) (fun _ => ?_) (fun h => absurd h (by decide))
                refine lv_iload_n C.1 C.2.1 dX8_both5_49 rfl (lv_at hl 0 rfl) ?_
                subst hQQ; exact x_ireturn C hr hlk hw hS ⟨by decide, by decide⟩ rfl (by refine ⟨hx28, Or.inr ⟨qz28, by show chP b n (qN b n 0) oAn i = _; rw [← hq]; exact lp_no hop eq28, hf28⟩⟩) dX8_both5_50
        · have hw : Wo g MM H := em17 ▸ hw
          rw [er17]
          refine x_if_eq (tgt := 49) C ⟨by decide, by decide⟩ dX8_both5_20 (by decide) (fun _ => ?_) (fun h => absurd h (by decide))
          refine lv_iload_n C.1 C.2.1 dX8_both5_49 rfl (lv_at hl 1 rfl) ?_
          subst hQQ; exact x_ireturn C hr hlk hw hS gx rfl (by refine ⟨hx, Or.inl ⟨c1, j, by show chP b n (qN b n 0) oAn i = _; rw [← hq]; exact lp_end (decide_eq_false (by omega)), hs2, hvx⟩⟩) dX8_both5_50
    exact L5 _ 161 y1 j1 r1 M1 (Nat.lt_succ_self _) (by have := hs1.1.2; have := hs1.1.1.2.2.1; omega) (by omega) (by have := hs1.1.1.2.2.1; omega) hs1 ((ch_ok eq1).symm) hx1 hk1.1 hr1 hv1 _ _ _ hw hS (lv_sub hl [1, 0] rfl)
  · have g_M1 := hw.rg
    obtain ⟨qz1, eq1, hf1⟩ := h1b
    have hx1 := (MX.rfl').tr h1f
    refine lv_istore_n (lv' := [(1, .int (II r1)), (0, .ref (gA g 70))]) C.1 C.2.1 dX8_both5_4 rfl hl (by decide) rfl (fun ls hl => ?_)
    refine lv_aload_n C.1 C.2.1 dX8_both5_5 rfl (lv_at hl 1 rfl) ?_
    refine lv_bipush (v := II 97) C.1 C.2.1 dX8_both5_6 (by decide) ?_
    refine lv_bipush (v := II 110) C.1 C.2.1 dX8_both5_8 (by decide) ?_
    refine lv_bipush (v := II 100) C.1 C.2.1 dX8_both5_10 (by decide) ?_
    refine lv_iconst (v := II 0) C.1 C.2.1 dX8_both5_12 rfl ?_
    refine lv_iconst (v := II 0) C.1 C.2.1 dX8_both5_13 rfl ?_
    refine lv_iconst (v := II 0) C.1 C.2.1 dX8_both5_14 rfl ?_
    refine lv_iconst (v := II 0) C.1 C.2.1 dX8_both5_15 rfl ?_
    refine lv_iconst (v := II 0) C.1 C.2.1 dX8_both5_16 rfl ?_
    refine x_ci (x_runV (n := 8) C hw hS hml hl.1 70 8 (by omega) rfl (by decide) rfl (c_X8_isWord1 l g M1 hF hf1.1 97 ⟨by decide, by decide⟩ 110 ⟨by decide, by decide⟩ 100 ⟨by decide, by decide⟩ 0 ⟨by decide, by decide⟩ 0 ⟨by decide, by decide⟩ 0 ⟨by decide, by decide⟩ 0 ⟨by decide, by decide⟩ 0 ⟨by decide, by decide⟩) mw_1015 mw_1017 mw_62 mw_130 mw_1018 rfl rfl (by decide +kernel) ⟨Nat.le_of_ble_eq_true rfl, Nat.le_of_ble_eq_true rfl⟩ rfl rfl (Nat.le_of_ble_eq_true rfl) dX8_both5_17 ⟨Nat.zero_le _, Nat.zero_le _⟩) hS (fun r17 M17 H locs hr17 hp hw hS => ?_)
    obtain ⟨em17, er17⟩ := hp
    have hw : Wo g M1 H := em17 ▸ hw
    rw [er17] at hr17 ⊢
    refine x_if_eq (tgt := 49) C ⟨by decide, by decide⟩ dX8_both5_20 (by decide) (fun _ => ?_) (fun h => absurd h (by decide))
    refine lv_iload_n C.1 C.2.1 dX8_both5_49 rfl (lv_at hl 0 rfl) ?_
    subst hQQ; exact x_ireturn C hr hlk hw hS hr1 rfl (by refine ⟨hx1, Or.inr ⟨qz1, by show chP b n (qN b n 0) oAn i = _; exact ch_no eq1, hf1⟩⟩) dX8_both5_50

set_option maxHeartbeats 4000000 in
set_option maxRecDepth 100000 in
theorem c_X8_either5 (l : Launch) (g : Gm) (M : Nat → Int) (hF : LvF g) (nm : Nat → Int) (hnm : NMS M nm) (b : Nat → Int) (n : Nat) (f : Nat) (i : Nat) (hs : MS M b n f i 5) : CI l ({ cls := "RatedBySighsModel", name := "either5", desc := "()I" } : Jvm.MethodName) cX8_either5 3 .int (rmm 9 201) g M [.ref (gA g 70)] (fun r M' => (MX M M') ∧ (((∃ c j, qE b n 0 i = .inr (c, j) ∧ MS M' b n f j 5 ∧ r = vC nm c)) ∨ ((∃ q, qE b n 0 i = .inl q ∧ MF M' q 5)))) := by
  refine c_start (by decide) (Nat.le_of_ble_eq_true rfl) (fun p e s m below meth c ls C hr hlk hml hw hS hl => ?_)
  have hl : lv_has ls 3 [(0, .ref (gA g 70))] := hl
  generalize ([.ref (gA g 70)] : List Value).toArray = args at C ⊢
  generalize hQQ : MQ below (postI g (fun r M' => (MX M M') ∧ (((∃ c j, qE b n 0 i = .inr (c, j) ∧ MS M' b n f j 5 ∧ r = vC nm c)) ∨ ((∃ q, qE b n 0 i = .inl q ∧ MF M' q 5))))) args s 0 0 (ar g) = QQ
  have g_M := hw.rg
  have hN : gN g = 84 := hF.1
  refine lv_aload_n C.1 C.2.1 dX8_either5_0 rfl (lv_at hl 0 rfl) ?_
  refine x_ci (x_runV (n := 0) C hw hS hml hl.1 70 8 (by omega) rfl (by decide) rfl (c_X8_both5 l g M hF nm (hnm.mx MX.rfl') b n f i hs) mw_1105 mw_1107 mw_84 mw_130 mw_1108 rfl rfl (by decide +kernel) ⟨Nat.le_of_ble_eq_true rfl, Nat.le_of_ble_eq_true rfl⟩ rfl rfl (Nat.le_of_ble_eq_true rfl) dX8_either5_1 ⟨Nat.zero_le _, Nat.zero_le _⟩) hS (fun r1 M1 H locs hr1 hp hw hS => ?_)
  rcases hp with ⟨h1f, (h1b | h1b)⟩
  · have g_M1 := hw.rg
    obtain ⟨y1, j1, eq1, hs1, hv1⟩ := h1b
    have hx1 := (MX.rfl').tr h1f
    have hk1 := (ok_qA b n 0).r hs.1.2 eq1
    refine lv_istore_n (lv' := [(1, .int (II r1)), (0, .ref (gA g 70))]) C.1 C.2.1 dX8_either5_4 rfl hl (by decide) rfl (fun ls hl => ?_)
    have L5 : ∀ (f1 : Nat) (fu : Nat) (c1 : List Int) (j : Nat) (x : Int) (MM : Nat → Int), (n - j) < f1 → (j ≤ n ∧ n ≤ 160) → (i ≤ j) → (n - j < fu) → (MS MM b n f j 5) → (lpP b n (qA b n 0) oOr fu c1 j = chP b n (qA b n 0) oOr i) → (MX M MM) → (gdC c1) → (rg x) → (x = vC nm c1) → ∀ (H : Heap) (locs : List Loc) (ls : Array Slot), Wo g MM H → va_S (ar g) s.heap H locs → lv_has ls 3 [(0, .ref (gA g 70)), (1, .int (II x))] → W p l e (rmm 9 201) s m args below meth c H locs 0 0 QQ (F0 m 5 ls []) := by
      intro f1
      induction f1 with
      | zero => intro fu c1 j x MM hmu; exact absurd hmu (Nat.not_lt_zero _)
      | succ f1 ih =>
        intro fu c1 j x MM hmu h1 hi0 hfu hs2 hq hx hg gx hvx H locs ls hw hS hl
        have ih5 := ih
        have g_MM := hw.rg
        refine lv_aload_n C.1 C.2.1 dX8_either5_5 rfl (lv_at hl 0 rfl) ?_
        refine lv_bipush (v := II 111) C.1 C.2.1 dX8_either5_6 (by decide) ?_
        refine lv_bipush (v := II 114) C.1 C.2.1 dX8_either5_8 (by decide) ?_
        refine lv_iconst (v := II 0) C.1 C.2.1 dX8_either5_10 rfl ?_
        refine lv_iconst (v := II 0) C.1 C.2.1 dX8_either5_11 rfl ?_
        refine lv_iconst (v := II 0) C.1 C.2.1 dX8_either5_12 rfl ?_
        refine lv_iconst (v := II 0) C.1 C.2.1 dX8_either5_13 rfl ?_
        refine lv_iconst (v := II 0) C.1 C.2.1 dX8_either5_14 rfl ?_
        refine lv_iconst (v := II 0) C.1 C.2.1 dX8_either5_15 rfl ?_
        refine x_ci (x_runV (n := 8) C hw hS hml hl.1 70 8 (by omega) rfl (by decide) rfl (c_X8_isWord0 l g MM hF b n f j 5 hs2 [111, 114] (-9) 111 ⟨by decide, by decide⟩ 114 ⟨by decide, by decide⟩ 0 ⟨by decide, by decide⟩ 0 ⟨by decide, by decide⟩ 0 ⟨by decide, by decide⟩ 0 ⟨by decide, by decide⟩ 0 ⟨by decide, by decide⟩ 0 ⟨by decide, by decide⟩ (by decide) wd_or) mw_1015 mw_1017 mw_62 mw_130 mw_1018 rfl rfl (by decide +kernel) ⟨Nat.le_of_ble_eq_true rfl, Nat.le_of_ble_eq_true rfl⟩ rfl rfl (Nat.le_of_ble_eq_true rfl) dX8_either5_16 ⟨Nat.zero_le _, Nat.zero_le _⟩) hS (fun r16 M16 H locs hr16 hp hw hS => ?_)
        rcases hp with ⟨em16, (⟨er16, h16b⟩ | ⟨er16, h16b⟩)⟩
        · have hw : Wo g MM H := em16 ▸ hw
          rw [er16]
          obtain ⟨hm16, -⟩ := (wrd_iff (b := b) (n := n) (i := j) wd_or).mp h16b
          obtain ⟨f2, rfl⟩ : ∃ f2, fu = f2 + 1 := ⟨fu - 1, by omega⟩
          have hop : oOr (tK b n j) = true := decide_eq_true (by omega)
          refine x_if_eq (tgt := 48) C ⟨by decide, by decide⟩ dX8_either5_19 (by decide) (fun h => absurd h (by decide)) (fun _ => ?_)
          refine lv_aload_n C.1 C.2.1 dX8_either5_22 rfl (lv_at hl 0 rfl) ?_
          have hi9 := mT_in (b := b) (n := n) (i := j)
          refine x_cv (x_runV (n := 0) C hw hS hml hl.1 70 8 (by omega) rfl (by decide) rfl (c_X8_next l g MM hF b n f hs2.1.1 (tE b n j) (tE_in hs2.1.2).2.1 (hs2.2.1.2.2.1 (by omega))) mw_1003 mw_1005 mw_60 mw_130 mw_1006 rfl rfl (by decide +kernel) ⟨Nat.le_of_ble_eq_true rfl, Nat.le_of_ble_eq_true rfl⟩ rfl rfl (Nat.le_of_ble_eq_true rfl) dX8_either5_23 ⟨Nat.zero_le _, Nat.zero_le _⟩) hS (fun M23 H locs hp hw hS => ?_)
          have h23p := hp
          have g_M23 := hw.rg
          have hs23 := hs2.next h23p
          have ht23 := tK_7 (b := b) hs2.1.2 (by omega)
          have hx23 := (hx).tr h23p.mx
          refine lv_aload_n C.1 C.2.1 dX8_either5_26 rfl (lv_at hl 0 rfl) ?_
          refine x_ci (x_runV (n := 0) C hw hS hml hl.1 70 8 (by omega) rfl (by decide) rfl (c_X8_both5 l g M23 hF nm (hnm.mx hx23) b n f (tE b n j) hs23) mw_1105 mw_1107 mw_84 mw_130 mw_1108 rfl rfl (by decide +kernel) ⟨Nat.le_of_ble_eq_true rfl, Nat.le_of_ble_eq_true rfl⟩ rfl rfl (Nat.le_of_ble_eq_true rfl) dX8_either5_27 ⟨Nat.zero_le _, Nat.zero_le _⟩) hS (fun r27 M27 H locs hr27 hp hw hS => ?_)
          rcases hp with ⟨h27f, (h27b | h27b)⟩
          · have g_M27 := hw.rg
            obtain ⟨y27, j27, eq27, hs27, hv27⟩ := h27b
            have hx27 := (hx23).tr h27f
            have hk27 := (ok_qA b n 0).r hs23.1.2 eq27
            refine lv_istore_n (lv' := [(2, .int (II r27)), (0, .ref (gA g 70)), (1, .int (II x))]) C.1 C.2.1 dX8_either5_30 rfl hl (by decide) rfl (fun ls hl => ?_)
            refine lv_iload_n C.1 C.2.1 dX8_either5_31 rfl (lv_at hl 2 rfl) ?_
            refine x_if_ne (tgt := 39) C gx dX8_either5_32 (by decide) (fun c32 => ?_) (fun c32 => ?_)
            · refine lv_iconst (v := II 1) C.1 C.2.1 dX8_either5_39 rfl ?_
              refine lv_goto (tgt := 44) C.1 C.2.1 dX8_either5_40 (by decide) ?_
              refine lv_istore_n (lv' := [(1, .int (II 1)), (2, .int (II r27)), (0, .ref (gA g 70))]) C.1 C.2.1 dX8_either5_44 rfl hl (by decide) rfl (fun ls hl => ?_)
              refine lv_goto (tgt := 5) C.1 C.2.1 dX8_either5_45 (by decide) ?_
              exact ih5  f2 (c1 ++ y27 ++ [tK b n j]) j27 1 M27 (by omega) (by omega) (by omega) (by omega) hs27 ((lp_step hop eq27).symm.trans hq) hx27 ((gd_op hg hk27.1 (show tK b n j < -8 by omega)).1) (⟨by decide, by decide⟩) (by rw [(gd_op hg hk27.1 (show tK b n j < -8 by omega)).2, h16b, jk_9, ← hvx, ← hv27]; first | (rw [if_pos (by omega)]; done) | (rw [if_neg (by omega)]; done)) _ _ _ hw hS (lv_sub hl [2, 0] rfl)
            · refine lv_iload_n C.1 C.2.1 dX8_either5_35 rfl (lv_at hl 0 rfl) ?_
              refine x_if_eq (tgt := 43) C hr27 dX8_either5_36 (by decide) (fun c36 => ?_) (fun c36 => ?_)
              · refine lv_iconst (v := II 0) C.1 C.2.1 dX8_either5_43 rfl ?_
                refine lv_istore_n (lv' := [(1, .int (II 0)), (2, .int (II r27)), (0, .ref (gA g 70))]) C.1 C.2.1 dX8_either5_44 rfl hl (by decide) rfl (fun ls hl => ?_)
                refine lv_goto (tgt := 5) C.1 C.2.1 dX8_either5_45 (by decide) ?_
                exact ih5  f2 (c1 ++ y27 ++ [tK b n j]) j27 0 M27 (by omega) (by omega) (by omega) (by omega) hs27 ((lp_step hop eq27).symm.trans hq) hx27 ((gd_op hg hk27.1 (show tK b n j < -8 by omega)).1) (⟨by decide, by decide⟩) (by rw [(gd_op hg hk27.1 (show tK b n j < -8 by omega)).2, h16b, jk_9, ← hvx, ← hv27]; first | (rw [if_pos (by omega)]; done) | (rw [if_neg (by omega)]; done)) _ _ _ hw hS (lv_sub hl [2, 0] rfl)
              · refine lv_iconst (v := II 1) C.1 C.2.1 dX8_either5_39 rfl ?_
                refine lv_goto (tgt := 44) C.1 C.2.1 dX8_either5_40 (by decide) ?_
                refine lv_istore_n (lv' := [(1, .int (II 1)), (2, .int (II r27)), (0, .ref (gA g 70))]) C.1 C.2.1 dX8_either5_44 rfl hl (by decide) rfl (fun ls hl => ?_)
                refine lv_goto (tgt := 5) C.1 C.2.1 dX8_either5_45 (by decide) ?_
                exact ih5  f2 (c1 ++ y27 ++ [tK b n j]) j27 1 M27 (by omega) (by omega) (by omega) (by omega) hs27 ((lp_step hop eq27).symm.trans hq) hx27 ((gd_op hg hk27.1 (show tK b n j < -8 by omega)).1) (⟨by decide, by decide⟩) (by rw [(gd_op hg hk27.1 (show tK b n j < -8 by omega)).2, h16b, jk_9, ← hvx, ← hv27]; first | (rw [if_pos (by omega)]; done) | (rw [if_neg (by omega)]; done)) _ _ _ hw hS (lv_sub hl [2, 0] rfl)
          · have g_M27 := hw.rg
            obtain ⟨qz27, eq27, hf27⟩ := h27b
            have hx27 := (hx23).tr h27f
            refine lv_istore_n (lv' := [(2, .int (II r27)), (0, .ref (gA g 70)), (1, .int (II x))]) C.1 C.2.1 dX8_either5_30 rfl hl (by decide) rfl (fun ls hl => ?_)
            refine lv_iload_n C.1 C.2.1 dX8_either5_31 rfl (lv_at hl 2 rfl) ?_
            refine x_if_ne (tgt := 39) C gx dX8_either5_32 (by decide) (fun c32 => ?_) (fun c32 => ?_)
            · refine lv_iconst (v := II 1) C.1 C.2.1 dX8_either5_39 rfl ?_
              refine lv_goto (tgt := 44) C.1 C.2.1 dX8_either5_40 (by decide) ?_
              refine lv_istore_n (lv' := [(1, .int (II 1)), (2, .int (II r27)), (0, .ref (gA g 70))]) C.1 C.2.1 dX8_either5_44 rfl hl (by decide) rfl (fun ls hl => ?_)
              refine lv_goto (tgt := 5) C.1 C.2.1 dX8_either5_45 (by decide) ?_
              refine lv_aload_n C.1 C.2.1 dX8_either5_5 rfl (lv_at hl 2 rfl) ?_
              refine lv_bipush (v := II 111) C.1 C.2.1 dX8_either5_6 (by decide) ?_
              refine lv_bipush (v := II 114) C.1 C.2.1 dX8_either5_8 (by decide) ?_
              refine lv_iconst (v := II 0) C.1 C.2.1 dX8_either5_10 rfl ?_
              refine lv_iconst (v := II 0) C.1 C.2.1 dX8_either5_11 rfl ?_
              refine lv_iconst (v := II 0) C.1 C.2.1 dX8_either5_12 rfl ?_
              refine lv_iconst (v := II 0) C.1 C.2.1 dX8_either5_13 rfl ?_
              refine lv_iconst (v := II 0) C.1 C.2.1 dX8_either5_14 rfl ?_
              refine lv_iconst (v := II 0) C.1 C.2.1 dX8_either5_15 rfl ?_
              refine x_ci (x_runV (n := 8) C hw hS hml hl.1 70 8 (by omega) rfl (by decide) rfl (c_X8_isWord1 l g M27 hF hf27.1 111 ⟨by decide, by decide⟩ 114 ⟨by decide, by decide⟩ 0 ⟨by decide, by decide⟩ 0 ⟨by decide, by decide⟩ 0 ⟨by decide, by decide⟩ 0 ⟨by decide, by decide⟩ 0 ⟨by decide, by decide⟩ 0 ⟨by decide, by decide⟩) mw_1015 mw_1017 mw_62 mw_130 mw_1018 rfl rfl (by decide +kernel) ⟨Nat.le_of_ble_eq_true rfl, Nat.le_of_ble_eq_true rfl⟩ rfl rfl (Nat.le_of_ble_eq_true rfl) dX8_either5_16 ⟨Nat.zero_le _, Nat.zero_le _⟩) hS (fun r16 M16 H locs hr16 hp hw hS => ?_)
              obtain ⟨em16, er16⟩ := hp
              have hw : Wo g M27 H := em16 ▸ hw
              rw [er16] at hr16 ⊢
              refine x_if_eq (tgt := 48) C ⟨by decide, by decide⟩ dX8_either5_19 (by decide) (fun _ => ?_) (fun h => absurd h (by decide))
              refine lv_iload_n C.1 C.2.1 dX8_either5_48 rfl (lv_at hl 0 rfl) ?_
              subst hQQ; exact x_ireturn C hr hlk hw hS ⟨by decide, by decide⟩ rfl (by refine ⟨hx27, Or.inr ⟨qz27, by rw [qE_eq]; rw [← hq]; exact lp_no hop eq27, hf27⟩⟩) dX8_either5_49
            · refine lv_iload_n C.1 C.2.1 dX8_either5_35 rfl (lv_at hl 0 rfl) ?_
              refine x_if_eq (tgt := 43) C hr27 dX8_either5_36 (by decide) (fun c36 => ?_) (fun c36 => ?_)
              · refine lv_iconst (v := II 0) C.1 C.2.1 dX8_either5_43 rfl ?_
                refine lv_istore_n (lv' := [(1, .int (II 0)), (2, .int (II r27)), (0, .ref (gA g 70))]) C.1 C.2.1 dX8_either5_44 rfl hl (by decide) rfl (fun ls hl => ?_)
                refine lv_goto (tgt := 5) C.1 C.2.1 dX8_either5_45 (by decide) ?_
                refine lv_aload_n C.1 C.2.1 dX8_either5_5 rfl (lv_at hl 2 rfl) ?_
                refine lv_bipush (v := II 111) C.1 C.2.1 dX8_either5_6 (by decide) ?_
                refine lv_bipush (v := II 114) C.1 C.2.1 dX8_either5_8 (by decide) ?_
                refine lv_iconst (v := II 0) C.1 C.2.1 dX8_either5_10 rfl ?_
                refine lv_iconst (v := II 0) C.1 C.2.1 dX8_either5_11 rfl ?_
                refine lv_iconst (v := II 0) C.1 C.2.1 dX8_either5_12 rfl ?_
                refine lv_iconst (v := II 0) C.1 C.2.1 dX8_either5_13 rfl ?_
                refine lv_iconst (v := II 0) C.1 C.2.1 dX8_either5_14 rfl ?_
                refine lv_iconst (v := II 0) C.1 C.2.1 dX8_either5_15 rfl ?_
                refine x_ci (x_runV (n := 8) C hw hS hml hl.1 70 8 (by omega) rfl (by decide) rfl (c_X8_isWord1 l g M27 hF hf27.1 111 ⟨by decide, by decide⟩ 114 ⟨by decide, by decide⟩ 0 ⟨by decide, by decide⟩ 0 ⟨by decide, by decide⟩ 0 ⟨by decide, by decide⟩ 0 ⟨by decide, by decide⟩ 0 ⟨by decide, by decide⟩ 0 ⟨by decide, by decide⟩) mw_1015 mw_1017 mw_62 mw_130 mw_1018 rfl rfl (by decide +kernel) ⟨Nat.le_of_ble_eq_true rfl, Nat.le_of_ble_eq_true rfl⟩ rfl rfl (Nat.le_of_ble_eq_true rfl) dX8_either5_16 ⟨Nat.zero_le _, Nat.zero_le _⟩) hS (fun r16 M16 H locs hr16 hp hw hS => ?_)
                obtain ⟨em16, er16⟩ := hp
                have hw : Wo g M27 H := em16 ▸ hw
                rw [er16] at hr16 ⊢
                refine x_if_eq (tgt := 48) C ⟨by decide, by decide⟩ dX8_either5_19 (by decide) (fun _ => ?_) (fun h => absurd h (by decide))
                refine lv_iload_n C.1 C.2.1 dX8_either5_48 rfl (lv_at hl 0 rfl) ?_
                subst hQQ; exact x_ireturn C hr hlk hw hS ⟨by decide, by decide⟩ rfl (by refine ⟨hx27, Or.inr ⟨qz27, by rw [qE_eq]; rw [← hq]; exact lp_no hop eq27, hf27⟩⟩) dX8_either5_49
              · refine lv_iconst (v := II 1) C.1 C.2.1 dX8_either5_39 rfl ?_
                refine lv_goto (tgt := 44) C.1 C.2.1 dX8_either5_40 (by decide) ?_
                refine lv_istore_n (lv' := [(1, .int (II 1)), (2, .int (II r27)), (0, .ref (gA g 70))]) C.1 C.2.1 dX8_either5_44 rfl hl (by decide) rfl (fun ls hl => ?_)
                refine lv_goto (tgt := 5) C.1 C.2.1 dX8_either5_45 (by decide) ?_
                refine lv_aload_n C.1 C.2.1 dX8_either5_5 rfl (lv_at hl 2 rfl) ?_
                refine lv_bipush (v := II 111) C.1 C.2.1 dX8_either5_6 (by decide) ?_
                refine lv_bipush (v := II 114) C.1 C.2.1 dX8_either5_8 (by decide) ?_
                refine lv_iconst (v := II 0) C.1 C.2.1 dX8_either5_10 rfl ?_
                refine lv_iconst (v := II 0) C.1 C.2.1 dX8_either5_11 rfl ?_
                refine lv_iconst (v := II 0) C.1 C.2.1 dX8_either5_12 rfl ?_
                refine lv_iconst (v := II 0) C.1 C.2.1 dX8_either5_13 rfl ?_
                refine lv_iconst (v := II 0) C.1 C.2.1 dX8_either5_14 rfl ?_
                refine lv_iconst (v := II 0) C.1 C.2.1 dX8_either5_15 rfl ?_
                refine x_ci (x_runV (n := 8) C hw hS hml hl.1 70 8 (by omega) rfl (by decide) rfl (c_X8_isWord1 l g M27 hF hf27.1 111 ⟨by decide, by decide⟩ 114 ⟨by decide, by decide⟩ 0 ⟨by decide, by decide⟩ 0 ⟨by decide, by decide⟩ 0 ⟨by decide, by decide⟩ 0 ⟨by decide, by decide⟩ 0 ⟨by decide, by decide⟩ 0 ⟨by decide, by decide⟩) mw_1015 mw_1017 mw_62 mw_130 mw_1018 rfl rfl (by decide +kernel) ⟨Nat.le_of_ble_eq_true rfl, Nat.le_of_ble_eq_true rfl⟩ rfl rfl (Nat.le_of_ble_eq_true rfl) dX8_either5_16 ⟨Nat.zero_le _, Nat.zero_le _⟩) hS (fun r16 M16 H locs hr16 hp hw hS => ?_)
                obtain ⟨em16, er16⟩ := hp
                have hw : Wo g M27 H := em16 ▸ hw
                rw [er16] at hr16 ⊢
                refine x_if_eq (tgt := 48) C ⟨by decide, by decide⟩ dX8_either5_19 (by decide) (fun _ => ?_) (fun h => absurd h (by decide))
                refine lv_iload_n C.1 C.2.1 dX8_either5_48 rfl (lv_at hl 0 rfl) ?_
                subst hQQ; exact x_ireturn C hr hlk hw hS ⟨by decide, by decide⟩ rfl (by refine ⟨hx27, Or.inr ⟨qz27, by rw [qE_eq]; rw [← hq]; exact lp_no hop eq27, hf27⟩⟩) dX8_either5_49
        · have hw : Wo g MM H := em16 ▸ hw
          rw [er16]
          refine x_if_eq (tgt := 48) C ⟨by decide, by decide⟩ dX8_either5_19 (by decide) (fun _ => ?_) (fun h => absurd h (by decide))
          refine lv_iload_n C.1 C.2.1 dX8_either5_48 rfl (lv_at hl 1 rfl) ?_
          subst hQQ; exact x_ireturn C hr hlk hw hS gx rfl (by refine ⟨hx, Or.inl ⟨c1, j, by rw [qE_eq]; rw [← hq]; exact lp_end (decide_eq_false (by omega)), hs2, hvx⟩⟩) dX8_either5_49
    exact L5 _ 161 y1 j1 r1 M1 (Nat.lt_succ_self _) (by have := hs1.1.2; have := hs1.1.1.2.2.1; omega) (by omega) (by have := hs1.1.1.2.2.1; omega) hs1 ((ch_ok eq1).symm) hx1 hk1.1 hr1 hv1 _ _ _ hw hS (lv_sub hl [1, 0] rfl)
  · have g_M1 := hw.rg
    obtain ⟨qz1, eq1, hf1⟩ := h1b
    have hx1 := (MX.rfl').tr h1f
    refine lv_istore_n (lv' := [(1, .int (II r1)), (0, .ref (gA g 70))]) C.1 C.2.1 dX8_either5_4 rfl hl (by decide) rfl (fun ls hl => ?_)
    refine lv_aload_n C.1 C.2.1 dX8_either5_5 rfl (lv_at hl 1 rfl) ?_
    refine lv_bipush (v := II 111) C.1 C.2.1 dX8_either5_6 (by decide) ?_
    refine lv_bipush (v := II 114) C.1 C.2.1 dX8_either5_8 (by decide) ?_
    refine lv_iconst (v := II 0) C.1 C.2.1 dX8_either5_10 rfl ?_
    refine lv_iconst (v := II 0) C.1 C.2.1 dX8_either5_11 rfl ?_
    refine lv_iconst (v := II 0) C.1 C.2.1 dX8_either5_12 rfl ?_
    refine lv_iconst (v := II 0) C.1 C.2.1 dX8_either5_13 rfl ?_
    refine lv_iconst (v := II 0) C.1 C.2.1 dX8_either5_14 rfl ?_
    refine lv_iconst (v := II 0) C.1 C.2.1 dX8_either5_15 rfl ?_
    refine x_ci (x_runV (n := 8) C hw hS hml hl.1 70 8 (by omega) rfl (by decide) rfl (c_X8_isWord1 l g M1 hF hf1.1 111 ⟨by decide, by decide⟩ 114 ⟨by decide, by decide⟩ 0 ⟨by decide, by decide⟩ 0 ⟨by decide, by decide⟩ 0 ⟨by decide, by decide⟩ 0 ⟨by decide, by decide⟩ 0 ⟨by decide, by decide⟩ 0 ⟨by decide, by decide⟩) mw_1015 mw_1017 mw_62 mw_130 mw_1018 rfl rfl (by decide +kernel) ⟨Nat.le_of_ble_eq_true rfl, Nat.le_of_ble_eq_true rfl⟩ rfl rfl (Nat.le_of_ble_eq_true rfl) dX8_either5_16 ⟨Nat.zero_le _, Nat.zero_le _⟩) hS (fun r16 M16 H locs hr16 hp hw hS => ?_)
    obtain ⟨em16, er16⟩ := hp
    have hw : Wo g M1 H := em16 ▸ hw
    rw [er16] at hr16 ⊢
    refine x_if_eq (tgt := 48) C ⟨by decide, by decide⟩ dX8_either5_19 (by decide) (fun _ => ?_) (fun h => absurd h (by decide))
    refine lv_iload_n C.1 C.2.1 dX8_either5_48 rfl (lv_at hl 0 rfl) ?_
    subst hQQ; exact x_ireturn C hr hlk hw hS hr1 rfl (by refine ⟨hx1, Or.inr ⟨qz1, by rw [qE_eq]; exact ch_no eq1, hf1⟩⟩) dX8_either5_49
