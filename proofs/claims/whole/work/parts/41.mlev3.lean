set_option maxHeartbeats 4000000 in
set_option maxRecDepth 100000 in
theorem c_X8_atom3 (l : Launch) (g : Gm) (M : Nat → Int) (hF : LvF g) (nm : Nat → Int) (hnm : NMS M nm) (b : Nat → Int) (n : Nat) (f : Nat) (i : Nat) (hs : MS M b n f i 3) : CI l ({ cls := "RatedBySighsModel", name := "atom3", desc := "()I" } : Jvm.MethodName) cX8_atom3 2 .int (rmm 16 355) g M [.ref (gA g 70)] (fun r M' => (MX M M') ∧ (((∃ c j, q1 b n 2 i = .inr (c, j) ∧ MS M' b n f j 3 ∧ r = vC nm c)) ∨ ((∃ q, q1 b n 2 i = .inl q ∧ MF M' q 3)))) := by
  refine c_start (by decide) (Nat.le_of_ble_eq_true rfl) (fun p e s m below meth c ls C hr hlk hml hw hS hl => ?_)
  have hl : lv_has ls 2 [(0, .ref (gA g 70))] := hl
  have g_M := hw.rg
  have hN : gN g = 84 := hF.1
  have hi3 := mT_in (b := b) (n := n) (i := i)
  have hsg := sgT_in (x := b (tS b n i))
  have hwd := wdT_in (b := b) (s := tS b n i) (e := tE b n i)
  refine lv_iconst (v := II 0) C.1 C.2.1 dX8_atom3_0 rfl ?_
  refine lv_istore_n (lv' := [(1, .int (II 0)), (0, .ref (gA g 70))]) C.1 C.2.1 dX8_atom3_1 rfl hl (by decide) rfl (fun ls hl => ?_)
  refine lv_aload_n C.1 C.2.1 dX8_atom3_2 rfl (lv_at hl 1 rfl) ?_
  refine lv_bipush (v := II 45) C.1 C.2.1 dX8_atom3_3 (by decide) ?_
  refine x_ci (x_runV (n := 1) C hw hS hml hl.1 70 8 (by omega) rfl (by decide) rfl (c_X8_isSign0 l g M hF b n f i 3 hs 45 ⟨by decide, by decide⟩ (-14) (by decide)) mw_1079 mw_1081 mw_78 mw_130 mw_1082 rfl rfl (by decide +kernel) ⟨Nat.le_of_ble_eq_true rfl, Nat.le_of_ble_eq_true rfl⟩ rfl rfl (Nat.le_of_ble_eq_true rfl) dX8_atom3_5 ⟨Nat.zero_le _, Nat.zero_le _⟩) hS (fun r5 M5 H locs hr5 hp hw hS => ?_)
  rcases hp with ⟨em5, (⟨er5, h5b⟩ | ⟨er5, h5b⟩)⟩
  · have hw : Wo g M H := em5 ▸ hw
    rw [er5]
    obtain ⟨hm5, hw5⟩ := (sgn_iff (b := b) (n := n) (i := i) (x := 45) (tk := (-14)) (by decide) (by decide)).mp h5b
    refine x_if_eq (tgt := 37) C ⟨by decide, by decide⟩ dX8_atom3_8 (by decide) (fun h => absurd h (by decide)) (fun _ => ?_)
    refine lv_aload_n C.1 C.2.1 dX8_atom3_11 rfl (lv_at hl 1 rfl) ?_
    refine x_ci (x_runV (n := 0) C hw hS hml hl.1 70 8 (by omega) rfl (by decide) rfl (c_X8_opens0 l g M hF b n f i 3 (by decide) (by omega) hs) mw_1043 mw_1045 mw_69 mw_130 mw_1046 rfl rfl (by decide +kernel) ⟨Nat.le_of_ble_eq_true rfl, Nat.le_of_ble_eq_true rfl⟩ rfl rfl (Nat.le_of_ble_eq_true rfl) dX8_atom3_12 ⟨Nat.zero_le _, Nat.zero_le _⟩) hS (fun r12 M12 H locs hr12 hp hw hS => ?_)
    obtain ⟨er12, h12s, h12f⟩ := hp
    have g_M12 := hw.rg
    rw [er12] at hr12 ⊢
    have hs12 := h12s
    have ht12 := tK_7 (b := b) hs.1.2 (by omega)
    have hx12 := (MX.rfl').tr h12f
    refine x_if_eq (tgt := 161) C ⟨by decide, by decide⟩ dX8_atom3_15 (by decide) (fun h => absurd h (by decide)) (fun _ => ?_)
    refine lv_aload_n C.1 C.2.1 dX8_atom3_18 rfl (lv_at hl 1 rfl) ?_
    refine x_ci (x_runV (n := 0) C hw hS hml hl.1 70 8 (by omega) rfl (by decide) rfl (c_X8_atom4 l g M12 hF nm (hnm.mx hx12) b n f (tE b n i) hs12) mw_1097 mw_1099 mw_82 mw_130 mw_1100 rfl rfl (by decide +kernel) ⟨Nat.le_of_ble_eq_true rfl, Nat.le_of_ble_eq_true rfl⟩ rfl rfl (Nat.le_of_ble_eq_true rfl) dX8_atom3_19 ⟨Nat.zero_le _, Nat.zero_le _⟩) hS (fun r19 M19 H locs hr19 hp hw hS => ?_)
    rcases hp with ⟨h19f, (h19b | h19b)⟩
    · have g_M19 := hw.rg
      obtain ⟨y19, j19, eq19, hs19, hv19⟩ := h19b
      have hx19 := (hx12).tr h19f
      have hk19 := (ok_q1 b n 1).r hs12.1.2 eq19
      refine x_ineg C dX8_atom3_22 ?_
      refine x_top (b := wr (-r19)) (II_self _).symm ?_
      refine lv_istore_n (lv' := [(1, .int (II (wr (-r19)))), (0, .ref (gA g 70))]) C.1 C.2.1 dX8_atom3_23 rfl hl (by decide) rfl (fun ls hl => ?_)
      refine lv_aload_n C.1 C.2.1 dX8_atom3_24 rfl (lv_at hl 1 rfl) ?_
      refine lv_dup C.1 C.2.1 dX8_atom3_25 rfl ?_
      refine g8 C hw 70 (by omega) rfl 24 (by decide) mw_848 (svi (x := 4) (by have := hs19.2.2.1; omega)) dX8_atom3_26 ?_
      refine lv_iconst (v := II 1) C.1 C.2.1 dX8_atom3_29 rfl ?_
      refine x_isub C dX8_atom3_30 ?_
      rw [show (4 - 1 : Int) = 3 from by decide]
      refine p8 C hw hS 70 (by omega) rfl 24 (by decide) mw_848 rfl (x := 3) ⟨by decide, by decide⟩ (svi st_s) (tyX8_ok 24 (by decide)) rfl rfl dX8_atom3_31 (fun H locs hw hS => ?_)
      have hw : Wo g (stM M19 70024 3) H := hw
      have hg34 := hs19.op (x := 3) (j := 3) (by decide)
      refine lv_goto (tgt := 161) C.1 C.2.1 dX8_atom3_34 (by decide) ?_
      refine lv_iload_n C.1 C.2.1 dX8_atom3_161 rfl (lv_at hl 0 rfl) ?_
      exact x_ireturn C hr hlk hw hS (rg_toInt _) rfl (by refine ⟨(hx19.st (by decide)), Or.inl ⟨y19 ++ [-7], j19, by rw [q1_s]; exact p1_neg h5b eq19, hg34, by rw [hv19, (gd_neg hk19.1).2]⟩⟩) dX8_atom3_162
    · have g_M19 := hw.rg
      obtain ⟨qz19, eq19, hf19⟩ := h19b
      have hx19 := (hx12).tr h19f
      refine x_ineg C dX8_atom3_22 ?_
      refine x_top (b := wr (-r19)) (II_self _).symm ?_
      refine lv_istore_n (lv' := [(1, .int (II (wr (-r19)))), (0, .ref (gA g 70))]) C.1 C.2.1 dX8_atom3_23 rfl hl (by decide) rfl (fun ls hl => ?_)
      refine lv_aload_n C.1 C.2.1 dX8_atom3_24 rfl (lv_at hl 1 rfl) ?_
      refine lv_dup C.1 C.2.1 dX8_atom3_25 rfl ?_
      refine g8 C hw 70 (by omega) rfl 24 (by decide) mw_848 (svi (x := 4) (by have := hf19.2.2; omega)) dX8_atom3_26 ?_
      refine lv_iconst (v := II 1) C.1 C.2.1 dX8_atom3_29 rfl ?_
      refine x_isub C dX8_atom3_30 ?_
      rw [show (4 - 1 : Int) = 3 from by decide]
      refine p8 C hw hS 70 (by omega) rfl 24 (by decide) mw_848 rfl (x := 3) ⟨by decide, by decide⟩ (svi st_s) (tyX8_ok 24 (by decide)) rfl rfl dX8_atom3_31 (fun H locs hw hS => ?_)
      have hw : Wo g (stM M19 70024 3) H := hw
      have hg34 := hf19.op (x := 3) (j := 3) (by decide)
      refine lv_goto (tgt := 161) C.1 C.2.1 dX8_atom3_34 (by decide) ?_
      refine lv_iload_n C.1 C.2.1 dX8_atom3_161 rfl (lv_at hl 0 rfl) ?_
      exact x_ireturn C hr hlk hw hS (rg_toInt _) rfl (by refine ⟨(hx19.st (by decide)), Or.inr ⟨qz19, by rw [q1_s]; exact p1_negn h5b eq19, hg34⟩⟩) dX8_atom3_162
  · have hw : Wo g M H := em5 ▸ hw
    rw [er5]
    refine x_if_eq (tgt := 37) C ⟨by decide, by decide⟩ dX8_atom3_8 (by decide) (fun _ => ?_) (fun h => absurd h (by decide))
    refine lv_aload_n C.1 C.2.1 dX8_atom3_37 rfl (lv_at hl 1 rfl) ?_
    refine lv_bipush (v := II 40) C.1 C.2.1 dX8_atom3_38 (by decide) ?_
    refine x_ci (x_runV (n := 1) C hw hS hml hl.1 70 8 (by omega) rfl (by decide) rfl (c_X8_isSign0 l g M hF b n f i 3 hs 40 ⟨by decide, by decide⟩ 4 (by decide)) mw_1079 mw_1081 mw_78 mw_130 mw_1082 rfl rfl (by decide +kernel) ⟨Nat.le_of_ble_eq_true rfl, Nat.le_of_ble_eq_true rfl⟩ rfl rfl (Nat.le_of_ble_eq_true rfl) dX8_atom3_40 ⟨Nat.zero_le _, Nat.zero_le _⟩) hS (fun r40 M40 H locs hr40 hp hw hS => ?_)
    rcases hp with ⟨em40, (⟨er40, h40b⟩ | ⟨er40, h40b⟩)⟩
    · have hw : Wo g M H := em40 ▸ hw
      rw [er40]
      obtain ⟨hm40, hw40⟩ := (sgn_iff (b := b) (n := n) (i := i) (x := 40) (tk := 4) (by decide) (by decide)).mp h40b
      refine x_if_eq (tgt := 95) C ⟨by decide, by decide⟩ dX8_atom3_43 (by decide) (fun h => absurd h (by decide)) (fun _ => ?_)
      refine lv_aload_n C.1 C.2.1 dX8_atom3_46 rfl (lv_at hl 1 rfl) ?_
      refine x_ci (x_runV (n := 0) C hw hS hml hl.1 70 8 (by omega) rfl (by decide) rfl (c_X8_opens0 l g M hF b n f i 3 (by decide) (by omega) hs) mw_1043 mw_1045 mw_69 mw_130 mw_1046 rfl rfl (by decide +kernel) ⟨Nat.le_of_ble_eq_true rfl, Nat.le_of_ble_eq_true rfl⟩ rfl rfl (Nat.le_of_ble_eq_true rfl) dX8_atom3_47 ⟨Nat.zero_le _, Nat.zero_le _⟩) hS (fun r47 M47 H locs hr47 hp hw hS => ?_)
      obtain ⟨er47, h47s, h47f⟩ := hp
      have g_M47 := hw.rg
      rw [er47] at hr47 ⊢
      have hs47 := h47s
      have ht47 := tK_7 (b := b) hs.1.2 (by omega)
      have hx47 := (MX.rfl').tr h47f
      refine x_if_eq (tgt := 161) C ⟨by decide, by decide⟩ dX8_atom3_50 (by decide) (fun h => absurd h (by decide)) (fun _ => ?_)
      refine lv_aload_n C.1 C.2.1 dX8_atom3_53 rfl (lv_at hl 1 rfl) ?_
      refine x_ci (x_runV (n := 0) C hw hS hml hl.1 70 8 (by omega) rfl (by decide) rfl (c_X8_either4 l g M47 hF nm (hnm.mx hx47) b n f (tE b n i) hs47) mw_1121 mw_1123 mw_88 mw_130 mw_1124 rfl rfl (by decide +kernel) ⟨Nat.le_of_ble_eq_true rfl, Nat.le_of_ble_eq_true rfl⟩ rfl rfl (Nat.le_of_ble_eq_true rfl) dX8_atom3_54 ⟨Nat.zero_le _, Nat.zero_le _⟩) hS (fun r54 M54 H locs hr54 hp hw hS => ?_)
      rcases hp with ⟨h54f, (h54b | h54b)⟩
      · have g_M54 := hw.rg
        obtain ⟨y54, j54, eq54, hs54, hv54⟩ := h54b
        have hx54 := (hx47).tr h54f
        have hk54 := (ok_qE b n 1).r hs47.1.2 eq54
        refine lv_istore_n (lv' := [(1, .int (II r54)), (0, .ref (gA g 70))]) C.1 C.2.1 dX8_atom3_57 rfl hl (by decide) rfl (fun ls hl => ?_)
        refine lv_aload_n C.1 C.2.1 dX8_atom3_58 rfl (lv_at hl 1 rfl) ?_
        refine lv_bipush (v := II 41) C.1 C.2.1 dX8_atom3_59 (by decide) ?_
        refine x_ci (x_runV (n := 1) C hw hS hml hl.1 70 8 (by omega) rfl (by decide) rfl (c_X8_isSign0 l g M54 hF b n f j54 4 hs54 41 ⟨by decide, by decide⟩ 5 (by decide)) mw_1079 mw_1081 mw_78 mw_130 mw_1082 rfl rfl (by decide +kernel) ⟨Nat.le_of_ble_eq_true rfl, Nat.le_of_ble_eq_true rfl⟩ rfl rfl (Nat.le_of_ble_eq_true rfl) dX8_atom3_61 ⟨Nat.zero_le _, Nat.zero_le _⟩) hS (fun r61 M61 H locs hr61 hp hw hS => ?_)
        rcases hp with ⟨em61, (⟨er61, h61b⟩ | ⟨er61, h61b⟩)⟩
        · have hw : Wo g M54 H := em61 ▸ hw
          rw [er61]
          obtain ⟨hm61, hw61⟩ := (sgn_iff (b := b) (n := n) (i := j54) (x := 41) (tk := 5) (by decide) (by decide)).mp h61b
          refine x_if_ne (tgt := 71) C ⟨by decide, by decide⟩ dX8_atom3_64 (by decide) (fun _ => ?_) (fun h => absurd h (by decide))
          refine lv_aload_n C.1 C.2.1 dX8_atom3_71 rfl (lv_at hl 1 rfl) ?_
          refine lv_dup C.1 C.2.1 dX8_atom3_72 rfl ?_
          refine g8 C hw 70 (by omega) rfl 24 (by decide) mw_848 (svi (x := 4) (by have := hs54.2.2.1; omega)) dX8_atom3_73 ?_
          refine lv_iconst (v := II 1) C.1 C.2.1 dX8_atom3_76 rfl ?_
          refine x_isub C dX8_atom3_77 ?_
          rw [show (4 - 1 : Int) = 3 from by decide]
          refine p8 C hw hS 70 (by omega) rfl 24 (by decide) mw_848 rfl (x := 3) ⟨by decide, by decide⟩ (svi st_s) (tyX8_ok 24 (by decide)) rfl rfl dX8_atom3_78 (fun H locs hw hS => ?_)
          have hw : Wo g (stM M54 70024 3) H := hw
          have hg81 := hs54.op (x := 3) (j := 3) (by decide)
          refine lv_aload_n C.1 C.2.1 dX8_atom3_81 rfl (lv_at hl 1 rfl) ?_
          refine g8 C hw 70 (by omega) rfl 25 (by decide) mw_849 (svi (x := 0) ((st_n (by decide)).trans hs54.2.2.2)) dX8_atom3_82 ?_
          refine x_if_ne (tgt := 161) C ⟨by decide, by decide⟩ dX8_atom3_85 (by decide) (fun h => absurd h (by decide)) (fun _ => ?_)
          refine lv_aload_n C.1 C.2.1 dX8_atom3_88 rfl (lv_at hl 1 rfl) ?_
          refine x_cv (x_runV (n := 0) C hw hS hml hl.1 70 8 (by omega) rfl (by decide) rfl (c_X8_next l g (stM M54 70024 3) hF b n f hg81.1.1 (tE b n j54) (tE_in hg81.1.2).2.1 (hg81.2.1.2.2.1 (by omega))) mw_1003 mw_1005 mw_60 mw_130 mw_1006 rfl rfl (by decide +kernel) ⟨Nat.le_of_ble_eq_true rfl, Nat.le_of_ble_eq_true rfl⟩ rfl rfl (Nat.le_of_ble_eq_true rfl) dX8_atom3_89 ⟨Nat.zero_le _, Nat.zero_le _⟩) hS (fun M89 H locs hp hw hS => ?_)
          have h89p := hp
          have g_M89 := hw.rg
          have hs89 := hg81.next h89p
          have ht89 := tK_7 (b := b) hg81.1.2 (by omega)
          have hx89 := ((hx54.st (by decide))).tr h89p.mx
          refine lv_goto (tgt := 161) C.1 C.2.1 dX8_atom3_92 (by decide) ?_
          refine lv_iload_n C.1 C.2.1 dX8_atom3_161 rfl (lv_at hl 0 rfl) ?_
          exact x_ireturn C hr hlk hw hS hr54 rfl (by refine ⟨hx89, Or.inl ⟨y54, (tE b n j54), by rw [q1_s]; exact p1_par h40b eq54 h61b, hs89, hv54⟩⟩) dX8_atom3_162
        · have hw : Wo g M54 H := em61 ▸ hw
          rw [er61]
          refine x_if_ne (tgt := 71) C ⟨by decide, by decide⟩ dX8_atom3_64 (by decide) (fun h => absurd h (by decide)) (fun _ => ?_)
          refine lv_aload_n C.1 C.2.1 dX8_atom3_67 rfl (lv_at hl 1 rfl) ?_
          refine x_cv (x_runV (n := 0) C hw hS hml hl.1 70 8 (by omega) rfl (by decide) rfl (c_X8_fail0 l g M54 hF (tS b n j54) hs54.2.1.2.1 hs54.2.2.2) mw_1027 mw_1029 mw_65 mw_130 mw_1030 rfl rfl (by decide +kernel) ⟨Nat.le_of_ble_eq_true rfl, Nat.le_of_ble_eq_true rfl⟩ rfl rfl (Nat.le_of_ble_eq_true rfl) dX8_atom3_68 ⟨Nat.zero_le _, Nat.zero_le _⟩) hS (fun M68 H locs hp hw hS => ?_)
          have em68 := hp
          have hw : Wo g (stM (stM M54 70025 1) 70026 ((tS b n j54) : Int)) H := em68 ▸ hw
          have hf68 := hs54.fl
          refine lv_aload_n C.1 C.2.1 dX8_atom3_71 rfl (lv_at hl 1 rfl) ?_
          refine lv_dup C.1 C.2.1 dX8_atom3_72 rfl ?_
          refine g8 C hw 70 (by omega) rfl 24 (by decide) mw_848 (svi (x := 4) ((st_n (by decide)).trans ((st_n (by decide)).trans (by have := hs54.2.2.1; omega)))) dX8_atom3_73 ?_
          refine lv_iconst (v := II 1) C.1 C.2.1 dX8_atom3_76 rfl ?_
          refine x_isub C dX8_atom3_77 ?_
          rw [show (4 - 1 : Int) = 3 from by decide]
          refine p8 C hw hS 70 (by omega) rfl 24 (by decide) mw_848 rfl (x := 3) ⟨by decide, by decide⟩ (svi st_s) (tyX8_ok 24 (by decide)) rfl rfl dX8_atom3_78 (fun H locs hw hS => ?_)
          have hw : Wo g (stM (stM (stM M54 70025 1) 70026 ((tS b n j54) : Int)) 70024 3) H := hw
          have hg81 := hf68.op (x := 3) (j := 3) (by decide)
          refine lv_aload_n C.1 C.2.1 dX8_atom3_81 rfl (lv_at hl 1 rfl) ?_
          refine g8 C hw 70 (by omega) rfl 25 (by decide) mw_849 (svi (x := 1) ((st_n (by decide)).trans ((st_n (by decide)).trans st_s))) dX8_atom3_82 ?_
          refine x_if_ne (tgt := 161) C ⟨by decide, by decide⟩ dX8_atom3_85 (by decide) (fun _ => ?_) (fun h => absurd h (by decide))
          refine lv_iload_n C.1 C.2.1 dX8_atom3_161 rfl (lv_at hl 0 rfl) ?_
          exact x_ireturn C hr hlk hw hS hr54 rfl (by refine ⟨(((hx54.st (by decide)).st (by decide)).st (by decide)), Or.inr ⟨(tS b n j54), by rw [q1_s]; exact p1_parn h40b eq54 h61b, hg81⟩⟩) dX8_atom3_162
      · have g_M54 := hw.rg
        obtain ⟨qz54, eq54, hf54⟩ := h54b
        have hx54 := (hx47).tr h54f
        refine lv_istore_n (lv' := [(1, .int (II r54)), (0, .ref (gA g 70))]) C.1 C.2.1 dX8_atom3_57 rfl hl (by decide) rfl (fun ls hl => ?_)
        refine lv_aload_n C.1 C.2.1 dX8_atom3_58 rfl (lv_at hl 1 rfl) ?_
        refine lv_bipush (v := II 41) C.1 C.2.1 dX8_atom3_59 (by decide) ?_
        refine x_ci (x_runV (n := 1) C hw hS hml hl.1 70 8 (by omega) rfl (by decide) rfl (c_X8_isSign1 l g M54 hF hf54.1 41 ⟨by decide, by decide⟩) mw_1079 mw_1081 mw_78 mw_130 mw_1082 rfl rfl (by decide +kernel) ⟨Nat.le_of_ble_eq_true rfl, Nat.le_of_ble_eq_true rfl⟩ rfl rfl (Nat.le_of_ble_eq_true rfl) dX8_atom3_61 ⟨Nat.zero_le _, Nat.zero_le _⟩) hS (fun r61 M61 H locs hr61 hp hw hS => ?_)
        obtain ⟨em61, er61⟩ := hp
        have hw : Wo g M54 H := em61 ▸ hw
        rw [er61] at hr61 ⊢
        refine x_if_ne (tgt := 71) C ⟨by decide, by decide⟩ dX8_atom3_64 (by decide) (fun h => absurd h (by decide)) (fun _ => ?_)
        refine lv_aload_n C.1 C.2.1 dX8_atom3_67 rfl (lv_at hl 1 rfl) ?_
        refine x_cv (x_runV (n := 0) C hw hS hml hl.1 70 8 (by omega) rfl (by decide) rfl (c_X8_fail1 l g M54 hF hf54.1) mw_1027 mw_1029 mw_65 mw_130 mw_1030 rfl rfl (by decide +kernel) ⟨Nat.le_of_ble_eq_true rfl, Nat.le_of_ble_eq_true rfl⟩ rfl rfl (Nat.le_of_ble_eq_true rfl) dX8_atom3_68 ⟨Nat.zero_le _, Nat.zero_le _⟩) hS (fun M68 H locs hp hw hS => ?_)
        have em68 := hp
        have hw : Wo g M54 H := em68 ▸ hw
        refine lv_aload_n C.1 C.2.1 dX8_atom3_71 rfl (lv_at hl 1 rfl) ?_
        refine lv_dup C.1 C.2.1 dX8_atom3_72 rfl ?_
        refine g8 C hw 70 (by omega) rfl 24 (by decide) mw_848 (svi (x := 4) (by have := hf54.2.2; omega)) dX8_atom3_73 ?_
        refine lv_iconst (v := II 1) C.1 C.2.1 dX8_atom3_76 rfl ?_
        refine x_isub C dX8_atom3_77 ?_
        rw [show (4 - 1 : Int) = 3 from by decide]
        refine p8 C hw hS 70 (by omega) rfl 24 (by decide) mw_848 rfl (x := 3) ⟨by decide, by decide⟩ (svi st_s) (tyX8_ok 24 (by decide)) rfl rfl dX8_atom3_78 (fun H locs hw hS => ?_)
        have hw : Wo g (stM M54 70024 3) H := hw
        have hg81 := hf54.op (x := 3) (j := 3) (by decide)
        refine lv_aload_n C.1 C.2.1 dX8_atom3_81 rfl (lv_at hl 1 rfl) ?_
        refine g8 C hw 70 (by omega) rfl 25 (by decide) mw_849 (svi (x := 1) ((st_n (by decide)).trans hf54.1)) dX8_atom3_82 ?_
        refine x_if_ne (tgt := 161) C ⟨by decide, by decide⟩ dX8_atom3_85 (by decide) (fun _ => ?_) (fun h => absurd h (by decide))
        refine lv_iload_n C.1 C.2.1 dX8_atom3_161 rfl (lv_at hl 0 rfl) ?_
        exact x_ireturn C hr hlk hw hS hr54 rfl (by refine ⟨(hx54.st (by decide)), Or.inr ⟨qz54, by rw [q1_s]; exact p1_pare h40b eq54, hg81⟩⟩) dX8_atom3_162
    · have hw : Wo g M H := em40 ▸ hw
      rw [er40]
      refine x_if_eq (tgt := 95) C ⟨by decide, by decide⟩ dX8_atom3_43 (by decide) (fun _ => ?_) (fun h => absurd h (by decide))
      refine lv_aload_n C.1 C.2.1 dX8_atom3_95 rfl (lv_at hl 1 rfl) ?_
      refine g8 C hw 70 (by omega) rfl 25 (by decide) mw_849 (svi (x := 0) hs.2.2.2) dX8_atom3_96 ?_
      refine x_if_ne (tgt := 123) C ⟨by decide, by decide⟩ dX8_atom3_99 (by decide) (fun h => absurd h (by decide)) (fun _ => ?_)
      refine lv_aload_n C.1 C.2.1 dX8_atom3_102 rfl (lv_at hl 1 rfl) ?_
      refine g8 C hw 70 (by omega) rfl 21 (by decide) mw_845 (svi (x := mT b n i) hs.2.1.1) dX8_atom3_103 ?_
      refine lv_iconst (v := II 2) C.1 C.2.1 dX8_atom3_106 rfl ?_
      refine x_icmp_ne (tgt := 123) C ⟨by have := g_M 70021; have := hs.2.1.1; omega, by have := g_M 70021; have := hs.2.1.1; omega⟩ ⟨by decide, by decide⟩ dX8_atom3_107 (by decide) (fun c107 => ?_) (fun c107 => ?_)
      · refine lv_aload_n C.1 C.2.1 dX8_atom3_123 rfl (lv_at hl 1 rfl) ?_
        refine g8 C hw 70 (by omega) rfl 25 (by decide) mw_849 (svi (x := 0) hs.2.2.2) dX8_atom3_124 ?_
        refine x_if_ne (tgt := 157) C ⟨by decide, by decide⟩ dX8_atom3_127 (by decide) (fun h => absurd h (by decide)) (fun _ => ?_)
        refine lv_aload_n C.1 C.2.1 dX8_atom3_130 rfl (lv_at hl 1 rfl) ?_
        refine g8 C hw 70 (by omega) rfl 21 (by decide) mw_845 (svi (x := mT b n i) hs.2.1.1) dX8_atom3_131 ?_
        refine lv_iconst (v := II 1) C.1 C.2.1 dX8_atom3_134 rfl ?_
        refine x_icmp_ne (tgt := 157) C ⟨by have := g_M 70021; have := hs.2.1.1; omega, by have := g_M 70021; have := hs.2.1.1; omega⟩ ⟨by decide, by decide⟩ dX8_atom3_135 (by decide) (fun c135 => ?_) (fun c135 => ?_)
        · refine lv_aload_n C.1 C.2.1 dX8_atom3_157 rfl (lv_at hl 1 rfl) ?_
          refine x_cv (x_runV (n := 0) C hw hS hml hl.1 70 8 (by omega) rfl (by decide) rfl (c_X8_fail0 l g M hF (tS b n i) hs.2.1.2.1 hs.2.2.2) mw_1027 mw_1029 mw_65 mw_130 mw_1030 rfl rfl (by decide +kernel) ⟨Nat.le_of_ble_eq_true rfl, Nat.le_of_ble_eq_true rfl⟩ rfl rfl (Nat.le_of_ble_eq_true rfl) dX8_atom3_158 ⟨Nat.zero_le _, Nat.zero_le _⟩) hS (fun M158 H locs hp hw hS => ?_)
          have em158 := hp
          have hw : Wo g (stM (stM M 70025 1) 70026 ((tS b n i) : Int)) H := em158 ▸ hw
          have hf158 := hs.fl
          refine lv_iload_n C.1 C.2.1 dX8_atom3_161 rfl (lv_at hl 0 rfl) ?_
          exact x_ireturn C hr hlk hw hS ⟨by decide, by decide⟩ rfl (by refine ⟨((MX.rfl'.st (by decide)).st (by decide)), Or.inr ⟨(tS b n i), by rw [q1_s]; exact p1_no (by omega) (by omega) (by omega) (fun q => absurd q.1 (by omega)), hf158⟩⟩) dX8_atom3_162
        · refine lv_aload_n C.1 C.2.1 dX8_atom3_138 rfl (lv_at hl 1 rfl) ?_
          refine x_ci (x_runV (n := 0) C hw hS hml hl.1 70 8 (by omega) rfl (by decide) rfl (c_X8_name l g M hF nm (hnm.mx MX.rfl') b n f i 3 hs) mw_1083 mw_1085 mw_79 mw_130 mw_1086 rfl rfl (by decide +kernel) ⟨Nat.le_of_ble_eq_true rfl, Nat.le_of_ble_eq_true rfl⟩ rfl rfl (Nat.le_of_ble_eq_true rfl) dX8_atom3_139 ⟨Nat.zero_le _, Nat.zero_le _⟩) hS (fun r139 M139 H locs hr139 hp hw hS => ?_)
          rcases hp with h139b | h139b
          · have g_M139 := hw.rg
            obtain ⟨hn139, hv139, hq139⟩ := h139b
            have hs139 : MS M139 b n f i 3 := by rw [hq139]; exact hs
            have hx139 : MX M M139 := by rw [hq139]; exact MX.rfl'
            refine lv_istore_n (lv' := [(1, .int (II r139)), (0, .ref (gA g 70))]) C.1 C.2.1 dX8_atom3_142 rfl hl (by decide) rfl (fun ls hl => ?_)
            refine lv_aload_n C.1 C.2.1 dX8_atom3_143 rfl (lv_at hl 1 rfl) ?_
            refine g8 C hw 70 (by omega) rfl 25 (by decide) mw_849 (svi (x := 0) hs139.2.2.2) dX8_atom3_144 ?_
            refine x_if_ne (tgt := 161) C ⟨by decide, by decide⟩ dX8_atom3_147 (by decide) (fun h => absurd h (by decide)) (fun _ => ?_)
            refine lv_aload_n C.1 C.2.1 dX8_atom3_150 rfl (lv_at hl 1 rfl) ?_
            refine x_cv (x_runV (n := 0) C hw hS hml hl.1 70 8 (by omega) rfl (by decide) rfl (c_X8_next l g M139 hF b n f hs139.1.1 (tE b n i) (tE_in hs139.1.2).2.1 (hs139.2.1.2.2.1 (by omega))) mw_1003 mw_1005 mw_60 mw_130 mw_1006 rfl rfl (by decide +kernel) ⟨Nat.le_of_ble_eq_true rfl, Nat.le_of_ble_eq_true rfl⟩ rfl rfl (Nat.le_of_ble_eq_true rfl) dX8_atom3_151 ⟨Nat.zero_le _, Nat.zero_le _⟩) hS (fun M151 H locs hp hw hS => ?_)
            have h151p := hp
            have g_M151 := hw.rg
            have hs151 := hs139.next h151p
            have ht151 := tK_7 (b := b) hs139.1.2 (by omega)
            have hx151 := (hx139).tr h151p.mx
            refine lv_goto (tgt := 161) C.1 C.2.1 dX8_atom3_154 (by decide) ?_
            refine lv_iload_n C.1 C.2.1 dX8_atom3_161 rfl (lv_at hl 0 rfl) ?_
            exact x_ireturn C hr hlk hw hS hr139 rfl (by refine ⟨hx151, Or.inl ⟨[tK b n i], (tE b n i), by rw [q1_s]; exact p1_nam hn139, hs151, by rw [hv139, (gd_nam hn139).2]⟩⟩) dX8_atom3_162
          · have g_M139 := hw.rg
            obtain ⟨hn139, hf139, hq139⟩ := h139b
            have hx139 := (MX.rfl').tr hq139
            refine lv_istore_n (lv' := [(1, .int (II r139)), (0, .ref (gA g 70))]) C.1 C.2.1 dX8_atom3_142 rfl hl (by decide) rfl (fun ls hl => ?_)
            refine lv_aload_n C.1 C.2.1 dX8_atom3_143 rfl (lv_at hl 1 rfl) ?_
            refine g8 C hw 70 (by omega) rfl 25 (by decide) mw_849 (svi (x := 1) hf139.1) dX8_atom3_144 ?_
            refine x_if_ne (tgt := 161) C ⟨by decide, by decide⟩ dX8_atom3_147 (by decide) (fun _ => ?_) (fun h => absurd h (by decide))
            refine lv_iload_n C.1 C.2.1 dX8_atom3_161 rfl (lv_at hl 0 rfl) ?_
            exact x_ireturn C hr hlk hw hS hr139 rfl (by refine ⟨hx139, Or.inr ⟨(tS b n i), by rw [q1_s]; exact p1_no (by omega) (by omega) (by omega) (fun q => absurd q.1 (by omega)), hf139⟩⟩) dX8_atom3_162
      · refine lv_aload_n C.1 C.2.1 dX8_atom3_110 rfl (lv_at hl 1 rfl) ?_
        skip
        refine g8 C hw 70 (by omega) rfl 23 (by decide) mw_847 (svl (x := tV b n i) (hs.2.1.2.2.2.1 (by omega))) dX8_atom3_111 ?_
        refine x_l2i C ⟨by have := g_M 70023; have := (hs.2.1.2.2.2.1 (by omega)); omega, by have := g_M 70023; have := (hs.2.1.2.2.2.1 (by omega)); omega⟩ dX8_atom3_114 ?_
        refine lv_istore_n (lv' := [(1, .int (II (tV b n i))), (0, .ref (gA g 70))]) C.1 C.2.1 dX8_atom3_115 rfl hl (by decide) rfl (fun ls hl => ?_)
        refine lv_aload_n C.1 C.2.1 dX8_atom3_116 rfl (lv_at hl 1 rfl) ?_
        refine x_cv (x_runV (n := 0) C hw hS hml hl.1 70 8 (by omega) rfl (by decide) rfl (c_X8_next l g M hF b n f hs.1.1 (tE b n i) (tE_in hs.1.2).2.1 (hs.2.1.2.2.1 (by omega))) mw_1003 mw_1005 mw_60 mw_130 mw_1006 rfl rfl (by decide +kernel) ⟨Nat.le_of_ble_eq_true rfl, Nat.le_of_ble_eq_true rfl⟩ rfl rfl (Nat.le_of_ble_eq_true rfl) dX8_atom3_117 ⟨Nat.zero_le _, Nat.zero_le _⟩) hS (fun M117 H locs hp hw hS => ?_)
        have h117p := hp
        have g_M117 := hw.rg
        have hs117 := hs.next h117p
        have ht117 := tK_7 (b := b) hs.1.2 (by omega)
        have hx117 := (MX.rfl').tr h117p.mx
        refine lv_goto (tgt := 161) C.1 C.2.1 dX8_atom3_120 (by decide) ?_
        refine lv_iload_n C.1 C.2.1 dX8_atom3_161 rfl (lv_at hl 0 rfl) ?_
        exact x_ireturn C hr hlk hw hS ⟨by have := g_M 70023; have := (hs.2.1.2.2.2.1 (by omega)); omega, by have := g_M 70023; have := (hs.2.1.2.2.2.1 (by omega)); omega⟩ rfl (by refine ⟨hx117, Or.inl ⟨[tV b n i], (tE b n i), by rw [q1_s]; exact p1_num (by omega), hs117, ((gd_num (tV_pos (by omega))).2 nm).symm⟩⟩) dX8_atom3_162

set_option maxHeartbeats 4000000 in
set_option maxRecDepth 100000 in
theorem c_X8_term3 (l : Launch) (g : Gm) (M : Nat → Int) (hF : LvF g) (nm : Nat → Int) (hnm : NMS M nm) (b : Nat → Int) (n : Nat) (f : Nat) (i : Nat) (hs : MS M b n f i 3) : CI l ({ cls := "RatedBySighsModel", name := "term3", desc := "()I" } : Jvm.MethodName) cX8_term3 2 .int (rmm 17 376) g M [.ref (gA g 70)] (fun r M' => (MX M M') ∧ (((∃ c j, qT b n 2 i = .inr (c, j) ∧ MS M' b n f j 3 ∧ r = vC nm c)) ∨ ((∃ q, qT b n 2 i = .inl q ∧ MF M' q 3)))) := by
  refine c_start (by decide) (Nat.le_of_ble_eq_true rfl) (fun p e s m below meth c ls C hr hlk hml hw hS hl => ?_)
  have hl : lv_has ls 2 [(0, .ref (gA g 70))] := hl
  generalize ([.ref (gA g 70)] : List Value).toArray = args at C ⊢
  generalize hQQ : MQ below (postI g (fun r M' => (MX M M') ∧ (((∃ c j, qT b n 2 i = .inr (c, j) ∧ MS M' b n f j 3 ∧ r = vC nm c)) ∨ ((∃ q, qT b n 2 i = .inl q ∧ MF M' q 3))))) args s 0 0 (ar g) = QQ
  have g_M := hw.rg
  have hN : gN g = 84 := hF.1
  refine lv_aload_n C.1 C.2.1 dX8_term3_0 rfl (lv_at hl 0 rfl) ?_
  refine x_ci (x_runV (n := 0) C hw hS hml hl.1 70 8 (by omega) rfl (by decide) rfl (c_X8_atom3 l g M hF nm (hnm.mx MX.rfl') b n f i hs) mw_1117 mw_1119 mw_87 mw_130 mw_1120 rfl rfl (by decide +kernel) ⟨Nat.le_of_ble_eq_true rfl, Nat.le_of_ble_eq_true rfl⟩ rfl rfl (Nat.le_of_ble_eq_true rfl) dX8_term3_1 ⟨Nat.zero_le _, Nat.zero_le _⟩) hS (fun r1 M1 H locs hr1 hp hw hS => ?_)
  rcases hp with ⟨h1f, (h1b | h1b)⟩
  · have g_M1 := hw.rg
    obtain ⟨y1, j1, eq1, hs1, hv1⟩ := h1b
    have hx1 := (MX.rfl').tr h1f
    have hk1 := (ok_q1 b n 2).r hs.1.2 eq1
    refine lv_istore_n (lv' := [(1, .int (II r1)), (0, .ref (gA g 70))]) C.1 C.2.1 dX8_term3_4 rfl hl (by decide) rfl (fun ls hl => ?_)
    have L5 : ∀ (f1 : Nat) (fu : Nat) (c1 : List Int) (j : Nat) (x : Int) (MM : Nat → Int), (n - j) < f1 → (j ≤ n ∧ n ≤ 160) → (i ≤ j) → (n - j < fu) → (MS MM b n f j 3) → (lpP b n (q1 b n 2) oTi fu c1 j = chP b n (q1 b n 2) oTi i) → (MX M MM) → (gdC c1) → (rg x) → (x = vC nm c1) → ∀ (H : Heap) (locs : List Loc) (ls : Array Slot), Wo g MM H → va_S (ar g) s.heap H locs → lv_has ls 2 [(0, .ref (gA g 70)), (1, .int (II x))] → W p l e (rmm 17 376) s m args below meth c H locs 0 0 QQ (F0 m 5 ls []) := by
      intro f1
      induction f1 with
      | zero => intro fu c1 j x MM hmu; exact absurd hmu (Nat.not_lt_zero _)
      | succ f1 ih =>
        intro fu c1 j x MM hmu h1 hi0 hfu hs2 hq hx hg gx hvx H locs ls hw hS hl
        have ih5 := ih
        have g_MM := hw.rg
        refine lv_aload_n C.1 C.2.1 dX8_term3_5 rfl (lv_at hl 0 rfl) ?_
        refine lv_bipush (v := II 42) C.1 C.2.1 dX8_term3_6 (by decide) ?_
        refine x_ci (x_runV (n := 1) C hw hS hml hl.1 70 8 (by omega) rfl (by decide) rfl (c_X8_isSign0 l g MM hF b n f j 3 hs2 42 ⟨by decide, by decide⟩ (-15) (by decide)) mw_1079 mw_1081 mw_78 mw_130 mw_1082 rfl rfl (by decide +kernel) ⟨Nat.le_of_ble_eq_true rfl, Nat.le_of_ble_eq_true rfl⟩ rfl rfl (Nat.le_of_ble_eq_true rfl) dX8_term3_8 ⟨Nat.zero_le _, Nat.zero_le _⟩) hS (fun r8 M8 H locs hr8 hp hw hS => ?_)
        rcases hp with ⟨em8, (⟨er8, h8b⟩ | ⟨er8, h8b⟩)⟩
        · have hw : Wo g MM H := em8 ▸ hw
          rw [er8]
          obtain ⟨hm8, hw8⟩ := (sgn_iff (b := b) (n := n) (i := j) (x := 42) (tk := (-15)) (by decide) (by decide)).mp h8b
          obtain ⟨f2, rfl⟩ : ∃ f2, fu = f2 + 1 := ⟨fu - 1, by omega⟩
          have hop : oTi (tK b n j) = true := decide_eq_true (by omega)
          refine x_if_eq (tgt := 28) C ⟨by decide, by decide⟩ dX8_term3_11 (by decide) (fun h => absurd h (by decide)) (fun _ => ?_)
          refine lv_aload_n C.1 C.2.1 dX8_term3_14 rfl (lv_at hl 0 rfl) ?_
          have hi9 := mT_in (b := b) (n := n) (i := j)
          refine x_cv (x_runV (n := 0) C hw hS hml hl.1 70 8 (by omega) rfl (by decide) rfl (c_X8_next l g MM hF b n f hs2.1.1 (tE b n j) (tE_in hs2.1.2).2.1 (hs2.2.1.2.2.1 (by omega))) mw_1003 mw_1005 mw_60 mw_130 mw_1006 rfl rfl (by decide +kernel) ⟨Nat.le_of_ble_eq_true rfl, Nat.le_of_ble_eq_true rfl⟩ rfl rfl (Nat.le_of_ble_eq_true rfl) dX8_term3_15 ⟨Nat.zero_le _, Nat.zero_le _⟩) hS (fun M15 H locs hp hw hS => ?_)
          have h15p := hp
          have g_M15 := hw.rg
          have hs15 := hs2.next h15p
          have ht15 := tK_7 (b := b) hs2.1.2 (by omega)
          have hx15 := (hx).tr h15p.mx
          refine lv_iload_n C.1 C.2.1 dX8_term3_18 rfl (lv_at hl 1 rfl) ?_
          refine lv_aload_n C.1 C.2.1 dX8_term3_19 rfl (lv_at hl 0 rfl) ?_
          refine x_ci (x_runV (n := 0) C hw hS hml hl.1 70 8 (by omega) rfl (by decide) rfl (c_X8_atom3 l g M15 hF nm (hnm.mx hx15) b n f (tE b n j) hs15) mw_1117 mw_1119 mw_87 mw_130 mw_1120 rfl rfl (by decide +kernel) ⟨Nat.le_of_ble_eq_true rfl, Nat.le_of_ble_eq_true rfl⟩ rfl rfl (Nat.le_of_ble_eq_true rfl) dX8_term3_20 ⟨Nat.zero_le _, Nat.zero_le _⟩) hS (fun r20 M20 H locs hr20 hp hw hS => ?_)
          rcases hp with ⟨h20f, (h20b | h20b)⟩
          · have g_M20 := hw.rg
            obtain ⟨y20, j20, eq20, hs20, hv20⟩ := h20b
            have hx20 := (hx15).tr h20f
            have hk20 := (ok_q1 b n 2).r hs15.1.2 eq20
            refine x_imul C dX8_term3_23 ?_
            refine x_top (b := wr (x * r20)) (II_self _).symm ?_
            refine lv_istore_n (lv' := [(1, .int (II (wr (x * r20)))), (0, .ref (gA g 70))]) C.1 C.2.1 dX8_term3_24 rfl hl (by decide) rfl (fun ls hl => ?_)
            refine lv_goto (tgt := 5) C.1 C.2.1 dX8_term3_25 (by decide) ?_
            exact ih5  f2 (c1 ++ y20 ++ [tK b n j]) j20 (wr (x * r20)) M20 (by omega) (by omega) (by omega) (by omega) hs20 ((lp_step hop eq20).symm.trans hq) hx20 ((gd_op hg hk20.1 (show tK b n j < -8 by omega)).1) (rg_toInt _) (by rw [(gd_op hg hk20.1 (show tK b n j < -8 by omega)).2, h8b, jk_15, ← hvx, ← hv20]) _ _ _ hw hS (lv_sub hl [1, 0] rfl)
          · have g_M20 := hw.rg
            obtain ⟨qz20, eq20, hf20⟩ := h20b
            have hx20 := (hx15).tr h20f
            refine x_imul C dX8_term3_23 ?_
            refine x_top (b := wr (x * r20)) (II_self _).symm ?_
            refine lv_istore_n (lv' := [(1, .int (II (wr (x * r20)))), (0, .ref (gA g 70))]) C.1 C.2.1 dX8_term3_24 rfl hl (by decide) rfl (fun ls hl => ?_)
            refine lv_goto (tgt := 5) C.1 C.2.1 dX8_term3_25 (by decide) ?_
            refine lv_aload_n C.1 C.2.1 dX8_term3_5 rfl (lv_at hl 1 rfl) ?_
            refine lv_bipush (v := II 42) C.1 C.2.1 dX8_term3_6 (by decide) ?_
            refine x_ci (x_runV (n := 1) C hw hS hml hl.1 70 8 (by omega) rfl (by decide) rfl (c_X8_isSign1 l g M20 hF hf20.1 42 ⟨by decide, by decide⟩) mw_1079 mw_1081 mw_78 mw_130 mw_1082 rfl rfl (by decide +kernel) ⟨Nat.le_of_ble_eq_true rfl, Nat.le_of_ble_eq_true rfl⟩ rfl rfl (Nat.le_of_ble_eq_true rfl) dX8_term3_8 ⟨Nat.zero_le _, Nat.zero_le _⟩) hS (fun r8 M8 H locs hr8 hp hw hS => ?_)
            obtain ⟨em8, er8⟩ := hp
            have hw : Wo g M20 H := em8 ▸ hw
            rw [er8] at hr8 ⊢
            refine x_if_eq (tgt := 28) C ⟨by decide, by decide⟩ dX8_term3_11 (by decide) (fun _ => ?_) (fun h => absurd h (by decide))
            refine lv_iload_n C.1 C.2.1 dX8_term3_28 rfl (lv_at hl 0 rfl) ?_
            subst hQQ; exact x_ireturn C hr hlk hw hS (rg_toInt _) rfl (by refine ⟨hx20, Or.inr ⟨qz20, by show chP b n (q1 b n 2) oTi i = _; rw [← hq]; exact lp_no hop eq20, hf20⟩⟩) dX8_term3_29
        · have hw : Wo g MM H := em8 ▸ hw
          rw [er8]
          refine x_if_eq (tgt := 28) C ⟨by decide, by decide⟩ dX8_term3_11 (by decide) (fun _ => ?_) (fun h => absurd h (by decide))
          refine lv_iload_n C.1 C.2.1 dX8_term3_28 rfl (lv_at hl 1 rfl) ?_
          subst hQQ; exact x_ireturn C hr hlk hw hS gx rfl (by refine ⟨hx, Or.inl ⟨c1, j, by show chP b n (q1 b n 2) oTi i = _; rw [← hq]; exact lp_end (decide_eq_false (by omega)), hs2, hvx⟩⟩) dX8_term3_29
    exact L5 _ 161 y1 j1 r1 M1 (Nat.lt_succ_self _) (by have := hs1.1.2; have := hs1.1.1.2.2.1; omega) (by omega) (by have := hs1.1.1.2.2.1; omega) hs1 ((ch_ok eq1).symm) hx1 hk1.1 hr1 hv1 _ _ _ hw hS (lv_sub hl [1, 0] rfl)
  · have g_M1 := hw.rg
    obtain ⟨qz1, eq1, hf1⟩ := h1b
    have hx1 := (MX.rfl').tr h1f
    refine lv_istore_n (lv' := [(1, .int (II r1)), (0, .ref (gA g 70))]) C.1 C.2.1 dX8_term3_4 rfl hl (by decide) rfl (fun ls hl => ?_)
    refine lv_aload_n C.1 C.2.1 dX8_term3_5 rfl (lv_at hl 1 rfl) ?_
    refine lv_bipush (v := II 42) C.1 C.2.1 dX8_term3_6 (by decide) ?_
    refine x_ci (x_runV (n := 1) C hw hS hml hl.1 70 8 (by omega) rfl (by decide) rfl (c_X8_isSign1 l g M1 hF hf1.1 42 ⟨by decide, by decide⟩) mw_1079 mw_1081 mw_78 mw_130 mw_1082 rfl rfl (by decide +kernel) ⟨Nat.le_of_ble_eq_true rfl, Nat.le_of_ble_eq_true rfl⟩ rfl rfl (Nat.le_of_ble_eq_true rfl) dX8_term3_8 ⟨Nat.zero_le _, Nat.zero_le _⟩) hS (fun r8 M8 H locs hr8 hp hw hS => ?_)
    obtain ⟨em8, er8⟩ := hp
    have hw : Wo g M1 H := em8 ▸ hw
    rw [er8] at hr8 ⊢
    refine x_if_eq (tgt := 28) C ⟨by decide, by decide⟩ dX8_term3_11 (by decide) (fun _ => ?_) (fun h => absurd h (by decide))
    refine lv_iload_n C.1 C.2.1 dX8_term3_28 rfl (lv_at hl 0 rfl) ?_
    subst hQQ; exact x_ireturn C hr hlk hw hS hr1 rfl (by refine ⟨hx1, Or.inr ⟨qz1, by show chP b n (q1 b n 2) oTi i = _; exact ch_no eq1, hf1⟩⟩) dX8_term3_29

set_option maxHeartbeats 4000000 in
set_option maxRecDepth 100000 in
theorem c_X8_added3 (l : Launch) (g : Gm) (M : Nat → Int) (hF : LvF g) (nm : Nat → Int) (hnm : NMS M nm) (b : Nat → Int) (n : Nat) (f : Nat) (i : Nat) (hs : MS M b n f i 3) : CI l ({ cls := "RatedBySighsModel", name := "added3", desc := "()I" } : Jvm.MethodName) cX8_added3 4 .int (rmm 18 397) g M [.ref (gA g 70)] (fun r M' => (MX M M') ∧ (((∃ c j, qS b n 2 i = .inr (c, j) ∧ MS M' b n f j 3 ∧ r = vC nm c)) ∨ ((∃ q, qS b n 2 i = .inl q ∧ MF M' q 3)))) := by
  refine c_start (by decide) (Nat.le_of_ble_eq_true rfl) (fun p e s m below meth c ls C hr hlk hml hw hS hl => ?_)
  have hl : lv_has ls 4 [(0, .ref (gA g 70))] := hl
  generalize ([.ref (gA g 70)] : List Value).toArray = args at C ⊢
  generalize hQQ : MQ below (postI g (fun r M' => (MX M M') ∧ (((∃ c j, qS b n 2 i = .inr (c, j) ∧ MS M' b n f j 3 ∧ r = vC nm c)) ∨ ((∃ q, qS b n 2 i = .inl q ∧ MF M' q 3))))) args s 0 0 (ar g) = QQ
  have g_M := hw.rg
  have hN : gN g = 84 := hF.1
  refine lv_aload_n C.1 C.2.1 dX8_added3_0 rfl (lv_at hl 0 rfl) ?_
  refine x_ci (x_runV (n := 0) C hw hS hml hl.1 70 8 (by omega) rfl (by decide) rfl (c_X8_term3 l g M hF nm (hnm.mx MX.rfl') b n f i hs) mw_1113 mw_1115 mw_86 mw_130 mw_1116 rfl rfl (by decide +kernel) ⟨Nat.le_of_ble_eq_true rfl, Nat.le_of_ble_eq_true rfl⟩ rfl rfl (Nat.le_of_ble_eq_true rfl) dX8_added3_1 ⟨Nat.zero_le _, Nat.zero_le _⟩) hS (fun r1 M1 H locs hr1 hp hw hS => ?_)
  rcases hp with ⟨h1f, (h1b | h1b)⟩
  · have g_M1 := hw.rg
    obtain ⟨y1, j1, eq1, hs1, hv1⟩ := h1b
    have hx1 := (MX.rfl').tr h1f
    have hk1 := (ok_qT b n 2).r hs.1.2 eq1
    refine lv_istore_n (lv' := [(1, .int (II r1)), (0, .ref (gA g 70))]) C.1 C.2.1 dX8_added3_4 rfl hl (by decide) rfl (fun ls hl => ?_)
    have L5 : ∀ (f1 : Nat) (fu : Nat) (c1 : List Int) (j : Nat) (x : Int) (MM : Nat → Int), (n - j) < f1 → (j ≤ n ∧ n ≤ 160) → (i ≤ j) → (n - j < fu) → (MS MM b n f j 3) → (lpP b n (qT b n 2) oPl fu c1 j = chP b n (qT b n 2) oPl i) → (MX M MM) → (gdC c1) → (rg x) → (x = vC nm c1) → ∀ (H : Heap) (locs : List Loc) (ls : Array Slot), Wo g MM H → va_S (ar g) s.heap H locs → lv_has ls 4 [(0, .ref (gA g 70)), (1, .int (II x))] → W p l e (rmm 18 397) s m args below meth c H locs 0 0 QQ (F0 m 5 ls []) := by
      intro f1
      induction f1 with
      | zero => intro fu c1 j x MM hmu; exact absurd hmu (Nat.not_lt_zero _)
      | succ f1 ih =>
        intro fu c1 j x MM hmu h1 hi0 hfu hs2 hq hx hg gx hvx H locs ls hw hS hl
        have ih5 := ih
        have g_MM := hw.rg
        refine lv_aload_n C.1 C.2.1 dX8_added3_5 rfl (lv_at hl 0 rfl) ?_
        refine lv_bipush (v := II 43) C.1 C.2.1 dX8_added3_6 (by decide) ?_
        refine x_ci (x_runV (n := 1) C hw hS hml hl.1 70 8 (by omega) rfl (by decide) rfl (c_X8_isSign0 l g MM hF b n f j 3 hs2 43 ⟨by decide, by decide⟩ (-13) (by decide)) mw_1079 mw_1081 mw_78 mw_130 mw_1082 rfl rfl (by decide +kernel) ⟨Nat.le_of_ble_eq_true rfl, Nat.le_of_ble_eq_true rfl⟩ rfl rfl (Nat.le_of_ble_eq_true rfl) dX8_added3_8 ⟨Nat.zero_le _, Nat.zero_le _⟩) hS (fun r8 M8 H locs hr8 hp hw hS => ?_)
        rcases hp with ⟨em8, (⟨er8, h8b⟩ | ⟨er8, h8b⟩)⟩
        · have hw : Wo g MM H := em8 ▸ hw
          rw [er8]
          obtain ⟨hm8, hw8⟩ := (sgn_iff (b := b) (n := n) (i := j) (x := 43) (tk := (-13)) (by decide) (by decide)).mp h8b
          obtain ⟨f2, rfl⟩ : ∃ f2, fu = f2 + 1 := ⟨fu - 1, by omega⟩
          have hop : oPl (tK b n j) = true := decide_eq_true (by omega)
          refine x_if_ne (tgt := 23) C ⟨by decide, by decide⟩ dX8_added3_11 (by decide) (fun _ => ?_) (fun h => absurd h (by decide))
          refine lv_aload_n C.1 C.2.1 dX8_added3_23 rfl (lv_at hl 0 rfl) ?_
          refine g8 C hw 70 (by omega) rfl 23 (by decide) mw_847 (svl (x := 43) ((hs2.2.1.2.2.2.2 (by omega)).trans hw8)) dX8_added3_24 ?_
          refine lv_ldc2 C.1 C.2.1 C.2.2.1 (C.2.2.2.1 _ mw_1087) dX8_added3_27 ?_
          rw [show (43 : Int64) = LL 43 from by decide]
          refine x_lcmp C ⟨by decide, by decide⟩ ⟨by decide, by decide⟩ dX8_added3_30 ?_
          rw [show cmpI 43 43 = 0 from by decide]
          refine x_if_ne (tgt := 38) C ⟨by decide, by decide⟩ dX8_added3_31 (by decide) (fun h => absurd h (by decide)) (fun _ => ?_)
          refine lv_iconst (v := II 1) C.1 C.2.1 dX8_added3_34 rfl ?_
          refine lv_goto (tgt := 39) C.1 C.2.1 dX8_added3_35 (by decide) ?_
          refine lv_istore_n (lv' := [(2, .int (II 1)), (0, .ref (gA g 70)), (1, .int (II x))]) C.1 C.2.1 dX8_added3_39 rfl hl (by decide) rfl (fun ls hl => ?_)
          refine lv_aload_n C.1 C.2.1 dX8_added3_40 rfl (lv_at hl 1 rfl) ?_
          have hi9 := mT_in (b := b) (n := n) (i := j)
          refine x_cv (x_runV (n := 0) C hw hS hml hl.1 70 8 (by omega) rfl (by decide) rfl (c_X8_next l g MM hF b n f hs2.1.1 (tE b n j) (tE_in hs2.1.2).2.1 (hs2.2.1.2.2.1 (by omega))) mw_1003 mw_1005 mw_60 mw_130 mw_1006 rfl rfl (by decide +kernel) ⟨Nat.le_of_ble_eq_true rfl, Nat.le_of_ble_eq_true rfl⟩ rfl rfl (Nat.le_of_ble_eq_true rfl) dX8_added3_41 ⟨Nat.zero_le _, Nat.zero_le _⟩) hS (fun M41 H locs hp hw hS => ?_)
          have h41p := hp
          have g_M41 := hw.rg
          have hs41 := hs2.next h41p
          have ht41 := tK_7 (b := b) hs2.1.2 (by omega)
          have hx41 := (hx).tr h41p.mx
          refine lv_aload_n C.1 C.2.1 dX8_added3_44 rfl (lv_at hl 1 rfl) ?_
          refine x_ci (x_runV (n := 0) C hw hS hml hl.1 70 8 (by omega) rfl (by decide) rfl (c_X8_term3 l g M41 hF nm (hnm.mx hx41) b n f (tE b n j) hs41) mw_1113 mw_1115 mw_86 mw_130 mw_1116 rfl rfl (by decide +kernel) ⟨Nat.le_of_ble_eq_true rfl, Nat.le_of_ble_eq_true rfl⟩ rfl rfl (Nat.le_of_ble_eq_true rfl) dX8_added3_45 ⟨Nat.zero_le _, Nat.zero_le _⟩) hS (fun r45 M45 H locs hr45 hp hw hS => ?_)
          rcases hp with ⟨h45f, (h45b | h45b)⟩
          · have g_M45 := hw.rg
            obtain ⟨y45, j45, eq45, hs45, hv45⟩ := h45b
            have hx45 := (hx41).tr h45f
            have hk45 := (ok_qT b n 2).r hs41.1.2 eq45
            refine lv_istore_n (lv' := [(3, .int (II r45)), (2, .int (II 1)), (0, .ref (gA g 70)), (1, .int (II x))]) C.1 C.2.1 dX8_added3_48 rfl hl (by decide) rfl (fun ls hl => ?_)
            refine lv_iload_n C.1 C.2.1 dX8_added3_49 rfl (lv_at hl 1 rfl) ?_
            refine x_if_eq (tgt := 59) C ⟨by decide, by decide⟩ dX8_added3_50 (by decide) (fun h => absurd h (by decide)) (fun _ => ?_)
            refine lv_iload_n C.1 C.2.1 dX8_added3_53 rfl (lv_at hl 3 rfl) ?_
            refine lv_iload_n C.1 C.2.1 dX8_added3_54 rfl (lv_at hl 0 rfl) ?_
            refine x_iadd C dX8_added3_55 ?_
            refine x_top (b := wr (x + r45)) (II_self _).symm ?_
            refine lv_goto (tgt := 62) C.1 C.2.1 dX8_added3_56 (by decide) ?_
            refine lv_istore_n (lv' := [(1, .int (II (wr (x + r45)))), (3, .int (II r45)), (2, .int (II 1)), (0, .ref (gA g 70))]) C.1 C.2.1 dX8_added3_62 rfl hl (by decide) rfl (fun ls hl => ?_)
            refine lv_goto (tgt := 5) C.1 C.2.1 dX8_added3_63 (by decide) ?_
            exact ih5  f2 (c1 ++ y45 ++ [tK b n j]) j45 (wr (x + r45)) M45 (by omega) (by omega) (by omega) (by omega) hs45 ((lp_step hop eq45).symm.trans hq) hx45 ((gd_op hg hk45.1 (show tK b n j < -8 by omega)).1) (rg_toInt _) (by rw [(gd_op hg hk45.1 (show tK b n j < -8 by omega)).2, h8b, jk_13, ← hvx, ← hv45]) _ _ _ hw hS (lv_sub hl [3, 0] rfl)
          · have g_M45 := hw.rg
            obtain ⟨qz45, eq45, hf45⟩ := h45b
            have hx45 := (hx41).tr h45f
            refine lv_istore_n (lv' := [(3, .int (II r45)), (2, .int (II 1)), (0, .ref (gA g 70)), (1, .int (II x))]) C.1 C.2.1 dX8_added3_48 rfl hl (by decide) rfl (fun ls hl => ?_)
            refine lv_iload_n C.1 C.2.1 dX8_added3_49 rfl (lv_at hl 1 rfl) ?_
            refine x_if_eq (tgt := 59) C ⟨by decide, by decide⟩ dX8_added3_50 (by decide) (fun h => absurd h (by decide)) (fun _ => ?_)
            refine lv_iload_n C.1 C.2.1 dX8_added3_53 rfl (lv_at hl 3 rfl) ?_
            refine lv_iload_n C.1 C.2.1 dX8_added3_54 rfl (lv_at hl 0 rfl) ?_
            refine x_iadd C dX8_added3_55 ?_
            refine x_top (b := wr (x + r45)) (II_self _).symm ?_
            refine lv_goto (tgt := 62) C.1 C.2.1 dX8_added3_56 (by decide) ?_
            refine lv_istore_n (lv' := [(1, .int (II (wr (x + r45)))), (3, .int (II r45)), (2, .int (II 1)), (0, .ref (gA g 70))]) C.1 C.2.1 dX8_added3_62 rfl hl (by decide) rfl (fun ls hl => ?_)
            refine lv_goto (tgt := 5) C.1 C.2.1 dX8_added3_63 (by decide) ?_
            refine lv_aload_n C.1 C.2.1 dX8_added3_5 rfl (lv_at hl 3 rfl) ?_
            refine lv_bipush (v := II 43) C.1 C.2.1 dX8_added3_6 (by decide) ?_
            refine x_ci (x_runV (n := 1) C hw hS hml hl.1 70 8 (by omega) rfl (by decide) rfl (c_X8_isSign1 l g M45 hF hf45.1 43 ⟨by decide, by decide⟩) mw_1079 mw_1081 mw_78 mw_130 mw_1082 rfl rfl (by decide +kernel) ⟨Nat.le_of_ble_eq_true rfl, Nat.le_of_ble_eq_true rfl⟩ rfl rfl (Nat.le_of_ble_eq_true rfl) dX8_added3_8 ⟨Nat.zero_le _, Nat.zero_le _⟩) hS (fun r8 M8 H locs hr8 hp hw hS => ?_)
            obtain ⟨em8, er8⟩ := hp
            have hw : Wo g M45 H := em8 ▸ hw
            rw [er8] at hr8 ⊢
            refine x_if_ne (tgt := 23) C ⟨by decide, by decide⟩ dX8_added3_11 (by decide) (fun h => absurd h (by decide)) (fun _ => ?_)
            refine lv_aload_n C.1 C.2.1 dX8_added3_14 rfl (lv_at hl 3 rfl) ?_
            refine lv_bipush (v := II 45) C.1 C.2.1 dX8_added3_15 (by decide) ?_
            refine x_ci (x_runV (n := 1) C hw hS hml hl.1 70 8 (by omega) rfl (by decide) rfl (c_X8_isSign1 l g M45 hF hf45.1 45 ⟨by decide, by decide⟩) mw_1079 mw_1081 mw_78 mw_130 mw_1082 rfl rfl (by decide +kernel) ⟨Nat.le_of_ble_eq_true rfl, Nat.le_of_ble_eq_true rfl⟩ rfl rfl (Nat.le_of_ble_eq_true rfl) dX8_added3_17 ⟨Nat.zero_le _, Nat.zero_le _⟩) hS (fun r17 M17 H locs hr17 hp hw hS => ?_)
            obtain ⟨em17, er17⟩ := hp
            have hw : Wo g M45 H := em17 ▸ hw
            rw [er17] at hr17 ⊢
            refine x_if_eq (tgt := 66) C ⟨by decide, by decide⟩ dX8_added3_20 (by decide) (fun _ => ?_) (fun h => absurd h (by decide))
            refine lv_iload_n C.1 C.2.1 dX8_added3_66 rfl (lv_at hl 0 rfl) ?_
            subst hQQ; exact x_ireturn C hr hlk hw hS (rg_toInt _) rfl (by refine ⟨hx45, Or.inr ⟨qz45, by show chP b n (qT b n 2) oPl i = _; rw [← hq]; exact lp_no hop eq45, hf45⟩⟩) dX8_added3_67
        · have hw : Wo g MM H := em8 ▸ hw
          rw [er8]
          refine x_if_ne (tgt := 23) C ⟨by decide, by decide⟩ dX8_added3_11 (by decide) (fun h => absurd h (by decide)) (fun _ => ?_)
          refine lv_aload_n C.1 C.2.1 dX8_added3_14 rfl (lv_at hl 0 rfl) ?_
          refine lv_bipush (v := II 45) C.1 C.2.1 dX8_added3_15 (by decide) ?_
          refine x_ci (x_runV (n := 1) C hw hS hml hl.1 70 8 (by omega) rfl (by decide) rfl (c_X8_isSign0 l g MM hF b n f j 3 hs2 45 ⟨by decide, by decide⟩ (-14) (by decide)) mw_1079 mw_1081 mw_78 mw_130 mw_1082 rfl rfl (by decide +kernel) ⟨Nat.le_of_ble_eq_true rfl, Nat.le_of_ble_eq_true rfl⟩ rfl rfl (Nat.le_of_ble_eq_true rfl) dX8_added3_17 ⟨Nat.zero_le _, Nat.zero_le _⟩) hS (fun r17 M17 H locs hr17 hp hw hS => ?_)
          rcases hp with ⟨em17, (⟨er17, h17b⟩ | ⟨er17, h17b⟩)⟩
          · have hw : Wo g MM H := em17 ▸ hw
            rw [er17]
            obtain ⟨hm17, hw17⟩ := (sgn_iff (b := b) (n := n) (i := j) (x := 45) (tk := (-14)) (by decide) (by decide)).mp h17b
            obtain ⟨f2, rfl⟩ : ∃ f2, fu = f2 + 1 := ⟨fu - 1, by omega⟩
            have hop : oPl (tK b n j) = true := decide_eq_true (by omega)
            refine x_if_eq (tgt := 66) C ⟨by decide, by decide⟩ dX8_added3_20 (by decide) (fun h => absurd h (by decide)) (fun _ => ?_)
            refine lv_aload_n C.1 C.2.1 dX8_added3_23 rfl (lv_at hl 0 rfl) ?_
            refine g8 C hw 70 (by omega) rfl 23 (by decide) mw_847 (svl (x := 45) ((hs2.2.1.2.2.2.2 (by omega)).trans hw17)) dX8_added3_24 ?_
            refine lv_ldc2 C.1 C.2.1 C.2.2.1 (C.2.2.2.1 _ mw_1087) dX8_added3_27 ?_
            rw [show (43 : Int64) = LL 43 from by decide]
            refine x_lcmp C ⟨by decide, by decide⟩ ⟨by decide, by decide⟩ dX8_added3_30 ?_
            rw [show cmpI 45 43 = 1 from by decide]
            refine x_if_ne (tgt := 38) C ⟨by decide, by decide⟩ dX8_added3_31 (by decide) (fun _ => ?_) (fun h => absurd h (by decide))
            refine lv_iconst (v := II 0) C.1 C.2.1 dX8_added3_38 rfl ?_
            refine lv_istore_n (lv' := [(2, .int (II 0)), (0, .ref (gA g 70)), (1, .int (II x))]) C.1 C.2.1 dX8_added3_39 rfl hl (by decide) rfl (fun ls hl => ?_)
            refine lv_aload_n C.1 C.2.1 dX8_added3_40 rfl (lv_at hl 1 rfl) ?_
            have hi9 := mT_in (b := b) (n := n) (i := j)
            refine x_cv (x_runV (n := 0) C hw hS hml hl.1 70 8 (by omega) rfl (by decide) rfl (c_X8_next l g MM hF b n f hs2.1.1 (tE b n j) (tE_in hs2.1.2).2.1 (hs2.2.1.2.2.1 (by omega))) mw_1003 mw_1005 mw_60 mw_130 mw_1006 rfl rfl (by decide +kernel) ⟨Nat.le_of_ble_eq_true rfl, Nat.le_of_ble_eq_true rfl⟩ rfl rfl (Nat.le_of_ble_eq_true rfl) dX8_added3_41 ⟨Nat.zero_le _, Nat.zero_le _⟩) hS (fun M41 H locs hp hw hS => ?_)
            have h41p := hp
            have g_M41 := hw.rg
            have hs41 := hs2.next h41p
            have ht41 := tK_7 (b := b) hs2.1.2 (by omega)
            have hx41 := (hx).tr h41p.mx
            refine lv_aload_n C.1 C.2.1 dX8_added3_44 rfl (lv_at hl 1 rfl) ?_
            refine x_ci (x_runV (n := 0) C hw hS hml hl.1 70 8 (by omega) rfl (by decide) rfl (c_X8_term3 l g M41 hF nm (hnm.mx hx41) b n f (tE b n j) hs41) mw_1113 mw_1115 mw_86 mw_130 mw_1116 rfl rfl (by decide +kernel) ⟨Nat.le_of_ble_eq_true rfl, Nat.le_of_ble_eq_true rfl⟩ rfl rfl (Nat.le_of_ble_eq_true rfl) dX8_added3_45 ⟨Nat.zero_le _, Nat.zero_le _⟩) hS (fun r45 M45 H locs hr45 hp hw hS => ?_)
            rcases hp with ⟨h45f, (h45b | h45b)⟩
            · have g_M45 := hw.rg
              obtain ⟨y45, j45, eq45, hs45, hv45⟩ := h45b
              have hx45 := (hx41).tr h45f
              have hk45 := (ok_qT b n 2).r hs41.1.2 eq45
              refine lv_istore_n (lv' := [(3, .int (II r45)), (2, .int (II 0)), (0, .ref (gA g 70)), (1, .int (II x))]) C.1 C.2.1 dX8_added3_48 rfl hl (by decide) rfl (fun ls hl => ?_)
              refine lv_iload_n C.1 C.2.1 dX8_added3_49 rfl (lv_at hl 1 rfl) ?_
              refine x_if_eq (tgt := 59) C ⟨by decide, by decide⟩ dX8_added3_50 (by decide) (fun _ => ?_) (fun h => absurd h (by decide))
              refine lv_iload_n C.1 C.2.1 dX8_added3_59 rfl (lv_at hl 3 rfl) ?_
              refine lv_iload_n C.1 C.2.1 dX8_added3_60 rfl (lv_at hl 0 rfl) ?_
              refine x_isub C dX8_added3_61 ?_
              refine x_top (b := wr (x - r45)) (II_self _).symm ?_
              refine lv_istore_n (lv' := [(1, .int (II (wr (x - r45)))), (3, .int (II r45)), (2, .int (II 0)), (0, .ref (gA g 70))]) C.1 C.2.1 dX8_added3_62 rfl hl (by decide) rfl (fun ls hl => ?_)
              refine lv_goto (tgt := 5) C.1 C.2.1 dX8_added3_63 (by decide) ?_
              exact ih5  f2 (c1 ++ y45 ++ [tK b n j]) j45 (wr (x - r45)) M45 (by omega) (by omega) (by omega) (by omega) hs45 ((lp_step hop eq45).symm.trans hq) hx45 ((gd_op hg hk45.1 (show tK b n j < -8 by omega)).1) (rg_toInt _) (by rw [(gd_op hg hk45.1 (show tK b n j < -8 by omega)).2, h17b, jk_14, ← hvx, ← hv45]) _ _ _ hw hS (lv_sub hl [3, 0] rfl)
            · have g_M45 := hw.rg
              obtain ⟨qz45, eq45, hf45⟩ := h45b
              have hx45 := (hx41).tr h45f
              refine lv_istore_n (lv' := [(3, .int (II r45)), (2, .int (II 0)), (0, .ref (gA g 70)), (1, .int (II x))]) C.1 C.2.1 dX8_added3_48 rfl hl (by decide) rfl (fun ls hl => ?_)
              refine lv_iload_n C.1 C.2.1 dX8_added3_49 rfl (lv_at hl 1 rfl) ?_
              refine x_if_eq (tgt := 59) C ⟨by decide, by decide⟩ dX8_added3_50 (by decide) (fun _ => ?_) (fun h => absurd h (by decide))
              refine lv_iload_n C.1 C.2.1 dX8_added3_59 rfl (lv_at hl 3 rfl) ?_
              refine lv_iload_n C.1 C.2.1 dX8_added3_60 rfl (lv_at hl 0 rfl) ?_
              refine x_isub C dX8_added3_61 ?_
              refine x_top (b := wr (x - r45)) (II_self _).symm ?_
              refine lv_istore_n (lv' := [(1, .int (II (wr (x - r45)))), (3, .int (II r45)), (2, .int (II 0)), (0, .ref (gA g 70))]) C.1 C.2.1 dX8_added3_62 rfl hl (by decide) rfl (fun ls hl => ?_)
              refine lv_goto (tgt := 5) C.1 C.2.1 dX8_added3_63 (by decide) ?_
              refine lv_aload_n C.1 C.2.1 dX8_added3_5 rfl (lv_at hl 3 rfl) ?_
              refine lv_bipush (v := II 43) C.1 C.2.1 dX8_added3_6 (by decide) ?_
              refine x_ci (x_runV (n := 1) C hw hS hml hl.1 70 8 (by omega) rfl (by decide) rfl (c_X8_isSign1 l g M45 hF hf45.1 43 ⟨by decide, by decide⟩) mw_1079 mw_1081 mw_78 mw_130 mw_1082 rfl rfl (by decide +kernel) ⟨Nat.le_of_ble_eq_true rfl, Nat.le_of_ble_eq_true rfl⟩ rfl rfl (Nat.le_of_ble_eq_true rfl) dX8_added3_8 ⟨Nat.zero_le _, Nat.zero_le _⟩) hS (fun r8 M8 H locs hr8 hp hw hS => ?_)
              obtain ⟨em8, er8⟩ := hp
              have hw : Wo g M45 H := em8 ▸ hw
              rw [er8] at hr8 ⊢
              refine x_if_ne (tgt := 23) C ⟨by decide, by decide⟩ dX8_added3_11 (by decide) (fun h => absurd h (by decide)) (fun _ => ?_)
              refine lv_aload_n C.1 C.2.1 dX8_added3_14 rfl (lv_at hl 3 rfl) ?_
              refine lv_bipush (v := II 45) C.1 C.2.1 dX8_added3_15 (by decide) ?_
              refine x_ci (x_runV (n := 1) C hw hS hml hl.1 70 8 (by omega) rfl (by decide) rfl (c_X8_isSign1 l g M45 hF hf45.1 45 ⟨by decide, by decide⟩) mw_1079 mw_1081 mw_78 mw_130 mw_1082 rfl rfl (by decide +kernel) ⟨Nat.le_of_ble_eq_true rfl, Nat.le_of_ble_eq_true rfl⟩ rfl rfl (Nat.le_of_ble_eq_true rfl) dX8_added3_17 ⟨Nat.zero_le _, Nat.zero_le _⟩) hS (fun r17 M17 H locs hr17 hp hw hS => ?_)
              obtain ⟨em17, er17⟩ := hp
              have hw : Wo g M45 H := em17 ▸ hw
              rw [er17] at hr17 ⊢
              refine x_if_eq (tgt := 66) C ⟨by decide, by decide⟩ dX8_added3_20 (by decide) (fun _ => ?_) (fun h => absurd h (by decide))
              refine lv_iload_n C.1 C.2.1 dX8_added3_66 rfl (lv_at hl 0 rfl) ?_
              subst hQQ; exact x_ireturn C hr hlk hw hS (rg_toInt _) rfl (by refine ⟨hx45, Or.inr ⟨qz45, by show chP b n (qT b n 2) oPl i = _; rw [← hq]; exact lp_no hop eq45, hf45⟩⟩) dX8_added3_67
          · have hw : Wo g MM H := em17 ▸ hw
            rw [er17]
            refine x_if_eq (tgt := 66) C ⟨by decide, by decide⟩ dX8_added3_20 (by decide) (fun _ => ?_) (fun h => absurd h (by decide))
            refine lv_iload_n C.1 C.2.1 dX8_added3_66 rfl (lv_at hl 1 rfl) ?_
            subst hQQ; exact x_ireturn C hr hlk hw hS gx rfl (by refine ⟨hx, Or.inl ⟨c1, j, by show chP b n (qT b n 2) oPl i = _; rw [← hq]; exact lp_end (decide_eq_false (by omega)), hs2, hvx⟩⟩) dX8_added3_67
    exact L5 _ 161 y1 j1 r1 M1 (Nat.lt_succ_self _) (by have := hs1.1.2; have := hs1.1.1.2.2.1; omega) (by omega) (by have := hs1.1.1.2.2.1; omega) hs1 ((ch_ok eq1).symm) hx1 hk1.1 hr1 hv1 _ _ _ hw hS (lv_sub hl [1, 0] rfl)
  · have g_M1 := hw.rg
    obtain ⟨qz1, eq1, hf1⟩ := h1b
    have hx1 := (MX.rfl').tr h1f
    refine lv_istore_n (lv' := [(1, .int (II r1)), (0, .ref (gA g 70))]) C.1 C.2.1 dX8_added3_4 rfl hl (by decide) rfl (fun ls hl => ?_)
    refine lv_aload_n C.1 C.2.1 dX8_added3_5 rfl (lv_at hl 1 rfl) ?_
    refine lv_bipush (v := II 43) C.1 C.2.1 dX8_added3_6 (by decide) ?_
    refine x_ci (x_runV (n := 1) C hw hS hml hl.1 70 8 (by omega) rfl (by decide) rfl (c_X8_isSign1 l g M1 hF hf1.1 43 ⟨by decide, by decide⟩) mw_1079 mw_1081 mw_78 mw_130 mw_1082 rfl rfl (by decide +kernel) ⟨Nat.le_of_ble_eq_true rfl, Nat.le_of_ble_eq_true rfl⟩ rfl rfl (Nat.le_of_ble_eq_true rfl) dX8_added3_8 ⟨Nat.zero_le _, Nat.zero_le _⟩) hS (fun r8 M8 H locs hr8 hp hw hS => ?_)
    obtain ⟨em8, er8⟩ := hp
    have hw : Wo g M1 H := em8 ▸ hw
    rw [er8] at hr8 ⊢
    refine x_if_ne (tgt := 23) C ⟨by decide, by decide⟩ dX8_added3_11 (by decide) (fun h => absurd h (by decide)) (fun _ => ?_)
    refine lv_aload_n C.1 C.2.1 dX8_added3_14 rfl (lv_at hl 1 rfl) ?_
    refine lv_bipush (v := II 45) C.1 C.2.1 dX8_added3_15 (by decide) ?_
    refine x_ci (x_runV (n := 1) C hw hS hml hl.1 70 8 (by omega) rfl (by decide) rfl (c_X8_isSign1 l g M1 hF hf1.1 45 ⟨by decide, by decide⟩) mw_1079 mw_1081 mw_78 mw_130 mw_1082 rfl rfl (by decide +kernel) ⟨Nat.le_of_ble_eq_true rfl, Nat.le_of_ble_eq_true rfl⟩ rfl rfl (Nat.le_of_ble_eq_true rfl) dX8_added3_17 ⟨Nat.zero_le _, Nat.zero_le _⟩) hS (fun r17 M17 H locs hr17 hp hw hS => ?_)
    obtain ⟨em17, er17⟩ := hp
    have hw : Wo g M1 H := em17 ▸ hw
    rw [er17] at hr17 ⊢
    refine x_if_eq (tgt := 66) C ⟨by decide, by decide⟩ dX8_added3_20 (by decide) (fun _ => ?_) (fun h => absurd h (by decide))
    refine lv_iload_n C.1 C.2.1 dX8_added3_66 rfl (lv_at hl 0 rfl) ?_
    subst hQQ; exact x_ireturn C hr hlk hw hS hr1 rfl (by refine ⟨hx1, Or.inr ⟨qz1, by show chP b n (qT b n 2) oPl i = _; exact ch_no eq1, hf1⟩⟩) dX8_added3_67

set_option maxHeartbeats 4000000 in
set_option maxRecDepth 100000 in
theorem c_X8_not3 (l : Launch) (g : Gm) (M : Nat → Int) (hF : LvF g) (nm : Nat → Int) (hnm : NMS M nm) (b : Nat → Int) (n : Nat) (f : Nat) (i : Nat) (hs : MS M b n f i 3) : CI l ({ cls := "RatedBySighsModel", name := "not3", desc := "()I" } : Jvm.MethodName) cX8_not3 4 .int (rmm 19 420) g M [.ref (gA g 70)] (fun r M' => (MX M M') ∧ (((∃ c j, qN b n 2 i = .inr (c, j) ∧ MS M' b n f j 3 ∧ r = vC nm c)) ∨ ((∃ q, qN b n 2 i = .inl q ∧ MF M' q 3)))) := by
  refine c_start (by decide) (Nat.le_of_ble_eq_true rfl) (fun p e s m below meth c ls C hr hlk hml hw hS hl => ?_)
  have hl : lv_has ls 4 [(0, .ref (gA g 70))] := hl
  have g_M := hw.rg
  have hN : gN g = 84 := hF.1
  have hi3 := mT_in (b := b) (n := n) (i := i)
  have hsg := sgT_in (x := b (tS b n i))
  have hwd := wdT_in (b := b) (s := tS b n i) (e := tE b n i)
  refine lv_aload_n C.1 C.2.1 dX8_not3_0 rfl (lv_at hl 0 rfl) ?_
  refine lv_bipush (v := II 110) C.1 C.2.1 dX8_not3_1 (by decide) ?_
  refine lv_bipush (v := II 111) C.1 C.2.1 dX8_not3_3 (by decide) ?_
  refine lv_bipush (v := II 116) C.1 C.2.1 dX8_not3_5 (by decide) ?_
  refine lv_iconst (v := II 0) C.1 C.2.1 dX8_not3_7 rfl ?_
  refine lv_iconst (v := II 0) C.1 C.2.1 dX8_not3_8 rfl ?_
  refine lv_iconst (v := II 0) C.1 C.2.1 dX8_not3_9 rfl ?_
  refine lv_iconst (v := II 0) C.1 C.2.1 dX8_not3_10 rfl ?_
  refine lv_iconst (v := II 0) C.1 C.2.1 dX8_not3_11 rfl ?_
  refine x_ci (x_runV (n := 8) C hw hS hml hl.1 70 8 (by omega) rfl (by decide) rfl (c_X8_isWord0 l g M hF b n f i 3 hs [110, 111, 116] (-8) 110 ⟨by decide, by decide⟩ 111 ⟨by decide, by decide⟩ 116 ⟨by decide, by decide⟩ 0 ⟨by decide, by decide⟩ 0 ⟨by decide, by decide⟩ 0 ⟨by decide, by decide⟩ 0 ⟨by decide, by decide⟩ 0 ⟨by decide, by decide⟩ (by decide) wd_not) mw_1015 mw_1017 mw_62 mw_130 mw_1018 rfl rfl (by decide +kernel) ⟨Nat.le_of_ble_eq_true rfl, Nat.le_of_ble_eq_true rfl⟩ rfl rfl (Nat.le_of_ble_eq_true rfl) dX8_not3_12 ⟨Nat.zero_le _, Nat.zero_le _⟩) hS (fun r12 M12 H locs hr12 hp hw hS => ?_)
  rcases hp with ⟨em12, (⟨er12, h12b⟩ | ⟨er12, h12b⟩)⟩
  · have hw : Wo g M H := em12 ▸ hw
    rw [er12]
    obtain ⟨hm12, -⟩ := (wrd_iff (b := b) (n := n) (i := i) wd_not).mp h12b
    refine x_if_eq (tgt := 52) C ⟨by decide, by decide⟩ dX8_not3_15 (by decide) (fun h => absurd h (by decide)) (fun _ => ?_)
    refine lv_aload_n C.1 C.2.1 dX8_not3_18 rfl (lv_at hl 0 rfl) ?_
    refine x_ci (x_runV (n := 0) C hw hS hml hl.1 70 8 (by omega) rfl (by decide) rfl (c_X8_opens0 l g M hF b n f i 3 (by decide) (by omega) hs) mw_1043 mw_1045 mw_69 mw_130 mw_1046 rfl rfl (by decide +kernel) ⟨Nat.le_of_ble_eq_true rfl, Nat.le_of_ble_eq_true rfl⟩ rfl rfl (Nat.le_of_ble_eq_true rfl) dX8_not3_19 ⟨Nat.zero_le _, Nat.zero_le _⟩) hS (fun r19 M19 H locs hr19 hp hw hS => ?_)
    obtain ⟨er19, h19s, h19f⟩ := hp
    have g_M19 := hw.rg
    rw [er19] at hr19 ⊢
    have hs19 := h19s
    have ht19 := tK_7 (b := b) hs.1.2 (by omega)
    have hx19 := (MX.rfl').tr h19f
    refine x_if_ne (tgt := 27) C ⟨by decide, by decide⟩ dX8_not3_22 (by decide) (fun _ => ?_) (fun h => absurd h (by decide))
    refine lv_aload_n C.1 C.2.1 dX8_not3_27 rfl (lv_at hl 0 rfl) ?_
    refine x_ci (x_runV (n := 0) C hw hS hml hl.1 70 8 (by omega) rfl (by decide) rfl (c_X8_not4 l g M19 hF nm (hnm.mx hx19) b n f (tE b n i) hs19) mw_1059 mw_1061 mw_73 mw_130 mw_1062 rfl rfl (by decide +kernel) ⟨Nat.le_of_ble_eq_true rfl, Nat.le_of_ble_eq_true rfl⟩ rfl rfl (Nat.le_of_ble_eq_true rfl) dX8_not3_28 ⟨Nat.zero_le _, Nat.zero_le _⟩) hS (fun r28 M28 H locs hr28 hp hw hS => ?_)
    rcases hp with ⟨h28f, (h28b | h28b)⟩
    · have g_M28 := hw.rg
      obtain ⟨y28, j28, eq28, hs28, hv28⟩ := h28b
      have hx28 := (hx19).tr h28f
      have hk28 := (ok_qN b n 1).r hs19.1.2 eq28
      refine lv_istore_n (lv' := [(1, .int (II r28)), (0, .ref (gA g 70))]) C.1 C.2.1 dX8_not3_31 rfl hl (by decide) rfl (fun ls hl => ?_)
      refine lv_aload_n C.1 C.2.1 dX8_not3_32 rfl (lv_at hl 1 rfl) ?_
      refine lv_dup C.1 C.2.1 dX8_not3_33 rfl ?_
      refine g8 C hw 70 (by omega) rfl 24 (by decide) mw_848 (svi (x := 4) (by have := hs28.2.2.1; omega)) dX8_not3_34 ?_
      refine lv_iconst (v := II 1) C.1 C.2.1 dX8_not3_37 rfl ?_
      refine x_isub C dX8_not3_38 ?_
      rw [show (4 - 1 : Int) = 3 from by decide]
      refine p8 C hw hS 70 (by omega) rfl 24 (by decide) mw_848 rfl (x := 3) ⟨by decide, by decide⟩ (svi st_s) (tyX8_ok 24 (by decide)) rfl rfl dX8_not3_39 (fun H locs hw hS => ?_)
      have hw : Wo g (stM M28 70024 3) H := hw
      have hg42 := hs28.op (x := 3) (j := 3) (by decide)
      refine lv_iload_n C.1 C.2.1 dX8_not3_42 rfl (lv_at hl 0 rfl) ?_
      refine x_if_ne (tgt := 50) C hr28 dX8_not3_43 (by decide) (fun c43 => ?_) (fun c43 => ?_)
      · refine lv_iconst (v := II 0) C.1 C.2.1 dX8_not3_50 rfl ?_
        exact x_ireturn C hr hlk hw hS ⟨by decide, by decide⟩ rfl (by refine ⟨(hx28.st (by decide)), Or.inl ⟨y28 ++ [-8], j28, by rw [qN_s]; exact pN_not h12b eq28, hg42, by rw [(gd_not hk28.1).2, ← hv28]; first | (rw [if_pos (by omega)]; done) | (rw [if_neg (by omega)]; done)⟩⟩) dX8_not3_51
      · refine lv_iconst (v := II 1) C.1 C.2.1 dX8_not3_46 rfl ?_
        refine lv_goto (tgt := 51) C.1 C.2.1 dX8_not3_47 (by decide) ?_
        exact x_ireturn C hr hlk hw hS ⟨by decide, by decide⟩ rfl (by refine ⟨(hx28.st (by decide)), Or.inl ⟨y28 ++ [-8], j28, by rw [qN_s]; exact pN_not h12b eq28, hg42, by rw [(gd_not hk28.1).2, ← hv28]; first | (rw [if_pos (by omega)]; done) | (rw [if_neg (by omega)]; done)⟩⟩) dX8_not3_51
    · have g_M28 := hw.rg
      obtain ⟨qz28, eq28, hf28⟩ := h28b
      have hx28 := (hx19).tr h28f
      refine lv_istore_n (lv' := [(1, .int (II r28)), (0, .ref (gA g 70))]) C.1 C.2.1 dX8_not3_31 rfl hl (by decide) rfl (fun ls hl => ?_)
      refine lv_aload_n C.1 C.2.1 dX8_not3_32 rfl (lv_at hl 1 rfl) ?_
      refine lv_dup C.1 C.2.1 dX8_not3_33 rfl ?_
      refine g8 C hw 70 (by omega) rfl 24 (by decide) mw_848 (svi (x := 4) (by have := hf28.2.2; omega)) dX8_not3_34 ?_
      refine lv_iconst (v := II 1) C.1 C.2.1 dX8_not3_37 rfl ?_
      refine x_isub C dX8_not3_38 ?_
      rw [show (4 - 1 : Int) = 3 from by decide]
      refine p8 C hw hS 70 (by omega) rfl 24 (by decide) mw_848 rfl (x := 3) ⟨by decide, by decide⟩ (svi st_s) (tyX8_ok 24 (by decide)) rfl rfl dX8_not3_39 (fun H locs hw hS => ?_)
      have hw : Wo g (stM M28 70024 3) H := hw
      have hg42 := hf28.op (x := 3) (j := 3) (by decide)
      refine lv_iload_n C.1 C.2.1 dX8_not3_42 rfl (lv_at hl 0 rfl) ?_
      refine x_if_ne (tgt := 50) C hr28 dX8_not3_43 (by decide) (fun c43 => ?_) (fun c43 => ?_)
      · refine lv_iconst (v := II 0) C.1 C.2.1 dX8_not3_50 rfl ?_
        exact x_ireturn C hr hlk hw hS ⟨by decide, by decide⟩ rfl (by refine ⟨(hx28.st (by decide)), Or.inr ⟨qz28, by rw [qN_s]; exact pN_notn h12b eq28, hg42⟩⟩) dX8_not3_51
      · refine lv_iconst (v := II 1) C.1 C.2.1 dX8_not3_46 rfl ?_
        refine lv_goto (tgt := 51) C.1 C.2.1 dX8_not3_47 (by decide) ?_
        exact x_ireturn C hr hlk hw hS ⟨by decide, by decide⟩ rfl (by refine ⟨(hx28.st (by decide)), Or.inr ⟨qz28, by rw [qN_s]; exact pN_notn h12b eq28, hg42⟩⟩) dX8_not3_51
  · have hw : Wo g M H := em12 ▸ hw
    rw [er12]
    refine x_if_eq (tgt := 52) C ⟨by decide, by decide⟩ dX8_not3_15 (by decide) (fun _ => ?_) (fun h => absurd h (by decide))
    refine lv_aload_n C.1 C.2.1 dX8_not3_52 rfl (lv_at hl 0 rfl) ?_
    refine x_ci (x_runV (n := 0) C hw hS hml hl.1 70 8 (by omega) rfl (by decide) rfl (c_X8_added3 l g M hF nm (hnm.mx MX.rfl') b n f i hs) mw_1109 mw_1111 mw_85 mw_130 mw_1112 rfl rfl (by decide +kernel) ⟨Nat.le_of_ble_eq_true rfl, Nat.le_of_ble_eq_true rfl⟩ rfl rfl (Nat.le_of_ble_eq_true rfl) dX8_not3_53 ⟨Nat.zero_le _, Nat.zero_le _⟩) hS (fun r53 M53 H locs hr53 hp hw hS => ?_)
    rcases hp with ⟨h53f, (h53b | h53b)⟩
    · have g_M53 := hw.rg
      obtain ⟨y53, j53, eq53, hs53, hv53⟩ := h53b
      have hx53 := (MX.rfl').tr h53f
      have hk53 := (ok_qS b n 2).r hs.1.2 eq53
      refine lv_istore_n (lv' := [(1, .int (II r53)), (0, .ref (gA g 70))]) C.1 C.2.1 dX8_not3_56 rfl hl (by decide) rfl (fun ls hl => ?_)
      refine lv_aload_n C.1 C.2.1 dX8_not3_57 rfl (lv_at hl 1 rfl) ?_
      refine lv_bipush (v := II 60) C.1 C.2.1 dX8_not3_58 (by decide) ?_
      refine x_ci (x_runV (n := 1) C hw hS hml hl.1 70 8 (by omega) rfl (by decide) rfl (c_X8_isSign0 l g M53 hF b n f j53 3 hs53 60 ⟨by decide, by decide⟩ (-11) (by decide)) mw_1079 mw_1081 mw_78 mw_130 mw_1082 rfl rfl (by decide +kernel) ⟨Nat.le_of_ble_eq_true rfl, Nat.le_of_ble_eq_true rfl⟩ rfl rfl (Nat.le_of_ble_eq_true rfl) dX8_not3_60 ⟨Nat.zero_le _, Nat.zero_le _⟩) hS (fun r60 M60 H locs hr60 hp hw hS => ?_)
      rcases hp with ⟨em60, (⟨er60, h60b⟩ | ⟨er60, h60b⟩)⟩
      · have hw : Wo g M53 H := em60 ▸ hw
        rw [er60]
        obtain ⟨hm60, hw60⟩ := (sgn_iff (b := b) (n := n) (i := j53) (x := 60) (tk := (-11)) (by decide) (by decide)).mp h60b
        refine x_if_ne (tgt := 77) C ⟨by decide, by decide⟩ dX8_not3_63 (by decide) (fun _ => ?_) (fun h => absurd h (by decide))
        refine lv_aload_n C.1 C.2.1 dX8_not3_77 rfl (lv_at hl 1 rfl) ?_
        refine g8 C hw 70 (by omega) rfl 23 (by decide) mw_847 (svl (x := 60) ((hs53.2.1.2.2.2.2 (by omega)).trans hw60)) dX8_not3_78 ?_
        refine lv_ldc2 C.1 C.2.1 C.2.2.1 (C.2.2.2.1 _ mw_1088) dX8_not3_81 ?_
        rw [show (60 : Int64) = LL 60 from by decide]
        refine x_lcmp C ⟨by decide, by decide⟩ ⟨by decide, by decide⟩ dX8_not3_84 ?_
        rw [show cmpI 60 60 = 0 from by decide]
        refine x_if_ne (tgt := 92) C ⟨by decide, by decide⟩ dX8_not3_85 (by decide) (fun h => absurd h (by decide)) (fun _ => ?_)
        refine lv_iconst (v := II 1) C.1 C.2.1 dX8_not3_88 rfl ?_
        refine lv_goto (tgt := 93) C.1 C.2.1 dX8_not3_89 (by decide) ?_
        refine lv_istore_n (lv' := [(2, .int (II 1)), (1, .int (II r53)), (0, .ref (gA g 70))]) C.1 C.2.1 dX8_not3_93 rfl hl (by decide) rfl (fun ls hl => ?_)
        refine lv_aload_n C.1 C.2.1 dX8_not3_94 rfl (lv_at hl 2 rfl) ?_
        have hi9 := mT_in (b := b) (n := n) (i := j53)
        refine x_cv (x_runV (n := 0) C hw hS hml hl.1 70 8 (by omega) rfl (by decide) rfl (c_X8_next l g M53 hF b n f hs53.1.1 (tE b n j53) (tE_in hs53.1.2).2.1 (hs53.2.1.2.2.1 (by omega))) mw_1003 mw_1005 mw_60 mw_130 mw_1006 rfl rfl (by decide +kernel) ⟨Nat.le_of_ble_eq_true rfl, Nat.le_of_ble_eq_true rfl⟩ rfl rfl (Nat.le_of_ble_eq_true rfl) dX8_not3_95 ⟨Nat.zero_le _, Nat.zero_le _⟩) hS (fun M95 H locs hp hw hS => ?_)
        have h95p := hp
        have g_M95 := hw.rg
        have hs95 := hs53.next h95p
        have ht95 := tK_7 (b := b) hs53.1.2 (by omega)
        have hx95 := (hx53).tr h95p.mx
        refine lv_aload_n C.1 C.2.1 dX8_not3_98 rfl (lv_at hl 2 rfl) ?_
        refine x_ci (x_runV (n := 0) C hw hS hml hl.1 70 8 (by omega) rfl (by decide) rfl (c_X8_added3 l g M95 hF nm (hnm.mx hx95) b n f (tE b n j53) hs95) mw_1109 mw_1111 mw_85 mw_130 mw_1112 rfl rfl (by decide +kernel) ⟨Nat.le_of_ble_eq_true rfl, Nat.le_of_ble_eq_true rfl⟩ rfl rfl (Nat.le_of_ble_eq_true rfl) dX8_not3_99 ⟨Nat.zero_le _, Nat.zero_le _⟩) hS (fun r99 M99 H locs hr99 hp hw hS => ?_)
        rcases hp with ⟨h99f, (h99b | h99b)⟩
        · have g_M99 := hw.rg
          obtain ⟨y99, j99, eq99, hs99, hv99⟩ := h99b
          have hx99 := (hx95).tr h99f
          have hk99 := (ok_qS b n 2).r hs95.1.2 eq99
          refine lv_istore_n (lv' := [(3, .int (II r99)), (2, .int (II 1)), (1, .int (II r53)), (0, .ref (gA g 70))]) C.1 C.2.1 dX8_not3_102 rfl hl (by decide) rfl (fun ls hl => ?_)
          refine lv_iload_n C.1 C.2.1 dX8_not3_103 rfl (lv_at hl 1 rfl) ?_
          refine x_if_eq (tgt := 115) C ⟨by decide, by decide⟩ dX8_not3_104 (by decide) (fun h => absurd h (by decide)) (fun _ => ?_)
          refine lv_iload_n C.1 C.2.1 dX8_not3_107 rfl (lv_at hl 2 rfl) ?_
          refine lv_iload_n C.1 C.2.1 dX8_not3_108 rfl (lv_at hl 0 rfl) ?_
          refine x_icmp_ge (tgt := 124) C hr53 hr99 dX8_not3_109 (by decide) (fun c109 => ?_) (fun c109 => ?_)
          · refine lv_iconst (v := II 0) C.1 C.2.1 dX8_not3_124 rfl ?_
            exact x_ireturn C hr hlk hw hS ⟨by decide, by decide⟩ rfl (by refine ⟨hx99, Or.inl ⟨y53 ++ y99 ++ [tK b n j53], j99, by rw [qN_s]; exact pN_two h12b eq53 (by omega) eq99, hs99, by rw [(gd_op hk53.1 hk99.1 (show tK b n j53 < -8 by omega)).2, h60b, jk_11, ← hv53, ← hv99]; first | (rw [if_pos (by omega)]; done) | (rw [if_neg (by omega)]; done)⟩⟩) dX8_not3_125
          · refine lv_goto (tgt := 120) C.1 C.2.1 dX8_not3_112 (by decide) ?_
            refine lv_iconst (v := II 1) C.1 C.2.1 dX8_not3_120 rfl ?_
            refine lv_goto (tgt := 125) C.1 C.2.1 dX8_not3_121 (by decide) ?_
            exact x_ireturn C hr hlk hw hS ⟨by decide, by decide⟩ rfl (by refine ⟨hx99, Or.inl ⟨y53 ++ y99 ++ [tK b n j53], j99, by rw [qN_s]; exact pN_two h12b eq53 (by omega) eq99, hs99, by rw [(gd_op hk53.1 hk99.1 (show tK b n j53 < -8 by omega)).2, h60b, jk_11, ← hv53, ← hv99]; first | (rw [if_pos (by omega)]; done) | (rw [if_neg (by omega)]; done)⟩⟩) dX8_not3_125
        · have g_M99 := hw.rg
          obtain ⟨qz99, eq99, hf99⟩ := h99b
          have hx99 := (hx95).tr h99f
          refine lv_istore_n (lv' := [(3, .int (II r99)), (2, .int (II 1)), (1, .int (II r53)), (0, .ref (gA g 70))]) C.1 C.2.1 dX8_not3_102 rfl hl (by decide) rfl (fun ls hl => ?_)
          refine lv_iload_n C.1 C.2.1 dX8_not3_103 rfl (lv_at hl 1 rfl) ?_
          refine x_if_eq (tgt := 115) C ⟨by decide, by decide⟩ dX8_not3_104 (by decide) (fun h => absurd h (by decide)) (fun _ => ?_)
          refine lv_iload_n C.1 C.2.1 dX8_not3_107 rfl (lv_at hl 2 rfl) ?_
          refine lv_iload_n C.1 C.2.1 dX8_not3_108 rfl (lv_at hl 0 rfl) ?_
          refine x_icmp_ge (tgt := 124) C hr53 hr99 dX8_not3_109 (by decide) (fun c109 => ?_) (fun c109 => ?_)
          · refine lv_iconst (v := II 0) C.1 C.2.1 dX8_not3_124 rfl ?_
            exact x_ireturn C hr hlk hw hS ⟨by decide, by decide⟩ rfl (by refine ⟨hx99, Or.inr ⟨qz99, by rw [qN_s]; exact pN_twon h12b eq53 (by omega) eq99, hf99⟩⟩) dX8_not3_125
          · refine lv_goto (tgt := 120) C.1 C.2.1 dX8_not3_112 (by decide) ?_
            refine lv_iconst (v := II 1) C.1 C.2.1 dX8_not3_120 rfl ?_
            refine lv_goto (tgt := 125) C.1 C.2.1 dX8_not3_121 (by decide) ?_
            exact x_ireturn C hr hlk hw hS ⟨by decide, by decide⟩ rfl (by refine ⟨hx99, Or.inr ⟨qz99, by rw [qN_s]; exact pN_twon h12b eq53 (by omega) eq99, hf99⟩⟩) dX8_not3_125
      · have hw : Wo g M53 H := em60 ▸ hw
        rw [er60]
        refine x_if_ne (tgt := 77) C ⟨by decide, by decide⟩ dX8_not3_63 (by decide) (fun h => absurd h (by decide)) (fun _ => ?_)
        refine lv_aload_n C.1 C.2.1 dX8_not3_66 rfl (lv_at hl 1 rfl) ?_
        refine lv_bipush (v := II 61) C.1 C.2.1 dX8_not3_67 (by decide) ?_
        refine x_ci (x_runV (n := 1) C hw hS hml hl.1 70 8 (by omega) rfl (by decide) rfl (c_X8_isSign0 l g M53 hF b n f j53 3 hs53 61 ⟨by decide, by decide⟩ (-12) (by decide)) mw_1079 mw_1081 mw_78 mw_130 mw_1082 rfl rfl (by decide +kernel) ⟨Nat.le_of_ble_eq_true rfl, Nat.le_of_ble_eq_true rfl⟩ rfl rfl (Nat.le_of_ble_eq_true rfl) dX8_not3_69 ⟨Nat.zero_le _, Nat.zero_le _⟩) hS (fun r69 M69 H locs hr69 hp hw hS => ?_)
        rcases hp with ⟨em69, (⟨er69, h69b⟩ | ⟨er69, h69b⟩)⟩
        · have hw : Wo g M53 H := em69 ▸ hw
          rw [er69]
          obtain ⟨hm69, hw69⟩ := (sgn_iff (b := b) (n := n) (i := j53) (x := 61) (tk := (-12)) (by decide) (by decide)).mp h69b
          refine x_if_ne (tgt := 77) C ⟨by decide, by decide⟩ dX8_not3_72 (by decide) (fun _ => ?_) (fun h => absurd h (by decide))
          refine lv_aload_n C.1 C.2.1 dX8_not3_77 rfl (lv_at hl 1 rfl) ?_
          refine g8 C hw 70 (by omega) rfl 23 (by decide) mw_847 (svl (x := 61) ((hs53.2.1.2.2.2.2 (by omega)).trans hw69)) dX8_not3_78 ?_
          refine lv_ldc2 C.1 C.2.1 C.2.2.1 (C.2.2.2.1 _ mw_1088) dX8_not3_81 ?_
          rw [show (60 : Int64) = LL 60 from by decide]
          refine x_lcmp C ⟨by decide, by decide⟩ ⟨by decide, by decide⟩ dX8_not3_84 ?_
          rw [show cmpI 61 60 = 1 from by decide]
          refine x_if_ne (tgt := 92) C ⟨by decide, by decide⟩ dX8_not3_85 (by decide) (fun _ => ?_) (fun h => absurd h (by decide))
          refine lv_iconst (v := II 0) C.1 C.2.1 dX8_not3_92 rfl ?_
          refine lv_istore_n (lv' := [(2, .int (II 0)), (1, .int (II r53)), (0, .ref (gA g 70))]) C.1 C.2.1 dX8_not3_93 rfl hl (by decide) rfl (fun ls hl => ?_)
          refine lv_aload_n C.1 C.2.1 dX8_not3_94 rfl (lv_at hl 2 rfl) ?_
          have hi9 := mT_in (b := b) (n := n) (i := j53)
          refine x_cv (x_runV (n := 0) C hw hS hml hl.1 70 8 (by omega) rfl (by decide) rfl (c_X8_next l g M53 hF b n f hs53.1.1 (tE b n j53) (tE_in hs53.1.2).2.1 (hs53.2.1.2.2.1 (by omega))) mw_1003 mw_1005 mw_60 mw_130 mw_1006 rfl rfl (by decide +kernel) ⟨Nat.le_of_ble_eq_true rfl, Nat.le_of_ble_eq_true rfl⟩ rfl rfl (Nat.le_of_ble_eq_true rfl) dX8_not3_95 ⟨Nat.zero_le _, Nat.zero_le _⟩) hS (fun M95 H locs hp hw hS => ?_)
          have h95p := hp
          have g_M95 := hw.rg
          have hs95 := hs53.next h95p
          have ht95 := tK_7 (b := b) hs53.1.2 (by omega)
          have hx95 := (hx53).tr h95p.mx
          refine lv_aload_n C.1 C.2.1 dX8_not3_98 rfl (lv_at hl 2 rfl) ?_
          refine x_ci (x_runV (n := 0) C hw hS hml hl.1 70 8 (by omega) rfl (by decide) rfl (c_X8_added3 l g M95 hF nm (hnm.mx hx95) b n f (tE b n j53) hs95) mw_1109 mw_1111 mw_85 mw_130 mw_1112 rfl rfl (by decide +kernel) ⟨Nat.le_of_ble_eq_true rfl, Nat.le_of_ble_eq_true rfl⟩ rfl rfl (Nat.le_of_ble_eq_true rfl) dX8_not3_99 ⟨Nat.zero_le _, Nat.zero_le _⟩) hS (fun r99 M99 H locs hr99 hp hw hS => ?_)
          rcases hp with ⟨h99f, (h99b | h99b)⟩
          · have g_M99 := hw.rg
            obtain ⟨y99, j99, eq99, hs99, hv99⟩ := h99b
            have hx99 := (hx95).tr h99f
            have hk99 := (ok_qS b n 2).r hs95.1.2 eq99
            refine lv_istore_n (lv' := [(3, .int (II r99)), (2, .int (II 0)), (1, .int (II r53)), (0, .ref (gA g 70))]) C.1 C.2.1 dX8_not3_102 rfl hl (by decide) rfl (fun ls hl => ?_)
            refine lv_iload_n C.1 C.2.1 dX8_not3_103 rfl (lv_at hl 1 rfl) ?_
            refine x_if_eq (tgt := 115) C ⟨by decide, by decide⟩ dX8_not3_104 (by decide) (fun _ => ?_) (fun h => absurd h (by decide))
            refine lv_iload_n C.1 C.2.1 dX8_not3_115 rfl (lv_at hl 2 rfl) ?_
            refine lv_iload_n C.1 C.2.1 dX8_not3_116 rfl (lv_at hl 0 rfl) ?_
            refine x_icmp_ne (tgt := 124) C hr53 hr99 dX8_not3_117 (by decide) (fun c117 => ?_) (fun c117 => ?_)
            · refine lv_iconst (v := II 0) C.1 C.2.1 dX8_not3_124 rfl ?_
              exact x_ireturn C hr hlk hw hS ⟨by decide, by decide⟩ rfl (by refine ⟨hx99, Or.inl ⟨y53 ++ y99 ++ [tK b n j53], j99, by rw [qN_s]; exact pN_two h12b eq53 (by omega) eq99, hs99, by rw [(gd_op hk53.1 hk99.1 (show tK b n j53 < -8 by omega)).2, h69b, jk_12, ← hv53, ← hv99]; first | (rw [if_pos (by omega)]; done) | (rw [if_neg (by omega)]; done)⟩⟩) dX8_not3_125
            · refine lv_iconst (v := II 1) C.1 C.2.1 dX8_not3_120 rfl ?_
              refine lv_goto (tgt := 125) C.1 C.2.1 dX8_not3_121 (by decide) ?_
              exact x_ireturn C hr hlk hw hS ⟨by decide, by decide⟩ rfl (by refine ⟨hx99, Or.inl ⟨y53 ++ y99 ++ [tK b n j53], j99, by rw [qN_s]; exact pN_two h12b eq53 (by omega) eq99, hs99, by rw [(gd_op hk53.1 hk99.1 (show tK b n j53 < -8 by omega)).2, h69b, jk_12, ← hv53, ← hv99]; first | (rw [if_pos (by omega)]; done) | (rw [if_neg (by omega)]; done)⟩⟩) dX8_not3_125
          · have g_M99 := hw.rg
            obtain ⟨qz99, eq99, hf99⟩ := h99b
            have hx99 := (hx95).tr h99f
            refine lv_istore_n (lv' := [(3, .int (II r99)), (2, .int (II 0)), (1, .int (II r53)), (0, .ref (gA g 70))]) C.1 C.2.1 dX8_not3_102 rfl hl (by decide) rfl (fun ls hl => ?_)
            refine lv_iload_n C.1 C.2.1 dX8_not3_103 rfl (lv_at hl 1 rfl) ?_
            refine x_if_eq (tgt := 115) C ⟨by decide, by decide⟩ dX8_not3_104 (by decide) (fun _ => ?_) (fun h => absurd h (by decide))
            refine lv_iload_n C.1 C.2.1 dX8_not3_115 rfl (lv_at hl 2 rfl) ?_
            refine lv_iload_n C.1 C.2.1 dX8_not3_116 rfl (lv_at hl 0 rfl) ?_
            refine x_icmp_ne (tgt := 124) C hr53 hr99 dX8_not3_117 (by decide) (fun c117 => ?_) (fun c117 => ?_)
            · refine lv_iconst (v := II 0) C.1 C.2.1 dX8_not3_124 rfl ?_
              exact x_ireturn C hr hlk hw hS ⟨by decide, by decide⟩ rfl (by refine ⟨hx99, Or.inr ⟨qz99, by rw [qN_s]; exact pN_twon h12b eq53 (by omega) eq99, hf99⟩⟩) dX8_not3_125
            · refine lv_iconst (v := II 1) C.1 C.2.1 dX8_not3_120 rfl ?_
              refine lv_goto (tgt := 125) C.1 C.2.1 dX8_not3_121 (by decide) ?_
              exact x_ireturn C hr hlk hw hS ⟨by decide, by decide⟩ rfl (by refine ⟨hx99, Or.inr ⟨qz99, by rw [qN_s]; exact pN_twon h12b eq53 (by omega) eq99, hf99⟩⟩) dX8_not3_125
        · have hw : Wo g M53 H := em69 ▸ hw
          rw [er69]
          refine x_if_ne (tgt := 77) C ⟨by decide, by decide⟩ dX8_not3_72 (by decide) (fun h => absurd h (by decide)) (fun _ => ?_)
          refine lv_iload_n C.1 C.2.1 dX8_not3_75 rfl (lv_at hl 0 rfl) ?_
          exact x_ireturn C hr hlk hw hS hr53 rfl (by refine ⟨hx53, Or.inl ⟨y53, j53, by rw [qN_s]; exact pN_one h12b eq53 (by omega), hs53, hv53⟩⟩) dX8_not3_76
    · have g_M53 := hw.rg
      obtain ⟨qz53, eq53, hf53⟩ := h53b
      have hx53 := (MX.rfl').tr h53f
      refine lv_istore_n (lv' := [(1, .int (II r53)), (0, .ref (gA g 70))]) C.1 C.2.1 dX8_not3_56 rfl hl (by decide) rfl (fun ls hl => ?_)
      refine lv_aload_n C.1 C.2.1 dX8_not3_57 rfl (lv_at hl 1 rfl) ?_
      refine lv_bipush (v := II 60) C.1 C.2.1 dX8_not3_58 (by decide) ?_
      refine x_ci (x_runV (n := 1) C hw hS hml hl.1 70 8 (by omega) rfl (by decide) rfl (c_X8_isSign1 l g M53 hF hf53.1 60 ⟨by decide, by decide⟩) mw_1079 mw_1081 mw_78 mw_130 mw_1082 rfl rfl (by decide +kernel) ⟨Nat.le_of_ble_eq_true rfl, Nat.le_of_ble_eq_true rfl⟩ rfl rfl (Nat.le_of_ble_eq_true rfl) dX8_not3_60 ⟨Nat.zero_le _, Nat.zero_le _⟩) hS (fun r60 M60 H locs hr60 hp hw hS => ?_)
      obtain ⟨em60, er60⟩ := hp
      have hw : Wo g M53 H := em60 ▸ hw
      rw [er60] at hr60 ⊢
      refine x_if_ne (tgt := 77) C ⟨by decide, by decide⟩ dX8_not3_63 (by decide) (fun h => absurd h (by decide)) (fun _ => ?_)
      refine lv_aload_n C.1 C.2.1 dX8_not3_66 rfl (lv_at hl 1 rfl) ?_
      refine lv_bipush (v := II 61) C.1 C.2.1 dX8_not3_67 (by decide) ?_
      refine x_ci (x_runV (n := 1) C hw hS hml hl.1 70 8 (by omega) rfl (by decide) rfl (c_X8_isSign1 l g M53 hF hf53.1 61 ⟨by decide, by decide⟩) mw_1079 mw_1081 mw_78 mw_130 mw_1082 rfl rfl (by decide +kernel) ⟨Nat.le_of_ble_eq_true rfl, Nat.le_of_ble_eq_true rfl⟩ rfl rfl (Nat.le_of_ble_eq_true rfl) dX8_not3_69 ⟨Nat.zero_le _, Nat.zero_le _⟩) hS (fun r69 M69 H locs hr69 hp hw hS => ?_)
      obtain ⟨em69, er69⟩ := hp
      have hw : Wo g M53 H := em69 ▸ hw
      rw [er69] at hr69 ⊢
      refine x_if_ne (tgt := 77) C ⟨by decide, by decide⟩ dX8_not3_72 (by decide) (fun h => absurd h (by decide)) (fun _ => ?_)
      refine lv_iload_n C.1 C.2.1 dX8_not3_75 rfl (lv_at hl 0 rfl) ?_
      exact x_ireturn C hr hlk hw hS hr53 rfl (by refine ⟨hx53, Or.inr ⟨qz53, by rw [qN_s]; exact pN_no h12b eq53, hf53⟩⟩) dX8_not3_76

set_option maxHeartbeats 4000000 in
set_option maxRecDepth 100000 in
theorem c_X8_both3 (l : Launch) (g : Gm) (M : Nat → Int) (hF : LvF g) (nm : Nat → Int) (hnm : NMS M nm) (b : Nat → Int) (n : Nat) (f : Nat) (i : Nat) (hs : MS M b n f i 3) : CI l ({ cls := "RatedBySighsModel", name := "both3", desc := "()I" } : Jvm.MethodName) cX8_both3 3 .int (rmm 20 443) g M [.ref (gA g 70)] (fun r M' => (MX M M') ∧ (((∃ c j, qA b n 2 i = .inr (c, j) ∧ MS M' b n f j 3 ∧ r = vC nm c)) ∨ ((∃ q, qA b n 2 i = .inl q ∧ MF M' q 3)))) := by
  refine c_start (by decide) (Nat.le_of_ble_eq_true rfl) (fun p e s m below meth c ls C hr hlk hml hw hS hl => ?_)
  have hl : lv_has ls 3 [(0, .ref (gA g 70))] := hl
  generalize ([.ref (gA g 70)] : List Value).toArray = args at C ⊢
  generalize hQQ : MQ below (postI g (fun r M' => (MX M M') ∧ (((∃ c j, qA b n 2 i = .inr (c, j) ∧ MS M' b n f j 3 ∧ r = vC nm c)) ∨ ((∃ q, qA b n 2 i = .inl q ∧ MF M' q 3))))) args s 0 0 (ar g) = QQ
  have g_M := hw.rg
  have hN : gN g = 84 := hF.1
  refine lv_aload_n C.1 C.2.1 dX8_both3_0 rfl (lv_at hl 0 rfl) ?_
  refine x_ci (x_runV (n := 0) C hw hS hml hl.1 70 8 (by omega) rfl (by decide) rfl (c_X8_not3 l g M hF nm (hnm.mx MX.rfl') b n f i hs) mw_1055 mw_1057 mw_72 mw_130 mw_1058 rfl rfl (by decide +kernel) ⟨Nat.le_of_ble_eq_true rfl, Nat.le_of_ble_eq_true rfl⟩ rfl rfl (Nat.le_of_ble_eq_true rfl) dX8_both3_1 ⟨Nat.zero_le _, Nat.zero_le _⟩) hS (fun r1 M1 H locs hr1 hp hw hS => ?_)
  rcases hp with ⟨h1f, (h1b | h1b)⟩
  · have g_M1 := hw.rg
    obtain ⟨y1, j1, eq1, hs1, hv1⟩ := h1b
    have hx1 := (MX.rfl').tr h1f
    have hk1 := (ok_qN b n 2).r hs.1.2 eq1
    refine lv_istore_n (lv' := [(1, .int (II r1)), (0, .ref (gA g 70))]) C.1 C.2.1 dX8_both3_4 rfl hl (by decide) rfl (fun ls hl => ?_)
    have L5 : ∀ (f1 : Nat) (fu : Nat) (c1 : List Int) (j : Nat) (x : Int) (MM : Nat → Int), (n - j) < f1 → (j ≤ n ∧ n ≤ 160) → (i ≤ j) → (n - j < fu) → (MS MM b n f j 3) → (lpP b n (qN b n 2) oAn fu c1 j = chP b n (qN b n 2) oAn i) → (MX M MM) → (gdC c1) → (rg x) → (x = vC nm c1) → ∀ (H : Heap) (locs : List Loc) (ls : Array Slot), Wo g MM H → va_S (ar g) s.heap H locs → lv_has ls 3 [(0, .ref (gA g 70)), (1, .int (II x))] → W p l e (rmm 20 443) s m args below meth c H locs 0 0 QQ (F0 m 5 ls []) := by
      intro f1
      induction f1 with
      | zero => intro fu c1 j x MM hmu; exact absurd hmu (Nat.not_lt_zero _)
      | succ f1 ih =>
        intro fu c1 j x MM hmu h1 hi0 hfu hs2 hq hx hg gx hvx H locs ls hw hS hl
        have ih5 := ih
        have g_MM := hw.rg
        refine lv_aload_n C.1 C.2.1 dX8_both3_5 rfl (lv_at hl 0 rfl) ?_
        refine lv_bipush (v := II 97) C.1 C.2.1 dX8_both3_6 (by decide) ?_
        refine lv_bipush (v := II 110) C.1 C.2.1 dX8_both3_8 (by decide) ?_
        refine lv_bipush (v := II 100) C.1 C.2.1 dX8_both3_10 (by decide) ?_
        refine lv_iconst (v := II 0) C.1 C.2.1 dX8_both3_12 rfl ?_
        refine lv_iconst (v := II 0) C.1 C.2.1 dX8_both3_13 rfl ?_
        refine lv_iconst (v := II 0) C.1 C.2.1 dX8_both3_14 rfl ?_
        refine lv_iconst (v := II 0) C.1 C.2.1 dX8_both3_15 rfl ?_
        refine lv_iconst (v := II 0) C.1 C.2.1 dX8_both3_16 rfl ?_
        refine x_ci (x_runV (n := 8) C hw hS hml hl.1 70 8 (by omega) rfl (by decide) rfl (c_X8_isWord0 l g MM hF b n f j 3 hs2 [97, 110, 100] (-10) 97 ⟨by decide, by decide⟩ 110 ⟨by decide, by decide⟩ 100 ⟨by decide, by decide⟩ 0 ⟨by decide, by decide⟩ 0 ⟨by decide, by decide⟩ 0 ⟨by decide, by decide⟩ 0 ⟨by decide, by decide⟩ 0 ⟨by decide, by decide⟩ (by decide) wd_and) mw_1015 mw_1017 mw_62 mw_130 mw_1018 rfl rfl (by decide +kernel) ⟨Nat.le_of_ble_eq_true rfl, Nat.le_of_ble_eq_true rfl⟩ rfl rfl (Nat.le_of_ble_eq_true rfl) dX8_both3_17 ⟨Nat.zero_le _, Nat.zero_le _⟩) hS (fun r17 M17 H locs hr17 hp hw hS => ?_)
        rcases hp with ⟨em17, (⟨er17, h17b⟩ | ⟨er17, h17b⟩)⟩
        · have hw : Wo g MM H := em17 ▸ hw
          rw [er17]
          obtain ⟨hm17, -⟩ := (wrd_iff (b := b) (n := n) (i := j) wd_and).mp h17b
          obtain ⟨f2, rfl⟩ : ∃ f2, fu = f2 + 1 := ⟨fu - 1, by omega⟩
          have hop : oAn (tK b n j) = true := decide_eq_true (by omega)
          refine x_if_eq (tgt := 49) C ⟨by decide, by decide⟩ dX8_both3_20 (by decide) (fun h => absurd h (by decide)) (fun _ => ?_)
          refine lv_aload_n C.1 C.2.1 dX8_both3_23 rfl (lv_at hl 0 rfl) ?_
          have hi9 := mT_in (b := b) (n := n) (i := j)
          refine x_cv (x_runV (n := 0) C hw hS hml hl.1 70 8 (by omega) rfl (by decide) rfl (c_X8_next l g MM hF b n f hs2.1.1 (tE b n j) (tE_in hs2.1.2).2.1 (hs2.2.1.2.2.1 (by omega))) mw_1003 mw_1005 mw_60 mw_130 mw_1006 rfl rfl (by decide +kernel) ⟨Nat.le_of_ble_eq_true rfl, Nat.le_of_ble_eq_true rfl⟩ rfl rfl (Nat.le_of_ble_eq_true rfl) dX8_both3_24 ⟨Nat.zero_le _, Nat.zero_le _⟩) hS (fun M24 H locs hp hw hS => ?_)
          have h24p := hp
          have g_M24 := hw.rg
          have hs24 := hs2.next h24p
          have ht24 := tK_7 (b := b) hs2.1.2 (by omega)
          have hx24 := (hx).tr h24p.mx
          refine lv_aload_n C.1 C.2.1 dX8_both3_27 rfl (lv_at hl 0 rfl) ?_
          refine x_ci (x_runV (n := 0) C hw hS hml hl.1 70 8 (by omega) rfl (by decide) rfl (c_X8_not3 l g M24 hF nm (hnm.mx hx24) b n f (tE b n j) hs24) mw_1055 mw_1057 mw_72 mw_130 mw_1058 rfl rfl (by decide +kernel) ⟨Nat.le_of_ble_eq_true rfl, Nat.le_of_ble_eq_true rfl⟩ rfl rfl (Nat.le_of_ble_eq_true rfl) dX8_both3_28 ⟨Nat.zero_le _, Nat.zero_le _⟩) hS (fun r28 M28 H locs hr28 hp hw hS => ?_)
          rcases hp with ⟨h28f, (h28b | h28b)⟩
          · have g_M28 := hw.rg
            obtain ⟨y28, j28, eq28, hs28, hv28⟩ := h28b
            have hx28 := (hx24).tr h28f
            have hk28 := (ok_qN b n 2).r hs24.1.2 eq28
            refine lv_istore_n (lv' := [(2, .int (II r28)), (0, .ref (gA g 70)), (1, .int (II x))]) C.1 C.2.1 dX8_both3_31 rfl hl (by decide) rfl (fun ls hl => ?_)
            refine lv_iload_n C.1 C.2.1 dX8_both3_32 rfl (lv_at hl 2 rfl) ?_
            refine x_if_eq (tgt := 44) C gx dX8_both3_33 (by decide) (fun c33 => ?_) (fun c33 => ?_)
            · refine lv_iconst (v := II 0) C.1 C.2.1 dX8_both3_44 rfl ?_
              refine lv_istore_n (lv' := [(1, .int (II 0)), (2, .int (II r28)), (0, .ref (gA g 70))]) C.1 C.2.1 dX8_both3_45 rfl hl (by decide) rfl (fun ls hl => ?_)
              refine lv_goto (tgt := 5) C.1 C.2.1 dX8_both3_46 (by decide) ?_
              exact ih5  f2 (c1 ++ y28 ++ [tK b n j]) j28 0 M28 (by omega) (by omega) (by omega) (by omega) hs28 ((lp_step hop eq28).symm.trans hq) hx28 ((gd_op hg hk28.1 (show tK b n j < -8 by omega)).1) (⟨by decide, by decide⟩) (by rw [(gd_op hg hk28.1 (show tK b n j < -8 by omega)).2, h17b, jk_10, ← hvx, ← hv28]; first | (rw [if_pos (by omega)]; done) | (rw [if_neg (by omega)]; done)) _ _ _ hw hS (lv_sub hl [2, 0] rfl)
            · refine lv_iload_n C.1 C.2.1 dX8_both3_36 rfl (lv_at hl 0 rfl) ?_
              refine x_if_eq (tgt := 44) C hr28 dX8_both3_37 (by decide) (fun c37 => ?_) (fun c37 => ?_)
              · refine lv_iconst (v := II 0) C.1 C.2.1 dX8_both3_44 rfl ?_
                refine lv_istore_n (lv' := [(1, .int (II 0)), (2, .int (II r28)), (0, .ref (gA g 70))]) C.1 C.2.1 dX8_both3_45 rfl hl (by decide) rfl (fun ls hl => ?_)
                refine lv_goto (tgt := 5) C.1 C.2.1 dX8_both3_46 (by decide) ?_
                exact ih5  f2 (c1 ++ y28 ++ [tK b n j]) j28 0 M28 (by omega) (by omega) (by omega) (by omega) hs28 ((lp_step hop eq28).symm.trans hq) hx28 ((gd_op hg hk28.1 (show tK b n j < -8 by omega)).1) (⟨by decide, by decide⟩) (by rw [(gd_op hg hk28.1 (show tK b n j < -8 by omega)).2, h17b, jk_10, ← hvx, ← hv28]; first | (rw [if_pos (by omega)]; done) | (rw [if_neg (by omega)]; done)) _ _ _ hw hS (lv_sub hl [2, 0] rfl)
              · refine lv_iconst (v := II 1) C.1 C.2.1 dX8_both3_40 rfl ?_
                refine lv_goto (tgt := 45) C.1 C.2.1 dX8_both3_41 (by decide) ?_
                refine lv_istore_n (lv' := [(1, .int (II 1)), (2, .int (II r28)), (0, .ref (gA g 70))]) C.1 C.2.1 dX8_both3_45 rfl hl (by decide) rfl (fun ls hl => ?_)
                refine lv_goto (tgt := 5) C.1 C.2.1 dX8_both3_46 (by decide) ?_
                exact ih5  f2 (c1 ++ y28 ++ [tK b n j]) j28 1 M28 (by omega) (by omega) (by omega) (by omega) hs28 ((lp_step hop eq28).symm.trans hq) hx28 ((gd_op hg hk28.1 (show tK b n j < -8 by omega)).1) (⟨by decide, by decide⟩) (by rw [(gd_op hg hk28.1 (show tK b n j < -8 by omega)).2, h17b, jk_10, ← hvx, ← hv28]; first | (rw [if_pos (by omega)]; done) | (rw [if_neg (by omega)]; done)) _ _ _ hw hS (lv_sub hl [2, 0] rfl)
          · have g_M28 := hw.rg
            obtain ⟨qz28, eq28, hf28⟩ := h28b
            have hx28 := (hx24).tr h28f
            refine lv_istore_n (lv' := [(2, .int (II r28)), (0, .ref (gA g 70)), (1, .int (II x))]) C.1 C.2.1 dX8_both3_31 rfl hl (by decide) rfl (fun ls hl => ?_)
            refine lv_iload_n C.1 C.2.1 dX8_both3_32 rfl (lv_at hl 2 rfl) ?_
            refine x_if_eq (tgt := 44) C gx dX8_both3_33 (by decide) (fun c33 => ?_) (fun c33 => ?_)
            · refine lv_iconst (v := II 0) C.1 C.2.1 dX8_both3_44 rfl ?_
              refine lv_istore_n (lv' := [(1, .int (II 0)), (2, .int (II r28)), (0, .ref (gA g 70))]) C.1 C.2.1 dX8_both3_45 rfl hl (by decide) rfl (fun ls hl => ?_)
              refine lv_goto (tgt := 5) C.1 C.2.1 dX8_both3_46 (by decide) ?_
              refine lv_aload_n C.1 C.2.1 dX8_both3_5 rfl (lv_at hl 2 rfl) ?_
              refine lv_bipush (v := II 97) C.1 C.2.1 dX8_both3_6 (by decide) ?_
              refine lv_bipush (v := II 110) C.1 C.2.1 dX8_both3_8 (by decide) ?_
              refine lv_bipush (v := II 100) C.1 C.2.1 dX8_both3_10 (by decide) ?_
              refine lv_iconst (v := II 0) C.1 C.2.1 dX8_both3_12 rfl ?_
              refine lv_iconst (v := II 0) C.1 C.2.1 dX8_both3_13 rfl ?_
              refine lv_iconst (v := II 0) C.1 C.2.1 dX8_both3_14 rfl ?_
              refine lv_iconst (v := II 0) C.1 C.2.1 dX8_both3_15 rfl ?_
              refine lv_iconst (v := II 0) C.1 C.2.1 dX8_both3_16 rfl ?_
              refine x_ci (x_runV (n := 8) C hw hS hml hl.1 70 8 (by omega) rfl (by decide) rfl (c_X8_isWord1 l g M28 hF hf28.1 97 ⟨by decide, by decide⟩ 110 ⟨by decide, by decide⟩ 100 ⟨by decide, by decide⟩ 0 ⟨by decide, by decide⟩ 0 ⟨by decide, by decide⟩ 0 ⟨by decide, by decide⟩ 0 ⟨by decide, by decide⟩ 0 ⟨by decide, by decide⟩) mw_1015 mw_1017 mw_62 mw_130 mw_1018 rfl rfl (by decide +kernel) ⟨Nat.le_of_ble_eq_true rfl, Nat.le_of_ble_eq_true rfl⟩ rfl rfl (Nat.le_of_ble_eq_true rfl) dX8_both3_17 ⟨Nat.zero_le _, Nat.zero_le _⟩) hS (fun r17 M17 H locs hr17 hp hw hS => ?_)
              obtain ⟨em17, er17⟩ := hp
              have hw : Wo g M28 H := em17 ▸ hw
              rw [er17] at hr17 ⊢
              refine x_if_eq (tgt := 49) C ⟨by decide, by decide⟩ dX8_both3_20 (by decide) (fun _ => ?_) (fun h => absurd h (by decide))
              refine lv_iload_n C.1 C.2.1 dX8_both3_49 rfl (lv_at hl 0 rfl) ?_
              subst hQQ; exact x_ireturn C hr hlk hw hS ⟨by decide, by decide⟩ rfl (by refine ⟨hx28, Or.inr ⟨qz28, by show chP b n (qN b n 2) oAn i = _; rw [← hq]; exact lp_no hop eq28, hf28⟩⟩) dX8_both3_50
            · refine lv_iload_n C.1 C.2.1 dX8_both3_36 rfl (lv_at hl 0 rfl) ?_
              refine x_if_eq (tgt := 44) C hr28 dX8_both3_37 (by decide) (fun c37 => ?_) (fun c37 => ?_)
              · refine lv_iconst (v := II 0) C.1 C.2.1 dX8_both3_44 rfl ?_
                refine lv_istore_n (lv' := [(1, .int (II 0)), (2, .int (II r28)), (0, .ref (gA g 70))]) C.1 C.2.1 dX8_both3_45 rfl hl (by decide) rfl (fun ls hl => ?_)
                refine lv_goto (tgt := 5) C.1 C.2.1 dX8_both3_46 (by decide) ?_
                refine lv_aload_n C.1 C.2.1 dX8_both3_5 rfl (lv_at hl 2 rfl) ?_
                refine lv_bipush (v := II 97) C.1 C.2.1 dX8_both3_6 (by decide) ?_
                refine lv_bipush (v := II 110) C.1 C.2.1 dX8_both3_8 (by decide) ?_
                refine lv_bipush (v := II 100) C.1 C.2.1 dX8_both3_10 (by decide) ?_
                refine lv_iconst (v := II 0) C.1 C.2.1 dX8_both3_12 rfl ?_
                refine lv_iconst (v := II 0) C.1 C.2.1 dX8_both3_13 rfl ?_
                refine lv_iconst (v := II 0) C.1 C.2.1 dX8_both3_14 rfl ?_
                refine lv_iconst (v := II 0) C.1 C.2.1 dX8_both3_15 rfl ?_
                refine lv_iconst (v := II 0) C.1 C.2.1 dX8_both3_16 rfl ?_
                refine x_ci (x_runV (n := 8) C hw hS hml hl.1 70 8 (by omega) rfl (by decide) rfl (c_X8_isWord1 l g M28 hF hf28.1 97 ⟨by decide, by decide⟩ 110 ⟨by decide, by decide⟩ 100 ⟨by decide, by decide⟩ 0 ⟨by decide, by decide⟩ 0 ⟨by decide, by decide⟩ 0 ⟨by decide, by decide⟩ 0 ⟨by decide, by decide⟩ 0 ⟨by decide, by decide⟩) mw_1015 mw_1017 mw_62 mw_130 mw_1018 rfl rfl (by decide +kernel) ⟨Nat.le_of_ble_eq_true rfl, Nat.le_of_ble_eq_true rfl⟩ rfl rfl (Nat.le_of_ble_eq_true rfl) dX8_both3_17 ⟨Nat.zero_le _, Nat.zero_le _⟩) hS (fun r17 M17 H locs hr17 hp hw hS => ?_)
                obtain ⟨em17, er17⟩ := hp
                have hw : Wo g M28 H := em17 ▸ hw
                rw [er17] at hr17 ⊢
                refine x_if_eq (tgt := 49) C ⟨by decide, by decide⟩ dX8_both3_20 (by decide) (fun _ => ?_) (fun h => absurd h (by decide))
                refine lv_iload_n C.1 C.2.1 dX8_both3_49 rfl (lv_at hl 0 rfl) ?_
                subst hQQ; exact x_ireturn C hr hlk hw hS ⟨by decide, by decide⟩ rfl (by refine ⟨hx28, Or.inr ⟨qz28, by show chP b n (qN b n 2) oAn i = _; rw [← hq]; exact lp_no hop eq28, hf28⟩⟩) dX8_both3_50
              · refine lv_iconst (v := II 1) C.1 C.2.1 dX8_both3_40 rfl ?_
                refine lv_goto (tgt := 45) C.1 C.2.1 dX8_both3_41 (by decide) ?_
                refine lv_istore_n (lv' := [(1, .int (II 1)), (2, .int (II r28)), (0, .ref (gA g 70))]) C.1 C.2.1 dX8_both3_45 rfl hl (by decide) rfl (fun ls hl => ?_)
                refine lv_goto (tgt := 5) C.1 C.2.1 dX8_both3_46 (by decide) ?_
                refine lv_aload_n C.1 C.2.1 dX8_both3_5 rfl (lv_at hl 2 rfl) ?_
                refine lv_bipush (v := II 97) C.1 C.2.1 dX8_both3_6 (by decide) ?_
                refine lv_bipush (v := II 110) C.1 C.2.1 dX8_both3_8 (by decide) ?_
                refine lv_bipush (v := II 100) C.1 C.2.1 dX8_both3_10 (by decide) ?_
                refine lv_iconst (v := II 0) C.1 C.2.1 dX8_both3_12 rfl ?_
                refine lv_iconst (v := II 0) C.1 C.2.1 dX8_both3_13 rfl ?_
                refine lv_iconst (v := II 0) C.1 C.2.1 dX8_both3_14 rfl ?_
                refine lv_iconst (v := II 0) C.1 C.2.1 dX8_both3_15 rfl ?_
                refine lv_iconst (v := II 0) C.1 C.2.1 dX8_both3_16 rfl ?_
                refine x_ci (x_runV (n := 8) C hw hS hml hl.1 70 8 (by omega) rfl (by decide) rfl (c_X8_isWord1 l g M28 hF hf28.1 97 ⟨by decide, by decide⟩ 110 ⟨by decide, by decide⟩ 100 ⟨by decide, by decide⟩ 0 ⟨by decide, by decide⟩ 0 ⟨by decide, by decide⟩ 0 ⟨by decide, by decide⟩ 0 ⟨by decide, by decide⟩ 0 ⟨by decide, by decide⟩) mw_1015 mw_1017 mw_62 mw_130 mw_1018 rfl rfl (by decide +kernel) ⟨Nat.le_of_ble_eq_true rfl, Nat.le_of_ble_eq_true rfl⟩ rfl rfl (Nat.le_of_ble_eq_true rfl) dX8_both3_17 ⟨Nat.zero_le _, Nat.zero_le _⟩) hS (fun r17 M17 H locs hr17 hp hw hS => ?_)
                obtain ⟨em17, er17⟩ := hp
                have hw : Wo g M28 H := em17 ▸ hw
                rw [er17] at hr17 ⊢
                refine x_if_eq (tgt := 49) C ⟨by decide, by decide⟩ dX8_both3_20 (by decide) (fun _ => ?_) (fun h => absurd h (by decide))
                refine lv_iload_n C.1 C.2.1 dX8_both3_49 rfl (lv_at hl 0 rfl) ?_
                subst hQQ; exact x_ireturn C hr hlk hw hS ⟨by decide, by decide⟩ rfl (by refine ⟨hx28, Or.inr ⟨qz28, by show chP b n (qN b n 2) oAn i = _; rw [← hq]; exact lp_no hop eq28, hf28⟩⟩) dX8_both3_50
        · have hw : Wo g MM H := em17 ▸ hw
          rw [er17]
          refine x_if_eq (tgt := 49) C ⟨by decide, by decide⟩ dX8_both3_20 (by decide) (fun _ => ?_) (fun h => absurd h (by decide))
          refine lv_iload_n C.1 C.2.1 dX8_both3_49 rfl (lv_at hl 1 rfl) ?_
          subst hQQ; exact x_ireturn C hr hlk hw hS gx rfl (by refine ⟨hx, Or.inl ⟨c1, j, by show chP b n (qN b n 2) oAn i = _; rw [← hq]; exact lp_end (decide_eq_false (by omega)), hs2, hvx⟩⟩) dX8_both3_50
    exact L5 _ 161 y1 j1 r1 M1 (Nat.lt_succ_self _) (by have := hs1.1.2; have := hs1.1.1.2.2.1; omega) (by omega) (by have := hs1.1.1.2.2.1; omega) hs1 ((ch_ok eq1).symm) hx1 hk1.1 hr1 hv1 _ _ _ hw hS (lv_sub hl [1, 0] rfl)
  · have g_M1 := hw.rg
    obtain ⟨qz1, eq1, hf1⟩ := h1b
    have hx1 := (MX.rfl').tr h1f
    refine lv_istore_n (lv' := [(1, .int (II r1)), (0, .ref (gA g 70))]) C.1 C.2.1 dX8_both3_4 rfl hl (by decide) rfl (fun ls hl => ?_)
    refine lv_aload_n C.1 C.2.1 dX8_both3_5 rfl (lv_at hl 1 rfl) ?_
    refine lv_bipush (v := II 97) C.1 C.2.1 dX8_both3_6 (by decide) ?_
    refine lv_bipush (v := II 110) C.1 C.2.1 dX8_both3_8 (by decide) ?_
    refine lv_bipush (v := II 100) C.1 C.2.1 dX8_both3_10 (by decide) ?_
    refine lv_iconst (v := II 0) C.1 C.2.1 dX8_both3_12 rfl ?_
    refine lv_iconst (v := II 0) C.1 C.2.1 dX8_both3_13 rfl ?_
    refine lv_iconst (v := II 0) C.1 C.2.1 dX8_both3_14 rfl ?_
    refine lv_iconst (v := II 0) C.1 C.2.1 dX8_both3_15 rfl ?_
    refine lv_iconst (v := II 0) C.1 C.2.1 dX8_both3_16 rfl ?_
    refine x_ci (x_runV (n := 8) C hw hS hml hl.1 70 8 (by omega) rfl (by decide) rfl (c_X8_isWord1 l g M1 hF hf1.1 97 ⟨by decide, by decide⟩ 110 ⟨by decide, by decide⟩ 100 ⟨by decide, by decide⟩ 0 ⟨by decide, by decide⟩ 0 ⟨by decide, by decide⟩ 0 ⟨by decide, by decide⟩ 0 ⟨by decide, by decide⟩ 0 ⟨by decide, by decide⟩) mw_1015 mw_1017 mw_62 mw_130 mw_1018 rfl rfl (by decide +kernel) ⟨Nat.le_of_ble_eq_true rfl, Nat.le_of_ble_eq_true rfl⟩ rfl rfl (Nat.le_of_ble_eq_true rfl) dX8_both3_17 ⟨Nat.zero_le _, Nat.zero_le _⟩) hS (fun r17 M17 H locs hr17 hp hw hS => ?_)
    obtain ⟨em17, er17⟩ := hp
    have hw : Wo g M1 H := em17 ▸ hw
    rw [er17] at hr17 ⊢
    refine x_if_eq (tgt := 49) C ⟨by decide, by decide⟩ dX8_both3_20 (by decide) (fun _ => ?_) (fun h => absurd h (by decide))
    refine lv_iload_n C.1 C.2.1 dX8_both3_49 rfl (lv_at hl 0 rfl) ?_
    subst hQQ; exact x_ireturn C hr hlk hw hS hr1 rfl (by refine ⟨hx1, Or.inr ⟨qz1, by show chP b n (qN b n 2) oAn i = _; exact ch_no eq1, hf1⟩⟩) dX8_both3_50

set_option maxHeartbeats 4000000 in
set_option maxRecDepth 100000 in
theorem c_X8_either3 (l : Launch) (g : Gm) (M : Nat → Int) (hF : LvF g) (nm : Nat → Int) (hnm : NMS M nm) (b : Nat → Int) (n : Nat) (f : Nat) (i : Nat) (hs : MS M b n f i 3) : CI l ({ cls := "RatedBySighsModel", name := "either3", desc := "()I" } : Jvm.MethodName) cX8_either3 3 .int (rmm 21 465) g M [.ref (gA g 70)] (fun r M' => (MX M M') ∧ (((∃ c j, qE b n 2 i = .inr (c, j) ∧ MS M' b n f j 3 ∧ r = vC nm c)) ∨ ((∃ q, qE b n 2 i = .inl q ∧ MF M' q 3)))) := by
  refine c_start (by decide) (Nat.le_of_ble_eq_true rfl) (fun p e s m below meth c ls C hr hlk hml hw hS hl => ?_)
  have hl : lv_has ls 3 [(0, .ref (gA g 70))] := hl
  generalize ([.ref (gA g 70)] : List Value).toArray = args at C ⊢
  generalize hQQ : MQ below (postI g (fun r M' => (MX M M') ∧ (((∃ c j, qE b n 2 i = .inr (c, j) ∧ MS M' b n f j 3 ∧ r = vC nm c)) ∨ ((∃ q, qE b n 2 i = .inl q ∧ MF M' q 3))))) args s 0 0 (ar g) = QQ
  have g_M := hw.rg
  have hN : gN g = 84 := hF.1
  refine lv_aload_n C.1 C.2.1 dX8_either3_0 rfl (lv_at hl 0 rfl) ?_
  refine x_ci (x_runV (n := 0) C hw hS hml hl.1 70 8 (by omega) rfl (by decide) rfl (c_X8_both3 l g M hF nm (hnm.mx MX.rfl') b n f i hs) mw_1145 mw_1147 mw_94 mw_130 mw_1148 rfl rfl (by decide +kernel) ⟨Nat.le_of_ble_eq_true rfl, Nat.le_of_ble_eq_true rfl⟩ rfl rfl (Nat.le_of_ble_eq_true rfl) dX8_either3_1 ⟨Nat.zero_le _, Nat.zero_le _⟩) hS (fun r1 M1 H locs hr1 hp hw hS => ?_)
  rcases hp with ⟨h1f, (h1b | h1b)⟩
  · have g_M1 := hw.rg
    obtain ⟨y1, j1, eq1, hs1, hv1⟩ := h1b
    have hx1 := (MX.rfl').tr h1f
    have hk1 := (ok_qA b n 2).r hs.1.2 eq1
    refine lv_istore_n (lv' := [(1, .int (II r1)), (0, .ref (gA g 70))]) C.1 C.2.1 dX8_either3_4 rfl hl (by decide) rfl (fun ls hl => ?_)
    have L5 : ∀ (f1 : Nat) (fu : Nat) (c1 : List Int) (j : Nat) (x : Int) (MM : Nat → Int), (n - j) < f1 → (j ≤ n ∧ n ≤ 160) → (i ≤ j) → (n - j < fu) → (MS MM b n f j 3) → (lpP b n (qA b n 2) oOr fu c1 j = chP b n (qA b n 2) oOr i) → (MX M MM) → (gdC c1) → (rg x) → (x = vC nm c1) → ∀ (H : Heap) (locs : List Loc) (ls : Array Slot), Wo g MM H → va_S (ar g) s.heap H locs → lv_has ls 3 [(0, .ref (gA g 70)), (1, .int (II x))] → W p l e (rmm 21 465) s m args below meth c H locs 0 0 QQ (F0 m 5 ls []) := by
      intro f1
      induction f1 with
      | zero => intro fu c1 j x MM hmu; exact absurd hmu (Nat.not_lt_zero _)
      | succ f1 ih =>
        intro fu c1 j x MM hmu h1 hi0 hfu hs2 hq hx hg gx hvx H locs ls hw hS hl
        have ih5 := ih
        have g_MM := hw.rg
        refine lv_aload_n C.1 C.2.1 dX8_either3_5 rfl (lv_at hl 0 rfl) ?_
        refine lv_bipush (v := II 111) C.1 C.2.1 dX8_either3_6 (by decide) ?_
        refine lv_bipush (v := II 114) C.1 C.2.1 dX8_either3_8 (by decide) ?_
        refine lv_iconst (v := II 0) C.1 C.2.1 dX8_either3_10 rfl ?_
        refine lv_iconst (v := II 0) C.1 C.2.1 dX8_either3_11 rfl ?_
        refine lv_iconst (v := II 0) C.1 C.2.1 dX8_either3_12 rfl ?_
        refine lv_iconst (v := II 0) C.1 C.2.1 dX8_either3_13 rfl ?_
        refine lv_iconst (v := II 0) C.1 C.2.1 dX8_either3_14 rfl ?_
        refine lv_iconst (v := II 0) C.1 C.2.1 dX8_either3_15 rfl ?_
        refine x_ci (x_runV (n := 8) C hw hS hml hl.1 70 8 (by omega) rfl (by decide) rfl (c_X8_isWord0 l g MM hF b n f j 3 hs2 [111, 114] (-9) 111 ⟨by decide, by decide⟩ 114 ⟨by decide, by decide⟩ 0 ⟨by decide, by decide⟩ 0 ⟨by decide, by decide⟩ 0 ⟨by decide, by decide⟩ 0 ⟨by decide, by decide⟩ 0 ⟨by decide, by decide⟩ 0 ⟨by decide, by decide⟩ (by decide) wd_or) mw_1015 mw_1017 mw_62 mw_130 mw_1018 rfl rfl (by decide +kernel) ⟨Nat.le_of_ble_eq_true rfl, Nat.le_of_ble_eq_true rfl⟩ rfl rfl (Nat.le_of_ble_eq_true rfl) dX8_either3_16 ⟨Nat.zero_le _, Nat.zero_le _⟩) hS (fun r16 M16 H locs hr16 hp hw hS => ?_)
        rcases hp with ⟨em16, (⟨er16, h16b⟩ | ⟨er16, h16b⟩)⟩
        · have hw : Wo g MM H := em16 ▸ hw
          rw [er16]
          obtain ⟨hm16, -⟩ := (wrd_iff (b := b) (n := n) (i := j) wd_or).mp h16b
          obtain ⟨f2, rfl⟩ : ∃ f2, fu = f2 + 1 := ⟨fu - 1, by omega⟩
          have hop : oOr (tK b n j) = true := decide_eq_true (by omega)
          refine x_if_eq (tgt := 48) C ⟨by decide, by decide⟩ dX8_either3_19 (by decide) (fun h => absurd h (by decide)) (fun _ => ?_)
          refine lv_aload_n C.1 C.2.1 dX8_either3_22 rfl (lv_at hl 0 rfl) ?_
          have hi9 := mT_in (b := b) (n := n) (i := j)
          refine x_cv (x_runV (n := 0) C hw hS hml hl.1 70 8 (by omega) rfl (by decide) rfl (c_X8_next l g MM hF b n f hs2.1.1 (tE b n j) (tE_in hs2.1.2).2.1 (hs2.2.1.2.2.1 (by omega))) mw_1003 mw_1005 mw_60 mw_130 mw_1006 rfl rfl (by decide +kernel) ⟨Nat.le_of_ble_eq_true rfl, Nat.le_of_ble_eq_true rfl⟩ rfl rfl (Nat.le_of_ble_eq_true rfl) dX8_either3_23 ⟨Nat.zero_le _, Nat.zero_le _⟩) hS (fun M23 H locs hp hw hS => ?_)
          have h23p := hp
          have g_M23 := hw.rg
          have hs23 := hs2.next h23p
          have ht23 := tK_7 (b := b) hs2.1.2 (by omega)
          have hx23 := (hx).tr h23p.mx
          refine lv_aload_n C.1 C.2.1 dX8_either3_26 rfl (lv_at hl 0 rfl) ?_
          refine x_ci (x_runV (n := 0) C hw hS hml hl.1 70 8 (by omega) rfl (by decide) rfl (c_X8_both3 l g M23 hF nm (hnm.mx hx23) b n f (tE b n j) hs23) mw_1145 mw_1147 mw_94 mw_130 mw_1148 rfl rfl (by decide +kernel) ⟨Nat.le_of_ble_eq_true rfl, Nat.le_of_ble_eq_true rfl⟩ rfl rfl (Nat.le_of_ble_eq_true rfl) dX8_either3_27 ⟨Nat.zero_le _, Nat.zero_le _⟩) hS (fun r27 M27 H locs hr27 hp hw hS => ?_)
          rcases hp with ⟨h27f, (h27b | h27b)⟩
          · have g_M27 := hw.rg
            obtain ⟨y27, j27, eq27, hs27, hv27⟩ := h27b
            have hx27 := (hx23).tr h27f
            have hk27 := (ok_qA b n 2).r hs23.1.2 eq27
            refine lv_istore_n (lv' := [(2, .int (II r27)), (0, .ref (gA g 70)), (1, .int (II x))]) C.1 C.2.1 dX8_either3_30 rfl hl (by decide) rfl (fun ls hl => ?_)
            refine lv_iload_n C.1 C.2.1 dX8_either3_31 rfl (lv_at hl 2 rfl) ?_
            refine x_if_ne (tgt := 39) C gx dX8_either3_32 (by decide) (fun c32 => ?_) (fun c32 => ?_)
            · refine lv_iconst (v := II 1) C.1 C.2.1 dX8_either3_39 rfl ?_
              refine lv_goto (tgt := 44) C.1 C.2.1 dX8_either3_40 (by decide) ?_
              refine lv_istore_n (lv' := [(1, .int (II 1)), (2, .int (II r27)), (0, .ref (gA g 70))]) C.1 C.2.1 dX8_either3_44 rfl hl (by decide) rfl (fun ls hl => ?_)
              refine lv_goto (tgt := 5) C.1 C.2.1 dX8_either3_45 (by decide) ?_
              exact ih5  f2 (c1 ++ y27 ++ [tK b n j]) j27 1 M27 (by omega) (by omega) (by omega) (by omega) hs27 ((lp_step hop eq27).symm.trans hq) hx27 ((gd_op hg hk27.1 (show tK b n j < -8 by omega)).1) (⟨by decide, by decide⟩) (by rw [(gd_op hg hk27.1 (show tK b n j < -8 by omega)).2, h16b, jk_9, ← hvx, ← hv27]; first | (rw [if_pos (by omega)]; done) | (rw [if_neg (by omega)]; done)) _ _ _ hw hS (lv_sub hl [2, 0] rfl)
            · refine lv_iload_n C.1 C.2.1 dX8_either3_35 rfl (lv_at hl 0 rfl) ?_
              refine x_if_eq (tgt := 43) C hr27 dX8_either3_36 (by decide) (fun c36 => ?_) (fun c36 => ?_)
              · refine lv_iconst (v := II 0) C.1 C.2.1 dX8_either3_43 rfl ?_
                refine lv_istore_n (lv' := [(1, .int (II 0)), (2, .int (II r27)), (0, .ref (gA g 70))]) C.1 C.2.1 dX8_either3_44 rfl hl (by decide) rfl (fun ls hl => ?_)
                refine lv_goto (tgt := 5) C.1 C.2.1 dX8_either3_45 (by decide) ?_
                exact ih5  f2 (c1 ++ y27 ++ [tK b n j]) j27 0 M27 (by omega) (by omega) (by omega) (by omega) hs27 ((lp_step hop eq27).symm.trans hq) hx27 ((gd_op hg hk27.1 (show tK b n j < -8 by omega)).1) (⟨by decide, by decide⟩) (by rw [(gd_op hg hk27.1 (show tK b n j < -8 by omega)).2, h16b, jk_9, ← hvx, ← hv27]; first | (rw [if_pos (by omega)]; done) | (rw [if_neg (by omega)]; done)) _ _ _ hw hS (lv_sub hl [2, 0] rfl)
              · refine lv_iconst (v := II 1) C.1 C.2.1 dX8_either3_39 rfl ?_
                refine lv_goto (tgt := 44) C.1 C.2.1 dX8_either3_40 (by decide) ?_
                refine lv_istore_n (lv' := [(1, .int (II 1)), (2, .int (II r27)), (0, .ref (gA g 70))]) C.1 C.2.1 dX8_either3_44 rfl hl (by decide) rfl (fun ls hl => ?_)
                refine lv_goto (tgt := 5) C.1 C.2.1 dX8_either3_45 (by decide) ?_
                exact ih5  f2 (c1 ++ y27 ++ [tK b n j]) j27 1 M27 (by omega) (by omega) (by omega) (by omega) hs27 ((lp_step hop eq27).symm.trans hq) hx27 ((gd_op hg hk27.1 (show tK b n j < -8 by omega)).1) (⟨by decide, by decide⟩) (by rw [(gd_op hg hk27.1 (show tK b n j < -8 by omega)).2, h16b, jk_9, ← hvx, ← hv27]; first | (rw [if_pos (by omega)]; done) | (rw [if_neg (by omega)]; done)) _ _ _ hw hS (lv_sub hl [2, 0] rfl)
          · have g_M27 := hw.rg
            obtain ⟨qz27, eq27, hf27⟩ := h27b
            have hx27 := (hx23).tr h27f
            refine lv_istore_n (lv' := [(2, .int (II r27)), (0, .ref (gA g 70)), (1, .int (II x))]) C.1 C.2.1 dX8_either3_30 rfl hl (by decide) rfl (fun ls hl => ?_)
            refine lv_iload_n C.1 C.2.1 dX8_either3_31 rfl (lv_at hl 2 rfl) ?_
            refine x_if_ne (tgt := 39) C gx dX8_either3_32 (by decide) (fun c32 => ?_) (fun c32 => ?_)
            · refine lv_iconst (v := II 1) C.1 C.2.1 dX8_either3_39 rfl ?_
              refine lv_goto (tgt := 44) C.1 C.2.1 dX8_either3_40 (by decide) ?_
              refine lv_istore_n (lv' := [(1, .int (II 1)), (2, .int (II r27)), (0, .ref (gA g 70))]) C.1 C.2.1 dX8_either3_44 rfl hl (by decide) rfl (fun ls hl => ?_)
              refine lv_goto (tgt := 5) C.1 C.2.1 dX8_either3_45 (by decide) ?_
              refine lv_aload_n C.1 C.2.1 dX8_either3_5 rfl (lv_at hl 2 rfl) ?_
              refine lv_bipush (v := II 111) C.1 C.2.1 dX8_either3_6 (by decide) ?_
              refine lv_bipush (v := II 114) C.1 C.2.1 dX8_either3_8 (by decide) ?_
              refine lv_iconst (v := II 0) C.1 C.2.1 dX8_either3_10 rfl ?_
              refine lv_iconst (v := II 0) C.1 C.2.1 dX8_either3_11 rfl ?_
              refine lv_iconst (v := II 0) C.1 C.2.1 dX8_either3_12 rfl ?_
              refine lv_iconst (v := II 0) C.1 C.2.1 dX8_either3_13 rfl ?_
              refine lv_iconst (v := II 0) C.1 C.2.1 dX8_either3_14 rfl ?_
              refine lv_iconst (v := II 0) C.1 C.2.1 dX8_either3_15 rfl ?_
              refine x_ci (x_runV (n := 8) C hw hS hml hl.1 70 8 (by omega) rfl (by decide) rfl (c_X8_isWord1 l g M27 hF hf27.1 111 ⟨by decide, by decide⟩ 114 ⟨by decide, by decide⟩ 0 ⟨by decide, by decide⟩ 0 ⟨by decide, by decide⟩ 0 ⟨by decide, by decide⟩ 0 ⟨by decide, by decide⟩ 0 ⟨by decide, by decide⟩ 0 ⟨by decide, by decide⟩) mw_1015 mw_1017 mw_62 mw_130 mw_1018 rfl rfl (by decide +kernel) ⟨Nat.le_of_ble_eq_true rfl, Nat.le_of_ble_eq_true rfl⟩ rfl rfl (Nat.le_of_ble_eq_true rfl) dX8_either3_16 ⟨Nat.zero_le _, Nat.zero_le _⟩) hS (fun r16 M16 H locs hr16 hp hw hS => ?_)
              obtain ⟨em16, er16⟩ := hp
              have hw : Wo g M27 H := em16 ▸ hw
              rw [er16] at hr16 ⊢
              refine x_if_eq (tgt := 48) C ⟨by decide, by decide⟩ dX8_either3_19 (by decide) (fun _ => ?_) (fun h => absurd h (by decide))
              refine lv_iload_n C.1 C.2.1 dX8_either3_48 rfl (lv_at hl 0 rfl) ?_
              subst hQQ; exact x_ireturn C hr hlk hw hS ⟨by decide, by decide⟩ rfl (by refine ⟨hx27, Or.inr ⟨qz27, by rw [qE_eq]; rw [← hq]; exact lp_no hop eq27, hf27⟩⟩) dX8_either3_49
            · refine lv_iload_n C.1 C.2.1 dX8_either3_35 rfl (lv_at hl 0 rfl) ?_
              refine x_if_eq (tgt := 43) C hr27 dX8_either3_36 (by decide) (fun c36 => ?_) (fun c36 => ?_)
              · refine lv_iconst (v := II 0) C.1 C.2.1 dX8_either3_43 rfl ?_
                refine lv_istore_n (lv' := [(1, .int (II 0)), (2, .int (II r27)), (0, .ref (gA g 70))]) C.1 C.2.1 dX8_either3_44 rfl hl (by decide) rfl (fun ls hl => ?_)
                refine lv_goto (tgt := 5) C.1 C.2.1 dX8_either3_45 (by decide) ?_
                refine lv_aload_n C.1 C.2.1 dX8_either3_5 rfl (lv_at hl 2 rfl) ?_
                refine lv_bipush (v := II 111) C.1 C.2.1 dX8_either3_6 (by decide) ?_
                refine lv_bipush (v := II 114) C.1 C.2.1 dX8_either3_8 (by decide) ?_
                refine lv_iconst (v := II 0) C.1 C.2.1 dX8_either3_10 rfl ?_
                refine lv_iconst (v := II 0) C.1 C.2.1 dX8_either3_11 rfl ?_
                refine lv_iconst (v := II 0) C.1 C.2.1 dX8_either3_12 rfl ?_
                refine lv_iconst (v := II 0) C.1 C.2.1 dX8_either3_13 rfl ?_
                refine lv_iconst (v := II 0) C.1 C.2.1 dX8_either3_14 rfl ?_
                refine lv_iconst (v := II 0) C.1 C.2.1 dX8_either3_15 rfl ?_
                refine x_ci (x_runV (n := 8) C hw hS hml hl.1 70 8 (by omega) rfl (by decide) rfl (c_X8_isWord1 l g M27 hF hf27.1 111 ⟨by decide, by decide⟩ 114 ⟨by decide, by decide⟩ 0 ⟨by decide, by decide⟩ 0 ⟨by decide, by decide⟩ 0 ⟨by decide, by decide⟩ 0 ⟨by decide, by decide⟩ 0 ⟨by decide, by decide⟩ 0 ⟨by decide, by decide⟩) mw_1015 mw_1017 mw_62 mw_130 mw_1018 rfl rfl (by decide +kernel) ⟨Nat.le_of_ble_eq_true rfl, Nat.le_of_ble_eq_true rfl⟩ rfl rfl (Nat.le_of_ble_eq_true rfl) dX8_either3_16 ⟨Nat.zero_le _, Nat.zero_le _⟩) hS (fun r16 M16 H locs hr16 hp hw hS => ?_)
                obtain ⟨em16, er16⟩ := hp
                have hw : Wo g M27 H := em16 ▸ hw
                rw [er16] at hr16 ⊢
                refine x_if_eq (tgt := 48) C ⟨by decide, by decide⟩ dX8_either3_19 (by decide) (fun _ => ?_) (fun h => absurd h (by decide))
                refine lv_iload_n C.1 C.2.1 dX8_either3_48 rfl (lv_at hl 0 rfl) ?_
                subst hQQ; exact x_ireturn C hr hlk hw hS ⟨by decide, by decide⟩ rfl (by refine ⟨hx27, Or.inr ⟨qz27, by rw [qE_eq]; rw [← hq]; exact lp_no hop eq27, hf27⟩⟩) dX8_either3_49
              · refine lv_iconst (v := II 1) C.1 C.2.1 dX8_either3_39 rfl ?_
                refine lv_goto (tgt := 44) C.1 C.2.1 dX8_either3_40 (by decide) ?_
                refine lv_istore_n (lv' := [(1, .int (II 1)), (2, .int (II r27)), (0, .ref (gA g 70))]) C.1 C.2.1 dX8_either3_44 rfl hl (by decide) rfl (fun ls hl => ?_)
                refine lv_goto (tgt := 5) C.1 C.2.1 dX8_either3_45 (by decide) ?_
                refine lv_aload_n C.1 C.2.1 dX8_either3_5 rfl (lv_at hl 2 rfl) ?_
                refine lv_bipush (v := II 111) C.1 C.2.1 dX8_either3_6 (by decide) ?_
                refine lv_bipush (v := II 114) C.1 C.2.1 dX8_either3_8 (by decide) ?_
                refine lv_iconst (v := II 0) C.1 C.2.1 dX8_either3_10 rfl ?_
                refine lv_iconst (v := II 0) C.1 C.2.1 dX8_either3_11 rfl ?_
                refine lv_iconst (v := II 0) C.1 C.2.1 dX8_either3_12 rfl ?_
                refine lv_iconst (v := II 0) C.1 C.2.1 dX8_either3_13 rfl ?_
                refine lv_iconst (v := II 0) C.1 C.2.1 dX8_either3_14 rfl ?_
                refine lv_iconst (v := II 0) C.1 C.2.1 dX8_either3_15 rfl ?_
                refine x_ci (x_runV (n := 8) C hw hS hml hl.1 70 8 (by omega) rfl (by decide) rfl (c_X8_isWord1 l g M27 hF hf27.1 111 ⟨by decide, by decide⟩ 114 ⟨by decide, by decide⟩ 0 ⟨by decide, by decide⟩ 0 ⟨by decide, by decide⟩ 0 ⟨by decide, by decide⟩ 0 ⟨by decide, by decide⟩ 0 ⟨by decide, by decide⟩ 0 ⟨by decide, by decide⟩) mw_1015 mw_1017 mw_62 mw_130 mw_1018 rfl rfl (by decide +kernel) ⟨Nat.le_of_ble_eq_true rfl, Nat.le_of_ble_eq_true rfl⟩ rfl rfl (Nat.le_of_ble_eq_true rfl) dX8_either3_16 ⟨Nat.zero_le _, Nat.zero_le _⟩) hS (fun r16 M16 H locs hr16 hp hw hS => ?_)
                obtain ⟨em16, er16⟩ := hp
                have hw : Wo g M27 H := em16 ▸ hw
                rw [er16] at hr16 ⊢
                refine x_if_eq (tgt := 48) C ⟨by decide, by decide⟩ dX8_either3_19 (by decide) (fun _ => ?_) (fun h => absurd h (by decide))
                refine lv_iload_n C.1 C.2.1 dX8_either3_48 rfl (lv_at hl 0 rfl) ?_
                subst hQQ; exact x_ireturn C hr hlk hw hS ⟨by decide, by decide⟩ rfl (by refine ⟨hx27, Or.inr ⟨qz27, by rw [qE_eq]; rw [← hq]; exact lp_no hop eq27, hf27⟩⟩) dX8_either3_49
        · have hw : Wo g MM H := em16 ▸ hw
          rw [er16]
          refine x_if_eq (tgt := 48) C ⟨by decide, by decide⟩ dX8_either3_19 (by decide) (fun _ => ?_) (fun h => absurd h (by decide))
          refine lv_iload_n C.1 C.2.1 dX8_either3_48 rfl (lv_at hl 1 rfl) ?_
          subst hQQ; exact x_ireturn C hr hlk hw hS gx rfl (by refine ⟨hx, Or.inl ⟨c1, j, by rw [qE_eq]; rw [← hq]; exact lp_end (decide_eq_false (by omega)), hs2, hvx⟩⟩) dX8_either3_49
    exact L5 _ 161 y1 j1 r1 M1 (Nat.lt_succ_self _) (by have := hs1.1.2; have := hs1.1.1.2.2.1; omega) (by omega) (by have := hs1.1.1.2.2.1; omega) hs1 ((ch_ok eq1).symm) hx1 hk1.1 hr1 hv1 _ _ _ hw hS (lv_sub hl [1, 0] rfl)
  · have g_M1 := hw.rg
    obtain ⟨qz1, eq1, hf1⟩ := h1b
    have hx1 := (MX.rfl').tr h1f
    refine lv_istore_n (lv' := [(1, .int (II r1)), (0, .ref (gA g 70))]) C.1 C.2.1 dX8_either3_4 rfl hl (by decide) rfl (fun ls hl => ?_)
    refine lv_aload_n C.1 C.2.1 dX8_either3_5 rfl (lv_at hl 1 rfl) ?_
    refine lv_bipush (v := II 111) C.1 C.2.1 dX8_either3_6 (by decide) ?_
    refine lv_bipush (v := II 114) C.1 C.2.1 dX8_either3_8 (by decide) ?_
    refine lv_iconst (v := II 0) C.1 C.2.1 dX8_either3_10 rfl ?_
    refine lv_iconst (v := II 0) C.1 C.2.1 dX8_either3_11 rfl ?_
    refine lv_iconst (v := II 0) C.1 C.2.1 dX8_either3_12 rfl ?_
    refine lv_iconst (v := II 0) C.1 C.2.1 dX8_either3_13 rfl ?_
    refine lv_iconst (v := II 0) C.1 C.2.1 dX8_either3_14 rfl ?_
    refine lv_iconst (v := II 0) C.1 C.2.1 dX8_either3_15 rfl ?_
    refine x_ci (x_runV (n := 8) C hw hS hml hl.1 70 8 (by omega) rfl (by decide) rfl (c_X8_isWord1 l g M1 hF hf1.1 111 ⟨by decide, by decide⟩ 114 ⟨by decide, by decide⟩ 0 ⟨by decide, by decide⟩ 0 ⟨by decide, by decide⟩ 0 ⟨by decide, by decide⟩ 0 ⟨by decide, by decide⟩ 0 ⟨by decide, by decide⟩ 0 ⟨by decide, by decide⟩) mw_1015 mw_1017 mw_62 mw_130 mw_1018 rfl rfl (by decide +kernel) ⟨Nat.le_of_ble_eq_true rfl, Nat.le_of_ble_eq_true rfl⟩ rfl rfl (Nat.le_of_ble_eq_true rfl) dX8_either3_16 ⟨Nat.zero_le _, Nat.zero_le _⟩) hS (fun r16 M16 H locs hr16 hp hw hS => ?_)
    obtain ⟨em16, er16⟩ := hp
    have hw : Wo g M1 H := em16 ▸ hw
    rw [er16] at hr16 ⊢
    refine x_if_eq (tgt := 48) C ⟨by decide, by decide⟩ dX8_either3_19 (by decide) (fun _ => ?_) (fun h => absurd h (by decide))
    refine lv_iload_n C.1 C.2.1 dX8_either3_48 rfl (lv_at hl 0 rfl) ?_
    subst hQQ; exact x_ireturn C hr hlk hw hS hr1 rfl (by refine ⟨hx1, Or.inr ⟨qz1, by rw [qE_eq]; exact ch_no eq1, hf1⟩⟩) dX8_either3_49
