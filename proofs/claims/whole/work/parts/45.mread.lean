/-- text t of the model: its bytes -/
def TxB (M : Nat → Int) (t : Nat) (b : Nat → Int) (n : Nat) : Prop := t < 6 ∧ n ≤ 160 ∧ M (72000 + t) = (n : Int) ∧ ∀ i, i < n → M (71000 + (160 * t + i)) = b i ∧ 0 ≤ b i ∧ b i ≤ 255
theorem TxB.fr {M M' : Nat → Int} {t : Nat} {b : Nat → Int} {n : Nat} (h : TxB M t b n) (hf : ∀ m, m = 72000 + t ∨ (71000 + 160 * t ≤ m ∧ m < 71000 + 160 * t + 160) → M' m = M m) : TxB M' t b n :=
  ⟨h.1, h.2.1, (hf _ (by omega)).trans h.2.2.1, fun i hi => by have := h.2.1; have := h.1; exact ⟨(hf _ (by omega)).trans (h.2.2.2 i hi).1, (h.2.2.2 i hi).2⟩⟩
theorem TxB.tm {M : Nat → Int} {t : Nat} {b : Nat → Int} {n : Nat} (h : TxB M t b n) (h1 : M 70019 = (n : Int)) (h2 : M 70018 = ((160 * t : Nat) : Int)) : TM M b n (160 * t) :=
  ⟨h1, h2, h.2.1, by have := h.1; omega, h.2.2.2⟩
theorem NM.ms {M M' : Nat → Int} {b : Nat → Int} {n f : Nat} (h : NM M M' b n 0) (hb : TM M b n f) (h1 : M 70024 = 0) (h2 : M 70025 = 0) : MS M' b n f 0 0 :=
  ⟨⟨hb.fr (fun m hm => h.2 m (by omega)), Nat.zero_le _⟩, h.1, (h.2 _ (by omega)).trans h1, (h.2 _ (by omega)).trans h2⟩
/-- what reading may change -/
def MR (M M' : Nat → Int) : Prop := ∀ m, ¬ (70018 ≤ m ∧ m ≤ 70026) → M' m = M m
set_option maxHeartbeats 4000000 in
set_option maxRecDepth 100000 in
theorem c_X8_part1 (l : Launch) (g : Gm) (M : Nat → Int) (hF : LvF g) (nm : Nat → Int) (hnm : NMS M nm) (b : Nat → Int) (n : Nat) (f : Nat) (i : Nat) (hs : MS M b n f i 0) (key : Int) (htk : tK b n i = key) (hk7 : key ≠ 7 ∧ mT b n i ≠ 4) : CI l ({ cls := "RatedBySighsModel", name := "part", desc := "(Z)I" } : Jvm.MethodName) cX8_part 3 .int (rmm 40 883) g M [.ref (gA g 70), .int (II 1)] (fun r M' => (MX M M') ∧ (((∃ c j, ptP b n key i = .inr (c, j) ∧ MS M' b n f j 0 ∧ r = vC nm c)) ∨ ((∃ q, ptP b n key i = .inl q ∧ MF M' q 0)))) := by
  refine c_start (by decide) (Nat.le_of_ble_eq_true rfl) (fun p e s m below meth c ls C hr hlk hml hw hS hl => ?_)
  have hl : lv_has ls 3 [(0, .ref (gA g 70)), (1, .int (II 1))] := hl
  have g_M := hw.rg
  have hN : gN g = 84 := hF.1
  obtain ⟨hk7, h4⟩ := hk7
  refine lv_iload_n C.1 C.2.1 dX8_part_0 rfl (lv_at hl 1 rfl) ?_
  refine x_if_ne (tgt := 8) C ⟨by decide, by decide⟩ dX8_part_1 (by decide) (fun _ => ?_) (fun h => absurd h (by decide))
  refine lv_aload_n C.1 C.2.1 dX8_part_8 rfl (lv_at hl 0 rfl) ?_
  refine g8 C hw 70 (by omega) rfl 25 (by decide) mw_849 (svi (x := 0) hs.2.2.2) dX8_part_9 ?_
  refine x_if_ne (tgt := 19) C ⟨by decide, by decide⟩ dX8_part_12 (by decide) (fun h => absurd h (by decide)) (fun _ => ?_)
  refine lv_aload_n C.1 C.2.1 dX8_part_15 rfl (lv_at hl 0 rfl) ?_
  refine x_cv (x_runV (n := 0) C hw hS hml hl.1 70 8 (by omega) rfl (by decide) rfl (c_X8_next l g M hF b n f hs.1.1 (tE b n i) (tE_in hs.1.2).2.1 (hs.2.1.2.2.1 (by omega))) mw_1003 mw_1005 mw_60 mw_130 mw_1006 rfl rfl (by decide +kernel) ⟨Nat.le_of_ble_eq_true rfl, Nat.le_of_ble_eq_true rfl⟩ rfl rfl (Nat.le_of_ble_eq_true rfl) dX8_part_16 ⟨Nat.zero_le _, Nat.zero_le _⟩) hS (fun M16 H locs hp hw hS => ?_)
  have h16p := hp
  have g_M16 := hw.rg
  have hs16 := hs.next h16p
  have ht16 := tK_7 (b := b) hs.1.2 (by omega)
  have hx16 := (MX.rfl').tr h16p.mx
  refine lv_aload_n C.1 C.2.1 dX8_part_19 rfl (lv_at hl 0 rfl) ?_
  refine g8 C hw 70 (by omega) rfl 25 (by decide) mw_849 (svi (x := 0) hs16.2.2.2) dX8_part_20 ?_
  refine x_if_eq (tgt := 30) C ⟨by decide, by decide⟩ dX8_part_23 (by decide) (fun _ => ?_) (fun h => absurd h (by decide))
  refine lv_aload_n C.1 C.2.1 dX8_part_30 rfl (lv_at hl 0 rfl) ?_
  refine x_ci (x_runV (n := 0) C hw hS hml hl.1 70 8 (by omega) rfl (by decide) rfl (c_X8_either0 l g M16 hF nm (hnm.mx hx16) b n f (tE b n i) hs16) mw_1031 mw_1033 mw_66 mw_130 mw_1034 rfl rfl (by decide +kernel) ⟨Nat.le_of_ble_eq_true rfl, Nat.le_of_ble_eq_true rfl⟩ rfl rfl (Nat.le_of_ble_eq_true rfl) dX8_part_31 ⟨Nat.zero_le _, Nat.zero_le _⟩) hS (fun r31 M31 H locs hr31 hp hw hS => ?_)
  rcases hp with ⟨h31f, (h31b | h31b)⟩
  · have g_M31 := hw.rg
    obtain ⟨y31, j31, eq31, hs31, hv31⟩ := h31b
    have hx31 := (hx16).tr h31f
    have hk31 := (ok_qE b n 5).r hs16.1.2 eq31
    refine lv_istore_n (lv' := [(2, .int (II r31)), (0, .ref (gA g 70)), (1, .int (II 1))]) C.1 C.2.1 dX8_part_34 rfl hl (by decide) rfl (fun ls hl => ?_)
    refine lv_aload_n C.1 C.2.1 dX8_part_35 rfl (lv_at hl 1 rfl) ?_
    refine lv_bipush (v := II 59) C.1 C.2.1 dX8_part_36 (by decide) ?_
    refine x_ci (x_runV (n := 1) C hw hS hml hl.1 70 8 (by omega) rfl (by decide) rfl (c_X8_isSign0 l g M31 hF b n f j31 0 hs31 59 ⟨by decide, by decide⟩ 6 (by decide)) mw_1079 mw_1081 mw_78 mw_130 mw_1082 rfl rfl (by decide +kernel) ⟨Nat.le_of_ble_eq_true rfl, Nat.le_of_ble_eq_true rfl⟩ rfl rfl (Nat.le_of_ble_eq_true rfl) dX8_part_38 ⟨Nat.zero_le _, Nat.zero_le _⟩) hS (fun r38 M38 H locs hr38 hp hw hS => ?_)
    rcases hp with ⟨em38, (⟨er38, h38b⟩ | ⟨er38, h38b⟩)⟩
    · have hw : Wo g M31 H := em38 ▸ hw
      rw [er38]
      obtain ⟨hm38, hw38⟩ := (sgn_iff (b := b) (n := n) (i := j31) (x := 59) (tk := 6) (by decide) (by decide)).mp h38b
      refine x_if_ne (tgt := 48) C ⟨by decide, by decide⟩ dX8_part_41 (by decide) (fun _ => ?_) (fun h => absurd h (by decide))
      refine lv_aload_n C.1 C.2.1 dX8_part_48 rfl (lv_at hl 1 rfl) ?_
      refine g8 C hw 70 (by omega) rfl 25 (by decide) mw_849 (svi (x := 0) hs31.2.2.2) dX8_part_49 ?_
      refine x_if_ne (tgt := 59) C ⟨by decide, by decide⟩ dX8_part_52 (by decide) (fun h => absurd h (by decide)) (fun _ => ?_)
      refine lv_aload_n C.1 C.2.1 dX8_part_55 rfl (lv_at hl 1 rfl) ?_
      refine x_cv (x_runV (n := 0) C hw hS hml hl.1 70 8 (by omega) rfl (by decide) rfl (c_X8_next l g M31 hF b n f hs31.1.1 (tE b n j31) (tE_in hs31.1.2).2.1 (hs31.2.1.2.2.1 (by omega))) mw_1003 mw_1005 mw_60 mw_130 mw_1006 rfl rfl (by decide +kernel) ⟨Nat.le_of_ble_eq_true rfl, Nat.le_of_ble_eq_true rfl⟩ rfl rfl (Nat.le_of_ble_eq_true rfl) dX8_part_56 ⟨Nat.zero_le _, Nat.zero_le _⟩) hS (fun M56 H locs hp hw hS => ?_)
      have h56p := hp
      have g_M56 := hw.rg
      have hs56 := hs31.next h56p
      have ht56 := tK_7 (b := b) hs31.1.2 (by omega)
      have hx56 := (hx31).tr h56p.mx
      refine lv_iload_n C.1 C.2.1 dX8_part_59 rfl (lv_at hl 0 rfl) ?_
      exact x_ireturn C hr hlk hw hS hr31 rfl (by refine ⟨hx56, Or.inl ⟨y31, (tE b n j31), pt_ok htk eq31 h38b, hs56, hv31⟩⟩) dX8_part_60
    · have hw : Wo g M31 H := em38 ▸ hw
      rw [er38]
      refine x_if_ne (tgt := 48) C ⟨by decide, by decide⟩ dX8_part_41 (by decide) (fun h => absurd h (by decide)) (fun _ => ?_)
      refine lv_aload_n C.1 C.2.1 dX8_part_44 rfl (lv_at hl 1 rfl) ?_
      refine x_cv (x_runV (n := 0) C hw hS hml hl.1 70 8 (by omega) rfl (by decide) rfl (c_X8_fail0 l g M31 hF (tS b n j31) hs31.2.1.2.1 hs31.2.2.2) mw_1027 mw_1029 mw_65 mw_130 mw_1030 rfl rfl (by decide +kernel) ⟨Nat.le_of_ble_eq_true rfl, Nat.le_of_ble_eq_true rfl⟩ rfl rfl (Nat.le_of_ble_eq_true rfl) dX8_part_45 ⟨Nat.zero_le _, Nat.zero_le _⟩) hS (fun M45 H locs hp hw hS => ?_)
      have em45 := hp
      have hw : Wo g (stM (stM M31 70025 1) 70026 ((tS b n j31) : Int)) H := em45 ▸ hw
      have hf45 := hs31.fl
      refine lv_aload_n C.1 C.2.1 dX8_part_48 rfl (lv_at hl 1 rfl) ?_
      refine g8 C hw 70 (by omega) rfl 25 (by decide) mw_849 (svi (x := 1) ((st_n (by decide)).trans st_s)) dX8_part_49 ?_
      refine x_if_ne (tgt := 59) C ⟨by decide, by decide⟩ dX8_part_52 (by decide) (fun _ => ?_) (fun h => absurd h (by decide))
      refine lv_iload_n C.1 C.2.1 dX8_part_59 rfl (lv_at hl 0 rfl) ?_
      exact x_ireturn C hr hlk hw hS hr31 rfl (by refine ⟨((hx31.st (by decide)).st (by decide)), Or.inr ⟨(tS b n j31), pt_no htk eq31 h38b, hf45⟩⟩) dX8_part_60
  · have g_M31 := hw.rg
    obtain ⟨qz31, eq31, hf31⟩ := h31b
    have hx31 := (hx16).tr h31f
    refine lv_istore_n (lv' := [(2, .int (II r31)), (0, .ref (gA g 70)), (1, .int (II 1))]) C.1 C.2.1 dX8_part_34 rfl hl (by decide) rfl (fun ls hl => ?_)
    refine lv_aload_n C.1 C.2.1 dX8_part_35 rfl (lv_at hl 1 rfl) ?_
    refine lv_bipush (v := II 59) C.1 C.2.1 dX8_part_36 (by decide) ?_
    refine x_ci (x_runV (n := 1) C hw hS hml hl.1 70 8 (by omega) rfl (by decide) rfl (c_X8_isSign1 l g M31 hF hf31.1 59 ⟨by decide, by decide⟩) mw_1079 mw_1081 mw_78 mw_130 mw_1082 rfl rfl (by decide +kernel) ⟨Nat.le_of_ble_eq_true rfl, Nat.le_of_ble_eq_true rfl⟩ rfl rfl (Nat.le_of_ble_eq_true rfl) dX8_part_38 ⟨Nat.zero_le _, Nat.zero_le _⟩) hS (fun r38 M38 H locs hr38 hp hw hS => ?_)
    obtain ⟨em38, er38⟩ := hp
    have hw : Wo g M31 H := em38 ▸ hw
    rw [er38] at hr38 ⊢
    refine x_if_ne (tgt := 48) C ⟨by decide, by decide⟩ dX8_part_41 (by decide) (fun h => absurd h (by decide)) (fun _ => ?_)
    refine lv_aload_n C.1 C.2.1 dX8_part_44 rfl (lv_at hl 1 rfl) ?_
    refine x_cv (x_runV (n := 0) C hw hS hml hl.1 70 8 (by omega) rfl (by decide) rfl (c_X8_fail1 l g M31 hF hf31.1) mw_1027 mw_1029 mw_65 mw_130 mw_1030 rfl rfl (by decide +kernel) ⟨Nat.le_of_ble_eq_true rfl, Nat.le_of_ble_eq_true rfl⟩ rfl rfl (Nat.le_of_ble_eq_true rfl) dX8_part_45 ⟨Nat.zero_le _, Nat.zero_le _⟩) hS (fun M45 H locs hp hw hS => ?_)
    have em45 := hp
    have hw : Wo g M31 H := em45 ▸ hw
    refine lv_aload_n C.1 C.2.1 dX8_part_48 rfl (lv_at hl 1 rfl) ?_
    refine g8 C hw 70 (by omega) rfl 25 (by decide) mw_849 (svi (x := 1) hf31.1) dX8_part_49 ?_
    refine x_if_ne (tgt := 59) C ⟨by decide, by decide⟩ dX8_part_52 (by decide) (fun _ => ?_) (fun h => absurd h (by decide))
    refine lv_iload_n C.1 C.2.1 dX8_part_59 rfl (lv_at hl 0 rfl) ?_
    exact x_ireturn C hr hlk hw hS hr31 rfl (by refine ⟨hx31, Or.inr ⟨qz31, pt_e htk eq31, hf31⟩⟩) dX8_part_60

set_option maxHeartbeats 4000000 in
set_option maxRecDepth 100000 in
theorem c_X8_part0 (l : Launch) (g : Gm) (M : Nat → Int) (hF : LvF g) (nm : Nat → Int) (hnm : NMS M nm) (b : Nat → Int) (n : Nat) (f : Nat) (i : Nat) (hs : MS M b n f i 0) (key : Int) (htk : tK b n i ≠ key) (hk7 : True) : CI l ({ cls := "RatedBySighsModel", name := "part", desc := "(Z)I" } : Jvm.MethodName) cX8_part 3 .int (rmm 1 21) g M [.ref (gA g 70), .int (II 0)] (fun r M' => (MX M M') ∧ (((∃ c j, ptP b n key i = .inr (c, j) ∧ MS M' b n f j 0 ∧ r = vC nm c)) ∨ ((∃ q, ptP b n key i = .inl q ∧ MF M' q 0)))) := by
  refine c_start (by decide) (Nat.le_of_ble_eq_true rfl) (fun p e s m below meth c ls C hr hlk hml hw hS hl => ?_)
  have hl : lv_has ls 3 [(0, .ref (gA g 70)), (1, .int (II 0))] := hl
  have g_M := hw.rg
  have hN : gN g = 84 := hF.1
  refine lv_iload_n C.1 C.2.1 dX8_part_0 rfl (lv_at hl 1 rfl) ?_
  refine x_if_ne (tgt := 8) C ⟨by decide, by decide⟩ dX8_part_1 (by decide) (fun h => absurd h (by decide)) (fun _ => ?_)
  refine lv_aload_n C.1 C.2.1 dX8_part_4 rfl (lv_at hl 0 rfl) ?_
  refine x_cv (x_runV (n := 0) C hw hS hml hl.1 70 8 (by omega) rfl (by decide) rfl (c_X8_fail0 l g M hF (tS b n i) hs.2.1.2.1 hs.2.2.2) mw_1027 mw_1029 mw_65 mw_130 mw_1030 rfl rfl (by decide +kernel) ⟨Nat.le_of_ble_eq_true rfl, Nat.le_of_ble_eq_true rfl⟩ rfl rfl (Nat.le_of_ble_eq_true rfl) dX8_part_5 ⟨Nat.zero_le _, Nat.zero_le _⟩) hS (fun M5 H locs hp hw hS => ?_)
  have em5 := hp
  have hw : Wo g (stM (stM M 70025 1) 70026 ((tS b n i) : Int)) H := em5 ▸ hw
  have hf5 := hs.fl
  refine lv_aload_n C.1 C.2.1 dX8_part_8 rfl (lv_at hl 0 rfl) ?_
  refine g8 C hw 70 (by omega) rfl 25 (by decide) mw_849 (svi (x := 1) ((st_n (by decide)).trans st_s)) dX8_part_9 ?_
  refine x_if_ne (tgt := 19) C ⟨by decide, by decide⟩ dX8_part_12 (by decide) (fun _ => ?_) (fun h => absurd h (by decide))
  refine lv_aload_n C.1 C.2.1 dX8_part_19 rfl (lv_at hl 0 rfl) ?_
  refine g8 C hw 70 (by omega) rfl 25 (by decide) mw_849 (svi (x := 1) ((st_n (by decide)).trans st_s)) dX8_part_20 ?_
  refine x_if_eq (tgt := 30) C ⟨by decide, by decide⟩ dX8_part_23 (by decide) (fun h => absurd h (by decide)) (fun _ => ?_)
  refine lv_iconst (v := II 0) C.1 C.2.1 dX8_part_26 rfl ?_
  refine lv_goto (tgt := 34) C.1 C.2.1 dX8_part_27 (by decide) ?_
  refine lv_istore_n (lv' := [(2, .int (II 0)), (0, .ref (gA g 70)), (1, .int (II 0))]) C.1 C.2.1 dX8_part_34 rfl hl (by decide) rfl (fun ls hl => ?_)
  refine lv_aload_n C.1 C.2.1 dX8_part_35 rfl (lv_at hl 1 rfl) ?_
  refine lv_bipush (v := II 59) C.1 C.2.1 dX8_part_36 (by decide) ?_
  refine x_ci (x_runV (n := 1) C hw hS hml hl.1 70 8 (by omega) rfl (by decide) rfl (c_X8_isSign1 l g (stM (stM M 70025 1) 70026 ((tS b n i) : Int)) hF hf5.1 59 ⟨by decide, by decide⟩) mw_1079 mw_1081 mw_78 mw_130 mw_1082 rfl rfl (by decide +kernel) ⟨Nat.le_of_ble_eq_true rfl, Nat.le_of_ble_eq_true rfl⟩ rfl rfl (Nat.le_of_ble_eq_true rfl) dX8_part_38 ⟨Nat.zero_le _, Nat.zero_le _⟩) hS (fun r38 M38 H locs hr38 hp hw hS => ?_)
  obtain ⟨em38, er38⟩ := hp
  have hw : Wo g (stM (stM M 70025 1) 70026 ((tS b n i) : Int)) H := em38 ▸ hw
  rw [er38] at hr38 ⊢
  refine x_if_ne (tgt := 48) C ⟨by decide, by decide⟩ dX8_part_41 (by decide) (fun h => absurd h (by decide)) (fun _ => ?_)
  refine lv_aload_n C.1 C.2.1 dX8_part_44 rfl (lv_at hl 1 rfl) ?_
  refine x_cv (x_runV (n := 0) C hw hS hml hl.1 70 8 (by omega) rfl (by decide) rfl (c_X8_fail1 l g (stM (stM M 70025 1) 70026 ((tS b n i) : Int)) hF hf5.1) mw_1027 mw_1029 mw_65 mw_130 mw_1030 rfl rfl (by decide +kernel) ⟨Nat.le_of_ble_eq_true rfl, Nat.le_of_ble_eq_true rfl⟩ rfl rfl (Nat.le_of_ble_eq_true rfl) dX8_part_45 ⟨Nat.zero_le _, Nat.zero_le _⟩) hS (fun M45 H locs hp hw hS => ?_)
  have em45 := hp
  have hw : Wo g (stM (stM M 70025 1) 70026 ((tS b n i) : Int)) H := em45 ▸ hw
  refine lv_aload_n C.1 C.2.1 dX8_part_48 rfl (lv_at hl 1 rfl) ?_
  refine g8 C hw 70 (by omega) rfl 25 (by decide) mw_849 (svi (x := 1) ((st_n (by decide)).trans st_s)) dX8_part_49 ?_
  refine x_if_ne (tgt := 59) C ⟨by decide, by decide⟩ dX8_part_52 (by decide) (fun _ => ?_) (fun h => absurd h (by decide))
  refine lv_iload_n C.1 C.2.1 dX8_part_59 rfl (lv_at hl 0 rfl) ?_
  exact x_ireturn C hr hlk hw hS ⟨by decide, by decide⟩ rfl (by refine ⟨((MX.rfl'.st (by decide)).st (by decide)), Or.inr ⟨(tS b n i), pt_key htk, hf5⟩⟩) dX8_part_60

set_option maxHeartbeats 4000000 in
set_option maxRecDepth 100000 in
theorem c_X8_read (l : Launch) (g : Gm) (M : Nat → Int) (hF : LvF g) (nm : Nat → Int) (hnm : NMS M nm) (t : Nat) (b : Nat → Int) (n : Nat) (hT : TxB M t b n) (w : Int) (gw : rg w) : CI l ({ cls := "RatedBySighsModel", name := "read", desc := "(II)I" } : Jvm.MethodName) cX8_read 6 .int (rmm 41 905) g M [.ref (gA g 70), .int (II (t : Int)), .int (II w)] (fun r M' => (MR M M') ∧ (((∃ d0 d1 d2, txP b n = .inr (d0, d1, d2) ∧ M' 70025 = 0 ∧ r = vC nm (if w = 0 then d0 else if w = 1 then d1 else d2))) ∨ ((∃ q : Nat, txP b n = .inl q ∧ M' 70025 = 1 ∧ M' 70026 = (q : Int))))) := by
  refine c_start (by decide) (Nat.le_of_ble_eq_true rfl) (fun p e s m below meth c ls C hr hlk hml hw hS hl => ?_)
  have hl : lv_has ls 6 [(0, .ref (gA g 70)), (1, .int (II (t : Int))), (2, .int (II w))] := hl
  have g_M := hw.rg
  have hN : gN g = 84 := hF.1
  have ht6 := hT.1
  have hn160 := hT.2.1
  refine lv_aload_n C.1 C.2.1 dX8_read_0 rfl (lv_at hl 0 rfl) ?_
  refine lv_sipush (v := II 160) C.1 C.2.1 dX8_read_1 (by decide) ?_
  refine lv_iload_n C.1 C.2.1 dX8_read_4 rfl (lv_at hl 1 rfl) ?_
  refine x_imul C dX8_read_5 ?_
  refine p8 C hw hS 70 (by omega) rfl 18 (by decide) mw_842 rfl (x := 160 * (t : Int)) ⟨by omega, by omega⟩ (svi st_s) (tyX8_ok 18 (by decide)) rfl rfl dX8_read_6 (fun H locs hw hS => ?_)
  have hw : Wo g (stM M 70018 (160 * (t : Int))) H := hw
  refine lv_aload_n C.1 C.2.1 dX8_read_9 rfl (lv_at hl 0 rfl) ?_
  refine lv_aload_n C.1 C.2.1 dX8_read_10 rfl (lv_at hl 0 rfl) ?_
  refine g8 C hw 70 (by omega) rfl 2 (by decide) mw_826 (svr (hF.2 _)) dX8_read_11 ?_
  refine lv_iload_n C.1 C.2.1 dX8_read_14 rfl (lv_at hl 1 rfl) ?_
  refine x_iaload (L := 6) C hw 72 (by omega) rfl rfl (by omega) (by omega) (by decide) (x := (n : Int)) ((st_n (by omega)).trans hT.2.2.1) dX8_read_15 ?_
  refine p8 C hw hS 70 (by omega) rfl 19 (by decide) mw_843 rfl (x := (n : Int)) ⟨by omega, by omega⟩ (svi st_s) (tyX8_ok 19 (by decide)) rfl rfl dX8_read_16 (fun H locs hw hS => ?_)
  have hw : Wo g (stM (stM M 70018 (160 * (t : Int))) 70019 (n : Int)) H := hw
  refine lv_aload_n C.1 C.2.1 dX8_read_19 rfl (lv_at hl 0 rfl) ?_
  refine lv_iconst (v := II 0) C.1 C.2.1 dX8_read_20 rfl ?_
  refine p8 C hw hS 70 (by omega) rfl 20 (by decide) mw_844 rfl (x := 0) ⟨by decide, by decide⟩ (svi st_s) (tyX8_ok 20 (by decide)) rfl rfl dX8_read_21 (fun H locs hw hS => ?_)
  have hw : Wo g (stM (stM (stM M 70018 (160 * (t : Int))) 70019 (n : Int)) 70020 0) H := hw
  refine lv_aload_n C.1 C.2.1 dX8_read_24 rfl (lv_at hl 0 rfl) ?_
  refine lv_iconst (v := II 0) C.1 C.2.1 dX8_read_25 rfl ?_
  refine p8 C hw hS 70 (by omega) rfl 24 (by decide) mw_848 rfl (x := 0) ⟨by decide, by decide⟩ (svi st_s) (tyX8_ok 24 (by decide)) rfl rfl dX8_read_26 (fun H locs hw hS => ?_)
  have hw : Wo g (stM (stM (stM (stM M 70018 (160 * (t : Int))) 70019 (n : Int)) 70020 0) 70024 0) H := hw
  refine lv_aload_n C.1 C.2.1 dX8_read_29 rfl (lv_at hl 0 rfl) ?_
  refine lv_iconst (v := II 0) C.1 C.2.1 dX8_read_30 rfl ?_
  refine p8 C hw hS 70 (by omega) rfl 25 (by decide) mw_849 rfl (x := 0) ⟨by decide, by decide⟩ (svi st_s) (tyX8_ok 25 (by decide)) (by decide) (by decide) dX8_read_31 (fun H locs hw hS => ?_)
  have hw : Wo g (stM (stM (stM (stM (stM M 70018 (160 * (t : Int))) 70019 (n : Int)) 70020 0) 70024 0) 70025 0) H := hw
  refine lv_aload_n C.1 C.2.1 dX8_read_34 rfl (lv_at hl 0 rfl) ?_
  have htm : TM (stM (stM (stM (stM (stM M 70018 (160 * (t : Int))) 70019 (n : Int)) 70020 0) 70024 0) 70025 0) b n (160 * t) := (hT.fr (fun m hm => by rw [st_n (by omega), st_n (by omega), st_n (by omega), st_n (by omega), st_n (by omega)])).tm (by simp [stM]) (by simp [stM])
  refine x_cv (x_runV (n := 0) C hw hS hml hl.1 70 8 (by omega) rfl (by decide) rfl (c_X8_next l g (stM (stM (stM (stM (stM M 70018 (160 * (t : Int))) 70019 (n : Int)) 70020 0) 70024 0) 70025 0) hF b n (160 * t) htm 0 (Nat.zero_le _) (by simp [stM])) mw_1003 mw_1005 mw_60 mw_130 mw_1006 rfl rfl (by decide +kernel) ⟨Nat.le_of_ble_eq_true rfl, Nat.le_of_ble_eq_true rfl⟩ rfl rfl (Nat.le_of_ble_eq_true rfl) dX8_read_35 ⟨Nat.zero_le _, Nat.zero_le _⟩) hS (fun M35 H locs hp hw hS => ?_)
  have h35p := hp
  have g_M35 := hw.rg
  have hs35 := h35p.ms htm (by simp [stM]) (by simp [stM])
  have hmr35 : MR M M35 := fun m hm => by
    rw [h35p.2 m (by omega), st_n (by omega), st_n (by omega), st_n (by omega), st_n (by omega), st_n (by omega)]
  have hnm : NMS M35 nm := fun x hx => (hmr35 _ (by omega)).trans (hnm x hx)
  refine lv_aload_n C.1 C.2.1 dX8_read_38 rfl (lv_at hl 0 rfl) ?_
  refine lv_aload_n C.1 C.2.1 dX8_read_39 rfl (lv_at hl 0 rfl) ?_
  refine lv_bipush (v := II 115) C.1 C.2.1 dX8_read_40 (by decide) ?_
  refine lv_bipush (v := II 105) C.1 C.2.1 dX8_read_42 (by decide) ?_
  refine lv_bipush (v := II 103) C.1 C.2.1 dX8_read_44 (by decide) ?_
  refine lv_bipush (v := II 104) C.1 C.2.1 dX8_read_46 (by decide) ?_
  refine lv_bipush (v := II 115) C.1 C.2.1 dX8_read_48 (by decide) ?_
  refine lv_iconst (v := II 0) C.1 C.2.1 dX8_read_50 rfl ?_
  refine lv_iconst (v := II 0) C.1 C.2.1 dX8_read_51 rfl ?_
  refine lv_iconst (v := II 0) C.1 C.2.1 dX8_read_52 rfl ?_
  refine x_ci (x_runV (n := 8) C hw hS hml hl.1 70 8 (by omega) rfl (by decide) rfl (c_X8_isWord0 l g M35 hF b n (160 * t) 0 0 hs35 [115, 105, 103, 104, 115] 1 115 ⟨by decide, by decide⟩ 105 ⟨by decide, by decide⟩ 103 ⟨by decide, by decide⟩ 104 ⟨by decide, by decide⟩ 115 ⟨by decide, by decide⟩ 0 ⟨by decide, by decide⟩ 0 ⟨by decide, by decide⟩ 0 ⟨by decide, by decide⟩ (by decide) wd_sighs) mw_1015 mw_1017 mw_62 mw_130 mw_1018 rfl rfl (by decide +kernel) ⟨Nat.le_of_ble_eq_true rfl, Nat.le_of_ble_eq_true rfl⟩ rfl rfl (Nat.le_of_ble_eq_true rfl) dX8_read_53 ⟨Nat.zero_le _, Nat.zero_le _⟩) hS (fun r53 M53 H locs hr53 hp hw hS => ?_)
  rcases hp with ⟨em53, (⟨er53, h53b⟩ | ⟨er53, h53b⟩)⟩
  · have hw : Wo g M35 H := em53 ▸ hw
    rw [er53]
    obtain ⟨hm53, -⟩ := (wrd_iff (b := b) (n := n) (i := 0) wd_sighs).mp h53b
    have hi56 := mT_in (b := b) (n := n) (i := 0)
    refine x_ci (x_runV (n := 1) C hw hS hml hl.1 70 8 (by omega) rfl (by decide) rfl (c_X8_part1 l g M35 hF nm (hnm.mx MX.rfl') b n (160 * t) 0 hs35 1 h53b ⟨by decide, by omega⟩) mw_1023 mw_1025 mw_64 mw_130 mw_1026 rfl rfl (by decide +kernel) ⟨Nat.le_of_ble_eq_true rfl, Nat.le_of_ble_eq_true rfl⟩ rfl rfl (Nat.le_of_ble_eq_true rfl) dX8_read_56 ⟨Nat.zero_le _, Nat.zero_le _⟩) hS (fun r56 M56 H locs hr56 hp hw hS => ?_)
    rcases hp with ⟨h56f, (h56b | h56b)⟩
    · have g_M56 := hw.rg
      obtain ⟨y56, j56, eq56, hs56, hv56⟩ := h56b
      have hx56 := (MX.rfl').tr h56f
      refine lv_istore_n (lv' := [(3, .int (II r56)), (0, .ref (gA g 70)), (1, .int (II (t : Int))), (2, .int (II w))]) C.1 C.2.1 dX8_read_59 rfl hl (by decide) rfl (fun ls hl => ?_)
      refine lv_aload_n C.1 C.2.1 dX8_read_60 rfl (lv_at hl 1 rfl) ?_
      refine g8 C hw 70 (by omega) rfl 25 (by decide) mw_849 (svi (x := 0) hs56.2.2.2) dX8_read_61 ?_
      refine x_if_eq (tgt := 71) C ⟨by decide, by decide⟩ dX8_read_64 (by decide) (fun _ => ?_) (fun h => absurd h (by decide))
      refine lv_aload_n C.1 C.2.1 dX8_read_71 rfl (lv_at hl 1 rfl) ?_
      refine lv_aload_n C.1 C.2.1 dX8_read_72 rfl (lv_at hl 1 rfl) ?_
      refine lv_bipush (v := II 109) C.1 C.2.1 dX8_read_73 (by decide) ?_
      refine lv_bipush (v := II 111) C.1 C.2.1 dX8_read_75 (by decide) ?_
      refine lv_bipush (v := II 111) C.1 C.2.1 dX8_read_77 (by decide) ?_
      refine lv_bipush (v := II 100) C.1 C.2.1 dX8_read_79 (by decide) ?_
      refine lv_bipush (v := II 115) C.1 C.2.1 dX8_read_81 (by decide) ?_
      refine lv_iconst (v := II 0) C.1 C.2.1 dX8_read_83 rfl ?_
      refine lv_iconst (v := II 0) C.1 C.2.1 dX8_read_84 rfl ?_
      refine lv_iconst (v := II 0) C.1 C.2.1 dX8_read_85 rfl ?_
      refine x_ci (x_runV (n := 8) C hw hS hml hl.1 70 8 (by omega) rfl (by decide) rfl (c_X8_isWord0 l g M56 hF b n (160 * t) j56 0 hs56 [109, 111, 111, 100, 115] 2 109 ⟨by decide, by decide⟩ 111 ⟨by decide, by decide⟩ 111 ⟨by decide, by decide⟩ 100 ⟨by decide, by decide⟩ 115 ⟨by decide, by decide⟩ 0 ⟨by decide, by decide⟩ 0 ⟨by decide, by decide⟩ 0 ⟨by decide, by decide⟩ (by decide) wd_moods) mw_1015 mw_1017 mw_62 mw_130 mw_1018 rfl rfl (by decide +kernel) ⟨Nat.le_of_ble_eq_true rfl, Nat.le_of_ble_eq_true rfl⟩ rfl rfl (Nat.le_of_ble_eq_true rfl) dX8_read_86 ⟨Nat.zero_le _, Nat.zero_le _⟩) hS (fun r86 M86 H locs hr86 hp hw hS => ?_)
      rcases hp with ⟨em86, (⟨er86, h86b⟩ | ⟨er86, h86b⟩)⟩
      · have hw : Wo g M56 H := em86 ▸ hw
        rw [er86]
        obtain ⟨hm86, -⟩ := (wrd_iff (b := b) (n := n) (i := j56) wd_moods).mp h86b
        have hi89 := mT_in (b := b) (n := n) (i := j56)
        refine x_ci (x_runV (n := 1) C hw hS hml hl.1 70 8 (by omega) rfl (by decide) rfl (c_X8_part1 l g M56 hF nm (hnm.mx hx56) b n (160 * t) j56 hs56 2 h86b ⟨by decide, by omega⟩) mw_1023 mw_1025 mw_64 mw_130 mw_1026 rfl rfl (by decide +kernel) ⟨Nat.le_of_ble_eq_true rfl, Nat.le_of_ble_eq_true rfl⟩ rfl rfl (Nat.le_of_ble_eq_true rfl) dX8_read_89 ⟨Nat.zero_le _, Nat.zero_le _⟩) hS (fun r89 M89 H locs hr89 hp hw hS => ?_)
        rcases hp with ⟨h89f, (h89b | h89b)⟩
        · have g_M89 := hw.rg
          obtain ⟨y89, j89, eq89, hs89, hv89⟩ := h89b
          have hx89 := (hx56).tr h89f
          refine lv_istore (lv' := [(4, .int (II r89)), (3, .int (II r56)), (0, .ref (gA g 70)), (1, .int (II (t : Int))), (2, .int (II w))]) C.1 C.2.1 dX8_read_92 hl (by decide) rfl (fun ls hl => ?_)
          refine lv_aload_n C.1 C.2.1 dX8_read_94 rfl (lv_at hl 2 rfl) ?_
          refine g8 C hw 70 (by omega) rfl 25 (by decide) mw_849 (svi (x := 0) hs89.2.2.2) dX8_read_95 ?_
          refine x_if_eq (tgt := 105) C ⟨by decide, by decide⟩ dX8_read_98 (by decide) (fun _ => ?_) (fun h => absurd h (by decide))
          refine lv_aload_n C.1 C.2.1 dX8_read_105 rfl (lv_at hl 2 rfl) ?_
          refine lv_aload_n C.1 C.2.1 dX8_read_106 rfl (lv_at hl 2 rfl) ?_
          refine lv_bipush (v := II 112) C.1 C.2.1 dX8_read_107 (by decide) ?_
          refine lv_bipush (v := II 97) C.1 C.2.1 dX8_read_109 (by decide) ?_
          refine lv_bipush (v := II 121) C.1 C.2.1 dX8_read_111 (by decide) ?_
          refine lv_bipush (v := II 115) C.1 C.2.1 dX8_read_113 (by decide) ?_
          refine lv_iconst (v := II 0) C.1 C.2.1 dX8_read_115 rfl ?_
          refine lv_iconst (v := II 0) C.1 C.2.1 dX8_read_116 rfl ?_
          refine lv_iconst (v := II 0) C.1 C.2.1 dX8_read_117 rfl ?_
          refine lv_iconst (v := II 0) C.1 C.2.1 dX8_read_118 rfl ?_
          refine x_ci (x_runV (n := 8) C hw hS hml hl.1 70 8 (by omega) rfl (by decide) rfl (c_X8_isWord0 l g M89 hF b n (160 * t) j89 0 hs89 [112, 97, 121, 115] 3 112 ⟨by decide, by decide⟩ 97 ⟨by decide, by decide⟩ 121 ⟨by decide, by decide⟩ 115 ⟨by decide, by decide⟩ 0 ⟨by decide, by decide⟩ 0 ⟨by decide, by decide⟩ 0 ⟨by decide, by decide⟩ 0 ⟨by decide, by decide⟩ (by decide) wd_pays) mw_1015 mw_1017 mw_62 mw_130 mw_1018 rfl rfl (by decide +kernel) ⟨Nat.le_of_ble_eq_true rfl, Nat.le_of_ble_eq_true rfl⟩ rfl rfl (Nat.le_of_ble_eq_true rfl) dX8_read_119 ⟨Nat.zero_le _, Nat.zero_le _⟩) hS (fun r119 M119 H locs hr119 hp hw hS => ?_)
          rcases hp with ⟨em119, (⟨er119, h119b⟩ | ⟨er119, h119b⟩)⟩
          · have hw : Wo g M89 H := em119 ▸ hw
            rw [er119]
            obtain ⟨hm119, -⟩ := (wrd_iff (b := b) (n := n) (i := j89) wd_pays).mp h119b
            have hi122 := mT_in (b := b) (n := n) (i := j89)
            refine x_ci (x_runV (n := 1) C hw hS hml hl.1 70 8 (by omega) rfl (by decide) rfl (c_X8_part1 l g M89 hF nm (hnm.mx hx89) b n (160 * t) j89 hs89 3 h119b ⟨by decide, by omega⟩) mw_1023 mw_1025 mw_64 mw_130 mw_1026 rfl rfl (by decide +kernel) ⟨Nat.le_of_ble_eq_true rfl, Nat.le_of_ble_eq_true rfl⟩ rfl rfl (Nat.le_of_ble_eq_true rfl) dX8_read_122 ⟨Nat.zero_le _, Nat.zero_le _⟩) hS (fun r122 M122 H locs hr122 hp hw hS => ?_)
            rcases hp with ⟨h122f, (h122b | h122b)⟩
            · have g_M122 := hw.rg
              obtain ⟨y122, j122, eq122, hs122, hv122⟩ := h122b
              have hx122 := (hx89).tr h122f
              refine lv_istore (lv' := [(5, .int (II r122)), (4, .int (II r89)), (3, .int (II r56)), (0, .ref (gA g 70)), (1, .int (II (t : Int))), (2, .int (II w))]) C.1 C.2.1 dX8_read_125 hl (by decide) rfl (fun ls hl => ?_)
              refine lv_aload_n C.1 C.2.1 dX8_read_127 rfl (lv_at hl 3 rfl) ?_
              refine g8 C hw 70 (by omega) rfl 25 (by decide) mw_849 (svi (x := 0) hs122.2.2.2) dX8_read_128 ?_
              refine x_if_ne (tgt := 145) C ⟨by decide, by decide⟩ dX8_read_131 (by decide) (fun h => absurd h (by decide)) (fun _ => ?_)
              have hi142 := mT_in (b := b) (n := n) (i := j122)
              have hsg142 := sgT_in (x := b (tS b n j122))
              have hwd142 := wdT_in (b := b) (s := tS b n j122) (e := tE b n j122)
              refine lv_aload_n C.1 C.2.1 dX8_read_134 rfl (lv_at hl 3 rfl) ?_
              refine g8 C hw 70 (by omega) rfl 21 (by decide) mw_845 (svi (x := mT b n j122) hs122.2.1.1) dX8_read_135 ?_
              refine x_if_eq (tgt := 145) C ⟨by have := g_M122 70021; have := hs122.2.1.1; omega, by have := g_M122 70021; have := hs122.2.1.1; omega⟩ dX8_read_138 (by decide) (fun c138 => ?_) (fun c138 => ?_)
              · refine lv_iload_n C.1 C.2.1 dX8_read_145 rfl (lv_at hl 5 rfl) ?_
                refine x_if_ne (tgt := 153) C gw dX8_read_146 (by decide) (fun c146 => ?_) (fun c146 => ?_)
                · refine lv_iload_n C.1 C.2.1 dX8_read_153 rfl (lv_at hl 5 rfl) ?_
                  refine lv_iconst (v := II 1) C.1 C.2.1 dX8_read_154 rfl ?_
                  refine x_icmp_ne (tgt := 163) C gw ⟨by decide, by decide⟩ dX8_read_155 (by decide) (fun c155 => ?_) (fun c155 => ?_)
                  · refine lv_iload C.1 C.2.1 dX8_read_163 (lv_at hl 0 rfl) ?_
                    exact x_ireturn C hr hlk hw hS hr122 rfl (by refine ⟨(fun m hm => (hx122 m (by omega)).trans (hmr35 m hm)), Or.inl ⟨y56, y89, y122, tx_4 eq56 eq89 eq122 (by omega), hs122.2.2.2, ?_⟩⟩; first | (rw [if_pos (by omega)]; exact hv56) | (rw [if_neg (by omega), if_pos (by omega)]; exact hv89) | (rw [if_neg (by omega), if_neg (by omega)]; exact hv122)) dX8_read_165
                  · refine lv_iload C.1 C.2.1 dX8_read_158 (lv_at hl 1 rfl) ?_
                    refine lv_goto (tgt := 165) C.1 C.2.1 dX8_read_160 (by decide) ?_
                    exact x_ireturn C hr hlk hw hS hr89 rfl (by refine ⟨(fun m hm => (hx122 m (by omega)).trans (hmr35 m hm)), Or.inl ⟨y56, y89, y122, tx_4 eq56 eq89 eq122 (by omega), hs122.2.2.2, ?_⟩⟩; first | (rw [if_pos (by omega)]; exact hv56) | (rw [if_neg (by omega), if_pos (by omega)]; exact hv89) | (rw [if_neg (by omega), if_neg (by omega)]; exact hv122)) dX8_read_165
                · refine lv_iload_n C.1 C.2.1 dX8_read_149 rfl (lv_at hl 2 rfl) ?_
                  refine lv_goto (tgt := 165) C.1 C.2.1 dX8_read_150 (by decide) ?_
                  exact x_ireturn C hr hlk hw hS hr56 rfl (by refine ⟨(fun m hm => (hx122 m (by omega)).trans (hmr35 m hm)), Or.inl ⟨y56, y89, y122, tx_4 eq56 eq89 eq122 (by omega), hs122.2.2.2, ?_⟩⟩; first | (rw [if_pos (by omega)]; exact hv56) | (rw [if_neg (by omega), if_pos (by omega)]; exact hv89) | (rw [if_neg (by omega), if_neg (by omega)]; exact hv122)) dX8_read_165
              · refine lv_aload_n C.1 C.2.1 dX8_read_141 rfl (lv_at hl 3 rfl) ?_
                refine x_cv (x_runV (n := 0) C hw hS hml hl.1 70 8 (by omega) rfl (by decide) rfl (c_X8_fail0 l g M122 hF (tS b n j122) hs122.2.1.2.1 hs122.2.2.2) mw_1027 mw_1029 mw_65 mw_130 mw_1030 rfl rfl (by decide +kernel) ⟨Nat.le_of_ble_eq_true rfl, Nat.le_of_ble_eq_true rfl⟩ rfl rfl (Nat.le_of_ble_eq_true rfl) dX8_read_142 ⟨Nat.zero_le _, Nat.zero_le _⟩) hS (fun M142 H locs hp hw hS => ?_)
                have em142 := hp
                have hw : Wo g (stM (stM M122 70025 1) 70026 ((tS b n j122) : Int)) H := em142 ▸ hw
                have hf142 := hs122.fl
                refine lv_iload_n C.1 C.2.1 dX8_read_145 rfl (lv_at hl 5 rfl) ?_
                refine x_if_ne (tgt := 153) C gw dX8_read_146 (by decide) (fun c146 => ?_) (fun c146 => ?_)
                · refine lv_iload_n C.1 C.2.1 dX8_read_153 rfl (lv_at hl 5 rfl) ?_
                  refine lv_iconst (v := II 1) C.1 C.2.1 dX8_read_154 rfl ?_
                  refine x_icmp_ne (tgt := 163) C gw ⟨by decide, by decide⟩ dX8_read_155 (by decide) (fun c155 => ?_) (fun c155 => ?_)
                  · refine lv_iload C.1 C.2.1 dX8_read_163 (lv_at hl 0 rfl) ?_
                    exact x_ireturn C hr hlk hw hS hr122 rfl (by refine ⟨(fun m hm => (((hx122.st (by decide)).st (by decide)) m (by omega)).trans (hmr35 m hm)), Or.inr ⟨_, tx_3 eq56 eq89 eq122 (by omega), hf142.1, hf142.2.1⟩⟩) dX8_read_165
                  · refine lv_iload C.1 C.2.1 dX8_read_158 (lv_at hl 1 rfl) ?_
                    refine lv_goto (tgt := 165) C.1 C.2.1 dX8_read_160 (by decide) ?_
                    exact x_ireturn C hr hlk hw hS hr89 rfl (by refine ⟨(fun m hm => (((hx122.st (by decide)).st (by decide)) m (by omega)).trans (hmr35 m hm)), Or.inr ⟨_, tx_3 eq56 eq89 eq122 (by omega), hf142.1, hf142.2.1⟩⟩) dX8_read_165
                · refine lv_iload_n C.1 C.2.1 dX8_read_149 rfl (lv_at hl 2 rfl) ?_
                  refine lv_goto (tgt := 165) C.1 C.2.1 dX8_read_150 (by decide) ?_
                  exact x_ireturn C hr hlk hw hS hr56 rfl (by refine ⟨(fun m hm => (((hx122.st (by decide)).st (by decide)) m (by omega)).trans (hmr35 m hm)), Or.inr ⟨_, tx_3 eq56 eq89 eq122 (by omega), hf142.1, hf142.2.1⟩⟩) dX8_read_165
            · have g_M122 := hw.rg
              obtain ⟨qz122, eq122, hf122⟩ := h122b
              have hx122 := (hx89).tr h122f
              refine lv_istore (lv' := [(5, .int (II r122)), (4, .int (II r89)), (3, .int (II r56)), (0, .ref (gA g 70)), (1, .int (II (t : Int))), (2, .int (II w))]) C.1 C.2.1 dX8_read_125 hl (by decide) rfl (fun ls hl => ?_)
              refine lv_aload_n C.1 C.2.1 dX8_read_127 rfl (lv_at hl 3 rfl) ?_
              refine g8 C hw 70 (by omega) rfl 25 (by decide) mw_849 (svi (x := 1) hf122.1) dX8_read_128 ?_
              refine x_if_ne (tgt := 145) C ⟨by decide, by decide⟩ dX8_read_131 (by decide) (fun _ => ?_) (fun h => absurd h (by decide))
              refine lv_iload_n C.1 C.2.1 dX8_read_145 rfl (lv_at hl 5 rfl) ?_
              refine x_if_ne (tgt := 153) C gw dX8_read_146 (by decide) (fun c146 => ?_) (fun c146 => ?_)
              · refine lv_iload_n C.1 C.2.1 dX8_read_153 rfl (lv_at hl 5 rfl) ?_
                refine lv_iconst (v := II 1) C.1 C.2.1 dX8_read_154 rfl ?_
                refine x_icmp_ne (tgt := 163) C gw ⟨by decide, by decide⟩ dX8_read_155 (by decide) (fun c155 => ?_) (fun c155 => ?_)
                · refine lv_iload C.1 C.2.1 dX8_read_163 (lv_at hl 0 rfl) ?_
                  exact x_ireturn C hr hlk hw hS hr122 rfl (by refine ⟨(fun m hm => (hx122 m (by omega)).trans (hmr35 m hm)), Or.inr ⟨_, tx_2 eq56 eq89 eq122, hf122.1, hf122.2.1⟩⟩) dX8_read_165
                · refine lv_iload C.1 C.2.1 dX8_read_158 (lv_at hl 1 rfl) ?_
                  refine lv_goto (tgt := 165) C.1 C.2.1 dX8_read_160 (by decide) ?_
                  exact x_ireturn C hr hlk hw hS hr89 rfl (by refine ⟨(fun m hm => (hx122 m (by omega)).trans (hmr35 m hm)), Or.inr ⟨_, tx_2 eq56 eq89 eq122, hf122.1, hf122.2.1⟩⟩) dX8_read_165
              · refine lv_iload_n C.1 C.2.1 dX8_read_149 rfl (lv_at hl 2 rfl) ?_
                refine lv_goto (tgt := 165) C.1 C.2.1 dX8_read_150 (by decide) ?_
                exact x_ireturn C hr hlk hw hS hr56 rfl (by refine ⟨(fun m hm => (hx122 m (by omega)).trans (hmr35 m hm)), Or.inr ⟨_, tx_2 eq56 eq89 eq122, hf122.1, hf122.2.1⟩⟩) dX8_read_165
          · have hw : Wo g M89 H := em119 ▸ hw
            rw [er119]
            have hi122 := mT_in (b := b) (n := n) (i := j89)
            refine x_ci (x_runV (n := 1) C hw hS hml hl.1 70 8 (by omega) rfl (by decide) rfl (c_X8_part0 l g M89 hF nm (hnm.mx hx89) b n (160 * t) j89 hs89 3 h119b trivial) mw_1023 mw_1025 mw_64 mw_130 mw_1026 rfl rfl (by decide +kernel) ⟨Nat.le_of_ble_eq_true rfl, Nat.le_of_ble_eq_true rfl⟩ rfl rfl (Nat.le_of_ble_eq_true rfl) dX8_read_122 ⟨Nat.zero_le _, Nat.zero_le _⟩) hS (fun r122 M122 H locs hr122 hp hw hS => ?_)
            rcases hp with ⟨h122f, (h122b | h122b)⟩
            · have g_M122 := hw.rg
              obtain ⟨y122, j122, eq122, hs122, hv122⟩ := h122b
              have hx122 := (hx89).tr h122f
              refine lv_istore (lv' := [(5, .int (II r122)), (4, .int (II r89)), (3, .int (II r56)), (0, .ref (gA g 70)), (1, .int (II (t : Int))), (2, .int (II w))]) C.1 C.2.1 dX8_read_125 hl (by decide) rfl (fun ls hl => ?_)
              refine lv_aload_n C.1 C.2.1 dX8_read_127 rfl (lv_at hl 3 rfl) ?_
              refine g8 C hw 70 (by omega) rfl 25 (by decide) mw_849 (svi (x := 0) hs122.2.2.2) dX8_read_128 ?_
              refine x_if_ne (tgt := 145) C ⟨by decide, by decide⟩ dX8_read_131 (by decide) (fun h => absurd h (by decide)) (fun _ => ?_)
              have hi142 := mT_in (b := b) (n := n) (i := j122)
              have hsg142 := sgT_in (x := b (tS b n j122))
              have hwd142 := wdT_in (b := b) (s := tS b n j122) (e := tE b n j122)
              refine lv_aload_n C.1 C.2.1 dX8_read_134 rfl (lv_at hl 3 rfl) ?_
              refine g8 C hw 70 (by omega) rfl 21 (by decide) mw_845 (svi (x := mT b n j122) hs122.2.1.1) dX8_read_135 ?_
              refine x_if_eq (tgt := 145) C ⟨by have := g_M122 70021; have := hs122.2.1.1; omega, by have := g_M122 70021; have := hs122.2.1.1; omega⟩ dX8_read_138 (by decide) (fun c138 => ?_) (fun c138 => ?_)
              · refine lv_iload_n C.1 C.2.1 dX8_read_145 rfl (lv_at hl 5 rfl) ?_
                refine x_if_ne (tgt := 153) C gw dX8_read_146 (by decide) (fun c146 => ?_) (fun c146 => ?_)
                · refine lv_iload_n C.1 C.2.1 dX8_read_153 rfl (lv_at hl 5 rfl) ?_
                  refine lv_iconst (v := II 1) C.1 C.2.1 dX8_read_154 rfl ?_
                  refine x_icmp_ne (tgt := 163) C gw ⟨by decide, by decide⟩ dX8_read_155 (by decide) (fun c155 => ?_) (fun c155 => ?_)
                  · refine lv_iload C.1 C.2.1 dX8_read_163 (lv_at hl 0 rfl) ?_
                    exact x_ireturn C hr hlk hw hS hr122 rfl (by refine ⟨(fun m hm => (hx122 m (by omega)).trans (hmr35 m hm)), Or.inl ⟨y56, y89, y122, tx_4 eq56 eq89 eq122 (by omega), hs122.2.2.2, ?_⟩⟩; first | (rw [if_pos (by omega)]; exact hv56) | (rw [if_neg (by omega), if_pos (by omega)]; exact hv89) | (rw [if_neg (by omega), if_neg (by omega)]; exact hv122)) dX8_read_165
                  · refine lv_iload C.1 C.2.1 dX8_read_158 (lv_at hl 1 rfl) ?_
                    refine lv_goto (tgt := 165) C.1 C.2.1 dX8_read_160 (by decide) ?_
                    exact x_ireturn C hr hlk hw hS hr89 rfl (by refine ⟨(fun m hm => (hx122 m (by omega)).trans (hmr35 m hm)), Or.inl ⟨y56, y89, y122, tx_4 eq56 eq89 eq122 (by omega), hs122.2.2.2, ?_⟩⟩; first | (rw [if_pos (by omega)]; exact hv56) | (rw [if_neg (by omega), if_pos (by omega)]; exact hv89) | (rw [if_neg (by omega), if_neg (by omega)]; exact hv122)) dX8_read_165
                · refine lv_iload_n C.1 C.2.1 dX8_read_149 rfl (lv_at hl 2 rfl) ?_
                  refine lv_goto (tgt := 165) C.1 C.2.1 dX8_read_150 (by decide) ?_
                  exact x_ireturn C hr hlk hw hS hr56 rfl (by refine ⟨(fun m hm => (hx122 m (by omega)).trans (hmr35 m hm)), Or.inl ⟨y56, y89, y122, tx_4 eq56 eq89 eq122 (by omega), hs122.2.2.2, ?_⟩⟩; first | (rw [if_pos (by omega)]; exact hv56) | (rw [if_neg (by omega), if_pos (by omega)]; exact hv89) | (rw [if_neg (by omega), if_neg (by omega)]; exact hv122)) dX8_read_165
              · refine lv_aload_n C.1 C.2.1 dX8_read_141 rfl (lv_at hl 3 rfl) ?_
                refine x_cv (x_runV (n := 0) C hw hS hml hl.1 70 8 (by omega) rfl (by decide) rfl (c_X8_fail0 l g M122 hF (tS b n j122) hs122.2.1.2.1 hs122.2.2.2) mw_1027 mw_1029 mw_65 mw_130 mw_1030 rfl rfl (by decide +kernel) ⟨Nat.le_of_ble_eq_true rfl, Nat.le_of_ble_eq_true rfl⟩ rfl rfl (Nat.le_of_ble_eq_true rfl) dX8_read_142 ⟨Nat.zero_le _, Nat.zero_le _⟩) hS (fun M142 H locs hp hw hS => ?_)
                have em142 := hp
                have hw : Wo g (stM (stM M122 70025 1) 70026 ((tS b n j122) : Int)) H := em142 ▸ hw
                have hf142 := hs122.fl
                refine lv_iload_n C.1 C.2.1 dX8_read_145 rfl (lv_at hl 5 rfl) ?_
                refine x_if_ne (tgt := 153) C gw dX8_read_146 (by decide) (fun c146 => ?_) (fun c146 => ?_)
                · refine lv_iload_n C.1 C.2.1 dX8_read_153 rfl (lv_at hl 5 rfl) ?_
                  refine lv_iconst (v := II 1) C.1 C.2.1 dX8_read_154 rfl ?_
                  refine x_icmp_ne (tgt := 163) C gw ⟨by decide, by decide⟩ dX8_read_155 (by decide) (fun c155 => ?_) (fun c155 => ?_)
                  · refine lv_iload C.1 C.2.1 dX8_read_163 (lv_at hl 0 rfl) ?_
                    exact x_ireturn C hr hlk hw hS hr122 rfl (by refine ⟨(fun m hm => (((hx122.st (by decide)).st (by decide)) m (by omega)).trans (hmr35 m hm)), Or.inr ⟨_, tx_3 eq56 eq89 eq122 (by omega), hf142.1, hf142.2.1⟩⟩) dX8_read_165
                  · refine lv_iload C.1 C.2.1 dX8_read_158 (lv_at hl 1 rfl) ?_
                    refine lv_goto (tgt := 165) C.1 C.2.1 dX8_read_160 (by decide) ?_
                    exact x_ireturn C hr hlk hw hS hr89 rfl (by refine ⟨(fun m hm => (((hx122.st (by decide)).st (by decide)) m (by omega)).trans (hmr35 m hm)), Or.inr ⟨_, tx_3 eq56 eq89 eq122 (by omega), hf142.1, hf142.2.1⟩⟩) dX8_read_165
                · refine lv_iload_n C.1 C.2.1 dX8_read_149 rfl (lv_at hl 2 rfl) ?_
                  refine lv_goto (tgt := 165) C.1 C.2.1 dX8_read_150 (by decide) ?_
                  exact x_ireturn C hr hlk hw hS hr56 rfl (by refine ⟨(fun m hm => (((hx122.st (by decide)).st (by decide)) m (by omega)).trans (hmr35 m hm)), Or.inr ⟨_, tx_3 eq56 eq89 eq122 (by omega), hf142.1, hf142.2.1⟩⟩) dX8_read_165
            · have g_M122 := hw.rg
              obtain ⟨qz122, eq122, hf122⟩ := h122b
              have hx122 := (hx89).tr h122f
              refine lv_istore (lv' := [(5, .int (II r122)), (4, .int (II r89)), (3, .int (II r56)), (0, .ref (gA g 70)), (1, .int (II (t : Int))), (2, .int (II w))]) C.1 C.2.1 dX8_read_125 hl (by decide) rfl (fun ls hl => ?_)
              refine lv_aload_n C.1 C.2.1 dX8_read_127 rfl (lv_at hl 3 rfl) ?_
              refine g8 C hw 70 (by omega) rfl 25 (by decide) mw_849 (svi (x := 1) hf122.1) dX8_read_128 ?_
              refine x_if_ne (tgt := 145) C ⟨by decide, by decide⟩ dX8_read_131 (by decide) (fun _ => ?_) (fun h => absurd h (by decide))
              refine lv_iload_n C.1 C.2.1 dX8_read_145 rfl (lv_at hl 5 rfl) ?_
              refine x_if_ne (tgt := 153) C gw dX8_read_146 (by decide) (fun c146 => ?_) (fun c146 => ?_)
              · refine lv_iload_n C.1 C.2.1 dX8_read_153 rfl (lv_at hl 5 rfl) ?_
                refine lv_iconst (v := II 1) C.1 C.2.1 dX8_read_154 rfl ?_
                refine x_icmp_ne (tgt := 163) C gw ⟨by decide, by decide⟩ dX8_read_155 (by decide) (fun c155 => ?_) (fun c155 => ?_)
                · refine lv_iload C.1 C.2.1 dX8_read_163 (lv_at hl 0 rfl) ?_
                  exact x_ireturn C hr hlk hw hS hr122 rfl (by refine ⟨(fun m hm => (hx122 m (by omega)).trans (hmr35 m hm)), Or.inr ⟨_, tx_2 eq56 eq89 eq122, hf122.1, hf122.2.1⟩⟩) dX8_read_165
                · refine lv_iload C.1 C.2.1 dX8_read_158 (lv_at hl 1 rfl) ?_
                  refine lv_goto (tgt := 165) C.1 C.2.1 dX8_read_160 (by decide) ?_
                  exact x_ireturn C hr hlk hw hS hr89 rfl (by refine ⟨(fun m hm => (hx122 m (by omega)).trans (hmr35 m hm)), Or.inr ⟨_, tx_2 eq56 eq89 eq122, hf122.1, hf122.2.1⟩⟩) dX8_read_165
              · refine lv_iload_n C.1 C.2.1 dX8_read_149 rfl (lv_at hl 2 rfl) ?_
                refine lv_goto (tgt := 165) C.1 C.2.1 dX8_read_150 (by decide) ?_
                exact x_ireturn C hr hlk hw hS hr56 rfl (by refine ⟨(fun m hm => (hx122 m (by omega)).trans (hmr35 m hm)), Or.inr ⟨_, tx_2 eq56 eq89 eq122, hf122.1, hf122.2.1⟩⟩) dX8_read_165
        · have g_M89 := hw.rg
          obtain ⟨qz89, eq89, hf89⟩ := h89b
          have hx89 := (hx56).tr h89f
          refine lv_istore (lv' := [(4, .int (II r89)), (3, .int (II r56)), (0, .ref (gA g 70)), (1, .int (II (t : Int))), (2, .int (II w))]) C.1 C.2.1 dX8_read_92 hl (by decide) rfl (fun ls hl => ?_)
          refine lv_aload_n C.1 C.2.1 dX8_read_94 rfl (lv_at hl 2 rfl) ?_
          refine g8 C hw 70 (by omega) rfl 25 (by decide) mw_849 (svi (x := 1) hf89.1) dX8_read_95 ?_
          refine x_if_eq (tgt := 105) C ⟨by decide, by decide⟩ dX8_read_98 (by decide) (fun h => absurd h (by decide)) (fun _ => ?_)
          refine lv_iconst (v := II 0) C.1 C.2.1 dX8_read_101 rfl ?_
          refine lv_goto (tgt := 125) C.1 C.2.1 dX8_read_102 (by decide) ?_
          refine lv_istore (lv' := [(5, .int (II 0)), (4, .int (II r89)), (3, .int (II r56)), (0, .ref (gA g 70)), (1, .int (II (t : Int))), (2, .int (II w))]) C.1 C.2.1 dX8_read_125 hl (by decide) rfl (fun ls hl => ?_)
          refine lv_aload_n C.1 C.2.1 dX8_read_127 rfl (lv_at hl 3 rfl) ?_
          refine g8 C hw 70 (by omega) rfl 25 (by decide) mw_849 (svi (x := 1) hf89.1) dX8_read_128 ?_
          refine x_if_ne (tgt := 145) C ⟨by decide, by decide⟩ dX8_read_131 (by decide) (fun _ => ?_) (fun h => absurd h (by decide))
          refine lv_iload_n C.1 C.2.1 dX8_read_145 rfl (lv_at hl 5 rfl) ?_
          refine x_if_ne (tgt := 153) C gw dX8_read_146 (by decide) (fun c146 => ?_) (fun c146 => ?_)
          · refine lv_iload_n C.1 C.2.1 dX8_read_153 rfl (lv_at hl 5 rfl) ?_
            refine lv_iconst (v := II 1) C.1 C.2.1 dX8_read_154 rfl ?_
            refine x_icmp_ne (tgt := 163) C gw ⟨by decide, by decide⟩ dX8_read_155 (by decide) (fun c155 => ?_) (fun c155 => ?_)
            · refine lv_iload C.1 C.2.1 dX8_read_163 (lv_at hl 0 rfl) ?_
              exact x_ireturn C hr hlk hw hS ⟨by decide, by decide⟩ rfl (by refine ⟨(fun m hm => (hx89 m (by omega)).trans (hmr35 m hm)), Or.inr ⟨_, tx_1 eq56 eq89, hf89.1, hf89.2.1⟩⟩) dX8_read_165
            · refine lv_iload C.1 C.2.1 dX8_read_158 (lv_at hl 1 rfl) ?_
              refine lv_goto (tgt := 165) C.1 C.2.1 dX8_read_160 (by decide) ?_
              exact x_ireturn C hr hlk hw hS hr89 rfl (by refine ⟨(fun m hm => (hx89 m (by omega)).trans (hmr35 m hm)), Or.inr ⟨_, tx_1 eq56 eq89, hf89.1, hf89.2.1⟩⟩) dX8_read_165
          · refine lv_iload_n C.1 C.2.1 dX8_read_149 rfl (lv_at hl 2 rfl) ?_
            refine lv_goto (tgt := 165) C.1 C.2.1 dX8_read_150 (by decide) ?_
            exact x_ireturn C hr hlk hw hS hr56 rfl (by refine ⟨(fun m hm => (hx89 m (by omega)).trans (hmr35 m hm)), Or.inr ⟨_, tx_1 eq56 eq89, hf89.1, hf89.2.1⟩⟩) dX8_read_165
      · have hw : Wo g M56 H := em86 ▸ hw
        rw [er86]
        have hi89 := mT_in (b := b) (n := n) (i := j56)
        refine x_ci (x_runV (n := 1) C hw hS hml hl.1 70 8 (by omega) rfl (by decide) rfl (c_X8_part0 l g M56 hF nm (hnm.mx hx56) b n (160 * t) j56 hs56 2 h86b trivial) mw_1023 mw_1025 mw_64 mw_130 mw_1026 rfl rfl (by decide +kernel) ⟨Nat.le_of_ble_eq_true rfl, Nat.le_of_ble_eq_true rfl⟩ rfl rfl (Nat.le_of_ble_eq_true rfl) dX8_read_89 ⟨Nat.zero_le _, Nat.zero_le _⟩) hS (fun r89 M89 H locs hr89 hp hw hS => ?_)
        rcases hp with ⟨h89f, (h89b | h89b)⟩
        · have g_M89 := hw.rg
          obtain ⟨y89, j89, eq89, hs89, hv89⟩ := h89b
          have hx89 := (hx56).tr h89f
          refine lv_istore (lv' := [(4, .int (II r89)), (3, .int (II r56)), (0, .ref (gA g 70)), (1, .int (II (t : Int))), (2, .int (II w))]) C.1 C.2.1 dX8_read_92 hl (by decide) rfl (fun ls hl => ?_)
          refine lv_aload_n C.1 C.2.1 dX8_read_94 rfl (lv_at hl 2 rfl) ?_
          refine g8 C hw 70 (by omega) rfl 25 (by decide) mw_849 (svi (x := 0) hs89.2.2.2) dX8_read_95 ?_
          refine x_if_eq (tgt := 105) C ⟨by decide, by decide⟩ dX8_read_98 (by decide) (fun _ => ?_) (fun h => absurd h (by decide))
          refine lv_aload_n C.1 C.2.1 dX8_read_105 rfl (lv_at hl 2 rfl) ?_
          refine lv_aload_n C.1 C.2.1 dX8_read_106 rfl (lv_at hl 2 rfl) ?_
          refine lv_bipush (v := II 112) C.1 C.2.1 dX8_read_107 (by decide) ?_
          refine lv_bipush (v := II 97) C.1 C.2.1 dX8_read_109 (by decide) ?_
          refine lv_bipush (v := II 121) C.1 C.2.1 dX8_read_111 (by decide) ?_
          refine lv_bipush (v := II 115) C.1 C.2.1 dX8_read_113 (by decide) ?_
          refine lv_iconst (v := II 0) C.1 C.2.1 dX8_read_115 rfl ?_
          refine lv_iconst (v := II 0) C.1 C.2.1 dX8_read_116 rfl ?_
          refine lv_iconst (v := II 0) C.1 C.2.1 dX8_read_117 rfl ?_
          refine lv_iconst (v := II 0) C.1 C.2.1 dX8_read_118 rfl ?_
          refine x_ci (x_runV (n := 8) C hw hS hml hl.1 70 8 (by omega) rfl (by decide) rfl (c_X8_isWord0 l g M89 hF b n (160 * t) j89 0 hs89 [112, 97, 121, 115] 3 112 ⟨by decide, by decide⟩ 97 ⟨by decide, by decide⟩ 121 ⟨by decide, by decide⟩ 115 ⟨by decide, by decide⟩ 0 ⟨by decide, by decide⟩ 0 ⟨by decide, by decide⟩ 0 ⟨by decide, by decide⟩ 0 ⟨by decide, by decide⟩ (by decide) wd_pays) mw_1015 mw_1017 mw_62 mw_130 mw_1018 rfl rfl (by decide +kernel) ⟨Nat.le_of_ble_eq_true rfl, Nat.le_of_ble_eq_true rfl⟩ rfl rfl (Nat.le_of_ble_eq_true rfl) dX8_read_119 ⟨Nat.zero_le _, Nat.zero_le _⟩) hS (fun r119 M119 H locs hr119 hp hw hS => ?_)
          rcases hp with ⟨em119, (⟨er119, h119b⟩ | ⟨er119, h119b⟩)⟩
          · have hw : Wo g M89 H := em119 ▸ hw
            rw [er119]
            obtain ⟨hm119, -⟩ := (wrd_iff (b := b) (n := n) (i := j89) wd_pays).mp h119b
            have hi122 := mT_in (b := b) (n := n) (i := j89)
            refine x_ci (x_runV (n := 1) C hw hS hml hl.1 70 8 (by omega) rfl (by decide) rfl (c_X8_part1 l g M89 hF nm (hnm.mx hx89) b n (160 * t) j89 hs89 3 h119b ⟨by decide, by omega⟩) mw_1023 mw_1025 mw_64 mw_130 mw_1026 rfl rfl (by decide +kernel) ⟨Nat.le_of_ble_eq_true rfl, Nat.le_of_ble_eq_true rfl⟩ rfl rfl (Nat.le_of_ble_eq_true rfl) dX8_read_122 ⟨Nat.zero_le _, Nat.zero_le _⟩) hS (fun r122 M122 H locs hr122 hp hw hS => ?_)
            rcases hp with ⟨h122f, (h122b | h122b)⟩
            · have g_M122 := hw.rg
              obtain ⟨y122, j122, eq122, hs122, hv122⟩ := h122b
              have hx122 := (hx89).tr h122f
              refine lv_istore (lv' := [(5, .int (II r122)), (4, .int (II r89)), (3, .int (II r56)), (0, .ref (gA g 70)), (1, .int (II (t : Int))), (2, .int (II w))]) C.1 C.2.1 dX8_read_125 hl (by decide) rfl (fun ls hl => ?_)
              refine lv_aload_n C.1 C.2.1 dX8_read_127 rfl (lv_at hl 3 rfl) ?_
              refine g8 C hw 70 (by omega) rfl 25 (by decide) mw_849 (svi (x := 0) hs122.2.2.2) dX8_read_128 ?_
              refine x_if_ne (tgt := 145) C ⟨by decide, by decide⟩ dX8_read_131 (by decide) (fun h => absurd h (by decide)) (fun _ => ?_)
              have hi142 := mT_in (b := b) (n := n) (i := j122)
              have hsg142 := sgT_in (x := b (tS b n j122))
              have hwd142 := wdT_in (b := b) (s := tS b n j122) (e := tE b n j122)
              refine lv_aload_n C.1 C.2.1 dX8_read_134 rfl (lv_at hl 3 rfl) ?_
              refine g8 C hw 70 (by omega) rfl 21 (by decide) mw_845 (svi (x := mT b n j122) hs122.2.1.1) dX8_read_135 ?_
              refine x_if_eq (tgt := 145) C ⟨by have := g_M122 70021; have := hs122.2.1.1; omega, by have := g_M122 70021; have := hs122.2.1.1; omega⟩ dX8_read_138 (by decide) (fun c138 => ?_) (fun c138 => ?_)
              · refine lv_iload_n C.1 C.2.1 dX8_read_145 rfl (lv_at hl 5 rfl) ?_
                refine x_if_ne (tgt := 153) C gw dX8_read_146 (by decide) (fun c146 => ?_) (fun c146 => ?_)
                · refine lv_iload_n C.1 C.2.1 dX8_read_153 rfl (lv_at hl 5 rfl) ?_
                  refine lv_iconst (v := II 1) C.1 C.2.1 dX8_read_154 rfl ?_
                  refine x_icmp_ne (tgt := 163) C gw ⟨by decide, by decide⟩ dX8_read_155 (by decide) (fun c155 => ?_) (fun c155 => ?_)
                  · refine lv_iload C.1 C.2.1 dX8_read_163 (lv_at hl 0 rfl) ?_
                    exact x_ireturn C hr hlk hw hS hr122 rfl (by refine ⟨(fun m hm => (hx122 m (by omega)).trans (hmr35 m hm)), Or.inl ⟨y56, y89, y122, tx_4 eq56 eq89 eq122 (by omega), hs122.2.2.2, ?_⟩⟩; first | (rw [if_pos (by omega)]; exact hv56) | (rw [if_neg (by omega), if_pos (by omega)]; exact hv89) | (rw [if_neg (by omega), if_neg (by omega)]; exact hv122)) dX8_read_165
                  · refine lv_iload C.1 C.2.1 dX8_read_158 (lv_at hl 1 rfl) ?_
                    refine lv_goto (tgt := 165) C.1 C.2.1 dX8_read_160 (by decide) ?_
                    exact x_ireturn C hr hlk hw hS hr89 rfl (by refine ⟨(fun m hm => (hx122 m (by omega)).trans (hmr35 m hm)), Or.inl ⟨y56, y89, y122, tx_4 eq56 eq89 eq122 (by omega), hs122.2.2.2, ?_⟩⟩; first | (rw [if_pos (by omega)]; exact hv56) | (rw [if_neg (by omega), if_pos (by omega)]; exact hv89) | (rw [if_neg (by omega), if_neg (by omega)]; exact hv122)) dX8_read_165
                · refine lv_iload_n C.1 C.2.1 dX8_read_149 rfl (lv_at hl 2 rfl) ?_
                  refine lv_goto (tgt := 165) C.1 C.2.1 dX8_read_150 (by decide) ?_
                  exact x_ireturn C hr hlk hw hS hr56 rfl (by refine ⟨(fun m hm => (hx122 m (by omega)).trans (hmr35 m hm)), Or.inl ⟨y56, y89, y122, tx_4 eq56 eq89 eq122 (by omega), hs122.2.2.2, ?_⟩⟩; first | (rw [if_pos (by omega)]; exact hv56) | (rw [if_neg (by omega), if_pos (by omega)]; exact hv89) | (rw [if_neg (by omega), if_neg (by omega)]; exact hv122)) dX8_read_165
              · refine lv_aload_n C.1 C.2.1 dX8_read_141 rfl (lv_at hl 3 rfl) ?_
                refine x_cv (x_runV (n := 0) C hw hS hml hl.1 70 8 (by omega) rfl (by decide) rfl (c_X8_fail0 l g M122 hF (tS b n j122) hs122.2.1.2.1 hs122.2.2.2) mw_1027 mw_1029 mw_65 mw_130 mw_1030 rfl rfl (by decide +kernel) ⟨Nat.le_of_ble_eq_true rfl, Nat.le_of_ble_eq_true rfl⟩ rfl rfl (Nat.le_of_ble_eq_true rfl) dX8_read_142 ⟨Nat.zero_le _, Nat.zero_le _⟩) hS (fun M142 H locs hp hw hS => ?_)
                have em142 := hp
                have hw : Wo g (stM (stM M122 70025 1) 70026 ((tS b n j122) : Int)) H := em142 ▸ hw
                have hf142 := hs122.fl
                refine lv_iload_n C.1 C.2.1 dX8_read_145 rfl (lv_at hl 5 rfl) ?_
                refine x_if_ne (tgt := 153) C gw dX8_read_146 (by decide) (fun c146 => ?_) (fun c146 => ?_)
                · refine lv_iload_n C.1 C.2.1 dX8_read_153 rfl (lv_at hl 5 rfl) ?_
                  refine lv_iconst (v := II 1) C.1 C.2.1 dX8_read_154 rfl ?_
                  refine x_icmp_ne (tgt := 163) C gw ⟨by decide, by decide⟩ dX8_read_155 (by decide) (fun c155 => ?_) (fun c155 => ?_)
                  · refine lv_iload C.1 C.2.1 dX8_read_163 (lv_at hl 0 rfl) ?_
                    exact x_ireturn C hr hlk hw hS hr122 rfl (by refine ⟨(fun m hm => (((hx122.st (by decide)).st (by decide)) m (by omega)).trans (hmr35 m hm)), Or.inr ⟨_, tx_3 eq56 eq89 eq122 (by omega), hf142.1, hf142.2.1⟩⟩) dX8_read_165
                  · refine lv_iload C.1 C.2.1 dX8_read_158 (lv_at hl 1 rfl) ?_
                    refine lv_goto (tgt := 165) C.1 C.2.1 dX8_read_160 (by decide) ?_
                    exact x_ireturn C hr hlk hw hS hr89 rfl (by refine ⟨(fun m hm => (((hx122.st (by decide)).st (by decide)) m (by omega)).trans (hmr35 m hm)), Or.inr ⟨_, tx_3 eq56 eq89 eq122 (by omega), hf142.1, hf142.2.1⟩⟩) dX8_read_165
                · refine lv_iload_n C.1 C.2.1 dX8_read_149 rfl (lv_at hl 2 rfl) ?_
                  refine lv_goto (tgt := 165) C.1 C.2.1 dX8_read_150 (by decide) ?_
                  exact x_ireturn C hr hlk hw hS hr56 rfl (by refine ⟨(fun m hm => (((hx122.st (by decide)).st (by decide)) m (by omega)).trans (hmr35 m hm)), Or.inr ⟨_, tx_3 eq56 eq89 eq122 (by omega), hf142.1, hf142.2.1⟩⟩) dX8_read_165
            · have g_M122 := hw.rg
              obtain ⟨qz122, eq122, hf122⟩ := h122b
              have hx122 := (hx89).tr h122f
              refine lv_istore (lv' := [(5, .int (II r122)), (4, .int (II r89)), (3, .int (II r56)), (0, .ref (gA g 70)), (1, .int (II (t : Int))), (2, .int (II w))]) C.1 C.2.1 dX8_read_125 hl (by decide) rfl (fun ls hl => ?_)
              refine lv_aload_n C.1 C.2.1 dX8_read_127 rfl (lv_at hl 3 rfl) ?_
              refine g8 C hw 70 (by omega) rfl 25 (by decide) mw_849 (svi (x := 1) hf122.1) dX8_read_128 ?_
              refine x_if_ne (tgt := 145) C ⟨by decide, by decide⟩ dX8_read_131 (by decide) (fun _ => ?_) (fun h => absurd h (by decide))
              refine lv_iload_n C.1 C.2.1 dX8_read_145 rfl (lv_at hl 5 rfl) ?_
              refine x_if_ne (tgt := 153) C gw dX8_read_146 (by decide) (fun c146 => ?_) (fun c146 => ?_)
              · refine lv_iload_n C.1 C.2.1 dX8_read_153 rfl (lv_at hl 5 rfl) ?_
                refine lv_iconst (v := II 1) C.1 C.2.1 dX8_read_154 rfl ?_
                refine x_icmp_ne (tgt := 163) C gw ⟨by decide, by decide⟩ dX8_read_155 (by decide) (fun c155 => ?_) (fun c155 => ?_)
                · refine lv_iload C.1 C.2.1 dX8_read_163 (lv_at hl 0 rfl) ?_
                  exact x_ireturn C hr hlk hw hS hr122 rfl (by refine ⟨(fun m hm => (hx122 m (by omega)).trans (hmr35 m hm)), Or.inr ⟨_, tx_2 eq56 eq89 eq122, hf122.1, hf122.2.1⟩⟩) dX8_read_165
                · refine lv_iload C.1 C.2.1 dX8_read_158 (lv_at hl 1 rfl) ?_
                  refine lv_goto (tgt := 165) C.1 C.2.1 dX8_read_160 (by decide) ?_
                  exact x_ireturn C hr hlk hw hS hr89 rfl (by refine ⟨(fun m hm => (hx122 m (by omega)).trans (hmr35 m hm)), Or.inr ⟨_, tx_2 eq56 eq89 eq122, hf122.1, hf122.2.1⟩⟩) dX8_read_165
              · refine lv_iload_n C.1 C.2.1 dX8_read_149 rfl (lv_at hl 2 rfl) ?_
                refine lv_goto (tgt := 165) C.1 C.2.1 dX8_read_150 (by decide) ?_
                exact x_ireturn C hr hlk hw hS hr56 rfl (by refine ⟨(fun m hm => (hx122 m (by omega)).trans (hmr35 m hm)), Or.inr ⟨_, tx_2 eq56 eq89 eq122, hf122.1, hf122.2.1⟩⟩) dX8_read_165
          · have hw : Wo g M89 H := em119 ▸ hw
            rw [er119]
            have hi122 := mT_in (b := b) (n := n) (i := j89)
            refine x_ci (x_runV (n := 1) C hw hS hml hl.1 70 8 (by omega) rfl (by decide) rfl (c_X8_part0 l g M89 hF nm (hnm.mx hx89) b n (160 * t) j89 hs89 3 h119b trivial) mw_1023 mw_1025 mw_64 mw_130 mw_1026 rfl rfl (by decide +kernel) ⟨Nat.le_of_ble_eq_true rfl, Nat.le_of_ble_eq_true rfl⟩ rfl rfl (Nat.le_of_ble_eq_true rfl) dX8_read_122 ⟨Nat.zero_le _, Nat.zero_le _⟩) hS (fun r122 M122 H locs hr122 hp hw hS => ?_)
            rcases hp with ⟨h122f, (h122b | h122b)⟩
            · have g_M122 := hw.rg
              obtain ⟨y122, j122, eq122, hs122, hv122⟩ := h122b
              have hx122 := (hx89).tr h122f
              refine lv_istore (lv' := [(5, .int (II r122)), (4, .int (II r89)), (3, .int (II r56)), (0, .ref (gA g 70)), (1, .int (II (t : Int))), (2, .int (II w))]) C.1 C.2.1 dX8_read_125 hl (by decide) rfl (fun ls hl => ?_)
              refine lv_aload_n C.1 C.2.1 dX8_read_127 rfl (lv_at hl 3 rfl) ?_
              refine g8 C hw 70 (by omega) rfl 25 (by decide) mw_849 (svi (x := 0) hs122.2.2.2) dX8_read_128 ?_
              refine x_if_ne (tgt := 145) C ⟨by decide, by decide⟩ dX8_read_131 (by decide) (fun h => absurd h (by decide)) (fun _ => ?_)
              have hi142 := mT_in (b := b) (n := n) (i := j122)
              have hsg142 := sgT_in (x := b (tS b n j122))
              have hwd142 := wdT_in (b := b) (s := tS b n j122) (e := tE b n j122)
              refine lv_aload_n C.1 C.2.1 dX8_read_134 rfl (lv_at hl 3 rfl) ?_
              refine g8 C hw 70 (by omega) rfl 21 (by decide) mw_845 (svi (x := mT b n j122) hs122.2.1.1) dX8_read_135 ?_
              refine x_if_eq (tgt := 145) C ⟨by have := g_M122 70021; have := hs122.2.1.1; omega, by have := g_M122 70021; have := hs122.2.1.1; omega⟩ dX8_read_138 (by decide) (fun c138 => ?_) (fun c138 => ?_)
              · refine lv_iload_n C.1 C.2.1 dX8_read_145 rfl (lv_at hl 5 rfl) ?_
                refine x_if_ne (tgt := 153) C gw dX8_read_146 (by decide) (fun c146 => ?_) (fun c146 => ?_)
                · refine lv_iload_n C.1 C.2.1 dX8_read_153 rfl (lv_at hl 5 rfl) ?_
                  refine lv_iconst (v := II 1) C.1 C.2.1 dX8_read_154 rfl ?_
                  refine x_icmp_ne (tgt := 163) C gw ⟨by decide, by decide⟩ dX8_read_155 (by decide) (fun c155 => ?_) (fun c155 => ?_)
                  · refine lv_iload C.1 C.2.1 dX8_read_163 (lv_at hl 0 rfl) ?_
                    exact x_ireturn C hr hlk hw hS hr122 rfl (by refine ⟨(fun m hm => (hx122 m (by omega)).trans (hmr35 m hm)), Or.inl ⟨y56, y89, y122, tx_4 eq56 eq89 eq122 (by omega), hs122.2.2.2, ?_⟩⟩; first | (rw [if_pos (by omega)]; exact hv56) | (rw [if_neg (by omega), if_pos (by omega)]; exact hv89) | (rw [if_neg (by omega), if_neg (by omega)]; exact hv122)) dX8_read_165
                  · refine lv_iload C.1 C.2.1 dX8_read_158 (lv_at hl 1 rfl) ?_
                    refine lv_goto (tgt := 165) C.1 C.2.1 dX8_read_160 (by decide) ?_
                    exact x_ireturn C hr hlk hw hS hr89 rfl (by refine ⟨(fun m hm => (hx122 m (by omega)).trans (hmr35 m hm)), Or.inl ⟨y56, y89, y122, tx_4 eq56 eq89 eq122 (by omega), hs122.2.2.2, ?_⟩⟩; first | (rw [if_pos (by omega)]; exact hv56) | (rw [if_neg (by omega), if_pos (by omega)]; exact hv89) | (rw [if_neg (by omega), if_neg (by omega)]; exact hv122)) dX8_read_165
                · refine lv_iload_n C.1 C.2.1 dX8_read_149 rfl (lv_at hl 2 rfl) ?_
                  refine lv_goto (tgt := 165) C.1 C.2.1 dX8_read_150 (by decide) ?_
                  exact x_ireturn C hr hlk hw hS hr56 rfl (by refine ⟨(fun m hm => (hx122 m (by omega)).trans (hmr35 m hm)), Or.inl ⟨y56, y89, y122, tx_4 eq56 eq89 eq122 (by omega), hs122.2.2.2, ?_⟩⟩; first | (rw [if_pos (by omega)]; exact hv56) | (rw [if_neg (by omega), if_pos (by omega)]; exact hv89) | (rw [if_neg (by omega), if_neg (by omega)]; exact hv122)) dX8_read_165
              · refine lv_aload_n C.1 C.2.1 dX8_read_141 rfl (lv_at hl 3 rfl) ?_
                refine x_cv (x_runV (n := 0) C hw hS hml hl.1 70 8 (by omega) rfl (by decide) rfl (c_X8_fail0 l g M122 hF (tS b n j122) hs122.2.1.2.1 hs122.2.2.2) mw_1027 mw_1029 mw_65 mw_130 mw_1030 rfl rfl (by decide +kernel) ⟨Nat.le_of_ble_eq_true rfl, Nat.le_of_ble_eq_true rfl⟩ rfl rfl (Nat.le_of_ble_eq_true rfl) dX8_read_142 ⟨Nat.zero_le _, Nat.zero_le _⟩) hS (fun M142 H locs hp hw hS => ?_)
                have em142 := hp
                have hw : Wo g (stM (stM M122 70025 1) 70026 ((tS b n j122) : Int)) H := em142 ▸ hw
                have hf142 := hs122.fl
                refine lv_iload_n C.1 C.2.1 dX8_read_145 rfl (lv_at hl 5 rfl) ?_
                refine x_if_ne (tgt := 153) C gw dX8_read_146 (by decide) (fun c146 => ?_) (fun c146 => ?_)
                · refine lv_iload_n C.1 C.2.1 dX8_read_153 rfl (lv_at hl 5 rfl) ?_
                  refine lv_iconst (v := II 1) C.1 C.2.1 dX8_read_154 rfl ?_
                  refine x_icmp_ne (tgt := 163) C gw ⟨by decide, by decide⟩ dX8_read_155 (by decide) (fun c155 => ?_) (fun c155 => ?_)
                  · refine lv_iload C.1 C.2.1 dX8_read_163 (lv_at hl 0 rfl) ?_
                    exact x_ireturn C hr hlk hw hS hr122 rfl (by refine ⟨(fun m hm => (((hx122.st (by decide)).st (by decide)) m (by omega)).trans (hmr35 m hm)), Or.inr ⟨_, tx_3 eq56 eq89 eq122 (by omega), hf142.1, hf142.2.1⟩⟩) dX8_read_165
                  · refine lv_iload C.1 C.2.1 dX8_read_158 (lv_at hl 1 rfl) ?_
                    refine lv_goto (tgt := 165) C.1 C.2.1 dX8_read_160 (by decide) ?_
                    exact x_ireturn C hr hlk hw hS hr89 rfl (by refine ⟨(fun m hm => (((hx122.st (by decide)).st (by decide)) m (by omega)).trans (hmr35 m hm)), Or.inr ⟨_, tx_3 eq56 eq89 eq122 (by omega), hf142.1, hf142.2.1⟩⟩) dX8_read_165
                · refine lv_iload_n C.1 C.2.1 dX8_read_149 rfl (lv_at hl 2 rfl) ?_
                  refine lv_goto (tgt := 165) C.1 C.2.1 dX8_read_150 (by decide) ?_
                  exact x_ireturn C hr hlk hw hS hr56 rfl (by refine ⟨(fun m hm => (((hx122.st (by decide)).st (by decide)) m (by omega)).trans (hmr35 m hm)), Or.inr ⟨_, tx_3 eq56 eq89 eq122 (by omega), hf142.1, hf142.2.1⟩⟩) dX8_read_165
            · have g_M122 := hw.rg
              obtain ⟨qz122, eq122, hf122⟩ := h122b
              have hx122 := (hx89).tr h122f
              refine lv_istore (lv' := [(5, .int (II r122)), (4, .int (II r89)), (3, .int (II r56)), (0, .ref (gA g 70)), (1, .int (II (t : Int))), (2, .int (II w))]) C.1 C.2.1 dX8_read_125 hl (by decide) rfl (fun ls hl => ?_)
              refine lv_aload_n C.1 C.2.1 dX8_read_127 rfl (lv_at hl 3 rfl) ?_
              refine g8 C hw 70 (by omega) rfl 25 (by decide) mw_849 (svi (x := 1) hf122.1) dX8_read_128 ?_
              refine x_if_ne (tgt := 145) C ⟨by decide, by decide⟩ dX8_read_131 (by decide) (fun _ => ?_) (fun h => absurd h (by decide))
              refine lv_iload_n C.1 C.2.1 dX8_read_145 rfl (lv_at hl 5 rfl) ?_
              refine x_if_ne (tgt := 153) C gw dX8_read_146 (by decide) (fun c146 => ?_) (fun c146 => ?_)
              · refine lv_iload_n C.1 C.2.1 dX8_read_153 rfl (lv_at hl 5 rfl) ?_
                refine lv_iconst (v := II 1) C.1 C.2.1 dX8_read_154 rfl ?_
                refine x_icmp_ne (tgt := 163) C gw ⟨by decide, by decide⟩ dX8_read_155 (by decide) (fun c155 => ?_) (fun c155 => ?_)
                · refine lv_iload C.1 C.2.1 dX8_read_163 (lv_at hl 0 rfl) ?_
                  exact x_ireturn C hr hlk hw hS hr122 rfl (by refine ⟨(fun m hm => (hx122 m (by omega)).trans (hmr35 m hm)), Or.inr ⟨_, tx_2 eq56 eq89 eq122, hf122.1, hf122.2.1⟩⟩) dX8_read_165
                · refine lv_iload C.1 C.2.1 dX8_read_158 (lv_at hl 1 rfl) ?_
                  refine lv_goto (tgt := 165) C.1 C.2.1 dX8_read_160 (by decide) ?_
                  exact x_ireturn C hr hlk hw hS hr89 rfl (by refine ⟨(fun m hm => (hx122 m (by omega)).trans (hmr35 m hm)), Or.inr ⟨_, tx_2 eq56 eq89 eq122, hf122.1, hf122.2.1⟩⟩) dX8_read_165
              · refine lv_iload_n C.1 C.2.1 dX8_read_149 rfl (lv_at hl 2 rfl) ?_
                refine lv_goto (tgt := 165) C.1 C.2.1 dX8_read_150 (by decide) ?_
                exact x_ireturn C hr hlk hw hS hr56 rfl (by refine ⟨(fun m hm => (hx122 m (by omega)).trans (hmr35 m hm)), Or.inr ⟨_, tx_2 eq56 eq89 eq122, hf122.1, hf122.2.1⟩⟩) dX8_read_165
        · have g_M89 := hw.rg
          obtain ⟨qz89, eq89, hf89⟩ := h89b
          have hx89 := (hx56).tr h89f
          refine lv_istore (lv' := [(4, .int (II r89)), (3, .int (II r56)), (0, .ref (gA g 70)), (1, .int (II (t : Int))), (2, .int (II w))]) C.1 C.2.1 dX8_read_92 hl (by decide) rfl (fun ls hl => ?_)
          refine lv_aload_n C.1 C.2.1 dX8_read_94 rfl (lv_at hl 2 rfl) ?_
          refine g8 C hw 70 (by omega) rfl 25 (by decide) mw_849 (svi (x := 1) hf89.1) dX8_read_95 ?_
          refine x_if_eq (tgt := 105) C ⟨by decide, by decide⟩ dX8_read_98 (by decide) (fun h => absurd h (by decide)) (fun _ => ?_)
          refine lv_iconst (v := II 0) C.1 C.2.1 dX8_read_101 rfl ?_
          refine lv_goto (tgt := 125) C.1 C.2.1 dX8_read_102 (by decide) ?_
          refine lv_istore (lv' := [(5, .int (II 0)), (4, .int (II r89)), (3, .int (II r56)), (0, .ref (gA g 70)), (1, .int (II (t : Int))), (2, .int (II w))]) C.1 C.2.1 dX8_read_125 hl (by decide) rfl (fun ls hl => ?_)
          refine lv_aload_n C.1 C.2.1 dX8_read_127 rfl (lv_at hl 3 rfl) ?_
          refine g8 C hw 70 (by omega) rfl 25 (by decide) mw_849 (svi (x := 1) hf89.1) dX8_read_128 ?_
          refine x_if_ne (tgt := 145) C ⟨by decide, by decide⟩ dX8_read_131 (by decide) (fun _ => ?_) (fun h => absurd h (by decide))
          refine lv_iload_n C.1 C.2.1 dX8_read_145 rfl (lv_at hl 5 rfl) ?_
          refine x_if_ne (tgt := 153) C gw dX8_read_146 (by decide) (fun c146 => ?_) (fun c146 => ?_)
          · refine lv_iload_n C.1 C.2.1 dX8_read_153 rfl (lv_at hl 5 rfl) ?_
            refine lv_iconst (v := II 1) C.1 C.2.1 dX8_read_154 rfl ?_
            refine x_icmp_ne (tgt := 163) C gw ⟨by decide, by decide⟩ dX8_read_155 (by decide) (fun c155 => ?_) (fun c155 => ?_)
            · refine lv_iload C.1 C.2.1 dX8_read_163 (lv_at hl 0 rfl) ?_
              exact x_ireturn C hr hlk hw hS ⟨by decide, by decide⟩ rfl (by refine ⟨(fun m hm => (hx89 m (by omega)).trans (hmr35 m hm)), Or.inr ⟨_, tx_1 eq56 eq89, hf89.1, hf89.2.1⟩⟩) dX8_read_165
            · refine lv_iload C.1 C.2.1 dX8_read_158 (lv_at hl 1 rfl) ?_
              refine lv_goto (tgt := 165) C.1 C.2.1 dX8_read_160 (by decide) ?_
              exact x_ireturn C hr hlk hw hS hr89 rfl (by refine ⟨(fun m hm => (hx89 m (by omega)).trans (hmr35 m hm)), Or.inr ⟨_, tx_1 eq56 eq89, hf89.1, hf89.2.1⟩⟩) dX8_read_165
          · refine lv_iload_n C.1 C.2.1 dX8_read_149 rfl (lv_at hl 2 rfl) ?_
            refine lv_goto (tgt := 165) C.1 C.2.1 dX8_read_150 (by decide) ?_
            exact x_ireturn C hr hlk hw hS hr56 rfl (by refine ⟨(fun m hm => (hx89 m (by omega)).trans (hmr35 m hm)), Or.inr ⟨_, tx_1 eq56 eq89, hf89.1, hf89.2.1⟩⟩) dX8_read_165
    · have g_M56 := hw.rg
      obtain ⟨qz56, eq56, hf56⟩ := h56b
      have hx56 := (MX.rfl').tr h56f
      refine lv_istore_n (lv' := [(3, .int (II r56)), (0, .ref (gA g 70)), (1, .int (II (t : Int))), (2, .int (II w))]) C.1 C.2.1 dX8_read_59 rfl hl (by decide) rfl (fun ls hl => ?_)
      refine lv_aload_n C.1 C.2.1 dX8_read_60 rfl (lv_at hl 1 rfl) ?_
      refine g8 C hw 70 (by omega) rfl 25 (by decide) mw_849 (svi (x := 1) hf56.1) dX8_read_61 ?_
      refine x_if_eq (tgt := 71) C ⟨by decide, by decide⟩ dX8_read_64 (by decide) (fun h => absurd h (by decide)) (fun _ => ?_)
      refine lv_iconst (v := II 0) C.1 C.2.1 dX8_read_67 rfl ?_
      refine lv_goto (tgt := 92) C.1 C.2.1 dX8_read_68 (by decide) ?_
      refine lv_istore (lv' := [(4, .int (II 0)), (3, .int (II r56)), (0, .ref (gA g 70)), (1, .int (II (t : Int))), (2, .int (II w))]) C.1 C.2.1 dX8_read_92 hl (by decide) rfl (fun ls hl => ?_)
      refine lv_aload_n C.1 C.2.1 dX8_read_94 rfl (lv_at hl 2 rfl) ?_
      refine g8 C hw 70 (by omega) rfl 25 (by decide) mw_849 (svi (x := 1) hf56.1) dX8_read_95 ?_
      refine x_if_eq (tgt := 105) C ⟨by decide, by decide⟩ dX8_read_98 (by decide) (fun h => absurd h (by decide)) (fun _ => ?_)
      refine lv_iconst (v := II 0) C.1 C.2.1 dX8_read_101 rfl ?_
      refine lv_goto (tgt := 125) C.1 C.2.1 dX8_read_102 (by decide) ?_
      refine lv_istore (lv' := [(5, .int (II 0)), (4, .int (II 0)), (3, .int (II r56)), (0, .ref (gA g 70)), (1, .int (II (t : Int))), (2, .int (II w))]) C.1 C.2.1 dX8_read_125 hl (by decide) rfl (fun ls hl => ?_)
      refine lv_aload_n C.1 C.2.1 dX8_read_127 rfl (lv_at hl 3 rfl) ?_
      refine g8 C hw 70 (by omega) rfl 25 (by decide) mw_849 (svi (x := 1) hf56.1) dX8_read_128 ?_
      refine x_if_ne (tgt := 145) C ⟨by decide, by decide⟩ dX8_read_131 (by decide) (fun _ => ?_) (fun h => absurd h (by decide))
      refine lv_iload_n C.1 C.2.1 dX8_read_145 rfl (lv_at hl 5 rfl) ?_
      refine x_if_ne (tgt := 153) C gw dX8_read_146 (by decide) (fun c146 => ?_) (fun c146 => ?_)
      · refine lv_iload_n C.1 C.2.1 dX8_read_153 rfl (lv_at hl 5 rfl) ?_
        refine lv_iconst (v := II 1) C.1 C.2.1 dX8_read_154 rfl ?_
        refine x_icmp_ne (tgt := 163) C gw ⟨by decide, by decide⟩ dX8_read_155 (by decide) (fun c155 => ?_) (fun c155 => ?_)
        · refine lv_iload C.1 C.2.1 dX8_read_163 (lv_at hl 0 rfl) ?_
          exact x_ireturn C hr hlk hw hS ⟨by decide, by decide⟩ rfl (by refine ⟨(fun m hm => (hx56 m (by omega)).trans (hmr35 m hm)), Or.inr ⟨_, tx_0 eq56, hf56.1, hf56.2.1⟩⟩) dX8_read_165
        · refine lv_iload C.1 C.2.1 dX8_read_158 (lv_at hl 1 rfl) ?_
          refine lv_goto (tgt := 165) C.1 C.2.1 dX8_read_160 (by decide) ?_
          exact x_ireturn C hr hlk hw hS ⟨by decide, by decide⟩ rfl (by refine ⟨(fun m hm => (hx56 m (by omega)).trans (hmr35 m hm)), Or.inr ⟨_, tx_0 eq56, hf56.1, hf56.2.1⟩⟩) dX8_read_165
      · refine lv_iload_n C.1 C.2.1 dX8_read_149 rfl (lv_at hl 2 rfl) ?_
        refine lv_goto (tgt := 165) C.1 C.2.1 dX8_read_150 (by decide) ?_
        exact x_ireturn C hr hlk hw hS hr56 rfl (by refine ⟨(fun m hm => (hx56 m (by omega)).trans (hmr35 m hm)), Or.inr ⟨_, tx_0 eq56, hf56.1, hf56.2.1⟩⟩) dX8_read_165
  · have hw : Wo g M35 H := em53 ▸ hw
    rw [er53]
    have hi56 := mT_in (b := b) (n := n) (i := 0)
    refine x_ci (x_runV (n := 1) C hw hS hml hl.1 70 8 (by omega) rfl (by decide) rfl (c_X8_part0 l g M35 hF nm (hnm.mx MX.rfl') b n (160 * t) 0 hs35 1 h53b trivial) mw_1023 mw_1025 mw_64 mw_130 mw_1026 rfl rfl (by decide +kernel) ⟨Nat.le_of_ble_eq_true rfl, Nat.le_of_ble_eq_true rfl⟩ rfl rfl (Nat.le_of_ble_eq_true rfl) dX8_read_56 ⟨Nat.zero_le _, Nat.zero_le _⟩) hS (fun r56 M56 H locs hr56 hp hw hS => ?_)
    rcases hp with ⟨h56f, (h56b | h56b)⟩
    · have g_M56 := hw.rg
      obtain ⟨y56, j56, eq56, hs56, hv56⟩ := h56b
      have hx56 := (MX.rfl').tr h56f
      refine lv_istore_n (lv' := [(3, .int (II r56)), (0, .ref (gA g 70)), (1, .int (II (t : Int))), (2, .int (II w))]) C.1 C.2.1 dX8_read_59 rfl hl (by decide) rfl (fun ls hl => ?_)
      refine lv_aload_n C.1 C.2.1 dX8_read_60 rfl (lv_at hl 1 rfl) ?_
      refine g8 C hw 70 (by omega) rfl 25 (by decide) mw_849 (svi (x := 0) hs56.2.2.2) dX8_read_61 ?_
      refine x_if_eq (tgt := 71) C ⟨by decide, by decide⟩ dX8_read_64 (by decide) (fun _ => ?_) (fun h => absurd h (by decide))
      refine lv_aload_n C.1 C.2.1 dX8_read_71 rfl (lv_at hl 1 rfl) ?_
      refine lv_aload_n C.1 C.2.1 dX8_read_72 rfl (lv_at hl 1 rfl) ?_
      refine lv_bipush (v := II 109) C.1 C.2.1 dX8_read_73 (by decide) ?_
      refine lv_bipush (v := II 111) C.1 C.2.1 dX8_read_75 (by decide) ?_
      refine lv_bipush (v := II 111) C.1 C.2.1 dX8_read_77 (by decide) ?_
      refine lv_bipush (v := II 100) C.1 C.2.1 dX8_read_79 (by decide) ?_
      refine lv_bipush (v := II 115) C.1 C.2.1 dX8_read_81 (by decide) ?_
      refine lv_iconst (v := II 0) C.1 C.2.1 dX8_read_83 rfl ?_
      refine lv_iconst (v := II 0) C.1 C.2.1 dX8_read_84 rfl ?_
      refine lv_iconst (v := II 0) C.1 C.2.1 dX8_read_85 rfl ?_
      refine x_ci (x_runV (n := 8) C hw hS hml hl.1 70 8 (by omega) rfl (by decide) rfl (c_X8_isWord0 l g M56 hF b n (160 * t) j56 0 hs56 [109, 111, 111, 100, 115] 2 109 ⟨by decide, by decide⟩ 111 ⟨by decide, by decide⟩ 111 ⟨by decide, by decide⟩ 100 ⟨by decide, by decide⟩ 115 ⟨by decide, by decide⟩ 0 ⟨by decide, by decide⟩ 0 ⟨by decide, by decide⟩ 0 ⟨by decide, by decide⟩ (by decide) wd_moods) mw_1015 mw_1017 mw_62 mw_130 mw_1018 rfl rfl (by decide +kernel) ⟨Nat.le_of_ble_eq_true rfl, Nat.le_of_ble_eq_true rfl⟩ rfl rfl (Nat.le_of_ble_eq_true rfl) dX8_read_86 ⟨Nat.zero_le _, Nat.zero_le _⟩) hS (fun r86 M86 H locs hr86 hp hw hS => ?_)
      rcases hp with ⟨em86, (⟨er86, h86b⟩ | ⟨er86, h86b⟩)⟩
      · have hw : Wo g M56 H := em86 ▸ hw
        rw [er86]
        obtain ⟨hm86, -⟩ := (wrd_iff (b := b) (n := n) (i := j56) wd_moods).mp h86b
        have hi89 := mT_in (b := b) (n := n) (i := j56)
        refine x_ci (x_runV (n := 1) C hw hS hml hl.1 70 8 (by omega) rfl (by decide) rfl (c_X8_part1 l g M56 hF nm (hnm.mx hx56) b n (160 * t) j56 hs56 2 h86b ⟨by decide, by omega⟩) mw_1023 mw_1025 mw_64 mw_130 mw_1026 rfl rfl (by decide +kernel) ⟨Nat.le_of_ble_eq_true rfl, Nat.le_of_ble_eq_true rfl⟩ rfl rfl (Nat.le_of_ble_eq_true rfl) dX8_read_89 ⟨Nat.zero_le _, Nat.zero_le _⟩) hS (fun r89 M89 H locs hr89 hp hw hS => ?_)
        rcases hp with ⟨h89f, (h89b | h89b)⟩
        · have g_M89 := hw.rg
          obtain ⟨y89, j89, eq89, hs89, hv89⟩ := h89b
          have hx89 := (hx56).tr h89f
          refine lv_istore (lv' := [(4, .int (II r89)), (3, .int (II r56)), (0, .ref (gA g 70)), (1, .int (II (t : Int))), (2, .int (II w))]) C.1 C.2.1 dX8_read_92 hl (by decide) rfl (fun ls hl => ?_)
          refine lv_aload_n C.1 C.2.1 dX8_read_94 rfl (lv_at hl 2 rfl) ?_
          refine g8 C hw 70 (by omega) rfl 25 (by decide) mw_849 (svi (x := 0) hs89.2.2.2) dX8_read_95 ?_
          refine x_if_eq (tgt := 105) C ⟨by decide, by decide⟩ dX8_read_98 (by decide) (fun _ => ?_) (fun h => absurd h (by decide))
          refine lv_aload_n C.1 C.2.1 dX8_read_105 rfl (lv_at hl 2 rfl) ?_
          refine lv_aload_n C.1 C.2.1 dX8_read_106 rfl (lv_at hl 2 rfl) ?_
          refine lv_bipush (v := II 112) C.1 C.2.1 dX8_read_107 (by decide) ?_
          refine lv_bipush (v := II 97) C.1 C.2.1 dX8_read_109 (by decide) ?_
          refine lv_bipush (v := II 121) C.1 C.2.1 dX8_read_111 (by decide) ?_
          refine lv_bipush (v := II 115) C.1 C.2.1 dX8_read_113 (by decide) ?_
          refine lv_iconst (v := II 0) C.1 C.2.1 dX8_read_115 rfl ?_
          refine lv_iconst (v := II 0) C.1 C.2.1 dX8_read_116 rfl ?_
          refine lv_iconst (v := II 0) C.1 C.2.1 dX8_read_117 rfl ?_
          refine lv_iconst (v := II 0) C.1 C.2.1 dX8_read_118 rfl ?_
          refine x_ci (x_runV (n := 8) C hw hS hml hl.1 70 8 (by omega) rfl (by decide) rfl (c_X8_isWord0 l g M89 hF b n (160 * t) j89 0 hs89 [112, 97, 121, 115] 3 112 ⟨by decide, by decide⟩ 97 ⟨by decide, by decide⟩ 121 ⟨by decide, by decide⟩ 115 ⟨by decide, by decide⟩ 0 ⟨by decide, by decide⟩ 0 ⟨by decide, by decide⟩ 0 ⟨by decide, by decide⟩ 0 ⟨by decide, by decide⟩ (by decide) wd_pays) mw_1015 mw_1017 mw_62 mw_130 mw_1018 rfl rfl (by decide +kernel) ⟨Nat.le_of_ble_eq_true rfl, Nat.le_of_ble_eq_true rfl⟩ rfl rfl (Nat.le_of_ble_eq_true rfl) dX8_read_119 ⟨Nat.zero_le _, Nat.zero_le _⟩) hS (fun r119 M119 H locs hr119 hp hw hS => ?_)
          rcases hp with ⟨em119, (⟨er119, h119b⟩ | ⟨er119, h119b⟩)⟩
          · have hw : Wo g M89 H := em119 ▸ hw
            rw [er119]
            obtain ⟨hm119, -⟩ := (wrd_iff (b := b) (n := n) (i := j89) wd_pays).mp h119b
            have hi122 := mT_in (b := b) (n := n) (i := j89)
            refine x_ci (x_runV (n := 1) C hw hS hml hl.1 70 8 (by omega) rfl (by decide) rfl (c_X8_part1 l g M89 hF nm (hnm.mx hx89) b n (160 * t) j89 hs89 3 h119b ⟨by decide, by omega⟩) mw_1023 mw_1025 mw_64 mw_130 mw_1026 rfl rfl (by decide +kernel) ⟨Nat.le_of_ble_eq_true rfl, Nat.le_of_ble_eq_true rfl⟩ rfl rfl (Nat.le_of_ble_eq_true rfl) dX8_read_122 ⟨Nat.zero_le _, Nat.zero_le _⟩) hS (fun r122 M122 H locs hr122 hp hw hS => ?_)
            rcases hp with ⟨h122f, (h122b | h122b)⟩
            · have g_M122 := hw.rg
              obtain ⟨y122, j122, eq122, hs122, hv122⟩ := h122b
              have hx122 := (hx89).tr h122f
              refine lv_istore (lv' := [(5, .int (II r122)), (4, .int (II r89)), (3, .int (II r56)), (0, .ref (gA g 70)), (1, .int (II (t : Int))), (2, .int (II w))]) C.1 C.2.1 dX8_read_125 hl (by decide) rfl (fun ls hl => ?_)
              refine lv_aload_n C.1 C.2.1 dX8_read_127 rfl (lv_at hl 3 rfl) ?_
              refine g8 C hw 70 (by omega) rfl 25 (by decide) mw_849 (svi (x := 0) hs122.2.2.2) dX8_read_128 ?_
              refine x_if_ne (tgt := 145) C ⟨by decide, by decide⟩ dX8_read_131 (by decide) (fun h => absurd h (by decide)) (fun _ => ?_)
              have hi142 := mT_in (b := b) (n := n) (i := j122)
              have hsg142 := sgT_in (x := b (tS b n j122))
              have hwd142 := wdT_in (b := b) (s := tS b n j122) (e := tE b n j122)
              refine lv_aload_n C.1 C.2.1 dX8_read_134 rfl (lv_at hl 3 rfl) ?_
              refine g8 C hw 70 (by omega) rfl 21 (by decide) mw_845 (svi (x := mT b n j122) hs122.2.1.1) dX8_read_135 ?_
              refine x_if_eq (tgt := 145) C ⟨by have := g_M122 70021; have := hs122.2.1.1; omega, by have := g_M122 70021; have := hs122.2.1.1; omega⟩ dX8_read_138 (by decide) (fun c138 => ?_) (fun c138 => ?_)
              · refine lv_iload_n C.1 C.2.1 dX8_read_145 rfl (lv_at hl 5 rfl) ?_
                refine x_if_ne (tgt := 153) C gw dX8_read_146 (by decide) (fun c146 => ?_) (fun c146 => ?_)
                · refine lv_iload_n C.1 C.2.1 dX8_read_153 rfl (lv_at hl 5 rfl) ?_
                  refine lv_iconst (v := II 1) C.1 C.2.1 dX8_read_154 rfl ?_
                  refine x_icmp_ne (tgt := 163) C gw ⟨by decide, by decide⟩ dX8_read_155 (by decide) (fun c155 => ?_) (fun c155 => ?_)
                  · refine lv_iload C.1 C.2.1 dX8_read_163 (lv_at hl 0 rfl) ?_
                    exact x_ireturn C hr hlk hw hS hr122 rfl (by refine ⟨(fun m hm => (hx122 m (by omega)).trans (hmr35 m hm)), Or.inl ⟨y56, y89, y122, tx_4 eq56 eq89 eq122 (by omega), hs122.2.2.2, ?_⟩⟩; first | (rw [if_pos (by omega)]; exact hv56) | (rw [if_neg (by omega), if_pos (by omega)]; exact hv89) | (rw [if_neg (by omega), if_neg (by omega)]; exact hv122)) dX8_read_165
                  · refine lv_iload C.1 C.2.1 dX8_read_158 (lv_at hl 1 rfl) ?_
                    refine lv_goto (tgt := 165) C.1 C.2.1 dX8_read_160 (by decide) ?_
                    exact x_ireturn C hr hlk hw hS hr89 rfl (by refine ⟨(fun m hm => (hx122 m (by omega)).trans (hmr35 m hm)), Or.inl ⟨y56, y89, y122, tx_4 eq56 eq89 eq122 (by omega), hs122.2.2.2, ?_⟩⟩; first | (rw [if_pos (by omega)]; exact hv56) | (rw [if_neg (by omega), if_pos (by omega)]; exact hv89) | (rw [if_neg (by omega), if_neg (by omega)]; exact hv122)) dX8_read_165
                · refine lv_iload_n C.1 C.2.1 dX8_read_149 rfl (lv_at hl 2 rfl) ?_
                  refine lv_goto (tgt := 165) C.1 C.2.1 dX8_read_150 (by decide) ?_
                  exact x_ireturn C hr hlk hw hS hr56 rfl (by refine ⟨(fun m hm => (hx122 m (by omega)).trans (hmr35 m hm)), Or.inl ⟨y56, y89, y122, tx_4 eq56 eq89 eq122 (by omega), hs122.2.2.2, ?_⟩⟩; first | (rw [if_pos (by omega)]; exact hv56) | (rw [if_neg (by omega), if_pos (by omega)]; exact hv89) | (rw [if_neg (by omega), if_neg (by omega)]; exact hv122)) dX8_read_165
              · refine lv_aload_n C.1 C.2.1 dX8_read_141 rfl (lv_at hl 3 rfl) ?_
                refine x_cv (x_runV (n := 0) C hw hS hml hl.1 70 8 (by omega) rfl (by decide) rfl (c_X8_fail0 l g M122 hF (tS b n j122) hs122.2.1.2.1 hs122.2.2.2) mw_1027 mw_1029 mw_65 mw_130 mw_1030 rfl rfl (by decide +kernel) ⟨Nat.le_of_ble_eq_true rfl, Nat.le_of_ble_eq_true rfl⟩ rfl rfl (Nat.le_of_ble_eq_true rfl) dX8_read_142 ⟨Nat.zero_le _, Nat.zero_le _⟩) hS (fun M142 H locs hp hw hS => ?_)
                have em142 := hp
                have hw : Wo g (stM (stM M122 70025 1) 70026 ((tS b n j122) : Int)) H := em142 ▸ hw
                have hf142 := hs122.fl
                refine lv_iload_n C.1 C.2.1 dX8_read_145 rfl (lv_at hl 5 rfl) ?_
                refine x_if_ne (tgt := 153) C gw dX8_read_146 (by decide) (fun c146 => ?_) (fun c146 => ?_)
                · refine lv_iload_n C.1 C.2.1 dX8_read_153 rfl (lv_at hl 5 rfl) ?_
                  refine lv_iconst (v := II 1) C.1 C.2.1 dX8_read_154 rfl ?_
                  refine x_icmp_ne (tgt := 163) C gw ⟨by decide, by decide⟩ dX8_read_155 (by decide) (fun c155 => ?_) (fun c155 => ?_)
                  · refine lv_iload C.1 C.2.1 dX8_read_163 (lv_at hl 0 rfl) ?_
                    exact x_ireturn C hr hlk hw hS hr122 rfl (by refine ⟨(fun m hm => (((hx122.st (by decide)).st (by decide)) m (by omega)).trans (hmr35 m hm)), Or.inr ⟨_, tx_3 eq56 eq89 eq122 (by omega), hf142.1, hf142.2.1⟩⟩) dX8_read_165
                  · refine lv_iload C.1 C.2.1 dX8_read_158 (lv_at hl 1 rfl) ?_
                    refine lv_goto (tgt := 165) C.1 C.2.1 dX8_read_160 (by decide) ?_
                    exact x_ireturn C hr hlk hw hS hr89 rfl (by refine ⟨(fun m hm => (((hx122.st (by decide)).st (by decide)) m (by omega)).trans (hmr35 m hm)), Or.inr ⟨_, tx_3 eq56 eq89 eq122 (by omega), hf142.1, hf142.2.1⟩⟩) dX8_read_165
                · refine lv_iload_n C.1 C.2.1 dX8_read_149 rfl (lv_at hl 2 rfl) ?_
                  refine lv_goto (tgt := 165) C.1 C.2.1 dX8_read_150 (by decide) ?_
                  exact x_ireturn C hr hlk hw hS hr56 rfl (by refine ⟨(fun m hm => (((hx122.st (by decide)).st (by decide)) m (by omega)).trans (hmr35 m hm)), Or.inr ⟨_, tx_3 eq56 eq89 eq122 (by omega), hf142.1, hf142.2.1⟩⟩) dX8_read_165
            · have g_M122 := hw.rg
              obtain ⟨qz122, eq122, hf122⟩ := h122b
              have hx122 := (hx89).tr h122f
              refine lv_istore (lv' := [(5, .int (II r122)), (4, .int (II r89)), (3, .int (II r56)), (0, .ref (gA g 70)), (1, .int (II (t : Int))), (2, .int (II w))]) C.1 C.2.1 dX8_read_125 hl (by decide) rfl (fun ls hl => ?_)
              refine lv_aload_n C.1 C.2.1 dX8_read_127 rfl (lv_at hl 3 rfl) ?_
              refine g8 C hw 70 (by omega) rfl 25 (by decide) mw_849 (svi (x := 1) hf122.1) dX8_read_128 ?_
              refine x_if_ne (tgt := 145) C ⟨by decide, by decide⟩ dX8_read_131 (by decide) (fun _ => ?_) (fun h => absurd h (by decide))
              refine lv_iload_n C.1 C.2.1 dX8_read_145 rfl (lv_at hl 5 rfl) ?_
              refine x_if_ne (tgt := 153) C gw dX8_read_146 (by decide) (fun c146 => ?_) (fun c146 => ?_)
              · refine lv_iload_n C.1 C.2.1 dX8_read_153 rfl (lv_at hl 5 rfl) ?_
                refine lv_iconst (v := II 1) C.1 C.2.1 dX8_read_154 rfl ?_
                refine x_icmp_ne (tgt := 163) C gw ⟨by decide, by decide⟩ dX8_read_155 (by decide) (fun c155 => ?_) (fun c155 => ?_)
                · refine lv_iload C.1 C.2.1 dX8_read_163 (lv_at hl 0 rfl) ?_
                  exact x_ireturn C hr hlk hw hS hr122 rfl (by refine ⟨(fun m hm => (hx122 m (by omega)).trans (hmr35 m hm)), Or.inr ⟨_, tx_2 eq56 eq89 eq122, hf122.1, hf122.2.1⟩⟩) dX8_read_165
                · refine lv_iload C.1 C.2.1 dX8_read_158 (lv_at hl 1 rfl) ?_
                  refine lv_goto (tgt := 165) C.1 C.2.1 dX8_read_160 (by decide) ?_
                  exact x_ireturn C hr hlk hw hS hr89 rfl (by refine ⟨(fun m hm => (hx122 m (by omega)).trans (hmr35 m hm)), Or.inr ⟨_, tx_2 eq56 eq89 eq122, hf122.1, hf122.2.1⟩⟩) dX8_read_165
              · refine lv_iload_n C.1 C.2.1 dX8_read_149 rfl (lv_at hl 2 rfl) ?_
                refine lv_goto (tgt := 165) C.1 C.2.1 dX8_read_150 (by decide) ?_
                exact x_ireturn C hr hlk hw hS hr56 rfl (by refine ⟨(fun m hm => (hx122 m (by omega)).trans (hmr35 m hm)), Or.inr ⟨_, tx_2 eq56 eq89 eq122, hf122.1, hf122.2.1⟩⟩) dX8_read_165
          · have hw : Wo g M89 H := em119 ▸ hw
            rw [er119]
            have hi122 := mT_in (b := b) (n := n) (i := j89)
            refine x_ci (x_runV (n := 1) C hw hS hml hl.1 70 8 (by omega) rfl (by decide) rfl (c_X8_part0 l g M89 hF nm (hnm.mx hx89) b n (160 * t) j89 hs89 3 h119b trivial) mw_1023 mw_1025 mw_64 mw_130 mw_1026 rfl rfl (by decide +kernel) ⟨Nat.le_of_ble_eq_true rfl, Nat.le_of_ble_eq_true rfl⟩ rfl rfl (Nat.le_of_ble_eq_true rfl) dX8_read_122 ⟨Nat.zero_le _, Nat.zero_le _⟩) hS (fun r122 M122 H locs hr122 hp hw hS => ?_)
            rcases hp with ⟨h122f, (h122b | h122b)⟩
            · have g_M122 := hw.rg
              obtain ⟨y122, j122, eq122, hs122, hv122⟩ := h122b
              have hx122 := (hx89).tr h122f
              refine lv_istore (lv' := [(5, .int (II r122)), (4, .int (II r89)), (3, .int (II r56)), (0, .ref (gA g 70)), (1, .int (II (t : Int))), (2, .int (II w))]) C.1 C.2.1 dX8_read_125 hl (by decide) rfl (fun ls hl => ?_)
              refine lv_aload_n C.1 C.2.1 dX8_read_127 rfl (lv_at hl 3 rfl) ?_
              refine g8 C hw 70 (by omega) rfl 25 (by decide) mw_849 (svi (x := 0) hs122.2.2.2) dX8_read_128 ?_
              refine x_if_ne (tgt := 145) C ⟨by decide, by decide⟩ dX8_read_131 (by decide) (fun h => absurd h (by decide)) (fun _ => ?_)
              have hi142 := mT_in (b := b) (n := n) (i := j122)
              have hsg142 := sgT_in (x := b (tS b n j122))
              have hwd142 := wdT_in (b := b) (s := tS b n j122) (e := tE b n j122)
              refine lv_aload_n C.1 C.2.1 dX8_read_134 rfl (lv_at hl 3 rfl) ?_
              refine g8 C hw 70 (by omega) rfl 21 (by decide) mw_845 (svi (x := mT b n j122) hs122.2.1.1) dX8_read_135 ?_
              refine x_if_eq (tgt := 145) C ⟨by have := g_M122 70021; have := hs122.2.1.1; omega, by have := g_M122 70021; have := hs122.2.1.1; omega⟩ dX8_read_138 (by decide) (fun c138 => ?_) (fun c138 => ?_)
              · refine lv_iload_n C.1 C.2.1 dX8_read_145 rfl (lv_at hl 5 rfl) ?_
                refine x_if_ne (tgt := 153) C gw dX8_read_146 (by decide) (fun c146 => ?_) (fun c146 => ?_)
                · refine lv_iload_n C.1 C.2.1 dX8_read_153 rfl (lv_at hl 5 rfl) ?_
                  refine lv_iconst (v := II 1) C.1 C.2.1 dX8_read_154 rfl ?_
                  refine x_icmp_ne (tgt := 163) C gw ⟨by decide, by decide⟩ dX8_read_155 (by decide) (fun c155 => ?_) (fun c155 => ?_)
                  · refine lv_iload C.1 C.2.1 dX8_read_163 (lv_at hl 0 rfl) ?_
                    exact x_ireturn C hr hlk hw hS hr122 rfl (by refine ⟨(fun m hm => (hx122 m (by omega)).trans (hmr35 m hm)), Or.inl ⟨y56, y89, y122, tx_4 eq56 eq89 eq122 (by omega), hs122.2.2.2, ?_⟩⟩; first | (rw [if_pos (by omega)]; exact hv56) | (rw [if_neg (by omega), if_pos (by omega)]; exact hv89) | (rw [if_neg (by omega), if_neg (by omega)]; exact hv122)) dX8_read_165
                  · refine lv_iload C.1 C.2.1 dX8_read_158 (lv_at hl 1 rfl) ?_
                    refine lv_goto (tgt := 165) C.1 C.2.1 dX8_read_160 (by decide) ?_
                    exact x_ireturn C hr hlk hw hS hr89 rfl (by refine ⟨(fun m hm => (hx122 m (by omega)).trans (hmr35 m hm)), Or.inl ⟨y56, y89, y122, tx_4 eq56 eq89 eq122 (by omega), hs122.2.2.2, ?_⟩⟩; first | (rw [if_pos (by omega)]; exact hv56) | (rw [if_neg (by omega), if_pos (by omega)]; exact hv89) | (rw [if_neg (by omega), if_neg (by omega)]; exact hv122)) dX8_read_165
                · refine lv_iload_n C.1 C.2.1 dX8_read_149 rfl (lv_at hl 2 rfl) ?_
                  refine lv_goto (tgt := 165) C.1 C.2.1 dX8_read_150 (by decide) ?_
                  exact x_ireturn C hr hlk hw hS hr56 rfl (by refine ⟨(fun m hm => (hx122 m (by omega)).trans (hmr35 m hm)), Or.inl ⟨y56, y89, y122, tx_4 eq56 eq89 eq122 (by omega), hs122.2.2.2, ?_⟩⟩; first | (rw [if_pos (by omega)]; exact hv56) | (rw [if_neg (by omega), if_pos (by omega)]; exact hv89) | (rw [if_neg (by omega), if_neg (by omega)]; exact hv122)) dX8_read_165
              · refine lv_aload_n C.1 C.2.1 dX8_read_141 rfl (lv_at hl 3 rfl) ?_
                refine x_cv (x_runV (n := 0) C hw hS hml hl.1 70 8 (by omega) rfl (by decide) rfl (c_X8_fail0 l g M122 hF (tS b n j122) hs122.2.1.2.1 hs122.2.2.2) mw_1027 mw_1029 mw_65 mw_130 mw_1030 rfl rfl (by decide +kernel) ⟨Nat.le_of_ble_eq_true rfl, Nat.le_of_ble_eq_true rfl⟩ rfl rfl (Nat.le_of_ble_eq_true rfl) dX8_read_142 ⟨Nat.zero_le _, Nat.zero_le _⟩) hS (fun M142 H locs hp hw hS => ?_)
                have em142 := hp
                have hw : Wo g (stM (stM M122 70025 1) 70026 ((tS b n j122) : Int)) H := em142 ▸ hw
                have hf142 := hs122.fl
                refine lv_iload_n C.1 C.2.1 dX8_read_145 rfl (lv_at hl 5 rfl) ?_
                refine x_if_ne (tgt := 153) C gw dX8_read_146 (by decide) (fun c146 => ?_) (fun c146 => ?_)
                · refine lv_iload_n C.1 C.2.1 dX8_read_153 rfl (lv_at hl 5 rfl) ?_
                  refine lv_iconst (v := II 1) C.1 C.2.1 dX8_read_154 rfl ?_
                  refine x_icmp_ne (tgt := 163) C gw ⟨by decide, by decide⟩ dX8_read_155 (by decide) (fun c155 => ?_) (fun c155 => ?_)
                  · refine lv_iload C.1 C.2.1 dX8_read_163 (lv_at hl 0 rfl) ?_
                    exact x_ireturn C hr hlk hw hS hr122 rfl (by refine ⟨(fun m hm => (((hx122.st (by decide)).st (by decide)) m (by omega)).trans (hmr35 m hm)), Or.inr ⟨_, tx_3 eq56 eq89 eq122 (by omega), hf142.1, hf142.2.1⟩⟩) dX8_read_165
                  · refine lv_iload C.1 C.2.1 dX8_read_158 (lv_at hl 1 rfl) ?_
                    refine lv_goto (tgt := 165) C.1 C.2.1 dX8_read_160 (by decide) ?_
                    exact x_ireturn C hr hlk hw hS hr89 rfl (by refine ⟨(fun m hm => (((hx122.st (by decide)).st (by decide)) m (by omega)).trans (hmr35 m hm)), Or.inr ⟨_, tx_3 eq56 eq89 eq122 (by omega), hf142.1, hf142.2.1⟩⟩) dX8_read_165
                · refine lv_iload_n C.1 C.2.1 dX8_read_149 rfl (lv_at hl 2 rfl) ?_
                  refine lv_goto (tgt := 165) C.1 C.2.1 dX8_read_150 (by decide) ?_
                  exact x_ireturn C hr hlk hw hS hr56 rfl (by refine ⟨(fun m hm => (((hx122.st (by decide)).st (by decide)) m (by omega)).trans (hmr35 m hm)), Or.inr ⟨_, tx_3 eq56 eq89 eq122 (by omega), hf142.1, hf142.2.1⟩⟩) dX8_read_165
            · have g_M122 := hw.rg
              obtain ⟨qz122, eq122, hf122⟩ := h122b
              have hx122 := (hx89).tr h122f
              refine lv_istore (lv' := [(5, .int (II r122)), (4, .int (II r89)), (3, .int (II r56)), (0, .ref (gA g 70)), (1, .int (II (t : Int))), (2, .int (II w))]) C.1 C.2.1 dX8_read_125 hl (by decide) rfl (fun ls hl => ?_)
              refine lv_aload_n C.1 C.2.1 dX8_read_127 rfl (lv_at hl 3 rfl) ?_
              refine g8 C hw 70 (by omega) rfl 25 (by decide) mw_849 (svi (x := 1) hf122.1) dX8_read_128 ?_
              refine x_if_ne (tgt := 145) C ⟨by decide, by decide⟩ dX8_read_131 (by decide) (fun _ => ?_) (fun h => absurd h (by decide))
              refine lv_iload_n C.1 C.2.1 dX8_read_145 rfl (lv_at hl 5 rfl) ?_
              refine x_if_ne (tgt := 153) C gw dX8_read_146 (by decide) (fun c146 => ?_) (fun c146 => ?_)
              · refine lv_iload_n C.1 C.2.1 dX8_read_153 rfl (lv_at hl 5 rfl) ?_
                refine lv_iconst (v := II 1) C.1 C.2.1 dX8_read_154 rfl ?_
                refine x_icmp_ne (tgt := 163) C gw ⟨by decide, by decide⟩ dX8_read_155 (by decide) (fun c155 => ?_) (fun c155 => ?_)
                · refine lv_iload C.1 C.2.1 dX8_read_163 (lv_at hl 0 rfl) ?_
                  exact x_ireturn C hr hlk hw hS hr122 rfl (by refine ⟨(fun m hm => (hx122 m (by omega)).trans (hmr35 m hm)), Or.inr ⟨_, tx_2 eq56 eq89 eq122, hf122.1, hf122.2.1⟩⟩) dX8_read_165
                · refine lv_iload C.1 C.2.1 dX8_read_158 (lv_at hl 1 rfl) ?_
                  refine lv_goto (tgt := 165) C.1 C.2.1 dX8_read_160 (by decide) ?_
                  exact x_ireturn C hr hlk hw hS hr89 rfl (by refine ⟨(fun m hm => (hx122 m (by omega)).trans (hmr35 m hm)), Or.inr ⟨_, tx_2 eq56 eq89 eq122, hf122.1, hf122.2.1⟩⟩) dX8_read_165
              · refine lv_iload_n C.1 C.2.1 dX8_read_149 rfl (lv_at hl 2 rfl) ?_
                refine lv_goto (tgt := 165) C.1 C.2.1 dX8_read_150 (by decide) ?_
                exact x_ireturn C hr hlk hw hS hr56 rfl (by refine ⟨(fun m hm => (hx122 m (by omega)).trans (hmr35 m hm)), Or.inr ⟨_, tx_2 eq56 eq89 eq122, hf122.1, hf122.2.1⟩⟩) dX8_read_165
        · have g_M89 := hw.rg
          obtain ⟨qz89, eq89, hf89⟩ := h89b
          have hx89 := (hx56).tr h89f
          refine lv_istore (lv' := [(4, .int (II r89)), (3, .int (II r56)), (0, .ref (gA g 70)), (1, .int (II (t : Int))), (2, .int (II w))]) C.1 C.2.1 dX8_read_92 hl (by decide) rfl (fun ls hl => ?_)
          refine lv_aload_n C.1 C.2.1 dX8_read_94 rfl (lv_at hl 2 rfl) ?_
          refine g8 C hw 70 (by omega) rfl 25 (by decide) mw_849 (svi (x := 1) hf89.1) dX8_read_95 ?_
          refine x_if_eq (tgt := 105) C ⟨by decide, by decide⟩ dX8_read_98 (by decide) (fun h => absurd h (by decide)) (fun _ => ?_)
          refine lv_iconst (v := II 0) C.1 C.2.1 dX8_read_101 rfl ?_
          refine lv_goto (tgt := 125) C.1 C.2.1 dX8_read_102 (by decide) ?_
          refine lv_istore (lv' := [(5, .int (II 0)), (4, .int (II r89)), (3, .int (II r56)), (0, .ref (gA g 70)), (1, .int (II (t : Int))), (2, .int (II w))]) C.1 C.2.1 dX8_read_125 hl (by decide) rfl (fun ls hl => ?_)
          refine lv_aload_n C.1 C.2.1 dX8_read_127 rfl (lv_at hl 3 rfl) ?_
          refine g8 C hw 70 (by omega) rfl 25 (by decide) mw_849 (svi (x := 1) hf89.1) dX8_read_128 ?_
          refine x_if_ne (tgt := 145) C ⟨by decide, by decide⟩ dX8_read_131 (by decide) (fun _ => ?_) (fun h => absurd h (by decide))
          refine lv_iload_n C.1 C.2.1 dX8_read_145 rfl (lv_at hl 5 rfl) ?_
          refine x_if_ne (tgt := 153) C gw dX8_read_146 (by decide) (fun c146 => ?_) (fun c146 => ?_)
          · refine lv_iload_n C.1 C.2.1 dX8_read_153 rfl (lv_at hl 5 rfl) ?_
            refine lv_iconst (v := II 1) C.1 C.2.1 dX8_read_154 rfl ?_
            refine x_icmp_ne (tgt := 163) C gw ⟨by decide, by decide⟩ dX8_read_155 (by decide) (fun c155 => ?_) (fun c155 => ?_)
            · refine lv_iload C.1 C.2.1 dX8_read_163 (lv_at hl 0 rfl) ?_
              exact x_ireturn C hr hlk hw hS ⟨by decide, by decide⟩ rfl (by refine ⟨(fun m hm => (hx89 m (by omega)).trans (hmr35 m hm)), Or.inr ⟨_, tx_1 eq56 eq89, hf89.1, hf89.2.1⟩⟩) dX8_read_165
            · refine lv_iload C.1 C.2.1 dX8_read_158 (lv_at hl 1 rfl) ?_
              refine lv_goto (tgt := 165) C.1 C.2.1 dX8_read_160 (by decide) ?_
              exact x_ireturn C hr hlk hw hS hr89 rfl (by refine ⟨(fun m hm => (hx89 m (by omega)).trans (hmr35 m hm)), Or.inr ⟨_, tx_1 eq56 eq89, hf89.1, hf89.2.1⟩⟩) dX8_read_165
          · refine lv_iload_n C.1 C.2.1 dX8_read_149 rfl (lv_at hl 2 rfl) ?_
            refine lv_goto (tgt := 165) C.1 C.2.1 dX8_read_150 (by decide) ?_
            exact x_ireturn C hr hlk hw hS hr56 rfl (by refine ⟨(fun m hm => (hx89 m (by omega)).trans (hmr35 m hm)), Or.inr ⟨_, tx_1 eq56 eq89, hf89.1, hf89.2.1⟩⟩) dX8_read_165
      · have hw : Wo g M56 H := em86 ▸ hw
        rw [er86]
        have hi89 := mT_in (b := b) (n := n) (i := j56)
        refine x_ci (x_runV (n := 1) C hw hS hml hl.1 70 8 (by omega) rfl (by decide) rfl (c_X8_part0 l g M56 hF nm (hnm.mx hx56) b n (160 * t) j56 hs56 2 h86b trivial) mw_1023 mw_1025 mw_64 mw_130 mw_1026 rfl rfl (by decide +kernel) ⟨Nat.le_of_ble_eq_true rfl, Nat.le_of_ble_eq_true rfl⟩ rfl rfl (Nat.le_of_ble_eq_true rfl) dX8_read_89 ⟨Nat.zero_le _, Nat.zero_le _⟩) hS (fun r89 M89 H locs hr89 hp hw hS => ?_)
        rcases hp with ⟨h89f, (h89b | h89b)⟩
        · have g_M89 := hw.rg
          obtain ⟨y89, j89, eq89, hs89, hv89⟩ := h89b
          have hx89 := (hx56).tr h89f
          refine lv_istore (lv' := [(4, .int (II r89)), (3, .int (II r56)), (0, .ref (gA g 70)), (1, .int (II (t : Int))), (2, .int (II w))]) C.1 C.2.1 dX8_read_92 hl (by decide) rfl (fun ls hl => ?_)
          refine lv_aload_n C.1 C.2.1 dX8_read_94 rfl (lv_at hl 2 rfl) ?_
          refine g8 C hw 70 (by omega) rfl 25 (by decide) mw_849 (svi (x := 0) hs89.2.2.2) dX8_read_95 ?_
          refine x_if_eq (tgt := 105) C ⟨by decide, by decide⟩ dX8_read_98 (by decide) (fun _ => ?_) (fun h => absurd h (by decide))
          refine lv_aload_n C.1 C.2.1 dX8_read_105 rfl (lv_at hl 2 rfl) ?_
          refine lv_aload_n C.1 C.2.1 dX8_read_106 rfl (lv_at hl 2 rfl) ?_
          refine lv_bipush (v := II 112) C.1 C.2.1 dX8_read_107 (by decide) ?_
          refine lv_bipush (v := II 97) C.1 C.2.1 dX8_read_109 (by decide) ?_
          refine lv_bipush (v := II 121) C.1 C.2.1 dX8_read_111 (by decide) ?_
          refine lv_bipush (v := II 115) C.1 C.2.1 dX8_read_113 (by decide) ?_
          refine lv_iconst (v := II 0) C.1 C.2.1 dX8_read_115 rfl ?_
          refine lv_iconst (v := II 0) C.1 C.2.1 dX8_read_116 rfl ?_
          refine lv_iconst (v := II 0) C.1 C.2.1 dX8_read_117 rfl ?_
          refine lv_iconst (v := II 0) C.1 C.2.1 dX8_read_118 rfl ?_
          refine x_ci (x_runV (n := 8) C hw hS hml hl.1 70 8 (by omega) rfl (by decide) rfl (c_X8_isWord0 l g M89 hF b n (160 * t) j89 0 hs89 [112, 97, 121, 115] 3 112 ⟨by decide, by decide⟩ 97 ⟨by decide, by decide⟩ 121 ⟨by decide, by decide⟩ 115 ⟨by decide, by decide⟩ 0 ⟨by decide, by decide⟩ 0 ⟨by decide, by decide⟩ 0 ⟨by decide, by decide⟩ 0 ⟨by decide, by decide⟩ (by decide) wd_pays) mw_1015 mw_1017 mw_62 mw_130 mw_1018 rfl rfl (by decide +kernel) ⟨Nat.le_of_ble_eq_true rfl, Nat.le_of_ble_eq_true rfl⟩ rfl rfl (Nat.le_of_ble_eq_true rfl) dX8_read_119 ⟨Nat.zero_le _, Nat.zero_le _⟩) hS (fun r119 M119 H locs hr119 hp hw hS => ?_)
          rcases hp with ⟨em119, (⟨er119, h119b⟩ | ⟨er119, h119b⟩)⟩
          · have hw : Wo g M89 H := em119 ▸ hw
            rw [er119]
            obtain ⟨hm119, -⟩ := (wrd_iff (b := b) (n := n) (i := j89) wd_pays).mp h119b
            have hi122 := mT_in (b := b) (n := n) (i := j89)
            refine x_ci (x_runV (n := 1) C hw hS hml hl.1 70 8 (by omega) rfl (by decide) rfl (c_X8_part1 l g M89 hF nm (hnm.mx hx89) b n (160 * t) j89 hs89 3 h119b ⟨by decide, by omega⟩) mw_1023 mw_1025 mw_64 mw_130 mw_1026 rfl rfl (by decide +kernel) ⟨Nat.le_of_ble_eq_true rfl, Nat.le_of_ble_eq_true rfl⟩ rfl rfl (Nat.le_of_ble_eq_true rfl) dX8_read_122 ⟨Nat.zero_le _, Nat.zero_le _⟩) hS (fun r122 M122 H locs hr122 hp hw hS => ?_)
            rcases hp with ⟨h122f, (h122b | h122b)⟩
            · have g_M122 := hw.rg
              obtain ⟨y122, j122, eq122, hs122, hv122⟩ := h122b
              have hx122 := (hx89).tr h122f
              refine lv_istore (lv' := [(5, .int (II r122)), (4, .int (II r89)), (3, .int (II r56)), (0, .ref (gA g 70)), (1, .int (II (t : Int))), (2, .int (II w))]) C.1 C.2.1 dX8_read_125 hl (by decide) rfl (fun ls hl => ?_)
              refine lv_aload_n C.1 C.2.1 dX8_read_127 rfl (lv_at hl 3 rfl) ?_
              refine g8 C hw 70 (by omega) rfl 25 (by decide) mw_849 (svi (x := 0) hs122.2.2.2) dX8_read_128 ?_
              refine x_if_ne (tgt := 145) C ⟨by decide, by decide⟩ dX8_read_131 (by decide) (fun h => absurd h (by decide)) (fun _ => ?_)
              have hi142 := mT_in (b := b) (n := n) (i := j122)
              have hsg142 := sgT_in (x := b (tS b n j122))
              have hwd142 := wdT_in (b := b) (s := tS b n j122) (e := tE b n j122)
              refine lv_aload_n C.1 C.2.1 dX8_read_134 rfl (lv_at hl 3 rfl) ?_
              refine g8 C hw 70 (by omega) rfl 21 (by decide) mw_845 (svi (x := mT b n j122) hs122.2.1.1) dX8_read_135 ?_
              refine x_if_eq (tgt := 145) C ⟨by have := g_M122 70021; have := hs122.2.1.1; omega, by have := g_M122 70021; have := hs122.2.1.1; omega⟩ dX8_read_138 (by decide) (fun c138 => ?_) (fun c138 => ?_)
              · refine lv_iload_n C.1 C.2.1 dX8_read_145 rfl (lv_at hl 5 rfl) ?_
                refine x_if_ne (tgt := 153) C gw dX8_read_146 (by decide) (fun c146 => ?_) (fun c146 => ?_)
                · refine lv_iload_n C.1 C.2.1 dX8_read_153 rfl (lv_at hl 5 rfl) ?_
                  refine lv_iconst (v := II 1) C.1 C.2.1 dX8_read_154 rfl ?_
                  refine x_icmp_ne (tgt := 163) C gw ⟨by decide, by decide⟩ dX8_read_155 (by decide) (fun c155 => ?_) (fun c155 => ?_)
                  · refine lv_iload C.1 C.2.1 dX8_read_163 (lv_at hl 0 rfl) ?_
                    exact x_ireturn C hr hlk hw hS hr122 rfl (by refine ⟨(fun m hm => (hx122 m (by omega)).trans (hmr35 m hm)), Or.inl ⟨y56, y89, y122, tx_4 eq56 eq89 eq122 (by omega), hs122.2.2.2, ?_⟩⟩; first | (rw [if_pos (by omega)]; exact hv56) | (rw [if_neg (by omega), if_pos (by omega)]; exact hv89) | (rw [if_neg (by omega), if_neg (by omega)]; exact hv122)) dX8_read_165
                  · refine lv_iload C.1 C.2.1 dX8_read_158 (lv_at hl 1 rfl) ?_
                    refine lv_goto (tgt := 165) C.1 C.2.1 dX8_read_160 (by decide) ?_
                    exact x_ireturn C hr hlk hw hS hr89 rfl (by refine ⟨(fun m hm => (hx122 m (by omega)).trans (hmr35 m hm)), Or.inl ⟨y56, y89, y122, tx_4 eq56 eq89 eq122 (by omega), hs122.2.2.2, ?_⟩⟩; first | (rw [if_pos (by omega)]; exact hv56) | (rw [if_neg (by omega), if_pos (by omega)]; exact hv89) | (rw [if_neg (by omega), if_neg (by omega)]; exact hv122)) dX8_read_165
                · refine lv_iload_n C.1 C.2.1 dX8_read_149 rfl (lv_at hl 2 rfl) ?_
                  refine lv_goto (tgt := 165) C.1 C.2.1 dX8_read_150 (by decide) ?_
                  exact x_ireturn C hr hlk hw hS hr56 rfl (by refine ⟨(fun m hm => (hx122 m (by omega)).trans (hmr35 m hm)), Or.inl ⟨y56, y89, y122, tx_4 eq56 eq89 eq122 (by omega), hs122.2.2.2, ?_⟩⟩; first | (rw [if_pos (by omega)]; exact hv56) | (rw [if_neg (by omega), if_pos (by omega)]; exact hv89) | (rw [if_neg (by omega), if_neg (by omega)]; exact hv122)) dX8_read_165
              · refine lv_aload_n C.1 C.2.1 dX8_read_141 rfl (lv_at hl 3 rfl) ?_
                refine x_cv (x_runV (n := 0) C hw hS hml hl.1 70 8 (by omega) rfl (by decide) rfl (c_X8_fail0 l g M122 hF (tS b n j122) hs122.2.1.2.1 hs122.2.2.2) mw_1027 mw_1029 mw_65 mw_130 mw_1030 rfl rfl (by decide +kernel) ⟨Nat.le_of_ble_eq_true rfl, Nat.le_of_ble_eq_true rfl⟩ rfl rfl (Nat.le_of_ble_eq_true rfl) dX8_read_142 ⟨Nat.zero_le _, Nat.zero_le _⟩) hS (fun M142 H locs hp hw hS => ?_)
                have em142 := hp
                have hw : Wo g (stM (stM M122 70025 1) 70026 ((tS b n j122) : Int)) H := em142 ▸ hw
                have hf142 := hs122.fl
                refine lv_iload_n C.1 C.2.1 dX8_read_145 rfl (lv_at hl 5 rfl) ?_
                refine x_if_ne (tgt := 153) C gw dX8_read_146 (by decide) (fun c146 => ?_) (fun c146 => ?_)
                · refine lv_iload_n C.1 C.2.1 dX8_read_153 rfl (lv_at hl 5 rfl) ?_
                  refine lv_iconst (v := II 1) C.1 C.2.1 dX8_read_154 rfl ?_
                  refine x_icmp_ne (tgt := 163) C gw ⟨by decide, by decide⟩ dX8_read_155 (by decide) (fun c155 => ?_) (fun c155 => ?_)
                  · refine lv_iload C.1 C.2.1 dX8_read_163 (lv_at hl 0 rfl) ?_
                    exact x_ireturn C hr hlk hw hS hr122 rfl (by refine ⟨(fun m hm => (((hx122.st (by decide)).st (by decide)) m (by omega)).trans (hmr35 m hm)), Or.inr ⟨_, tx_3 eq56 eq89 eq122 (by omega), hf142.1, hf142.2.1⟩⟩) dX8_read_165
                  · refine lv_iload C.1 C.2.1 dX8_read_158 (lv_at hl 1 rfl) ?_
                    refine lv_goto (tgt := 165) C.1 C.2.1 dX8_read_160 (by decide) ?_
                    exact x_ireturn C hr hlk hw hS hr89 rfl (by refine ⟨(fun m hm => (((hx122.st (by decide)).st (by decide)) m (by omega)).trans (hmr35 m hm)), Or.inr ⟨_, tx_3 eq56 eq89 eq122 (by omega), hf142.1, hf142.2.1⟩⟩) dX8_read_165
                · refine lv_iload_n C.1 C.2.1 dX8_read_149 rfl (lv_at hl 2 rfl) ?_
                  refine lv_goto (tgt := 165) C.1 C.2.1 dX8_read_150 (by decide) ?_
                  exact x_ireturn C hr hlk hw hS hr56 rfl (by refine ⟨(fun m hm => (((hx122.st (by decide)).st (by decide)) m (by omega)).trans (hmr35 m hm)), Or.inr ⟨_, tx_3 eq56 eq89 eq122 (by omega), hf142.1, hf142.2.1⟩⟩) dX8_read_165
            · have g_M122 := hw.rg
              obtain ⟨qz122, eq122, hf122⟩ := h122b
              have hx122 := (hx89).tr h122f
              refine lv_istore (lv' := [(5, .int (II r122)), (4, .int (II r89)), (3, .int (II r56)), (0, .ref (gA g 70)), (1, .int (II (t : Int))), (2, .int (II w))]) C.1 C.2.1 dX8_read_125 hl (by decide) rfl (fun ls hl => ?_)
              refine lv_aload_n C.1 C.2.1 dX8_read_127 rfl (lv_at hl 3 rfl) ?_
              refine g8 C hw 70 (by omega) rfl 25 (by decide) mw_849 (svi (x := 1) hf122.1) dX8_read_128 ?_
              refine x_if_ne (tgt := 145) C ⟨by decide, by decide⟩ dX8_read_131 (by decide) (fun _ => ?_) (fun h => absurd h (by decide))
              refine lv_iload_n C.1 C.2.1 dX8_read_145 rfl (lv_at hl 5 rfl) ?_
              refine x_if_ne (tgt := 153) C gw dX8_read_146 (by decide) (fun c146 => ?_) (fun c146 => ?_)
              · refine lv_iload_n C.1 C.2.1 dX8_read_153 rfl (lv_at hl 5 rfl) ?_
                refine lv_iconst (v := II 1) C.1 C.2.1 dX8_read_154 rfl ?_
                refine x_icmp_ne (tgt := 163) C gw ⟨by decide, by decide⟩ dX8_read_155 (by decide) (fun c155 => ?_) (fun c155 => ?_)
                · refine lv_iload C.1 C.2.1 dX8_read_163 (lv_at hl 0 rfl) ?_
                  exact x_ireturn C hr hlk hw hS hr122 rfl (by refine ⟨(fun m hm => (hx122 m (by omega)).trans (hmr35 m hm)), Or.inr ⟨_, tx_2 eq56 eq89 eq122, hf122.1, hf122.2.1⟩⟩) dX8_read_165
                · refine lv_iload C.1 C.2.1 dX8_read_158 (lv_at hl 1 rfl) ?_
                  refine lv_goto (tgt := 165) C.1 C.2.1 dX8_read_160 (by decide) ?_
                  exact x_ireturn C hr hlk hw hS hr89 rfl (by refine ⟨(fun m hm => (hx122 m (by omega)).trans (hmr35 m hm)), Or.inr ⟨_, tx_2 eq56 eq89 eq122, hf122.1, hf122.2.1⟩⟩) dX8_read_165
              · refine lv_iload_n C.1 C.2.1 dX8_read_149 rfl (lv_at hl 2 rfl) ?_
                refine lv_goto (tgt := 165) C.1 C.2.1 dX8_read_150 (by decide) ?_
                exact x_ireturn C hr hlk hw hS hr56 rfl (by refine ⟨(fun m hm => (hx122 m (by omega)).trans (hmr35 m hm)), Or.inr ⟨_, tx_2 eq56 eq89 eq122, hf122.1, hf122.2.1⟩⟩) dX8_read_165
          · have hw : Wo g M89 H := em119 ▸ hw
            rw [er119]
            have hi122 := mT_in (b := b) (n := n) (i := j89)
            refine x_ci (x_runV (n := 1) C hw hS hml hl.1 70 8 (by omega) rfl (by decide) rfl (c_X8_part0 l g M89 hF nm (hnm.mx hx89) b n (160 * t) j89 hs89 3 h119b trivial) mw_1023 mw_1025 mw_64 mw_130 mw_1026 rfl rfl (by decide +kernel) ⟨Nat.le_of_ble_eq_true rfl, Nat.le_of_ble_eq_true rfl⟩ rfl rfl (Nat.le_of_ble_eq_true rfl) dX8_read_122 ⟨Nat.zero_le _, Nat.zero_le _⟩) hS (fun r122 M122 H locs hr122 hp hw hS => ?_)
            rcases hp with ⟨h122f, (h122b | h122b)⟩
            · have g_M122 := hw.rg
              obtain ⟨y122, j122, eq122, hs122, hv122⟩ := h122b
              have hx122 := (hx89).tr h122f
              refine lv_istore (lv' := [(5, .int (II r122)), (4, .int (II r89)), (3, .int (II r56)), (0, .ref (gA g 70)), (1, .int (II (t : Int))), (2, .int (II w))]) C.1 C.2.1 dX8_read_125 hl (by decide) rfl (fun ls hl => ?_)
              refine lv_aload_n C.1 C.2.1 dX8_read_127 rfl (lv_at hl 3 rfl) ?_
              refine g8 C hw 70 (by omega) rfl 25 (by decide) mw_849 (svi (x := 0) hs122.2.2.2) dX8_read_128 ?_
              refine x_if_ne (tgt := 145) C ⟨by decide, by decide⟩ dX8_read_131 (by decide) (fun h => absurd h (by decide)) (fun _ => ?_)
              have hi142 := mT_in (b := b) (n := n) (i := j122)
              have hsg142 := sgT_in (x := b (tS b n j122))
              have hwd142 := wdT_in (b := b) (s := tS b n j122) (e := tE b n j122)
              refine lv_aload_n C.1 C.2.1 dX8_read_134 rfl (lv_at hl 3 rfl) ?_
              refine g8 C hw 70 (by omega) rfl 21 (by decide) mw_845 (svi (x := mT b n j122) hs122.2.1.1) dX8_read_135 ?_
              refine x_if_eq (tgt := 145) C ⟨by have := g_M122 70021; have := hs122.2.1.1; omega, by have := g_M122 70021; have := hs122.2.1.1; omega⟩ dX8_read_138 (by decide) (fun c138 => ?_) (fun c138 => ?_)
              · refine lv_iload_n C.1 C.2.1 dX8_read_145 rfl (lv_at hl 5 rfl) ?_
                refine x_if_ne (tgt := 153) C gw dX8_read_146 (by decide) (fun c146 => ?_) (fun c146 => ?_)
                · refine lv_iload_n C.1 C.2.1 dX8_read_153 rfl (lv_at hl 5 rfl) ?_
                  refine lv_iconst (v := II 1) C.1 C.2.1 dX8_read_154 rfl ?_
                  refine x_icmp_ne (tgt := 163) C gw ⟨by decide, by decide⟩ dX8_read_155 (by decide) (fun c155 => ?_) (fun c155 => ?_)
                  · refine lv_iload C.1 C.2.1 dX8_read_163 (lv_at hl 0 rfl) ?_
                    exact x_ireturn C hr hlk hw hS hr122 rfl (by refine ⟨(fun m hm => (hx122 m (by omega)).trans (hmr35 m hm)), Or.inl ⟨y56, y89, y122, tx_4 eq56 eq89 eq122 (by omega), hs122.2.2.2, ?_⟩⟩; first | (rw [if_pos (by omega)]; exact hv56) | (rw [if_neg (by omega), if_pos (by omega)]; exact hv89) | (rw [if_neg (by omega), if_neg (by omega)]; exact hv122)) dX8_read_165
                  · refine lv_iload C.1 C.2.1 dX8_read_158 (lv_at hl 1 rfl) ?_
                    refine lv_goto (tgt := 165) C.1 C.2.1 dX8_read_160 (by decide) ?_
                    exact x_ireturn C hr hlk hw hS hr89 rfl (by refine ⟨(fun m hm => (hx122 m (by omega)).trans (hmr35 m hm)), Or.inl ⟨y56, y89, y122, tx_4 eq56 eq89 eq122 (by omega), hs122.2.2.2, ?_⟩⟩; first | (rw [if_pos (by omega)]; exact hv56) | (rw [if_neg (by omega), if_pos (by omega)]; exact hv89) | (rw [if_neg (by omega), if_neg (by omega)]; exact hv122)) dX8_read_165
                · refine lv_iload_n C.1 C.2.1 dX8_read_149 rfl (lv_at hl 2 rfl) ?_
                  refine lv_goto (tgt := 165) C.1 C.2.1 dX8_read_150 (by decide) ?_
                  exact x_ireturn C hr hlk hw hS hr56 rfl (by refine ⟨(fun m hm => (hx122 m (by omega)).trans (hmr35 m hm)), Or.inl ⟨y56, y89, y122, tx_4 eq56 eq89 eq122 (by omega), hs122.2.2.2, ?_⟩⟩; first | (rw [if_pos (by omega)]; exact hv56) | (rw [if_neg (by omega), if_pos (by omega)]; exact hv89) | (rw [if_neg (by omega), if_neg (by omega)]; exact hv122)) dX8_read_165
              · refine lv_aload_n C.1 C.2.1 dX8_read_141 rfl (lv_at hl 3 rfl) ?_
                refine x_cv (x_runV (n := 0) C hw hS hml hl.1 70 8 (by omega) rfl (by decide) rfl (c_X8_fail0 l g M122 hF (tS b n j122) hs122.2.1.2.1 hs122.2.2.2) mw_1027 mw_1029 mw_65 mw_130 mw_1030 rfl rfl (by decide +kernel) ⟨Nat.le_of_ble_eq_true rfl, Nat.le_of_ble_eq_true rfl⟩ rfl rfl (Nat.le_of_ble_eq_true rfl) dX8_read_142 ⟨Nat.zero_le _, Nat.zero_le _⟩) hS (fun M142 H locs hp hw hS => ?_)
                have em142 := hp
                have hw : Wo g (stM (stM M122 70025 1) 70026 ((tS b n j122) : Int)) H := em142 ▸ hw
                have hf142 := hs122.fl
                refine lv_iload_n C.1 C.2.1 dX8_read_145 rfl (lv_at hl 5 rfl) ?_
                refine x_if_ne (tgt := 153) C gw dX8_read_146 (by decide) (fun c146 => ?_) (fun c146 => ?_)
                · refine lv_iload_n C.1 C.2.1 dX8_read_153 rfl (lv_at hl 5 rfl) ?_
                  refine lv_iconst (v := II 1) C.1 C.2.1 dX8_read_154 rfl ?_
                  refine x_icmp_ne (tgt := 163) C gw ⟨by decide, by decide⟩ dX8_read_155 (by decide) (fun c155 => ?_) (fun c155 => ?_)
                  · refine lv_iload C.1 C.2.1 dX8_read_163 (lv_at hl 0 rfl) ?_
                    exact x_ireturn C hr hlk hw hS hr122 rfl (by refine ⟨(fun m hm => (((hx122.st (by decide)).st (by decide)) m (by omega)).trans (hmr35 m hm)), Or.inr ⟨_, tx_3 eq56 eq89 eq122 (by omega), hf142.1, hf142.2.1⟩⟩) dX8_read_165
                  · refine lv_iload C.1 C.2.1 dX8_read_158 (lv_at hl 1 rfl) ?_
                    refine lv_goto (tgt := 165) C.1 C.2.1 dX8_read_160 (by decide) ?_
                    exact x_ireturn C hr hlk hw hS hr89 rfl (by refine ⟨(fun m hm => (((hx122.st (by decide)).st (by decide)) m (by omega)).trans (hmr35 m hm)), Or.inr ⟨_, tx_3 eq56 eq89 eq122 (by omega), hf142.1, hf142.2.1⟩⟩) dX8_read_165
                · refine lv_iload_n C.1 C.2.1 dX8_read_149 rfl (lv_at hl 2 rfl) ?_
                  refine lv_goto (tgt := 165) C.1 C.2.1 dX8_read_150 (by decide) ?_
                  exact x_ireturn C hr hlk hw hS hr56 rfl (by refine ⟨(fun m hm => (((hx122.st (by decide)).st (by decide)) m (by omega)).trans (hmr35 m hm)), Or.inr ⟨_, tx_3 eq56 eq89 eq122 (by omega), hf142.1, hf142.2.1⟩⟩) dX8_read_165
            · have g_M122 := hw.rg
              obtain ⟨qz122, eq122, hf122⟩ := h122b
              have hx122 := (hx89).tr h122f
              refine lv_istore (lv' := [(5, .int (II r122)), (4, .int (II r89)), (3, .int (II r56)), (0, .ref (gA g 70)), (1, .int (II (t : Int))), (2, .int (II w))]) C.1 C.2.1 dX8_read_125 hl (by decide) rfl (fun ls hl => ?_)
              refine lv_aload_n C.1 C.2.1 dX8_read_127 rfl (lv_at hl 3 rfl) ?_
              refine g8 C hw 70 (by omega) rfl 25 (by decide) mw_849 (svi (x := 1) hf122.1) dX8_read_128 ?_
              refine x_if_ne (tgt := 145) C ⟨by decide, by decide⟩ dX8_read_131 (by decide) (fun _ => ?_) (fun h => absurd h (by decide))
              refine lv_iload_n C.1 C.2.1 dX8_read_145 rfl (lv_at hl 5 rfl) ?_
              refine x_if_ne (tgt := 153) C gw dX8_read_146 (by decide) (fun c146 => ?_) (fun c146 => ?_)
              · refine lv_iload_n C.1 C.2.1 dX8_read_153 rfl (lv_at hl 5 rfl) ?_
                refine lv_iconst (v := II 1) C.1 C.2.1 dX8_read_154 rfl ?_
                refine x_icmp_ne (tgt := 163) C gw ⟨by decide, by decide⟩ dX8_read_155 (by decide) (fun c155 => ?_) (fun c155 => ?_)
                · refine lv_iload C.1 C.2.1 dX8_read_163 (lv_at hl 0 rfl) ?_
                  exact x_ireturn C hr hlk hw hS hr122 rfl (by refine ⟨(fun m hm => (hx122 m (by omega)).trans (hmr35 m hm)), Or.inr ⟨_, tx_2 eq56 eq89 eq122, hf122.1, hf122.2.1⟩⟩) dX8_read_165
                · refine lv_iload C.1 C.2.1 dX8_read_158 (lv_at hl 1 rfl) ?_
                  refine lv_goto (tgt := 165) C.1 C.2.1 dX8_read_160 (by decide) ?_
                  exact x_ireturn C hr hlk hw hS hr89 rfl (by refine ⟨(fun m hm => (hx122 m (by omega)).trans (hmr35 m hm)), Or.inr ⟨_, tx_2 eq56 eq89 eq122, hf122.1, hf122.2.1⟩⟩) dX8_read_165
              · refine lv_iload_n C.1 C.2.1 dX8_read_149 rfl (lv_at hl 2 rfl) ?_
                refine lv_goto (tgt := 165) C.1 C.2.1 dX8_read_150 (by decide) ?_
                exact x_ireturn C hr hlk hw hS hr56 rfl (by refine ⟨(fun m hm => (hx122 m (by omega)).trans (hmr35 m hm)), Or.inr ⟨_, tx_2 eq56 eq89 eq122, hf122.1, hf122.2.1⟩⟩) dX8_read_165
        · have g_M89 := hw.rg
          obtain ⟨qz89, eq89, hf89⟩ := h89b
          have hx89 := (hx56).tr h89f
          refine lv_istore (lv' := [(4, .int (II r89)), (3, .int (II r56)), (0, .ref (gA g 70)), (1, .int (II (t : Int))), (2, .int (II w))]) C.1 C.2.1 dX8_read_92 hl (by decide) rfl (fun ls hl => ?_)
          refine lv_aload_n C.1 C.2.1 dX8_read_94 rfl (lv_at hl 2 rfl) ?_
          refine g8 C hw 70 (by omega) rfl 25 (by decide) mw_849 (svi (x := 1) hf89.1) dX8_read_95 ?_
          refine x_if_eq (tgt := 105) C ⟨by decide, by decide⟩ dX8_read_98 (by decide) (fun h => absurd h (by decide)) (fun _ => ?_)
          refine lv_iconst (v := II 0) C.1 C.2.1 dX8_read_101 rfl ?_
          refine lv_goto (tgt := 125) C.1 C.2.1 dX8_read_102 (by decide) ?_
          refine lv_istore (lv' := [(5, .int (II 0)), (4, .int (II r89)), (3, .int (II r56)), (0, .ref (gA g 70)), (1, .int (II (t : Int))), (2, .int (II w))]) C.1 C.2.1 dX8_read_125 hl (by decide) rfl (fun ls hl => ?_)
          refine lv_aload_n C.1 C.2.1 dX8_read_127 rfl (lv_at hl 3 rfl) ?_
          refine g8 C hw 70 (by omega) rfl 25 (by decide) mw_849 (svi (x := 1) hf89.1) dX8_read_128 ?_
          refine x_if_ne (tgt := 145) C ⟨by decide, by decide⟩ dX8_read_131 (by decide) (fun _ => ?_) (fun h => absurd h (by decide))
          refine lv_iload_n C.1 C.2.1 dX8_read_145 rfl (lv_at hl 5 rfl) ?_
          refine x_if_ne (tgt := 153) C gw dX8_read_146 (by decide) (fun c146 => ?_) (fun c146 => ?_)
          · refine lv_iload_n C.1 C.2.1 dX8_read_153 rfl (lv_at hl 5 rfl) ?_
            refine lv_iconst (v := II 1) C.1 C.2.1 dX8_read_154 rfl ?_
            refine x_icmp_ne (tgt := 163) C gw ⟨by decide, by decide⟩ dX8_read_155 (by decide) (fun c155 => ?_) (fun c155 => ?_)
            · refine lv_iload C.1 C.2.1 dX8_read_163 (lv_at hl 0 rfl) ?_
              exact x_ireturn C hr hlk hw hS ⟨by decide, by decide⟩ rfl (by refine ⟨(fun m hm => (hx89 m (by omega)).trans (hmr35 m hm)), Or.inr ⟨_, tx_1 eq56 eq89, hf89.1, hf89.2.1⟩⟩) dX8_read_165
            · refine lv_iload C.1 C.2.1 dX8_read_158 (lv_at hl 1 rfl) ?_
              refine lv_goto (tgt := 165) C.1 C.2.1 dX8_read_160 (by decide) ?_
              exact x_ireturn C hr hlk hw hS hr89 rfl (by refine ⟨(fun m hm => (hx89 m (by omega)).trans (hmr35 m hm)), Or.inr ⟨_, tx_1 eq56 eq89, hf89.1, hf89.2.1⟩⟩) dX8_read_165
          · refine lv_iload_n C.1 C.2.1 dX8_read_149 rfl (lv_at hl 2 rfl) ?_
            refine lv_goto (tgt := 165) C.1 C.2.1 dX8_read_150 (by decide) ?_
            exact x_ireturn C hr hlk hw hS hr56 rfl (by refine ⟨(fun m hm => (hx89 m (by omega)).trans (hmr35 m hm)), Or.inr ⟨_, tx_1 eq56 eq89, hf89.1, hf89.2.1⟩⟩) dX8_read_165
    · have g_M56 := hw.rg
      obtain ⟨qz56, eq56, hf56⟩ := h56b
      have hx56 := (MX.rfl').tr h56f
      refine lv_istore_n (lv' := [(3, .int (II r56)), (0, .ref (gA g 70)), (1, .int (II (t : Int))), (2, .int (II w))]) C.1 C.2.1 dX8_read_59 rfl hl (by decide) rfl (fun ls hl => ?_)
      refine lv_aload_n C.1 C.2.1 dX8_read_60 rfl (lv_at hl 1 rfl) ?_
      refine g8 C hw 70 (by omega) rfl 25 (by decide) mw_849 (svi (x := 1) hf56.1) dX8_read_61 ?_
      refine x_if_eq (tgt := 71) C ⟨by decide, by decide⟩ dX8_read_64 (by decide) (fun h => absurd h (by decide)) (fun _ => ?_)
      refine lv_iconst (v := II 0) C.1 C.2.1 dX8_read_67 rfl ?_
      refine lv_goto (tgt := 92) C.1 C.2.1 dX8_read_68 (by decide) ?_
      refine lv_istore (lv' := [(4, .int (II 0)), (3, .int (II r56)), (0, .ref (gA g 70)), (1, .int (II (t : Int))), (2, .int (II w))]) C.1 C.2.1 dX8_read_92 hl (by decide) rfl (fun ls hl => ?_)
      refine lv_aload_n C.1 C.2.1 dX8_read_94 rfl (lv_at hl 2 rfl) ?_
      refine g8 C hw 70 (by omega) rfl 25 (by decide) mw_849 (svi (x := 1) hf56.1) dX8_read_95 ?_
      refine x_if_eq (tgt := 105) C ⟨by decide, by decide⟩ dX8_read_98 (by decide) (fun h => absurd h (by decide)) (fun _ => ?_)
      refine lv_iconst (v := II 0) C.1 C.2.1 dX8_read_101 rfl ?_
      refine lv_goto (tgt := 125) C.1 C.2.1 dX8_read_102 (by decide) ?_
      refine lv_istore (lv' := [(5, .int (II 0)), (4, .int (II 0)), (3, .int (II r56)), (0, .ref (gA g 70)), (1, .int (II (t : Int))), (2, .int (II w))]) C.1 C.2.1 dX8_read_125 hl (by decide) rfl (fun ls hl => ?_)
      refine lv_aload_n C.1 C.2.1 dX8_read_127 rfl (lv_at hl 3 rfl) ?_
      refine g8 C hw 70 (by omega) rfl 25 (by decide) mw_849 (svi (x := 1) hf56.1) dX8_read_128 ?_
      refine x_if_ne (tgt := 145) C ⟨by decide, by decide⟩ dX8_read_131 (by decide) (fun _ => ?_) (fun h => absurd h (by decide))
      refine lv_iload_n C.1 C.2.1 dX8_read_145 rfl (lv_at hl 5 rfl) ?_
      refine x_if_ne (tgt := 153) C gw dX8_read_146 (by decide) (fun c146 => ?_) (fun c146 => ?_)
      · refine lv_iload_n C.1 C.2.1 dX8_read_153 rfl (lv_at hl 5 rfl) ?_
        refine lv_iconst (v := II 1) C.1 C.2.1 dX8_read_154 rfl ?_
        refine x_icmp_ne (tgt := 163) C gw ⟨by decide, by decide⟩ dX8_read_155 (by decide) (fun c155 => ?_) (fun c155 => ?_)
        · refine lv_iload C.1 C.2.1 dX8_read_163 (lv_at hl 0 rfl) ?_
          exact x_ireturn C hr hlk hw hS ⟨by decide, by decide⟩ rfl (by refine ⟨(fun m hm => (hx56 m (by omega)).trans (hmr35 m hm)), Or.inr ⟨_, tx_0 eq56, hf56.1, hf56.2.1⟩⟩) dX8_read_165
        · refine lv_iload C.1 C.2.1 dX8_read_158 (lv_at hl 1 rfl) ?_
          refine lv_goto (tgt := 165) C.1 C.2.1 dX8_read_160 (by decide) ?_
          exact x_ireturn C hr hlk hw hS ⟨by decide, by decide⟩ rfl (by refine ⟨(fun m hm => (hx56 m (by omega)).trans (hmr35 m hm)), Or.inr ⟨_, tx_0 eq56, hf56.1, hf56.2.1⟩⟩) dX8_read_165
      · refine lv_iload_n C.1 C.2.1 dX8_read_149 rfl (lv_at hl 2 rfl) ?_
        refine lv_goto (tgt := 165) C.1 C.2.1 dX8_read_150 (by decide) ?_
        exact x_ireturn C hr hlk hw hS hr56 rfl (by refine ⟨(fun m hm => (hx56 m (by omega)).trans (hmr35 m hm)), Or.inr ⟨_, tx_0 eq56, hf56.1, hf56.2.1⟩⟩) dX8_read_165
