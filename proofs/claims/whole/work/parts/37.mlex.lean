theorem LL_add (a b : Int) : LL a + LL b = LL (a + b) := (Int64.ofInt_add a b).symm
theorem LL_sub (a b : Int) : LL a - LL b = LL (a - b) := (Int64.ofInt_sub a b).symm
theorem LL_mul (a b : Int) : LL a * LL b = LL (a * b) := (Int64.ofInt_mul a b).symm
/-- the text that the model reads: it begins at place f of all texts -/
def TM (M : Nat → Int) (b : Nat → Int) (n f : Nat) : Prop := M 70019 = (n : Int) ∧ M 70018 = (f : Int) ∧ n ≤ 160 ∧ f + 160 ≤ 960 ∧ ∀ i, i < n → M (71000 + (f + i)) = b i ∧ 0 ≤ b i ∧ b i ≤ 255
theorem TM.fr {M M' : Nat → Int} {b : Nat → Int} {n f : Nat} (h : TM M b n f) (hf : ∀ m, m = 70018 ∨ m = 70019 ∨ (71000 ≤ m ∧ m < 72000) → M' m = M m) : TM M' b n f :=
  ⟨(hf _ (by omega)).trans h.1, (hf _ (by omega)).trans h.2.1, h.2.2.1, h.2.2.2.1, fun i hi => by have h3 := h.2.2.1; have h4 := h.2.2.2.1; exact ⟨(hf _ (by omega)).trans (h.2.2.2.2 i hi).1, (h.2.2.2.2 i hi).2⟩⟩
def bA (b : Nat → Int) (n i : Nat) : Int := if i < n then b i else -1
theorem bA_in {M b : Nat → Int} {n f i : Nat} (h : TM M b n f) : -1 ≤ bA b n i ∧ bA b n i ≤ 255 ∧ (0 ≤ bA b n i ↔ i < n) ∧ (i < n → bA b n i = b i) := by
  unfold bA
  by_cases hi : i < n
  · rw [if_pos hi]; have := (h.2.2.2.2 i hi).2; exact ⟨by omega, by omega, ⟨fun _ => hi, fun _ => by omega⟩, fun _ => rfl⟩
  · rw [if_neg hi]; exact ⟨by omega, by omega, ⟨fun q => absurd q (by decide), fun q => absurd q hi⟩, fun q => absurd q hi⟩
/-- the model's sort of token -/
def mT (b : Nat → Int) (n i : Nat) : Int := if n ≤ tS b n i then 0 else if ltB (b (tS b n i)) then 1 else if dgB (b (tS b n i)) then (if 4 < tE b n i - tS b n i then 4 else 2) else if sgT (b (tS b n i)) = 8 then 4 else 3
def NM (M M' : Nat → Int) (b : Nat → Int) (n i : Nat) : Prop := (M' 70021 = mT b n i ∧ M' 70022 = ((tS b n i : Nat) : Int) ∧ (mT b n i ≠ 4 → M' 70020 = ((tE b n i : Nat) : Int)) ∧ (mT b n i = 2 → M' 70023 = tV b n i) ∧ (mT b n i = 3 → M' 70023 = b (tS b n i))) ∧ ∀ m, ¬ (70020 ≤ m ∧ m ≤ 70023) → M' m = M m
set_option maxHeartbeats 4000000 in
set_option maxRecDepth 100000 in
theorem c_X8_byteAt (l : Launch) (g : Gm) (M : Nat → Int) (hF : LvF g) (b : Nat → Int) (n : Nat) (f : Nat) (hb : TM M b n f) (i : Nat) (hi : i ≤ 400) : CI l ({ cls := "RatedBySighsModel", name := "byteAt", desc := "(I)I" } : Jvm.MethodName) cX8_byteAt 2 .int (rmm 0 0) g M [.ref (gA g 70), .int (II (i : Int))] (fun r M' => M' = M ∧ r = bA b n i) := by
  refine c_start (by decide) (Nat.le_of_ble_eq_true rfl) (fun p e s m below meth c ls C hr hlk hml hw hS hl => ?_)
  have hl : lv_has ls 2 [(0, .ref (gA g 70)), (1, .int (II (i : Int)))] := hl
  have g_M := hw.rg
  have hN : gN g = 84 := hF.1
  have hn1 := hb.2.2.1
  have hn2 := hb.2.2.2.1
  refine lv_iload_n C.1 C.2.1 dX8_byteAt_0 rfl (lv_at hl 1 rfl) ?_
  refine lv_aload_n C.1 C.2.1 dX8_byteAt_1 rfl (lv_at hl 0 rfl) ?_
  refine g8 C hw 70 (by omega) rfl 19 (by decide) mw_843 (svi (x := (n : Int)) hb.1) dX8_byteAt_2 ?_
  refine x_icmp_ge (tgt := 22) C ⟨by omega, by omega⟩ ⟨by have := g_M 70019; have := hb.1; omega, by have := g_M 70019; have := hb.1; omega⟩ dX8_byteAt_5 (by decide) (fun c5 => ?_) (fun c5 => ?_)
  · refine lv_iconst (v := II (-1)) C.1 C.2.1 dX8_byteAt_22 rfl ?_
    exact x_ireturn C hr hlk hw hS ⟨by decide, by decide⟩ rfl ⟨rfl, by unfold bA; first | (rw [if_pos (by omega)]; done) | (rw [if_neg (by omega)]; done)⟩ dX8_byteAt_23
  · have hbi := (hb.2.2.2.2 i (by omega)).2
    refine lv_aload_n C.1 C.2.1 dX8_byteAt_8 rfl (lv_at hl 0 rfl) ?_
    refine g8 C hw 70 (by omega) rfl 1 (by decide) mw_825 (svr (hF.2 _)) dX8_byteAt_9 ?_
    refine lv_aload_n C.1 C.2.1 dX8_byteAt_12 rfl (lv_at hl 0 rfl) ?_
    refine g8 C hw 70 (by omega) rfl 18 (by decide) mw_842 (svi (x := (f : Int)) hb.2.1) dX8_byteAt_13 ?_
    refine lv_iload_n C.1 C.2.1 dX8_byteAt_16 rfl (lv_at hl 1 rfl) ?_
    refine x_iadd C dX8_byteAt_17 ?_
    refine x_iaload (L := 960) C hw 71 (by omega) rfl rfl (by omega) (by omega) (by decide) (x := b i) ((congrArg (fun z => M (1000 * 71 + z)) (by omega)).trans ((hb.2.2.2.2 i (by omega)).1)) dX8_byteAt_18 ?_
    refine lv_goto (tgt := 23) C.1 C.2.1 dX8_byteAt_19 (by decide) ?_
    exact x_ireturn C hr hlk hw hS ⟨by have := g_M (71000 + (f + i)); have := ((hb.2.2.2.2 i (by omega)).1); omega, by have := g_M (71000 + (f + i)); have := ((hb.2.2.2.2 i (by omega)).1); omega⟩ rfl ⟨rfl, by unfold bA; first | (rw [if_pos (by omega)]; done) | (rw [if_neg (by omega)]; done)⟩ dX8_byteAt_23

set_option maxHeartbeats 4000000 in
set_option maxRecDepth 100000 in
theorem c_X8_next (l : Launch) (g : Gm) (M : Nat → Int) (hF : LvF g) (b : Nat → Int) (n : Nat) (f : Nat) (hb : TM M b n f) (i : Nat) (hi : i ≤ n) (ha : M 70020 = (i : Int)) : CV l ({ cls := "RatedBySighsModel", name := "next", desc := "()V" } : Jvm.MethodName) cX8_next 3 (rmm 1 25) g M [.ref (gA g 70)] (fun M' => (NM M M' b n i)) := by
  refine c_start (by decide) (Nat.le_of_ble_eq_true rfl) (fun p e s m below meth c ls C hr hlk hml hw hS hl => ?_)
  have hl : lv_has ls 3 [(0, .ref (gA g 70))] := hl
  generalize ([.ref (gA g 70)] : List Value).toArray = args at C ⊢
  generalize hQQ : MQ below (postV g (fun M' => (NM M M' b n i))) args s 0 0 (ar g) = QQ
  have g_M := hw.rg
  have hN : gN g = 84 := hF.1
  have hn1 := hb.2.2.1
  have hn2 := hb.2.2.2.1
  have L0 : ∀ (f1 : Nat) (k : Nat) (M2 : Nat → Int), (n - (i + k)) < f1 → (i + k ≤ n) → (M2 70020 = ((i + k : Nat) : Int)) → (sk blB b n (i + k) = sk blB b n i) → (∀ m, m ≠ 70020 → M2 m = M m) → ∀ (H : Heap) (locs : List Loc) (ls : Array Slot), Wo g M2 H → va_S (ar g) s.heap H locs → lv_has ls 3 [(0, .ref (gA g 70))] → W p l e (rmm 1 25) s m args below meth c H locs 0 0 QQ (F0 m 0 ls []) := by
    intro f1
    induction f1 with
    | zero => intro k M2 hmu; exact absurd hmu (Nat.not_lt_zero _)
    | succ f1 ih =>
      intro k M2 hmu h1 hat hsk hfr H locs ls hw hS hl
      have ih0 := ih
      have g_M2 := hw.rg
      have hbx := bA_in (i := i + k) hb
      refine lv_aload_n C.1 C.2.1 dX8_next_0 rfl (lv_at hl 0 rfl) ?_
      refine lv_aload_n C.1 C.2.1 dX8_next_1 rfl (lv_at hl 0 rfl) ?_
      refine g8 C hw 70 (by omega) rfl 20 (by decide) mw_844 (svi (x := ((i + k : Nat) : Int)) hat) dX8_next_2 ?_
      refine x_ci (x_runV (n := 1) C hw hS hml hl.1 70 8 (by omega) rfl (by decide) rfl (c_X8_byteAt l g M2 hF b n f (hb.fr (fun m hm => (hfr m (by omega)))) (i + k : Nat) (by omega)) mw_1007 mw_1009 mw_61 mw_130 mw_1010 rfl rfl (by decide +kernel) ⟨Nat.le_of_ble_eq_true rfl, Nat.le_of_ble_eq_true rfl⟩ rfl rfl (Nat.le_of_ble_eq_true rfl) dX8_next_5 ⟨Nat.zero_le _, Nat.zero_le _⟩) hS (fun r5 M5 H locs hr5 hp hw hS => ?_)
      obtain ⟨em5, er5⟩ := hp
      have hw : Wo g M2 H := em5 ▸ hw
      rw [er5] at hr5 ⊢
      refine lv_bipush (v := II 32) C.1 C.2.1 dX8_next_8 (by decide) ?_
      refine x_icmp_eq (tgt := 26) C hr5 ⟨by decide, by decide⟩ dX8_next_10 (by decide) (fun c10 => ?_) (fun c10 => ?_)
      · refine lv_aload_n C.1 C.2.1 dX8_next_26 rfl (lv_at hl 0 rfl) ?_
        refine lv_dup C.1 C.2.1 dX8_next_27 rfl ?_
        refine g8 C hw 70 (by omega) rfl 20 (by decide) mw_844 (svi (x := ((i + k : Nat) : Int)) hat) dX8_next_28 ?_
        refine lv_iconst (v := II 1) C.1 C.2.1 dX8_next_31 rfl ?_
        refine x_iadd C dX8_next_32 ?_
        refine p8 C hw hS 70 (by omega) rfl 20 (by decide) mw_844 rfl (x := ((i + k : Nat) : Int) + 1) ⟨by have := g_M2 70020; have := hat; omega, by have := g_M2 70020; have := hat; omega⟩ (svi st_s) (tyX8_ok 20 (by decide)) rfl rfl dX8_next_33 (fun H locs hw hS => ?_)
        have hw : Wo g (stM M2 70020 (((i + k : Nat) : Int) + 1)) H := hw
        refine lv_goto (tgt := 0) C.1 C.2.1 dX8_next_36 (by decide) ?_
        exact ih0  (k + 1) (stM M2 70020 (((i + k : Nat) : Int) + 1)) (by omega) (by omega) (by rw [st_s]; omega) (by rw [← hsk, show i + (k + 1) = i + k + 1 by omega]; exact (sk_s (by omega) (decide_eq_true (p := b (i + k) = 32 ∨ b (i + k) = 10) (by omega))).symm) (fun m q1 => by rw [st_n q1]; exact hfr m q1) _ _ _ hw hS (lv_sub hl [0] rfl)
      · refine lv_aload_n C.1 C.2.1 dX8_next_13 rfl (lv_at hl 0 rfl) ?_
        refine lv_aload_n C.1 C.2.1 dX8_next_14 rfl (lv_at hl 0 rfl) ?_
        refine g8 C hw 70 (by omega) rfl 20 (by decide) mw_844 (svi (x := ((i + k : Nat) : Int)) hat) dX8_next_15 ?_
        refine x_ci (x_runV (n := 1) C hw hS hml hl.1 70 8 (by omega) rfl (by decide) rfl (c_X8_byteAt l g M2 hF b n f (hb.fr (fun m hm => (hfr m (by omega)))) (i + k : Nat) (by omega)) mw_1007 mw_1009 mw_61 mw_130 mw_1010 rfl rfl (by decide +kernel) ⟨Nat.le_of_ble_eq_true rfl, Nat.le_of_ble_eq_true rfl⟩ rfl rfl (Nat.le_of_ble_eq_true rfl) dX8_next_18 ⟨Nat.zero_le _, Nat.zero_le _⟩) hS (fun r18 M18 H locs hr18 hp hw hS => ?_)
        obtain ⟨em18, er18⟩ := hp
        have hw : Wo g M2 H := em18 ▸ hw
        rw [er18] at hr18 ⊢
        refine lv_bipush (v := II 10) C.1 C.2.1 dX8_next_21 (by decide) ?_
        refine x_icmp_ne (tgt := 39) C hr18 ⟨by decide, by decide⟩ dX8_next_23 (by decide) (fun c23 => ?_) (fun c23 => ?_)
        · have hend : tS b n i = i + k := by
            show sk blB b n i = i + k
            rw [← hsk]
            exact sk_e (fun q => by have h5 := q.1; have h7 := hbx.2.2.2 h5; have h6 := q.2; simp only [blB, decide_eq_true_eq] at h6; omega)
          refine lv_aload_n C.1 C.2.1 dX8_next_39 rfl (lv_at hl 0 rfl) ?_
          refine lv_aload_n C.1 C.2.1 dX8_next_40 rfl (lv_at hl 0 rfl) ?_
          refine g8 C hw 70 (by omega) rfl 20 (by decide) mw_844 (svi (x := ((i + k : Nat) : Int)) hat) dX8_next_41 ?_
          refine p8 C hw hS 70 (by omega) rfl 22 (by decide) mw_846 rfl (x := ((i + k : Nat) : Int)) ⟨by have := g_M2 70020; have := hat; omega, by have := g_M2 70020; have := hat; omega⟩ (svi st_s) (tyX8_ok 22 (by decide)) rfl rfl dX8_next_44 (fun H locs hw hS => ?_)
          have hw : Wo g (stM M2 70022 ((i + k : Nat) : Int)) H := hw
          refine lv_aload_n C.1 C.2.1 dX8_next_47 rfl (lv_at hl 0 rfl) ?_
          refine lv_aload_n C.1 C.2.1 dX8_next_48 rfl (lv_at hl 0 rfl) ?_
          refine g8 C hw 70 (by omega) rfl 20 (by decide) mw_844 (svi (x := ((i + k : Nat) : Int)) ((st_n (by decide)).trans hat)) dX8_next_49 ?_
          refine x_ci (x_runV (n := 1) C hw hS hml hl.1 70 8 (by omega) rfl (by decide) rfl (c_X8_byteAt l g (stM M2 70022 ((i + k : Nat) : Int)) hF b n f (hb.fr (fun m hm => ((st_n (by omega)).trans (hfr m (by omega))))) (i + k : Nat) (by omega)) mw_1007 mw_1009 mw_61 mw_130 mw_1010 rfl rfl (by decide +kernel) ⟨Nat.le_of_ble_eq_true rfl, Nat.le_of_ble_eq_true rfl⟩ rfl rfl (Nat.le_of_ble_eq_true rfl) dX8_next_52 ⟨Nat.zero_le _, Nat.zero_le _⟩) hS (fun r52 M52 H locs hr52 hp hw hS => ?_)
          obtain ⟨em52, er52⟩ := hp
          have hw : Wo g (stM M2 70022 ((i + k : Nat) : Int)) H := em52 ▸ hw
          rw [er52] at hr52 ⊢
          refine lv_istore_n (lv' := [(1, .int (II (bA b n (i + k : Nat)))), (0, .ref (gA g 70))]) C.1 C.2.1 dX8_next_55 rfl hl (by decide) rfl (fun ls hl => ?_)
          refine lv_aload_n C.1 C.2.1 dX8_next_56 rfl (lv_at hl 1 rfl) ?_
          refine lv_iconst (v := II 4) C.1 C.2.1 dX8_next_57 rfl ?_
          refine p8 C hw hS 70 (by omega) rfl 21 (by decide) mw_845 rfl (x := 4) ⟨by decide, by decide⟩ (svi st_s) (tyX8_ok 21 (by decide)) rfl rfl dX8_next_58 (fun H locs hw hS => ?_)
          have hw : Wo g (stM (stM M2 70022 ((i + k : Nat) : Int)) 70021 4) H := hw
          refine lv_iload_n C.1 C.2.1 dX8_next_61 rfl (lv_at hl 0 rfl) ?_
          refine x_if_ge (tgt := 81) C hr52 dX8_next_62 (by decide) (fun c62 => ?_) (fun c62 => ?_)
          · refine lv_iload_n C.1 C.2.1 dX8_next_81 rfl (lv_at hl 0 rfl) ?_
            refine x_i2l C hr52 dX8_next_82 ?_
            refine lv_ldc2 C.1 C.2.1 C.2.2.1 (C.2.2.2.1 _ mw_1011) dX8_next_83 ?_
            rw [show (97 : Int64) = LL 97 from by decide]
            refine lv_ldc2 C.1 C.2.1 C.2.2.1 (C.2.2.2.1 _ mw_1012) dX8_next_86 ?_
            rw [show (122 : Int64) = LL 122 from by decide]
            refine x_ci (x_runS (n := 3) C hw hS hml hl.1 (c_X8_in l g (stM (stM M2 70022 ((i + k : Nat) : Int)) 70021 4) (bA b n (i + k : Nat)) hr52 97 ⟨by decide, by decide⟩ 122 ⟨by decide, by decide⟩) mw_957 mw_958 mw_130 mw_959 rfl rfl (by decide +kernel) ⟨Nat.le_of_ble_eq_true rfl, Nat.le_of_ble_eq_true rfl⟩ rfl rfl (Nat.le_of_ble_eq_true rfl) dX8_next_89 ⟨Nat.zero_le _, Nat.zero_le _⟩) hS (fun r89 M89 H locs hr89 hp hw hS => ?_)
            rcases hp with ⟨em89, (⟨er89, h89b⟩ | ⟨er89, h89b⟩)⟩
            · have hw : Wo g (stM (stM M2 70022 ((i + k : Nat) : Int)) 70021 4) H := em89 ▸ hw
              rw [er89]
              refine x_if_eq (tgt := 134) C ⟨by decide, by decide⟩ dX8_next_92 (by decide) (fun h => absurd h (by decide)) (fun _ => ?_)
              refine lv_aload_n C.1 C.2.1 dX8_next_95 rfl (lv_at hl 1 rfl) ?_
              refine lv_iconst (v := II 1) C.1 C.2.1 dX8_next_96 rfl ?_
              refine p8 C hw hS 70 (by omega) rfl 21 (by decide) mw_845 rfl (x := 1) ⟨by decide, by decide⟩ (svi st_s) (tyX8_ok 21 (by decide)) rfl rfl dX8_next_97 (fun H locs hw hS => ?_)
              have hw : Wo g (stM (stM (stM M2 70022 ((i + k : Nat) : Int)) 70021 4) 70021 1) H := hw
              have L100 : ∀ (f2 : Nat) (k2 : Nat) (M3 : Nat → Int), (n - (i + k + k2)) < f2 → (i + k + k2 ≤ n) → (M3 70020 = ((i + k + k2 : Nat) : Int)) → (sk ltB b n (i + k + k2) = sk ltB b n (i + k)) → (M3 70022 = ((i + k : Nat) : Int)) → (∀ m, ¬ (70020 ≤ m ∧ m ≤ 70023) → M3 m = M m) → (M3 70021 = 1) → ∀ (H : Heap) (locs : List Loc) (ls : Array Slot), Wo g M3 H → va_S (ar g) s.heap H locs → lv_has ls 3 [(0, .ref (gA g 70)), (1, .int (II (bA b n (i + k : Nat))))] → W p l e (rmm 1 25) s m args below meth c H locs 0 0 QQ (F0 m 100 ls []) := by
                intro f2
                induction f2 with
                | zero => intro k2 M3 hmu; exact absurd hmu (Nat.not_lt_zero _)
                | succ f2 ih =>
                  intro k2 M3 hmu h1b hat2 hsk2 hta3 hfr3 htk3 H locs ls hw hS hl
                  have ih100 := ih
                  have g_M3 := hw.rg
                  have hbx2 := bA_in (i := i + k + k2) hb
                  refine lv_aload_n C.1 C.2.1 dX8_next_100 rfl (lv_at hl 0 rfl) ?_
                  refine lv_aload_n C.1 C.2.1 dX8_next_101 rfl (lv_at hl 0 rfl) ?_
                  refine g8 C hw 70 (by omega) rfl 20 (by decide) mw_844 (svi (x := ((i + k + k2 : Nat) : Int)) hat2) dX8_next_102 ?_
                  refine x_ci (x_runV (n := 1) C hw hS hml hl.1 70 8 (by omega) rfl (by decide) rfl (c_X8_byteAt l g M3 hF b n f (hb.fr (fun m hm => (hfr3 m (by omega)))) (i + k + k2 : Nat) (by omega)) mw_1007 mw_1009 mw_61 mw_130 mw_1010 rfl rfl (by decide +kernel) ⟨Nat.le_of_ble_eq_true rfl, Nat.le_of_ble_eq_true rfl⟩ rfl rfl (Nat.le_of_ble_eq_true rfl) dX8_next_105 ⟨Nat.zero_le _, Nat.zero_le _⟩) hS (fun r105 M105 H locs hr105 hp hw hS => ?_)
                  obtain ⟨em105, er105⟩ := hp
                  have hw : Wo g M3 H := em105 ▸ hw
                  rw [er105] at hr105 ⊢
                  refine x_i2l C hr105 dX8_next_108 ?_
                  refine lv_ldc2 C.1 C.2.1 C.2.2.1 (C.2.2.2.1 _ mw_1011) dX8_next_109 ?_
                  rw [show (97 : Int64) = LL 97 from by decide]
                  refine lv_ldc2 C.1 C.2.1 C.2.2.1 (C.2.2.2.1 _ mw_1012) dX8_next_112 ?_
                  rw [show (122 : Int64) = LL 122 from by decide]
                  refine x_ci (x_runS (n := 3) C hw hS hml hl.1 (c_X8_in l g M3 (bA b n (i + k + k2 : Nat)) hr105 97 ⟨by decide, by decide⟩ 122 ⟨by decide, by decide⟩) mw_957 mw_958 mw_130 mw_959 rfl rfl (by decide +kernel) ⟨Nat.le_of_ble_eq_true rfl, Nat.le_of_ble_eq_true rfl⟩ rfl rfl (Nat.le_of_ble_eq_true rfl) dX8_next_115 ⟨Nat.zero_le _, Nat.zero_le _⟩) hS (fun r115 M115 H locs hr115 hp hw hS => ?_)
                  rcases hp with ⟨em115, (⟨er115, h115b⟩ | ⟨er115, h115b⟩)⟩
                  · have hw : Wo g M3 H := em115 ▸ hw
                    rw [er115]
                    refine x_if_eq (tgt := 321) C ⟨by decide, by decide⟩ dX8_next_118 (by decide) (fun h => absurd h (by decide)) (fun _ => ?_)
                    refine lv_aload_n C.1 C.2.1 dX8_next_121 rfl (lv_at hl 0 rfl) ?_
                    refine lv_dup C.1 C.2.1 dX8_next_122 rfl ?_
                    refine g8 C hw 70 (by omega) rfl 20 (by decide) mw_844 (svi (x := ((i + k + k2 : Nat) : Int)) hat2) dX8_next_123 ?_
                    refine lv_iconst (v := II 1) C.1 C.2.1 dX8_next_126 rfl ?_
                    refine x_iadd C dX8_next_127 ?_
                    refine p8 C hw hS 70 (by omega) rfl 20 (by decide) mw_844 rfl (x := ((i + k + k2 : Nat) : Int) + 1) ⟨by have := g_M3 70020; have := hat2; omega, by have := g_M3 70020; have := hat2; omega⟩ (svi st_s) (tyX8_ok 20 (by decide)) rfl rfl dX8_next_128 (fun H locs hw hS => ?_)
                    have hw : Wo g (stM M3 70020 (((i + k + k2 : Nat) : Int) + 1)) H := hw
                    refine lv_goto (tgt := 100) C.1 C.2.1 dX8_next_131 (by decide) ?_
                    exact ih100  (k2 + 1) (stM M3 70020 (((i + k + k2 : Nat) : Int) + 1)) (by omega) (by omega) (by rw [st_s]; omega) (by rw [← hsk2, show i + k + (k2 + 1) = i + k + k2 + 1 by omega]; exact (sk_s (by omega) (decide_eq_true (p := 97 ≤ b (i + k + k2) ∧ b (i + k + k2) ≤ 122) (by omega))).symm) (by rw [st_n (by decide)]; exact hta3) (fun m hm => by rw [st_n (by omega)]; exact hfr3 m hm) (by rw [st_n (by decide)]; exact htk3) _ _ _ hw hS (lv_sub hl [0, 1] rfl)
                  · have hw : Wo g M3 H := em115 ▸ hw
                    rw [er115]
                    refine x_if_eq (tgt := 321) C ⟨by decide, by decide⟩ dX8_next_118 (by decide) (fun _ => ?_) (fun h => absurd h (by decide))
                    subst hQQ; exact x_return C hr hlk hw hS (by
    have hlt : ltB (b (i + k)) = true := decide_eq_true (by omega)
    have eE : tE b n i = sk ltB b n (i + k) := by unfold tE; rw [hend, if_neg (by omega), if_pos hlt]
    have eT : mT b n i = 1 := by unfold mT; rw [hend, if_neg (by omega), if_pos hlt]
    have hend2 : sk ltB b n (i + k) = i + k + k2 := by
      rw [← hsk2]
      exact sk_e (fun q => by have h5 := hbx2.2.2.2 q.1; have h6 := q.2; simp only [ltB, decide_eq_true_eq] at h6; omega)
    exact ⟨⟨by rw [eT]; exact htk3, by rw [hend]; exact hta3, fun _ => by rw [eE, hend2]; exact hat2, fun q => absurd (eT.symm.trans q) (by decide), fun q => absurd (eT.symm.trans q) (by decide)⟩, hfr3⟩) dX8_next_321
              exact L100 _ 0 (stM (stM (stM M2 70022 ((i + k : Nat) : Int)) 70021 4) 70021 1) (Nat.lt_succ_self _) (by omega) (by rw [st_n (by decide), st_n (by decide), st_n (by decide)]; exact hat) rfl (by rw [st_n (by decide), st_n (by decide), st_s]) (fun m hm => by rw [st_n (by omega), st_n (by omega), st_n (by omega)]; exact hfr m (by omega)) st_s _ _ _ hw hS (lv_sub hl [1, 0] rfl)
            · have hw : Wo g (stM (stM M2 70022 ((i + k : Nat) : Int)) 70021 4) H := em89 ▸ hw
              rw [er89]
              refine x_if_eq (tgt := 134) C ⟨by decide, by decide⟩ dX8_next_92 (by decide) (fun _ => ?_) (fun h => absurd h (by decide))
              refine lv_iload_n C.1 C.2.1 dX8_next_134 rfl (lv_at hl 0 rfl) ?_
              refine x_i2l C hr52 dX8_next_135 ?_
              refine lv_ldc2 C.1 C.2.1 C.2.2.1 (C.2.2.2.1 _ mw_1013) dX8_next_136 ?_
              rw [show (48 : Int64) = LL 48 from by decide]
              refine lv_ldc2 C.1 C.2.1 C.2.2.1 (C.2.2.2.1 _ mw_1014) dX8_next_139 ?_
              rw [show (57 : Int64) = LL 57 from by decide]
              refine x_ci (x_runS (n := 3) C hw hS hml hl.1 (c_X8_in l g (stM (stM M2 70022 ((i + k : Nat) : Int)) 70021 4) (bA b n (i + k : Nat)) hr52 48 ⟨by decide, by decide⟩ 57 ⟨by decide, by decide⟩) mw_957 mw_958 mw_130 mw_959 rfl rfl (by decide +kernel) ⟨Nat.le_of_ble_eq_true rfl, Nat.le_of_ble_eq_true rfl⟩ rfl rfl (Nat.le_of_ble_eq_true rfl) dX8_next_142 ⟨Nat.zero_le _, Nat.zero_le _⟩) hS (fun r142 M142 H locs hr142 hp hw hS => ?_)
              rcases hp with ⟨em142, (⟨er142, h142b⟩ | ⟨er142, h142b⟩)⟩
              · have hw : Wo g (stM (stM M2 70022 ((i + k : Nat) : Int)) 70021 4) H := em142 ▸ hw
                rw [er142]
                refine x_if_eq (tgt := 252) C ⟨by decide, by decide⟩ dX8_next_145 (by decide) (fun h => absurd h (by decide)) (fun _ => ?_)
                refine lv_aload_n C.1 C.2.1 dX8_next_148 rfl (lv_at hl 1 rfl) ?_
                refine lv_iconst (v := II 2) C.1 C.2.1 dX8_next_149 rfl ?_
                refine p8 C hw hS 70 (by omega) rfl 21 (by decide) mw_845 rfl (x := 2) ⟨by decide, by decide⟩ (svi st_s) (tyX8_ok 21 (by decide)) rfl rfl dX8_next_150 (fun H locs hw hS => ?_)
                have hw : Wo g (stM (stM (stM M2 70022 ((i + k : Nat) : Int)) 70021 4) 70021 2) H := hw
                refine lv_aload_n C.1 C.2.1 dX8_next_153 rfl (lv_at hl 1 rfl) ?_
                refine lv_lconst (v := LL 0) C.1 C.2.1 dX8_next_154 (by decide) ?_
                refine p8 C hw hS 70 (by omega) rfl 23 (by decide) mw_847 rfl (x := 0) ⟨by decide, by decide⟩ (svl st_s) (tyX8_ok 23 (by decide)) rfl rfl dX8_next_155 (fun H locs hw hS => ?_)
                have hw : Wo g (stM (stM (stM (stM M2 70022 ((i + k : Nat) : Int)) 70021 4) 70021 2) 70023 0) H := hw
                refine lv_iconst (v := II 0) C.1 C.2.1 dX8_next_158 rfl ?_
                refine lv_istore_n (lv' := [(2, .int (II 0)), (1, .int (II (bA b n (i + k : Nat)))), (0, .ref (gA g 70))]) C.1 C.2.1 dX8_next_159 rfl hl (by decide) rfl (fun ls hl => ?_)
                have L160 : ∀ (f3 : Nat) (k2 : Nat) (M3 : Nat → Int), (n - (i + k + k2)) < f3 → (i + k + k2 ≤ n) → (M3 70020 = ((i + k + k2 : Nat) : Int)) → (sk dgB b n (i + k + k2) = sk dgB b n (i + k)) → (M3 70022 = ((i + k : Nat) : Int)) → (∀ m, ¬ (70020 ≤ m ∧ m ≤ 70023) → M3 m = M m) → (∀ j, j < k2 → dgB (b (i + k + j)) = true) → (M3 70023 = vlD b (i + k) (if k2 < 4 then k2 else 4)) → ∀ (H : Heap) (locs : List Loc) (ls : Array Slot), Wo g M3 H → va_S (ar g) s.heap H locs → lv_has ls 3 [(0, .ref (gA g 70)), (1, .int (II (bA b n (i + k : Nat)))), (2, .int (II (k2 : Int)))] → W p l e (rmm 1 25) s m args below meth c H locs 0 0 QQ (F0 m 160 ls []) := by
                  intro f3
                  induction f3 with
                  | zero => intro k2 M3 hmu; exact absurd hmu (Nat.not_lt_zero _)
                  | succ f3 ih =>
                    intro k2 M3 hmu h1b hat2 hsk2 hta3 hfr3 hdg hvl H locs ls hw hS hl
                    have ih160 := ih
                    have g_M3 := hw.rg
                    have hbx2 := bA_in (i := i + k + k2) hb
                    refine lv_aload_n C.1 C.2.1 dX8_next_160 rfl (lv_at hl 0 rfl) ?_
                    refine lv_aload_n C.1 C.2.1 dX8_next_161 rfl (lv_at hl 0 rfl) ?_
                    refine g8 C hw 70 (by omega) rfl 20 (by decide) mw_844 (svi (x := ((i + k + k2 : Nat) : Int)) hat2) dX8_next_162 ?_
                    refine x_ci (x_runV (n := 1) C hw hS hml hl.1 70 8 (by omega) rfl (by decide) rfl (c_X8_byteAt l g M3 hF b n f (hb.fr (fun m hm => (hfr3 m (by omega)))) (i + k + k2 : Nat) (by omega)) mw_1007 mw_1009 mw_61 mw_130 mw_1010 rfl rfl (by decide +kernel) ⟨Nat.le_of_ble_eq_true rfl, Nat.le_of_ble_eq_true rfl⟩ rfl rfl (Nat.le_of_ble_eq_true rfl) dX8_next_165 ⟨Nat.zero_le _, Nat.zero_le _⟩) hS (fun r165 M165 H locs hr165 hp hw hS => ?_)
                    obtain ⟨em165, er165⟩ := hp
                    have hw : Wo g M3 H := em165 ▸ hw
                    rw [er165] at hr165 ⊢
                    refine x_i2l C hr165 dX8_next_168 ?_
                    refine lv_ldc2 C.1 C.2.1 C.2.2.1 (C.2.2.2.1 _ mw_1013) dX8_next_169 ?_
                    rw [show (48 : Int64) = LL 48 from by decide]
                    refine lv_ldc2 C.1 C.2.1 C.2.2.1 (C.2.2.2.1 _ mw_1014) dX8_next_172 ?_
                    rw [show (57 : Int64) = LL 57 from by decide]
                    refine x_ci (x_runS (n := 3) C hw hS hml hl.1 (c_X8_in l g M3 (bA b n (i + k + k2 : Nat)) hr165 48 ⟨by decide, by decide⟩ 57 ⟨by decide, by decide⟩) mw_957 mw_958 mw_130 mw_959 rfl rfl (by decide +kernel) ⟨Nat.le_of_ble_eq_true rfl, Nat.le_of_ble_eq_true rfl⟩ rfl rfl (Nat.le_of_ble_eq_true rfl) dX8_next_175 ⟨Nat.zero_le _, Nat.zero_le _⟩) hS (fun r175 M175 H locs hr175 hp hw hS => ?_)
                    rcases hp with ⟨em175, (⟨er175, h175b⟩ | ⟨er175, h175b⟩)⟩
                    · have hw : Wo g M3 H := em175 ▸ hw
                      rw [er175]
                      refine x_if_eq (tgt := 235) C ⟨by decide, by decide⟩ dX8_next_178 (by decide) (fun h => absurd h (by decide)) (fun _ => ?_)
                      have hdk : dgB (b (i + k + k2)) = true := decide_eq_true (by have := hbx2.2.2.2; omega)
                      have hv4 := vlD_4 (k := if k2 < 4 then k2 else 4) (fun j hj => hdg j (by split at hj <;> omega)) (by split <;> omega)
                      rw [← hvl] at hv4
                      refine lv_aload_n C.1 C.2.1 dX8_next_181 rfl (lv_at hl 0 rfl) ?_
                      refine lv_iload_n C.1 C.2.1 dX8_next_182 rfl (lv_at hl 2 rfl) ?_
                      refine lv_iconst (v := II 4) C.1 C.2.1 dX8_next_183 rfl ?_
                      refine x_icmp_ge (tgt := 212) C ⟨by omega, by omega⟩ ⟨by decide, by decide⟩ dX8_next_184 (by decide) (fun c184 => ?_) (fun c184 => ?_)
                      · refine lv_aload_n C.1 C.2.1 dX8_next_212 rfl (lv_at hl 0 rfl) ?_
                        refine g8 C hw 70 (by omega) rfl 23 (by decide) mw_847 (svl (x := M3 70023) rfl) dX8_next_213 ?_
                        refine p8 C hw hS 70 (by omega) rfl 23 (by decide) mw_847 rfl (x := M3 70023) (g_M3 _) (svl st_s) (tyX8_ok 23 (by decide)) rfl rfl dX8_next_216 (fun H locs hw hS => ?_)
                        have hw : Wo g (stM M3 70023 (M3 70023)) H := hw
                        refine lv_iinc (v := II ((k2 : Int) + 1)) (lv' := [(2, .int (II ((k2 : Int) + 1))), (0, .ref (gA g 70)), (1, .int (II (bA b n (i + k : Nat))))]) C.1 C.2.1 dX8_next_219 hl (k := 2) rfl (II_add _ _) (by decide) rfl (fun ls hl => ?_)
                        refine lv_aload_n C.1 C.2.1 dX8_next_222 rfl (lv_at hl 1 rfl) ?_
                        refine lv_dup C.1 C.2.1 dX8_next_223 rfl ?_
                        refine g8 C hw 70 (by omega) rfl 20 (by decide) mw_844 (svi (x := ((i + k + k2 : Nat) : Int)) ((st_n (by decide)).trans hat2)) dX8_next_224 ?_
                        refine lv_iconst (v := II 1) C.1 C.2.1 dX8_next_227 rfl ?_
                        refine x_iadd C dX8_next_228 ?_
                        refine p8 C hw hS 70 (by omega) rfl 20 (by decide) mw_844 rfl (x := ((i + k + k2 : Nat) : Int) + 1) ⟨by omega, by omega⟩ (svi st_s) (tyX8_ok 20 (by decide)) rfl rfl dX8_next_229 (fun H locs hw hS => ?_)
                        have hw : Wo g (stM (stM M3 70023 (M3 70023)) 70020 (((i + k + k2 : Nat) : Int) + 1)) H := hw
                        refine lv_goto (tgt := 160) C.1 C.2.1 dX8_next_232 (by decide) ?_
                        exact ih160  (k2 + 1) (stM (stM M3 70023 (M3 70023)) 70020 (((i + k + k2 : Nat) : Int) + 1)) (by omega) (by omega) (by rw [st_s]; omega) (by rw [← hsk2, show i + k + (k2 + 1) = i + k + k2 + 1 by omega]; exact (sk_s (by omega) hdk).symm) (by rw [st_n (by decide), st_n (by decide)]; exact hta3) (fun m hm => by rw [st_n (by omega), st_n (by omega)]; exact hfr3 m hm) (fun j hj => by by_cases e : j = k2 <;> first | (rw [e]; exact hdk) | exact hdg j (by omega)) (by
    rw [st_n (by decide), st_s]
    first
    | (have h4 : k2 < 4 := by omega
       rw [show (if k2 + 1 < 4 then k2 + 1 else 4) = k2 + 1 by split <;> omega, vlD, hvl, if_pos h4, hbx2.2.2.2 (by omega)]; omega)
    | (rw [hvl, show (if k2 + 1 < 4 then k2 + 1 else 4) = 4 by split <;> omega, show (if k2 < 4 then k2 else 4) = 4 by split <;> omega]; done)) _ _ _ hw hS (lv_sub hl [1, 2, 0] rfl)
                      · refine lv_ldc2 C.1 C.2.1 C.2.2.1 (C.2.2.2.1 _ mw_974) dX8_next_187 ?_
                        rw [show (10 : Int64) = LL 10 from by decide]
                        refine lv_aload_n C.1 C.2.1 dX8_next_190 rfl (lv_at hl 0 rfl) ?_
                        refine g8 C hw 70 (by omega) rfl 23 (by decide) mw_847 (svl (x := M3 70023) rfl) dX8_next_191 ?_
                        refine lv_lmul C.1 C.2.1 dX8_next_194 ?_
                        rw [LL_mul]
                        refine lv_aload_n C.1 C.2.1 dX8_next_195 rfl (lv_at hl 0 rfl) ?_
                        refine lv_aload_n C.1 C.2.1 dX8_next_196 rfl (lv_at hl 0 rfl) ?_
                        refine g8 C hw 70 (by omega) rfl 20 (by decide) mw_844 (svi (x := ((i + k + k2 : Nat) : Int)) hat2) dX8_next_197 ?_
                        refine x_ci (x_runV (n := 1) C hw hS hml hl.1 70 8 (by omega) rfl (by decide) rfl (c_X8_byteAt l g M3 hF b n f (hb.fr (fun m hm => (hfr3 m (by omega)))) (i + k + k2 : Nat) (by omega)) mw_1007 mw_1009 mw_61 mw_130 mw_1010 rfl rfl (by decide +kernel) ⟨Nat.le_of_ble_eq_true rfl, Nat.le_of_ble_eq_true rfl⟩ rfl rfl (Nat.le_of_ble_eq_true rfl) dX8_next_200 ⟨Nat.zero_le _, Nat.zero_le _⟩) hS (fun r200 M200 H locs hr200 hp hw hS => ?_)
                        obtain ⟨em200, er200⟩ := hp
                        have hw : Wo g M3 H := em200 ▸ hw
                        rw [er200] at hr200 ⊢
                        refine x_i2l C hr200 dX8_next_203 ?_
                        refine lv_ladd C.1 C.2.1 dX8_next_204 ?_
                        rw [LL_add]
                        refine lv_ldc2 C.1 C.2.1 C.2.2.1 (C.2.2.2.1 _ mw_1013) dX8_next_205 ?_
                        rw [show (48 : Int64) = LL 48 from by decide]
                        refine lv_lsub C.1 C.2.1 dX8_next_208 ?_
                        rw [LL_sub]
                        refine lv_goto (tgt := 216) C.1 C.2.1 dX8_next_209 (by decide) ?_
                        refine p8 C hw hS 70 (by omega) rfl 23 (by decide) mw_847 rfl (x := ((10 * (M3 70023)) + (bA b n (i + k + k2 : Nat))) - 48) ⟨by have := g_M3 70023; omega, by have := g_M3 70023; omega⟩ (svl st_s) (tyX8_ok 23 (by decide)) rfl rfl dX8_next_216 (fun H locs hw hS => ?_)
                        have hw : Wo g (stM M3 70023 (((10 * (M3 70023)) + (bA b n (i + k + k2 : Nat))) - 48)) H := hw
                        refine lv_iinc (v := II ((k2 : Int) + 1)) (lv' := [(2, .int (II ((k2 : Int) + 1))), (0, .ref (gA g 70)), (1, .int (II (bA b n (i + k : Nat))))]) C.1 C.2.1 dX8_next_219 hl (k := 2) rfl (II_add _ _) (by decide) rfl (fun ls hl => ?_)
                        refine lv_aload_n C.1 C.2.1 dX8_next_222 rfl (lv_at hl 1 rfl) ?_
                        refine lv_dup C.1 C.2.1 dX8_next_223 rfl ?_
                        refine g8 C hw 70 (by omega) rfl 20 (by decide) mw_844 (svi (x := ((i + k + k2 : Nat) : Int)) ((st_n (by decide)).trans hat2)) dX8_next_224 ?_
                        refine lv_iconst (v := II 1) C.1 C.2.1 dX8_next_227 rfl ?_
                        refine x_iadd C dX8_next_228 ?_
                        refine p8 C hw hS 70 (by omega) rfl 20 (by decide) mw_844 rfl (x := ((i + k + k2 : Nat) : Int) + 1) ⟨by omega, by omega⟩ (svi st_s) (tyX8_ok 20 (by decide)) rfl rfl dX8_next_229 (fun H locs hw hS => ?_)
                        have hw : Wo g (stM (stM M3 70023 (((10 * (M3 70023)) + (bA b n (i + k + k2 : Nat))) - 48)) 70020 (((i + k + k2 : Nat) : Int) + 1)) H := hw
                        refine lv_goto (tgt := 160) C.1 C.2.1 dX8_next_232 (by decide) ?_
                        exact ih160  (k2 + 1) (stM (stM M3 70023 (((10 * (M3 70023)) + (bA b n (i + k + k2 : Nat))) - 48)) 70020 (((i + k + k2 : Nat) : Int) + 1)) (by omega) (by omega) (by rw [st_s]; omega) (by rw [← hsk2, show i + k + (k2 + 1) = i + k + k2 + 1 by omega]; exact (sk_s (by omega) hdk).symm) (by rw [st_n (by decide), st_n (by decide)]; exact hta3) (fun m hm => by rw [st_n (by omega), st_n (by omega)]; exact hfr3 m hm) (fun j hj => by by_cases e : j = k2 <;> first | (rw [e]; exact hdk) | exact hdg j (by omega)) (by
    rw [st_n (by decide), st_s]
    first
    | (have h4 : k2 < 4 := by omega
       rw [show (if k2 + 1 < 4 then k2 + 1 else 4) = k2 + 1 by split <;> omega, vlD, hvl, if_pos h4, hbx2.2.2.2 (by omega)]; omega)
    | (rw [hvl, show (if k2 + 1 < 4 then k2 + 1 else 4) = 4 by split <;> omega, show (if k2 < 4 then k2 else 4) = 4 by split <;> omega]; done)) _ _ _ hw hS (lv_sub hl [1, 2, 0] rfl)
                    · have hw : Wo g M3 H := em175 ▸ hw
                      rw [er175]
                      refine x_if_eq (tgt := 235) C ⟨by decide, by decide⟩ dX8_next_178 (by decide) (fun _ => ?_) (fun h => absurd h (by decide))
                      refine lv_aload_n C.1 C.2.1 dX8_next_235 rfl (lv_at hl 0 rfl) ?_
                      refine lv_iload_n C.1 C.2.1 dX8_next_236 rfl (lv_at hl 2 rfl) ?_
                      refine lv_iconst (v := II 4) C.1 C.2.1 dX8_next_237 rfl ?_
                      refine x_icmp_le (tgt := 245) C ⟨by omega, by omega⟩ ⟨by decide, by decide⟩ dX8_next_238 (by decide) (fun c238 => ?_) (fun c238 => ?_)
                      · refine lv_iconst (v := II 2) C.1 C.2.1 dX8_next_245 rfl ?_
                        refine p8 C hw hS 70 (by omega) rfl 21 (by decide) mw_845 rfl (x := 2) ⟨by decide, by decide⟩ (svi st_s) (tyX8_ok 21 (by decide)) rfl rfl dX8_next_246 (fun H locs hw hS => ?_)
                        have hw : Wo g (stM M3 70021 2) H := hw
                        refine lv_goto (tgt := 321) C.1 C.2.1 dX8_next_249 (by decide) ?_
                        subst hQQ; exact x_return C hr hlk hw hS (by
    have hlt : ¬ ltB (b (i + k)) = true := fun q => by simp only [ltB, decide_eq_true_eq] at q; omega
    have hdt : dgB (b (i + k)) = true := decide_eq_true (by omega)
    have hend2 : sk dgB b n (i + k) = i + k + k2 := by
      rw [← hsk2]
      exact sk_e (fun q => by have h5 := hbx2.2.2.2 q.1; have h6 := q.2; simp only [dgB, decide_eq_true_eq] at h6; omega)
    have eE : tE b n i = i + k + k2 := by unfold tE; rw [hend, if_neg (by omega), if_neg hlt, if_pos hdt, hend2]
    have hk9 : tE b n i - tS b n i = k2 := by omega
    have eT : mT b n i = if 4 < k2 then 4 else 2 := by unfold mT; rw [hk9, hend, if_neg (by omega), if_neg hlt, if_pos hdt]
    refine ⟨⟨?_, ?_, fun q => ?_, fun q => ?_, fun q => ?_⟩, fun m hm => ?_⟩
    · rw [st_s, eT]; first | (rw [if_pos (by omega)]; done) | (rw [if_neg (by omega)]; done)
    · rw [st_n (by decide), hend]; exact hta3
    · rw [st_n (by decide), eE]; exact hat2
    · rw [st_n (by decide)]
      have h4 : k2 ≤ 4 := by
        by_cases h4 : 4 < k2
        · rw [eT, if_pos h4] at q; omega
        · omega
      unfold tV
      rw [hk9, hend, hvl, show (if k2 < 4 then k2 else 4) = k2 by split <;> omega]
    · exfalso; rw [eT] at q; split at q <;> omega
    · rw [st_n (by omega)]; exact hfr3 m hm) dX8_next_321
                      · refine lv_iconst (v := II 4) C.1 C.2.1 dX8_next_241 rfl ?_
                        refine lv_goto (tgt := 246) C.1 C.2.1 dX8_next_242 (by decide) ?_
                        refine p8 C hw hS 70 (by omega) rfl 21 (by decide) mw_845 rfl (x := 4) ⟨by decide, by decide⟩ (svi st_s) (tyX8_ok 21 (by decide)) rfl rfl dX8_next_246 (fun H locs hw hS => ?_)
                        have hw : Wo g (stM M3 70021 4) H := hw
                        refine lv_goto (tgt := 321) C.1 C.2.1 dX8_next_249 (by decide) ?_
                        subst hQQ; exact x_return C hr hlk hw hS (by
    have hlt : ¬ ltB (b (i + k)) = true := fun q => by simp only [ltB, decide_eq_true_eq] at q; omega
    have hdt : dgB (b (i + k)) = true := decide_eq_true (by omega)
    have hend2 : sk dgB b n (i + k) = i + k + k2 := by
      rw [← hsk2]
      exact sk_e (fun q => by have h5 := hbx2.2.2.2 q.1; have h6 := q.2; simp only [dgB, decide_eq_true_eq] at h6; omega)
    have eE : tE b n i = i + k + k2 := by unfold tE; rw [hend, if_neg (by omega), if_neg hlt, if_pos hdt, hend2]
    have hk9 : tE b n i - tS b n i = k2 := by omega
    have eT : mT b n i = if 4 < k2 then 4 else 2 := by unfold mT; rw [hk9, hend, if_neg (by omega), if_neg hlt, if_pos hdt]
    refine ⟨⟨?_, ?_, fun q => ?_, fun q => ?_, fun q => ?_⟩, fun m hm => ?_⟩
    · rw [st_s, eT]; first | (rw [if_pos (by omega)]; done) | (rw [if_neg (by omega)]; done)
    · rw [st_n (by decide), hend]; exact hta3
    · rw [st_n (by decide), eE]; exact hat2
    · rw [st_n (by decide)]
      have h4 : k2 ≤ 4 := by
        by_cases h4 : 4 < k2
        · rw [eT, if_pos h4] at q; omega
        · omega
      unfold tV
      rw [hk9, hend, hvl, show (if k2 < 4 then k2 else 4) = k2 by split <;> omega]
    · exfalso; rw [eT] at q; split at q <;> omega
    · rw [st_n (by omega)]; exact hfr3 m hm) dX8_next_321
                exact L160 _ 0 (stM (stM (stM (stM M2 70022 ((i + k : Nat) : Int)) 70021 4) 70021 2) 70023 0) (Nat.lt_succ_self _) (by omega) (by rw [st_n (by decide), st_n (by decide), st_n (by decide), st_n (by decide)]; exact hat) rfl (by rw [st_n (by decide), st_n (by decide), st_n (by decide), st_s]) (fun m hm => by rw [st_n (by omega), st_n (by omega), st_n (by omega), st_n (by omega)]; exact hfr m (by omega)) (fun _ h => absurd h (Nat.not_lt_zero _)) st_s _ _ _ hw hS (lv_sub hl [2, 1, 0] rfl)
              · have hw : Wo g (stM (stM M2 70022 ((i + k : Nat) : Int)) 70021 4) H := em142 ▸ hw
                rw [er142]
                refine x_if_eq (tgt := 252) C ⟨by decide, by decide⟩ dX8_next_145 (by decide) (fun _ => ?_) (fun h => absurd h (by decide))
                refine lv_iload_n C.1 C.2.1 dX8_next_252 rfl (lv_at hl 0 rfl) ?_
                refine lv_bipush (v := II 40) C.1 C.2.1 dX8_next_253 (by decide) ?_
                refine x_icmp_eq (tgt := 300) C hr52 ⟨by decide, by decide⟩ dX8_next_255 (by decide) (fun c255 => ?_) (fun c255 => ?_)
                · refine lv_aload_n C.1 C.2.1 dX8_next_300 rfl (lv_at hl 1 rfl) ?_
                  refine lv_iconst (v := II 3) C.1 C.2.1 dX8_next_301 rfl ?_
                  refine p8 C hw hS 70 (by omega) rfl 21 (by decide) mw_845 rfl (x := 3) ⟨by decide, by decide⟩ (svi st_s) (tyX8_ok 21 (by decide)) rfl rfl dX8_next_302 (fun H locs hw hS => ?_)
                  have hw : Wo g (stM (stM (stM M2 70022 ((i + k : Nat) : Int)) 70021 4) 70021 3) H := hw
                  refine lv_aload_n C.1 C.2.1 dX8_next_305 rfl (lv_at hl 1 rfl) ?_
                  refine lv_iload_n C.1 C.2.1 dX8_next_306 rfl (lv_at hl 0 rfl) ?_
                  refine x_i2l C hr52 dX8_next_307 ?_
                  refine p8 C hw hS 70 (by omega) rfl 23 (by decide) mw_847 rfl (x := bA b n (i + k : Nat)) hr52 (svl st_s) (tyX8_ok 23 (by decide)) rfl rfl dX8_next_308 (fun H locs hw hS => ?_)
                  have hw : Wo g (stM (stM (stM (stM M2 70022 ((i + k : Nat) : Int)) 70021 4) 70021 3) 70023 (bA b n (i + k : Nat))) H := hw
                  refine lv_aload_n C.1 C.2.1 dX8_next_311 rfl (lv_at hl 1 rfl) ?_
                  refine lv_dup C.1 C.2.1 dX8_next_312 rfl ?_
                  refine g8 C hw 70 (by omega) rfl 20 (by decide) mw_844 (svi (x := ((i + k : Nat) : Int)) ((st_n (by decide)).trans ((st_n (by decide)).trans ((st_n (by decide)).trans ((st_n (by decide)).trans hat))))) dX8_next_313 ?_
                  refine lv_iconst (v := II 1) C.1 C.2.1 dX8_next_316 rfl ?_
                  refine x_iadd C dX8_next_317 ?_
                  refine p8 C hw hS 70 (by omega) rfl 20 (by decide) mw_844 rfl (x := ((i + k : Nat) : Int) + 1) ⟨by omega, by omega⟩ (svi st_s) (tyX8_ok 20 (by decide)) rfl rfl dX8_next_318 (fun H locs hw hS => ?_)
                  have hw : Wo g (stM (stM (stM (stM (stM M2 70022 ((i + k : Nat) : Int)) 70021 4) 70021 3) 70023 (bA b n (i + k : Nat))) 70020 (((i + k : Nat) : Int) + 1)) H := hw
                  subst hQQ; exact x_return C hr hlk hw hS (by
    have hlt : ¬ ltB (b (i + k)) = true := fun q => by simp only [ltB, decide_eq_true_eq] at q; omega
    have hdt : ¬ dgB (b (i + k)) = true := fun q => by simp only [dgB, decide_eq_true_eq] at q; omega
    have eE : tE b n i = i + k + 1 := by unfold tE; rw [hend, if_neg (by omega), if_neg hlt, if_neg hdt]
    have hsg : ¬ sgT (b (i + k)) = 8 := by unfold sgT; (repeat' split) <;> omega
    have eT : mT b n i = 3 := by unfold mT; rw [hend, if_neg (by omega), if_neg hlt, if_neg hdt, if_neg hsg]
    refine ⟨⟨?_, ?_, fun q => ?_, fun q => absurd (eT.symm.trans q) (by decide), fun q => ?_⟩, fun m hm => ?_⟩
    · rw [st_n (by decide), st_n (by decide), st_s, eT]
    · rw [st_n (by decide), st_n (by decide), st_n (by decide), st_n (by decide), st_s, hend]
    · rw [st_s, eE]; omega
    · rw [st_n (by decide), st_s, hend]; omega
    · rw [st_n (by omega), st_n (by omega), st_n (by omega), st_n (by omega), st_n (by omega)]; exact hfr m (by omega)) dX8_next_321
                · refine lv_iload_n C.1 C.2.1 dX8_next_258 rfl (lv_at hl 0 rfl) ?_
                  refine lv_bipush (v := II 41) C.1 C.2.1 dX8_next_259 (by decide) ?_
                  refine x_icmp_eq (tgt := 300) C hr52 ⟨by decide, by decide⟩ dX8_next_261 (by decide) (fun c261 => ?_) (fun c261 => ?_)
                  · refine lv_aload_n C.1 C.2.1 dX8_next_300 rfl (lv_at hl 1 rfl) ?_
                    refine lv_iconst (v := II 3) C.1 C.2.1 dX8_next_301 rfl ?_
                    refine p8 C hw hS 70 (by omega) rfl 21 (by decide) mw_845 rfl (x := 3) ⟨by decide, by decide⟩ (svi st_s) (tyX8_ok 21 (by decide)) rfl rfl dX8_next_302 (fun H locs hw hS => ?_)
                    have hw : Wo g (stM (stM (stM M2 70022 ((i + k : Nat) : Int)) 70021 4) 70021 3) H := hw
                    refine lv_aload_n C.1 C.2.1 dX8_next_305 rfl (lv_at hl 1 rfl) ?_
                    refine lv_iload_n C.1 C.2.1 dX8_next_306 rfl (lv_at hl 0 rfl) ?_
                    refine x_i2l C hr52 dX8_next_307 ?_
                    refine p8 C hw hS 70 (by omega) rfl 23 (by decide) mw_847 rfl (x := bA b n (i + k : Nat)) hr52 (svl st_s) (tyX8_ok 23 (by decide)) rfl rfl dX8_next_308 (fun H locs hw hS => ?_)
                    have hw : Wo g (stM (stM (stM (stM M2 70022 ((i + k : Nat) : Int)) 70021 4) 70021 3) 70023 (bA b n (i + k : Nat))) H := hw
                    refine lv_aload_n C.1 C.2.1 dX8_next_311 rfl (lv_at hl 1 rfl) ?_
                    refine lv_dup C.1 C.2.1 dX8_next_312 rfl ?_
                    refine g8 C hw 70 (by omega) rfl 20 (by decide) mw_844 (svi (x := ((i + k : Nat) : Int)) ((st_n (by decide)).trans ((st_n (by decide)).trans ((st_n (by decide)).trans ((st_n (by decide)).trans hat))))) dX8_next_313 ?_
                    refine lv_iconst (v := II 1) C.1 C.2.1 dX8_next_316 rfl ?_
                    refine x_iadd C dX8_next_317 ?_
                    refine p8 C hw hS 70 (by omega) rfl 20 (by decide) mw_844 rfl (x := ((i + k : Nat) : Int) + 1) ⟨by omega, by omega⟩ (svi st_s) (tyX8_ok 20 (by decide)) rfl rfl dX8_next_318 (fun H locs hw hS => ?_)
                    have hw : Wo g (stM (stM (stM (stM (stM M2 70022 ((i + k : Nat) : Int)) 70021 4) 70021 3) 70023 (bA b n (i + k : Nat))) 70020 (((i + k : Nat) : Int) + 1)) H := hw
                    subst hQQ; exact x_return C hr hlk hw hS (by
    have hlt : ¬ ltB (b (i + k)) = true := fun q => by simp only [ltB, decide_eq_true_eq] at q; omega
    have hdt : ¬ dgB (b (i + k)) = true := fun q => by simp only [dgB, decide_eq_true_eq] at q; omega
    have eE : tE b n i = i + k + 1 := by unfold tE; rw [hend, if_neg (by omega), if_neg hlt, if_neg hdt]
    have hsg : ¬ sgT (b (i + k)) = 8 := by unfold sgT; (repeat' split) <;> omega
    have eT : mT b n i = 3 := by unfold mT; rw [hend, if_neg (by omega), if_neg hlt, if_neg hdt, if_neg hsg]
    refine ⟨⟨?_, ?_, fun q => ?_, fun q => absurd (eT.symm.trans q) (by decide), fun q => ?_⟩, fun m hm => ?_⟩
    · rw [st_n (by decide), st_n (by decide), st_s, eT]
    · rw [st_n (by decide), st_n (by decide), st_n (by decide), st_n (by decide), st_s, hend]
    · rw [st_s, eE]; omega
    · rw [st_n (by decide), st_s, hend]; omega
    · rw [st_n (by omega), st_n (by omega), st_n (by omega), st_n (by omega), st_n (by omega)]; exact hfr m (by omega)) dX8_next_321
                  · refine lv_iload_n C.1 C.2.1 dX8_next_264 rfl (lv_at hl 0 rfl) ?_
                    refine lv_bipush (v := II 59) C.1 C.2.1 dX8_next_265 (by decide) ?_
                    refine x_icmp_eq (tgt := 300) C hr52 ⟨by decide, by decide⟩ dX8_next_267 (by decide) (fun c267 => ?_) (fun c267 => ?_)
                    · refine lv_aload_n C.1 C.2.1 dX8_next_300 rfl (lv_at hl 1 rfl) ?_
                      refine lv_iconst (v := II 3) C.1 C.2.1 dX8_next_301 rfl ?_
                      refine p8 C hw hS 70 (by omega) rfl 21 (by decide) mw_845 rfl (x := 3) ⟨by decide, by decide⟩ (svi st_s) (tyX8_ok 21 (by decide)) rfl rfl dX8_next_302 (fun H locs hw hS => ?_)
                      have hw : Wo g (stM (stM (stM M2 70022 ((i + k : Nat) : Int)) 70021 4) 70021 3) H := hw
                      refine lv_aload_n C.1 C.2.1 dX8_next_305 rfl (lv_at hl 1 rfl) ?_
                      refine lv_iload_n C.1 C.2.1 dX8_next_306 rfl (lv_at hl 0 rfl) ?_
                      refine x_i2l C hr52 dX8_next_307 ?_
                      refine p8 C hw hS 70 (by omega) rfl 23 (by decide) mw_847 rfl (x := bA b n (i + k : Nat)) hr52 (svl st_s) (tyX8_ok 23 (by decide)) rfl rfl dX8_next_308 (fun H locs hw hS => ?_)
                      have hw : Wo g (stM (stM (stM (stM M2 70022 ((i + k : Nat) : Int)) 70021 4) 70021 3) 70023 (bA b n (i + k : Nat))) H := hw
                      refine lv_aload_n C.1 C.2.1 dX8_next_311 rfl (lv_at hl 1 rfl) ?_
                      refine lv_dup C.1 C.2.1 dX8_next_312 rfl ?_
                      refine g8 C hw 70 (by omega) rfl 20 (by decide) mw_844 (svi (x := ((i + k : Nat) : Int)) ((st_n (by decide)).trans ((st_n (by decide)).trans ((st_n (by decide)).trans ((st_n (by decide)).trans hat))))) dX8_next_313 ?_
                      refine lv_iconst (v := II 1) C.1 C.2.1 dX8_next_316 rfl ?_
                      refine x_iadd C dX8_next_317 ?_
                      refine p8 C hw hS 70 (by omega) rfl 20 (by decide) mw_844 rfl (x := ((i + k : Nat) : Int) + 1) ⟨by omega, by omega⟩ (svi st_s) (tyX8_ok 20 (by decide)) rfl rfl dX8_next_318 (fun H locs hw hS => ?_)
                      have hw : Wo g (stM (stM (stM (stM (stM M2 70022 ((i + k : Nat) : Int)) 70021 4) 70021 3) 70023 (bA b n (i + k : Nat))) 70020 (((i + k : Nat) : Int) + 1)) H := hw
                      subst hQQ; exact x_return C hr hlk hw hS (by
    have hlt : ¬ ltB (b (i + k)) = true := fun q => by simp only [ltB, decide_eq_true_eq] at q; omega
    have hdt : ¬ dgB (b (i + k)) = true := fun q => by simp only [dgB, decide_eq_true_eq] at q; omega
    have eE : tE b n i = i + k + 1 := by unfold tE; rw [hend, if_neg (by omega), if_neg hlt, if_neg hdt]
    have hsg : ¬ sgT (b (i + k)) = 8 := by unfold sgT; (repeat' split) <;> omega
    have eT : mT b n i = 3 := by unfold mT; rw [hend, if_neg (by omega), if_neg hlt, if_neg hdt, if_neg hsg]
    refine ⟨⟨?_, ?_, fun q => ?_, fun q => absurd (eT.symm.trans q) (by decide), fun q => ?_⟩, fun m hm => ?_⟩
    · rw [st_n (by decide), st_n (by decide), st_s, eT]
    · rw [st_n (by decide), st_n (by decide), st_n (by decide), st_n (by decide), st_s, hend]
    · rw [st_s, eE]; omega
    · rw [st_n (by decide), st_s, hend]; omega
    · rw [st_n (by omega), st_n (by omega), st_n (by omega), st_n (by omega), st_n (by omega)]; exact hfr m (by omega)) dX8_next_321
                    · refine lv_iload_n C.1 C.2.1 dX8_next_270 rfl (lv_at hl 0 rfl) ?_
                      refine lv_bipush (v := II 43) C.1 C.2.1 dX8_next_271 (by decide) ?_
                      refine x_icmp_eq (tgt := 300) C hr52 ⟨by decide, by decide⟩ dX8_next_273 (by decide) (fun c273 => ?_) (fun c273 => ?_)
                      · refine lv_aload_n C.1 C.2.1 dX8_next_300 rfl (lv_at hl 1 rfl) ?_
                        refine lv_iconst (v := II 3) C.1 C.2.1 dX8_next_301 rfl ?_
                        refine p8 C hw hS 70 (by omega) rfl 21 (by decide) mw_845 rfl (x := 3) ⟨by decide, by decide⟩ (svi st_s) (tyX8_ok 21 (by decide)) rfl rfl dX8_next_302 (fun H locs hw hS => ?_)
                        have hw : Wo g (stM (stM (stM M2 70022 ((i + k : Nat) : Int)) 70021 4) 70021 3) H := hw
                        refine lv_aload_n C.1 C.2.1 dX8_next_305 rfl (lv_at hl 1 rfl) ?_
                        refine lv_iload_n C.1 C.2.1 dX8_next_306 rfl (lv_at hl 0 rfl) ?_
                        refine x_i2l C hr52 dX8_next_307 ?_
                        refine p8 C hw hS 70 (by omega) rfl 23 (by decide) mw_847 rfl (x := bA b n (i + k : Nat)) hr52 (svl st_s) (tyX8_ok 23 (by decide)) rfl rfl dX8_next_308 (fun H locs hw hS => ?_)
                        have hw : Wo g (stM (stM (stM (stM M2 70022 ((i + k : Nat) : Int)) 70021 4) 70021 3) 70023 (bA b n (i + k : Nat))) H := hw
                        refine lv_aload_n C.1 C.2.1 dX8_next_311 rfl (lv_at hl 1 rfl) ?_
                        refine lv_dup C.1 C.2.1 dX8_next_312 rfl ?_
                        refine g8 C hw 70 (by omega) rfl 20 (by decide) mw_844 (svi (x := ((i + k : Nat) : Int)) ((st_n (by decide)).trans ((st_n (by decide)).trans ((st_n (by decide)).trans ((st_n (by decide)).trans hat))))) dX8_next_313 ?_
                        refine lv_iconst (v := II 1) C.1 C.2.1 dX8_next_316 rfl ?_
                        refine x_iadd C dX8_next_317 ?_
                        refine p8 C hw hS 70 (by omega) rfl 20 (by decide) mw_844 rfl (x := ((i + k : Nat) : Int) + 1) ⟨by omega, by omega⟩ (svi st_s) (tyX8_ok 20 (by decide)) rfl rfl dX8_next_318 (fun H locs hw hS => ?_)
                        have hw : Wo g (stM (stM (stM (stM (stM M2 70022 ((i + k : Nat) : Int)) 70021 4) 70021 3) 70023 (bA b n (i + k : Nat))) 70020 (((i + k : Nat) : Int) + 1)) H := hw
                        subst hQQ; exact x_return C hr hlk hw hS (by
    have hlt : ¬ ltB (b (i + k)) = true := fun q => by simp only [ltB, decide_eq_true_eq] at q; omega
    have hdt : ¬ dgB (b (i + k)) = true := fun q => by simp only [dgB, decide_eq_true_eq] at q; omega
    have eE : tE b n i = i + k + 1 := by unfold tE; rw [hend, if_neg (by omega), if_neg hlt, if_neg hdt]
    have hsg : ¬ sgT (b (i + k)) = 8 := by unfold sgT; (repeat' split) <;> omega
    have eT : mT b n i = 3 := by unfold mT; rw [hend, if_neg (by omega), if_neg hlt, if_neg hdt, if_neg hsg]
    refine ⟨⟨?_, ?_, fun q => ?_, fun q => absurd (eT.symm.trans q) (by decide), fun q => ?_⟩, fun m hm => ?_⟩
    · rw [st_n (by decide), st_n (by decide), st_s, eT]
    · rw [st_n (by decide), st_n (by decide), st_n (by decide), st_n (by decide), st_s, hend]
    · rw [st_s, eE]; omega
    · rw [st_n (by decide), st_s, hend]; omega
    · rw [st_n (by omega), st_n (by omega), st_n (by omega), st_n (by omega), st_n (by omega)]; exact hfr m (by omega)) dX8_next_321
                      · refine lv_iload_n C.1 C.2.1 dX8_next_276 rfl (lv_at hl 0 rfl) ?_
                        refine lv_bipush (v := II 45) C.1 C.2.1 dX8_next_277 (by decide) ?_
                        refine x_icmp_eq (tgt := 300) C hr52 ⟨by decide, by decide⟩ dX8_next_279 (by decide) (fun c279 => ?_) (fun c279 => ?_)
                        · refine lv_aload_n C.1 C.2.1 dX8_next_300 rfl (lv_at hl 1 rfl) ?_
                          refine lv_iconst (v := II 3) C.1 C.2.1 dX8_next_301 rfl ?_
                          refine p8 C hw hS 70 (by omega) rfl 21 (by decide) mw_845 rfl (x := 3) ⟨by decide, by decide⟩ (svi st_s) (tyX8_ok 21 (by decide)) rfl rfl dX8_next_302 (fun H locs hw hS => ?_)
                          have hw : Wo g (stM (stM (stM M2 70022 ((i + k : Nat) : Int)) 70021 4) 70021 3) H := hw
                          refine lv_aload_n C.1 C.2.1 dX8_next_305 rfl (lv_at hl 1 rfl) ?_
                          refine lv_iload_n C.1 C.2.1 dX8_next_306 rfl (lv_at hl 0 rfl) ?_
                          refine x_i2l C hr52 dX8_next_307 ?_
                          refine p8 C hw hS 70 (by omega) rfl 23 (by decide) mw_847 rfl (x := bA b n (i + k : Nat)) hr52 (svl st_s) (tyX8_ok 23 (by decide)) rfl rfl dX8_next_308 (fun H locs hw hS => ?_)
                          have hw : Wo g (stM (stM (stM (stM M2 70022 ((i + k : Nat) : Int)) 70021 4) 70021 3) 70023 (bA b n (i + k : Nat))) H := hw
                          refine lv_aload_n C.1 C.2.1 dX8_next_311 rfl (lv_at hl 1 rfl) ?_
                          refine lv_dup C.1 C.2.1 dX8_next_312 rfl ?_
                          refine g8 C hw 70 (by omega) rfl 20 (by decide) mw_844 (svi (x := ((i + k : Nat) : Int)) ((st_n (by decide)).trans ((st_n (by decide)).trans ((st_n (by decide)).trans ((st_n (by decide)).trans hat))))) dX8_next_313 ?_
                          refine lv_iconst (v := II 1) C.1 C.2.1 dX8_next_316 rfl ?_
                          refine x_iadd C dX8_next_317 ?_
                          refine p8 C hw hS 70 (by omega) rfl 20 (by decide) mw_844 rfl (x := ((i + k : Nat) : Int) + 1) ⟨by omega, by omega⟩ (svi st_s) (tyX8_ok 20 (by decide)) rfl rfl dX8_next_318 (fun H locs hw hS => ?_)
                          have hw : Wo g (stM (stM (stM (stM (stM M2 70022 ((i + k : Nat) : Int)) 70021 4) 70021 3) 70023 (bA b n (i + k : Nat))) 70020 (((i + k : Nat) : Int) + 1)) H := hw
                          subst hQQ; exact x_return C hr hlk hw hS (by
    have hlt : ¬ ltB (b (i + k)) = true := fun q => by simp only [ltB, decide_eq_true_eq] at q; omega
    have hdt : ¬ dgB (b (i + k)) = true := fun q => by simp only [dgB, decide_eq_true_eq] at q; omega
    have eE : tE b n i = i + k + 1 := by unfold tE; rw [hend, if_neg (by omega), if_neg hlt, if_neg hdt]
    have hsg : ¬ sgT (b (i + k)) = 8 := by unfold sgT; (repeat' split) <;> omega
    have eT : mT b n i = 3 := by unfold mT; rw [hend, if_neg (by omega), if_neg hlt, if_neg hdt, if_neg hsg]
    refine ⟨⟨?_, ?_, fun q => ?_, fun q => absurd (eT.symm.trans q) (by decide), fun q => ?_⟩, fun m hm => ?_⟩
    · rw [st_n (by decide), st_n (by decide), st_s, eT]
    · rw [st_n (by decide), st_n (by decide), st_n (by decide), st_n (by decide), st_s, hend]
    · rw [st_s, eE]; omega
    · rw [st_n (by decide), st_s, hend]; omega
    · rw [st_n (by omega), st_n (by omega), st_n (by omega), st_n (by omega), st_n (by omega)]; exact hfr m (by omega)) dX8_next_321
                        · refine lv_iload_n C.1 C.2.1 dX8_next_282 rfl (lv_at hl 0 rfl) ?_
                          refine lv_bipush (v := II 42) C.1 C.2.1 dX8_next_283 (by decide) ?_
                          refine x_icmp_eq (tgt := 300) C hr52 ⟨by decide, by decide⟩ dX8_next_285 (by decide) (fun c285 => ?_) (fun c285 => ?_)
                          · refine lv_aload_n C.1 C.2.1 dX8_next_300 rfl (lv_at hl 1 rfl) ?_
                            refine lv_iconst (v := II 3) C.1 C.2.1 dX8_next_301 rfl ?_
                            refine p8 C hw hS 70 (by omega) rfl 21 (by decide) mw_845 rfl (x := 3) ⟨by decide, by decide⟩ (svi st_s) (tyX8_ok 21 (by decide)) rfl rfl dX8_next_302 (fun H locs hw hS => ?_)
                            have hw : Wo g (stM (stM (stM M2 70022 ((i + k : Nat) : Int)) 70021 4) 70021 3) H := hw
                            refine lv_aload_n C.1 C.2.1 dX8_next_305 rfl (lv_at hl 1 rfl) ?_
                            refine lv_iload_n C.1 C.2.1 dX8_next_306 rfl (lv_at hl 0 rfl) ?_
                            refine x_i2l C hr52 dX8_next_307 ?_
                            refine p8 C hw hS 70 (by omega) rfl 23 (by decide) mw_847 rfl (x := bA b n (i + k : Nat)) hr52 (svl st_s) (tyX8_ok 23 (by decide)) rfl rfl dX8_next_308 (fun H locs hw hS => ?_)
                            have hw : Wo g (stM (stM (stM (stM M2 70022 ((i + k : Nat) : Int)) 70021 4) 70021 3) 70023 (bA b n (i + k : Nat))) H := hw
                            refine lv_aload_n C.1 C.2.1 dX8_next_311 rfl (lv_at hl 1 rfl) ?_
                            refine lv_dup C.1 C.2.1 dX8_next_312 rfl ?_
                            refine g8 C hw 70 (by omega) rfl 20 (by decide) mw_844 (svi (x := ((i + k : Nat) : Int)) ((st_n (by decide)).trans ((st_n (by decide)).trans ((st_n (by decide)).trans ((st_n (by decide)).trans hat))))) dX8_next_313 ?_
                            refine lv_iconst (v := II 1) C.1 C.2.1 dX8_next_316 rfl ?_
                            refine x_iadd C dX8_next_317 ?_
                            refine p8 C hw hS 70 (by omega) rfl 20 (by decide) mw_844 rfl (x := ((i + k : Nat) : Int) + 1) ⟨by omega, by omega⟩ (svi st_s) (tyX8_ok 20 (by decide)) rfl rfl dX8_next_318 (fun H locs hw hS => ?_)
                            have hw : Wo g (stM (stM (stM (stM (stM M2 70022 ((i + k : Nat) : Int)) 70021 4) 70021 3) 70023 (bA b n (i + k : Nat))) 70020 (((i + k : Nat) : Int) + 1)) H := hw
                            subst hQQ; exact x_return C hr hlk hw hS (by
    have hlt : ¬ ltB (b (i + k)) = true := fun q => by simp only [ltB, decide_eq_true_eq] at q; omega
    have hdt : ¬ dgB (b (i + k)) = true := fun q => by simp only [dgB, decide_eq_true_eq] at q; omega
    have eE : tE b n i = i + k + 1 := by unfold tE; rw [hend, if_neg (by omega), if_neg hlt, if_neg hdt]
    have hsg : ¬ sgT (b (i + k)) = 8 := by unfold sgT; (repeat' split) <;> omega
    have eT : mT b n i = 3 := by unfold mT; rw [hend, if_neg (by omega), if_neg hlt, if_neg hdt, if_neg hsg]
    refine ⟨⟨?_, ?_, fun q => ?_, fun q => absurd (eT.symm.trans q) (by decide), fun q => ?_⟩, fun m hm => ?_⟩
    · rw [st_n (by decide), st_n (by decide), st_s, eT]
    · rw [st_n (by decide), st_n (by decide), st_n (by decide), st_n (by decide), st_s, hend]
    · rw [st_s, eE]; omega
    · rw [st_n (by decide), st_s, hend]; omega
    · rw [st_n (by omega), st_n (by omega), st_n (by omega), st_n (by omega), st_n (by omega)]; exact hfr m (by omega)) dX8_next_321
                          · refine lv_iload_n C.1 C.2.1 dX8_next_288 rfl (lv_at hl 0 rfl) ?_
                            refine lv_bipush (v := II 60) C.1 C.2.1 dX8_next_289 (by decide) ?_
                            refine x_icmp_eq (tgt := 300) C hr52 ⟨by decide, by decide⟩ dX8_next_291 (by decide) (fun c291 => ?_) (fun c291 => ?_)
                            · refine lv_aload_n C.1 C.2.1 dX8_next_300 rfl (lv_at hl 1 rfl) ?_
                              refine lv_iconst (v := II 3) C.1 C.2.1 dX8_next_301 rfl ?_
                              refine p8 C hw hS 70 (by omega) rfl 21 (by decide) mw_845 rfl (x := 3) ⟨by decide, by decide⟩ (svi st_s) (tyX8_ok 21 (by decide)) rfl rfl dX8_next_302 (fun H locs hw hS => ?_)
                              have hw : Wo g (stM (stM (stM M2 70022 ((i + k : Nat) : Int)) 70021 4) 70021 3) H := hw
                              refine lv_aload_n C.1 C.2.1 dX8_next_305 rfl (lv_at hl 1 rfl) ?_
                              refine lv_iload_n C.1 C.2.1 dX8_next_306 rfl (lv_at hl 0 rfl) ?_
                              refine x_i2l C hr52 dX8_next_307 ?_
                              refine p8 C hw hS 70 (by omega) rfl 23 (by decide) mw_847 rfl (x := bA b n (i + k : Nat)) hr52 (svl st_s) (tyX8_ok 23 (by decide)) rfl rfl dX8_next_308 (fun H locs hw hS => ?_)
                              have hw : Wo g (stM (stM (stM (stM M2 70022 ((i + k : Nat) : Int)) 70021 4) 70021 3) 70023 (bA b n (i + k : Nat))) H := hw
                              refine lv_aload_n C.1 C.2.1 dX8_next_311 rfl (lv_at hl 1 rfl) ?_
                              refine lv_dup C.1 C.2.1 dX8_next_312 rfl ?_
                              refine g8 C hw 70 (by omega) rfl 20 (by decide) mw_844 (svi (x := ((i + k : Nat) : Int)) ((st_n (by decide)).trans ((st_n (by decide)).trans ((st_n (by decide)).trans ((st_n (by decide)).trans hat))))) dX8_next_313 ?_
                              refine lv_iconst (v := II 1) C.1 C.2.1 dX8_next_316 rfl ?_
                              refine x_iadd C dX8_next_317 ?_
                              refine p8 C hw hS 70 (by omega) rfl 20 (by decide) mw_844 rfl (x := ((i + k : Nat) : Int) + 1) ⟨by omega, by omega⟩ (svi st_s) (tyX8_ok 20 (by decide)) rfl rfl dX8_next_318 (fun H locs hw hS => ?_)
                              have hw : Wo g (stM (stM (stM (stM (stM M2 70022 ((i + k : Nat) : Int)) 70021 4) 70021 3) 70023 (bA b n (i + k : Nat))) 70020 (((i + k : Nat) : Int) + 1)) H := hw
                              subst hQQ; exact x_return C hr hlk hw hS (by
    have hlt : ¬ ltB (b (i + k)) = true := fun q => by simp only [ltB, decide_eq_true_eq] at q; omega
    have hdt : ¬ dgB (b (i + k)) = true := fun q => by simp only [dgB, decide_eq_true_eq] at q; omega
    have eE : tE b n i = i + k + 1 := by unfold tE; rw [hend, if_neg (by omega), if_neg hlt, if_neg hdt]
    have hsg : ¬ sgT (b (i + k)) = 8 := by unfold sgT; (repeat' split) <;> omega
    have eT : mT b n i = 3 := by unfold mT; rw [hend, if_neg (by omega), if_neg hlt, if_neg hdt, if_neg hsg]
    refine ⟨⟨?_, ?_, fun q => ?_, fun q => absurd (eT.symm.trans q) (by decide), fun q => ?_⟩, fun m hm => ?_⟩
    · rw [st_n (by decide), st_n (by decide), st_s, eT]
    · rw [st_n (by decide), st_n (by decide), st_n (by decide), st_n (by decide), st_s, hend]
    · rw [st_s, eE]; omega
    · rw [st_n (by decide), st_s, hend]; omega
    · rw [st_n (by omega), st_n (by omega), st_n (by omega), st_n (by omega), st_n (by omega)]; exact hfr m (by omega)) dX8_next_321
                            · refine lv_iload_n C.1 C.2.1 dX8_next_294 rfl (lv_at hl 0 rfl) ?_
                              refine lv_bipush (v := II 61) C.1 C.2.1 dX8_next_295 (by decide) ?_
                              refine x_icmp_ne (tgt := 321) C hr52 ⟨by decide, by decide⟩ dX8_next_297 (by decide) (fun c297 => ?_) (fun c297 => ?_)
                              · subst hQQ; exact x_return C hr hlk hw hS (by
    have hlt : ¬ ltB (b (i + k)) = true := fun q => by simp only [ltB, decide_eq_true_eq] at q; omega
    have hdt : ¬ dgB (b (i + k)) = true := fun q => by simp only [dgB, decide_eq_true_eq] at q; omega
    have eE : tE b n i = i + k + 1 := by unfold tE; rw [hend, if_neg (by omega), if_neg hlt, if_neg hdt]
    have hsg : sgT (b (i + k)) = 8 := by unfold sgT; (repeat' split) <;> omega
    have eT : mT b n i = 4 := by unfold mT; rw [hend, if_neg (by omega), if_neg hlt, if_neg hdt, if_pos hsg]
    refine ⟨⟨?_, ?_, fun q => absurd eT q, fun q => absurd (eT.symm.trans q) (by decide), fun q => absurd (eT.symm.trans q) (by decide)⟩, fun m hm => ?_⟩
    · rw [st_s, eT]
    · rw [st_n (by decide), st_s, hend]
    · rw [st_n (by omega), st_n (by omega)]; exact hfr m (by omega)) dX8_next_321
                              · refine lv_aload_n C.1 C.2.1 dX8_next_300 rfl (lv_at hl 1 rfl) ?_
                                refine lv_iconst (v := II 3) C.1 C.2.1 dX8_next_301 rfl ?_
                                refine p8 C hw hS 70 (by omega) rfl 21 (by decide) mw_845 rfl (x := 3) ⟨by decide, by decide⟩ (svi st_s) (tyX8_ok 21 (by decide)) rfl rfl dX8_next_302 (fun H locs hw hS => ?_)
                                have hw : Wo g (stM (stM (stM M2 70022 ((i + k : Nat) : Int)) 70021 4) 70021 3) H := hw
                                refine lv_aload_n C.1 C.2.1 dX8_next_305 rfl (lv_at hl 1 rfl) ?_
                                refine lv_iload_n C.1 C.2.1 dX8_next_306 rfl (lv_at hl 0 rfl) ?_
                                refine x_i2l C hr52 dX8_next_307 ?_
                                refine p8 C hw hS 70 (by omega) rfl 23 (by decide) mw_847 rfl (x := bA b n (i + k : Nat)) hr52 (svl st_s) (tyX8_ok 23 (by decide)) rfl rfl dX8_next_308 (fun H locs hw hS => ?_)
                                have hw : Wo g (stM (stM (stM (stM M2 70022 ((i + k : Nat) : Int)) 70021 4) 70021 3) 70023 (bA b n (i + k : Nat))) H := hw
                                refine lv_aload_n C.1 C.2.1 dX8_next_311 rfl (lv_at hl 1 rfl) ?_
                                refine lv_dup C.1 C.2.1 dX8_next_312 rfl ?_
                                refine g8 C hw 70 (by omega) rfl 20 (by decide) mw_844 (svi (x := ((i + k : Nat) : Int)) ((st_n (by decide)).trans ((st_n (by decide)).trans ((st_n (by decide)).trans ((st_n (by decide)).trans hat))))) dX8_next_313 ?_
                                refine lv_iconst (v := II 1) C.1 C.2.1 dX8_next_316 rfl ?_
                                refine x_iadd C dX8_next_317 ?_
                                refine p8 C hw hS 70 (by omega) rfl 20 (by decide) mw_844 rfl (x := ((i + k : Nat) : Int) + 1) ⟨by omega, by omega⟩ (svi st_s) (tyX8_ok 20 (by decide)) rfl rfl dX8_next_318 (fun H locs hw hS => ?_)
                                have hw : Wo g (stM (stM (stM (stM (stM M2 70022 ((i + k : Nat) : Int)) 70021 4) 70021 3) 70023 (bA b n (i + k : Nat))) 70020 (((i + k : Nat) : Int) + 1)) H := hw
                                subst hQQ; exact x_return C hr hlk hw hS (by
    have hlt : ¬ ltB (b (i + k)) = true := fun q => by simp only [ltB, decide_eq_true_eq] at q; omega
    have hdt : ¬ dgB (b (i + k)) = true := fun q => by simp only [dgB, decide_eq_true_eq] at q; omega
    have eE : tE b n i = i + k + 1 := by unfold tE; rw [hend, if_neg (by omega), if_neg hlt, if_neg hdt]
    have hsg : ¬ sgT (b (i + k)) = 8 := by unfold sgT; (repeat' split) <;> omega
    have eT : mT b n i = 3 := by unfold mT; rw [hend, if_neg (by omega), if_neg hlt, if_neg hdt, if_neg hsg]
    refine ⟨⟨?_, ?_, fun q => ?_, fun q => absurd (eT.symm.trans q) (by decide), fun q => ?_⟩, fun m hm => ?_⟩
    · rw [st_n (by decide), st_n (by decide), st_s, eT]
    · rw [st_n (by decide), st_n (by decide), st_n (by decide), st_n (by decide), st_s, hend]
    · rw [st_s, eE]; omega
    · rw [st_n (by decide), st_s, hend]; omega
    · rw [st_n (by omega), st_n (by omega), st_n (by omega), st_n (by omega), st_n (by omega)]; exact hfr m (by omega)) dX8_next_321
          · refine lv_aload_n C.1 C.2.1 dX8_next_65 rfl (lv_at hl 1 rfl) ?_
            refine lv_iconst (v := II 0) C.1 C.2.1 dX8_next_66 rfl ?_
            refine p8 C hw hS 70 (by omega) rfl 21 (by decide) mw_845 rfl (x := 0) ⟨by decide, by decide⟩ (svi st_s) (tyX8_ok 21 (by decide)) rfl rfl dX8_next_67 (fun H locs hw hS => ?_)
            have hw : Wo g (stM (stM (stM M2 70022 ((i + k : Nat) : Int)) 70021 4) 70021 0) H := hw
            refine lv_aload_n C.1 C.2.1 dX8_next_70 rfl (lv_at hl 1 rfl) ?_
            refine lv_aload_n C.1 C.2.1 dX8_next_71 rfl (lv_at hl 1 rfl) ?_
            refine g8 C hw 70 (by omega) rfl 19 (by decide) mw_843 (svi (x := (n : Int)) ((st_n (by decide)).trans ((st_n (by decide)).trans ((st_n (by decide)).trans ((hfr _ (by omega)).trans hb.1))))) dX8_next_72 ?_
            refine p8 C hw hS 70 (by omega) rfl 22 (by decide) mw_846 rfl (x := (n : Int)) ⟨by omega, by omega⟩ (svi st_s) (tyX8_ok 22 (by decide)) rfl rfl dX8_next_75 (fun H locs hw hS => ?_)
            have hw : Wo g (stM (stM (stM (stM M2 70022 ((i + k : Nat) : Int)) 70021 4) 70021 0) 70022 (n : Int)) H := hw
            refine lv_goto (tgt := 321) C.1 C.2.1 dX8_next_78 (by decide) ?_
            subst hQQ; exact x_return C hr hlk hw hS (by
    have hge : n ≤ i + k := by omega
    have eE : tE b n i = i + k := by unfold tE; rw [hend, if_pos hge]
    have eT : mT b n i = 0 := by unfold mT; rw [hend, if_pos hge]
    refine ⟨⟨?_, ?_, fun q => ?_, fun q => absurd (eT.symm.trans q) (by decide), fun q => absurd (eT.symm.trans q) (by decide)⟩, fun m hm => ?_⟩
    · rw [st_n (by decide), st_s, eT]
    · rw [st_s, hend]; omega
    · rw [st_n (by decide), st_n (by decide), st_n (by decide), st_n (by decide), eE]; exact hat
    · rw [st_n (by omega), st_n (by omega), st_n (by omega), st_n (by omega)]; exact hfr m (by omega)) dX8_next_321
        · refine lv_aload_n C.1 C.2.1 dX8_next_26 rfl (lv_at hl 0 rfl) ?_
          refine lv_dup C.1 C.2.1 dX8_next_27 rfl ?_
          refine g8 C hw 70 (by omega) rfl 20 (by decide) mw_844 (svi (x := ((i + k : Nat) : Int)) hat) dX8_next_28 ?_
          refine lv_iconst (v := II 1) C.1 C.2.1 dX8_next_31 rfl ?_
          refine x_iadd C dX8_next_32 ?_
          refine p8 C hw hS 70 (by omega) rfl 20 (by decide) mw_844 rfl (x := ((i + k : Nat) : Int) + 1) ⟨by have := g_M2 70020; have := hat; omega, by have := g_M2 70020; have := hat; omega⟩ (svi st_s) (tyX8_ok 20 (by decide)) rfl rfl dX8_next_33 (fun H locs hw hS => ?_)
          have hw : Wo g (stM M2 70020 (((i + k : Nat) : Int) + 1)) H := hw
          refine lv_goto (tgt := 0) C.1 C.2.1 dX8_next_36 (by decide) ?_
          exact ih0  (k + 1) (stM M2 70020 (((i + k : Nat) : Int) + 1)) (by omega) (by omega) (by rw [st_s]; omega) (by rw [← hsk, show i + (k + 1) = i + k + 1 by omega]; exact (sk_s (by omega) (decide_eq_true (p := b (i + k) = 32 ∨ b (i + k) = 10) (by omega))).symm) (fun m q1 => by rw [st_n q1]; exact hfr m q1) _ _ _ hw hS (lv_sub hl [0] rfl)
  exact L0 _ 0 M (Nat.lt_succ_self _) (by omega) ha rfl (fun _ _ => rfl) _ _ _ hw hS (lv_sub hl [0] rfl)
