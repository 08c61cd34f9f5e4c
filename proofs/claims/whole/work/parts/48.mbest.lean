def SC3 (m : Nat) : Prop := scm m ∨ m = 70030 ∨ m = 70031
theorem swp_MB {M M' : Nat → Int} {n : Nat} {v : Nat → Nat → Int} {nt : Int} {t : Nat} {E : Ev} (h : MB M n v nt t E (-1)) {i j : Nat} (hi : i < n) (hj : j < n) (hij : i ≠ j) (hf : ∀ m, ¬ (sc4 m ∨ m = 75000 + (4 * i + 1) ∨ m = 75000 + (4 * j + 1)) → M' m = M m) (h1 : M' (75000 + (4 * i + 1)) = v j 2) (h2 : M' (75000 + (4 * j + 1)) = v i 2) : MB M' n (swp v i j) nt t E (-1) := by
  have hP := h.2.2.1
  have hn := h.1.2
  have r1 := (h.2.1.1 i hi (by omega)).2.2.2.2.2
  have r2 := (h.2.1.1 j hj (by omega)).2.2.2.2.2
  have a1 := hP i hi
  have a2 := hP j hj
  refine h.of (fun q hq f ps hp => ?_) (fun m hm => hf m (by unfold sc4 scm at *; omega)) ?_ (fun q hq => ?_)
  · unfold swp
    by_cases e : q = j ∧ f = 2
    · obtain ⟨rfl, rfl⟩ := e
      rw [upv_s, ← h2]
      unfold psP at hp
      congr 1; omega
    · rw [upv_n e]
      by_cases e2 : q = i ∧ f = 2
      · obtain ⟨rfl, rfl⟩ := e2
        rw [upv_s, ← h1]
        unfold psP at hp
        congr 1; omega
      · rw [upv_n e2, ← mb_at h hq hp]
        unfold psP at hp
        exact hf ps (by unfold sc4 scm; omega)
  · unfold swp
    exact (hP.up (by omega)).up (by omega)
  · unfold swp
    by_cases e : q = j ∧ 2 = 2
    · rw [e.1, upv_s]; exact r1
    · rw [upv_n e]
      by_cases e2 : q = i ∧ 2 = 2
      · rw [e2.1, upv_s]; exact r2
      · rw [upv_n e2]; exact (h.2.1.1 q hq (by omega)).2.2.2.2.2
def fewB (P : Nat → Prop) (o : Nat) (w : Int) : Prop := (w = -1 ∧ ∀ o', o' < o → ¬ P o') ∨ ∃ x : Nat, w = (x : Int) ∧ x < o ∧ P x ∧ ∀ o', o' < o → P o' → bc x < bc o' ∨ (bc x = bc o' ∧ x ≤ o')
theorem few_skip {P : Nat → Prop} {o x : Nat} (h : fewB P o (x : Int)) (h2 : bc x ≤ bc o) : fewB P (o + 1) (x : Int) := by
  rcases h with ⟨h, -⟩ | ⟨y, h, h3, h4, h5⟩
  · omega
  · obtain rfl : x = y := by omega
    refine Or.inr ⟨x, rfl, by omega, h4, fun o' ho hp => ?_⟩
    by_cases e : o' = o
    · subst e; omega
    · exact h5 o' (by omega) hp
theorem few_no {P : Nat → Prop} {o : Nat} {w : Int} (h : fewB P o w) (h2 : ¬ P o) : fewB P (o + 1) w := by
  rcases h with ⟨h, h3⟩ | ⟨y, h, h3, h4, h5⟩
  · refine Or.inl ⟨h, fun o' ho => ?_⟩
    by_cases e : o' = o
    · subst e; exact h2
    · exact h3 o' (by omega)
  · refine Or.inr ⟨y, h, by omega, h4, fun o' ho hp => ?_⟩
    by_cases e : o' = o
    · subst e; exact absurd hp h2
    · exact h5 o' (by omega) hp
theorem few_yes {P : Nat → Prop} {o : Nat} {w : Int} (h : fewB P o w) (h2 : P o) (h3 : w = -1 ∨ ∃ x : Nat, w = (x : Int) ∧ bc o < bc x) : fewB P (o + 1) (o : Int) := by
  refine Or.inr ⟨o, rfl, by omega, h2, fun o' ho hp => ?_⟩
  by_cases e : o' = o
  · subst e; omega
  · rcases h with ⟨h, h4⟩ | ⟨y, h, h4, h5, h6⟩
    · exact absurd hp (h4 o' (by omega))
    · rcases h3 with h3 | ⟨x, h3, h7⟩
      · omega
      · obtain rfl : x = y := by omega
        have := h6 o' (by omega) hp
        omega
theorem bc_dec : ∀ x, x < 64 → x ≠ 0 → (II (x : Nat) &&& (II (x : Nat) - II 1)) = II ((x &&& (x - 1) : Nat) : Int) ∧ (x &&& (x - 1)) < 64 ∧ bc x = bc (x &&& (x - 1)) + 1 ∧ (x &&& (x - 1)) < x := by decide +kernel
set_option maxHeartbeats 4000000 in
set_option maxRecDepth 100000 in
theorem c_X8_told (l : Launch) (g : Gm) (M : Nat → Int) (hF : LvF g) (n : Nat) (v : Nat → Nat → Int) (nt : Int) (pd : Int) (t : Nat) (X : Txt) (I : Option Bor) (Sh : Sht) (hR : RepM M (n, v, nt, pd, t) X I Sh) (hA : InvA (n, v, nt, pd, t) X I Sh) (q : Int) (gz_q : rg q) (w : Int) (gz_w : rg w) : CI l ({ cls := "RatedBySighsModel", name := "told", desc := "(II)I" } : Jvm.MethodName) cX8_told 4 .int (rmm 44 978) g M [.ref (gA g 70), .int (II q), .int (II w)] (fun r M' => r = r_told v n nt (X.2.1 t) q w ∧ (RepM M' (n, v, nt, pd, t) X I Sh) ∧ (∀ m, m < 70000 → M' m = M m)) := by
  refine c_start (by decide) (Nat.le_of_ble_eq_true rfl) (fun p e s m below meth c ls C hr hlk hml hw hS hl => ?_)
  have hl : lv_has ls 4 [(0, .ref (gA g 70)), (1, .int (II q)), (2, .int (II w))] := hl
  have g_M := hw.rg
  have hN : gN g = 84 := hF.1
  have hM : MB M n v nt t (X.2.1 t) (-1) := hR.mb hA
  have hn2 : n ≤ 8 := hM.1.2
  have hnt := hM.2.2.2.1.2
  have hpd : 0 ≤ pd ∧ pd ≤ 999999999 := hA.1.2.2.2.2.1
  have htc := hA.2.1
  have hts := hA.2.2.1.1
  have ht9 : t < X.1 := hA.1.2.2.2.2.2
  refine lv_iload_n C.1 C.2.1 dX8_told_0 rfl (lv_at hl 2 rfl) ?_
  refine x_i2l C gz_w dX8_told_1 ?_
  refine lv_ldc2 C.1 C.2.1 C.2.2.1 (C.2.2.2.1 _ mw_974) dX8_told_2 ?_
  rw [show (10 : Int64) = LL 10 from by decide]
  refine lv_ldc2 C.1 C.2.1 C.2.2.1 (C.2.2.2.1 _ mw_975) dX8_told_5 ?_
  rw [show (15 : Int64) = LL 15 from by decide]
  refine x_ci (x_runS (n := 3) C hw hS hml hl.1 (c_X8_in l g M w gz_w 10 ⟨by decide, by decide⟩ 15 ⟨by decide, by decide⟩) mw_957 mw_958 mw_130 mw_959 rfl rfl (by decide +kernel) ⟨Nat.le_of_ble_eq_true rfl, Nat.le_of_ble_eq_true rfl⟩ rfl rfl (Nat.le_of_ble_eq_true rfl) dX8_told_8 ⟨Nat.zero_le _, Nat.zero_le _⟩) hS (fun r8 M8 H locs hr8 hp hw hS => ?_)
  rcases hp with ⟨em8, (⟨er8, h8b⟩ | ⟨er8, h8b⟩)⟩
  · have hw : Wo g M H := em8 ▸ hw
    rw [er8]
    refine x_if_ne (tgt := 28) C ⟨by decide, by decide⟩ dX8_told_11 (by decide) (fun _ => ?_) (fun h => absurd h (by decide))
    refine lv_iconst (v := II 1) C.1 C.2.1 dX8_told_28 rfl ?_
    refine lv_goto (tgt := 33) C.1 C.2.1 dX8_told_29 (by decide) ?_
    refine lv_istore_n (lv' := [(3, .int (II 1)), (0, .ref (gA g 70)), (1, .int (II q)), (2, .int (II w))]) C.1 C.2.1 dX8_told_33 rfl hl (by decide) rfl (fun ls hl => ?_)
    refine lv_iload_n C.1 C.2.1 dX8_told_34 rfl (lv_at hl 3 rfl) ?_
    refine x_i2l C gz_w dX8_told_35 ?_
    refine lv_lconst (v := LL 0) C.1 C.2.1 dX8_told_36 (by decide) ?_
    refine lv_ldc2 C.1 C.2.1 C.2.2.1 (C.2.2.2.1 _ mw_978) dX8_told_37 ?_
    rw [show (6 : Int64) = LL 6 from by decide]
    refine x_ci (x_runS (n := 3) C hw hS hml hl.1 (c_X8_in l g M w gz_w 0 ⟨by decide, by decide⟩ 6 ⟨by decide, by decide⟩) mw_957 mw_958 mw_130 mw_959 rfl rfl (by decide +kernel) ⟨Nat.le_of_ble_eq_true rfl, Nat.le_of_ble_eq_true rfl⟩ rfl rfl (Nat.le_of_ble_eq_true rfl) dX8_told_40 ⟨Nat.zero_le _, Nat.zero_le _⟩) hS (fun r40 M40 H locs hr40 hp hw hS => ?_)
    rcases hp with ⟨em40, (⟨er40, h40b⟩ | ⟨er40, h40b⟩)⟩
    · have hw : Wo g M H := em40 ▸ hw
      rw [er40]
      refine x_if_ne (tgt := 50) C ⟨by decide, by decide⟩ dX8_told_43 (by decide) (fun _ => ?_) (fun h => absurd h (by decide))
      refine lv_iload_n C.1 C.2.1 dX8_told_50 rfl (lv_at hl 3 rfl) ?_
      refine x_if_le (tgt := 65) C gz_w dX8_told_51 (by decide) (fun c51 => ?_) (fun c51 => ?_)
      · refine lv_iload_n C.1 C.2.1 dX8_told_65 rfl (lv_at hl 0 rfl) ?_
        refine x_if_eq (tgt := 111) C ⟨by decide, by decide⟩ dX8_told_66 (by decide) (fun h => absurd h (by decide)) (fun _ => ?_)
        (exfalso; omega)
      · refine lv_aload_n C.1 C.2.1 dX8_told_54 rfl (lv_at hl 1 rfl) ?_
        refine lv_iload_n C.1 C.2.1 dX8_told_55 rfl (lv_at hl 2 rfl) ?_
        refine x_ci (x_runV (n := 1) C hw hS hml hl.1 70 8 (by omega) rfl (by decide) rfl (c_X8_isOne l g M hF n hM.1 q gz_q) mw_960 mw_962 mw_53 mw_130 mw_963 rfl rfl (by decide +kernel) ⟨Nat.le_of_ble_eq_true rfl, Nat.le_of_ble_eq_true rfl⟩ rfl rfl (Nat.le_of_ble_eq_true rfl) dX8_told_56 ⟨Nat.zero_le _, Nat.zero_le _⟩) hS (fun r56 M56 H locs hr56 hp hw hS => ?_)
        rcases hp with ⟨em56, (⟨er56, h56b⟩ | ⟨er56, h56b⟩)⟩
        · have hw : Wo g M H := em56 ▸ hw
          rw [er56]
          refine x_if_ne (tgt := 65) C ⟨by decide, by decide⟩ dX8_told_59 (by decide) (fun _ => ?_) (fun h => absurd h (by decide))
          refine lv_iload_n C.1 C.2.1 dX8_told_65 rfl (lv_at hl 0 rfl) ?_
          refine x_if_eq (tgt := 111) C ⟨by decide, by decide⟩ dX8_told_66 (by decide) (fun h => absurd h (by decide)) (fun _ => ?_)
          have hqn : 0 ≤ q ∧ q < n := h56b
          obtain ⟨i, rfl⟩ : ∃ i : Nat, q = (i : Int) := ⟨q.toNat, by omega⟩
          refine lv_aload_n C.1 C.2.1 dX8_told_69 rfl (lv_at hl 1 rfl) ?_
          refine x_cv (x_runV (n := 0) C hw hS hml hl.1 70 8 (by omega) rfl (by decide) rfl (c_X8_gathers l g M hF n v nt t (X.2.1 t) (-1) hM) mw_979 mw_981 mw_54 mw_130 mw_982 rfl rfl (by decide +kernel) ⟨Nat.le_of_ble_eq_true rfl, Nat.le_of_ble_eq_true rfl⟩ rfl rfl (Nat.le_of_ble_eq_true rfl) dX8_told_70 ⟨Nat.zero_le _, Nat.zero_le _⟩) hS (fun M70 H locs hp hw hS => ?_)
          obtain ⟨h70a, h70f⟩ := hp
          have g_M70 := hw.rg
          refine lv_iload_n C.1 C.2.1 dX8_told_73 rfl (lv_at hl 3 rfl) ?_
          refine lv_bipush (v := II 20) C.1 C.2.1 dX8_told_74 (by decide) ?_
          refine x_icmp_ge (tgt := 96) C gz_w ⟨by decide, by decide⟩ dX8_told_76 (by decide) (fun c76 => ?_) (fun c76 => ?_)
          · refine lv_aload_n C.1 C.2.1 dX8_told_96 rfl (lv_at hl 1 rfl) ?_
            refine g8 C hw 70 (by omega) rfl 29 (by decide) mw_853 (svr (hF.2 _)) dX8_told_97 ?_
            refine lv_bipush (v := II 6) C.1 C.2.1 dX8_told_100 (by decide) ?_
            refine lv_iload_n C.1 C.2.1 dX8_told_102 rfl (lv_at hl 2 rfl) ?_
            refine x_imul C dX8_told_103 ?_
            refine lv_iload_n C.1 C.2.1 dX8_told_104 rfl (lv_at hl 3 rfl) ?_
            refine x_iadd C dX8_told_105 ?_
            refine lv_bipush (v := II 20) C.1 C.2.1 dX8_told_106 (by decide) ?_
            refine x_isub C dX8_told_108 ?_
            refine x_iaload (L := 48) C hw 77 (by omega) rfl rfl (by omega) (by omega) (by decide) (x := M70 (77000 + (6 * i + (w - 20).toNat))) (congrArg (fun z => M70 (1000 * 77 + z)) (by omega)) dX8_told_109 ?_
            exact x_ireturn C hr hlk hw hS (g_M70 _) rfl ⟨(by rw [(h70a i (by omega) (by omega) (w - 20).toNat (by omega)).2, r_told, if_neg (by omega), if_neg (by omega), if_neg (by omega), if_neg (by omega), if_neg (by omega), if_neg (by omega), if_pos (by omega)]; rfl), (hR.fr hA (fun m hm _ => h70f m (fun z => hm (Or.inl z)))), (fun m hm => h70f m (by unfold scm; omega))⟩ dX8_told_110
          · refine lv_aload_n C.1 C.2.1 dX8_told_79 rfl (lv_at hl 1 rfl) ?_
            refine g8 C hw 70 (by omega) rfl 28 (by decide) mw_852 (svr (hF.2 _)) dX8_told_80 ?_
            refine lv_bipush (v := II 6) C.1 C.2.1 dX8_told_83 (by decide) ?_
            refine lv_iload_n C.1 C.2.1 dX8_told_85 rfl (lv_at hl 2 rfl) ?_
            refine x_imul C dX8_told_86 ?_
            refine lv_iload_n C.1 C.2.1 dX8_told_87 rfl (lv_at hl 3 rfl) ?_
            refine x_iadd C dX8_told_88 ?_
            refine lv_bipush (v := II 10) C.1 C.2.1 dX8_told_89 (by decide) ?_
            refine x_isub C dX8_told_91 ?_
            refine x_iaload (L := 48) C hw 76 (by omega) rfl rfl (by omega) (by omega) (by decide) (x := M70 (76000 + (6 * i + (w - 10).toNat))) (congrArg (fun z => M70 (1000 * 76 + z)) (by omega)) dX8_told_92 ?_
            refine lv_goto (tgt := 110) C.1 C.2.1 dX8_told_93 (by decide) ?_
            exact x_ireturn C hr hlk hw hS (g_M70 _) rfl ⟨(by rw [(h70a i (by omega) (by omega) (w - 10).toNat (by omega)).1, r_told, if_neg (by omega), if_neg (by omega), if_neg (by omega), if_neg (by omega), if_neg (by omega), if_pos (by omega)]; rfl), (hR.fr hA (fun m hm _ => h70f m (fun z => hm (Or.inl z)))), (fun m hm => h70f m (by unfold scm; omega))⟩ dX8_told_110
        · have hw : Wo g M H := em56 ▸ hw
          rw [er56]
          refine x_if_ne (tgt := 65) C ⟨by decide, by decide⟩ dX8_told_59 (by decide) (fun h => absurd h (by decide)) (fun _ => ?_)
          refine lv_bipush (v := II (-100)) C.1 C.2.1 dX8_told_62 (by decide) ?_
          exact x_ireturn C hr hlk hw hS ⟨by decide, by decide⟩ rfl ⟨(by unfold r_told; (repeat' split) <;> first | rfl | omega), hR, (fun _ _ => rfl)⟩ dX8_told_64
    · have hw : Wo g M H := em40 ▸ hw
      rw [er40]
      refine x_if_ne (tgt := 50) C ⟨by decide, by decide⟩ dX8_told_43 (by decide) (fun h => absurd h (by decide)) (fun _ => ?_)
      refine lv_iload_n C.1 C.2.1 dX8_told_46 rfl (lv_at hl 0 rfl) ?_
      refine x_if_eq (tgt := 62) C ⟨by decide, by decide⟩ dX8_told_47 (by decide) (fun h => absurd h (by decide)) (fun _ => ?_)
      refine lv_iload_n C.1 C.2.1 dX8_told_50 rfl (lv_at hl 3 rfl) ?_
      refine x_if_le (tgt := 65) C gz_w dX8_told_51 (by decide) (fun c51 => ?_) (fun c51 => ?_)
      · refine lv_iload_n C.1 C.2.1 dX8_told_65 rfl (lv_at hl 0 rfl) ?_
        refine x_if_eq (tgt := 111) C ⟨by decide, by decide⟩ dX8_told_66 (by decide) (fun h => absurd h (by decide)) (fun _ => ?_)
        (exfalso; omega)
      · refine lv_aload_n C.1 C.2.1 dX8_told_54 rfl (lv_at hl 1 rfl) ?_
        refine lv_iload_n C.1 C.2.1 dX8_told_55 rfl (lv_at hl 2 rfl) ?_
        refine x_ci (x_runV (n := 1) C hw hS hml hl.1 70 8 (by omega) rfl (by decide) rfl (c_X8_isOne l g M hF n hM.1 q gz_q) mw_960 mw_962 mw_53 mw_130 mw_963 rfl rfl (by decide +kernel) ⟨Nat.le_of_ble_eq_true rfl, Nat.le_of_ble_eq_true rfl⟩ rfl rfl (Nat.le_of_ble_eq_true rfl) dX8_told_56 ⟨Nat.zero_le _, Nat.zero_le _⟩) hS (fun r56 M56 H locs hr56 hp hw hS => ?_)
        rcases hp with ⟨em56, (⟨er56, h56b⟩ | ⟨er56, h56b⟩)⟩
        · have hw : Wo g M H := em56 ▸ hw
          rw [er56]
          refine x_if_ne (tgt := 65) C ⟨by decide, by decide⟩ dX8_told_59 (by decide) (fun _ => ?_) (fun h => absurd h (by decide))
          refine lv_iload_n C.1 C.2.1 dX8_told_65 rfl (lv_at hl 0 rfl) ?_
          refine x_if_eq (tgt := 111) C ⟨by decide, by decide⟩ dX8_told_66 (by decide) (fun h => absurd h (by decide)) (fun _ => ?_)
          have hqn : 0 ≤ q ∧ q < n := h56b
          obtain ⟨i, rfl⟩ : ∃ i : Nat, q = (i : Int) := ⟨q.toNat, by omega⟩
          refine lv_aload_n C.1 C.2.1 dX8_told_69 rfl (lv_at hl 1 rfl) ?_
          refine x_cv (x_runV (n := 0) C hw hS hml hl.1 70 8 (by omega) rfl (by decide) rfl (c_X8_gathers l g M hF n v nt t (X.2.1 t) (-1) hM) mw_979 mw_981 mw_54 mw_130 mw_982 rfl rfl (by decide +kernel) ⟨Nat.le_of_ble_eq_true rfl, Nat.le_of_ble_eq_true rfl⟩ rfl rfl (Nat.le_of_ble_eq_true rfl) dX8_told_70 ⟨Nat.zero_le _, Nat.zero_le _⟩) hS (fun M70 H locs hp hw hS => ?_)
          obtain ⟨h70a, h70f⟩ := hp
          have g_M70 := hw.rg
          refine lv_iload_n C.1 C.2.1 dX8_told_73 rfl (lv_at hl 3 rfl) ?_
          refine lv_bipush (v := II 20) C.1 C.2.1 dX8_told_74 (by decide) ?_
          refine x_icmp_ge (tgt := 96) C gz_w ⟨by decide, by decide⟩ dX8_told_76 (by decide) (fun c76 => ?_) (fun c76 => ?_)
          · refine lv_aload_n C.1 C.2.1 dX8_told_96 rfl (lv_at hl 1 rfl) ?_
            refine g8 C hw 70 (by omega) rfl 29 (by decide) mw_853 (svr (hF.2 _)) dX8_told_97 ?_
            refine lv_bipush (v := II 6) C.1 C.2.1 dX8_told_100 (by decide) ?_
            refine lv_iload_n C.1 C.2.1 dX8_told_102 rfl (lv_at hl 2 rfl) ?_
            refine x_imul C dX8_told_103 ?_
            refine lv_iload_n C.1 C.2.1 dX8_told_104 rfl (lv_at hl 3 rfl) ?_
            refine x_iadd C dX8_told_105 ?_
            refine lv_bipush (v := II 20) C.1 C.2.1 dX8_told_106 (by decide) ?_
            refine x_isub C dX8_told_108 ?_
            refine x_iaload (L := 48) C hw 77 (by omega) rfl rfl (by omega) (by omega) (by decide) (x := M70 (77000 + (6 * i + (w - 20).toNat))) (congrArg (fun z => M70 (1000 * 77 + z)) (by omega)) dX8_told_109 ?_
            exact x_ireturn C hr hlk hw hS (g_M70 _) rfl ⟨(by rw [(h70a i (by omega) (by omega) (w - 20).toNat (by omega)).2, r_told, if_neg (by omega), if_neg (by omega), if_neg (by omega), if_neg (by omega), if_neg (by omega), if_neg (by omega), if_pos (by omega)]; rfl), (hR.fr hA (fun m hm _ => h70f m (fun z => hm (Or.inl z)))), (fun m hm => h70f m (by unfold scm; omega))⟩ dX8_told_110
          · refine lv_aload_n C.1 C.2.1 dX8_told_79 rfl (lv_at hl 1 rfl) ?_
            refine g8 C hw 70 (by omega) rfl 28 (by decide) mw_852 (svr (hF.2 _)) dX8_told_80 ?_
            refine lv_bipush (v := II 6) C.1 C.2.1 dX8_told_83 (by decide) ?_
            refine lv_iload_n C.1 C.2.1 dX8_told_85 rfl (lv_at hl 2 rfl) ?_
            refine x_imul C dX8_told_86 ?_
            refine lv_iload_n C.1 C.2.1 dX8_told_87 rfl (lv_at hl 3 rfl) ?_
            refine x_iadd C dX8_told_88 ?_
            refine lv_bipush (v := II 10) C.1 C.2.1 dX8_told_89 (by decide) ?_
            refine x_isub C dX8_told_91 ?_
            refine x_iaload (L := 48) C hw 76 (by omega) rfl rfl (by omega) (by omega) (by decide) (x := M70 (76000 + (6 * i + (w - 10).toNat))) (congrArg (fun z => M70 (1000 * 76 + z)) (by omega)) dX8_told_92 ?_
            refine lv_goto (tgt := 110) C.1 C.2.1 dX8_told_93 (by decide) ?_
            exact x_ireturn C hr hlk hw hS (g_M70 _) rfl ⟨(by rw [(h70a i (by omega) (by omega) (w - 10).toNat (by omega)).1, r_told, if_neg (by omega), if_neg (by omega), if_neg (by omega), if_neg (by omega), if_neg (by omega), if_pos (by omega)]; rfl), (hR.fr hA (fun m hm _ => h70f m (fun z => hm (Or.inl z)))), (fun m hm => h70f m (by unfold scm; omega))⟩ dX8_told_110
        · have hw : Wo g M H := em56 ▸ hw
          rw [er56]
          refine x_if_ne (tgt := 65) C ⟨by decide, by decide⟩ dX8_told_59 (by decide) (fun h => absurd h (by decide)) (fun _ => ?_)
          refine lv_bipush (v := II (-100)) C.1 C.2.1 dX8_told_62 (by decide) ?_
          exact x_ireturn C hr hlk hw hS ⟨by decide, by decide⟩ rfl ⟨(by unfold r_told; (repeat' split) <;> first | rfl | omega), hR, (fun _ _ => rfl)⟩ dX8_told_64
  · have hw : Wo g M H := em8 ▸ hw
    rw [er8]
    refine x_if_ne (tgt := 28) C ⟨by decide, by decide⟩ dX8_told_11 (by decide) (fun h => absurd h (by decide)) (fun _ => ?_)
    refine lv_iload_n C.1 C.2.1 dX8_told_14 rfl (lv_at hl 2 rfl) ?_
    refine x_i2l C gz_w dX8_told_15 ?_
    refine lv_ldc2 C.1 C.2.1 C.2.2.1 (C.2.2.2.1 _ mw_976) dX8_told_16 ?_
    rw [show (20 : Int64) = LL 20 from by decide]
    refine lv_ldc2 C.1 C.2.1 C.2.2.1 (C.2.2.2.1 _ mw_977) dX8_told_19 ?_
    rw [show (25 : Int64) = LL 25 from by decide]
    refine x_ci (x_runS (n := 3) C hw hS hml hl.1 (c_X8_in l g M w gz_w 20 ⟨by decide, by decide⟩ 25 ⟨by decide, by decide⟩) mw_957 mw_958 mw_130 mw_959 rfl rfl (by decide +kernel) ⟨Nat.le_of_ble_eq_true rfl, Nat.le_of_ble_eq_true rfl⟩ rfl rfl (Nat.le_of_ble_eq_true rfl) dX8_told_22 ⟨Nat.zero_le _, Nat.zero_le _⟩) hS (fun r22 M22 H locs hr22 hp hw hS => ?_)
    rcases hp with ⟨em22, (⟨er22, h22b⟩ | ⟨er22, h22b⟩)⟩
    · have hw : Wo g M H := em22 ▸ hw
      rw [er22]
      refine x_if_eq (tgt := 32) C ⟨by decide, by decide⟩ dX8_told_25 (by decide) (fun h => absurd h (by decide)) (fun _ => ?_)
      refine lv_iconst (v := II 1) C.1 C.2.1 dX8_told_28 rfl ?_
      refine lv_goto (tgt := 33) C.1 C.2.1 dX8_told_29 (by decide) ?_
      refine lv_istore_n (lv' := [(3, .int (II 1)), (0, .ref (gA g 70)), (1, .int (II q)), (2, .int (II w))]) C.1 C.2.1 dX8_told_33 rfl hl (by decide) rfl (fun ls hl => ?_)
      refine lv_iload_n C.1 C.2.1 dX8_told_34 rfl (lv_at hl 3 rfl) ?_
      refine x_i2l C gz_w dX8_told_35 ?_
      refine lv_lconst (v := LL 0) C.1 C.2.1 dX8_told_36 (by decide) ?_
      refine lv_ldc2 C.1 C.2.1 C.2.2.1 (C.2.2.2.1 _ mw_978) dX8_told_37 ?_
      rw [show (6 : Int64) = LL 6 from by decide]
      refine x_ci (x_runS (n := 3) C hw hS hml hl.1 (c_X8_in l g M w gz_w 0 ⟨by decide, by decide⟩ 6 ⟨by decide, by decide⟩) mw_957 mw_958 mw_130 mw_959 rfl rfl (by decide +kernel) ⟨Nat.le_of_ble_eq_true rfl, Nat.le_of_ble_eq_true rfl⟩ rfl rfl (Nat.le_of_ble_eq_true rfl) dX8_told_40 ⟨Nat.zero_le _, Nat.zero_le _⟩) hS (fun r40 M40 H locs hr40 hp hw hS => ?_)
      rcases hp with ⟨em40, (⟨er40, h40b⟩ | ⟨er40, h40b⟩)⟩
      · have hw : Wo g M H := em40 ▸ hw
        rw [er40]
        refine x_if_ne (tgt := 50) C ⟨by decide, by decide⟩ dX8_told_43 (by decide) (fun _ => ?_) (fun h => absurd h (by decide))
        refine lv_iload_n C.1 C.2.1 dX8_told_50 rfl (lv_at hl 3 rfl) ?_
        refine x_if_le (tgt := 65) C gz_w dX8_told_51 (by decide) (fun c51 => ?_) (fun c51 => ?_)
        · refine lv_iload_n C.1 C.2.1 dX8_told_65 rfl (lv_at hl 0 rfl) ?_
          refine x_if_eq (tgt := 111) C ⟨by decide, by decide⟩ dX8_told_66 (by decide) (fun h => absurd h (by decide)) (fun _ => ?_)
          (exfalso; omega)
        · refine lv_aload_n C.1 C.2.1 dX8_told_54 rfl (lv_at hl 1 rfl) ?_
          refine lv_iload_n C.1 C.2.1 dX8_told_55 rfl (lv_at hl 2 rfl) ?_
          refine x_ci (x_runV (n := 1) C hw hS hml hl.1 70 8 (by omega) rfl (by decide) rfl (c_X8_isOne l g M hF n hM.1 q gz_q) mw_960 mw_962 mw_53 mw_130 mw_963 rfl rfl (by decide +kernel) ⟨Nat.le_of_ble_eq_true rfl, Nat.le_of_ble_eq_true rfl⟩ rfl rfl (Nat.le_of_ble_eq_true rfl) dX8_told_56 ⟨Nat.zero_le _, Nat.zero_le _⟩) hS (fun r56 M56 H locs hr56 hp hw hS => ?_)
          rcases hp with ⟨em56, (⟨er56, h56b⟩ | ⟨er56, h56b⟩)⟩
          · have hw : Wo g M H := em56 ▸ hw
            rw [er56]
            refine x_if_ne (tgt := 65) C ⟨by decide, by decide⟩ dX8_told_59 (by decide) (fun _ => ?_) (fun h => absurd h (by decide))
            refine lv_iload_n C.1 C.2.1 dX8_told_65 rfl (lv_at hl 0 rfl) ?_
            refine x_if_eq (tgt := 111) C ⟨by decide, by decide⟩ dX8_told_66 (by decide) (fun h => absurd h (by decide)) (fun _ => ?_)
            have hqn : 0 ≤ q ∧ q < n := h56b
            obtain ⟨i, rfl⟩ : ∃ i : Nat, q = (i : Int) := ⟨q.toNat, by omega⟩
            refine lv_aload_n C.1 C.2.1 dX8_told_69 rfl (lv_at hl 1 rfl) ?_
            refine x_cv (x_runV (n := 0) C hw hS hml hl.1 70 8 (by omega) rfl (by decide) rfl (c_X8_gathers l g M hF n v nt t (X.2.1 t) (-1) hM) mw_979 mw_981 mw_54 mw_130 mw_982 rfl rfl (by decide +kernel) ⟨Nat.le_of_ble_eq_true rfl, Nat.le_of_ble_eq_true rfl⟩ rfl rfl (Nat.le_of_ble_eq_true rfl) dX8_told_70 ⟨Nat.zero_le _, Nat.zero_le _⟩) hS (fun M70 H locs hp hw hS => ?_)
            obtain ⟨h70a, h70f⟩ := hp
            have g_M70 := hw.rg
            refine lv_iload_n C.1 C.2.1 dX8_told_73 rfl (lv_at hl 3 rfl) ?_
            refine lv_bipush (v := II 20) C.1 C.2.1 dX8_told_74 (by decide) ?_
            refine x_icmp_ge (tgt := 96) C gz_w ⟨by decide, by decide⟩ dX8_told_76 (by decide) (fun c76 => ?_) (fun c76 => ?_)
            · refine lv_aload_n C.1 C.2.1 dX8_told_96 rfl (lv_at hl 1 rfl) ?_
              refine g8 C hw 70 (by omega) rfl 29 (by decide) mw_853 (svr (hF.2 _)) dX8_told_97 ?_
              refine lv_bipush (v := II 6) C.1 C.2.1 dX8_told_100 (by decide) ?_
              refine lv_iload_n C.1 C.2.1 dX8_told_102 rfl (lv_at hl 2 rfl) ?_
              refine x_imul C dX8_told_103 ?_
              refine lv_iload_n C.1 C.2.1 dX8_told_104 rfl (lv_at hl 3 rfl) ?_
              refine x_iadd C dX8_told_105 ?_
              refine lv_bipush (v := II 20) C.1 C.2.1 dX8_told_106 (by decide) ?_
              refine x_isub C dX8_told_108 ?_
              refine x_iaload (L := 48) C hw 77 (by omega) rfl rfl (by omega) (by omega) (by decide) (x := M70 (77000 + (6 * i + (w - 20).toNat))) (congrArg (fun z => M70 (1000 * 77 + z)) (by omega)) dX8_told_109 ?_
              exact x_ireturn C hr hlk hw hS (g_M70 _) rfl ⟨(by rw [(h70a i (by omega) (by omega) (w - 20).toNat (by omega)).2, r_told, if_neg (by omega), if_neg (by omega), if_neg (by omega), if_neg (by omega), if_neg (by omega), if_neg (by omega), if_pos (by omega)]; rfl), (hR.fr hA (fun m hm _ => h70f m (fun z => hm (Or.inl z)))), (fun m hm => h70f m (by unfold scm; omega))⟩ dX8_told_110
            · refine lv_aload_n C.1 C.2.1 dX8_told_79 rfl (lv_at hl 1 rfl) ?_
              refine g8 C hw 70 (by omega) rfl 28 (by decide) mw_852 (svr (hF.2 _)) dX8_told_80 ?_
              refine lv_bipush (v := II 6) C.1 C.2.1 dX8_told_83 (by decide) ?_
              refine lv_iload_n C.1 C.2.1 dX8_told_85 rfl (lv_at hl 2 rfl) ?_
              refine x_imul C dX8_told_86 ?_
              refine lv_iload_n C.1 C.2.1 dX8_told_87 rfl (lv_at hl 3 rfl) ?_
              refine x_iadd C dX8_told_88 ?_
              refine lv_bipush (v := II 10) C.1 C.2.1 dX8_told_89 (by decide) ?_
              refine x_isub C dX8_told_91 ?_
              refine x_iaload (L := 48) C hw 76 (by omega) rfl rfl (by omega) (by omega) (by decide) (x := M70 (76000 + (6 * i + (w - 10).toNat))) (congrArg (fun z => M70 (1000 * 76 + z)) (by omega)) dX8_told_92 ?_
              refine lv_goto (tgt := 110) C.1 C.2.1 dX8_told_93 (by decide) ?_
              exact x_ireturn C hr hlk hw hS (g_M70 _) rfl ⟨(by rw [(h70a i (by omega) (by omega) (w - 10).toNat (by omega)).1, r_told, if_neg (by omega), if_neg (by omega), if_neg (by omega), if_neg (by omega), if_neg (by omega), if_pos (by omega)]; rfl), (hR.fr hA (fun m hm _ => h70f m (fun z => hm (Or.inl z)))), (fun m hm => h70f m (by unfold scm; omega))⟩ dX8_told_110
          · have hw : Wo g M H := em56 ▸ hw
            rw [er56]
            refine x_if_ne (tgt := 65) C ⟨by decide, by decide⟩ dX8_told_59 (by decide) (fun h => absurd h (by decide)) (fun _ => ?_)
            refine lv_bipush (v := II (-100)) C.1 C.2.1 dX8_told_62 (by decide) ?_
            exact x_ireturn C hr hlk hw hS ⟨by decide, by decide⟩ rfl ⟨(by unfold r_told; (repeat' split) <;> first | rfl | omega), hR, (fun _ _ => rfl)⟩ dX8_told_64
      · have hw : Wo g M H := em40 ▸ hw
        rw [er40]
        refine x_if_ne (tgt := 50) C ⟨by decide, by decide⟩ dX8_told_43 (by decide) (fun h => absurd h (by decide)) (fun _ => ?_)
        refine lv_iload_n C.1 C.2.1 dX8_told_46 rfl (lv_at hl 0 rfl) ?_
        refine x_if_eq (tgt := 62) C ⟨by decide, by decide⟩ dX8_told_47 (by decide) (fun h => absurd h (by decide)) (fun _ => ?_)
        refine lv_iload_n C.1 C.2.1 dX8_told_50 rfl (lv_at hl 3 rfl) ?_
        refine x_if_le (tgt := 65) C gz_w dX8_told_51 (by decide) (fun c51 => ?_) (fun c51 => ?_)
        · refine lv_iload_n C.1 C.2.1 dX8_told_65 rfl (lv_at hl 0 rfl) ?_
          refine x_if_eq (tgt := 111) C ⟨by decide, by decide⟩ dX8_told_66 (by decide) (fun h => absurd h (by decide)) (fun _ => ?_)
          (exfalso; omega)
        · refine lv_aload_n C.1 C.2.1 dX8_told_54 rfl (lv_at hl 1 rfl) ?_
          refine lv_iload_n C.1 C.2.1 dX8_told_55 rfl (lv_at hl 2 rfl) ?_
          refine x_ci (x_runV (n := 1) C hw hS hml hl.1 70 8 (by omega) rfl (by decide) rfl (c_X8_isOne l g M hF n hM.1 q gz_q) mw_960 mw_962 mw_53 mw_130 mw_963 rfl rfl (by decide +kernel) ⟨Nat.le_of_ble_eq_true rfl, Nat.le_of_ble_eq_true rfl⟩ rfl rfl (Nat.le_of_ble_eq_true rfl) dX8_told_56 ⟨Nat.zero_le _, Nat.zero_le _⟩) hS (fun r56 M56 H locs hr56 hp hw hS => ?_)
          rcases hp with ⟨em56, (⟨er56, h56b⟩ | ⟨er56, h56b⟩)⟩
          · have hw : Wo g M H := em56 ▸ hw
            rw [er56]
            refine x_if_ne (tgt := 65) C ⟨by decide, by decide⟩ dX8_told_59 (by decide) (fun _ => ?_) (fun h => absurd h (by decide))
            refine lv_iload_n C.1 C.2.1 dX8_told_65 rfl (lv_at hl 0 rfl) ?_
            refine x_if_eq (tgt := 111) C ⟨by decide, by decide⟩ dX8_told_66 (by decide) (fun h => absurd h (by decide)) (fun _ => ?_)
            have hqn : 0 ≤ q ∧ q < n := h56b
            obtain ⟨i, rfl⟩ : ∃ i : Nat, q = (i : Int) := ⟨q.toNat, by omega⟩
            refine lv_aload_n C.1 C.2.1 dX8_told_69 rfl (lv_at hl 1 rfl) ?_
            refine x_cv (x_runV (n := 0) C hw hS hml hl.1 70 8 (by omega) rfl (by decide) rfl (c_X8_gathers l g M hF n v nt t (X.2.1 t) (-1) hM) mw_979 mw_981 mw_54 mw_130 mw_982 rfl rfl (by decide +kernel) ⟨Nat.le_of_ble_eq_true rfl, Nat.le_of_ble_eq_true rfl⟩ rfl rfl (Nat.le_of_ble_eq_true rfl) dX8_told_70 ⟨Nat.zero_le _, Nat.zero_le _⟩) hS (fun M70 H locs hp hw hS => ?_)
            obtain ⟨h70a, h70f⟩ := hp
            have g_M70 := hw.rg
            refine lv_iload_n C.1 C.2.1 dX8_told_73 rfl (lv_at hl 3 rfl) ?_
            refine lv_bipush (v := II 20) C.1 C.2.1 dX8_told_74 (by decide) ?_
            refine x_icmp_ge (tgt := 96) C gz_w ⟨by decide, by decide⟩ dX8_told_76 (by decide) (fun c76 => ?_) (fun c76 => ?_)
            · refine lv_aload_n C.1 C.2.1 dX8_told_96 rfl (lv_at hl 1 rfl) ?_
              refine g8 C hw 70 (by omega) rfl 29 (by decide) mw_853 (svr (hF.2 _)) dX8_told_97 ?_
              refine lv_bipush (v := II 6) C.1 C.2.1 dX8_told_100 (by decide) ?_
              refine lv_iload_n C.1 C.2.1 dX8_told_102 rfl (lv_at hl 2 rfl) ?_
              refine x_imul C dX8_told_103 ?_
              refine lv_iload_n C.1 C.2.1 dX8_told_104 rfl (lv_at hl 3 rfl) ?_
              refine x_iadd C dX8_told_105 ?_
              refine lv_bipush (v := II 20) C.1 C.2.1 dX8_told_106 (by decide) ?_
              refine x_isub C dX8_told_108 ?_
              refine x_iaload (L := 48) C hw 77 (by omega) rfl rfl (by omega) (by omega) (by decide) (x := M70 (77000 + (6 * i + (w - 20).toNat))) (congrArg (fun z => M70 (1000 * 77 + z)) (by omega)) dX8_told_109 ?_
              exact x_ireturn C hr hlk hw hS (g_M70 _) rfl ⟨(by rw [(h70a i (by omega) (by omega) (w - 20).toNat (by omega)).2, r_told, if_neg (by omega), if_neg (by omega), if_neg (by omega), if_neg (by omega), if_neg (by omega), if_neg (by omega), if_pos (by omega)]; rfl), (hR.fr hA (fun m hm _ => h70f m (fun z => hm (Or.inl z)))), (fun m hm => h70f m (by unfold scm; omega))⟩ dX8_told_110
            · refine lv_aload_n C.1 C.2.1 dX8_told_79 rfl (lv_at hl 1 rfl) ?_
              refine g8 C hw 70 (by omega) rfl 28 (by decide) mw_852 (svr (hF.2 _)) dX8_told_80 ?_
              refine lv_bipush (v := II 6) C.1 C.2.1 dX8_told_83 (by decide) ?_
              refine lv_iload_n C.1 C.2.1 dX8_told_85 rfl (lv_at hl 2 rfl) ?_
              refine x_imul C dX8_told_86 ?_
              refine lv_iload_n C.1 C.2.1 dX8_told_87 rfl (lv_at hl 3 rfl) ?_
              refine x_iadd C dX8_told_88 ?_
              refine lv_bipush (v := II 10) C.1 C.2.1 dX8_told_89 (by decide) ?_
              refine x_isub C dX8_told_91 ?_
              refine x_iaload (L := 48) C hw 76 (by omega) rfl rfl (by omega) (by omega) (by decide) (x := M70 (76000 + (6 * i + (w - 10).toNat))) (congrArg (fun z => M70 (1000 * 76 + z)) (by omega)) dX8_told_92 ?_
              refine lv_goto (tgt := 110) C.1 C.2.1 dX8_told_93 (by decide) ?_
              exact x_ireturn C hr hlk hw hS (g_M70 _) rfl ⟨(by rw [(h70a i (by omega) (by omega) (w - 10).toNat (by omega)).1, r_told, if_neg (by omega), if_neg (by omega), if_neg (by omega), if_neg (by omega), if_neg (by omega), if_pos (by omega)]; rfl), (hR.fr hA (fun m hm _ => h70f m (fun z => hm (Or.inl z)))), (fun m hm => h70f m (by unfold scm; omega))⟩ dX8_told_110
          · have hw : Wo g M H := em56 ▸ hw
            rw [er56]
            refine x_if_ne (tgt := 65) C ⟨by decide, by decide⟩ dX8_told_59 (by decide) (fun h => absurd h (by decide)) (fun _ => ?_)
            refine lv_bipush (v := II (-100)) C.1 C.2.1 dX8_told_62 (by decide) ?_
            exact x_ireturn C hr hlk hw hS ⟨by decide, by decide⟩ rfl ⟨(by unfold r_told; (repeat' split) <;> first | rfl | omega), hR, (fun _ _ => rfl)⟩ dX8_told_64
    · have hw : Wo g M H := em22 ▸ hw
      rw [er22]
      refine x_if_eq (tgt := 32) C ⟨by decide, by decide⟩ dX8_told_25 (by decide) (fun _ => ?_) (fun h => absurd h (by decide))
      refine lv_iconst (v := II 0) C.1 C.2.1 dX8_told_32 rfl ?_
      refine lv_istore_n (lv' := [(3, .int (II 0)), (0, .ref (gA g 70)), (1, .int (II q)), (2, .int (II w))]) C.1 C.2.1 dX8_told_33 rfl hl (by decide) rfl (fun ls hl => ?_)
      refine lv_iload_n C.1 C.2.1 dX8_told_34 rfl (lv_at hl 3 rfl) ?_
      refine x_i2l C gz_w dX8_told_35 ?_
      refine lv_lconst (v := LL 0) C.1 C.2.1 dX8_told_36 (by decide) ?_
      refine lv_ldc2 C.1 C.2.1 C.2.2.1 (C.2.2.2.1 _ mw_978) dX8_told_37 ?_
      rw [show (6 : Int64) = LL 6 from by decide]
      refine x_ci (x_runS (n := 3) C hw hS hml hl.1 (c_X8_in l g M w gz_w 0 ⟨by decide, by decide⟩ 6 ⟨by decide, by decide⟩) mw_957 mw_958 mw_130 mw_959 rfl rfl (by decide +kernel) ⟨Nat.le_of_ble_eq_true rfl, Nat.le_of_ble_eq_true rfl⟩ rfl rfl (Nat.le_of_ble_eq_true rfl) dX8_told_40 ⟨Nat.zero_le _, Nat.zero_le _⟩) hS (fun r40 M40 H locs hr40 hp hw hS => ?_)
      rcases hp with ⟨em40, (⟨er40, h40b⟩ | ⟨er40, h40b⟩)⟩
      · have hw : Wo g M H := em40 ▸ hw
        rw [er40]
        refine x_if_ne (tgt := 50) C ⟨by decide, by decide⟩ dX8_told_43 (by decide) (fun _ => ?_) (fun h => absurd h (by decide))
        refine lv_iload_n C.1 C.2.1 dX8_told_50 rfl (lv_at hl 3 rfl) ?_
        refine x_if_le (tgt := 65) C gz_w dX8_told_51 (by decide) (fun c51 => ?_) (fun c51 => ?_)
        · refine lv_iload_n C.1 C.2.1 dX8_told_65 rfl (lv_at hl 0 rfl) ?_
          refine x_if_eq (tgt := 111) C ⟨by decide, by decide⟩ dX8_told_66 (by decide) (fun _ => ?_) (fun h => absurd h (by decide))
          refine lv_iload_n C.1 C.2.1 dX8_told_111 rfl (lv_at hl 3 rfl) ?_
          refine x_if_ne (tgt := 122) C gz_w dX8_told_112 (by decide) (fun c112 => ?_) (fun c112 => ?_)
          · (exfalso; omega)
          · refine lv_aload_n C.1 C.2.1 dX8_told_115 rfl (lv_at hl 1 rfl) ?_
            refine g8 C hw 70 (by omega) rfl 7 (by decide) mw_831 (svi (x := nt) hM.2.2.2.1.1) dX8_told_116 ?_
            refine lv_goto (tgt := 169) C.1 C.2.1 dX8_told_119 (by decide) ?_
            exact x_ireturn C hr hlk hw hS ⟨by have := g_M 70007; have := hM.2.2.2.1.1; omega, by have := g_M 70007; have := hM.2.2.2.1.1; omega⟩ rfl ⟨(by unfold r_told; (repeat' split) <;> first | rfl | omega | (exfalso; omega)), hR, (fun _ _ => rfl)⟩ dX8_told_169
        · refine lv_aload_n C.1 C.2.1 dX8_told_54 rfl (lv_at hl 1 rfl) ?_
          refine lv_iload_n C.1 C.2.1 dX8_told_55 rfl (lv_at hl 2 rfl) ?_
          refine x_ci (x_runV (n := 1) C hw hS hml hl.1 70 8 (by omega) rfl (by decide) rfl (c_X8_isOne l g M hF n hM.1 q gz_q) mw_960 mw_962 mw_53 mw_130 mw_963 rfl rfl (by decide +kernel) ⟨Nat.le_of_ble_eq_true rfl, Nat.le_of_ble_eq_true rfl⟩ rfl rfl (Nat.le_of_ble_eq_true rfl) dX8_told_56 ⟨Nat.zero_le _, Nat.zero_le _⟩) hS (fun r56 M56 H locs hr56 hp hw hS => ?_)
          rcases hp with ⟨em56, (⟨er56, h56b⟩ | ⟨er56, h56b⟩)⟩
          · have hw : Wo g M H := em56 ▸ hw
            rw [er56]
            refine x_if_ne (tgt := 65) C ⟨by decide, by decide⟩ dX8_told_59 (by decide) (fun _ => ?_) (fun h => absurd h (by decide))
            refine lv_iload_n C.1 C.2.1 dX8_told_65 rfl (lv_at hl 0 rfl) ?_
            refine x_if_eq (tgt := 111) C ⟨by decide, by decide⟩ dX8_told_66 (by decide) (fun _ => ?_) (fun h => absurd h (by decide))
            refine lv_iload_n C.1 C.2.1 dX8_told_111 rfl (lv_at hl 3 rfl) ?_
            refine x_if_ne (tgt := 122) C gz_w dX8_told_112 (by decide) (fun c112 => ?_) (fun c112 => ?_)
            · have hqn : 0 ≤ q ∧ q < n := h56b
              obtain ⟨i, rfl⟩ : ∃ i : Nat, q = (i : Int) := ⟨q.toNat, by omega⟩
              refine lv_iload_n C.1 C.2.1 dX8_told_122 rfl (lv_at hl 3 rfl) ?_
              refine lv_iconst (v := II 5) C.1 C.2.1 dX8_told_123 rfl ?_
              refine x_icmp_ge (tgt := 142) C gz_w ⟨by decide, by decide⟩ dX8_told_124 (by decide) (fun c124 => ?_) (fun c124 => ?_)
              · refine lv_iload_n C.1 C.2.1 dX8_told_142 rfl (lv_at hl 3 rfl) ?_
                refine lv_iconst (v := II 5) C.1 C.2.1 dX8_told_143 rfl ?_
                refine x_icmp_ne (tgt := 156) C gz_w ⟨by decide, by decide⟩ dX8_told_144 (by decide) (fun c144 => ?_) (fun c144 => ?_)
                · refine lv_aload_n C.1 C.2.1 dX8_told_156 rfl (lv_at hl 1 rfl) ?_
                  refine lv_iload_n C.1 C.2.1 dX8_told_157 rfl (lv_at hl 2 rfl) ?_
                  refine x_ci (x_runV (n := 1) C hw hS hml hl.1 70 8 (by omega) rfl (by decide) rfl (c_X8_isExempt l g M hF n v nt t (X.2.1 t) (-1) hM i ⟨by omega, by omega⟩) mw_1196 mw_1198 mw_106 mw_130 mw_1199 rfl rfl (by decide +kernel) ⟨Nat.le_of_ble_eq_true rfl, Nat.le_of_ble_eq_true rfl⟩ rfl rfl (Nat.le_of_ble_eq_true rfl) dX8_told_158 ⟨Nat.zero_le _, Nat.zero_le _⟩) hS (fun r158 M158 H locs hr158 hp hw hS => ?_)
                  rcases hp with ⟨em158, (⟨er158, h158b⟩ | ⟨er158, h158b⟩)⟩
                  · have hw : Wo g M H := em158 ▸ hw
                    rw [er158]
                    refine x_if_eq (tgt := 168) C ⟨by decide, by decide⟩ dX8_told_161 (by decide) (fun h => absurd h (by decide)) (fun _ => ?_)
                    refine lv_iconst (v := II 1) C.1 C.2.1 dX8_told_164 rfl ?_
                    refine lv_goto (tgt := 169) C.1 C.2.1 dX8_told_165 (by decide) ?_
                    exact x_ireturn C hr hlk hw hS ⟨by decide, by decide⟩ rfl ⟨(by rw [r_told, if_neg (by omega), if_neg (by omega), if_neg (by omega), if_neg (by omega), if_pos (by omega)]; show _ = (if exB (v i 0) (v i 1) nt = true then (1 : Int) else 0); rw [h158b]; rfl), hR, (fun _ _ => rfl)⟩ dX8_told_169
                  · have hw : Wo g M H := em158 ▸ hw
                    rw [er158]
                    refine x_if_eq (tgt := 168) C ⟨by decide, by decide⟩ dX8_told_161 (by decide) (fun _ => ?_) (fun h => absurd h (by decide))
                    refine lv_iconst (v := II 0) C.1 C.2.1 dX8_told_168 rfl ?_
                    exact x_ireturn C hr hlk hw hS ⟨by decide, by decide⟩ rfl ⟨(by rw [r_told, if_neg (by omega), if_neg (by omega), if_neg (by omega), if_neg (by omega), if_pos (by omega)]; show _ = (if exB (v i 0) (v i 1) nt = true then (1 : Int) else 0); rw [h158b]; rfl), hR, (fun _ _ => rfl)⟩ dX8_told_169
                · refine lv_aload_n C.1 C.2.1 dX8_told_147 rfl (lv_at hl 1 rfl) ?_
                  refine g8 C hw 70 (by omega) rfl 9 (by decide) mw_833 (svr (hF.2 _)) dX8_told_148 ?_
                  refine lv_iload_n C.1 C.2.1 dX8_told_151 rfl (lv_at hl 2 rfl) ?_
                  refine x_iaload (L := 8) C hw 74 (by omega) rfl rfl (by omega) (by omega) (by decide) (x := v i 0) ((hM.2.1.1 i (by omega) (by omega)).1) dX8_told_152 ?_
                  refine lv_goto (tgt := 169) C.1 C.2.1 dX8_told_153 (by decide) ?_
                  exact x_ireturn C hr hlk hw hS ⟨by have := g_M (74000 + i); have := ((hM.2.1.1 i (by omega) (by omega)).1); omega, by have := g_M (74000 + i); have := ((hM.2.1.1 i (by omega) (by omega)).1); omega⟩ rfl ⟨(by unfold r_told; (repeat' split) <;> first | rfl | omega | (exfalso; omega)), hR, (fun _ _ => rfl)⟩ dX8_told_169
              · refine lv_aload_n C.1 C.2.1 dX8_told_127 rfl (lv_at hl 1 rfl) ?_
                refine g8 C hw 70 (by omega) rfl 10 (by decide) mw_834 (svr (hF.2 _)) dX8_told_128 ?_
                refine lv_iconst (v := II 4) C.1 C.2.1 dX8_told_131 rfl ?_
                refine lv_iload_n C.1 C.2.1 dX8_told_132 rfl (lv_at hl 2 rfl) ?_
                refine x_imul C dX8_told_133 ?_
                refine lv_iload_n C.1 C.2.1 dX8_told_134 rfl (lv_at hl 3 rfl) ?_
                refine x_iadd C dX8_told_135 ?_
                refine lv_iconst (v := II 1) C.1 C.2.1 dX8_told_136 rfl ?_
                refine x_isub C dX8_told_137 ?_
                refine x_iaload (L := 32) C hw 75 (by omega) rfl rfl (by omega) (by omega) (by decide) (x := M (75000 + (4 * i + (w - 1).toNat))) (congrArg (fun z => M (1000 * 75 + z)) (by omega)) dX8_told_138 ?_
                refine lv_goto (tgt := 169) C.1 C.2.1 dX8_told_139 (by decide) ?_
                exact x_ireturn C hr hlk hw hS (g_M _) rfl ⟨(by rw [bor_at (f := w.toNat) hR.1 (show i < n by omega) (Or.inr (by omega)), r_told, if_neg (by omega), if_neg (by omega), if_pos (by omega)]; rfl), hR, (fun _ _ => rfl)⟩ dX8_told_169
            · refine lv_aload_n C.1 C.2.1 dX8_told_115 rfl (lv_at hl 1 rfl) ?_
              refine g8 C hw 70 (by omega) rfl 7 (by decide) mw_831 (svi (x := nt) hM.2.2.2.1.1) dX8_told_116 ?_
              refine lv_goto (tgt := 169) C.1 C.2.1 dX8_told_119 (by decide) ?_
              exact x_ireturn C hr hlk hw hS ⟨by have := g_M 70007; have := hM.2.2.2.1.1; omega, by have := g_M 70007; have := hM.2.2.2.1.1; omega⟩ rfl ⟨(by unfold r_told; (repeat' split) <;> first | rfl | omega | (exfalso; omega)), hR, (fun _ _ => rfl)⟩ dX8_told_169
          · have hw : Wo g M H := em56 ▸ hw
            rw [er56]
            refine x_if_ne (tgt := 65) C ⟨by decide, by decide⟩ dX8_told_59 (by decide) (fun h => absurd h (by decide)) (fun _ => ?_)
            refine lv_bipush (v := II (-100)) C.1 C.2.1 dX8_told_62 (by decide) ?_
            exact x_ireturn C hr hlk hw hS ⟨by decide, by decide⟩ rfl ⟨(by unfold r_told; (repeat' split) <;> first | rfl | omega), hR, (fun _ _ => rfl)⟩ dX8_told_64
      · have hw : Wo g M H := em40 ▸ hw
        rw [er40]
        refine x_if_ne (tgt := 50) C ⟨by decide, by decide⟩ dX8_told_43 (by decide) (fun h => absurd h (by decide)) (fun _ => ?_)
        refine lv_iload_n C.1 C.2.1 dX8_told_46 rfl (lv_at hl 0 rfl) ?_
        refine x_if_eq (tgt := 62) C ⟨by decide, by decide⟩ dX8_told_47 (by decide) (fun _ => ?_) (fun h => absurd h (by decide))
        refine lv_bipush (v := II (-100)) C.1 C.2.1 dX8_told_62 (by decide) ?_
        exact x_ireturn C hr hlk hw hS ⟨by decide, by decide⟩ rfl ⟨(by unfold r_told; (repeat' split) <;> first | rfl | omega), hR, (fun _ _ => rfl)⟩ dX8_told_64

set_option maxHeartbeats 4000000 in
set_option maxRecDepth 100000 in
theorem c_X8_set (l : Launch) (g : Gm) (M : Nat → Int) (hF : LvF g) (n : Nat) (v : Nat → Nat → Int) (nt : Int) (pd : Int) (t : Nat) (X : Txt) (I : Option Bor) (Sh : Sht) (hR : RepM M (n, v, nt, pd, t) X I Sh) (hA : InvA (n, v, nt, pd, t) X I Sh) (w : Int) (gz_w : rg w) (q : Int) (gz_q : rg q) (x : Int) (gz_x : rg x) : CI l ({ cls := "RatedBySighsModel", name := "set", desc := "(III)I" } : Jvm.MethodName) cX8_set 5 .int (rmm 45 1001) g M [.ref (gA g 70), .int (II w), .int (II q), .int (II x)] (fun r M' => r = r_set v n nt w q x ∧ (RepM M' (n, v_set v n w q x, nt_set n nt w q x, pd, t) X I Sh) ∧ (∀ m, m < 70000 → M' m = M m)) := by
  refine c_start (by decide) (Nat.le_of_ble_eq_true rfl) (fun p e s m below meth c ls C hr hlk hml hw hS hl => ?_)
  have hl : lv_has ls 5 [(0, .ref (gA g 70)), (1, .int (II w)), (2, .int (II q)), (3, .int (II x))] := hl
  have g_M := hw.rg
  have hN : gN g = 84 := hF.1
  have hM : MB M n v nt t (X.2.1 t) (-1) := hR.mb hA
  have hn2 : n ≤ 8 := hM.1.2
  have hnt := hM.2.2.2.1.2
  have hpd : 0 ≤ pd ∧ pd ≤ 999999999 := hA.1.2.2.2.2.1
  have htc := hA.2.1
  have hts := hA.2.2.1.1
  have ht9 : t < X.1 := hA.1.2.2.2.2.2
  refine lv_iload_n C.1 C.2.1 dX8_set_0 rfl (lv_at hl 1 rfl) ?_
  refine x_i2l C gz_w dX8_set_1 ?_
  refine lv_lconst (v := LL 0) C.1 C.2.1 dX8_set_2 (by decide) ?_
  refine lv_ldc2 C.1 C.2.1 C.2.2.1 (C.2.2.2.1 _ mw_956) dX8_set_3 ?_
  rw [show (4 : Int64) = LL 4 from by decide]
  refine x_ci (x_runS (n := 3) C hw hS hml hl.1 (c_X8_in l g M w gz_w 0 ⟨by decide, by decide⟩ 4 ⟨by decide, by decide⟩) mw_957 mw_958 mw_130 mw_959 rfl rfl (by decide +kernel) ⟨Nat.le_of_ble_eq_true rfl, Nat.le_of_ble_eq_true rfl⟩ rfl rfl (Nat.le_of_ble_eq_true rfl) dX8_set_6 ⟨Nat.zero_le _, Nat.zero_le _⟩) hS (fun r6 M6 H locs hr6 hp hw hS => ?_)
  rcases hp with ⟨em6, (⟨er6, h6b⟩ | ⟨er6, h6b⟩)⟩
  · have hw : Wo g M H := em6 ▸ hw
    rw [er6]
    refine x_if_eq (tgt := 42) C ⟨by decide, by decide⟩ dX8_set_9 (by decide) (fun h => absurd h (by decide)) (fun _ => ?_)
    obtain ⟨i, rfl⟩ : ∃ i : Nat, w = (i : Int) := ⟨w.toNat, by omega⟩
    have hw6 : 0 ≤ (i : Int) ∧ (i : Int) ≤ 4 := h6b
    have hlr := lo_rg i (by omega)
    have hhr := hi_rg i (by omega)
    refine lv_iload_n C.1 C.2.1 dX8_set_12 rfl (lv_at hl 1 rfl) ?_
    refine x_if_le (tgt := 24) C ⟨by omega, by omega⟩ dX8_set_13 (by decide) (fun c13 => ?_) (fun c13 => ?_)
    · skip
      refine lv_iload_n C.1 C.2.1 dX8_set_24 rfl (lv_at hl 3 rfl) ?_
      refine x_i2l C gz_x dX8_set_25 ?_
      refine lv_iload_n C.1 C.2.1 dX8_set_26 rfl (lv_at hl 1 rfl) ?_
      refine x_ci (x_runS (n := 1) C hw hS hml hl.1 (c_X8_leastOf l g M i (by omega)) mw_964 mw_965 mw_130 mw_966 rfl rfl (by decide +kernel) ⟨Nat.le_of_ble_eq_true rfl, Nat.le_of_ble_eq_true rfl⟩ rfl rfl (Nat.le_of_ble_eq_true rfl) dX8_set_27 ⟨Nat.zero_le _, Nat.zero_le _⟩) hS (fun r27 M27 H locs hr27 hp hw hS => ?_)
      obtain ⟨em27, er27⟩ := hp
      have hw : Wo g M H := em27 ▸ hw
      rw [er27] at hr27 ⊢
      refine x_i2l C hr27 dX8_set_30 ?_
      refine lv_iload_n C.1 C.2.1 dX8_set_31 rfl (lv_at hl 1 rfl) ?_
      refine x_ci (x_runS (n := 1) C hw hS hml hl.1 (c_X8_mostOf l g M i (by omega)) mw_967 mw_968 mw_130 mw_969 rfl rfl (by decide +kernel) ⟨Nat.le_of_ble_eq_true rfl, Nat.le_of_ble_eq_true rfl⟩ rfl rfl (Nat.le_of_ble_eq_true rfl) dX8_set_32 ⟨Nat.zero_le _, Nat.zero_le _⟩) hS (fun r32 M32 H locs hr32 hp hw hS => ?_)
      obtain ⟨em32, er32⟩ := hp
      have hw : Wo g M H := em32 ▸ hw
      rw [er32] at hr32 ⊢
      refine x_i2l C hr32 dX8_set_35 ?_
      refine x_ci (x_runS (n := 3) C hw hS hml hl.1 (c_X8_in l g M x gz_x (loT i) hr27 (hiT i) hr32) mw_957 mw_958 mw_130 mw_959 rfl rfl (by decide +kernel) ⟨Nat.le_of_ble_eq_true rfl, Nat.le_of_ble_eq_true rfl⟩ rfl rfl (Nat.le_of_ble_eq_true rfl) dX8_set_36 ⟨Nat.zero_le _, Nat.zero_le _⟩) hS (fun r36 M36 H locs hr36 hp hw hS => ?_)
      rcases hp with ⟨em36, (⟨er36, h36b⟩ | ⟨er36, h36b⟩)⟩
      · have hw : Wo g M H := em36 ▸ hw
        rw [er36]
        refine x_if_ne (tgt := 45) C ⟨by decide, by decide⟩ dX8_set_39 (by decide) (fun _ => ?_) (fun h => absurd h (by decide))
        obtain rfl : i = 0 := by omega
        have hl : lv_has ls 5 [(0, .ref (gA g 70)), (1, .int (II 0)), (2, .int (II q)), (3, .int (II x))] := hl
        refine lv_aload_n C.1 C.2.1 dX8_set_45 rfl (lv_at hl 0 rfl) ?_
        refine lv_iload_n C.1 C.2.1 dX8_set_46 rfl (lv_at hl 2 rfl) ?_
        refine lv_iload_n C.1 C.2.1 dX8_set_47 rfl (lv_at hl 1 rfl) ?_
        refine x_ci (x_runV (n := 2) C hw hS hml hl.1 70 8 (by omega) rfl (by decide) rfl (c_X8_told l g M hF n v nt pd t X I Sh hR hA q gz_q 0 ⟨by decide, by decide⟩) mw_970 mw_971 mw_972 mw_130 mw_973 rfl rfl (by decide +kernel) ⟨Nat.le_of_ble_eq_true rfl, Nat.le_of_ble_eq_true rfl⟩ rfl rfl (Nat.le_of_ble_eq_true rfl) dX8_set_48 ⟨Nat.zero_le _, Nat.zero_le _⟩) hS (fun r48 M48 H locs hr48 hp hw hS => ?_)
        obtain ⟨er48, h48r, h48k⟩ := hp
        have g_M48 := hw.rg
        rw [er48] at hr48 ⊢
        refine lv_istore (lv' := [(4, .int (II (r_told v n nt (X.2.1 t) q 0))), (0, .ref (gA g 70)), (1, .int (II 0)), (2, .int (II q)), (3, .int (II x))]) C.1 C.2.1 dX8_set_51 hl (by decide) rfl (fun ls hl => ?_)
        refine lv_aload_n C.1 C.2.1 dX8_set_53 rfl (lv_at hl 1 rfl) ?_
        refine lv_iload_n C.1 C.2.1 dX8_set_54 rfl (lv_at hl 2 rfl) ?_
        refine lv_iload_n C.1 C.2.1 dX8_set_55 rfl (lv_at hl 3 rfl) ?_
        refine lv_iload_n C.1 C.2.1 dX8_set_56 rfl (lv_at hl 4 rfl) ?_
        refine x_cv (x_runV (n := 3) C hw hS hml hl.1 70 8 (by omega) rfl (by decide) rfl (c_X8_lays0 l g M48 hF q gz_q x gz_x) mw_1200 mw_1202 mw_107 mw_130 mw_1203 rfl rfl (by decide +kernel) ⟨Nat.le_of_ble_eq_true rfl, Nat.le_of_ble_eq_true rfl⟩ rfl rfl (Nat.le_of_ble_eq_true rfl) dX8_set_57 ⟨Nat.zero_le _, Nat.zero_le _⟩) hS (fun M57 H locs hp hw hS => ?_)
        have em57 := hp
        have hw : Wo g (stM M48 70007 x) H := em57 ▸ hw
        refine lv_iload C.1 C.2.1 dX8_set_60 (lv_at hl 0 rfl) ?_
        exact x_ireturn C hr hlk hw hS hr48 rfl (by
    have e : okS n 0 q x = true := decide_eq_true ⟨by omega, Or.inl rfl, h36b⟩
    have e1 : r_set v n nt 0 q x = nt := by unfold r_set; rw [e]; rfl
    have e2 : v_set v n 0 q x = v := by unfold v_set; rw [e]; rfl
    have e3 : nt_set n nt 0 q x = x := by unfold nt_set; rw [e]; rfl
    refine ⟨?_, ?_, fun m hm => (st_n (by omega)).trans (h48k m hm)⟩
    · show _ = r_set v n nt 0 q x
      rw [e1]; rfl
    · show RepM _ (n, v_set v n 0 q x, nt_set n nt 0 q x, pd, t) X I Sh
      rw [e2, e3]
      refine h48r.b2 hA ⟨⟨(st_n (by decide)).trans h48r.1.1.1, st_s, (st_n (by decide)).trans h48r.1.1.2.2.1, (st_n (by decide)).trans h48r.1.1.2.2.2⟩, fun q hq => ?_⟩ (fun m hm => st_n (fun z => hm (by omega)))
      have hq9 : q < n := hq
      exact ⟨(st_n (by omega)).trans (h48r.1.2 q hq).1, (h48r.1.2 q hq).2.fr (fun m hm => st_n (by omega))⟩) dX8_set_62
      · have hw : Wo g M H := em36 ▸ hw
        rw [er36]
        refine x_if_ne (tgt := 45) C ⟨by decide, by decide⟩ dX8_set_39 (by decide) (fun h => absurd h (by decide)) (fun _ => ?_)
        refine lv_bipush (v := II (-100)) C.1 C.2.1 dX8_set_42 (by decide) ?_
        exact x_ireturn C hr hlk hw hS ⟨by decide, by decide⟩ rfl (by first | (have e : okS n w q x = false := decide_eq_false (fun y => by have := y.1; exact h6b (by omega)); unfold r_set v_set nt_set; rw [e]; exact ⟨rfl, hR, fun _ _ => rfl⟩) | (have e : okS n (i : Int) q x = false := decide_eq_false (fun y => by first | exact h36b y.2.2 | exact h18b (y.2.1.elim (fun z => by omega) id)); unfold r_set v_set nt_set; rw [e]; exact ⟨rfl, hR, fun _ _ => rfl⟩) | (have e : okS n (i : Int) (j : Int) x = false := decide_eq_false (fun y => h36b y.2.2); unfold r_set v_set nt_set; rw [e]; exact ⟨rfl, hR, fun _ _ => rfl⟩)) dX8_set_44
    · refine lv_aload_n C.1 C.2.1 dX8_set_16 rfl (lv_at hl 0 rfl) ?_
      refine lv_iload_n C.1 C.2.1 dX8_set_17 rfl (lv_at hl 2 rfl) ?_
      refine x_ci (x_runV (n := 1) C hw hS hml hl.1 70 8 (by omega) rfl (by decide) rfl (c_X8_isOne l g M hF n hM.1 q gz_q) mw_960 mw_962 mw_53 mw_130 mw_963 rfl rfl (by decide +kernel) ⟨Nat.le_of_ble_eq_true rfl, Nat.le_of_ble_eq_true rfl⟩ rfl rfl (Nat.le_of_ble_eq_true rfl) dX8_set_18 ⟨Nat.zero_le _, Nat.zero_le _⟩) hS (fun r18 M18 H locs hr18 hp hw hS => ?_)
      rcases hp with ⟨em18, (⟨er18, h18b⟩ | ⟨er18, h18b⟩)⟩
      · have hw : Wo g M H := em18 ▸ hw
        rw [er18]
        refine x_if_eq (tgt := 42) C ⟨by decide, by decide⟩ dX8_set_21 (by decide) (fun h => absurd h (by decide)) (fun _ => ?_)
        have hqn : 0 ≤ q ∧ q < n := h18b
        obtain ⟨j, rfl⟩ : ∃ i : Nat, q = (i : Int) := ⟨q.toNat, by omega⟩
        refine lv_iload_n C.1 C.2.1 dX8_set_24 rfl (lv_at hl 3 rfl) ?_
        refine x_i2l C gz_x dX8_set_25 ?_
        refine lv_iload_n C.1 C.2.1 dX8_set_26 rfl (lv_at hl 1 rfl) ?_
        refine x_ci (x_runS (n := 1) C hw hS hml hl.1 (c_X8_leastOf l g M i (by omega)) mw_964 mw_965 mw_130 mw_966 rfl rfl (by decide +kernel) ⟨Nat.le_of_ble_eq_true rfl, Nat.le_of_ble_eq_true rfl⟩ rfl rfl (Nat.le_of_ble_eq_true rfl) dX8_set_27 ⟨Nat.zero_le _, Nat.zero_le _⟩) hS (fun r27 M27 H locs hr27 hp hw hS => ?_)
        obtain ⟨em27, er27⟩ := hp
        have hw : Wo g M H := em27 ▸ hw
        rw [er27] at hr27 ⊢
        refine x_i2l C hr27 dX8_set_30 ?_
        refine lv_iload_n C.1 C.2.1 dX8_set_31 rfl (lv_at hl 1 rfl) ?_
        refine x_ci (x_runS (n := 1) C hw hS hml hl.1 (c_X8_mostOf l g M i (by omega)) mw_967 mw_968 mw_130 mw_969 rfl rfl (by decide +kernel) ⟨Nat.le_of_ble_eq_true rfl, Nat.le_of_ble_eq_true rfl⟩ rfl rfl (Nat.le_of_ble_eq_true rfl) dX8_set_32 ⟨Nat.zero_le _, Nat.zero_le _⟩) hS (fun r32 M32 H locs hr32 hp hw hS => ?_)
        obtain ⟨em32, er32⟩ := hp
        have hw : Wo g M H := em32 ▸ hw
        rw [er32] at hr32 ⊢
        refine x_i2l C hr32 dX8_set_35 ?_
        refine x_ci (x_runS (n := 3) C hw hS hml hl.1 (c_X8_in l g M x gz_x (loT i) hr27 (hiT i) hr32) mw_957 mw_958 mw_130 mw_959 rfl rfl (by decide +kernel) ⟨Nat.le_of_ble_eq_true rfl, Nat.le_of_ble_eq_true rfl⟩ rfl rfl (Nat.le_of_ble_eq_true rfl) dX8_set_36 ⟨Nat.zero_le _, Nat.zero_le _⟩) hS (fun r36 M36 H locs hr36 hp hw hS => ?_)
        rcases hp with ⟨em36, (⟨er36, h36b⟩ | ⟨er36, h36b⟩)⟩
        · have hw : Wo g M H := em36 ▸ hw
          rw [er36]
          refine x_if_ne (tgt := 45) C ⟨by decide, by decide⟩ dX8_set_39 (by decide) (fun _ => ?_) (fun h => absurd h (by decide))
          skip
          refine lv_aload_n C.1 C.2.1 dX8_set_45 rfl (lv_at hl 0 rfl) ?_
          refine lv_iload_n C.1 C.2.1 dX8_set_46 rfl (lv_at hl 2 rfl) ?_
          refine lv_iload_n C.1 C.2.1 dX8_set_47 rfl (lv_at hl 1 rfl) ?_
          refine x_ci (x_runV (n := 2) C hw hS hml hl.1 70 8 (by omega) rfl (by decide) rfl (c_X8_told l g M hF n v nt pd t X I Sh hR hA (j : Int) ⟨by omega, by omega⟩ (i : Int) ⟨by omega, by omega⟩) mw_970 mw_971 mw_972 mw_130 mw_973 rfl rfl (by decide +kernel) ⟨Nat.le_of_ble_eq_true rfl, Nat.le_of_ble_eq_true rfl⟩ rfl rfl (Nat.le_of_ble_eq_true rfl) dX8_set_48 ⟨Nat.zero_le _, Nat.zero_le _⟩) hS (fun r48 M48 H locs hr48 hp hw hS => ?_)
          obtain ⟨er48, h48r, h48k⟩ := hp
          have g_M48 := hw.rg
          rw [er48] at hr48 ⊢
          refine lv_istore (lv' := [(4, .int (II (r_told v n nt (X.2.1 t) (j : Int) (i : Int)))), (0, .ref (gA g 70)), (1, .int (II (i : Int))), (2, .int (II (j : Int))), (3, .int (II x))]) C.1 C.2.1 dX8_set_51 hl (by decide) rfl (fun ls hl => ?_)
          refine lv_aload_n C.1 C.2.1 dX8_set_53 rfl (lv_at hl 1 rfl) ?_
          refine lv_iload_n C.1 C.2.1 dX8_set_54 rfl (lv_at hl 2 rfl) ?_
          refine lv_iload_n C.1 C.2.1 dX8_set_55 rfl (lv_at hl 3 rfl) ?_
          refine lv_iload_n C.1 C.2.1 dX8_set_56 rfl (lv_at hl 4 rfl) ?_
          refine x_cv (x_runV (n := 3) C hw hS hml hl.1 70 8 (by omega) rfl (by decide) rfl (c_X8_laysN l g M48 hF i ⟨by omega, by omega⟩ j (by first | assumption | omega | exact ⟨by omega, by omega⟩ | decide) i (74999 + 4 * j + i) ⟨Or.inr (by omega), Or.inl rfl⟩ x gz_x) mw_1200 mw_1202 mw_107 mw_130 mw_1203 rfl rfl (by decide +kernel) ⟨Nat.le_of_ble_eq_true rfl, Nat.le_of_ble_eq_true rfl⟩ rfl rfl (Nat.le_of_ble_eq_true rfl) dX8_set_57 ⟨Nat.zero_le _, Nat.zero_le _⟩) hS (fun M57 H locs hp hw hS => ?_)
          have em57 := hp
          have hw : Wo g (stM M48 (74999 + 4 * j + i) x) H := em57 ▸ hw
          refine lv_iload C.1 C.2.1 dX8_set_60 (lv_at hl 0 rfl) ?_
          exact x_ireturn C hr hlk hw hS hr48 rfl (by
    have e : okS n (i : Int) (j : Int) x = true := decide_eq_true ⟨by omega, Or.inr (by omega), h36b⟩
    have e9 : decide ((i : Int) ≠ 0) = true := decide_eq_true (by omega)
    have e8 : decide ((i : Int) = 0) = false := decide_eq_false (by omega)
    have e1 : r_set v n nt (i : Int) (j : Int) x = v j i := by unfold r_set; rw [e, if_pos rfl, if_neg (by omega)]; rfl
    have e2 : v_set v n (i : Int) (j : Int) x = upv v j i x := by unfold v_set; rw [e, e9]; rfl
    have e3 : nt_set n nt (i : Int) (j : Int) x = nt := by unfold nt_set; rw [e, e8]; rfl
    rw [e1, e2, e3]
    refine ⟨?_, h48r.b2 hA (h48r.1.up (q := j) (f := i) (ps := 74999 + 4 * j + i) (Or.inr (by omega)) hn2 (by omega) (fun m hm => st_n (fun z => hm (Or.inr z))) st_s) (fun m hm => st_n (fun z => hm (by omega))), fun m hm => (st_n (by omega)).trans (h48k m hm)⟩
    unfold r_told
    rw [if_neg (by omega), if_neg (by omega), if_pos (by omega)]; rfl) dX8_set_62
        · have hw : Wo g M H := em36 ▸ hw
          rw [er36]
          refine x_if_ne (tgt := 45) C ⟨by decide, by decide⟩ dX8_set_39 (by decide) (fun h => absurd h (by decide)) (fun _ => ?_)
          refine lv_bipush (v := II (-100)) C.1 C.2.1 dX8_set_42 (by decide) ?_
          exact x_ireturn C hr hlk hw hS ⟨by decide, by decide⟩ rfl (by first | (have e : okS n w q x = false := decide_eq_false (fun y => by have := y.1; exact h6b (by omega)); unfold r_set v_set nt_set; rw [e]; exact ⟨rfl, hR, fun _ _ => rfl⟩) | (have e : okS n (i : Int) q x = false := decide_eq_false (fun y => by first | exact h36b y.2.2 | exact h18b (y.2.1.elim (fun z => by omega) id)); unfold r_set v_set nt_set; rw [e]; exact ⟨rfl, hR, fun _ _ => rfl⟩) | (have e : okS n (i : Int) (j : Int) x = false := decide_eq_false (fun y => h36b y.2.2); unfold r_set v_set nt_set; rw [e]; exact ⟨rfl, hR, fun _ _ => rfl⟩)) dX8_set_44
      · have hw : Wo g M H := em18 ▸ hw
        rw [er18]
        refine x_if_eq (tgt := 42) C ⟨by decide, by decide⟩ dX8_set_21 (by decide) (fun _ => ?_) (fun h => absurd h (by decide))
        refine lv_bipush (v := II (-100)) C.1 C.2.1 dX8_set_42 (by decide) ?_
        exact x_ireturn C hr hlk hw hS ⟨by decide, by decide⟩ rfl (by first | (have e : okS n w q x = false := decide_eq_false (fun y => by have := y.1; exact h6b (by omega)); unfold r_set v_set nt_set; rw [e]; exact ⟨rfl, hR, fun _ _ => rfl⟩) | (have e : okS n (i : Int) q x = false := decide_eq_false (fun y => by first | exact h36b y.2.2 | exact h18b (y.2.1.elim (fun z => by omega) id)); unfold r_set v_set nt_set; rw [e]; exact ⟨rfl, hR, fun _ _ => rfl⟩) | (have e : okS n (i : Int) (j : Int) x = false := decide_eq_false (fun y => h36b y.2.2); unfold r_set v_set nt_set; rw [e]; exact ⟨rfl, hR, fun _ _ => rfl⟩)) dX8_set_44
  · have hw : Wo g M H := em6 ▸ hw
    rw [er6]
    refine x_if_eq (tgt := 42) C ⟨by decide, by decide⟩ dX8_set_9 (by decide) (fun _ => ?_) (fun h => absurd h (by decide))
    refine lv_bipush (v := II (-100)) C.1 C.2.1 dX8_set_42 (by decide) ?_
    exact x_ireturn C hr hlk hw hS ⟨by decide, by decide⟩ rfl (by first | (have e : okS n w q x = false := decide_eq_false (fun y => by have := y.1; exact h6b (by omega)); unfold r_set v_set nt_set; rw [e]; exact ⟨rfl, hR, fun _ _ => rfl⟩) | (have e : okS n (i : Int) q x = false := decide_eq_false (fun y => by first | exact h36b y.2.2 | exact h18b (y.2.1.elim (fun z => by omega) id)); unfold r_set v_set nt_set; rw [e]; exact ⟨rfl, hR, fun _ _ => rfl⟩) | (have e : okS n (i : Int) (j : Int) x = false := decide_eq_false (fun y => h36b y.2.2); unfold r_set v_set nt_set; rw [e]; exact ⟨rfl, hR, fun _ _ => rfl⟩)) dX8_set_44

set_option maxHeartbeats 4000000 in
set_option maxRecDepth 100000 in
theorem c_X8_begins (l : Launch) (g : Gm) (M : Nat → Int) (hF : LvF g) (n : Nat) (v : Nat → Nat → Int) (nt : Int) (t : Nat) (E : Ev) (hM : MB M n v nt t E (-1)) : CV l ({ cls := "RatedBySighsModel", name := "begins", desc := "()V" } : Jvm.MethodName) cX8_begins 1 (rmm 45 1000) g M [.ref (gA g 70)] (fun M' => (M' 70030 = -1 ∧ M' 70031 = allS v n nt E) ∧ (∀ m, ¬ SC3 m → M' m = M m)) := by
  refine c_start (by decide) (Nat.le_of_ble_eq_true rfl) (fun p e s m below meth c ls C hr hlk hml hw hS hl => ?_)
  have hl : lv_has ls 1 [(0, .ref (gA g 70))] := hl
  have g_M := hw.rg
  have hN : gN g = 84 := hF.1
  have ha1 := allS_in v n nt E
  refine lv_aload_n C.1 C.2.1 dX8_begins_0 rfl (lv_at hl 0 rfl) ?_
  refine lv_iconst (v := II (-1)) C.1 C.2.1 dX8_begins_1 rfl ?_
  refine p8 C hw hS 70 (by omega) rfl 30 (by decide) mw_854 rfl (x := (-1)) ⟨by decide, by decide⟩ (svi st_s) (tyX8_ok 30 (by decide)) rfl rfl dX8_begins_2 (fun H locs hw hS => ?_)
  have hw : Wo g (stM M 70030 (-1)) H := hw
  refine lv_aload_n C.1 C.2.1 dX8_begins_5 rfl (lv_at hl 0 rfl) ?_
  refine lv_aload_n C.1 C.2.1 dX8_begins_6 rfl (lv_at hl 0 rfl) ?_
  refine x_ci (x_runV (n := 0) C hw hS hml hl.1 70 8 (by omega) rfl (by decide) rfl (c_X8_allDue l g (stM M 70030 (-1)) hF n v nt t E (-1) (hM.of (M' := stM M 70030 (-1)) (fun q hq f ps hp => by rw [st_n (by unfold psP at hp; omega)]; exact mb_at hM hq hp) (fun m hm => st_n (fun z => hm (by unfold sc4 scm; omega))) hM.2.2.1 (fun q hq => (hM.2.1.1 q hq (by omega)).2.2.2.2.2))) mw_1239 mw_1241 mw_109 mw_130 mw_1242 rfl rfl (by decide +kernel) ⟨Nat.le_of_ble_eq_true rfl, Nat.le_of_ble_eq_true rfl⟩ rfl rfl (Nat.le_of_ble_eq_true rfl) dX8_begins_7 ⟨Nat.zero_le _, Nat.zero_le _⟩) hS (fun r7 M7 H locs hr7 hp hw hS => ?_)
  obtain ⟨er7, h7f⟩ := hp
  have g_M7 := hw.rg
  rw [er7] at hr7 ⊢
  refine p8 C hw hS 70 (by omega) rfl 31 (by decide) mw_855 rfl (x := allS v n nt E) hr7 (svi st_s) (tyX8_ok 31 (by decide)) rfl rfl dX8_begins_10 (fun H locs hw hS => ?_)
  have hw : Wo g (stM M7 70031 (allS v n nt E)) H := hw
  exact x_return C hr hlk hw hS ⟨⟨by rw [st_n (by decide), h7f _ (by unfold scm; omega), st_s], st_s⟩, fun m hm => by unfold SC3 scm at hm; rw [st_n (by omega), h7f m (by unfold scm; omega), st_n (by omega)]⟩ dX8_begins_13

set_option maxHeartbeats 4000000 in
set_option maxRecDepth 100000 in
theorem c_X8_looksAt (l : Launch) (g : Gm) (M : Nat → Int) (hF : LvF g) (n : Nat) (v : Nat → Nat → Int) (nt : Int) (t : Nat) (E : Ev) (hM : MB M n v nt t E (-1)) (w : Int) (gw : rg w) : CV l ({ cls := "RatedBySighsModel", name := "looksAt", desc := "(I)V" } : Jvm.MethodName) cX8_looksAt 3 (rmm 45 1000) g M [.ref (gA g 70), .int (II w)] (fun M' => (M' 70030 = (ofr (M 70030, M 70031) w (allS v n nt E)).1 ∧ M' 70031 = (ofr (M 70030, M 70031) w (allS v n nt E)).2) ∧ (∀ m, ¬ SC3 m → M' m = M m)) := by
  refine c_start (by decide) (Nat.le_of_ble_eq_true rfl) (fun p e s m below meth c ls C hr hlk hml hw hS hl => ?_)
  have hl : lv_has ls 3 [(0, .ref (gA g 70)), (1, .int (II w))] := hl
  have g_M := hw.rg
  have hN : gN g = 84 := hF.1
  have ha1 := allS_in v n nt E
  have gm := g_M 70031
  refine lv_aload_n C.1 C.2.1 dX8_looksAt_0 rfl (lv_at hl 0 rfl) ?_
  refine x_ci (x_runV (n := 0) C hw hS hml hl.1 70 8 (by omega) rfl (by decide) rfl (c_X8_allDue l g M hF n v nt t E (-1) hM) mw_1239 mw_1241 mw_109 mw_130 mw_1242 rfl rfl (by decide +kernel) ⟨Nat.le_of_ble_eq_true rfl, Nat.le_of_ble_eq_true rfl⟩ rfl rfl (Nat.le_of_ble_eq_true rfl) dX8_looksAt_1 ⟨Nat.zero_le _, Nat.zero_le _⟩) hS (fun r1 M1 H locs hr1 hp hw hS => ?_)
  obtain ⟨er1, h1f⟩ := hp
  have g_M1 := hw.rg
  rw [er1] at hr1 ⊢
  refine lv_istore_n (lv' := [(2, .int (II (allS v n nt E))), (0, .ref (gA g 70)), (1, .int (II w))]) C.1 C.2.1 dX8_looksAt_4 rfl hl (by decide) rfl (fun ls hl => ?_)
  refine lv_iload_n C.1 C.2.1 dX8_looksAt_5 rfl (lv_at hl 0 rfl) ?_
  refine lv_aload_n C.1 C.2.1 dX8_looksAt_6 rfl (lv_at hl 1 rfl) ?_
  refine g8 C hw 70 (by omega) rfl 31 (by decide) mw_855 (svi (x := M 70031) (h1f 70031 (by unfold scm; omega))) dX8_looksAt_7 ?_
  refine x_icmp_ge (tgt := 23) C hr1 ⟨by have := g_M1 70031; have := (h1f 70031 (by unfold scm; omega)); omega, by have := g_M1 70031; have := (h1f 70031 (by unfold scm; omega)); omega⟩ dX8_looksAt_10 (by decide) (fun c10 => ?_) (fun c10 => ?_)
  · exact x_return C hr hlk hw hS ⟨by unfold ofr; rw [if_neg (show ¬ allS v n nt E < M 70031 by omega)]; exact ⟨h1f _ (by unfold scm; omega), h1f _ (by unfold scm; omega)⟩, fun m hm => by unfold SC3 scm at hm; exact h1f m (by unfold scm; omega)⟩ dX8_looksAt_23
  · refine lv_aload_n C.1 C.2.1 dX8_looksAt_13 rfl (lv_at hl 1 rfl) ?_
    refine lv_iload_n C.1 C.2.1 dX8_looksAt_14 rfl (lv_at hl 2 rfl) ?_
    refine p8 C hw hS 70 (by omega) rfl 30 (by decide) mw_854 rfl (x := w) gw (svi st_s) (tyX8_ok 30 (by decide)) rfl rfl dX8_looksAt_15 (fun H locs hw hS => ?_)
    have hw : Wo g (stM M1 70030 w) H := hw
    refine lv_aload_n C.1 C.2.1 dX8_looksAt_18 rfl (lv_at hl 1 rfl) ?_
    refine lv_iload_n C.1 C.2.1 dX8_looksAt_19 rfl (lv_at hl 0 rfl) ?_
    refine p8 C hw hS 70 (by omega) rfl 31 (by decide) mw_855 rfl (x := allS v n nt E) hr1 (svi st_s) (tyX8_ok 31 (by decide)) rfl rfl dX8_looksAt_20 (fun H locs hw hS => ?_)
    have hw : Wo g (stM (stM M1 70030 w) 70031 (allS v n nt E)) H := hw
    exact x_return C hr hlk hw hS ⟨by unfold ofr; rw [if_pos (show allS v n nt E < M 70031 by omega)]; exact ⟨(st_n (by decide)).trans st_s, st_s⟩, fun m hm => by unfold SC3 scm at hm; rw [st_n (by omega), st_n (by omega)]; exact h1f m (by unfold scm; omega)⟩ dX8_looksAt_23

set_option maxHeartbeats 4000000 in
set_option maxRecDepth 100000 in
theorem c_X8_moves (l : Launch) (g : Gm) (M : Nat → Int) (hF : LvF g) (n : Nat) (v : Nat → Nat → Int) (nt : Int) (t : Nat) (E : Ev) (hM : MB M n v nt t E (-1)) (fl : Bool) (b : Int) (hb : b = (if fl then 1 else 0)) : CV l ({ cls := "RatedBySighsModel", name := "moves", desc := "(Z)V" } : Jvm.MethodName) cX8_moves 5 (rmm 46 1022) g M [.ref (gA g 70), .int (II b)] (fun M' => (M' 70030 = (mvA v n nt E fl n).1 ∧ M' 70031 = (mvA v n nt E fl n).2) ∧ (∀ m, ¬ SC3 m → M' m = M m)) := by
  refine c_start (by decide) (Nat.le_of_ble_eq_true rfl) (fun p e s m below meth c ls C hr hlk hml hw hS hl => ?_)
  have hl : lv_has ls 5 [(0, .ref (gA g 70)), (1, .int (II b))] := hl
  generalize ([.ref (gA g 70), .int (II b)] : List Value).toArray = args at C ⊢
  generalize hQQ : MQ below (postV g (fun M' => (M' 70030 = (mvA v n nt E fl n).1 ∧ M' 70031 = (mvA v n nt E fl n).2) ∧ (∀ m, ¬ SC3 m → M' m = M m))) args s 0 0 (ar g) = QQ
  have g_M := hw.rg
  have hN : gN g = 84 := hF.1
  have hn2 := hM.1.2
  have hb01 : b = 0 ∨ b = 1 := by rw [hb]; split <;> omega
  refine lv_aload_n C.1 C.2.1 dX8_moves_0 rfl (lv_at hl 0 rfl) ?_
  refine x_cv (x_runV (n := 0) C hw hS hml hl.1 70 8 (by omega) rfl (by decide) rfl (c_X8_begins l g M hF n v nt t E hM) mw_1269 mw_1271 mw_112 mw_130 mw_1272 rfl rfl (by decide +kernel) ⟨Nat.le_of_ble_eq_true rfl, Nat.le_of_ble_eq_true rfl⟩ rfl rfl (Nat.le_of_ble_eq_true rfl) dX8_moves_1 ⟨Nat.zero_le _, Nat.zero_le _⟩) hS (fun M1 H locs hp hw hS => ?_)
  obtain ⟨h1a, h1f⟩ := hp
  have g_M1 := hw.rg
  refine lv_iconst (v := II 0) C.1 C.2.1 dX8_moves_4 rfl ?_
  refine lv_istore_n (lv' := [(2, .int (II 0)), (0, .ref (gA g 70)), (1, .int (II b))]) C.1 C.2.1 dX8_moves_5 rfl hl (by decide) rfl (fun ls hl => ?_)
  have L6 : ∀ (f1 : Nat) (pq : Nat) (M2 : Nat → Int), (n - pq) < f1 → (pq ≤ n) → (M2 70030 = (mvA v n nt E fl pq).1 ∧ M2 70031 = (mvA v n nt E fl pq).2) → (∀ m, ¬ SC3 m → M2 m = M m) → ∀ (H : Heap) (locs : List Loc) (ls : Array Slot), Wo g M2 H → va_S (ar g) s.heap H locs → lv_has ls 5 [(0, .ref (gA g 70)), (1, .int (II b)), (2, .int (II (pq : Int)))] → W p l e (rmm 46 1022) s m args below meth c H locs 0 0 QQ (F0 m 6 ls []) := by
    intro f1
    induction f1 with
    | zero => intro pq M2 hmu; exact absurd hmu (Nat.not_lt_zero _)
    | succ f1 ih =>
      intro pq M2 hmu h1 h2 hf H locs ls hw hS hl
      have ih6 := ih
      have g_M2 := hw.rg
      have hM2 : MB M2 n v nt t E (-1) := (hM.of (fun q hq f ps hp => by unfold psP at hp; rw [hf _ (by unfold SC3 scm; omega)]; exact mb_at hM hq hp) (fun m hm => hf m (by unfold sc4 scm at hm; unfold SC3 scm; omega)) hM.2.2.1 (fun q hq => (hM.2.1.1 q hq (by omega)).2.2.2.2.2))
      refine lv_iload_n C.1 C.2.1 dX8_moves_6 rfl (lv_at hl 2 rfl) ?_
      refine lv_aload_n C.1 C.2.1 dX8_moves_7 rfl (lv_at hl 0 rfl) ?_
      refine g8 C hw 70 (by omega) rfl 11 (by decide) mw_835 (svi (x := (n : Int)) hM2.1.1) dX8_moves_8 ?_
      refine x_icmp_ge (tgt := 94) C ⟨by omega, by omega⟩ ⟨by have := g_M2 70011; have := hM2.1.1; omega, by have := g_M2 70011; have := hM2.1.1; omega⟩ dX8_moves_11 (by decide) (fun c11 => ?_) (fun c11 => ?_)
      · subst hQQ; exact x_return C hr hlk hw hS ⟨by have e9 : pq = n := (by omega); rw [e9] at h2; exact h2, hf⟩ dX8_moves_94
      · have hq0 := hM.2.2.1 pq (by omega)
        refine lv_aload_n C.1 C.2.1 dX8_moves_14 rfl (lv_at hl 0 rfl) ?_
        refine g8 C hw 70 (by omega) rfl 10 (by decide) mw_834 (svr (hF.2 _)) dX8_moves_15 ?_
        refine lv_iconst (v := II 4) C.1 C.2.1 dX8_moves_18 rfl ?_
        refine lv_iload_n C.1 C.2.1 dX8_moves_19 rfl (lv_at hl 2 rfl) ?_
        refine x_imul C dX8_moves_20 ?_
        refine lv_iconst (v := II 1) C.1 C.2.1 dX8_moves_21 rfl ?_
        refine x_iadd C dX8_moves_22 ?_
        refine x_iaload (L := 32) C hw 75 (by omega) rfl rfl (by omega) (by omega) (by decide) (x := v pq 2) ((congrArg (fun z => M2 (1000 * 75 + z)) (by omega)).trans ((hM2.2.1.1 pq (by omega) (by omega)).2.2.1)) dX8_moves_23 ?_
        refine lv_istore_n (lv' := [(3, .int (II (v pq 2))), (0, .ref (gA g 70)), (1, .int (II b)), (2, .int (II (pq : Int)))]) C.1 C.2.1 dX8_moves_24 rfl hl (by decide) rfl (fun ls hl => ?_)
        refine lv_iconst (v := II 0) C.1 C.2.1 dX8_moves_25 rfl ?_
        refine lv_istore (lv' := [(4, .int (II 0)), (3, .int (II (v pq 2))), (0, .ref (gA g 70)), (1, .int (II b)), (2, .int (II (pq : Int)))]) C.1 C.2.1 dX8_moves_26 hl (by decide) rfl (fun ls hl => ?_)
        have L28 : ∀ (f2 : Nat) (k : Nat) (M3 : Nat → Int), (5 - k) < f2 → (k ≤ 5) → (M3 70030 = (mv1 v n nt E pq (mvA v n nt E fl pq) k).1 ∧ M3 70031 = (mv1 v n nt E pq (mvA v n nt E fl pq) k).2) → (fl = true ∧ v pq 0 ≠ 5 → k = 0) → (∀ m, ¬ (SC3 m ∨ m = 75000 + (4 * pq + 1)) → M3 m = M m) → ∀ (H : Heap) (locs : List Loc) (ls : Array Slot), Wo g M3 H → va_S (ar g) s.heap H locs → lv_has ls 5 [(0, .ref (gA g 70)), (1, .int (II b)), (2, .int (II (pq : Int))), (3, .int (II (v pq 2))), (4, .int (II (k : Int)))] → W p l e (rmm 46 1022) s m args below meth c H locs 0 0 QQ (F0 m 28 ls []) := by
          intro f2
          induction f2 with
          | zero => intro k M3 hmu; exact absurd hmu (Nat.not_lt_zero _)
          | succ f2 ih =>
            intro k M3 hmu h7 h8 hz hf3 H locs ls hw hS hl
            have ih28 := ih
            have g_M3 := hw.rg
            refine lv_iload C.1 C.2.1 dX8_moves_28 (lv_at hl 4 rfl) ?_
            refine lv_iconst (v := II 5) C.1 C.2.1 dX8_moves_30 rfl ?_
            refine x_icmp_ge (tgt := 77) C ⟨by omega, by omega⟩ ⟨by decide, by decide⟩ dX8_moves_31 (by decide) (fun c31 => ?_) (fun c31 => ?_)
            · refine lv_aload_n C.1 C.2.1 dX8_moves_77 rfl (lv_at hl 0 rfl) ?_
              refine g8 C hw 70 (by omega) rfl 10 (by decide) mw_834 (svr (hF.2 _)) dX8_moves_78 ?_
              refine lv_iconst (v := II 4) C.1 C.2.1 dX8_moves_81 rfl ?_
              refine lv_iload_n C.1 C.2.1 dX8_moves_82 rfl (lv_at hl 2 rfl) ?_
              refine x_imul C dX8_moves_83 ?_
              refine lv_iconst (v := II 1) C.1 C.2.1 dX8_moves_84 rfl ?_
              refine x_iadd C dX8_moves_85 ?_
              refine lv_iload_n C.1 C.2.1 dX8_moves_86 rfl (lv_at hl 3 rfl) ?_
              refine x_iastore (L := 32) C hw hS 75 (by omega) rfl rfl (by omega) (by omega) (by decide) (x := v pq 2) ⟨by have := g_M2 (75000 + ((4 * pq) + 1)); have := ((hM2.2.1.1 pq (by omega) (by omega)).2.2.1); omega, by have := g_M2 (75000 + ((4 * pq) + 1)); have := ((hM2.2.1.1 pq (by omega) (by omega)).2.2.1); omega⟩ dX8_moves_87 (fun H locs hw hS => ?_)
              have hw : Wo g (stM M3 (75000 + ((4 * pq) + 1)) (v pq 2)) H := by rw [show 1000 * 75 + ((4 * (pq : Int)) + 1).toNat = 75000 + ((4 * pq) + 1) from by omega] at hw; exact hw
              refine lv_iinc (v := II ((pq : Int) + 1)) (lv' := [(2, .int (II ((pq : Int) + 1))), (0, .ref (gA g 70)), (1, .int (II b)), (3, .int (II (v pq 2))), (4, .int (II (k : Int)))]) C.1 C.2.1 dX8_moves_88 hl (k := 2) rfl (II_add _ _) (by decide) rfl (fun ls hl => ?_)
              refine lv_goto (tgt := 6) C.1 C.2.1 dX8_moves_91 (by decide) ?_
              exact ih6  (pq + 1) (stM M3 (75000 + ((4 * pq) + 1)) (v pq 2)) (by omega) (by omega) (by
          rw [st_n (by omega), st_n (by omega), mvA]
          first
          | (rw [if_neg (by intro z; have hz9 := hz (by simpa using z); omega), show 5 = k by omega]; exact h8)
          | (have e9 : fl = true := by cases fl <;> simp_all
             have ek := hz ⟨e9, by omega⟩
             subst ek
             rw [if_pos (by rw [e9]; simpa using (show v pq 0 ≠ 5 by omega))]; exact h8)) (fun m hm => by by_cases e : m = 75000 + (4 * pq + 1) <;> first | (rw [e, st_s]; exact (mb_at hM (q := pq) (f := 2) (by omega) (by unfold psP; omega)).symm) | (rw [st_n e]; exact hf3 m (fun z => z.elim hm e))) _ _ _ hw hS (lv_sub hl [1, 2, 0] rfl)
            · refine lv_iload_n C.1 C.2.1 dX8_moves_34 rfl (lv_at hl 1 rfl) ?_
              refine x_if_eq (tgt := 48) C ⟨by omega, by omega⟩ dX8_moves_35 (by decide) (fun c35 => ?_) (fun c35 => ?_)
              · refine lv_aload_n C.1 C.2.1 dX8_moves_48 rfl (lv_at hl 0 rfl) ?_
                refine g8 C hw 70 (by omega) rfl 10 (by decide) mw_834 (svr (hF.2 _)) dX8_moves_49 ?_
                refine lv_iconst (v := II 4) C.1 C.2.1 dX8_moves_52 rfl ?_
                refine lv_iload_n C.1 C.2.1 dX8_moves_53 rfl (lv_at hl 2 rfl) ?_
                refine x_imul C dX8_moves_54 ?_
                refine lv_iconst (v := II 1) C.1 C.2.1 dX8_moves_55 rfl ?_
                refine x_iadd C dX8_moves_56 ?_
                refine lv_iload C.1 C.2.1 dX8_moves_57 (lv_at hl 4 rfl) ?_
                refine x_iastore (L := 32) C hw hS 75 (by omega) rfl rfl (by omega) (by omega) (by decide) (x := (k : Int)) ⟨by omega, by omega⟩ dX8_moves_59 (fun H locs hw hS => ?_)
                have hw : Wo g (stM M3 (75000 + ((4 * pq) + 1)) (k : Int)) H := by rw [show 1000 * 75 + ((4 * (pq : Int)) + 1).toNat = 75000 + ((4 * pq) + 1) from by omega] at hw; exact hw
                refine lv_aload_n C.1 C.2.1 dX8_moves_60 rfl (lv_at hl 0 rfl) ?_
                refine lv_bipush (v := II 10) C.1 C.2.1 dX8_moves_61 (by decide) ?_
                refine lv_iload_n C.1 C.2.1 dX8_moves_63 rfl (lv_at hl 2 rfl) ?_
                refine x_imul C dX8_moves_64 ?_
                refine lv_iload C.1 C.2.1 dX8_moves_65 (lv_at hl 4 rfl) ?_
                refine x_iadd C dX8_moves_67 ?_
                refine x_cv (x_runV (n := 1) C hw hS hml hl.1 70 8 (by omega) rfl (by decide) rfl (c_X8_looksAt l g (stM M3 (75000 + ((4 * pq) + 1)) (k : Int)) hF n (upv v pq 2 (k : Int)) nt t E (hM.up (q := pq) (f := 2) (ps := 75000 + (4 * pq + 1)) (x := (k : Int)) (Or.inr (by omega)) (fun m hm => by unfold sc4 scm at hm; rw [st_n (by omega)]; exact hf3 m (by unfold SC3 scm; omega)) st_s (hM.2.2.1.up (by omega)) (fun _ => by omega) (by omega)) ((10 * (pq : Int)) + (k : Int)) ⟨by omega, by omega⟩) mw_1273 mw_1275 mw_113 mw_130 mw_1276 rfl rfl (by decide +kernel) ⟨Nat.le_of_ble_eq_true rfl, Nat.le_of_ble_eq_true rfl⟩ rfl rfl (Nat.le_of_ble_eq_true rfl) dX8_moves_68 ⟨Nat.zero_le _, Nat.zero_le _⟩) hS (fun M68 H locs hp hw hS => ?_)
                obtain ⟨h68a, h68f⟩ := hp
                have g_M68 := hw.rg
                refine lv_iinc (v := II ((k : Int) + 1)) (lv' := [(4, .int (II ((k : Int) + 1))), (0, .ref (gA g 70)), (1, .int (II b)), (2, .int (II (pq : Int))), (3, .int (II (v pq 2)))]) C.1 C.2.1 dX8_moves_71 hl (k := 4) rfl (II_add _ _) (by decide) rfl (fun ls hl => ?_)
                refine lv_goto (tgt := 28) C.1 C.2.1 dX8_moves_74 (by decide) ?_
                exact ih28  (k + 1) M68 (by omega) (by omega) (by have ep := Prod.ext (x := (M3 70030, M3 70031)) h8.1 h8.2; have ha := h68a; rw [st_n (by omega), st_n (by omega), ep] at ha; rw [mv1]; exact ha) (fun z => by exfalso; have e9 := z.1; have e8 := z.2; subst e9; have hb9 : b = 1 := hb; omega) (fun m hm => by unfold SC3 scm at hm; rw [h68f m (by unfold SC3 scm; omega), st_n (by omega)]; exact hf3 m (by unfold SC3 scm; omega)) _ _ _ hw hS (lv_sub hl [1, 2, 3, 4, 0] rfl)
              · refine lv_aload_n C.1 C.2.1 dX8_moves_38 rfl (lv_at hl 0 rfl) ?_
                refine g8 C hw 70 (by omega) rfl 9 (by decide) mw_833 (svr (hF.2 _)) dX8_moves_39 ?_
                refine lv_iload_n C.1 C.2.1 dX8_moves_42 rfl (lv_at hl 2 rfl) ?_
                refine x_iaload (L := 8) C hw 74 (by omega) rfl rfl (by omega) (by omega) (by decide) (x := v pq 0) ((hf3 (74000 + pq) (by unfold SC3 scm; omega)).trans (mb_at hM (q := pq) (f := 0) (by omega) (by unfold psP; omega))) dX8_moves_43 ?_
                refine lv_iconst (v := II 5) C.1 C.2.1 dX8_moves_44 rfl ?_
                refine x_icmp_ne (tgt := 77) C ⟨by have := g_M3 (74000 + pq); have := ((hf3 (74000 + pq) (by unfold SC3 scm; omega)).trans (mb_at hM (q := pq) (f := 0) (by omega) (by unfold psP; omega))); omega, by have := g_M3 (74000 + pq); have := ((hf3 (74000 + pq) (by unfold SC3 scm; omega)).trans (mb_at hM (q := pq) (f := 0) (by omega) (by unfold psP; omega))); omega⟩ ⟨by decide, by decide⟩ dX8_moves_45 (by decide) (fun c45 => ?_) (fun c45 => ?_)
                · refine lv_aload_n C.1 C.2.1 dX8_moves_77 rfl (lv_at hl 0 rfl) ?_
                  refine g8 C hw 70 (by omega) rfl 10 (by decide) mw_834 (svr (hF.2 _)) dX8_moves_78 ?_
                  refine lv_iconst (v := II 4) C.1 C.2.1 dX8_moves_81 rfl ?_
                  refine lv_iload_n C.1 C.2.1 dX8_moves_82 rfl (lv_at hl 2 rfl) ?_
                  refine x_imul C dX8_moves_83 ?_
                  refine lv_iconst (v := II 1) C.1 C.2.1 dX8_moves_84 rfl ?_
                  refine x_iadd C dX8_moves_85 ?_
                  refine lv_iload_n C.1 C.2.1 dX8_moves_86 rfl (lv_at hl 3 rfl) ?_
                  refine x_iastore (L := 32) C hw hS 75 (by omega) rfl rfl (by omega) (by omega) (by decide) (x := v pq 2) ⟨by have := g_M2 (75000 + ((4 * pq) + 1)); have := ((hM2.2.1.1 pq (by omega) (by omega)).2.2.1); omega, by have := g_M2 (75000 + ((4 * pq) + 1)); have := ((hM2.2.1.1 pq (by omega) (by omega)).2.2.1); omega⟩ dX8_moves_87 (fun H locs hw hS => ?_)
                  have hw : Wo g (stM M3 (75000 + ((4 * pq) + 1)) (v pq 2)) H := by rw [show 1000 * 75 + ((4 * (pq : Int)) + 1).toNat = 75000 + ((4 * pq) + 1) from by omega] at hw; exact hw
                  refine lv_iinc (v := II ((pq : Int) + 1)) (lv' := [(2, .int (II ((pq : Int) + 1))), (0, .ref (gA g 70)), (1, .int (II b)), (3, .int (II (v pq 2))), (4, .int (II (k : Int)))]) C.1 C.2.1 dX8_moves_88 hl (k := 2) rfl (II_add _ _) (by decide) rfl (fun ls hl => ?_)
                  refine lv_goto (tgt := 6) C.1 C.2.1 dX8_moves_91 (by decide) ?_
                  exact ih6  (pq + 1) (stM M3 (75000 + ((4 * pq) + 1)) (v pq 2)) (by omega) (by omega) (by
          rw [st_n (by omega), st_n (by omega), mvA]
          first
          | (rw [if_neg (by intro z; have hz9 := hz (by simpa using z); omega), show 5 = k by omega]; exact h8)
          | (have e9 : fl = true := by cases fl <;> simp_all
             have ek := hz ⟨e9, by omega⟩
             subst ek
             rw [if_pos (by rw [e9]; simpa using (show v pq 0 ≠ 5 by omega))]; exact h8)) (fun m hm => by by_cases e : m = 75000 + (4 * pq + 1) <;> first | (rw [e, st_s]; exact (mb_at hM (q := pq) (f := 2) (by omega) (by unfold psP; omega)).symm) | (rw [st_n e]; exact hf3 m (fun z => z.elim hm e))) _ _ _ hw hS (lv_sub hl [1, 2, 0] rfl)
                · refine lv_aload_n C.1 C.2.1 dX8_moves_48 rfl (lv_at hl 0 rfl) ?_
                  refine g8 C hw 70 (by omega) rfl 10 (by decide) mw_834 (svr (hF.2 _)) dX8_moves_49 ?_
                  refine lv_iconst (v := II 4) C.1 C.2.1 dX8_moves_52 rfl ?_
                  refine lv_iload_n C.1 C.2.1 dX8_moves_53 rfl (lv_at hl 2 rfl) ?_
                  refine x_imul C dX8_moves_54 ?_
                  refine lv_iconst (v := II 1) C.1 C.2.1 dX8_moves_55 rfl ?_
                  refine x_iadd C dX8_moves_56 ?_
                  refine lv_iload C.1 C.2.1 dX8_moves_57 (lv_at hl 4 rfl) ?_
                  refine x_iastore (L := 32) C hw hS 75 (by omega) rfl rfl (by omega) (by omega) (by decide) (x := (k : Int)) ⟨by omega, by omega⟩ dX8_moves_59 (fun H locs hw hS => ?_)
                  have hw : Wo g (stM M3 (75000 + ((4 * pq) + 1)) (k : Int)) H := by rw [show 1000 * 75 + ((4 * (pq : Int)) + 1).toNat = 75000 + ((4 * pq) + 1) from by omega] at hw; exact hw
                  refine lv_aload_n C.1 C.2.1 dX8_moves_60 rfl (lv_at hl 0 rfl) ?_
                  refine lv_bipush (v := II 10) C.1 C.2.1 dX8_moves_61 (by decide) ?_
                  refine lv_iload_n C.1 C.2.1 dX8_moves_63 rfl (lv_at hl 2 rfl) ?_
                  refine x_imul C dX8_moves_64 ?_
                  refine lv_iload C.1 C.2.1 dX8_moves_65 (lv_at hl 4 rfl) ?_
                  refine x_iadd C dX8_moves_67 ?_
                  refine x_cv (x_runV (n := 1) C hw hS hml hl.1 70 8 (by omega) rfl (by decide) rfl (c_X8_looksAt l g (stM M3 (75000 + ((4 * pq) + 1)) (k : Int)) hF n (upv v pq 2 (k : Int)) nt t E (hM.up (q := pq) (f := 2) (ps := 75000 + (4 * pq + 1)) (x := (k : Int)) (Or.inr (by omega)) (fun m hm => by unfold sc4 scm at hm; rw [st_n (by omega)]; exact hf3 m (by unfold SC3 scm; omega)) st_s (hM.2.2.1.up (by omega)) (fun _ => by omega) (by omega)) ((10 * (pq : Int)) + (k : Int)) ⟨by omega, by omega⟩) mw_1273 mw_1275 mw_113 mw_130 mw_1276 rfl rfl (by decide +kernel) ⟨Nat.le_of_ble_eq_true rfl, Nat.le_of_ble_eq_true rfl⟩ rfl rfl (Nat.le_of_ble_eq_true rfl) dX8_moves_68 ⟨Nat.zero_le _, Nat.zero_le _⟩) hS (fun M68 H locs hp hw hS => ?_)
                  obtain ⟨h68a, h68f⟩ := hp
                  have g_M68 := hw.rg
                  refine lv_iinc (v := II ((k : Int) + 1)) (lv' := [(4, .int (II ((k : Int) + 1))), (0, .ref (gA g 70)), (1, .int (II b)), (2, .int (II (pq : Int))), (3, .int (II (v pq 2)))]) C.1 C.2.1 dX8_moves_71 hl (k := 4) rfl (II_add _ _) (by decide) rfl (fun ls hl => ?_)
                  refine lv_goto (tgt := 28) C.1 C.2.1 dX8_moves_74 (by decide) ?_
                  exact ih28  (k + 1) M68 (by omega) (by omega) (by have ep := Prod.ext (x := (M3 70030, M3 70031)) h8.1 h8.2; have ha := h68a; rw [st_n (by omega), st_n (by omega), ep] at ha; rw [mv1]; exact ha) (fun z => by exfalso; have e9 := z.1; have e8 := z.2; subst e9; have hb9 : b = 1 := hb; omega) (fun m hm => by unfold SC3 scm at hm; rw [h68f m (by unfold SC3 scm; omega), st_n (by omega)]; exact hf3 m (by unfold SC3 scm; omega)) _ _ _ hw hS (lv_sub hl [1, 2, 3, 4, 0] rfl)
        exact L28 _ 0 M2 (Nat.lt_succ_self _) (by omega) h2 (fun _ => rfl) (fun m hm => hf m (fun z => hm (Or.inl z))) _ _ _ hw hS (lv_sub hl [2, 3, 4, 1, 0] rfl)
  exact L6 _ 0 M1 (Nat.lt_succ_self _) (by omega) h1a h1f _ _ _ hw hS (lv_sub hl [1, 2, 0] rfl)

set_option maxHeartbeats 4000000 in
set_option maxRecDepth 100000 in
theorem c_X8_cheer (l : Launch) (g : Gm) (M : Nat → Int) (hF : LvF g) (n : Nat) (v : Nat → Nat → Int) (nt : Int) (pd : Int) (t : Nat) (X : Txt) (I : Option Bor) (Sh : Sht) (hR : RepM M (n, v, nt, pd, t) X I Sh) (hA : InvA (n, v, nt, pd, t) X I Sh) (w : Int) (gz_w : rg w) : CI l ({ cls := "RatedBySighsModel", name := "cheer", desc := "(I)I" } : Jvm.MethodName) cX8_cheer 2 .int (rmm 47 1046) g M [.ref (gA g 70), .int (II w)] (fun r M' => r = r_best (mvA v n nt (X.2.1 t) true n) w ∧ (RepM M' (n, v, nt, pd, t) X I Sh) ∧ (∀ m, m < 70000 → M' m = M m)) := by
  refine c_start (by decide) (Nat.le_of_ble_eq_true rfl) (fun p e s m below meth c ls C hr hlk hml hw hS hl => ?_)
  have hl : lv_has ls 2 [(0, .ref (gA g 70)), (1, .int (II w))] := hl
  have g_M := hw.rg
  have hN : gN g = 84 := hF.1
  have hM : MB M n v nt t (X.2.1 t) (-1) := hR.mb hA
  have hn2 : n ≤ 8 := hM.1.2
  have hnt := hM.2.2.2.1.2
  have hpd : 0 ≤ pd ∧ pd ≤ 999999999 := hA.1.2.2.2.2.1
  have htc := hA.2.1
  have hts := hA.2.2.1.1
  have ht9 : t < X.1 := hA.1.2.2.2.2.2
  refine lv_iload_n C.1 C.2.1 dX8_cheer_0 rfl (lv_at hl 1 rfl) ?_
  refine x_i2l C gz_w dX8_cheer_1 ?_
  refine lv_lconst (v := LL 0) C.1 C.2.1 dX8_cheer_2 (by decide) ?_
  refine lv_lconst (v := LL 1) C.1 C.2.1 dX8_cheer_3 (by decide) ?_
  refine x_ci (x_runS (n := 3) C hw hS hml hl.1 (c_X8_in l g M w gz_w 0 ⟨by decide, by decide⟩ 1 ⟨by decide, by decide⟩) mw_957 mw_958 mw_130 mw_959 rfl rfl (by decide +kernel) ⟨Nat.le_of_ble_eq_true rfl, Nat.le_of_ble_eq_true rfl⟩ rfl rfl (Nat.le_of_ble_eq_true rfl) dX8_cheer_4 ⟨Nat.zero_le _, Nat.zero_le _⟩) hS (fun r4 M4 H locs hr4 hp hw hS => ?_)
  rcases hp with ⟨em4, (⟨er4, h4b⟩ | ⟨er4, h4b⟩)⟩
  · have hw : Wo g M H := em4 ▸ hw
    rw [er4]
    refine x_if_ne (tgt := 13) C ⟨by decide, by decide⟩ dX8_cheer_7 (by decide) (fun _ => ?_) (fun h => absurd h (by decide))
    have hw9 : 0 ≤ w ∧ w ≤ 1 := h4b
    refine lv_aload_n C.1 C.2.1 dX8_cheer_13 rfl (lv_at hl 0 rfl) ?_
    refine lv_iconst (v := II 1) C.1 C.2.1 dX8_cheer_14 rfl ?_
    refine x_cv (x_runV (n := 1) C hw hS hml hl.1 70 8 (by omega) rfl (by decide) rfl (c_X8_moves l g M hF n v nt t (X.2.1 t) hM true 1 (by decide)) mw_1265 mw_1267 mw_111 mw_130 mw_1268 rfl rfl (by decide +kernel) ⟨Nat.le_of_ble_eq_true rfl, Nat.le_of_ble_eq_true rfl⟩ rfl rfl (Nat.le_of_ble_eq_true rfl) dX8_cheer_15 ⟨Nat.zero_le _, Nat.zero_le _⟩) hS (fun M15 H locs hp hw hS => ?_)
    obtain ⟨h15a, h15f⟩ := hp
    have g_M15 := hw.rg
    refine lv_iload_n C.1 C.2.1 dX8_cheer_18 rfl (lv_at hl 1 rfl) ?_
    refine x_if_ne (tgt := 29) C gz_w dX8_cheer_19 (by decide) (fun c19 => ?_) (fun c19 => ?_)
    · refine lv_aload_n C.1 C.2.1 dX8_cheer_29 rfl (lv_at hl 0 rfl) ?_
      refine g8 C hw 70 (by omega) rfl 31 (by decide) mw_855 (svi (x := M15 70031) rfl) dX8_cheer_30 ?_
      exact x_ireturn C hr hlk hw hS (g_M15 _) rfl ⟨(by unfold r_best; have hw9 : 0 ≤ w ∧ w ≤ 1 := h4b; (repeat' split) <;> first | exact h15a.1 | exact h15a.2 | omega), (hR.fr hA (fun m hm _ => h15f m (fun z => hm (z.elim Or.inl (fun y => Or.inr (y.elim Or.inl (fun x => Or.inr (Or.inl x)))))))), (fun m hm => h15f m (by unfold SC3 scm; omega))⟩ dX8_cheer_33
    · refine lv_aload_n C.1 C.2.1 dX8_cheer_22 rfl (lv_at hl 0 rfl) ?_
      refine g8 C hw 70 (by omega) rfl 30 (by decide) mw_854 (svi (x := M15 70030) rfl) dX8_cheer_23 ?_
      refine lv_goto (tgt := 33) C.1 C.2.1 dX8_cheer_26 (by decide) ?_
      exact x_ireturn C hr hlk hw hS (g_M15 _) rfl ⟨(by unfold r_best; have hw9 : 0 ≤ w ∧ w ≤ 1 := h4b; (repeat' split) <;> first | exact h15a.1 | exact h15a.2 | omega), (hR.fr hA (fun m hm _ => h15f m (fun z => hm (z.elim Or.inl (fun y => Or.inr (y.elim Or.inl (fun x => Or.inr (Or.inl x)))))))), (fun m hm => h15f m (by unfold SC3 scm; omega))⟩ dX8_cheer_33
  · have hw : Wo g M H := em4 ▸ hw
    rw [er4]
    refine x_if_ne (tgt := 13) C ⟨by decide, by decide⟩ dX8_cheer_7 (by decide) (fun h => absurd h (by decide)) (fun _ => ?_)
    have hw9 : ¬ (0 ≤ w ∧ w ≤ 1) := h4b
    refine lv_bipush (v := II (-2)) C.1 C.2.1 dX8_cheer_10 (by decide) ?_
    exact x_ireturn C hr hlk hw hS ⟨by decide, by decide⟩ rfl ⟨(by unfold r_best; (repeat' split) <;> first | rfl | omega), hR, (fun _ _ => rfl)⟩ dX8_cheer_12

set_option maxHeartbeats 4000000 in
set_option maxRecDepth 100000 in
theorem c_X8_move (l : Launch) (g : Gm) (M : Nat → Int) (hF : LvF g) (n : Nat) (v : Nat → Nat → Int) (nt : Int) (pd : Int) (t : Nat) (X : Txt) (I : Option Bor) (Sh : Sht) (hR : RepM M (n, v, nt, pd, t) X I Sh) (hA : InvA (n, v, nt, pd, t) X I Sh) (w : Int) (gz_w : rg w) : CI l ({ cls := "RatedBySighsModel", name := "move", desc := "(I)I" } : Jvm.MethodName) cX8_move 2 .int (rmm 47 1046) g M [.ref (gA g 70), .int (II w)] (fun r M' => r = r_best (mvA v n nt (X.2.1 t) false n) w ∧ (RepM M' (n, v, nt, pd, t) X I Sh) ∧ (∀ m, m < 70000 → M' m = M m)) := by
  refine c_start (by decide) (Nat.le_of_ble_eq_true rfl) (fun p e s m below meth c ls C hr hlk hml hw hS hl => ?_)
  have hl : lv_has ls 2 [(0, .ref (gA g 70)), (1, .int (II w))] := hl
  have g_M := hw.rg
  have hN : gN g = 84 := hF.1
  have hM : MB M n v nt t (X.2.1 t) (-1) := hR.mb hA
  have hn2 : n ≤ 8 := hM.1.2
  have hnt := hM.2.2.2.1.2
  have hpd : 0 ≤ pd ∧ pd ≤ 999999999 := hA.1.2.2.2.2.1
  have htc := hA.2.1
  have hts := hA.2.2.1.1
  have ht9 : t < X.1 := hA.1.2.2.2.2.2
  refine lv_iload_n C.1 C.2.1 dX8_move_0 rfl (lv_at hl 1 rfl) ?_
  refine x_i2l C gz_w dX8_move_1 ?_
  refine lv_lconst (v := LL 0) C.1 C.2.1 dX8_move_2 (by decide) ?_
  refine lv_lconst (v := LL 1) C.1 C.2.1 dX8_move_3 (by decide) ?_
  refine x_ci (x_runS (n := 3) C hw hS hml hl.1 (c_X8_in l g M w gz_w 0 ⟨by decide, by decide⟩ 1 ⟨by decide, by decide⟩) mw_957 mw_958 mw_130 mw_959 rfl rfl (by decide +kernel) ⟨Nat.le_of_ble_eq_true rfl, Nat.le_of_ble_eq_true rfl⟩ rfl rfl (Nat.le_of_ble_eq_true rfl) dX8_move_4 ⟨Nat.zero_le _, Nat.zero_le _⟩) hS (fun r4 M4 H locs hr4 hp hw hS => ?_)
  rcases hp with ⟨em4, (⟨er4, h4b⟩ | ⟨er4, h4b⟩)⟩
  · have hw : Wo g M H := em4 ▸ hw
    rw [er4]
    refine x_if_ne (tgt := 13) C ⟨by decide, by decide⟩ dX8_move_7 (by decide) (fun _ => ?_) (fun h => absurd h (by decide))
    have hw9 : 0 ≤ w ∧ w ≤ 1 := h4b
    refine lv_aload_n C.1 C.2.1 dX8_move_13 rfl (lv_at hl 0 rfl) ?_
    refine lv_iconst (v := II 0) C.1 C.2.1 dX8_move_14 rfl ?_
    refine x_cv (x_runV (n := 1) C hw hS hml hl.1 70 8 (by omega) rfl (by decide) rfl (c_X8_moves l g M hF n v nt t (X.2.1 t) hM false 0 (by decide)) mw_1265 mw_1267 mw_111 mw_130 mw_1268 rfl rfl (by decide +kernel) ⟨Nat.le_of_ble_eq_true rfl, Nat.le_of_ble_eq_true rfl⟩ rfl rfl (Nat.le_of_ble_eq_true rfl) dX8_move_15 ⟨Nat.zero_le _, Nat.zero_le _⟩) hS (fun M15 H locs hp hw hS => ?_)
    obtain ⟨h15a, h15f⟩ := hp
    have g_M15 := hw.rg
    refine lv_iload_n C.1 C.2.1 dX8_move_18 rfl (lv_at hl 1 rfl) ?_
    refine x_if_ne (tgt := 29) C gz_w dX8_move_19 (by decide) (fun c19 => ?_) (fun c19 => ?_)
    · refine lv_aload_n C.1 C.2.1 dX8_move_29 rfl (lv_at hl 0 rfl) ?_
      refine g8 C hw 70 (by omega) rfl 31 (by decide) mw_855 (svi (x := M15 70031) rfl) dX8_move_30 ?_
      exact x_ireturn C hr hlk hw hS (g_M15 _) rfl ⟨(by unfold r_best; have hw9 : 0 ≤ w ∧ w ≤ 1 := h4b; (repeat' split) <;> first | exact h15a.1 | exact h15a.2 | omega), (hR.fr hA (fun m hm _ => h15f m (fun z => hm (z.elim Or.inl (fun y => Or.inr (y.elim Or.inl (fun x => Or.inr (Or.inl x)))))))), (fun m hm => h15f m (by unfold SC3 scm; omega))⟩ dX8_move_33
    · refine lv_aload_n C.1 C.2.1 dX8_move_22 rfl (lv_at hl 0 rfl) ?_
      refine g8 C hw 70 (by omega) rfl 30 (by decide) mw_854 (svi (x := M15 70030) rfl) dX8_move_23 ?_
      refine lv_goto (tgt := 33) C.1 C.2.1 dX8_move_26 (by decide) ?_
      exact x_ireturn C hr hlk hw hS (g_M15 _) rfl ⟨(by unfold r_best; have hw9 : 0 ≤ w ∧ w ≤ 1 := h4b; (repeat' split) <;> first | exact h15a.1 | exact h15a.2 | omega), (hR.fr hA (fun m hm _ => h15f m (fun z => hm (z.elim Or.inl (fun y => Or.inr (y.elim Or.inl (fun x => Or.inr (Or.inl x)))))))), (fun m hm => h15f m (by unfold SC3 scm; omega))⟩ dX8_move_33
  · have hw : Wo g M H := em4 ▸ hw
    rw [er4]
    refine x_if_ne (tgt := 13) C ⟨by decide, by decide⟩ dX8_move_7 (by decide) (fun h => absurd h (by decide)) (fun _ => ?_)
    have hw9 : ¬ (0 ≤ w ∧ w ≤ 1) := h4b
    refine lv_bipush (v := II (-2)) C.1 C.2.1 dX8_move_10 (by decide) ?_
    exact x_ireturn C hr hlk hw hS ⟨by decide, by decide⟩ rfl ⟨(by unfold r_best; (repeat' split) <;> first | rfl | omega), hR, (fun _ _ => rfl)⟩ dX8_move_12

set_option maxHeartbeats 4000000 in
set_option maxRecDepth 100000 in
theorem c_X8_cart (l : Launch) (g : Gm) (M : Nat → Int) (hF : LvF g) (n : Nat) (v : Nat → Nat → Int) (nt : Int) (pd : Int) (t : Nat) (X : Txt) (I : Option Bor) (Sh : Sht) (hR : RepM M (n, v, nt, pd, t) X I Sh) (hA : InvA (n, v, nt, pd, t) X I Sh) (w : Int) (gz_w : rg w) : CI l ({ cls := "RatedBySighsModel", name := "cart", desc := "(I)I" } : Jvm.MethodName) cX8_cart 5 .int (rmm 46 1022) g M [.ref (gA g 70), .int (II w)] (fun r M' => r = r_best (ctA v n nt (X.2.1 t) n) w ∧ (RepM M' (n, v, nt, pd, t) X I Sh) ∧ (∀ m, m < 70000 → M' m = M m)) := by
  refine c_start (by decide) (Nat.le_of_ble_eq_true rfl) (fun p e s m below meth c ls C hr hlk hml hw hS hl => ?_)
  have hl : lv_has ls 5 [(0, .ref (gA g 70)), (1, .int (II w))] := hl
  generalize ([.ref (gA g 70), .int (II w)] : List Value).toArray = args at C ⊢
  generalize hQQ : MQ below (postI g (fun r M' => r = r_best (ctA v n nt (X.2.1 t) n) w ∧ (RepM M' (n, v, nt, pd, t) X I Sh) ∧ (∀ m, m < 70000 → M' m = M m))) args s 0 0 (ar g) = QQ
  have g_M := hw.rg
  have hN : gN g = 84 := hF.1
  have hM : MB M n v nt t (X.2.1 t) (-1) := hR.mb hA
  have hn2 : n ≤ 8 := hM.1.2
  have hnt := hM.2.2.2.1.2
  have hpd : 0 ≤ pd ∧ pd ≤ 999999999 := hA.1.2.2.2.2.1
  have htc := hA.2.1
  have hts := hA.2.2.1.1
  have ht9 : t < X.1 := hA.1.2.2.2.2.2
  refine lv_iload_n C.1 C.2.1 dX8_cart_0 rfl (lv_at hl 1 rfl) ?_
  refine x_i2l C gz_w dX8_cart_1 ?_
  refine lv_lconst (v := LL 0) C.1 C.2.1 dX8_cart_2 (by decide) ?_
  refine lv_lconst (v := LL 1) C.1 C.2.1 dX8_cart_3 (by decide) ?_
  refine x_ci (x_runS (n := 3) C hw hS hml hl.1 (c_X8_in l g M w gz_w 0 ⟨by decide, by decide⟩ 1 ⟨by decide, by decide⟩) mw_957 mw_958 mw_130 mw_959 rfl rfl (by decide +kernel) ⟨Nat.le_of_ble_eq_true rfl, Nat.le_of_ble_eq_true rfl⟩ rfl rfl (Nat.le_of_ble_eq_true rfl) dX8_cart_4 ⟨Nat.zero_le _, Nat.zero_le _⟩) hS (fun r4 M4 H locs hr4 hp hw hS => ?_)
  rcases hp with ⟨em4, (⟨er4, h4b⟩ | ⟨er4, h4b⟩)⟩
  · have hw : Wo g M H := em4 ▸ hw
    rw [er4]
    refine x_if_ne (tgt := 13) C ⟨by decide, by decide⟩ dX8_cart_7 (by decide) (fun _ => ?_) (fun h => absurd h (by decide))
    have hw9 : 0 ≤ w ∧ w ≤ 1 := h4b
    refine lv_aload_n C.1 C.2.1 dX8_cart_13 rfl (lv_at hl 0 rfl) ?_
    refine x_cv (x_runV (n := 0) C hw hS hml hl.1 70 8 (by omega) rfl (by decide) rfl (c_X8_begins l g M hF n v nt t (X.2.1 t) hM) mw_1269 mw_1271 mw_112 mw_130 mw_1272 rfl rfl (by decide +kernel) ⟨Nat.le_of_ble_eq_true rfl, Nat.le_of_ble_eq_true rfl⟩ rfl rfl (Nat.le_of_ble_eq_true rfl) dX8_cart_14 ⟨Nat.zero_le _, Nat.zero_le _⟩) hS (fun M14 H locs hp hw hS => ?_)
    obtain ⟨h14a, h14f⟩ := hp
    have g_M14 := hw.rg
    refine lv_iconst (v := II 0) C.1 C.2.1 dX8_cart_17 rfl ?_
    refine lv_istore_n (lv' := [(2, .int (II 0)), (0, .ref (gA g 70)), (1, .int (II w))]) C.1 C.2.1 dX8_cart_18 rfl hl (by decide) rfl (fun ls hl => ?_)
    have L19 : ∀ (f1 : Nat) (pq : Nat) (M2 : Nat → Int), (n - pq) < f1 → (pq ≤ n) → (M2 70030 = (ctA v n nt (X.2.1 t) pq).1 ∧ M2 70031 = (ctA v n nt (X.2.1 t) pq).2) → (∀ m, ¬ SC3 m → M2 m = M m) → ∀ (H : Heap) (locs : List Loc) (ls : Array Slot), Wo g M2 H → va_S (ar g) s.heap H locs → lv_has ls 5 [(0, .ref (gA g 70)), (1, .int (II w)), (2, .int (II (pq : Int)))] → W p l e (rmm 46 1022) s m args below meth c H locs 0 0 QQ (F0 m 19 ls []) := by
      intro f1
      induction f1 with
      | zero => intro pq M2 hmu; exact absurd hmu (Nat.not_lt_zero _)
      | succ f1 ih =>
        intro pq M2 hmu h1 h2 hf H locs ls hw hS hl
        have ih19 := ih
        have g_M2 := hw.rg
        have hM2 : MB M2 n v nt t (X.2.1 t) (-1) := (hM.of (fun q hq f ps hp => by unfold psP at hp; rw [hf _ (by unfold SC3 scm; omega)]; exact mb_at hM hq hp) (fun m hm => hf m (by unfold sc4 scm at hm; unfold SC3 scm; omega)) hM.2.2.1 (fun q hq => (hM.2.1.1 q hq (by omega)).2.2.2.2.2))
        refine lv_iload_n C.1 C.2.1 dX8_cart_19 rfl (lv_at hl 2 rfl) ?_
        refine lv_aload_n C.1 C.2.1 dX8_cart_20 rfl (lv_at hl 0 rfl) ?_
        refine g8 C hw 70 (by omega) rfl 11 (by decide) mw_835 (svi (x := (n : Int)) hM2.1.1) dX8_cart_21 ?_
        refine x_icmp_ge (tgt := 98) C ⟨by omega, by omega⟩ ⟨by have := g_M2 70011; have := hM2.1.1; omega, by have := g_M2 70011; have := hM2.1.1; omega⟩ dX8_cart_24 (by decide) (fun c24 => ?_) (fun c24 => ?_)
        · refine lv_iload_n C.1 C.2.1 dX8_cart_98 rfl (lv_at hl 1 rfl) ?_
          refine x_if_ne (tgt := 109) C gz_w dX8_cart_99 (by decide) (fun c99 => ?_) (fun c99 => ?_)
          · refine lv_aload_n C.1 C.2.1 dX8_cart_109 rfl (lv_at hl 0 rfl) ?_
            refine g8 C hw 70 (by omega) rfl 31 (by decide) mw_855 (svi (x := M2 70031) rfl) dX8_cart_110 ?_
            subst hQQ; exact x_ireturn C hr hlk hw hS (g_M2 _) rfl ⟨(by unfold r_best; have e9 : pq = n := (by omega); rw [e9] at h2; (repeat' split) <;> first | exact h2.1 | exact h2.2 | omega), (hR.fr hA (fun m hm _ => hf m (fun z => hm (z.elim Or.inl (fun y => Or.inr (y.elim Or.inl (fun x => Or.inr (Or.inl x)))))))), (fun m hm => hf m (by unfold SC3 scm; omega))⟩ dX8_cart_113
          · refine lv_aload_n C.1 C.2.1 dX8_cart_102 rfl (lv_at hl 0 rfl) ?_
            refine g8 C hw 70 (by omega) rfl 30 (by decide) mw_854 (svi (x := M2 70030) rfl) dX8_cart_103 ?_
            refine lv_goto (tgt := 113) C.1 C.2.1 dX8_cart_106 (by decide) ?_
            subst hQQ; exact x_ireturn C hr hlk hw hS (g_M2 _) rfl ⟨(by unfold r_best; have e9 : pq = n := (by omega); rw [e9] at h2; (repeat' split) <;> first | exact h2.1 | exact h2.2 | omega), (hR.fr hA (fun m hm _ => hf m (fun z => hm (z.elim Or.inl (fun y => Or.inr (y.elim Or.inl (fun x => Or.inr (Or.inl x)))))))), (fun m hm => hf m (by unfold SC3 scm; omega))⟩ dX8_cart_113
        · have hq0 := hM.2.2.1 pq (by omega)
          refine lv_aload_n C.1 C.2.1 dX8_cart_27 rfl (lv_at hl 0 rfl) ?_
          refine g8 C hw 70 (by omega) rfl 10 (by decide) mw_834 (svr (hF.2 _)) dX8_cart_28 ?_
          refine lv_iconst (v := II 4) C.1 C.2.1 dX8_cart_31 rfl ?_
          refine lv_iload_n C.1 C.2.1 dX8_cart_32 rfl (lv_at hl 2 rfl) ?_
          refine x_imul C dX8_cart_33 ?_
          refine lv_iconst (v := II 3) C.1 C.2.1 dX8_cart_34 rfl ?_
          refine x_iadd C dX8_cart_35 ?_
          refine x_iaload (L := 32) C hw 75 (by omega) rfl rfl (by omega) (by omega) (by decide) (x := v pq 4) ((congrArg (fun z => M2 (1000 * 75 + z)) (by omega)).trans ((hM2.2.1.1 pq (by omega) (by omega)).2.2.2.2.1)) dX8_cart_36 ?_
          refine lv_istore_n (lv' := [(3, .int (II (v pq 4))), (0, .ref (gA g 70)), (1, .int (II w)), (2, .int (II (pq : Int)))]) C.1 C.2.1 dX8_cart_37 rfl hl (by decide) rfl (fun ls hl => ?_)
          refine lv_iconst (v := II 0) C.1 C.2.1 dX8_cart_38 rfl ?_
          refine lv_istore (lv' := [(4, .int (II 0)), (3, .int (II (v pq 4))), (0, .ref (gA g 70)), (1, .int (II w)), (2, .int (II (pq : Int)))]) C.1 C.2.1 dX8_cart_39 hl (by decide) rfl (fun ls hl => ?_)
          have L41 : ∀ (f2 : Nat) (k : Nat) (M3 : Nat → Int), (6 - k) < f2 → (k ≤ 6) → (M3 70030 = (ct1 v n nt (X.2.1 t) pq (ctA v n nt (X.2.1 t) pq) k).1 ∧ M3 70031 = (ct1 v n nt (X.2.1 t) pq (ctA v n nt (X.2.1 t) pq) k).2) → (∀ m, ¬ (SC3 m ∨ m = 75000 + (4 * pq + 3)) → M3 m = M m) → ∀ (H : Heap) (locs : List Loc) (ls : Array Slot), Wo g M3 H → va_S (ar g) s.heap H locs → lv_has ls 5 [(0, .ref (gA g 70)), (1, .int (II w)), (2, .int (II (pq : Int))), (3, .int (II (v pq 4))), (4, .int (II (k : Int)))] → W p l e (rmm 46 1022) s m args below meth c H locs 0 0 QQ (F0 m 41 ls []) := by
            intro f2
            induction f2 with
            | zero => intro k M3 hmu; exact absurd hmu (Nat.not_lt_zero _)
            | succ f2 ih =>
              intro k M3 hmu h7 h8 hf3 H locs ls hw hS hl
              have ih41 := ih
              have g_M3 := hw.rg
              refine lv_iload C.1 C.2.1 dX8_cart_41 (lv_at hl 4 rfl) ?_
              refine lv_bipush (v := II 6) C.1 C.2.1 dX8_cart_43 (by decide) ?_
              refine x_icmp_ge (tgt := 81) C ⟨by omega, by omega⟩ ⟨by decide, by decide⟩ dX8_cart_45 (by decide) (fun c45 => ?_) (fun c45 => ?_)
              · refine lv_aload_n C.1 C.2.1 dX8_cart_81 rfl (lv_at hl 0 rfl) ?_
                refine g8 C hw 70 (by omega) rfl 10 (by decide) mw_834 (svr (hF.2 _)) dX8_cart_82 ?_
                refine lv_iconst (v := II 4) C.1 C.2.1 dX8_cart_85 rfl ?_
                refine lv_iload_n C.1 C.2.1 dX8_cart_86 rfl (lv_at hl 2 rfl) ?_
                refine x_imul C dX8_cart_87 ?_
                refine lv_iconst (v := II 3) C.1 C.2.1 dX8_cart_88 rfl ?_
                refine x_iadd C dX8_cart_89 ?_
                refine lv_iload_n C.1 C.2.1 dX8_cart_90 rfl (lv_at hl 3 rfl) ?_
                refine x_iastore (L := 32) C hw hS 75 (by omega) rfl rfl (by omega) (by omega) (by decide) (x := v pq 4) ⟨by have := g_M2 (75000 + ((4 * pq) + 3)); have := ((hM2.2.1.1 pq (by omega) (by omega)).2.2.2.2.1); omega, by have := g_M2 (75000 + ((4 * pq) + 3)); have := ((hM2.2.1.1 pq (by omega) (by omega)).2.2.2.2.1); omega⟩ dX8_cart_91 (fun H locs hw hS => ?_)
                have hw : Wo g (stM M3 (75000 + ((4 * pq) + 3)) (v pq 4)) H := by rw [show 1000 * 75 + ((4 * (pq : Int)) + 3).toNat = 75000 + ((4 * pq) + 3) from by omega] at hw; exact hw
                refine lv_iinc (v := II ((pq : Int) + 1)) (lv' := [(2, .int (II ((pq : Int) + 1))), (0, .ref (gA g 70)), (1, .int (II w)), (3, .int (II (v pq 4))), (4, .int (II (k : Int)))]) C.1 C.2.1 dX8_cart_92 hl (k := 2) rfl (II_add _ _) (by decide) rfl (fun ls hl => ?_)
                refine lv_goto (tgt := 19) C.1 C.2.1 dX8_cart_95 (by decide) ?_
                exact ih19  (pq + 1) (stM M3 (75000 + ((4 * pq) + 3)) (v pq 4)) (by omega) (by omega) (by rw [st_n (by omega), st_n (by omega), ctA, show 6 = k by omega]; exact h8) (fun m hm => by by_cases e : m = 75000 + (4 * pq + 3) <;> first | (rw [e, st_s]; exact (mb_at hM (q := pq) (f := 4) (by omega) (by unfold psP; omega)).symm) | (rw [st_n e]; exact hf3 m (fun z => z.elim hm e))) _ _ _ hw hS (lv_sub hl [1, 2, 0] rfl)
              · have hor := orb_in (h := k) hq0.2.2.2.2.1 hq0.2.2.2.2.2 (by omega)
                refine lv_aload_n C.1 C.2.1 dX8_cart_48 rfl (lv_at hl 0 rfl) ?_
                refine g8 C hw 70 (by omega) rfl 10 (by decide) mw_834 (svr (hF.2 _)) dX8_cart_49 ?_
                refine lv_iconst (v := II 4) C.1 C.2.1 dX8_cart_52 rfl ?_
                refine lv_iload_n C.1 C.2.1 dX8_cart_53 rfl (lv_at hl 2 rfl) ?_
                refine x_imul C dX8_cart_54 ?_
                refine lv_iconst (v := II 3) C.1 C.2.1 dX8_cart_55 rfl ?_
                refine x_iadd C dX8_cart_56 ?_
                refine lv_iload_n C.1 C.2.1 dX8_cart_57 rfl (lv_at hl 3 rfl) ?_
                refine lv_iconst (v := II 1) C.1 C.2.1 dX8_cart_58 rfl ?_
                refine lv_iload C.1 C.2.1 dX8_cart_59 (lv_at hl 4 rfl) ?_
                refine lv_ishl C.1 C.2.1 dX8_cart_61 ?_
                refine lv_ior C.1 C.2.1 dX8_cart_62 ?_
                rw [show (II (v pq 4) ||| (II 1 <<< (II (k : Int) &&& 31))) = II (orb (v pq 4) k) from (II_self _).symm]
                refine x_iastore (L := 32) C hw hS 75 (by omega) rfl rfl (by omega) (by omega) (by decide) (x := orb (v pq 4) k) ⟨by omega, by omega⟩ dX8_cart_63 (fun H locs hw hS => ?_)
                have hw : Wo g (stM M3 (75000 + ((4 * pq) + 3)) (orb (v pq 4) k)) H := by rw [show 1000 * 75 + ((4 * (pq : Int)) + 3).toNat = 75000 + ((4 * pq) + 3) from by omega] at hw; exact hw
                refine lv_aload_n C.1 C.2.1 dX8_cart_64 rfl (lv_at hl 0 rfl) ?_
                refine lv_bipush (v := II 10) C.1 C.2.1 dX8_cart_65 (by decide) ?_
                refine lv_iload_n C.1 C.2.1 dX8_cart_67 rfl (lv_at hl 2 rfl) ?_
                refine x_imul C dX8_cart_68 ?_
                refine lv_iload C.1 C.2.1 dX8_cart_69 (lv_at hl 4 rfl) ?_
                refine x_iadd C dX8_cart_71 ?_
                refine x_cv (x_runV (n := 1) C hw hS hml hl.1 70 8 (by omega) rfl (by decide) rfl (c_X8_looksAt l g (stM M3 (75000 + ((4 * pq) + 3)) (orb (v pq 4) k)) hF n (upv v pq 4 (orb (v pq 4) k)) nt t (X.2.1 t) (hM.up (q := pq) (f := 4) (ps := 75000 + (4 * pq + 3)) (x := orb (v pq 4) k) (Or.inr (by omega)) (fun m hm => by unfold sc4 scm at hm; rw [st_n (by omega)]; exact hf3 m (by unfold SC3 scm; omega)) st_s (hM.2.2.1.upO hor) (fun z => absurd z (by decide)) (by omega)) ((10 * (pq : Int)) + (k : Int)) ⟨by omega, by omega⟩) mw_1273 mw_1275 mw_113 mw_130 mw_1276 rfl rfl (by decide +kernel) ⟨Nat.le_of_ble_eq_true rfl, Nat.le_of_ble_eq_true rfl⟩ rfl rfl (Nat.le_of_ble_eq_true rfl) dX8_cart_72 ⟨Nat.zero_le _, Nat.zero_le _⟩) hS (fun M72 H locs hp hw hS => ?_)
                obtain ⟨h72a, h72f⟩ := hp
                have g_M72 := hw.rg
                refine lv_iinc (v := II ((k : Int) + 1)) (lv' := [(4, .int (II ((k : Int) + 1))), (0, .ref (gA g 70)), (1, .int (II w)), (2, .int (II (pq : Int))), (3, .int (II (v pq 4)))]) C.1 C.2.1 dX8_cart_75 hl (k := 4) rfl (II_add _ _) (by decide) rfl (fun ls hl => ?_)
                refine lv_goto (tgt := 41) C.1 C.2.1 dX8_cart_78 (by decide) ?_
                exact ih41  (k + 1) M72 (by omega) (by omega) (by have ep := Prod.ext (x := (M3 70030, M3 70031)) h8.1 h8.2; have ha := h72a; rw [st_n (by omega), st_n (by omega), ep] at ha; rw [ct1]; exact ha) (fun m hm => by unfold SC3 scm at hm; rw [h72f m (by unfold SC3 scm; omega), st_n (by omega)]; exact hf3 m (by unfold SC3 scm; omega)) _ _ _ hw hS (lv_sub hl [1, 2, 3, 4, 0] rfl)
          exact L41 _ 0 M2 (Nat.lt_succ_self _) (by omega) h2 (fun m hm => hf m (fun z => hm (Or.inl z))) _ _ _ hw hS (lv_sub hl [2, 3, 4, 1, 0] rfl)
    exact L19 _ 0 M14 (Nat.lt_succ_self _) (by omega) h14a h14f _ _ _ hw hS (lv_sub hl [1, 2, 0] rfl)
  · have hw : Wo g M H := em4 ▸ hw
    rw [er4]
    refine x_if_ne (tgt := 13) C ⟨by decide, by decide⟩ dX8_cart_7 (by decide) (fun h => absurd h (by decide)) (fun _ => ?_)
    have hw9 : ¬ (0 ≤ w ∧ w ≤ 1) := h4b
    refine lv_bipush (v := II (-2)) C.1 C.2.1 dX8_cart_10 (by decide) ?_
    subst hQQ; exact x_ireturn C hr hlk hw hS ⟨by decide, by decide⟩ rfl ⟨(by unfold r_best; (repeat' split) <;> first | rfl | omega), hR, (fun _ _ => rfl)⟩ dX8_cart_12

set_option maxHeartbeats 4000000 in
set_option maxRecDepth 100000 in
theorem c_X8_change (l : Launch) (g : Gm) (M : Nat → Int) (hF : LvF g) (n : Nat) (v : Nat → Nat → Int) (nt : Int) (pd : Int) (t : Nat) (X : Txt) (I : Option Bor) (Sh : Sht) (hR : RepM M (n, v, nt, pd, t) X I Sh) (hA : InvA (n, v, nt, pd, t) X I Sh) (w : Int) (gz_w : rg w) : CI l ({ cls := "RatedBySighsModel", name := "change", desc := "(I)I" } : Jvm.MethodName) cX8_change 6 .int (rmm 46 1022) g M [.ref (gA g 70), .int (II w)] (fun r M' => r = r_best (chA v n nt (X.2.1 t) n) w ∧ (RepM M' (n, v, nt, pd, t) X I Sh) ∧ (∀ m, m < 70000 → M' m = M m)) := by
  refine c_start (by decide) (Nat.le_of_ble_eq_true rfl) (fun p e s m below meth c ls C hr hlk hml hw hS hl => ?_)
  have hl : lv_has ls 6 [(0, .ref (gA g 70)), (1, .int (II w))] := hl
  generalize ([.ref (gA g 70), .int (II w)] : List Value).toArray = args at C ⊢
  generalize hQQ : MQ below (postI g (fun r M' => r = r_best (chA v n nt (X.2.1 t) n) w ∧ (RepM M' (n, v, nt, pd, t) X I Sh) ∧ (∀ m, m < 70000 → M' m = M m))) args s 0 0 (ar g) = QQ
  have g_M := hw.rg
  have hN : gN g = 84 := hF.1
  have hM : MB M n v nt t (X.2.1 t) (-1) := hR.mb hA
  have hn2 : n ≤ 8 := hM.1.2
  have hnt := hM.2.2.2.1.2
  have hpd : 0 ≤ pd ∧ pd ≤ 999999999 := hA.1.2.2.2.2.1
  have htc := hA.2.1
  have hts := hA.2.2.1.1
  have ht9 : t < X.1 := hA.1.2.2.2.2.2
  refine lv_iload_n C.1 C.2.1 dX8_change_0 rfl (lv_at hl 1 rfl) ?_
  refine x_i2l C gz_w dX8_change_1 ?_
  refine lv_lconst (v := LL 0) C.1 C.2.1 dX8_change_2 (by decide) ?_
  refine lv_lconst (v := LL 1) C.1 C.2.1 dX8_change_3 (by decide) ?_
  refine x_ci (x_runS (n := 3) C hw hS hml hl.1 (c_X8_in l g M w gz_w 0 ⟨by decide, by decide⟩ 1 ⟨by decide, by decide⟩) mw_957 mw_958 mw_130 mw_959 rfl rfl (by decide +kernel) ⟨Nat.le_of_ble_eq_true rfl, Nat.le_of_ble_eq_true rfl⟩ rfl rfl (Nat.le_of_ble_eq_true rfl) dX8_change_4 ⟨Nat.zero_le _, Nat.zero_le _⟩) hS (fun r4 M4 H locs hr4 hp hw hS => ?_)
  rcases hp with ⟨em4, (⟨er4, h4b⟩ | ⟨er4, h4b⟩)⟩
  · have hw : Wo g M H := em4 ▸ hw
    rw [er4]
    refine x_if_ne (tgt := 13) C ⟨by decide, by decide⟩ dX8_change_7 (by decide) (fun _ => ?_) (fun h => absurd h (by decide))
    have hw9 : 0 ≤ w ∧ w ≤ 1 := h4b
    refine lv_aload_n C.1 C.2.1 dX8_change_13 rfl (lv_at hl 0 rfl) ?_
    refine x_cv (x_runV (n := 0) C hw hS hml hl.1 70 8 (by omega) rfl (by decide) rfl (c_X8_begins l g M hF n v nt t (X.2.1 t) hM) mw_1269 mw_1271 mw_112 mw_130 mw_1272 rfl rfl (by decide +kernel) ⟨Nat.le_of_ble_eq_true rfl, Nat.le_of_ble_eq_true rfl⟩ rfl rfl (Nat.le_of_ble_eq_true rfl) dX8_change_14 ⟨Nat.zero_le _, Nat.zero_le _⟩) hS (fun M14 H locs hp hw hS => ?_)
    obtain ⟨h14a, h14f⟩ := hp
    have g_M14 := hw.rg
    refine lv_iconst (v := II 0) C.1 C.2.1 dX8_change_17 rfl ?_
    refine lv_istore_n (lv' := [(2, .int (II 0)), (0, .ref (gA g 70)), (1, .int (II w))]) C.1 C.2.1 dX8_change_18 rfl hl (by decide) rfl (fun ls hl => ?_)
    have L19 : ∀ (f1 : Nat) (i : Nat) (M2 : Nat → Int), (n - i) < f1 → (i ≤ n) → (M2 70030 = (chA v n nt (X.2.1 t) i).1 ∧ M2 70031 = (chA v n nt (X.2.1 t) i).2) → (∀ m, ¬ SC3 m → M2 m = M m) → ∀ (H : Heap) (locs : List Loc) (ls : Array Slot), Wo g M2 H → va_S (ar g) s.heap H locs → lv_has ls 6 [(0, .ref (gA g 70)), (1, .int (II w)), (2, .int (II (i : Int)))] → W p l e (rmm 46 1022) s m args below meth c H locs 0 0 QQ (F0 m 19 ls []) := by
      intro f1
      induction f1 with
      | zero => intro i M2 hmu; exact absurd hmu (Nat.not_lt_zero _)
      | succ f1 ih =>
        intro i M2 hmu h1 h2 hf H locs ls hw hS hl
        have ih19 := ih
        have g_M2 := hw.rg
        have hM2 : MB M2 n v nt t (X.2.1 t) (-1) := (hM.of (fun q hq f ps hp => by unfold psP at hp; rw [hf _ (by unfold SC3 scm; omega)]; exact mb_at hM hq hp) (fun m hm => hf m (by unfold sc4 scm at hm; unfold SC3 scm; omega)) hM.2.2.1 (fun q hq => (hM.2.1.1 q hq (by omega)).2.2.2.2.2))
        refine lv_iload_n C.1 C.2.1 dX8_change_19 rfl (lv_at hl 2 rfl) ?_
        refine lv_aload_n C.1 C.2.1 dX8_change_20 rfl (lv_at hl 0 rfl) ?_
        refine g8 C hw 70 (by omega) rfl 11 (by decide) mw_835 (svi (x := (n : Int)) hM2.1.1) dX8_change_21 ?_
        refine x_icmp_ge (tgt := 133) C ⟨by omega, by omega⟩ ⟨by have := g_M2 70011; have := hM2.1.1; omega, by have := g_M2 70011; have := hM2.1.1; omega⟩ dX8_change_24 (by decide) (fun c24 => ?_) (fun c24 => ?_)
        · refine lv_iload_n C.1 C.2.1 dX8_change_133 rfl (lv_at hl 1 rfl) ?_
          refine x_if_ne (tgt := 144) C gz_w dX8_change_134 (by decide) (fun c134 => ?_) (fun c134 => ?_)
          · refine lv_aload_n C.1 C.2.1 dX8_change_144 rfl (lv_at hl 0 rfl) ?_
            refine g8 C hw 70 (by omega) rfl 31 (by decide) mw_855 (svi (x := M2 70031) rfl) dX8_change_145 ?_
            subst hQQ; exact x_ireturn C hr hlk hw hS (g_M2 _) rfl ⟨(by unfold r_best; have e9 : i = n := (by omega); rw [e9] at h2; (repeat' split) <;> first | exact h2.1 | exact h2.2 | omega), (hR.fr hA (fun m hm _ => hf m (fun z => hm (z.elim Or.inl (fun y => Or.inr (y.elim Or.inl (fun x => Or.inr (Or.inl x)))))))), (fun m hm => hf m (by unfold SC3 scm; omega))⟩ dX8_change_148
          · refine lv_aload_n C.1 C.2.1 dX8_change_137 rfl (lv_at hl 0 rfl) ?_
            refine g8 C hw 70 (by omega) rfl 30 (by decide) mw_854 (svi (x := M2 70030) rfl) dX8_change_138 ?_
            refine lv_goto (tgt := 148) C.1 C.2.1 dX8_change_141 (by decide) ?_
            subst hQQ; exact x_ireturn C hr hlk hw hS (g_M2 _) rfl ⟨(by unfold r_best; have e9 : i = n := (by omega); rw [e9] at h2; (repeat' split) <;> first | exact h2.1 | exact h2.2 | omega), (hR.fr hA (fun m hm _ => hf m (fun z => hm (z.elim Or.inl (fun y => Or.inr (y.elim Or.inl (fun x => Or.inr (Or.inl x)))))))), (fun m hm => hf m (by unfold SC3 scm; omega))⟩ dX8_change_148
        · have hq0 := hM.2.2.1 i (by omega)
          refine lv_iload_n C.1 C.2.1 dX8_change_27 rfl (lv_at hl 2 rfl) ?_
          refine lv_iconst (v := II 1) C.1 C.2.1 dX8_change_28 rfl ?_
          refine x_iadd C dX8_change_29 ?_
          refine lv_istore_n (lv' := [(3, .int (II ((i : Int) + 1))), (0, .ref (gA g 70)), (1, .int (II w)), (2, .int (II (i : Int)))]) C.1 C.2.1 dX8_change_30 rfl hl (by decide) rfl (fun ls hl => ?_)
          have L31 : ∀ (f2 : Nat) (k : Nat) (M3 : Nat → Int), (n - k) < f2 → (i + 1 + k ≤ n) → (M3 70030 = (ch1 v n nt (X.2.1 t) i (chA v n nt (X.2.1 t) i) k).1 ∧ M3 70031 = (ch1 v n nt (X.2.1 t) i (chA v n nt (X.2.1 t) i) k).2) → (∀ m, ¬ SC3 m → M3 m = M m) → ∀ (H : Heap) (locs : List Loc) (ls : Array Slot), Wo g M3 H → va_S (ar g) s.heap H locs → lv_has ls 6 [(0, .ref (gA g 70)), (1, .int (II w)), (2, .int (II (i : Int))), (3, .int (II ((i + 1 + k : Nat) : Int)))] → W p l e (rmm 46 1022) s m args below meth c H locs 0 0 QQ (F0 m 31 ls []) := by
            intro f2
            induction f2 with
            | zero => intro k M3 hmu; exact absurd hmu (Nat.not_lt_zero _)
            | succ f2 ih =>
              intro k M3 hmu h7 h8 hf3 H locs ls hw hS hl
              have ih31 := ih
              have g_M3 := hw.rg
              have hM3 : MB M3 n v nt t (X.2.1 t) (-1) := (hM.of (fun q hq f ps hp => by unfold psP at hp; rw [hf3 _ (by unfold SC3 scm; omega)]; exact mb_at hM hq hp) (fun m hm => hf3 m (by unfold sc4 scm at hm; unfold SC3 scm; omega)) hM.2.2.1 (fun q hq => (hM.2.1.1 q hq (by omega)).2.2.2.2.2))
              refine lv_iload_n C.1 C.2.1 dX8_change_31 rfl (lv_at hl 3 rfl) ?_
              refine lv_aload_n C.1 C.2.1 dX8_change_32 rfl (lv_at hl 0 rfl) ?_
              refine g8 C hw 70 (by omega) rfl 11 (by decide) mw_835 (svi (x := (n : Int)) hM3.1.1) dX8_change_33 ?_
              refine x_icmp_ge (tgt := 127) C ⟨by omega, by omega⟩ ⟨by have := g_M3 70011; have := hM3.1.1; omega, by have := g_M3 70011; have := hM3.1.1; omega⟩ dX8_change_36 (by decide) (fun c36 => ?_) (fun c36 => ?_)
              · refine lv_iinc (v := II ((i : Int) + 1)) (lv' := [(2, .int (II ((i : Int) + 1))), (0, .ref (gA g 70)), (1, .int (II w)), (3, .int (II ((i + 1 + k : Nat) : Int)))]) C.1 C.2.1 dX8_change_127 hl (k := 2) rfl (II_add _ _) (by decide) rfl (fun ls hl => ?_)
                refine lv_goto (tgt := 19) C.1 C.2.1 dX8_change_130 (by decide) ?_
                exact ih19  (i + 1) M3 (by omega) (by omega) (by rw [chA, show n - (i + 1) = k by omega]; exact h8) hf3 _ _ _ hw hS (lv_sub hl [1, 2, 0] rfl)
              · have hq1 := hM.2.2.1 (i + 1 + k) (by omega)
                refine lv_aload_n C.1 C.2.1 dX8_change_39 rfl (lv_at hl 0 rfl) ?_
                refine g8 C hw 70 (by omega) rfl 10 (by decide) mw_834 (svr (hF.2 _)) dX8_change_40 ?_
                refine lv_iconst (v := II 4) C.1 C.2.1 dX8_change_43 rfl ?_
                refine lv_iload_n C.1 C.2.1 dX8_change_44 rfl (lv_at hl 2 rfl) ?_
                refine x_imul C dX8_change_45 ?_
                refine lv_iconst (v := II 1) C.1 C.2.1 dX8_change_46 rfl ?_
                refine x_iadd C dX8_change_47 ?_
                refine x_iaload (L := 32) C hw 75 (by omega) rfl rfl (by omega) (by omega) (by decide) (x := v i 2) ((congrArg (fun z => M3 (1000 * 75 + z)) (by omega)).trans ((hM3.2.1.1 i (by omega) (by omega)).2.2.1)) dX8_change_48 ?_
                refine lv_istore (lv' := [(4, .int (II (v i 2))), (0, .ref (gA g 70)), (1, .int (II w)), (2, .int (II (i : Int))), (3, .int (II ((i + 1 + k : Nat) : Int)))]) C.1 C.2.1 dX8_change_49 hl (by decide) rfl (fun ls hl => ?_)
                refine lv_aload_n C.1 C.2.1 dX8_change_51 rfl (lv_at hl 1 rfl) ?_
                refine g8 C hw 70 (by omega) rfl 10 (by decide) mw_834 (svr (hF.2 _)) dX8_change_52 ?_
                refine lv_iconst (v := II 4) C.1 C.2.1 dX8_change_55 rfl ?_
                refine lv_iload_n C.1 C.2.1 dX8_change_56 rfl (lv_at hl 4 rfl) ?_
                refine x_imul C dX8_change_57 ?_
                refine lv_iconst (v := II 1) C.1 C.2.1 dX8_change_58 rfl ?_
                refine x_iadd C dX8_change_59 ?_
                refine x_iaload (L := 32) C hw 75 (by omega) rfl rfl (by omega) (by omega) (by decide) (x := v (i + 1 + k) 2) ((congrArg (fun z => M3 (1000 * 75 + z)) (by omega)).trans ((hM3.2.1.1 (i + 1 + k) (by omega) (by omega)).2.2.1)) dX8_change_60 ?_
                refine lv_istore (lv' := [(5, .int (II (v (i + 1 + k) 2))), (4, .int (II (v i 2))), (0, .ref (gA g 70)), (1, .int (II w)), (2, .int (II (i : Int))), (3, .int (II ((i + 1 + k : Nat) : Int)))]) C.1 C.2.1 dX8_change_61 hl (by decide) rfl (fun ls hl => ?_)
                refine lv_aload_n C.1 C.2.1 dX8_change_63 rfl (lv_at hl 2 rfl) ?_
                refine g8 C hw 70 (by omega) rfl 10 (by decide) mw_834 (svr (hF.2 _)) dX8_change_64 ?_
                refine lv_iconst (v := II 4) C.1 C.2.1 dX8_change_67 rfl ?_
                refine lv_iload_n C.1 C.2.1 dX8_change_68 rfl (lv_at hl 4 rfl) ?_
                refine x_imul C dX8_change_69 ?_
                refine lv_iconst (v := II 1) C.1 C.2.1 dX8_change_70 rfl ?_
                refine x_iadd C dX8_change_71 ?_
                refine lv_iload C.1 C.2.1 dX8_change_72 (lv_at hl 0 rfl) ?_
                refine x_iastore (L := 32) C hw hS 75 (by omega) rfl rfl (by omega) (by omega) (by decide) (x := v (i + 1 + k) 2) ⟨by have := g_M3 (75000 + ((4 * (i + 1 + k)) + 1)); have := ((hM3.2.1.1 (i + 1 + k) (by omega) (by omega)).2.2.1); omega, by have := g_M3 (75000 + ((4 * (i + 1 + k)) + 1)); have := ((hM3.2.1.1 (i + 1 + k) (by omega) (by omega)).2.2.1); omega⟩ dX8_change_74 (fun H locs hw hS => ?_)
                have hw : Wo g (stM M3 (75000 + ((4 * i) + 1)) (v (i + 1 + k) 2)) H := by rw [show 1000 * 75 + ((4 * (i : Int)) + 1).toNat = 75000 + ((4 * i) + 1) from by omega] at hw; exact hw
                refine lv_aload_n C.1 C.2.1 dX8_change_75 rfl (lv_at hl 2 rfl) ?_
                refine g8 C hw 70 (by omega) rfl 10 (by decide) mw_834 (svr (hF.2 _)) dX8_change_76 ?_
                refine lv_iconst (v := II 4) C.1 C.2.1 dX8_change_79 rfl ?_
                refine lv_iload_n C.1 C.2.1 dX8_change_80 rfl (lv_at hl 5 rfl) ?_
                refine x_imul C dX8_change_81 ?_
                refine lv_iconst (v := II 1) C.1 C.2.1 dX8_change_82 rfl ?_
                refine x_iadd C dX8_change_83 ?_
                refine lv_iload C.1 C.2.1 dX8_change_84 (lv_at hl 1 rfl) ?_
                refine x_iastore (L := 32) C hw hS 75 (by omega) rfl rfl (by omega) (by omega) (by decide) (x := v i 2) ⟨by have := g_M3 (75000 + ((4 * i) + 1)); have := ((hM3.2.1.1 i (by omega) (by omega)).2.2.1); omega, by have := g_M3 (75000 + ((4 * i) + 1)); have := ((hM3.2.1.1 i (by omega) (by omega)).2.2.1); omega⟩ dX8_change_86 (fun H locs hw hS => ?_)
                have hw : Wo g (stM (stM M3 (75000 + ((4 * i) + 1)) (v (i + 1 + k) 2)) (75000 + ((4 * (i + 1 + k)) + 1)) (v i 2)) H := by rw [show 1000 * 75 + ((4 * ((i + 1 + k : Nat) : Int)) + 1).toNat = 75000 + ((4 * (i + 1 + k)) + 1) from by omega] at hw; exact hw
                refine lv_aload_n C.1 C.2.1 dX8_change_87 rfl (lv_at hl 2 rfl) ?_
                refine lv_bipush (v := II 10) C.1 C.2.1 dX8_change_88 (by decide) ?_
                refine lv_iload_n C.1 C.2.1 dX8_change_90 rfl (lv_at hl 4 rfl) ?_
                refine x_imul C dX8_change_91 ?_
                refine lv_iload_n C.1 C.2.1 dX8_change_92 rfl (lv_at hl 5 rfl) ?_
                refine x_iadd C dX8_change_93 ?_
                refine x_cv (x_runV (n := 1) C hw hS hml hl.1 70 8 (by omega) rfl (by decide) rfl (c_X8_looksAt l g (stM (stM M3 (75000 + ((4 * i) + 1)) (v (i + 1 + k) 2)) (75000 + ((4 * (i + 1 + k)) + 1)) (v i 2)) hF n (swp v i (i + 1 + k)) nt t (X.2.1 t) (swp_MB hM3 (i := i) (j := i + 1 + k) (by omega) (by omega) (by omega) (fun m hm => by rw [st_n (fun z => hm (Or.inr (Or.inr z))), st_n (fun z => hm (Or.inr (Or.inl z)))]) ((st_n (by omega)).trans st_s) st_s) ((10 * (i : Int)) + ((i + 1 + k : Nat) : Int)) ⟨by omega, by omega⟩) mw_1273 mw_1275 mw_113 mw_130 mw_1276 rfl rfl (by decide +kernel) ⟨Nat.le_of_ble_eq_true rfl, Nat.le_of_ble_eq_true rfl⟩ rfl rfl (Nat.le_of_ble_eq_true rfl) dX8_change_94 ⟨Nat.zero_le _, Nat.zero_le _⟩) hS (fun M94 H locs hp hw hS => ?_)
                obtain ⟨h94a, h94f⟩ := hp
                have g_M94 := hw.rg
                refine lv_aload_n C.1 C.2.1 dX8_change_97 rfl (lv_at hl 2 rfl) ?_
                refine g8 C hw 70 (by omega) rfl 10 (by decide) mw_834 (svr (hF.2 _)) dX8_change_98 ?_
                refine lv_iconst (v := II 4) C.1 C.2.1 dX8_change_101 rfl ?_
                refine lv_iload_n C.1 C.2.1 dX8_change_102 rfl (lv_at hl 4 rfl) ?_
                refine x_imul C dX8_change_103 ?_
                refine lv_iconst (v := II 1) C.1 C.2.1 dX8_change_104 rfl ?_
                refine x_iadd C dX8_change_105 ?_
                refine lv_iload C.1 C.2.1 dX8_change_106 (lv_at hl 1 rfl) ?_
                refine x_iastore (L := 32) C hw hS 75 (by omega) rfl rfl (by omega) (by omega) (by decide) (x := v i 2) ⟨by have := g_M3 (75000 + ((4 * i) + 1)); have := ((hM3.2.1.1 i (by omega) (by omega)).2.2.1); omega, by have := g_M3 (75000 + ((4 * i) + 1)); have := ((hM3.2.1.1 i (by omega) (by omega)).2.2.1); omega⟩ dX8_change_108 (fun H locs hw hS => ?_)
                have hw : Wo g (stM M94 (75000 + ((4 * i) + 1)) (v i 2)) H := by rw [show 1000 * 75 + ((4 * (i : Int)) + 1).toNat = 75000 + ((4 * i) + 1) from by omega] at hw; exact hw
                refine lv_aload_n C.1 C.2.1 dX8_change_109 rfl (lv_at hl 2 rfl) ?_
                refine g8 C hw 70 (by omega) rfl 10 (by decide) mw_834 (svr (hF.2 _)) dX8_change_110 ?_
                refine lv_iconst (v := II 4) C.1 C.2.1 dX8_change_113 rfl ?_
                refine lv_iload_n C.1 C.2.1 dX8_change_114 rfl (lv_at hl 5 rfl) ?_
                refine x_imul C dX8_change_115 ?_
                refine lv_iconst (v := II 1) C.1 C.2.1 dX8_change_116 rfl ?_
                refine x_iadd C dX8_change_117 ?_
                refine lv_iload C.1 C.2.1 dX8_change_118 (lv_at hl 0 rfl) ?_
                refine x_iastore (L := 32) C hw hS 75 (by omega) rfl rfl (by omega) (by omega) (by decide) (x := v (i + 1 + k) 2) ⟨by have := g_M3 (75000 + ((4 * (i + 1 + k)) + 1)); have := ((hM3.2.1.1 (i + 1 + k) (by omega) (by omega)).2.2.1); omega, by have := g_M3 (75000 + ((4 * (i + 1 + k)) + 1)); have := ((hM3.2.1.1 (i + 1 + k) (by omega) (by omega)).2.2.1); omega⟩ dX8_change_120 (fun H locs hw hS => ?_)
                have hw : Wo g (stM (stM M94 (75000 + ((4 * i) + 1)) (v i 2)) (75000 + ((4 * (i + 1 + k)) + 1)) (v (i + 1 + k) 2)) H := by rw [show 1000 * 75 + ((4 * ((i + 1 + k : Nat) : Int)) + 1).toNat = 75000 + ((4 * (i + 1 + k)) + 1) from by omega] at hw; exact hw
                refine lv_iinc (v := II (((i + 1 + k : Nat) : Int) + 1)) (lv' := [(3, .int (II (((i + 1 + k : Nat) : Int) + 1))), (5, .int (II (v (i + 1 + k) 2))), (4, .int (II (v i 2))), (0, .ref (gA g 70)), (1, .int (II w)), (2, .int (II (i : Int)))]) C.1 C.2.1 dX8_change_121 hl (k := 5) rfl (II_add _ _) (by decide) rfl (fun ls hl => ?_)
                refine lv_goto (tgt := 31) C.1 C.2.1 dX8_change_124 (by decide) ?_
                exact ih31  (k + 1) (stM (stM M94 (75000 + ((4 * i) + 1)) (v i 2)) (75000 + ((4 * (i + 1 + k)) + 1)) (v (i + 1 + k) 2)) (by omega) (by omega) (by have ep := Prod.ext (x := (M3 70030, M3 70031)) h8.1 h8.2; have ha := h94a; rw [st_n (by omega), st_n (by omega), st_n (by omega), st_n (by omega), ep] at ha; rw [ch1, st_n (by omega), st_n (by omega), st_n (by omega), st_n (by omega)]; exact ha) (fun m hm => by
        by_cases e : m = 75000 + (4 * (i + 1 + k) + 1)
        · rw [e, st_s]; exact (mb_at hM (q := i + 1 + k) (f := 2) (by omega) (by unfold psP; omega)).symm
        · rw [st_n e]
          by_cases e2 : m = 75000 + (4 * i + 1)
          · rw [e2, st_s]; exact (mb_at hM (q := i) (f := 2) (by omega) (by unfold psP; omega)).symm
          · rw [st_n e2, h94f m hm, st_n e, st_n e2]; exact hf3 m hm) _ _ _ hw hS (lv_sub hl [3, 4, 5, 0] rfl)
          exact L31 _ 0 M2 (Nat.lt_succ_self _) (by omega) h2 hf _ _ _ hw hS (lv_sub hl [1, 2, 3, 0] rfl)
    exact L19 _ 0 M14 (Nat.lt_succ_self _) (by omega) h14a h14f _ _ _ hw hS (lv_sub hl [1, 2, 0] rfl)
  · have hw : Wo g M H := em4 ▸ hw
    rw [er4]
    refine x_if_ne (tgt := 13) C ⟨by decide, by decide⟩ dX8_change_7 (by decide) (fun h => absurd h (by decide)) (fun _ => ?_)
    have hw9 : ¬ (0 ≤ w ∧ w ≤ 1) := h4b
    refine lv_bipush (v := II (-2)) C.1 C.2.1 dX8_change_10 (by decide) ?_
    subst hQQ; exact x_ireturn C hr hlk hw hS ⟨by decide, by decide⟩ rfl ⟨(by unfold r_best; (repeat' split) <;> first | rfl | omega), hR, (fun _ _ => rfl)⟩ dX8_change_12

set_option maxHeartbeats 4000000 in
set_option maxRecDepth 100000 in
theorem c_X8_bitsOf (l : Launch) (g : Gm) (M : Nat → Int) (o : Nat) (ho : o < 64) : CI l ({ cls := "RatedBySighsModel", name := "bitsOf", desc := "(I)I" } : Jvm.MethodName) cX8_bitsOf 3 .int (rmm 0 0) g M [.int (II (o : Int))] (fun r M' => M' = M ∧ r = ((bc o : Nat) : Int)) := by
  refine c_start (by decide) (Nat.le_of_ble_eq_true rfl) (fun p e s m below meth c ls C hr hlk hml hw hS hl => ?_)
  have hl : lv_has ls 3 [(0, .int (II (o : Int)))] := hl
  generalize ([.int (II (o : Int))] : List Value).toArray = args at C ⊢
  generalize hQQ : MQ below (postI g (fun r M' => M' = M ∧ r = ((bc o : Nat) : Int))) args s 0 0 (ar g) = QQ
  have g_M := hw.rg
  have hb6 := bc_le o ho
  refine lv_iconst (v := II 0) C.1 C.2.1 dX8_bitsOf_0 rfl ?_
  refine lv_istore_n (lv' := [(1, .int (II 0)), (0, .int (II (o : Int)))]) C.1 C.2.1 dX8_bitsOf_1 rfl hl (by decide) rfl (fun ls hl => ?_)
  refine lv_iload_n C.1 C.2.1 dX8_bitsOf_2 rfl (lv_at hl 1 rfl) ?_
  refine lv_istore_n (lv' := [(2, .int (II (o : Int))), (1, .int (II 0)), (0, .int (II (o : Int)))]) C.1 C.2.1 dX8_bitsOf_3 rfl hl (by decide) rfl (fun ls hl => ?_)
  have L4 : ∀ (f1 : Nat) (x : Nat) (k : Nat), x < f1 → (x < 64 ∧ k + bc x = bc o) → ∀ (H : Heap) (locs : List Loc) (ls : Array Slot), Wo g M H → va_S (ar g) s.heap H locs → lv_has ls 3 [(0, .int (II (o : Int))), (1, .int (II (k : Int))), (2, .int (II (x : Int)))] → W p l e (rmm 0 0) s m args below meth c H locs 0 0 QQ (F0 m 4 ls []) := by
    intro f1
    induction f1 with
    | zero => intro x k hmu; exact absurd hmu (Nat.not_lt_zero _)
    | succ f1 ih =>
      intro x k hmu h1 H locs ls hw hS hl
      have ih4 := ih
      refine lv_iload_n C.1 C.2.1 dX8_bitsOf_4 rfl (lv_at hl 2 rfl) ?_
      refine x_if_eq (tgt := 20) C ⟨by omega, by omega⟩ dX8_bitsOf_5 (by decide) (fun c5 => ?_) (fun c5 => ?_)
      · refine lv_iload_n C.1 C.2.1 dX8_bitsOf_20 rfl (lv_at hl 1 rfl) ?_
        subst hQQ; exact x_ireturn C hr hlk hw hS ⟨by omega, by omega⟩ rfl ⟨rfl, by have hx0 : x = 0 := (by omega); subst hx0; have hb0 : bc 0 = 0 := rfl; omega⟩ dX8_bitsOf_21
      · have hbd := bc_dec x h1.1 (by omega)
        refine lv_iinc (v := II ((k : Int) + 1)) (lv' := [(1, .int (II ((k : Int) + 1))), (0, .int (II (o : Int))), (2, .int (II (x : Int)))]) C.1 C.2.1 dX8_bitsOf_8 hl (k := 1) rfl (II_add _ _) (by decide) rfl (fun ls hl => ?_)
        refine lv_iload_n C.1 C.2.1 dX8_bitsOf_11 rfl (lv_at hl 2 rfl) ?_
        refine lv_iload_n C.1 C.2.1 dX8_bitsOf_12 rfl (lv_at hl 2 rfl) ?_
        refine lv_iconst (v := II 1) C.1 C.2.1 dX8_bitsOf_13 rfl ?_
        refine x_isub C dX8_bitsOf_14 ?_
        refine lv_iand C.1 C.2.1 dX8_bitsOf_15 ?_
        rw [show (II (x : Int) &&& II ((x : Int) - 1)) = II ((x &&& (x - 1) : Nat) : Int) from by rw [← II_sub]; exact hbd.1]
        refine lv_istore_n (lv' := [(2, .int (II ((x &&& (x - 1) : Nat) : Int))), (1, .int (II ((k : Int) + 1))), (0, .int (II (o : Int)))]) C.1 C.2.1 dX8_bitsOf_16 rfl hl (by decide) rfl (fun ls hl => ?_)
        refine lv_goto (tgt := 4) C.1 C.2.1 dX8_bitsOf_17 (by decide) ?_
        exact ih4  (x &&& (x - 1)) (k + 1) (by omega) (by omega) _ _ _ hw hS (lv_sub hl [2, 1, 0] rfl)
  exact L4 _ o 0 (Nat.lt_succ_self _) (by omega) _ _ _ hw hS (lv_sub hl [2, 1, 0] rfl)

set_option maxHeartbeats 4000000 in
set_option maxRecDepth 100000 in
theorem c_X8_few (l : Launch) (g : Gm) (M : Nat → Int) (hF : LvF g) (n : Nat) (v : Nat → Nat → Int) (nt : Int) (pd : Int) (t : Nat) (X : Txt) (I : Option Bor) (Sh : Sht) (hR : RepM M (n, v, nt, pd, t) X I Sh) (hA : InvA (n, v, nt, pd, t) X I Sh) (q : Int) (gz_q : rg q) (k : Int) (gz_k : rg k) : CI l ({ cls := "RatedBySighsModel", name := "few", desc := "(II)I" } : Jvm.MethodName) cX8_few 6 .int (rmm 44 978) g M [.ref (gA g 70), .int (II q), .int (II k)] (fun r M' => (((r = -2 ∧ ¬ ((0 ≤ q ∧ q < n) ∧ (0 ≤ k ∧ k ≤ 9999))) ∨ (((0 ≤ q ∧ q < n) ∧ (0 ≤ k ∧ k ≤ 9999)) ∧ isFew (fun o => dueS (upv v q.toNat 4 (o : Int)) n nt (X.2.1 t) (v q.toNat 2) ≤ k) r))) ∧ (RepM M' (n, v, nt, pd, t) X I Sh) ∧ (∀ m, m < 70000 → M' m = M m)) := by
  refine c_start (by decide) (Nat.le_of_ble_eq_true rfl) (fun p e s m below meth c ls C hr hlk hml hw hS hl => ?_)
  have hl : lv_has ls 6 [(0, .ref (gA g 70)), (1, .int (II q)), (2, .int (II k))] := hl
  generalize ([.ref (gA g 70), .int (II q), .int (II k)] : List Value).toArray = args at C ⊢
  generalize hQQ : MQ below (postI g (fun r M' => (((r = -2 ∧ ¬ ((0 ≤ q ∧ q < n) ∧ (0 ≤ k ∧ k ≤ 9999))) ∨ (((0 ≤ q ∧ q < n) ∧ (0 ≤ k ∧ k ≤ 9999)) ∧ isFew (fun o => dueS (upv v q.toNat 4 (o : Int)) n nt (X.2.1 t) (v q.toNat 2) ≤ k) r))) ∧ (RepM M' (n, v, nt, pd, t) X I Sh) ∧ (∀ m, m < 70000 → M' m = M m))) args s 0 0 (ar g) = QQ
  have g_M := hw.rg
  have hN : gN g = 84 := hF.1
  have hM : MB M n v nt t (X.2.1 t) (-1) := hR.mb hA
  have hn2 : n ≤ 8 := hM.1.2
  have hnt := hM.2.2.2.1.2
  have hpd : 0 ≤ pd ∧ pd ≤ 999999999 := hA.1.2.2.2.2.1
  have htc := hA.2.1
  have hts := hA.2.2.1.1
  have ht9 : t < X.1 := hA.1.2.2.2.2.2
  refine lv_aload_n C.1 C.2.1 dX8_few_0 rfl (lv_at hl 0 rfl) ?_
  refine lv_iload_n C.1 C.2.1 dX8_few_1 rfl (lv_at hl 1 rfl) ?_
  refine x_ci (x_runV (n := 1) C hw hS hml hl.1 70 8 (by omega) rfl (by decide) rfl (c_X8_isOne l g M hF n hM.1 q gz_q) mw_960 mw_962 mw_53 mw_130 mw_963 rfl rfl (by decide +kernel) ⟨Nat.le_of_ble_eq_true rfl, Nat.le_of_ble_eq_true rfl⟩ rfl rfl (Nat.le_of_ble_eq_true rfl) dX8_few_2 ⟨Nat.zero_le _, Nat.zero_le _⟩) hS (fun r2 M2 H locs hr2 hp hw hS => ?_)
  rcases hp with ⟨em2, (⟨er2, h2b⟩ | ⟨er2, h2b⟩)⟩
  · have hw : Wo g M H := em2 ▸ hw
    rw [er2]
    refine x_if_eq (tgt := 20) C ⟨by decide, by decide⟩ dX8_few_5 (by decide) (fun h => absurd h (by decide)) (fun _ => ?_)
    refine lv_iload_n C.1 C.2.1 dX8_few_8 rfl (lv_at hl 2 rfl) ?_
    refine x_i2l C gz_k dX8_few_9 ?_
    refine lv_lconst (v := LL 0) C.1 C.2.1 dX8_few_10 (by decide) ?_
    refine lv_ldc2 C.1 C.2.1 C.2.2.1 (C.2.2.2.1 _ mw_1293) dX8_few_11 ?_
    rw [show (9999 : Int64) = LL 9999 from by decide]
    refine x_ci (x_runS (n := 3) C hw hS hml hl.1 (c_X8_in l g M k gz_k 0 ⟨by decide, by decide⟩ 9999 ⟨by decide, by decide⟩) mw_957 mw_958 mw_130 mw_959 rfl rfl (by decide +kernel) ⟨Nat.le_of_ble_eq_true rfl, Nat.le_of_ble_eq_true rfl⟩ rfl rfl (Nat.le_of_ble_eq_true rfl) dX8_few_14 ⟨Nat.zero_le _, Nat.zero_le _⟩) hS (fun r14 M14 H locs hr14 hp hw hS => ?_)
    rcases hp with ⟨em14, (⟨er14, h14b⟩ | ⟨er14, h14b⟩)⟩
    · have hw : Wo g M H := em14 ▸ hw
      rw [er14]
      refine x_if_ne (tgt := 23) C ⟨by decide, by decide⟩ dX8_few_17 (by decide) (fun _ => ?_) (fun h => absurd h (by decide))
      have hqn : 0 ≤ q ∧ q < n := h2b
      have hk9 : 0 ≤ k ∧ k ≤ 9999 := h14b
      obtain ⟨i, rfl⟩ : ∃ i : Nat, q = (i : Int) := ⟨q.toNat, by omega⟩
      have hq0 := hM.2.2.1 i (by omega)
      refine lv_aload_n C.1 C.2.1 dX8_few_23 rfl (lv_at hl 0 rfl) ?_
      refine g8 C hw 70 (by omega) rfl 10 (by decide) mw_834 (svr (hF.2 _)) dX8_few_24 ?_
      refine lv_iconst (v := II 4) C.1 C.2.1 dX8_few_27 rfl ?_
      refine lv_iload_n C.1 C.2.1 dX8_few_28 rfl (lv_at hl 1 rfl) ?_
      refine x_imul C dX8_few_29 ?_
      refine lv_iconst (v := II 3) C.1 C.2.1 dX8_few_30 rfl ?_
      refine x_iadd C dX8_few_31 ?_
      refine x_iaload (L := 32) C hw 75 (by omega) rfl rfl (by omega) (by omega) (by decide) (x := v i 4) ((congrArg (fun z => M (1000 * 75 + z)) (by omega)).trans ((hM.2.1.1 i (by omega) (by omega)).2.2.2.2.1)) dX8_few_32 ?_
      refine lv_istore_n (lv' := [(3, .int (II (v i 4))), (0, .ref (gA g 70)), (1, .int (II (i : Int))), (2, .int (II k))]) C.1 C.2.1 dX8_few_33 rfl hl (by decide) rfl (fun ls hl => ?_)
      refine lv_iconst (v := II (-1)) C.1 C.2.1 dX8_few_34 rfl ?_
      refine lv_istore (lv' := [(4, .int (II (-1))), (3, .int (II (v i 4))), (0, .ref (gA g 70)), (1, .int (II (i : Int))), (2, .int (II k))]) C.1 C.2.1 dX8_few_35 hl (by decide) rfl (fun ls hl => ?_)
      refine lv_iconst (v := II 0) C.1 C.2.1 dX8_few_37 rfl ?_
      refine lv_istore (lv' := [(5, .int (II 0)), (4, .int (II (-1))), (3, .int (II (v i 4))), (0, .ref (gA g 70)), (1, .int (II (i : Int))), (2, .int (II k))]) C.1 C.2.1 dX8_few_38 hl (by decide) rfl (fun ls hl => ?_)
      have L40 : ∀ (f1 : Nat) (o : Nat) (w : Int) (M3 : Nat → Int), (64 - o) < f1 → (o ≤ 64) → (fewB (fun o => dueS (upv v i 4 (o : Int)) n nt (X.2.1 t) (v i 2) ≤ k) o w) → (∀ m, ¬ (scm m ∨ m = 75000 + (4 * i + 3)) → M3 m = M m) → ∀ (H : Heap) (locs : List Loc) (ls : Array Slot), Wo g M3 H → va_S (ar g) s.heap H locs → lv_has ls 6 [(0, .ref (gA g 70)), (1, .int (II (i : Int))), (2, .int (II k)), (3, .int (II (v i 4))), (4, .int (II w)), (5, .int (II (o : Int)))] → W p l e (rmm 44 978) s m args below meth c H locs 0 0 QQ (F0 m 40 ls []) := by
        intro f1
        induction f1 with
        | zero => intro o w M3 hmu; exact absurd hmu (Nat.not_lt_zero _)
        | succ f1 ih =>
          intro o w M3 hmu h1 hw4 hf3 H locs ls hw hS hl
          have ih40 := ih
          have g_M3 := hw.rg
          have hwr : -1 ≤ w ∧ w ≤ 63 := by rcases hw4 with z | ⟨x, z1, z2, -⟩ <;> omega
          refine lv_iload C.1 C.2.1 dX8_few_40 (lv_at hl 5 rfl) ?_
          refine lv_bipush (v := II 64) C.1 C.2.1 dX8_few_42 (by decide) ?_
          refine x_icmp_ge (tgt := 115) C ⟨by omega, by omega⟩ ⟨by decide, by decide⟩ dX8_few_44 (by decide) (fun c44 => ?_) (fun c44 => ?_)
          · refine lv_aload_n C.1 C.2.1 dX8_few_115 rfl (lv_at hl 0 rfl) ?_
            refine g8 C hw 70 (by omega) rfl 10 (by decide) mw_834 (svr (hF.2 _)) dX8_few_116 ?_
            refine lv_iconst (v := II 4) C.1 C.2.1 dX8_few_119 rfl ?_
            refine lv_iload_n C.1 C.2.1 dX8_few_120 rfl (lv_at hl 1 rfl) ?_
            refine x_imul C dX8_few_121 ?_
            refine lv_iconst (v := II 3) C.1 C.2.1 dX8_few_122 rfl ?_
            refine x_iadd C dX8_few_123 ?_
            refine lv_iload_n C.1 C.2.1 dX8_few_124 rfl (lv_at hl 3 rfl) ?_
            refine x_iastore (L := 32) C hw hS 75 (by omega) rfl rfl (by omega) (by omega) (by decide) (x := v i 4) ⟨by have := g_M (75000 + ((4 * i) + 3)); have := ((hM.2.1.1 i (by omega) (by omega)).2.2.2.2.1); omega, by have := g_M (75000 + ((4 * i) + 3)); have := ((hM.2.1.1 i (by omega) (by omega)).2.2.2.2.1); omega⟩ dX8_few_125 (fun H locs hw hS => ?_)
            have hw : Wo g (stM M3 (75000 + ((4 * i) + 3)) (v i 4)) H := by rw [show 1000 * 75 + ((4 * (i : Int)) + 3).toNat = 75000 + ((4 * i) + 3) from by omega] at hw; exact hw
            refine lv_iload C.1 C.2.1 dX8_few_126 (lv_at hl 4 rfl) ?_
            subst hQQ; exact x_ireturn C hr hlk hw hS ⟨by omega, by omega⟩ rfl (by
    have ho : o = 64 := by omega
    subst ho
    refine ⟨Or.inr ⟨⟨by omega, h14b⟩, hw4⟩, hR.fr hA (fun m hm _ => ?_), fun m hm => ?_⟩
    · by_cases e : m = 75000 + (4 * i + 3)
      · rw [e, st_s]; exact (mb_at hM (q := i) (f := 4) (by omega) (by unfold psP; omega)).symm
      · rw [st_n e]; exact hf3 m (fun z => z.elim (fun y => hm (Or.inl y)) e)
    · rw [st_n (by omega)]; exact hf3 m (by unfold scm; omega)) dX8_few_128
          · refine lv_iload C.1 C.2.1 dX8_few_47 (lv_at hl 4 rfl) ?_
            refine lv_iconst (v := II (-1)) C.1 C.2.1 dX8_few_49 rfl ?_
            refine x_icmp_eq (tgt := 66) C ⟨by omega, by omega⟩ ⟨by decide, by decide⟩ dX8_few_50 (by decide) (fun c50 => ?_) (fun c50 => ?_)
            · refine lv_aload_n C.1 C.2.1 dX8_few_66 rfl (lv_at hl 0 rfl) ?_
              refine g8 C hw 70 (by omega) rfl 10 (by decide) mw_834 (svr (hF.2 _)) dX8_few_67 ?_
              refine lv_iconst (v := II 4) C.1 C.2.1 dX8_few_70 rfl ?_
              refine lv_iload_n C.1 C.2.1 dX8_few_71 rfl (lv_at hl 1 rfl) ?_
              refine x_imul C dX8_few_72 ?_
              refine lv_iconst (v := II 3) C.1 C.2.1 dX8_few_73 rfl ?_
              refine x_iadd C dX8_few_74 ?_
              refine lv_iload C.1 C.2.1 dX8_few_75 (lv_at hl 5 rfl) ?_
              refine x_iastore (L := 32) C hw hS 75 (by omega) rfl rfl (by omega) (by omega) (by decide) (x := (o : Int)) ⟨by omega, by omega⟩ dX8_few_77 (fun H locs hw hS => ?_)
              have hw : Wo g (stM M3 (75000 + ((4 * i) + 3)) (o : Int)) H := by rw [show 1000 * 75 + ((4 * (i : Int)) + 3).toNat = 75000 + ((4 * i) + 3) from by omega] at hw; exact hw
              refine lv_aload_n C.1 C.2.1 dX8_few_78 rfl (lv_at hl 0 rfl) ?_
              refine x_cv (x_runV (n := 0) C hw hS hml hl.1 70 8 (by omega) rfl (by decide) rfl (c_X8_gathers l g (stM M3 (75000 + ((4 * i) + 3)) (o : Int)) hF n (upv v i 4 (o : Int)) nt t (X.2.1 t) (-1) (hM.up (q := i) (f := 4) (ps := 75000 + (4 * i + 3)) (x := (o : Int)) (Or.inr (by omega)) (fun m hm => by unfold sc4 scm at hm; rw [st_n (by omega)]; exact hf3 m (by unfold scm; omega)) st_s (hM.2.2.1.upO (by omega)) (fun z => absurd z (by decide)) (by omega))) mw_979 mw_981 mw_54 mw_130 mw_982 rfl rfl (by decide +kernel) ⟨Nat.le_of_ble_eq_true rfl, Nat.le_of_ble_eq_true rfl⟩ rfl rfl (Nat.le_of_ble_eq_true rfl) dX8_few_79 ⟨Nat.zero_le _, Nat.zero_le _⟩) hS (fun M79 H locs hp hw hS => ?_)
              obtain ⟨h79a, h79f⟩ := hp
              have g_M79 := hw.rg
              have hM7 : MB M79 n (upv v i 4 (o : Int)) nt t (X.2.1 t) (-1) := (hM.up (q := i) (f := 4) (ps := 75000 + (4 * i + 3)) (x := (o : Int)) (Or.inr (by omega)) (fun m hm => by unfold sc4 scm at hm; rw [h79f m (by unfold scm; omega), st_n (by omega)]; exact hf3 m (by unfold scm; omega)) ((h79f _ (by unfold scm; omega)).trans st_s) (hM.2.2.1.upO (by omega)) (fun z => absurd z (by decide)) (by omega))
              refine lv_aload_n C.1 C.2.1 dX8_few_82 rfl (lv_at hl 0 rfl) ?_
              refine lv_aload_n C.1 C.2.1 dX8_few_83 rfl (lv_at hl 0 rfl) ?_
              refine g8 C hw 70 (by omega) rfl 10 (by decide) mw_834 (svr (hF.2 _)) dX8_few_84 ?_
              refine lv_iconst (v := II 4) C.1 C.2.1 dX8_few_87 rfl ?_
              refine lv_iload_n C.1 C.2.1 dX8_few_88 rfl (lv_at hl 1 rfl) ?_
              refine x_imul C dX8_few_89 ?_
              refine lv_iconst (v := II 1) C.1 C.2.1 dX8_few_90 rfl ?_
              refine x_iadd C dX8_few_91 ?_
              refine x_iaload (L := 32) C hw 75 (by omega) rfl rfl (by omega) (by omega) (by decide) (x := v i 2) ((congrArg (fun z => M79 (1000 * 75 + z)) (by omega)).trans ((h79f (75000 + (4 * i + 1)) (by unfold scm; omega)).trans ((st_n (by omega)).trans ((hf3 (75000 + (4 * i + 1)) (by unfold scm; omega)).trans (mb_at hM (q := i) (f := 2) (by omega) (by unfold psP; omega)))))) dX8_few_92 ?_
              refine x_ci (x_runV (n := 1) C hw hS hml hl.1 70 8 (by omega) rfl (by decide) rfl (c_X8_dueOf l g M79 hF n (upv v i 4 (o : Int)) nt t (X.2.1 t) (-1) hM7 (fun p hp hg h hh => (h79a p hp hg h hh).2) (v i 2) (by have := (hM.2.1.1 i (by omega) (by omega)).2.2.2.2.2; omega)) mw_1243 mw_1245 mw_110 mw_130 mw_1246 rfl rfl (by decide +kernel) ⟨Nat.le_of_ble_eq_true rfl, Nat.le_of_ble_eq_true rfl⟩ rfl rfl (Nat.le_of_ble_eq_true rfl) dX8_few_93 ⟨Nat.zero_le _, Nat.zero_le _⟩) hS (fun r93 M93 H locs hr93 hp hw hS => ?_)
              obtain ⟨er93, h93f⟩ := hp
              have g_M93 := hw.rg
              rw [er93] at hr93 ⊢
              have hdi := dueS_in (upv v i 4 (o : Int)) n nt (X.2.1 t) (v i 2)
              refine lv_iload_n C.1 C.2.1 dX8_few_96 rfl (lv_at hl 2 rfl) ?_
              refine x_icmp_gt (tgt := 105) C hr93 gz_k dX8_few_97 (by decide) (fun c97 => ?_) (fun c97 => ?_)
              · refine lv_iload C.1 C.2.1 dX8_few_105 (lv_at hl 4 rfl) ?_
                refine lv_istore (lv' := [(4, .int (II w)), (0, .ref (gA g 70)), (1, .int (II (i : Int))), (2, .int (II k)), (3, .int (II (v i 4))), (5, .int (II (o : Int)))]) C.1 C.2.1 dX8_few_107 hl (by decide) rfl (fun ls hl => ?_)
                refine lv_iinc (v := II ((o : Int) + 1)) (lv' := [(5, .int (II ((o : Int) + 1))), (4, .int (II w)), (0, .ref (gA g 70)), (1, .int (II (i : Int))), (2, .int (II k)), (3, .int (II (v i 4)))]) C.1 C.2.1 dX8_few_109 hl (k := 5) rfl (II_add _ _) (by decide) rfl (fun ls hl => ?_)
                refine lv_goto (tgt := 40) C.1 C.2.1 dX8_few_112 (by decide) ?_
                exact ih40  (o + 1) w M93 (by omega) (by omega) (few_no hw4 (show ¬ _ ≤ k by omega)) (fun m hm => by unfold scm at hm; rw [h93f m (by omega), h79f m (by unfold scm; omega), st_n (by omega)]; exact hf3 m (by unfold scm; omega)) _ _ _ hw hS (lv_sub hl [2, 3, 4, 5, 1, 0] rfl)
              · refine lv_iload C.1 C.2.1 dX8_few_100 (lv_at hl 5 rfl) ?_
                refine lv_goto (tgt := 107) C.1 C.2.1 dX8_few_102 (by decide) ?_
                refine lv_istore (lv' := [(4, .int (II (o : Int))), (0, .ref (gA g 70)), (1, .int (II (i : Int))), (2, .int (II k)), (3, .int (II (v i 4))), (5, .int (II (o : Int)))]) C.1 C.2.1 dX8_few_107 hl (by decide) rfl (fun ls hl => ?_)
                refine lv_iinc (v := II ((o : Int) + 1)) (lv' := [(5, .int (II ((o : Int) + 1))), (4, .int (II (o : Int))), (0, .ref (gA g 70)), (1, .int (II (i : Int))), (2, .int (II k)), (3, .int (II (v i 4)))]) C.1 C.2.1 dX8_few_109 hl (k := 5) rfl (II_add _ _) (by decide) rfl (fun ls hl => ?_)
                refine lv_goto (tgt := 40) C.1 C.2.1 dX8_few_112 (by decide) ?_
                exact ih40  (o + 1) (o : Int) M93 (by omega) (by omega) (few_yes hw4 (show dueS (upv v i 4 (o : Int)) n nt (X.2.1 t) (v i 2) ≤ k by omega) (by first | exact Or.inl (by omega) | exact Or.inr ⟨x, rfl, by omega⟩)) (fun m hm => by unfold scm at hm; rw [h93f m (by omega), h79f m (by unfold scm; omega), st_n (by omega)]; exact hf3 m (by unfold scm; omega)) _ _ _ hw hS (lv_sub hl [2, 3, 4, 5, 1, 0] rfl)
            · obtain ⟨x, rfl, hx9⟩ : ∃ x : Nat, w = (x : Int) ∧ x < o := by rcases hw4 with z | ⟨x, z1, z2, -⟩ <;> first | exact ⟨x, z1, z2⟩ | (exfalso; omega)
              have hbo := bc_le o (by omega)
              have hbx := bc_le x (by omega)
              refine lv_iload C.1 C.2.1 dX8_few_53 (lv_at hl 5 rfl) ?_
              refine x_ci (x_runS (n := 1) C hw hS hml hl.1 (c_X8_bitsOf l g M3 o (by omega)) mw_1294 mw_1295 mw_130 mw_1296 rfl rfl (by decide +kernel) ⟨Nat.le_of_ble_eq_true rfl, Nat.le_of_ble_eq_true rfl⟩ rfl rfl (Nat.le_of_ble_eq_true rfl) dX8_few_55 ⟨Nat.zero_le _, Nat.zero_le _⟩) hS (fun r55 M55 H locs hr55 hp hw hS => ?_)
              obtain ⟨em55, er55⟩ := hp
              have hw : Wo g M3 H := em55 ▸ hw
              rw [er55] at hr55 ⊢
              refine lv_iload C.1 C.2.1 dX8_few_58 (lv_at hl 4 rfl) ?_
              refine x_ci (x_runS (n := 1) C hw hS hml hl.1 (c_X8_bitsOf l g M3 x (by omega)) mw_1294 mw_1295 mw_130 mw_1296 rfl rfl (by decide +kernel) ⟨Nat.le_of_ble_eq_true rfl, Nat.le_of_ble_eq_true rfl⟩ rfl rfl (Nat.le_of_ble_eq_true rfl) dX8_few_60 ⟨Nat.zero_le _, Nat.zero_le _⟩) hS (fun r60 M60 H locs hr60 hp hw hS => ?_)
              obtain ⟨em60, er60⟩ := hp
              have hw : Wo g M3 H := em60 ▸ hw
              rw [er60] at hr60 ⊢
              refine x_icmp_ge (tgt := 109) C hr55 hr60 dX8_few_63 (by decide) (fun c63 => ?_) (fun c63 => ?_)
              · refine lv_iinc (v := II ((o : Int) + 1)) (lv' := [(5, .int (II ((o : Int) + 1))), (0, .ref (gA g 70)), (1, .int (II (i : Int))), (2, .int (II k)), (3, .int (II (v i 4))), (4, .int (II (x : Int)))]) C.1 C.2.1 dX8_few_109 hl (k := 5) rfl (II_add _ _) (by decide) rfl (fun ls hl => ?_)
                refine lv_goto (tgt := 40) C.1 C.2.1 dX8_few_112 (by decide) ?_
                exact ih40  (o + 1) (x : Int) M3 (by omega) (by omega) (few_skip hw4 (by omega)) hf3 _ _ _ hw hS (lv_sub hl [1, 2, 3, 4, 5, 0] rfl)
              · refine lv_aload_n C.1 C.2.1 dX8_few_66 rfl (lv_at hl 0 rfl) ?_
                refine g8 C hw 70 (by omega) rfl 10 (by decide) mw_834 (svr (hF.2 _)) dX8_few_67 ?_
                refine lv_iconst (v := II 4) C.1 C.2.1 dX8_few_70 rfl ?_
                refine lv_iload_n C.1 C.2.1 dX8_few_71 rfl (lv_at hl 1 rfl) ?_
                refine x_imul C dX8_few_72 ?_
                refine lv_iconst (v := II 3) C.1 C.2.1 dX8_few_73 rfl ?_
                refine x_iadd C dX8_few_74 ?_
                refine lv_iload C.1 C.2.1 dX8_few_75 (lv_at hl 5 rfl) ?_
                refine x_iastore (L := 32) C hw hS 75 (by omega) rfl rfl (by omega) (by omega) (by decide) (x := (o : Int)) ⟨by omega, by omega⟩ dX8_few_77 (fun H locs hw hS => ?_)
                have hw : Wo g (stM M3 (75000 + ((4 * i) + 3)) (o : Int)) H := by rw [show 1000 * 75 + ((4 * (i : Int)) + 3).toNat = 75000 + ((4 * i) + 3) from by omega] at hw; exact hw
                refine lv_aload_n C.1 C.2.1 dX8_few_78 rfl (lv_at hl 0 rfl) ?_
                refine x_cv (x_runV (n := 0) C hw hS hml hl.1 70 8 (by omega) rfl (by decide) rfl (c_X8_gathers l g (stM M3 (75000 + ((4 * i) + 3)) (o : Int)) hF n (upv v i 4 (o : Int)) nt t (X.2.1 t) (-1) (hM.up (q := i) (f := 4) (ps := 75000 + (4 * i + 3)) (x := (o : Int)) (Or.inr (by omega)) (fun m hm => by unfold sc4 scm at hm; rw [st_n (by omega)]; exact hf3 m (by unfold scm; omega)) st_s (hM.2.2.1.upO (by omega)) (fun z => absurd z (by decide)) (by omega))) mw_979 mw_981 mw_54 mw_130 mw_982 rfl rfl (by decide +kernel) ⟨Nat.le_of_ble_eq_true rfl, Nat.le_of_ble_eq_true rfl⟩ rfl rfl (Nat.le_of_ble_eq_true rfl) dX8_few_79 ⟨Nat.zero_le _, Nat.zero_le _⟩) hS (fun M79 H locs hp hw hS => ?_)
                obtain ⟨h79a, h79f⟩ := hp
                have g_M79 := hw.rg
                have hM7 : MB M79 n (upv v i 4 (o : Int)) nt t (X.2.1 t) (-1) := (hM.up (q := i) (f := 4) (ps := 75000 + (4 * i + 3)) (x := (o : Int)) (Or.inr (by omega)) (fun m hm => by unfold sc4 scm at hm; rw [h79f m (by unfold scm; omega), st_n (by omega)]; exact hf3 m (by unfold scm; omega)) ((h79f _ (by unfold scm; omega)).trans st_s) (hM.2.2.1.upO (by omega)) (fun z => absurd z (by decide)) (by omega))
                refine lv_aload_n C.1 C.2.1 dX8_few_82 rfl (lv_at hl 0 rfl) ?_
                refine lv_aload_n C.1 C.2.1 dX8_few_83 rfl (lv_at hl 0 rfl) ?_
                refine g8 C hw 70 (by omega) rfl 10 (by decide) mw_834 (svr (hF.2 _)) dX8_few_84 ?_
                refine lv_iconst (v := II 4) C.1 C.2.1 dX8_few_87 rfl ?_
                refine lv_iload_n C.1 C.2.1 dX8_few_88 rfl (lv_at hl 1 rfl) ?_
                refine x_imul C dX8_few_89 ?_
                refine lv_iconst (v := II 1) C.1 C.2.1 dX8_few_90 rfl ?_
                refine x_iadd C dX8_few_91 ?_
                refine x_iaload (L := 32) C hw 75 (by omega) rfl rfl (by omega) (by omega) (by decide) (x := v i 2) ((congrArg (fun z => M79 (1000 * 75 + z)) (by omega)).trans ((h79f (75000 + (4 * i + 1)) (by unfold scm; omega)).trans ((st_n (by omega)).trans ((hf3 (75000 + (4 * i + 1)) (by unfold scm; omega)).trans (mb_at hM (q := i) (f := 2) (by omega) (by unfold psP; omega)))))) dX8_few_92 ?_
                refine x_ci (x_runV (n := 1) C hw hS hml hl.1 70 8 (by omega) rfl (by decide) rfl (c_X8_dueOf l g M79 hF n (upv v i 4 (o : Int)) nt t (X.2.1 t) (-1) hM7 (fun p hp hg h hh => (h79a p hp hg h hh).2) (v i 2) (by have := (hM.2.1.1 i (by omega) (by omega)).2.2.2.2.2; omega)) mw_1243 mw_1245 mw_110 mw_130 mw_1246 rfl rfl (by decide +kernel) ⟨Nat.le_of_ble_eq_true rfl, Nat.le_of_ble_eq_true rfl⟩ rfl rfl (Nat.le_of_ble_eq_true rfl) dX8_few_93 ⟨Nat.zero_le _, Nat.zero_le _⟩) hS (fun r93 M93 H locs hr93 hp hw hS => ?_)
                obtain ⟨er93, h93f⟩ := hp
                have g_M93 := hw.rg
                rw [er93] at hr93 ⊢
                have hdi := dueS_in (upv v i 4 (o : Int)) n nt (X.2.1 t) (v i 2)
                refine lv_iload_n C.1 C.2.1 dX8_few_96 rfl (lv_at hl 2 rfl) ?_
                refine x_icmp_gt (tgt := 105) C hr93 gz_k dX8_few_97 (by decide) (fun c97 => ?_) (fun c97 => ?_)
                · refine lv_iload C.1 C.2.1 dX8_few_105 (lv_at hl 4 rfl) ?_
                  refine lv_istore (lv' := [(4, .int (II (x : Int))), (0, .ref (gA g 70)), (1, .int (II (i : Int))), (2, .int (II k)), (3, .int (II (v i 4))), (5, .int (II (o : Int)))]) C.1 C.2.1 dX8_few_107 hl (by decide) rfl (fun ls hl => ?_)
                  refine lv_iinc (v := II ((o : Int) + 1)) (lv' := [(5, .int (II ((o : Int) + 1))), (4, .int (II (x : Int))), (0, .ref (gA g 70)), (1, .int (II (i : Int))), (2, .int (II k)), (3, .int (II (v i 4)))]) C.1 C.2.1 dX8_few_109 hl (k := 5) rfl (II_add _ _) (by decide) rfl (fun ls hl => ?_)
                  refine lv_goto (tgt := 40) C.1 C.2.1 dX8_few_112 (by decide) ?_
                  exact ih40  (o + 1) (x : Int) M93 (by omega) (by omega) (few_no hw4 (show ¬ _ ≤ k by omega)) (fun m hm => by unfold scm at hm; rw [h93f m (by omega), h79f m (by unfold scm; omega), st_n (by omega)]; exact hf3 m (by unfold scm; omega)) _ _ _ hw hS (lv_sub hl [2, 3, 4, 5, 1, 0] rfl)
                · refine lv_iload C.1 C.2.1 dX8_few_100 (lv_at hl 5 rfl) ?_
                  refine lv_goto (tgt := 107) C.1 C.2.1 dX8_few_102 (by decide) ?_
                  refine lv_istore (lv' := [(4, .int (II (o : Int))), (0, .ref (gA g 70)), (1, .int (II (i : Int))), (2, .int (II k)), (3, .int (II (v i 4))), (5, .int (II (o : Int)))]) C.1 C.2.1 dX8_few_107 hl (by decide) rfl (fun ls hl => ?_)
                  refine lv_iinc (v := II ((o : Int) + 1)) (lv' := [(5, .int (II ((o : Int) + 1))), (4, .int (II (o : Int))), (0, .ref (gA g 70)), (1, .int (II (i : Int))), (2, .int (II k)), (3, .int (II (v i 4)))]) C.1 C.2.1 dX8_few_109 hl (k := 5) rfl (II_add _ _) (by decide) rfl (fun ls hl => ?_)
                  refine lv_goto (tgt := 40) C.1 C.2.1 dX8_few_112 (by decide) ?_
                  exact ih40  (o + 1) (o : Int) M93 (by omega) (by omega) (few_yes hw4 (show dueS (upv v i 4 (o : Int)) n nt (X.2.1 t) (v i 2) ≤ k by omega) (by first | exact Or.inl (by omega) | exact Or.inr ⟨x, rfl, by omega⟩)) (fun m hm => by unfold scm at hm; rw [h93f m (by omega), h79f m (by unfold scm; omega), st_n (by omega)]; exact hf3 m (by unfold scm; omega)) _ _ _ hw hS (lv_sub hl [2, 3, 4, 5, 1, 0] rfl)
      exact L40 _ 0 (-1) M (Nat.lt_succ_self _) (by omega) (Or.inl ⟨rfl, fun _ h => absurd h (Nat.not_lt_zero _)⟩) (fun _ _ => rfl) _ _ _ hw hS (lv_sub hl [3, 4, 5, 2, 1, 0] rfl)
    · have hw : Wo g M H := em14 ▸ hw
      rw [er14]
      refine x_if_ne (tgt := 23) C ⟨by decide, by decide⟩ dX8_few_17 (by decide) (fun h => absurd h (by decide)) (fun _ => ?_)
      refine lv_bipush (v := II (-2)) C.1 C.2.1 dX8_few_20 (by decide) ?_
      subst hQQ; exact x_ireturn C hr hlk hw hS ⟨by decide, by decide⟩ rfl ⟨Or.inl ⟨rfl, fun z => by first | exact h2b z.1 | exact h14b z.2⟩, hR, fun _ _ => rfl⟩ dX8_few_22
  · have hw : Wo g M H := em2 ▸ hw
    rw [er2]
    refine x_if_eq (tgt := 20) C ⟨by decide, by decide⟩ dX8_few_5 (by decide) (fun _ => ?_) (fun h => absurd h (by decide))
    refine lv_bipush (v := II (-2)) C.1 C.2.1 dX8_few_20 (by decide) ?_
    subst hQQ; exact x_ireturn C hr hlk hw hS ⟨by decide, by decide⟩ rfl ⟨Or.inl ⟨rfl, fun z => by first | exact h2b z.1 | exact h14b z.2⟩, hR, fun _ _ => rfl⟩ dX8_few_22
