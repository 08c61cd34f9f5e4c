theorem sm_c {f g : Nat → Int} {n : Nat} (h : ∀ q, q < n → f q = g q) : sm f n = sm g n := by
  induction n with
  | zero => rfl
  | succ n ih => rw [sm, sm, ih (fun q hq => h q (by omega)), h n (by omega)]
set_option maxHeartbeats 4000000 in
set_option maxRecDepth 100000 in
theorem c_X2_play (l : Launch) (g : Gm) (M : Nat → Int) (hF : LvF g) (n : Nat) (v : Nat → Nat → Int) (nt : Int) (t : Nat) (E : Ev) (hB : BV M n v nt t E) (ho : Int) (hho : rg ho) : CI l ({ cls := "RatedBySighs$Evening", name := "play", desc := "(I)I" } : Jvm.MethodName) cX2_play 4 .int (rmm 3 76) g M [.ref (gA g 1), .int (II ho)] (fun r M' => r = dueS v n nt E ho ∧ (∀ k, k ≤ 6 → ∀ j, j < n → v j 2 = ho → M' (1000 * (30 + k) + j) = moodA v n E j k) ∧ (∀ k, k < 6 → ∀ j, j < n → v j 2 = ho → M' (1000 * (38 + k) + j) = sighA v n nt E j k) ∧ (∀ k, k < 6 → M' (44000 + k) = reedS v n nt E ho k) ∧ (∀ m, ¬ scr m → M' m = M m)) := by
  refine c_start (by decide) (Nat.le_of_ble_eq_true rfl) (fun p e s m below meth c ls C hr hlk hml hw hS hl => ?_)
  have hl : lv_has ls 4 [(0, .ref (gA g 1)), (1, .int (II ho))] := hl
  generalize ([.ref (gA g 1), .int (II ho)] : List Value).toArray = args at C ⊢
  generalize hQQ : MQ below (postI g (fun r M' => r = dueS v n nt E ho ∧ (∀ k, k ≤ 6 → ∀ j, j < n → v j 2 = ho → M' (1000 * (30 + k) + j) = moodA v n E j k) ∧ (∀ k, k < 6 → ∀ j, j < n → v j 2 = ho → M' (1000 * (38 + k) + j) = sighA v n nt E j k) ∧ (∀ k, k < 6 → M' (44000 + k) = reedS v n nt E ho k) ∧ (∀ m, ¬ scr m → M' m = M m))) args s 0 0 (ar g) = QQ
  have g_M := hw.rg
  have hN : gN g = 84 := hF.1
  obtain ⟨⟨hn1, hn2⟩, hBv, hPI, hBnt, hBt, hTx⟩ := id hB
  refine lv_iconst (v := II 0) C.1 C.2.1 dX2_play_0 rfl ?_
  refine lv_istore_n (lv' := [(2, .int (II 0)), (0, .ref (gA g 1)), (1, .int (II ho))]) C.1 C.2.1 dX2_play_1 rfl hl (by decide) rfl (fun ls hl => ?_)
  refine lv_iconst (v := II 0) C.1 C.2.1 dX2_play_2 rfl ?_
  refine lv_istore_n (lv' := [(3, .int (II 0)), (2, .int (II 0)), (0, .ref (gA g 1)), (1, .int (II ho))]) C.1 C.2.1 dX2_play_3 rfl hl (by decide) rfl (fun ls hl => ?_)
  have L4 : ∀ (f1 : Nat) (i : Nat) (M2 : Nat → Int), (n - i) < f1 → (i ≤ n) → (∀ j, j < i → M2 (30000 + j) = v j 3) → (∀ m, ¬ scr m → M2 m = M m) → ∀ (H : Heap) (locs : List Loc) (ls : Array Slot), Wo g M2 H → va_S (ar g) s.heap H locs → lv_has ls 4 [(0, .ref (gA g 1)), (1, .int (II ho)), (2, .int (II (cnt (fun q => decide (v q 2 = ho)) i))), (3, .int (II (i : Int)))] → W p l e (rmm 3 76) s m args below meth c H locs 0 0 QQ (F0 m 4 ls []) := by
    intro f1
    induction f1 with
    | zero => intro i M2 hmu; exact absurd hmu (Nat.not_lt_zero _)
    | succ f1 ih =>
      intro i M2 hmu h1 h2 h3 H locs ls hw hS hl
      have ih4 := ih
      have g_M2 := hw.rg
      have hB2 : BV M2 n v nt t E := hB.fr h3
      have hci := cnt_in (fun q => decide (v q 2 = ho)) i
      have hci2 := cnt_in (fun q => decide (v q 2 = ho)) n
      refine lv_iload_n C.1 C.2.1 dX2_play_4 rfl (lv_at hl 3 rfl) ?_
      refine lv_aload_n C.1 C.2.1 dX2_play_5 rfl (lv_at hl 0 rfl) ?_
      refine g2 C hw 1 (by omega) rfl 0 (by decide) mw_238 (svr (hF.2 _)) dX2_play_6 ?_
      refine gn1 C hw 2 (by omega) rfl 1 (by decide) mn_190 (svi (x := (n : Int)) hB2.1.1) dX2_play_9 ?_
      refine x_icmp_ge (tgt := 60) C ⟨by omega, by omega⟩ ⟨by have := g_M2 2001; have := hB2.1.1; omega, by have := g_M2 2001; have := hB2.1.1; omega⟩ dX2_play_12 (by decide) (fun c12 => ?_) (fun c12 => ?_)
      · have ein : i = n := by omega
        rw [ein] at hl
        refine lv_aload_n C.1 C.2.1 dX2_play_60 rfl (lv_at hl 0 rfl) ?_
        refine lv_iconst (v := II 0) C.1 C.2.1 dX2_play_61 rfl ?_
        refine p2 C hw hS 1 (by omega) rfl 5 (by decide) mw_248 rfl (x := 0) ⟨by decide, by decide⟩ (svi st_s) (tyX2_ok 5 (by decide)) rfl rfl dX2_play_62 (fun H locs hw hS => ?_)
        have hw : Wo g (stM M2 1005 0) H := hw
        refine lv_iconst (v := II 0) C.1 C.2.1 dX2_play_65 rfl ?_
        refine lv_istore_n (lv' := [(3, .int (II 0)), (0, .ref (gA g 1)), (1, .int (II ho)), (2, .int (II (cnt (fun q => decide (v q 2 = ho)) n)))]) C.1 C.2.1 dX2_play_66 rfl hl (by decide) rfl (fun ls hl => ?_)
        have L67 : ∀ (f2 : Nat) (k : Nat) (M3 : Nat → Int), (6 - k) < f2 → (k ≤ 6) → (∀ x, x ≤ k → ∀ j, j < n → v j 2 = ho → M3 (1000 * (30 + x) + j) = moodA v n E j x) → (∀ x, x < k → ∀ j, j < n → v j 2 = ho → M3 (1000 * (38 + x) + j) = sighA v n nt E j x) → (∀ x, x < k → M3 (44000 + x) = reedS v n nt E ho x) → (M3 1005 = sm (payS v n nt E ho) (k)) → (∀ m, ¬ scr m → M3 m = M m) → ∀ (H : Heap) (locs : List Loc) (ls : Array Slot), Wo g M3 H → va_S (ar g) s.heap H locs → lv_has ls 4 [(0, .ref (gA g 1)), (1, .int (II ho)), (2, .int (II (cnt (fun q => decide (v q 2 = ho)) n))), (3, .int (II (k : Int)))] → W p l e (rmm 3 76) s m args below meth c H locs 0 0 QQ (F0 m 67 ls []) := by
          intro f2
          induction f2 with
          | zero => intro k M3 hmu; exact absurd hmu (Nat.not_lt_zero _)
          | succ f2 ih =>
            intro k M3 hmu h4 ha hb hc hd hf H locs ls hw hS hl
            have ih67 := ih
            have g_M3 := hw.rg
            have hB3 : BV M3 n v nt t E := hB.fr hf
            have hps := sm_in (B := 2376) (f := payS v n nt E ho) (fun q => by have := sm_in (pay1_in v n nt E ho q) n; unfold payS; omega) k
            refine lv_iload_n C.1 C.2.1 dX2_play_67 rfl (lv_at hl 3 rfl) ?_
            refine lv_bipush (v := II 6) C.1 C.2.1 dX2_play_68 (by decide) ?_
            refine x_icmp_ge (tgt := 91) C ⟨by omega, by omega⟩ ⟨by decide, by decide⟩ dX2_play_70 (by decide) (fun c70 => ?_) (fun c70 => ?_)
            · have ek : k = 6 := by omega
              subst ek
              have hd6 : M3 1005 = sm (payS v n nt E ho) 6 := hd
              refine lv_aload_n C.1 C.2.1 dX2_play_91 rfl (lv_at hl 0 rfl) ?_
              refine g2 C hw 1 (by omega) rfl 1 (by decide) mw_240 (svr (hF.2 _)) dX2_play_92 ?_
              refine lv_aload_n C.1 C.2.1 dX2_play_95 rfl (lv_at hl 0 rfl) ?_
              refine g2 C hw 1 (by omega) rfl 5 (by decide) mw_248 (svi (x := sm (payS v n nt E ho) 6) hd6) dX2_play_96 ?_
              refine lv_bipush (v := II 6) C.1 C.2.1 dX2_play_99 (by decide) ?_
              refine lv_iconst (v := II 0) C.1 C.2.1 dX2_play_101 rfl ?_
              refine lv_iload_n C.1 C.2.1 dX2_play_102 rfl (lv_at hl 2 rfl) ?_
              refine lv_iload_n C.1 C.2.1 dX2_play_103 rfl (lv_at hl 1 rfl) ?_
              refine lv_iconst (v := II 0) C.1 C.2.1 dX2_play_104 rfl ?_
              refine x_cv (x_runVN (n := 6) C hw hS hml hl.1 12 6 (by omega) rfl (by decide) rfl (c_X6_mean l g M3 hF (sm (payS v n nt E ho) 6) ⟨by have := g_M3 1005; have := hd6; omega, by have := g_M3 1005; have := hd6; omega⟩ 6 ⟨by decide, by decide⟩ 0 ⟨by decide, by decide⟩ (cnt (fun q => decide (v q 2 = ho)) n) ⟨by omega, by omega⟩ ho hho 0 ⟨by decide, by decide⟩) mn_564 mw_566 mw_25 mw_121 mw_567 rfl rfl (by decide +kernel) ⟨Nat.le_of_ble_eq_true rfl, Nat.le_of_ble_eq_true rfl⟩ rfl rfl (Nat.le_of_ble_eq_true rfl) dX2_play_105 ⟨Nat.zero_le _, Nat.zero_le _⟩) hS (fun M105 H locs hp hw hS => ?_)
              have em105 := hp
              have hw : Wo g (stM (stM (stM (stM (stM (stM M3 27000 (sm (payS v n nt E ho) 6)) 27001 6) 27002 0) 27003 (cnt (fun q => decide (v q 2 = ho)) n)) 27004 ho) 27005 0) H := em105 ▸ hw
              refine lv_aload_n C.1 C.2.1 dX2_play_108 rfl (lv_at hl 0 rfl) ?_
              refine g2 C hw 1 (by omega) rfl 1 (by decide) mw_240 (svr (hF.2 _)) dX2_play_109 ?_
              refine lv_aload_n C.1 C.2.1 dX2_play_112 rfl (lv_at hl 0 rfl) ?_
              refine g2 C hw 1 (by omega) rfl 0 (by decide) mw_238 (svr (hF.2 _)) dX2_play_113 ?_
              refine gn1 C hw 2 (by omega) rfl 4 (by decide) mn_198 (svi (x := (t : Int)) ((st_n (by decide)).trans ((st_n (by decide)).trans ((st_n (by decide)).trans ((st_n (by decide)).trans ((st_n (by decide)).trans ((st_n (by decide)).trans hB3.2.2.2.2.1.1))))))) dX2_play_116 ?_
              refine lv_iconst (v := II 2) C.1 C.2.1 dX2_play_119 rfl ?_
              refine x_ci (x_runVN (n := 2) C hw hS hml hl.1 12 6 (by omega) rfl (by decide) rfl (c_X6_worthE l g (stM (stM (stM (stM (stM (stM M3 27000 (sm (payS v n nt E ho) 6)) 27001 6) 27002 0) 27003 (cnt (fun q => decide (v q 2 = ho)) n)) 27004 ho) 27005 0) hF t (by first | assumption | omega | exact ⟨by omega, by omega⟩ | decide) 2 (by first | assumption | omega | exact ⟨by omega, by omega⟩ | decide) E (hB3.2.2.2.2.2.fr (fun m hm => by rw [st_n (by omega), st_n (by omega), st_n (by omega), st_n (by omega), st_n (by omega), st_n (by omega)])) (sm (payS v n nt E ho) 6) ((st_n (by decide)).trans ((st_n (by decide)).trans ((st_n (by decide)).trans ((st_n (by decide)).trans ((st_n (by decide)).trans st_s))))) 6 ((st_n (by decide)).trans ((st_n (by decide)).trans ((st_n (by decide)).trans ((st_n (by decide)).trans st_s)))) 0 ((st_n (by decide)).trans ((st_n (by decide)).trans ((st_n (by decide)).trans st_s))) (cnt (fun q => decide (v q 2 = ho)) n) ((st_n (by decide)).trans ((st_n (by decide)).trans st_s)) ho ((st_n (by decide)).trans st_s) 0 st_s) mn_568 mw_570 mw_26 mw_121 mw_571 rfl rfl (by decide +kernel) ⟨Nat.le_of_ble_eq_true rfl, Nat.le_of_ble_eq_true rfl⟩ rfl rfl (Nat.le_of_ble_eq_true rfl) dX2_play_120 ⟨Nat.zero_le _, Nat.zero_le _⟩) hS (fun r120 M120 H locs hr120 hp hw hS => ?_)
              obtain ⟨er120, h120f⟩ := hp
              have g_M120 := hw.rg
              rw [er120] at hr120 ⊢
              have hb120 := bnd_in (v := r120) (lo := 0) (hi := 9999) (by decide)
              refine lv_iconst (v := II 0) C.1 C.2.1 dX2_play_123 rfl ?_
              refine lv_sipush (v := II 9999) C.1 C.2.1 dX2_play_124 (by decide) ?_
              refine x_ci (x_runSN (n := 3) C hw hS hml hl.1 (c_X7_bounded l g M120 (E 2 (sm (payS v n nt E ho) 6) 6 0 (cnt (fun q => decide (v q 2 = ho)) n) ho 0) hr120 0 ⟨by decide, by decide⟩ 9999 ⟨by decide, by decide⟩ (by first | assumption | omega | exact ⟨by omega, by omega⟩ | decide)) mn_575 mw_576 mw_117 mw_577 rfl rfl (by decide +kernel) ⟨Nat.le_of_ble_eq_true rfl, Nat.le_of_ble_eq_true rfl⟩ rfl rfl (Nat.le_of_ble_eq_true rfl) dX2_play_127 ⟨Nat.zero_le _, Nat.zero_le _⟩) hS (fun r127 M127 H locs hr127 hp hw hS => ?_)
              obtain ⟨em127, er127⟩ := hp
              have hw : Wo g M120 H := em127 ▸ hw
              rw [er127] at hr127 ⊢
              subst hQQ; exact x_ireturn C hr hlk hw hS hr127 rfl ⟨rfl, (fun k hk j hj hv => (h120f _ (by omega)).trans (by rw [st_n (by omega), st_n (by omega), st_n (by omega), st_n (by omega), st_n (by omega), st_n (by omega)]; exact ha k hk j hj hv)), (fun k hk j hj hv => (h120f _ (by omega)).trans (by rw [st_n (by omega), st_n (by omega), st_n (by omega), st_n (by omega), st_n (by omega), st_n (by omega)]; exact hb k hk j hj hv)), (fun k hk => (h120f _ (by omega)).trans (by rw [st_n (by omega), st_n (by omega), st_n (by omega), st_n (by omega), st_n (by omega), st_n (by omega)]; exact hc k hk)), (fun m hm => (h120f m (by unfold scr at hm; omega)).trans (by rw [st_n (by unfold scr at hm; omega), st_n (by unfold scr at hm; omega), st_n (by unfold scr at hm; omega), st_n (by unfold scr at hm; omega), st_n (by unfold scr at hm; omega), st_n (by unfold scr at hm; omega)]; exact hf m hm))⟩ dX2_play_130
            · refine lv_aload_n C.1 C.2.1 dX2_play_73 rfl (lv_at hl 0 rfl) ?_
              refine lv_iload_n C.1 C.2.1 dX2_play_74 rfl (lv_at hl 1 rfl) ?_
              refine lv_iload_n C.1 C.2.1 dX2_play_75 rfl (lv_at hl 3 rfl) ?_
              refine x_cv (x_runV (n := 2) C hw hS hml hl.1 1 2 (by omega) rfl (by decide) rfl (c_X2_seeWhoIsPresent l g M3 hF n v nt t E hB3 ho hho k (by first | assumption | omega | exact ⟨by omega, by omega⟩ | decide)) mw_552 mw_554 mw_22 mw_118 mw_555 rfl rfl (by decide +kernel) ⟨Nat.le_of_ble_eq_true rfl, Nat.le_of_ble_eq_true rfl⟩ rfl rfl (Nat.le_of_ble_eq_true rfl) dX2_play_76 ⟨Nat.zero_le _, Nat.zero_le _⟩) hS (fun M76 H locs hp hw hS => ?_)
              obtain ⟨h76a, h76f⟩ := hp
              have g_M76 := hw.rg
              refine lv_aload_n C.1 C.2.1 dX2_play_79 rfl (lv_at hl 0 rfl) ?_
              refine lv_iload_n C.1 C.2.1 dX2_play_80 rfl (lv_at hl 1 rfl) ?_
              refine lv_iload_n C.1 C.2.1 dX2_play_81 rfl (lv_at hl 3 rfl) ?_
              refine x_cv (x_runV (n := 2) C hw hS hml hl.1 1 2 (by omega) rfl (by decide) rfl (c_X2_passHour l g M76 hF n v nt t E (hB3.fr (fun m hm => h76f m (by unfold scr at hm; omega))) ho hho k (by first | assumption | omega | exact ⟨by omega, by omega⟩ | decide) h76a (fun j hj hv => (h76f _ (by omega)).trans (ha k (by omega) j hj hv)) (by rw [h76f _ (by omega), hd]; omega)) mw_560 mw_562 mw_24 mw_118 mw_563 rfl rfl (by decide +kernel) ⟨Nat.le_of_ble_eq_true rfl, Nat.le_of_ble_eq_true rfl⟩ rfl rfl (Nat.le_of_ble_eq_true rfl) dX2_play_82 ⟨Nat.zero_le _, Nat.zero_le _⟩) hS (fun M82 H locs hp hw hS => ?_)
              obtain ⟨h82a, h82b, h82c, h82d, h82f⟩ := hp
              have g_M82 := hw.rg
              refine lv_iinc (v := II ((k : Int) + 1)) (lv' := [(3, .int (II ((k : Int) + 1))), (0, .ref (gA g 1)), (1, .int (II ho)), (2, .int (II (cnt (fun q => decide (v q 2 = ho)) n)))]) C.1 C.2.1 dX2_play_85 hl (k := 3) rfl (II_add _ _) (by decide) rfl (fun ls hl => ?_)
              refine lv_goto (tgt := 67) C.1 C.2.1 dX2_play_88 (by decide) ?_
              exact ih67  (k + 1) M82 (by omega) (by omega) (fun k' hk j hj hv => by
      by_cases e : k' = k + 1
      · subst e; exact h82a j hj hv
      · exact (h82f _ (by unfold ph; omega)).trans ((h76f _ (by omega)).trans (ha k' (by omega) j hj hv))) (fun k' hk j hj hv => by
      by_cases e : k' = k
      · subst e; exact h82b j hj hv
      · exact (h82f _ (by unfold ph; omega)).trans ((h76f _ (by omega)).trans (hb k' (by omega) j hj hv))) (fun k' hk => by
      by_cases e : k' = k
      · subst e; exact h82c
      · exact (h82f _ (by unfold ph; omega)).trans ((h76f _ (by omega)).trans (hc k' (by omega)))) (by rw [h82d, h76f _ (by omega), hd]; rfl) (fun m hm => (h82f m (by unfold scr at hm; unfold ph; omega)).trans ((h76f m (by unfold scr at hm; omega)).trans (hf m hm))) _ _ _ hw hS (lv_sub hl [1, 2, 3, 0] rfl)
        exact L67 _ 0 (stM M2 1005 0) (Nat.lt_succ_self _) (by omega) (fun k hk j hj _ => by rw [show k = 0 by omega]; exact (st_n (by omega)).trans (h2 j (by omega))) (fun _ h => absurd h (Nat.not_lt_zero _)) (fun _ h => absurd h (Nat.not_lt_zero _)) st_s (stF h3 (by unfold scr; omega)) _ _ _ hw hS (lv_sub hl [1, 2, 3, 0] rfl)
      · have hq := hPI i (by omega)
        refine lv_aload_n C.1 C.2.1 dX2_play_15 rfl (lv_at hl 0 rfl) ?_
        refine g2 C hw 1 (by omega) rfl 2 (by decide) mw_242 (svr (hF.2 _)) dX2_play_16 ?_
        refine lv_iconst (v := II 0) C.1 C.2.1 dX2_play_19 rfl ?_
        refine x_aaload (L := 7) C hw 29 (by omega) 13 rfl (by decide) rfl (by omega) (by omega) (by decide) (rM hF 0 (by omega)) dX2_play_20 ?_
        refine lv_iload_n C.1 C.2.1 dX2_play_21 rfl (lv_at hl 3 rfl) ?_
        refine lv_aload_n C.1 C.2.1 dX2_play_22 rfl (lv_at hl 0 rfl) ?_
        refine g2 C hw 1 (by omega) rfl 0 (by decide) mw_238 (svr (hF.2 _)) dX2_play_23 ?_
        refine gn1 C hw 2 (by omega) rfl 0 (by decide) mn_188 (svr (hF.2 _)) dX2_play_26 ?_
        refine lv_iload_n C.1 C.2.1 dX2_play_29 rfl (lv_at hl 3 rfl) ?_
        refine x_aaload (L := 8) C hw 3 (by omega) 11 rfl (by decide) rfl (by omega) (by omega) (by decide) (rP hF i (by omega)) dX2_play_30 ?_
        refine gn3 C hw (4 + i) (by omega) (kd_p (by omega)) 3 (by decide) mn_171 (svi (x := v i 3) (hB2.2.1 i (by omega) 3 (by decide))) dX2_play_31 ?_
        refine x_iastore (L := 8) C hw hS 30 (by omega) rfl rfl (by omega) (by omega) (by decide) (x := v i 3) ⟨by have := g_M2 (1000 * (4 + i) + 3); have := (hB2.2.1 i (by omega) 3 (by decide)); omega, by have := g_M2 (1000 * (4 + i) + 3); have := (hB2.2.1 i (by omega) 3 (by decide)); omega⟩ dX2_play_34 (fun H locs hw hS => ?_)
        have hw : Wo g (stM M2 (30000 + i) (v i 3)) H := hw
        refine lv_aload_n C.1 C.2.1 dX2_play_35 rfl (lv_at hl 0 rfl) ?_
        refine g2 C hw 1 (by omega) rfl 0 (by decide) mw_238 (svr (hF.2 _)) dX2_play_36 ?_
        refine gn1 C hw 2 (by omega) rfl 0 (by decide) mn_188 (svr (hF.2 _)) dX2_play_39 ?_
        refine lv_iload_n C.1 C.2.1 dX2_play_42 rfl (lv_at hl 3 rfl) ?_
        refine x_aaload (L := 8) C hw 3 (by omega) 11 rfl (by decide) rfl (by omega) (by omega) (by decide) (rP hF i (by omega)) dX2_play_43 ?_
        refine gn3 C hw (4 + i) (by omega) (kd_p (by omega)) 2 (by decide) mn_168 (svi (x := v i 2) ((st_n (by omega)).trans (hB2.2.1 i (by omega) 2 (by decide)))) dX2_play_44 ?_
        refine lv_iload_n C.1 C.2.1 dX2_play_47 rfl (lv_at hl 1 rfl) ?_
        have J54 : ∀ (z : Int), (z = cnt (fun q => decide (v q 2 = ho)) (i + 1)) → ∀ (H : Heap) (locs : List Loc) (ls : Array Slot), Wo g (stM M2 (30000 + i) (v i 3)) H → va_S (ar g) s.heap H locs → lv_has ls 4 [(0, .ref (gA g 1)), (1, .int (II ho)), (2, .int (II z)), (3, .int (II (i : Int)))] → W p l e (rmm 3 76) s m args below meth c H locs 0 0 QQ (F0 m 54 ls []) := by
          intro z hz H locs ls hw hS hl
          subst hz
          refine lv_iinc (v := II ((i : Int) + 1)) (lv' := [(3, .int (II ((i : Int) + 1))), (0, .ref (gA g 1)), (1, .int (II ho)), (2, .int (II (cnt (fun q => decide (v q 2 = ho)) (i + 1))))]) C.1 C.2.1 dX2_play_54 hl (k := 3) rfl (II_add _ _) (by decide) rfl (fun ls hl => ?_)
          refine lv_goto (tgt := 4) C.1 C.2.1 dX2_play_57 (by decide) ?_
          exact ih4  (i + 1) (stM M2 (30000 + i) (v i 3)) (by omega) (by omega) (stA h2 rfl) (stF h3 (by unfold scr; omega)) _ _ _ hw hS (lv_sub hl [1, 2, 3, 0] rfl)
        refine x_icmp_ne (tgt := 54) C ⟨by omega, by omega⟩ hho dX2_play_48 (by decide) (fun c48 => ?_) (fun c48 => ?_)
        · exact J54 (cnt (fun q => decide (v q 2 = ho)) i) (by first | exact cnt_f (decide_eq_false c48) | exact cnt_t (decide_eq_true c48)) _ _ _ hw hS (lv_sub hl [0, 1, 2, 3] rfl)
        · refine lv_iinc (v := II (cnt (fun q => decide (v q 2 = ho)) i + 1)) (lv' := [(2, .int (II (cnt (fun q => decide (v q 2 = ho)) i + 1))), (0, .ref (gA g 1)), (1, .int (II ho)), (3, .int (II (i : Int)))]) C.1 C.2.1 dX2_play_51 hl (k := 2) rfl (II_add _ _) (by decide) rfl (fun ls hl => ?_)
          exact J54 (cnt (fun q => decide (v q 2 = ho)) i + 1) (by first | exact cnt_f (decide_eq_false c48) | exact cnt_t (decide_eq_true c48)) _ _ _ hw hS (lv_sub hl [1, 2, 0, 3] rfl)
  exact L4 _ 0 M (Nat.lt_succ_self _) (by omega) (fun _ h => absurd h (Nat.not_lt_zero _)) (fun _ _ => rfl) _ _ _ hw hS (lv_sub hl [2, 3, 1, 0] rfl)
