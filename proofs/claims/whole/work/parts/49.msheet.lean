theorem bnar {x : Int} (h : x = 0 ∨ x = 1) : vp_nar .boolean (II x) = II x := by rcases h with rfl | rfl <;> decide
section PW
variable {p : Program} {l : Launch} {e : Env} {Rm : Room} {s : State} {m : MethodId} {args : Array Value} {below : List Frame} {meth : Method} {c : Code} {H : Heap} {locs : List Loc} {cells slots : Nat} {Q : State → Prop}
variable {cc : ByteArray} {own : String} {pc : Nat} {ls : Array Slot} {rest : List Value} {g : Gm} {M : Nat → Int}
theorem x_bastore (C : Cx g p c m s args cc own) (hw : Wo g M H) (hS : va_S (ar g) s.heap H locs) (k : Nat) (hk : k < gN g) (hkd : kd k = 10) {L : Nat} (hL : ln k = L) {i : Int} (h0 : 0 ≤ i) (h1 : i < L) (hL2 : L < 1000) {x : Int} (hx : x = 0 ∨ x = 1) (hdg : decode cc pc = .ok (.bastore, 1)) (kk : ∀ (H1 : Heap) (locs1 : List Loc), Wo g (stM M (1000 * k + i.toNat) x) H1 → va_S (ar g) s.heap H1 locs1 → W p l e Rm s m args below meth c H1 locs1 cells slots Q (F0 m (pc + 1) ls rest)) : W p l e Rm s m args below meth c H locs cells slots Q (F0 m pc ls (.int (II x) :: .int (II i) :: .ref (gA g k) :: rest)) := by
  refine va_zast C.1 C.2.1 C.2.2.2.2.1 hw.1 hw.2.1 hS k 1 (wsl_ai hk hkd (by decide) (by decide)) rfl (by rw [hL]; exact II_in h0 h1 (by omega)) hdg (fun H1 locs1 hP hD hS => ?_)
  rw [bnar hx] at hP hD
  have e : (wsl g M).set k (gA g k, .inl (gC g 10, ln k, .inl (upd (arI M k) (II i).toNatClampNeg (II x)))) = wsl g (stM M (1000 * k + i.toNat) x) := by
    refine wsl_st hk (by omega) ?_
    rw [II_cl ⟨by omega, by omega⟩, arI_set (by omega)]
    unfold cellE
    rw [hkd, if_neg (by decide), if_pos (by decide)]
  rw [e] at hP hD
  exact kk H1 locs1 ⟨hP, hD, st_rg hw.2.2 ⟨by omega, by omega⟩⟩ hS
end PW
theorem shmR {M M' : Nat → Int} {Sh : Sht} {i : Nat} {so n : Int} {f : Nat → Int} (h : ShtM M Sh) (hz : ∀ i, i < 4 → Sh.2.1 i ≤ 40) (hi : i < 4) (hr : (so = -1 ∧ M' (80000 + i) = 0) ∨ (so ≠ -1 ∧ M' (80000 + i) = 1 ∧ M' (81000 + i) = so ∧ M' (82000 + i) = n ∧ ∀ j : Nat, (j : Int) < n → M' (83000 + (40 * i + j)) = f j)) (hf : ∀ m, ¬ (m = 80000 + i ∨ m = 81000 + i ∨ m = 82000 + i ∨ (83000 + 40 * i ≤ m ∧ m < 83000 + 40 * i + 40)) → (80 ≤ m / 1000 ∧ m / 1000 ≤ 83) → M' m = M m) : ShtM M' (s_row Sh i so n f) := by
  intro k hk
  have h9 := hz k hk
  unfold s_row up1 upr
  by_cases e : k = i
  · subst e
    dsimp only
    rw [if_pos rfl, if_pos rfl, if_pos rfl]
    exact hr
  · dsimp only
    rw [if_neg e, if_neg e, if_neg e]
    rcases h k hk with ⟨h1, h2⟩ | ⟨h1, h2, h3, h4, h5⟩
    · exact Or.inl ⟨h1, (hf _ (by omega) (by omega)).trans h2⟩
    · exact Or.inr ⟨h1, (hf _ (by omega) (by omega)).trans h2, (hf _ (by omega) (by omega)).trans h3, (hf _ (by omega) (by omega)).trans h4, fun j hj => (hf _ (by omega) (by omega)).trans (h5 j hj)⟩
set_option maxHeartbeats 4000000 in
set_option maxRecDepth 100000 in
theorem c_X8_sheet (l : Launch) (g : Gm) (M : Nat → Int) (hF : LvF g) (n : Nat) (v : Nat → Nat → Int) (nt : Int) (pd : Int) (t : Nat) (X : Txt) (I : Option Bor) (Sh : Sht) (hR : RepM M (n, v, nt, pd, t) X I Sh) (hA : InvA (n, v, nt, pd, t) X I Sh) (s0 : Int) (gz_s0 : rg s0) (so : Int) (gz_so : rg so) (z : Int) (gz_z : rg z) : CI l ({ cls := "RatedBySighsModel", name := "sheet", desc := "(III)I" } : Jvm.MethodName) cX8_sheet 5 .int (rmm 2 45) g M [.ref (gA g 70), .int (II s0), .int (II so), .int (II z)] (fun r M' => r = r_sheet s0 so z ∧ (RepM M' (n, v, nt, pd, t) X I (s_sheet Sh s0 so z)) ∧ (∀ m, ¬ (80 ≤ m / 1000 ∧ m / 1000 ≤ 83) → M' m = M m)) := by
  refine c_start (by decide) (Nat.le_of_ble_eq_true rfl) (fun p e s m below meth c ls C hr hlk hml hw hS hl => ?_)
  have hl : lv_has ls 5 [(0, .ref (gA g 70)), (1, .int (II s0)), (2, .int (II so)), (3, .int (II z))] := hl
  generalize ([.ref (gA g 70), .int (II s0), .int (II so), .int (II z)] : List Value).toArray = args at C ⊢
  generalize hQQ : MQ below (postI g (fun r M' => r = r_sheet s0 so z ∧ (RepM M' (n, v, nt, pd, t) X I (s_sheet Sh s0 so z)) ∧ (∀ m, ¬ (80 ≤ m / 1000 ∧ m / 1000 ≤ 83) → M' m = M m))) args s 0 0 (ar g) = QQ
  have g_M := hw.rg
  have hN : gN g = 84 := hF.1
  have hM : MB M n v nt t (X.2.1 t) (-1) := hR.mb hA
  have hn2 : n ≤ 8 := hM.1.2
  have hnt := hM.2.2.2.1.2
  have hpd : 0 ≤ pd ∧ pd ≤ 999999999 := hA.1.2.2.2.2.1
  have htc := hA.2.1
  have hts := hA.2.2.1.1
  have ht9 : t < X.1 := hA.1.2.2.2.2.2
  refine lv_iload_n C.1 C.2.1 dX8_sheet_0 rfl (lv_at hl 1 rfl) ?_
  refine x_ci (x_runS (n := 1) C hw hS hml hl.1 (c_X8_isSheet l g M s0 gz_s0) mw_1301 mw_1302 mw_130 mw_1303 rfl rfl (by decide +kernel) ⟨Nat.le_of_ble_eq_true rfl, Nat.le_of_ble_eq_true rfl⟩ rfl rfl (Nat.le_of_ble_eq_true rfl) dX8_sheet_1 ⟨Nat.zero_le _, Nat.zero_le _⟩) hS (fun r1 M1 H locs hr1 hp hw hS => ?_)
  rcases hp with ⟨em1, (⟨er1, h1b⟩ | ⟨er1, h1b⟩)⟩
  · have hw : Wo g M H := em1 ▸ hw
    rw [er1]
    refine x_if_eq (tgt := 31) C ⟨by decide, by decide⟩ dX8_sheet_4 (by decide) (fun h => absurd h (by decide)) (fun _ => ?_)
    have hs4 : 0 ≤ s0 ∧ s0 < 4 := h1b
    refine lv_iload_n C.1 C.2.1 dX8_sheet_7 rfl (lv_at hl 2 rfl) ?_
    refine x_i2l C gz_so dX8_sheet_8 ?_
    refine lv_ldc2 C.1 C.2.1 C.2.2.1 (C.2.2.2.1 _ mw_1318) dX8_sheet_9 ?_
    rw [show (-1 : Int64) = LL (-1) from by decide]
    refine lv_ldc2 C.1 C.2.1 C.2.2.1 (C.2.2.2.1 _ mw_1319) dX8_sheet_12 ?_
    rw [show (2 : Int64) = LL 2 from by decide]
    refine x_ci (x_runS (n := 3) C hw hS hml hl.1 (c_X8_in l g M so gz_so (-1) ⟨by decide, by decide⟩ 2 ⟨by decide, by decide⟩) mw_957 mw_958 mw_130 mw_959 rfl rfl (by decide +kernel) ⟨Nat.le_of_ble_eq_true rfl, Nat.le_of_ble_eq_true rfl⟩ rfl rfl (Nat.le_of_ble_eq_true rfl) dX8_sheet_15 ⟨Nat.zero_le _, Nat.zero_le _⟩) hS (fun r15 M15 H locs hr15 hp hw hS => ?_)
    rcases hp with ⟨em15, (⟨er15, h15b⟩ | ⟨er15, h15b⟩)⟩
    · have hw : Wo g M H := em15 ▸ hw
      rw [er15]
      refine x_if_eq (tgt := 31) C ⟨by decide, by decide⟩ dX8_sheet_18 (by decide) (fun h => absurd h (by decide)) (fun _ => ?_)
      have hso2 : -1 ≤ so ∧ so ≤ 2 := h15b
      refine lv_iload_n C.1 C.2.1 dX8_sheet_21 rfl (lv_at hl 2 rfl) ?_
      refine x_if_lt (tgt := 34) C gz_so dX8_sheet_22 (by decide) (fun c22 => ?_) (fun c22 => ?_)
      · refine lv_iload_n C.1 C.2.1 dX8_sheet_34 rfl (lv_at hl 2 rfl) ?_
        refine x_if_lt (tgt := 45) C gz_so dX8_sheet_35 (by decide) (fun c35 => ?_) (fun c35 => ?_)
        · obtain ⟨i, rfl⟩ : ∃ i : Nat, s0 = (i : Int) := ⟨s0.toNat, by omega⟩
          refine lv_aload_n C.1 C.2.1 dX8_sheet_45 rfl (lv_at hl 0 rfl) ?_
          refine g8 C hw 70 (by omega) rfl 38 (by decide) mw_862 (svr (hF.2 _)) dX8_sheet_46 ?_
          refine lv_iload_n C.1 C.2.1 dX8_sheet_49 rfl (lv_at hl 1 rfl) ?_
          refine lv_iload_n C.1 C.2.1 dX8_sheet_50 rfl (lv_at hl 2 rfl) ?_
          refine x_if_lt (tgt := 58) C gz_so dX8_sheet_51 (by decide) (fun c51 => ?_) (fun c51 => ?_)
          · refine lv_iconst (v := II 0) C.1 C.2.1 dX8_sheet_58 rfl ?_
            refine x_bastore (L := 4) C hw hS 80 (by omega) rfl rfl (by omega) (by omega) (by decide) (x := 0) (by decide) dX8_sheet_59 (fun H locs hw hS => ?_)
            have hw : Wo g (stM M (80000 + i) 0) H := hw
            refine lv_aload_n C.1 C.2.1 dX8_sheet_60 rfl (lv_at hl 0 rfl) ?_
            refine g8 C hw 70 (by omega) rfl 39 (by decide) mw_863 (svr (hF.2 _)) dX8_sheet_61 ?_
            refine lv_iload_n C.1 C.2.1 dX8_sheet_64 rfl (lv_at hl 1 rfl) ?_
            refine lv_iload_n C.1 C.2.1 dX8_sheet_65 rfl (lv_at hl 2 rfl) ?_
            refine x_iastore (L := 4) C hw hS 81 (by omega) rfl rfl (by omega) (by omega) (by decide) (x := so) gz_so dX8_sheet_66 (fun H locs hw hS => ?_)
            have hw : Wo g (stM (stM M (80000 + i) 0) (81000 + i) so) H := hw
            refine lv_aload_n C.1 C.2.1 dX8_sheet_67 rfl (lv_at hl 0 rfl) ?_
            refine g8 C hw 70 (by omega) rfl 40 (by decide) mw_864 (svr (hF.2 _)) dX8_sheet_68 ?_
            refine lv_iload_n C.1 C.2.1 dX8_sheet_71 rfl (lv_at hl 1 rfl) ?_
            refine lv_iload_n C.1 C.2.1 dX8_sheet_72 rfl (lv_at hl 3 rfl) ?_
            refine x_iastore (L := 4) C hw hS 82 (by omega) rfl rfl (by omega) (by omega) (by decide) (x := z) gz_z dX8_sheet_73 (fun H locs hw hS => ?_)
            have hw : Wo g (stM (stM (stM M (80000 + i) 0) (81000 + i) so) (82000 + i) z) H := hw
            refine lv_iconst (v := II 0) C.1 C.2.1 dX8_sheet_74 rfl ?_
            refine lv_istore (lv' := [(4, .int (II 0)), (0, .ref (gA g 70)), (1, .int (II (i : Int))), (2, .int (II so)), (3, .int (II z))]) C.1 C.2.1 dX8_sheet_75 hl (by decide) rfl (fun ls hl => ?_)
            have L77 : ∀ (f1 : Nat) (j : Nat) (M2 : Nat → Int), (41 - j) < f1 → (j ≤ 40) → ((so = -1 ∧ M2 (80000 + i) = 0) ∨ (so ≠ -1 ∧ M2 (80000 + i) = 1 ∧ M2 (81000 + i) = so ∧ M2 (82000 + i) = z ∧ ∀ x, x < j → M2 (83000 + (40 * i + x)) = 0)) → (∀ m, ¬ (m = 80000 + i ∨ m = 81000 + i ∨ m = 82000 + i ∨ (83000 + 40 * i ≤ m ∧ m < 83000 + 40 * i + 40)) → M2 m = M m) → ∀ (H : Heap) (locs : List Loc) (ls : Array Slot), Wo g M2 H → va_S (ar g) s.heap H locs → lv_has ls 5 [(0, .ref (gA g 70)), (1, .int (II (i : Int))), (2, .int (II so)), (3, .int (II z)), (4, .int (II (j : Int)))] → W p l e (rmm 2 45) s m args below meth c H locs 0 0 QQ (F0 m 77 ls []) := by
              intro f1
              induction f1 with
              | zero => intro j M2 hmu; exact absurd hmu (Nat.not_lt_zero _)
              | succ f1 ih =>
                intro j M2 hmu h1 hq hf H locs ls hw hS hl
                have ih77 := ih
                have g_M2 := hw.rg
                refine lv_iload C.1 C.2.1 dX8_sheet_77 (lv_at hl 4 rfl) ?_
                refine lv_iload_n C.1 C.2.1 dX8_sheet_79 rfl (lv_at hl 3 rfl) ?_
                refine x_icmp_ge (tgt := 106) C ⟨by omega, by omega⟩ gz_z dX8_sheet_80 (by decide) (fun c80 => ?_) (fun c80 => ?_)
                · refine lv_iconst (v := II 1) C.1 C.2.1 dX8_sheet_106 rfl ?_
                  subst hQQ; exact x_ireturn C hr hlk hw hS ⟨by decide, by decide⟩ rfl (by
    have e : okSh (i : Int) so z = true := decide_eq_true (by omega)
    have e2 : decide (so = -1 ∨ 0 ≤ z) = true := decide_eq_true (by omega)
    unfold r_sheet s_sheet
    rw [e, e2, if_pos rfl, if_pos (by omega)]
    refine ⟨rfl, hR.s2 hA (shmR hR.2.2.2.1 hA.sz (by show i < 4; omega) ?_ (fun m hm _ => hf m hm)) (fun m hm => hf m (fun y => hm (Or.inr (by omega)))), fun m hm => hf m (by omega)⟩
    rcases hq with ⟨q1, q2⟩ | ⟨q1, q2, q3, q4, q5⟩
    · exact Or.inl ⟨q1, q2⟩
    · refine Or.inr ⟨q1, q2, q3, ?_, fun x hx => q5 x ?_⟩
      · rw [if_neg q1]; exact q4
      · rw [if_neg q1] at hx; omega) dX8_sheet_107
                · refine lv_iload_n C.1 C.2.1 dX8_sheet_83 rfl (lv_at hl 2 rfl) ?_
                  refine x_if_lt (tgt := 106) C gz_so dX8_sheet_84 (by decide) (fun c84 => ?_) (fun c84 => ?_)
                  · refine lv_iconst (v := II 1) C.1 C.2.1 dX8_sheet_106 rfl ?_
                    subst hQQ; exact x_ireturn C hr hlk hw hS ⟨by decide, by decide⟩ rfl (by
    have e : okSh (i : Int) so z = true := decide_eq_true (by omega)
    have e2 : decide (so = -1 ∨ 0 ≤ z) = true := decide_eq_true (by omega)
    unfold r_sheet s_sheet
    rw [e, e2, if_pos rfl, if_pos (by omega)]
    refine ⟨rfl, hR.s2 hA (shmR hR.2.2.2.1 hA.sz (by show i < 4; omega) ?_ (fun m hm _ => hf m hm)) (fun m hm => hf m (fun y => hm (Or.inr (by omega)))), fun m hm => hf m (by omega)⟩
    rcases hq with ⟨q1, q2⟩ | ⟨q1, q2, q3, q4, q5⟩
    · exact Or.inl ⟨q1, q2⟩
    · refine Or.inr ⟨q1, q2, q3, ?_, fun x hx => q5 x ?_⟩
      · rw [if_neg q1]; exact q4
      · rw [if_neg q1] at hx; omega) dX8_sheet_107
                  · refine lv_aload_n C.1 C.2.1 dX8_sheet_87 rfl (lv_at hl 0 rfl) ?_
                    refine g8 C hw 70 (by omega) rfl 41 (by decide) mw_865 (svr (hF.2 _)) dX8_sheet_88 ?_
                    refine lv_bipush (v := II 40) C.1 C.2.1 dX8_sheet_91 (by decide) ?_
                    refine lv_iload_n C.1 C.2.1 dX8_sheet_93 rfl (lv_at hl 1 rfl) ?_
                    refine x_imul C dX8_sheet_94 ?_
                    refine lv_iload C.1 C.2.1 dX8_sheet_95 (lv_at hl 4 rfl) ?_
                    refine x_iadd C dX8_sheet_97 ?_
                    refine lv_iconst (v := II 0) C.1 C.2.1 dX8_sheet_98 rfl ?_
                    refine x_iastore (L := 160) C hw hS 83 (by omega) rfl rfl (by omega) (by omega) (by decide) (x := 0) ⟨by decide, by decide⟩ dX8_sheet_99 (fun H locs hw hS => ?_)
                    have hw : Wo g (stM M2 (83000 + ((40 * i) + j)) 0) H := by rw [show 1000 * 83 + ((40 * (i : Int)) + (j : Int)).toNat = 83000 + ((40 * i) + j) from by omega] at hw; exact hw
                    refine lv_iinc (v := II ((j : Int) + 1)) (lv' := [(4, .int (II ((j : Int) + 1))), (0, .ref (gA g 70)), (1, .int (II (i : Int))), (2, .int (II so)), (3, .int (II z))]) C.1 C.2.1 dX8_sheet_100 hl (k := 4) rfl (II_add _ _) (by decide) rfl (fun ls hl => ?_)
                    refine lv_goto (tgt := 77) C.1 C.2.1 dX8_sheet_103 (by decide) ?_
                    exact ih77  (j + 1) (stM M2 (83000 + ((40 * i) + j)) 0) (by omega) (by omega) (by
      rcases hq with ⟨q1, q2⟩ | ⟨q1, q2, q3, q4, q5⟩
      · exfalso; omega
      · refine Or.inr ⟨q1, by rw [st_n (by omega)]; exact q2, by rw [st_n (by omega)]; exact q3, by rw [st_n (by omega)]; exact q4, fun x hx => ?_⟩
        by_cases e : x = j
        · rw [e, st_s]
        · rw [st_n (by omega)]; exact q5 x (by omega)) (fun m hm => by rw [st_n (by omega)]; exact hf m hm) _ _ _ hw hS (lv_sub hl [1, 2, 3, 4, 0] rfl)
            exact L77 _ 0 (stM (stM (stM M (80000 + i) 0) (81000 + i) so) (82000 + i) z) (Nat.lt_succ_self _) (by omega) (by
      by_cases hs1 : so = -1
      · first
        | (exfalso; omega)
        | exact Or.inl ⟨hs1, (st_n (by omega)).trans ((st_n (by omega)).trans st_s)⟩
      · first
        | (exfalso; omega)
        | exact Or.inr ⟨hs1, (st_n (by omega)).trans ((st_n (by omega)).trans st_s), (st_n (by omega)).trans st_s, st_s, fun _ h => absurd h (Nat.not_lt_zero _)⟩) (fun m hm => by rw [st_n (by omega), st_n (by omega), st_n (by omega)]) _ _ _ hw hS (lv_sub hl [1, 2, 3, 4, 0] rfl)
          · refine lv_iconst (v := II 1) C.1 C.2.1 dX8_sheet_54 rfl ?_
            refine lv_goto (tgt := 59) C.1 C.2.1 dX8_sheet_55 (by decide) ?_
            refine x_bastore (L := 4) C hw hS 80 (by omega) rfl rfl (by omega) (by omega) (by decide) (x := 1) (by decide) dX8_sheet_59 (fun H locs hw hS => ?_)
            have hw : Wo g (stM M (80000 + i) 1) H := hw
            refine lv_aload_n C.1 C.2.1 dX8_sheet_60 rfl (lv_at hl 0 rfl) ?_
            refine g8 C hw 70 (by omega) rfl 39 (by decide) mw_863 (svr (hF.2 _)) dX8_sheet_61 ?_
            refine lv_iload_n C.1 C.2.1 dX8_sheet_64 rfl (lv_at hl 1 rfl) ?_
            refine lv_iload_n C.1 C.2.1 dX8_sheet_65 rfl (lv_at hl 2 rfl) ?_
            refine x_iastore (L := 4) C hw hS 81 (by omega) rfl rfl (by omega) (by omega) (by decide) (x := so) gz_so dX8_sheet_66 (fun H locs hw hS => ?_)
            have hw : Wo g (stM (stM M (80000 + i) 1) (81000 + i) so) H := hw
            refine lv_aload_n C.1 C.2.1 dX8_sheet_67 rfl (lv_at hl 0 rfl) ?_
            refine g8 C hw 70 (by omega) rfl 40 (by decide) mw_864 (svr (hF.2 _)) dX8_sheet_68 ?_
            refine lv_iload_n C.1 C.2.1 dX8_sheet_71 rfl (lv_at hl 1 rfl) ?_
            refine lv_iload_n C.1 C.2.1 dX8_sheet_72 rfl (lv_at hl 3 rfl) ?_
            refine x_iastore (L := 4) C hw hS 82 (by omega) rfl rfl (by omega) (by omega) (by decide) (x := z) gz_z dX8_sheet_73 (fun H locs hw hS => ?_)
            have hw : Wo g (stM (stM (stM M (80000 + i) 1) (81000 + i) so) (82000 + i) z) H := hw
            refine lv_iconst (v := II 0) C.1 C.2.1 dX8_sheet_74 rfl ?_
            refine lv_istore (lv' := [(4, .int (II 0)), (0, .ref (gA g 70)), (1, .int (II (i : Int))), (2, .int (II so)), (3, .int (II z))]) C.1 C.2.1 dX8_sheet_75 hl (by decide) rfl (fun ls hl => ?_)
            have L77 : ∀ (f2 : Nat) (j : Nat) (M2 : Nat → Int), (41 - j) < f2 → (j ≤ 40) → ((so = -1 ∧ M2 (80000 + i) = 0) ∨ (so ≠ -1 ∧ M2 (80000 + i) = 1 ∧ M2 (81000 + i) = so ∧ M2 (82000 + i) = z ∧ ∀ x, x < j → M2 (83000 + (40 * i + x)) = 0)) → (∀ m, ¬ (m = 80000 + i ∨ m = 81000 + i ∨ m = 82000 + i ∨ (83000 + 40 * i ≤ m ∧ m < 83000 + 40 * i + 40)) → M2 m = M m) → ∀ (H : Heap) (locs : List Loc) (ls : Array Slot), Wo g M2 H → va_S (ar g) s.heap H locs → lv_has ls 5 [(0, .ref (gA g 70)), (1, .int (II (i : Int))), (2, .int (II so)), (3, .int (II z)), (4, .int (II (j : Int)))] → W p l e (rmm 2 45) s m args below meth c H locs 0 0 QQ (F0 m 77 ls []) := by
              intro f2
              induction f2 with
              | zero => intro j M2 hmu; exact absurd hmu (Nat.not_lt_zero _)
              | succ f2 ih =>
                intro j M2 hmu h1 hq hf H locs ls hw hS hl
                have ih77 := ih
                have g_M2 := hw.rg
                refine lv_iload C.1 C.2.1 dX8_sheet_77 (lv_at hl 4 rfl) ?_
                refine lv_iload_n C.1 C.2.1 dX8_sheet_79 rfl (lv_at hl 3 rfl) ?_
                refine x_icmp_ge (tgt := 106) C ⟨by omega, by omega⟩ gz_z dX8_sheet_80 (by decide) (fun c80 => ?_) (fun c80 => ?_)
                · refine lv_iconst (v := II 1) C.1 C.2.1 dX8_sheet_106 rfl ?_
                  subst hQQ; exact x_ireturn C hr hlk hw hS ⟨by decide, by decide⟩ rfl (by
    have e : okSh (i : Int) so z = true := decide_eq_true (by omega)
    have e2 : decide (so = -1 ∨ 0 ≤ z) = true := decide_eq_true (by omega)
    unfold r_sheet s_sheet
    rw [e, e2, if_pos rfl, if_pos (by omega)]
    refine ⟨rfl, hR.s2 hA (shmR hR.2.2.2.1 hA.sz (by show i < 4; omega) ?_ (fun m hm _ => hf m hm)) (fun m hm => hf m (fun y => hm (Or.inr (by omega)))), fun m hm => hf m (by omega)⟩
    rcases hq with ⟨q1, q2⟩ | ⟨q1, q2, q3, q4, q5⟩
    · exact Or.inl ⟨q1, q2⟩
    · refine Or.inr ⟨q1, q2, q3, ?_, fun x hx => q5 x ?_⟩
      · rw [if_neg q1]; exact q4
      · rw [if_neg q1] at hx; omega) dX8_sheet_107
                · refine lv_iload_n C.1 C.2.1 dX8_sheet_83 rfl (lv_at hl 2 rfl) ?_
                  refine x_if_lt (tgt := 106) C gz_so dX8_sheet_84 (by decide) (fun c84 => ?_) (fun c84 => ?_)
                  · refine lv_iconst (v := II 1) C.1 C.2.1 dX8_sheet_106 rfl ?_
                    subst hQQ; exact x_ireturn C hr hlk hw hS ⟨by decide, by decide⟩ rfl (by
    have e : okSh (i : Int) so z = true := decide_eq_true (by omega)
    have e2 : decide (so = -1 ∨ 0 ≤ z) = true := decide_eq_true (by omega)
    unfold r_sheet s_sheet
    rw [e, e2, if_pos rfl, if_pos (by omega)]
    refine ⟨rfl, hR.s2 hA (shmR hR.2.2.2.1 hA.sz (by show i < 4; omega) ?_ (fun m hm _ => hf m hm)) (fun m hm => hf m (fun y => hm (Or.inr (by omega)))), fun m hm => hf m (by omega)⟩
    rcases hq with ⟨q1, q2⟩ | ⟨q1, q2, q3, q4, q5⟩
    · exact Or.inl ⟨q1, q2⟩
    · refine Or.inr ⟨q1, q2, q3, ?_, fun x hx => q5 x ?_⟩
      · rw [if_neg q1]; exact q4
      · rw [if_neg q1] at hx; omega) dX8_sheet_107
                  · refine lv_aload_n C.1 C.2.1 dX8_sheet_87 rfl (lv_at hl 0 rfl) ?_
                    refine g8 C hw 70 (by omega) rfl 41 (by decide) mw_865 (svr (hF.2 _)) dX8_sheet_88 ?_
                    refine lv_bipush (v := II 40) C.1 C.2.1 dX8_sheet_91 (by decide) ?_
                    refine lv_iload_n C.1 C.2.1 dX8_sheet_93 rfl (lv_at hl 1 rfl) ?_
                    refine x_imul C dX8_sheet_94 ?_
                    refine lv_iload C.1 C.2.1 dX8_sheet_95 (lv_at hl 4 rfl) ?_
                    refine x_iadd C dX8_sheet_97 ?_
                    refine lv_iconst (v := II 0) C.1 C.2.1 dX8_sheet_98 rfl ?_
                    refine x_iastore (L := 160) C hw hS 83 (by omega) rfl rfl (by omega) (by omega) (by decide) (x := 0) ⟨by decide, by decide⟩ dX8_sheet_99 (fun H locs hw hS => ?_)
                    have hw : Wo g (stM M2 (83000 + ((40 * i) + j)) 0) H := by rw [show 1000 * 83 + ((40 * (i : Int)) + (j : Int)).toNat = 83000 + ((40 * i) + j) from by omega] at hw; exact hw
                    refine lv_iinc (v := II ((j : Int) + 1)) (lv' := [(4, .int (II ((j : Int) + 1))), (0, .ref (gA g 70)), (1, .int (II (i : Int))), (2, .int (II so)), (3, .int (II z))]) C.1 C.2.1 dX8_sheet_100 hl (k := 4) rfl (II_add _ _) (by decide) rfl (fun ls hl => ?_)
                    refine lv_goto (tgt := 77) C.1 C.2.1 dX8_sheet_103 (by decide) ?_
                    exact ih77  (j + 1) (stM M2 (83000 + ((40 * i) + j)) 0) (by omega) (by omega) (by
      rcases hq with ⟨q1, q2⟩ | ⟨q1, q2, q3, q4, q5⟩
      · exfalso; omega
      · refine Or.inr ⟨q1, by rw [st_n (by omega)]; exact q2, by rw [st_n (by omega)]; exact q3, by rw [st_n (by omega)]; exact q4, fun x hx => ?_⟩
        by_cases e : x = j
        · rw [e, st_s]
        · rw [st_n (by omega)]; exact q5 x (by omega)) (fun m hm => by rw [st_n (by omega)]; exact hf m hm) _ _ _ hw hS (lv_sub hl [1, 2, 3, 4, 0] rfl)
            exact L77 _ 0 (stM (stM (stM M (80000 + i) 1) (81000 + i) so) (82000 + i) z) (Nat.lt_succ_self _) (by omega) (by
      by_cases hs1 : so = -1
      · first
        | (exfalso; omega)
        | exact Or.inl ⟨hs1, (st_n (by omega)).trans ((st_n (by omega)).trans st_s)⟩
      · first
        | (exfalso; omega)
        | exact Or.inr ⟨hs1, (st_n (by omega)).trans ((st_n (by omega)).trans st_s), (st_n (by omega)).trans st_s, st_s, fun _ h => absurd h (Nat.not_lt_zero _)⟩) (fun m hm => by rw [st_n (by omega), st_n (by omega), st_n (by omega)]) _ _ _ hw hS (lv_sub hl [1, 2, 3, 4, 0] rfl)
        · refine lv_iload_n C.1 C.2.1 dX8_sheet_38 rfl (lv_at hl 3 rfl) ?_
          refine x_if_ge (tgt := 45) C gz_z dX8_sheet_39 (by decide) (fun c39 => ?_) (fun c39 => ?_)
          · obtain ⟨i, rfl⟩ : ∃ i : Nat, s0 = (i : Int) := ⟨s0.toNat, by omega⟩
            refine lv_aload_n C.1 C.2.1 dX8_sheet_45 rfl (lv_at hl 0 rfl) ?_
            refine g8 C hw 70 (by omega) rfl 38 (by decide) mw_862 (svr (hF.2 _)) dX8_sheet_46 ?_
            refine lv_iload_n C.1 C.2.1 dX8_sheet_49 rfl (lv_at hl 1 rfl) ?_
            refine lv_iload_n C.1 C.2.1 dX8_sheet_50 rfl (lv_at hl 2 rfl) ?_
            refine x_if_lt (tgt := 58) C gz_so dX8_sheet_51 (by decide) (fun c51 => ?_) (fun c51 => ?_)
            · refine lv_iconst (v := II 0) C.1 C.2.1 dX8_sheet_58 rfl ?_
              refine x_bastore (L := 4) C hw hS 80 (by omega) rfl rfl (by omega) (by omega) (by decide) (x := 0) (by decide) dX8_sheet_59 (fun H locs hw hS => ?_)
              have hw : Wo g (stM M (80000 + i) 0) H := hw
              refine lv_aload_n C.1 C.2.1 dX8_sheet_60 rfl (lv_at hl 0 rfl) ?_
              refine g8 C hw 70 (by omega) rfl 39 (by decide) mw_863 (svr (hF.2 _)) dX8_sheet_61 ?_
              refine lv_iload_n C.1 C.2.1 dX8_sheet_64 rfl (lv_at hl 1 rfl) ?_
              refine lv_iload_n C.1 C.2.1 dX8_sheet_65 rfl (lv_at hl 2 rfl) ?_
              refine x_iastore (L := 4) C hw hS 81 (by omega) rfl rfl (by omega) (by omega) (by decide) (x := so) gz_so dX8_sheet_66 (fun H locs hw hS => ?_)
              have hw : Wo g (stM (stM M (80000 + i) 0) (81000 + i) so) H := hw
              refine lv_aload_n C.1 C.2.1 dX8_sheet_67 rfl (lv_at hl 0 rfl) ?_
              refine g8 C hw 70 (by omega) rfl 40 (by decide) mw_864 (svr (hF.2 _)) dX8_sheet_68 ?_
              refine lv_iload_n C.1 C.2.1 dX8_sheet_71 rfl (lv_at hl 1 rfl) ?_
              refine lv_iload_n C.1 C.2.1 dX8_sheet_72 rfl (lv_at hl 3 rfl) ?_
              refine x_iastore (L := 4) C hw hS 82 (by omega) rfl rfl (by omega) (by omega) (by decide) (x := z) gz_z dX8_sheet_73 (fun H locs hw hS => ?_)
              have hw : Wo g (stM (stM (stM M (80000 + i) 0) (81000 + i) so) (82000 + i) z) H := hw
              refine lv_iconst (v := II 0) C.1 C.2.1 dX8_sheet_74 rfl ?_
              refine lv_istore (lv' := [(4, .int (II 0)), (0, .ref (gA g 70)), (1, .int (II (i : Int))), (2, .int (II so)), (3, .int (II z))]) C.1 C.2.1 dX8_sheet_75 hl (by decide) rfl (fun ls hl => ?_)
              have L77 : ∀ (f3 : Nat) (j : Nat) (M2 : Nat → Int), (41 - j) < f3 → (j ≤ 40) → ((so = -1 ∧ M2 (80000 + i) = 0) ∨ (so ≠ -1 ∧ M2 (80000 + i) = 1 ∧ M2 (81000 + i) = so ∧ M2 (82000 + i) = z ∧ ∀ x, x < j → M2 (83000 + (40 * i + x)) = 0)) → (∀ m, ¬ (m = 80000 + i ∨ m = 81000 + i ∨ m = 82000 + i ∨ (83000 + 40 * i ≤ m ∧ m < 83000 + 40 * i + 40)) → M2 m = M m) → ∀ (H : Heap) (locs : List Loc) (ls : Array Slot), Wo g M2 H → va_S (ar g) s.heap H locs → lv_has ls 5 [(0, .ref (gA g 70)), (1, .int (II (i : Int))), (2, .int (II so)), (3, .int (II z)), (4, .int (II (j : Int)))] → W p l e (rmm 2 45) s m args below meth c H locs 0 0 QQ (F0 m 77 ls []) := by
                intro f3
                induction f3 with
                | zero => intro j M2 hmu; exact absurd hmu (Nat.not_lt_zero _)
                | succ f3 ih =>
                  intro j M2 hmu h1 hq hf H locs ls hw hS hl
                  have ih77 := ih
                  have g_M2 := hw.rg
                  refine lv_iload C.1 C.2.1 dX8_sheet_77 (lv_at hl 4 rfl) ?_
                  refine lv_iload_n C.1 C.2.1 dX8_sheet_79 rfl (lv_at hl 3 rfl) ?_
                  refine x_icmp_ge (tgt := 106) C ⟨by omega, by omega⟩ gz_z dX8_sheet_80 (by decide) (fun c80 => ?_) (fun c80 => ?_)
                  · refine lv_iconst (v := II 1) C.1 C.2.1 dX8_sheet_106 rfl ?_
                    subst hQQ; exact x_ireturn C hr hlk hw hS ⟨by decide, by decide⟩ rfl (by
    have e : okSh (i : Int) so z = true := decide_eq_true (by omega)
    have e2 : decide (so = -1 ∨ 0 ≤ z) = true := decide_eq_true (by omega)
    unfold r_sheet s_sheet
    rw [e, e2, if_pos rfl, if_pos (by omega)]
    refine ⟨rfl, hR.s2 hA (shmR hR.2.2.2.1 hA.sz (by show i < 4; omega) ?_ (fun m hm _ => hf m hm)) (fun m hm => hf m (fun y => hm (Or.inr (by omega)))), fun m hm => hf m (by omega)⟩
    rcases hq with ⟨q1, q2⟩ | ⟨q1, q2, q3, q4, q5⟩
    · exact Or.inl ⟨q1, q2⟩
    · refine Or.inr ⟨q1, q2, q3, ?_, fun x hx => q5 x ?_⟩
      · rw [if_neg q1]; exact q4
      · rw [if_neg q1] at hx; omega) dX8_sheet_107
                  · refine lv_iload_n C.1 C.2.1 dX8_sheet_83 rfl (lv_at hl 2 rfl) ?_
                    refine x_if_lt (tgt := 106) C gz_so dX8_sheet_84 (by decide) (fun c84 => ?_) (fun c84 => ?_)
                    · refine lv_iconst (v := II 1) C.1 C.2.1 dX8_sheet_106 rfl ?_
                      subst hQQ; exact x_ireturn C hr hlk hw hS ⟨by decide, by decide⟩ rfl (by
    have e : okSh (i : Int) so z = true := decide_eq_true (by omega)
    have e2 : decide (so = -1 ∨ 0 ≤ z) = true := decide_eq_true (by omega)
    unfold r_sheet s_sheet
    rw [e, e2, if_pos rfl, if_pos (by omega)]
    refine ⟨rfl, hR.s2 hA (shmR hR.2.2.2.1 hA.sz (by show i < 4; omega) ?_ (fun m hm _ => hf m hm)) (fun m hm => hf m (fun y => hm (Or.inr (by omega)))), fun m hm => hf m (by omega)⟩
    rcases hq with ⟨q1, q2⟩ | ⟨q1, q2, q3, q4, q5⟩
    · exact Or.inl ⟨q1, q2⟩
    · refine Or.inr ⟨q1, q2, q3, ?_, fun x hx => q5 x ?_⟩
      · rw [if_neg q1]; exact q4
      · rw [if_neg q1] at hx; omega) dX8_sheet_107
                    · refine lv_aload_n C.1 C.2.1 dX8_sheet_87 rfl (lv_at hl 0 rfl) ?_
                      refine g8 C hw 70 (by omega) rfl 41 (by decide) mw_865 (svr (hF.2 _)) dX8_sheet_88 ?_
                      refine lv_bipush (v := II 40) C.1 C.2.1 dX8_sheet_91 (by decide) ?_
                      refine lv_iload_n C.1 C.2.1 dX8_sheet_93 rfl (lv_at hl 1 rfl) ?_
                      refine x_imul C dX8_sheet_94 ?_
                      refine lv_iload C.1 C.2.1 dX8_sheet_95 (lv_at hl 4 rfl) ?_
                      refine x_iadd C dX8_sheet_97 ?_
                      refine lv_iconst (v := II 0) C.1 C.2.1 dX8_sheet_98 rfl ?_
                      refine x_iastore (L := 160) C hw hS 83 (by omega) rfl rfl (by omega) (by omega) (by decide) (x := 0) ⟨by decide, by decide⟩ dX8_sheet_99 (fun H locs hw hS => ?_)
                      have hw : Wo g (stM M2 (83000 + ((40 * i) + j)) 0) H := by rw [show 1000 * 83 + ((40 * (i : Int)) + (j : Int)).toNat = 83000 + ((40 * i) + j) from by omega] at hw; exact hw
                      refine lv_iinc (v := II ((j : Int) + 1)) (lv' := [(4, .int (II ((j : Int) + 1))), (0, .ref (gA g 70)), (1, .int (II (i : Int))), (2, .int (II so)), (3, .int (II z))]) C.1 C.2.1 dX8_sheet_100 hl (k := 4) rfl (II_add _ _) (by decide) rfl (fun ls hl => ?_)
                      refine lv_goto (tgt := 77) C.1 C.2.1 dX8_sheet_103 (by decide) ?_
                      exact ih77  (j + 1) (stM M2 (83000 + ((40 * i) + j)) 0) (by omega) (by omega) (by
      rcases hq with ⟨q1, q2⟩ | ⟨q1, q2, q3, q4, q5⟩
      · exfalso; omega
      · refine Or.inr ⟨q1, by rw [st_n (by omega)]; exact q2, by rw [st_n (by omega)]; exact q3, by rw [st_n (by omega)]; exact q4, fun x hx => ?_⟩
        by_cases e : x = j
        · rw [e, st_s]
        · rw [st_n (by omega)]; exact q5 x (by omega)) (fun m hm => by rw [st_n (by omega)]; exact hf m hm) _ _ _ hw hS (lv_sub hl [1, 2, 3, 4, 0] rfl)
              exact L77 _ 0 (stM (stM (stM M (80000 + i) 0) (81000 + i) so) (82000 + i) z) (Nat.lt_succ_self _) (by omega) (by
      by_cases hs1 : so = -1
      · first
        | (exfalso; omega)
        | exact Or.inl ⟨hs1, (st_n (by omega)).trans ((st_n (by omega)).trans st_s)⟩
      · first
        | (exfalso; omega)
        | exact Or.inr ⟨hs1, (st_n (by omega)).trans ((st_n (by omega)).trans st_s), (st_n (by omega)).trans st_s, st_s, fun _ h => absurd h (Nat.not_lt_zero _)⟩) (fun m hm => by rw [st_n (by omega), st_n (by omega), st_n (by omega)]) _ _ _ hw hS (lv_sub hl [1, 2, 3, 4, 0] rfl)
            · refine lv_iconst (v := II 1) C.1 C.2.1 dX8_sheet_54 rfl ?_
              refine lv_goto (tgt := 59) C.1 C.2.1 dX8_sheet_55 (by decide) ?_
              refine x_bastore (L := 4) C hw hS 80 (by omega) rfl rfl (by omega) (by omega) (by decide) (x := 1) (by decide) dX8_sheet_59 (fun H locs hw hS => ?_)
              have hw : Wo g (stM M (80000 + i) 1) H := hw
              refine lv_aload_n C.1 C.2.1 dX8_sheet_60 rfl (lv_at hl 0 rfl) ?_
              refine g8 C hw 70 (by omega) rfl 39 (by decide) mw_863 (svr (hF.2 _)) dX8_sheet_61 ?_
              refine lv_iload_n C.1 C.2.1 dX8_sheet_64 rfl (lv_at hl 1 rfl) ?_
              refine lv_iload_n C.1 C.2.1 dX8_sheet_65 rfl (lv_at hl 2 rfl) ?_
              refine x_iastore (L := 4) C hw hS 81 (by omega) rfl rfl (by omega) (by omega) (by decide) (x := so) gz_so dX8_sheet_66 (fun H locs hw hS => ?_)
              have hw : Wo g (stM (stM M (80000 + i) 1) (81000 + i) so) H := hw
              refine lv_aload_n C.1 C.2.1 dX8_sheet_67 rfl (lv_at hl 0 rfl) ?_
              refine g8 C hw 70 (by omega) rfl 40 (by decide) mw_864 (svr (hF.2 _)) dX8_sheet_68 ?_
              refine lv_iload_n C.1 C.2.1 dX8_sheet_71 rfl (lv_at hl 1 rfl) ?_
              refine lv_iload_n C.1 C.2.1 dX8_sheet_72 rfl (lv_at hl 3 rfl) ?_
              refine x_iastore (L := 4) C hw hS 82 (by omega) rfl rfl (by omega) (by omega) (by decide) (x := z) gz_z dX8_sheet_73 (fun H locs hw hS => ?_)
              have hw : Wo g (stM (stM (stM M (80000 + i) 1) (81000 + i) so) (82000 + i) z) H := hw
              refine lv_iconst (v := II 0) C.1 C.2.1 dX8_sheet_74 rfl ?_
              refine lv_istore (lv' := [(4, .int (II 0)), (0, .ref (gA g 70)), (1, .int (II (i : Int))), (2, .int (II so)), (3, .int (II z))]) C.1 C.2.1 dX8_sheet_75 hl (by decide) rfl (fun ls hl => ?_)
              have L77 : ∀ (f4 : Nat) (j : Nat) (M2 : Nat → Int), (41 - j) < f4 → (j ≤ 40) → ((so = -1 ∧ M2 (80000 + i) = 0) ∨ (so ≠ -1 ∧ M2 (80000 + i) = 1 ∧ M2 (81000 + i) = so ∧ M2 (82000 + i) = z ∧ ∀ x, x < j → M2 (83000 + (40 * i + x)) = 0)) → (∀ m, ¬ (m = 80000 + i ∨ m = 81000 + i ∨ m = 82000 + i ∨ (83000 + 40 * i ≤ m ∧ m < 83000 + 40 * i + 40)) → M2 m = M m) → ∀ (H : Heap) (locs : List Loc) (ls : Array Slot), Wo g M2 H → va_S (ar g) s.heap H locs → lv_has ls 5 [(0, .ref (gA g 70)), (1, .int (II (i : Int))), (2, .int (II so)), (3, .int (II z)), (4, .int (II (j : Int)))] → W p l e (rmm 2 45) s m args below meth c H locs 0 0 QQ (F0 m 77 ls []) := by
                intro f4
                induction f4 with
                | zero => intro j M2 hmu; exact absurd hmu (Nat.not_lt_zero _)
                | succ f4 ih =>
                  intro j M2 hmu h1 hq hf H locs ls hw hS hl
                  have ih77 := ih
                  have g_M2 := hw.rg
                  refine lv_iload C.1 C.2.1 dX8_sheet_77 (lv_at hl 4 rfl) ?_
                  refine lv_iload_n C.1 C.2.1 dX8_sheet_79 rfl (lv_at hl 3 rfl) ?_
                  refine x_icmp_ge (tgt := 106) C ⟨by omega, by omega⟩ gz_z dX8_sheet_80 (by decide) (fun c80 => ?_) (fun c80 => ?_)
                  · refine lv_iconst (v := II 1) C.1 C.2.1 dX8_sheet_106 rfl ?_
                    subst hQQ; exact x_ireturn C hr hlk hw hS ⟨by decide, by decide⟩ rfl (by
    have e : okSh (i : Int) so z = true := decide_eq_true (by omega)
    have e2 : decide (so = -1 ∨ 0 ≤ z) = true := decide_eq_true (by omega)
    unfold r_sheet s_sheet
    rw [e, e2, if_pos rfl, if_pos (by omega)]
    refine ⟨rfl, hR.s2 hA (shmR hR.2.2.2.1 hA.sz (by show i < 4; omega) ?_ (fun m hm _ => hf m hm)) (fun m hm => hf m (fun y => hm (Or.inr (by omega)))), fun m hm => hf m (by omega)⟩
    rcases hq with ⟨q1, q2⟩ | ⟨q1, q2, q3, q4, q5⟩
    · exact Or.inl ⟨q1, q2⟩
    · refine Or.inr ⟨q1, q2, q3, ?_, fun x hx => q5 x ?_⟩
      · rw [if_neg q1]; exact q4
      · rw [if_neg q1] at hx; omega) dX8_sheet_107
                  · refine lv_iload_n C.1 C.2.1 dX8_sheet_83 rfl (lv_at hl 2 rfl) ?_
                    refine x_if_lt (tgt := 106) C gz_so dX8_sheet_84 (by decide) (fun c84 => ?_) (fun c84 => ?_)
                    · refine lv_iconst (v := II 1) C.1 C.2.1 dX8_sheet_106 rfl ?_
                      subst hQQ; exact x_ireturn C hr hlk hw hS ⟨by decide, by decide⟩ rfl (by
    have e : okSh (i : Int) so z = true := decide_eq_true (by omega)
    have e2 : decide (so = -1 ∨ 0 ≤ z) = true := decide_eq_true (by omega)
    unfold r_sheet s_sheet
    rw [e, e2, if_pos rfl, if_pos (by omega)]
    refine ⟨rfl, hR.s2 hA (shmR hR.2.2.2.1 hA.sz (by show i < 4; omega) ?_ (fun m hm _ => hf m hm)) (fun m hm => hf m (fun y => hm (Or.inr (by omega)))), fun m hm => hf m (by omega)⟩
    rcases hq with ⟨q1, q2⟩ | ⟨q1, q2, q3, q4, q5⟩
    · exact Or.inl ⟨q1, q2⟩
    · refine Or.inr ⟨q1, q2, q3, ?_, fun x hx => q5 x ?_⟩
      · rw [if_neg q1]; exact q4
      · rw [if_neg q1] at hx; omega) dX8_sheet_107
                    · refine lv_aload_n C.1 C.2.1 dX8_sheet_87 rfl (lv_at hl 0 rfl) ?_
                      refine g8 C hw 70 (by omega) rfl 41 (by decide) mw_865 (svr (hF.2 _)) dX8_sheet_88 ?_
                      refine lv_bipush (v := II 40) C.1 C.2.1 dX8_sheet_91 (by decide) ?_
                      refine lv_iload_n C.1 C.2.1 dX8_sheet_93 rfl (lv_at hl 1 rfl) ?_
                      refine x_imul C dX8_sheet_94 ?_
                      refine lv_iload C.1 C.2.1 dX8_sheet_95 (lv_at hl 4 rfl) ?_
                      refine x_iadd C dX8_sheet_97 ?_
                      refine lv_iconst (v := II 0) C.1 C.2.1 dX8_sheet_98 rfl ?_
                      refine x_iastore (L := 160) C hw hS 83 (by omega) rfl rfl (by omega) (by omega) (by decide) (x := 0) ⟨by decide, by decide⟩ dX8_sheet_99 (fun H locs hw hS => ?_)
                      have hw : Wo g (stM M2 (83000 + ((40 * i) + j)) 0) H := by rw [show 1000 * 83 + ((40 * (i : Int)) + (j : Int)).toNat = 83000 + ((40 * i) + j) from by omega] at hw; exact hw
                      refine lv_iinc (v := II ((j : Int) + 1)) (lv' := [(4, .int (II ((j : Int) + 1))), (0, .ref (gA g 70)), (1, .int (II (i : Int))), (2, .int (II so)), (3, .int (II z))]) C.1 C.2.1 dX8_sheet_100 hl (k := 4) rfl (II_add _ _) (by decide) rfl (fun ls hl => ?_)
                      refine lv_goto (tgt := 77) C.1 C.2.1 dX8_sheet_103 (by decide) ?_
                      exact ih77  (j + 1) (stM M2 (83000 + ((40 * i) + j)) 0) (by omega) (by omega) (by
      rcases hq with ⟨q1, q2⟩ | ⟨q1, q2, q3, q4, q5⟩
      · exfalso; omega
      · refine Or.inr ⟨q1, by rw [st_n (by omega)]; exact q2, by rw [st_n (by omega)]; exact q3, by rw [st_n (by omega)]; exact q4, fun x hx => ?_⟩
        by_cases e : x = j
        · rw [e, st_s]
        · rw [st_n (by omega)]; exact q5 x (by omega)) (fun m hm => by rw [st_n (by omega)]; exact hf m hm) _ _ _ hw hS (lv_sub hl [1, 2, 3, 4, 0] rfl)
              exact L77 _ 0 (stM (stM (stM M (80000 + i) 1) (81000 + i) so) (82000 + i) z) (Nat.lt_succ_self _) (by omega) (by
      by_cases hs1 : so = -1
      · first
        | (exfalso; omega)
        | exact Or.inl ⟨hs1, (st_n (by omega)).trans ((st_n (by omega)).trans st_s)⟩
      · first
        | (exfalso; omega)
        | exact Or.inr ⟨hs1, (st_n (by omega)).trans ((st_n (by omega)).trans st_s), (st_n (by omega)).trans st_s, st_s, fun _ h => absurd h (Nat.not_lt_zero _)⟩) (fun m hm => by rw [st_n (by omega), st_n (by omega), st_n (by omega)]) _ _ _ hw hS (lv_sub hl [1, 2, 3, 4, 0] rfl)
          · refine lv_bipush (v := II (-14)) C.1 C.2.1 dX8_sheet_42 (by decide) ?_
            subst hQQ; exact x_ireturn C hr hlk hw hS ⟨by decide, by decide⟩ rfl (by have e : okSh s0 so z = true := decide_eq_true (by omega); have e2 : decide (so = -1 ∨ 0 ≤ z) = false := decide_eq_false (by omega); unfold r_sheet s_sheet; rw [e, e2, if_pos rfl, if_neg (by omega)]; exact ⟨rfl, hR, fun _ _ => rfl⟩) dX8_sheet_44
      · refine lv_iload_n C.1 C.2.1 dX8_sheet_25 rfl (lv_at hl 3 rfl) ?_
        refine lv_bipush (v := II 40) C.1 C.2.1 dX8_sheet_26 (by decide) ?_
        refine x_icmp_le (tgt := 34) C gz_z ⟨by decide, by decide⟩ dX8_sheet_28 (by decide) (fun c28 => ?_) (fun c28 => ?_)
        · refine lv_iload_n C.1 C.2.1 dX8_sheet_34 rfl (lv_at hl 2 rfl) ?_
          refine x_if_lt (tgt := 45) C gz_so dX8_sheet_35 (by decide) (fun c35 => ?_) (fun c35 => ?_)
          · obtain ⟨i, rfl⟩ : ∃ i : Nat, s0 = (i : Int) := ⟨s0.toNat, by omega⟩
            refine lv_aload_n C.1 C.2.1 dX8_sheet_45 rfl (lv_at hl 0 rfl) ?_
            refine g8 C hw 70 (by omega) rfl 38 (by decide) mw_862 (svr (hF.2 _)) dX8_sheet_46 ?_
            refine lv_iload_n C.1 C.2.1 dX8_sheet_49 rfl (lv_at hl 1 rfl) ?_
            refine lv_iload_n C.1 C.2.1 dX8_sheet_50 rfl (lv_at hl 2 rfl) ?_
            refine x_if_lt (tgt := 58) C gz_so dX8_sheet_51 (by decide) (fun c51 => ?_) (fun c51 => ?_)
            · refine lv_iconst (v := II 0) C.1 C.2.1 dX8_sheet_58 rfl ?_
              refine x_bastore (L := 4) C hw hS 80 (by omega) rfl rfl (by omega) (by omega) (by decide) (x := 0) (by decide) dX8_sheet_59 (fun H locs hw hS => ?_)
              have hw : Wo g (stM M (80000 + i) 0) H := hw
              refine lv_aload_n C.1 C.2.1 dX8_sheet_60 rfl (lv_at hl 0 rfl) ?_
              refine g8 C hw 70 (by omega) rfl 39 (by decide) mw_863 (svr (hF.2 _)) dX8_sheet_61 ?_
              refine lv_iload_n C.1 C.2.1 dX8_sheet_64 rfl (lv_at hl 1 rfl) ?_
              refine lv_iload_n C.1 C.2.1 dX8_sheet_65 rfl (lv_at hl 2 rfl) ?_
              refine x_iastore (L := 4) C hw hS 81 (by omega) rfl rfl (by omega) (by omega) (by decide) (x := so) gz_so dX8_sheet_66 (fun H locs hw hS => ?_)
              have hw : Wo g (stM (stM M (80000 + i) 0) (81000 + i) so) H := hw
              refine lv_aload_n C.1 C.2.1 dX8_sheet_67 rfl (lv_at hl 0 rfl) ?_
              refine g8 C hw 70 (by omega) rfl 40 (by decide) mw_864 (svr (hF.2 _)) dX8_sheet_68 ?_
              refine lv_iload_n C.1 C.2.1 dX8_sheet_71 rfl (lv_at hl 1 rfl) ?_
              refine lv_iload_n C.1 C.2.1 dX8_sheet_72 rfl (lv_at hl 3 rfl) ?_
              refine x_iastore (L := 4) C hw hS 82 (by omega) rfl rfl (by omega) (by omega) (by decide) (x := z) gz_z dX8_sheet_73 (fun H locs hw hS => ?_)
              have hw : Wo g (stM (stM (stM M (80000 + i) 0) (81000 + i) so) (82000 + i) z) H := hw
              refine lv_iconst (v := II 0) C.1 C.2.1 dX8_sheet_74 rfl ?_
              refine lv_istore (lv' := [(4, .int (II 0)), (0, .ref (gA g 70)), (1, .int (II (i : Int))), (2, .int (II so)), (3, .int (II z))]) C.1 C.2.1 dX8_sheet_75 hl (by decide) rfl (fun ls hl => ?_)
              have L77 : ∀ (f5 : Nat) (j : Nat) (M2 : Nat → Int), (41 - j) < f5 → (j ≤ 40) → ((so = -1 ∧ M2 (80000 + i) = 0) ∨ (so ≠ -1 ∧ M2 (80000 + i) = 1 ∧ M2 (81000 + i) = so ∧ M2 (82000 + i) = z ∧ ∀ x, x < j → M2 (83000 + (40 * i + x)) = 0)) → (∀ m, ¬ (m = 80000 + i ∨ m = 81000 + i ∨ m = 82000 + i ∨ (83000 + 40 * i ≤ m ∧ m < 83000 + 40 * i + 40)) → M2 m = M m) → ∀ (H : Heap) (locs : List Loc) (ls : Array Slot), Wo g M2 H → va_S (ar g) s.heap H locs → lv_has ls 5 [(0, .ref (gA g 70)), (1, .int (II (i : Int))), (2, .int (II so)), (3, .int (II z)), (4, .int (II (j : Int)))] → W p l e (rmm 2 45) s m args below meth c H locs 0 0 QQ (F0 m 77 ls []) := by
                intro f5
                induction f5 with
                | zero => intro j M2 hmu; exact absurd hmu (Nat.not_lt_zero _)
                | succ f5 ih =>
                  intro j M2 hmu h1 hq hf H locs ls hw hS hl
                  have ih77 := ih
                  have g_M2 := hw.rg
                  refine lv_iload C.1 C.2.1 dX8_sheet_77 (lv_at hl 4 rfl) ?_
                  refine lv_iload_n C.1 C.2.1 dX8_sheet_79 rfl (lv_at hl 3 rfl) ?_
                  refine x_icmp_ge (tgt := 106) C ⟨by omega, by omega⟩ gz_z dX8_sheet_80 (by decide) (fun c80 => ?_) (fun c80 => ?_)
                  · refine lv_iconst (v := II 1) C.1 C.2.1 dX8_sheet_106 rfl ?_
                    subst hQQ; exact x_ireturn C hr hlk hw hS ⟨by decide, by decide⟩ rfl (by
    have e : okSh (i : Int) so z = true := decide_eq_true (by omega)
    have e2 : decide (so = -1 ∨ 0 ≤ z) = true := decide_eq_true (by omega)
    unfold r_sheet s_sheet
    rw [e, e2, if_pos rfl, if_pos (by omega)]
    refine ⟨rfl, hR.s2 hA (shmR hR.2.2.2.1 hA.sz (by show i < 4; omega) ?_ (fun m hm _ => hf m hm)) (fun m hm => hf m (fun y => hm (Or.inr (by omega)))), fun m hm => hf m (by omega)⟩
    rcases hq with ⟨q1, q2⟩ | ⟨q1, q2, q3, q4, q5⟩
    · exact Or.inl ⟨q1, q2⟩
    · refine Or.inr ⟨q1, q2, q3, ?_, fun x hx => q5 x ?_⟩
      · rw [if_neg q1]; exact q4
      · rw [if_neg q1] at hx; omega) dX8_sheet_107
                  · refine lv_iload_n C.1 C.2.1 dX8_sheet_83 rfl (lv_at hl 2 rfl) ?_
                    refine x_if_lt (tgt := 106) C gz_so dX8_sheet_84 (by decide) (fun c84 => ?_) (fun c84 => ?_)
                    · refine lv_iconst (v := II 1) C.1 C.2.1 dX8_sheet_106 rfl ?_
                      subst hQQ; exact x_ireturn C hr hlk hw hS ⟨by decide, by decide⟩ rfl (by
    have e : okSh (i : Int) so z = true := decide_eq_true (by omega)
    have e2 : decide (so = -1 ∨ 0 ≤ z) = true := decide_eq_true (by omega)
    unfold r_sheet s_sheet
    rw [e, e2, if_pos rfl, if_pos (by omega)]
    refine ⟨rfl, hR.s2 hA (shmR hR.2.2.2.1 hA.sz (by show i < 4; omega) ?_ (fun m hm _ => hf m hm)) (fun m hm => hf m (fun y => hm (Or.inr (by omega)))), fun m hm => hf m (by omega)⟩
    rcases hq with ⟨q1, q2⟩ | ⟨q1, q2, q3, q4, q5⟩
    · exact Or.inl ⟨q1, q2⟩
    · refine Or.inr ⟨q1, q2, q3, ?_, fun x hx => q5 x ?_⟩
      · rw [if_neg q1]; exact q4
      · rw [if_neg q1] at hx; omega) dX8_sheet_107
                    · refine lv_aload_n C.1 C.2.1 dX8_sheet_87 rfl (lv_at hl 0 rfl) ?_
                      refine g8 C hw 70 (by omega) rfl 41 (by decide) mw_865 (svr (hF.2 _)) dX8_sheet_88 ?_
                      refine lv_bipush (v := II 40) C.1 C.2.1 dX8_sheet_91 (by decide) ?_
                      refine lv_iload_n C.1 C.2.1 dX8_sheet_93 rfl (lv_at hl 1 rfl) ?_
                      refine x_imul C dX8_sheet_94 ?_
                      refine lv_iload C.1 C.2.1 dX8_sheet_95 (lv_at hl 4 rfl) ?_
                      refine x_iadd C dX8_sheet_97 ?_
                      refine lv_iconst (v := II 0) C.1 C.2.1 dX8_sheet_98 rfl ?_
                      refine x_iastore (L := 160) C hw hS 83 (by omega) rfl rfl (by omega) (by omega) (by decide) (x := 0) ⟨by decide, by decide⟩ dX8_sheet_99 (fun H locs hw hS => ?_)
                      have hw : Wo g (stM M2 (83000 + ((40 * i) + j)) 0) H := by rw [show 1000 * 83 + ((40 * (i : Int)) + (j : Int)).toNat = 83000 + ((40 * i) + j) from by omega] at hw; exact hw
                      refine lv_iinc (v := II ((j : Int) + 1)) (lv' := [(4, .int (II ((j : Int) + 1))), (0, .ref (gA g 70)), (1, .int (II (i : Int))), (2, .int (II so)), (3, .int (II z))]) C.1 C.2.1 dX8_sheet_100 hl (k := 4) rfl (II_add _ _) (by decide) rfl (fun ls hl => ?_)
                      refine lv_goto (tgt := 77) C.1 C.2.1 dX8_sheet_103 (by decide) ?_
                      exact ih77  (j + 1) (stM M2 (83000 + ((40 * i) + j)) 0) (by omega) (by omega) (by
      rcases hq with ⟨q1, q2⟩ | ⟨q1, q2, q3, q4, q5⟩
      · exfalso; omega
      · refine Or.inr ⟨q1, by rw [st_n (by omega)]; exact q2, by rw [st_n (by omega)]; exact q3, by rw [st_n (by omega)]; exact q4, fun x hx => ?_⟩
        by_cases e : x = j
        · rw [e, st_s]
        · rw [st_n (by omega)]; exact q5 x (by omega)) (fun m hm => by rw [st_n (by omega)]; exact hf m hm) _ _ _ hw hS (lv_sub hl [1, 2, 3, 4, 0] rfl)
              exact L77 _ 0 (stM (stM (stM M (80000 + i) 0) (81000 + i) so) (82000 + i) z) (Nat.lt_succ_self _) (by omega) (by
      by_cases hs1 : so = -1
      · first
        | (exfalso; omega)
        | exact Or.inl ⟨hs1, (st_n (by omega)).trans ((st_n (by omega)).trans st_s)⟩
      · first
        | (exfalso; omega)
        | exact Or.inr ⟨hs1, (st_n (by omega)).trans ((st_n (by omega)).trans st_s), (st_n (by omega)).trans st_s, st_s, fun _ h => absurd h (Nat.not_lt_zero _)⟩) (fun m hm => by rw [st_n (by omega), st_n (by omega), st_n (by omega)]) _ _ _ hw hS (lv_sub hl [1, 2, 3, 4, 0] rfl)
            · refine lv_iconst (v := II 1) C.1 C.2.1 dX8_sheet_54 rfl ?_
              refine lv_goto (tgt := 59) C.1 C.2.1 dX8_sheet_55 (by decide) ?_
              refine x_bastore (L := 4) C hw hS 80 (by omega) rfl rfl (by omega) (by omega) (by decide) (x := 1) (by decide) dX8_sheet_59 (fun H locs hw hS => ?_)
              have hw : Wo g (stM M (80000 + i) 1) H := hw
              refine lv_aload_n C.1 C.2.1 dX8_sheet_60 rfl (lv_at hl 0 rfl) ?_
              refine g8 C hw 70 (by omega) rfl 39 (by decide) mw_863 (svr (hF.2 _)) dX8_sheet_61 ?_
              refine lv_iload_n C.1 C.2.1 dX8_sheet_64 rfl (lv_at hl 1 rfl) ?_
              refine lv_iload_n C.1 C.2.1 dX8_sheet_65 rfl (lv_at hl 2 rfl) ?_
              refine x_iastore (L := 4) C hw hS 81 (by omega) rfl rfl (by omega) (by omega) (by decide) (x := so) gz_so dX8_sheet_66 (fun H locs hw hS => ?_)
              have hw : Wo g (stM (stM M (80000 + i) 1) (81000 + i) so) H := hw
              refine lv_aload_n C.1 C.2.1 dX8_sheet_67 rfl (lv_at hl 0 rfl) ?_
              refine g8 C hw 70 (by omega) rfl 40 (by decide) mw_864 (svr (hF.2 _)) dX8_sheet_68 ?_
              refine lv_iload_n C.1 C.2.1 dX8_sheet_71 rfl (lv_at hl 1 rfl) ?_
              refine lv_iload_n C.1 C.2.1 dX8_sheet_72 rfl (lv_at hl 3 rfl) ?_
              refine x_iastore (L := 4) C hw hS 82 (by omega) rfl rfl (by omega) (by omega) (by decide) (x := z) gz_z dX8_sheet_73 (fun H locs hw hS => ?_)
              have hw : Wo g (stM (stM (stM M (80000 + i) 1) (81000 + i) so) (82000 + i) z) H := hw
              refine lv_iconst (v := II 0) C.1 C.2.1 dX8_sheet_74 rfl ?_
              refine lv_istore (lv' := [(4, .int (II 0)), (0, .ref (gA g 70)), (1, .int (II (i : Int))), (2, .int (II so)), (3, .int (II z))]) C.1 C.2.1 dX8_sheet_75 hl (by decide) rfl (fun ls hl => ?_)
              have L77 : ∀ (f6 : Nat) (j : Nat) (M2 : Nat → Int), (41 - j) < f6 → (j ≤ 40) → ((so = -1 ∧ M2 (80000 + i) = 0) ∨ (so ≠ -1 ∧ M2 (80000 + i) = 1 ∧ M2 (81000 + i) = so ∧ M2 (82000 + i) = z ∧ ∀ x, x < j → M2 (83000 + (40 * i + x)) = 0)) → (∀ m, ¬ (m = 80000 + i ∨ m = 81000 + i ∨ m = 82000 + i ∨ (83000 + 40 * i ≤ m ∧ m < 83000 + 40 * i + 40)) → M2 m = M m) → ∀ (H : Heap) (locs : List Loc) (ls : Array Slot), Wo g M2 H → va_S (ar g) s.heap H locs → lv_has ls 5 [(0, .ref (gA g 70)), (1, .int (II (i : Int))), (2, .int (II so)), (3, .int (II z)), (4, .int (II (j : Int)))] → W p l e (rmm 2 45) s m args below meth c H locs 0 0 QQ (F0 m 77 ls []) := by
                intro f6
                induction f6 with
                | zero => intro j M2 hmu; exact absurd hmu (Nat.not_lt_zero _)
                | succ f6 ih =>
                  intro j M2 hmu h1 hq hf H locs ls hw hS hl
                  have ih77 := ih
                  have g_M2 := hw.rg
                  refine lv_iload C.1 C.2.1 dX8_sheet_77 (lv_at hl 4 rfl) ?_
                  refine lv_iload_n C.1 C.2.1 dX8_sheet_79 rfl (lv_at hl 3 rfl) ?_
                  refine x_icmp_ge (tgt := 106) C ⟨by omega, by omega⟩ gz_z dX8_sheet_80 (by decide) (fun c80 => ?_) (fun c80 => ?_)
                  · refine lv_iconst (v := II 1) C.1 C.2.1 dX8_sheet_106 rfl ?_
                    subst hQQ; exact x_ireturn C hr hlk hw hS ⟨by decide, by decide⟩ rfl (by
    have e : okSh (i : Int) so z = true := decide_eq_true (by omega)
    have e2 : decide (so = -1 ∨ 0 ≤ z) = true := decide_eq_true (by omega)
    unfold r_sheet s_sheet
    rw [e, e2, if_pos rfl, if_pos (by omega)]
    refine ⟨rfl, hR.s2 hA (shmR hR.2.2.2.1 hA.sz (by show i < 4; omega) ?_ (fun m hm _ => hf m hm)) (fun m hm => hf m (fun y => hm (Or.inr (by omega)))), fun m hm => hf m (by omega)⟩
    rcases hq with ⟨q1, q2⟩ | ⟨q1, q2, q3, q4, q5⟩
    · exact Or.inl ⟨q1, q2⟩
    · refine Or.inr ⟨q1, q2, q3, ?_, fun x hx => q5 x ?_⟩
      · rw [if_neg q1]; exact q4
      · rw [if_neg q1] at hx; omega) dX8_sheet_107
                  · refine lv_iload_n C.1 C.2.1 dX8_sheet_83 rfl (lv_at hl 2 rfl) ?_
                    refine x_if_lt (tgt := 106) C gz_so dX8_sheet_84 (by decide) (fun c84 => ?_) (fun c84 => ?_)
                    · refine lv_iconst (v := II 1) C.1 C.2.1 dX8_sheet_106 rfl ?_
                      subst hQQ; exact x_ireturn C hr hlk hw hS ⟨by decide, by decide⟩ rfl (by
    have e : okSh (i : Int) so z = true := decide_eq_true (by omega)
    have e2 : decide (so = -1 ∨ 0 ≤ z) = true := decide_eq_true (by omega)
    unfold r_sheet s_sheet
    rw [e, e2, if_pos rfl, if_pos (by omega)]
    refine ⟨rfl, hR.s2 hA (shmR hR.2.2.2.1 hA.sz (by show i < 4; omega) ?_ (fun m hm _ => hf m hm)) (fun m hm => hf m (fun y => hm (Or.inr (by omega)))), fun m hm => hf m (by omega)⟩
    rcases hq with ⟨q1, q2⟩ | ⟨q1, q2, q3, q4, q5⟩
    · exact Or.inl ⟨q1, q2⟩
    · refine Or.inr ⟨q1, q2, q3, ?_, fun x hx => q5 x ?_⟩
      · rw [if_neg q1]; exact q4
      · rw [if_neg q1] at hx; omega) dX8_sheet_107
                    · refine lv_aload_n C.1 C.2.1 dX8_sheet_87 rfl (lv_at hl 0 rfl) ?_
                      refine g8 C hw 70 (by omega) rfl 41 (by decide) mw_865 (svr (hF.2 _)) dX8_sheet_88 ?_
                      refine lv_bipush (v := II 40) C.1 C.2.1 dX8_sheet_91 (by decide) ?_
                      refine lv_iload_n C.1 C.2.1 dX8_sheet_93 rfl (lv_at hl 1 rfl) ?_
                      refine x_imul C dX8_sheet_94 ?_
                      refine lv_iload C.1 C.2.1 dX8_sheet_95 (lv_at hl 4 rfl) ?_
                      refine x_iadd C dX8_sheet_97 ?_
                      refine lv_iconst (v := II 0) C.1 C.2.1 dX8_sheet_98 rfl ?_
                      refine x_iastore (L := 160) C hw hS 83 (by omega) rfl rfl (by omega) (by omega) (by decide) (x := 0) ⟨by decide, by decide⟩ dX8_sheet_99 (fun H locs hw hS => ?_)
                      have hw : Wo g (stM M2 (83000 + ((40 * i) + j)) 0) H := by rw [show 1000 * 83 + ((40 * (i : Int)) + (j : Int)).toNat = 83000 + ((40 * i) + j) from by omega] at hw; exact hw
                      refine lv_iinc (v := II ((j : Int) + 1)) (lv' := [(4, .int (II ((j : Int) + 1))), (0, .ref (gA g 70)), (1, .int (II (i : Int))), (2, .int (II so)), (3, .int (II z))]) C.1 C.2.1 dX8_sheet_100 hl (k := 4) rfl (II_add _ _) (by decide) rfl (fun ls hl => ?_)
                      refine lv_goto (tgt := 77) C.1 C.2.1 dX8_sheet_103 (by decide) ?_
                      exact ih77  (j + 1) (stM M2 (83000 + ((40 * i) + j)) 0) (by omega) (by omega) (by
      rcases hq with ⟨q1, q2⟩ | ⟨q1, q2, q3, q4, q5⟩
      · exfalso; omega
      · refine Or.inr ⟨q1, by rw [st_n (by omega)]; exact q2, by rw [st_n (by omega)]; exact q3, by rw [st_n (by omega)]; exact q4, fun x hx => ?_⟩
        by_cases e : x = j
        · rw [e, st_s]
        · rw [st_n (by omega)]; exact q5 x (by omega)) (fun m hm => by rw [st_n (by omega)]; exact hf m hm) _ _ _ hw hS (lv_sub hl [1, 2, 3, 4, 0] rfl)
              exact L77 _ 0 (stM (stM (stM M (80000 + i) 1) (81000 + i) so) (82000 + i) z) (Nat.lt_succ_self _) (by omega) (by
      by_cases hs1 : so = -1
      · first
        | (exfalso; omega)
        | exact Or.inl ⟨hs1, (st_n (by omega)).trans ((st_n (by omega)).trans st_s)⟩
      · first
        | (exfalso; omega)
        | exact Or.inr ⟨hs1, (st_n (by omega)).trans ((st_n (by omega)).trans st_s), (st_n (by omega)).trans st_s, st_s, fun _ h => absurd h (Nat.not_lt_zero _)⟩) (fun m hm => by rw [st_n (by omega), st_n (by omega), st_n (by omega)]) _ _ _ hw hS (lv_sub hl [1, 2, 3, 4, 0] rfl)
          · refine lv_iload_n C.1 C.2.1 dX8_sheet_38 rfl (lv_at hl 3 rfl) ?_
            refine x_if_ge (tgt := 45) C gz_z dX8_sheet_39 (by decide) (fun c39 => ?_) (fun c39 => ?_)
            · obtain ⟨i, rfl⟩ : ∃ i : Nat, s0 = (i : Int) := ⟨s0.toNat, by omega⟩
              refine lv_aload_n C.1 C.2.1 dX8_sheet_45 rfl (lv_at hl 0 rfl) ?_
              refine g8 C hw 70 (by omega) rfl 38 (by decide) mw_862 (svr (hF.2 _)) dX8_sheet_46 ?_
              refine lv_iload_n C.1 C.2.1 dX8_sheet_49 rfl (lv_at hl 1 rfl) ?_
              refine lv_iload_n C.1 C.2.1 dX8_sheet_50 rfl (lv_at hl 2 rfl) ?_
              refine x_if_lt (tgt := 58) C gz_so dX8_sheet_51 (by decide) (fun c51 => ?_) (fun c51 => ?_)
              · refine lv_iconst (v := II 0) C.1 C.2.1 dX8_sheet_58 rfl ?_
                refine x_bastore (L := 4) C hw hS 80 (by omega) rfl rfl (by omega) (by omega) (by decide) (x := 0) (by decide) dX8_sheet_59 (fun H locs hw hS => ?_)
                have hw : Wo g (stM M (80000 + i) 0) H := hw
                refine lv_aload_n C.1 C.2.1 dX8_sheet_60 rfl (lv_at hl 0 rfl) ?_
                refine g8 C hw 70 (by omega) rfl 39 (by decide) mw_863 (svr (hF.2 _)) dX8_sheet_61 ?_
                refine lv_iload_n C.1 C.2.1 dX8_sheet_64 rfl (lv_at hl 1 rfl) ?_
                refine lv_iload_n C.1 C.2.1 dX8_sheet_65 rfl (lv_at hl 2 rfl) ?_
                refine x_iastore (L := 4) C hw hS 81 (by omega) rfl rfl (by omega) (by omega) (by decide) (x := so) gz_so dX8_sheet_66 (fun H locs hw hS => ?_)
                have hw : Wo g (stM (stM M (80000 + i) 0) (81000 + i) so) H := hw
                refine lv_aload_n C.1 C.2.1 dX8_sheet_67 rfl (lv_at hl 0 rfl) ?_
                refine g8 C hw 70 (by omega) rfl 40 (by decide) mw_864 (svr (hF.2 _)) dX8_sheet_68 ?_
                refine lv_iload_n C.1 C.2.1 dX8_sheet_71 rfl (lv_at hl 1 rfl) ?_
                refine lv_iload_n C.1 C.2.1 dX8_sheet_72 rfl (lv_at hl 3 rfl) ?_
                refine x_iastore (L := 4) C hw hS 82 (by omega) rfl rfl (by omega) (by omega) (by decide) (x := z) gz_z dX8_sheet_73 (fun H locs hw hS => ?_)
                have hw : Wo g (stM (stM (stM M (80000 + i) 0) (81000 + i) so) (82000 + i) z) H := hw
                refine lv_iconst (v := II 0) C.1 C.2.1 dX8_sheet_74 rfl ?_
                refine lv_istore (lv' := [(4, .int (II 0)), (0, .ref (gA g 70)), (1, .int (II (i : Int))), (2, .int (II so)), (3, .int (II z))]) C.1 C.2.1 dX8_sheet_75 hl (by decide) rfl (fun ls hl => ?_)
                have L77 : ∀ (f7 : Nat) (j : Nat) (M2 : Nat → Int), (41 - j) < f7 → (j ≤ 40) → ((so = -1 ∧ M2 (80000 + i) = 0) ∨ (so ≠ -1 ∧ M2 (80000 + i) = 1 ∧ M2 (81000 + i) = so ∧ M2 (82000 + i) = z ∧ ∀ x, x < j → M2 (83000 + (40 * i + x)) = 0)) → (∀ m, ¬ (m = 80000 + i ∨ m = 81000 + i ∨ m = 82000 + i ∨ (83000 + 40 * i ≤ m ∧ m < 83000 + 40 * i + 40)) → M2 m = M m) → ∀ (H : Heap) (locs : List Loc) (ls : Array Slot), Wo g M2 H → va_S (ar g) s.heap H locs → lv_has ls 5 [(0, .ref (gA g 70)), (1, .int (II (i : Int))), (2, .int (II so)), (3, .int (II z)), (4, .int (II (j : Int)))] → W p l e (rmm 2 45) s m args below meth c H locs 0 0 QQ (F0 m 77 ls []) := by
                  intro f7
                  induction f7 with
                  | zero => intro j M2 hmu; exact absurd hmu (Nat.not_lt_zero _)
                  | succ f7 ih =>
                    intro j M2 hmu h1 hq hf H locs ls hw hS hl
                    have ih77 := ih
                    have g_M2 := hw.rg
                    refine lv_iload C.1 C.2.1 dX8_sheet_77 (lv_at hl 4 rfl) ?_
                    refine lv_iload_n C.1 C.2.1 dX8_sheet_79 rfl (lv_at hl 3 rfl) ?_
                    refine x_icmp_ge (tgt := 106) C ⟨by omega, by omega⟩ gz_z dX8_sheet_80 (by decide) (fun c80 => ?_) (fun c80 => ?_)
                    · refine lv_iconst (v := II 1) C.1 C.2.1 dX8_sheet_106 rfl ?_
                      subst hQQ; exact x_ireturn C hr hlk hw hS ⟨by decide, by decide⟩ rfl (by
    have e : okSh (i : Int) so z = true := decide_eq_true (by omega)
    have e2 : decide (so = -1 ∨ 0 ≤ z) = true := decide_eq_true (by omega)
    unfold r_sheet s_sheet
    rw [e, e2, if_pos rfl, if_pos (by omega)]
    refine ⟨rfl, hR.s2 hA (shmR hR.2.2.2.1 hA.sz (by show i < 4; omega) ?_ (fun m hm _ => hf m hm)) (fun m hm => hf m (fun y => hm (Or.inr (by omega)))), fun m hm => hf m (by omega)⟩
    rcases hq with ⟨q1, q2⟩ | ⟨q1, q2, q3, q4, q5⟩
    · exact Or.inl ⟨q1, q2⟩
    · refine Or.inr ⟨q1, q2, q3, ?_, fun x hx => q5 x ?_⟩
      · rw [if_neg q1]; exact q4
      · rw [if_neg q1] at hx; omega) dX8_sheet_107
                    · refine lv_iload_n C.1 C.2.1 dX8_sheet_83 rfl (lv_at hl 2 rfl) ?_
                      refine x_if_lt (tgt := 106) C gz_so dX8_sheet_84 (by decide) (fun c84 => ?_) (fun c84 => ?_)
                      · refine lv_iconst (v := II 1) C.1 C.2.1 dX8_sheet_106 rfl ?_
                        subst hQQ; exact x_ireturn C hr hlk hw hS ⟨by decide, by decide⟩ rfl (by
    have e : okSh (i : Int) so z = true := decide_eq_true (by omega)
    have e2 : decide (so = -1 ∨ 0 ≤ z) = true := decide_eq_true (by omega)
    unfold r_sheet s_sheet
    rw [e, e2, if_pos rfl, if_pos (by omega)]
    refine ⟨rfl, hR.s2 hA (shmR hR.2.2.2.1 hA.sz (by show i < 4; omega) ?_ (fun m hm _ => hf m hm)) (fun m hm => hf m (fun y => hm (Or.inr (by omega)))), fun m hm => hf m (by omega)⟩
    rcases hq with ⟨q1, q2⟩ | ⟨q1, q2, q3, q4, q5⟩
    · exact Or.inl ⟨q1, q2⟩
    · refine Or.inr ⟨q1, q2, q3, ?_, fun x hx => q5 x ?_⟩
      · rw [if_neg q1]; exact q4
      · rw [if_neg q1] at hx; omega) dX8_sheet_107
                      · refine lv_aload_n C.1 C.2.1 dX8_sheet_87 rfl (lv_at hl 0 rfl) ?_
                        refine g8 C hw 70 (by omega) rfl 41 (by decide) mw_865 (svr (hF.2 _)) dX8_sheet_88 ?_
                        refine lv_bipush (v := II 40) C.1 C.2.1 dX8_sheet_91 (by decide) ?_
                        refine lv_iload_n C.1 C.2.1 dX8_sheet_93 rfl (lv_at hl 1 rfl) ?_
                        refine x_imul C dX8_sheet_94 ?_
                        refine lv_iload C.1 C.2.1 dX8_sheet_95 (lv_at hl 4 rfl) ?_
                        refine x_iadd C dX8_sheet_97 ?_
                        refine lv_iconst (v := II 0) C.1 C.2.1 dX8_sheet_98 rfl ?_
                        refine x_iastore (L := 160) C hw hS 83 (by omega) rfl rfl (by omega) (by omega) (by decide) (x := 0) ⟨by decide, by decide⟩ dX8_sheet_99 (fun H locs hw hS => ?_)
                        have hw : Wo g (stM M2 (83000 + ((40 * i) + j)) 0) H := by rw [show 1000 * 83 + ((40 * (i : Int)) + (j : Int)).toNat = 83000 + ((40 * i) + j) from by omega] at hw; exact hw
                        refine lv_iinc (v := II ((j : Int) + 1)) (lv' := [(4, .int (II ((j : Int) + 1))), (0, .ref (gA g 70)), (1, .int (II (i : Int))), (2, .int (II so)), (3, .int (II z))]) C.1 C.2.1 dX8_sheet_100 hl (k := 4) rfl (II_add _ _) (by decide) rfl (fun ls hl => ?_)
                        refine lv_goto (tgt := 77) C.1 C.2.1 dX8_sheet_103 (by decide) ?_
                        exact ih77  (j + 1) (stM M2 (83000 + ((40 * i) + j)) 0) (by omega) (by omega) (by
      rcases hq with ⟨q1, q2⟩ | ⟨q1, q2, q3, q4, q5⟩
      · exfalso; omega
      · refine Or.inr ⟨q1, by rw [st_n (by omega)]; exact q2, by rw [st_n (by omega)]; exact q3, by rw [st_n (by omega)]; exact q4, fun x hx => ?_⟩
        by_cases e : x = j
        · rw [e, st_s]
        · rw [st_n (by omega)]; exact q5 x (by omega)) (fun m hm => by rw [st_n (by omega)]; exact hf m hm) _ _ _ hw hS (lv_sub hl [1, 2, 3, 4, 0] rfl)
                exact L77 _ 0 (stM (stM (stM M (80000 + i) 0) (81000 + i) so) (82000 + i) z) (Nat.lt_succ_self _) (by omega) (by
      by_cases hs1 : so = -1
      · first
        | (exfalso; omega)
        | exact Or.inl ⟨hs1, (st_n (by omega)).trans ((st_n (by omega)).trans st_s)⟩
      · first
        | (exfalso; omega)
        | exact Or.inr ⟨hs1, (st_n (by omega)).trans ((st_n (by omega)).trans st_s), (st_n (by omega)).trans st_s, st_s, fun _ h => absurd h (Nat.not_lt_zero _)⟩) (fun m hm => by rw [st_n (by omega), st_n (by omega), st_n (by omega)]) _ _ _ hw hS (lv_sub hl [1, 2, 3, 4, 0] rfl)
              · refine lv_iconst (v := II 1) C.1 C.2.1 dX8_sheet_54 rfl ?_
                refine lv_goto (tgt := 59) C.1 C.2.1 dX8_sheet_55 (by decide) ?_
                refine x_bastore (L := 4) C hw hS 80 (by omega) rfl rfl (by omega) (by omega) (by decide) (x := 1) (by decide) dX8_sheet_59 (fun H locs hw hS => ?_)
                have hw : Wo g (stM M (80000 + i) 1) H := hw
                refine lv_aload_n C.1 C.2.1 dX8_sheet_60 rfl (lv_at hl 0 rfl) ?_
                refine g8 C hw 70 (by omega) rfl 39 (by decide) mw_863 (svr (hF.2 _)) dX8_sheet_61 ?_
                refine lv_iload_n C.1 C.2.1 dX8_sheet_64 rfl (lv_at hl 1 rfl) ?_
                refine lv_iload_n C.1 C.2.1 dX8_sheet_65 rfl (lv_at hl 2 rfl) ?_
                refine x_iastore (L := 4) C hw hS 81 (by omega) rfl rfl (by omega) (by omega) (by decide) (x := so) gz_so dX8_sheet_66 (fun H locs hw hS => ?_)
                have hw : Wo g (stM (stM M (80000 + i) 1) (81000 + i) so) H := hw
                refine lv_aload_n C.1 C.2.1 dX8_sheet_67 rfl (lv_at hl 0 rfl) ?_
                refine g8 C hw 70 (by omega) rfl 40 (by decide) mw_864 (svr (hF.2 _)) dX8_sheet_68 ?_
                refine lv_iload_n C.1 C.2.1 dX8_sheet_71 rfl (lv_at hl 1 rfl) ?_
                refine lv_iload_n C.1 C.2.1 dX8_sheet_72 rfl (lv_at hl 3 rfl) ?_
                refine x_iastore (L := 4) C hw hS 82 (by omega) rfl rfl (by omega) (by omega) (by decide) (x := z) gz_z dX8_sheet_73 (fun H locs hw hS => ?_)
                have hw : Wo g (stM (stM (stM M (80000 + i) 1) (81000 + i) so) (82000 + i) z) H := hw
                refine lv_iconst (v := II 0) C.1 C.2.1 dX8_sheet_74 rfl ?_
                refine lv_istore (lv' := [(4, .int (II 0)), (0, .ref (gA g 70)), (1, .int (II (i : Int))), (2, .int (II so)), (3, .int (II z))]) C.1 C.2.1 dX8_sheet_75 hl (by decide) rfl (fun ls hl => ?_)
                have L77 : ∀ (f8 : Nat) (j : Nat) (M2 : Nat → Int), (41 - j) < f8 → (j ≤ 40) → ((so = -1 ∧ M2 (80000 + i) = 0) ∨ (so ≠ -1 ∧ M2 (80000 + i) = 1 ∧ M2 (81000 + i) = so ∧ M2 (82000 + i) = z ∧ ∀ x, x < j → M2 (83000 + (40 * i + x)) = 0)) → (∀ m, ¬ (m = 80000 + i ∨ m = 81000 + i ∨ m = 82000 + i ∨ (83000 + 40 * i ≤ m ∧ m < 83000 + 40 * i + 40)) → M2 m = M m) → ∀ (H : Heap) (locs : List Loc) (ls : Array Slot), Wo g M2 H → va_S (ar g) s.heap H locs → lv_has ls 5 [(0, .ref (gA g 70)), (1, .int (II (i : Int))), (2, .int (II so)), (3, .int (II z)), (4, .int (II (j : Int)))] → W p l e (rmm 2 45) s m args below meth c H locs 0 0 QQ (F0 m 77 ls []) := by
                  intro f8
                  induction f8 with
                  | zero => intro j M2 hmu; exact absurd hmu (Nat.not_lt_zero _)
                  | succ f8 ih =>
                    intro j M2 hmu h1 hq hf H locs ls hw hS hl
                    have ih77 := ih
                    have g_M2 := hw.rg
                    refine lv_iload C.1 C.2.1 dX8_sheet_77 (lv_at hl 4 rfl) ?_
                    refine lv_iload_n C.1 C.2.1 dX8_sheet_79 rfl (lv_at hl 3 rfl) ?_
                    refine x_icmp_ge (tgt := 106) C ⟨by omega, by omega⟩ gz_z dX8_sheet_80 (by decide) (fun c80 => ?_) (fun c80 => ?_)
                    · refine lv_iconst (v := II 1) C.1 C.2.1 dX8_sheet_106 rfl ?_
                      subst hQQ; exact x_ireturn C hr hlk hw hS ⟨by decide, by decide⟩ rfl (by
    have e : okSh (i : Int) so z = true := decide_eq_true (by omega)
    have e2 : decide (so = -1 ∨ 0 ≤ z) = true := decide_eq_true (by omega)
    unfold r_sheet s_sheet
    rw [e, e2, if_pos rfl, if_pos (by omega)]
    refine ⟨rfl, hR.s2 hA (shmR hR.2.2.2.1 hA.sz (by show i < 4; omega) ?_ (fun m hm _ => hf m hm)) (fun m hm => hf m (fun y => hm (Or.inr (by omega)))), fun m hm => hf m (by omega)⟩
    rcases hq with ⟨q1, q2⟩ | ⟨q1, q2, q3, q4, q5⟩
    · exact Or.inl ⟨q1, q2⟩
    · refine Or.inr ⟨q1, q2, q3, ?_, fun x hx => q5 x ?_⟩
      · rw [if_neg q1]; exact q4
      · rw [if_neg q1] at hx; omega) dX8_sheet_107
                    · refine lv_iload_n C.1 C.2.1 dX8_sheet_83 rfl (lv_at hl 2 rfl) ?_
                      refine x_if_lt (tgt := 106) C gz_so dX8_sheet_84 (by decide) (fun c84 => ?_) (fun c84 => ?_)
                      · refine lv_iconst (v := II 1) C.1 C.2.1 dX8_sheet_106 rfl ?_
                        subst hQQ; exact x_ireturn C hr hlk hw hS ⟨by decide, by decide⟩ rfl (by
    have e : okSh (i : Int) so z = true := decide_eq_true (by omega)
    have e2 : decide (so = -1 ∨ 0 ≤ z) = true := decide_eq_true (by omega)
    unfold r_sheet s_sheet
    rw [e, e2, if_pos rfl, if_pos (by omega)]
    refine ⟨rfl, hR.s2 hA (shmR hR.2.2.2.1 hA.sz (by show i < 4; omega) ?_ (fun m hm _ => hf m hm)) (fun m hm => hf m (fun y => hm (Or.inr (by omega)))), fun m hm => hf m (by omega)⟩
    rcases hq with ⟨q1, q2⟩ | ⟨q1, q2, q3, q4, q5⟩
    · exact Or.inl ⟨q1, q2⟩
    · refine Or.inr ⟨q1, q2, q3, ?_, fun x hx => q5 x ?_⟩
      · rw [if_neg q1]; exact q4
      · rw [if_neg q1] at hx; omega) dX8_sheet_107
                      · refine lv_aload_n C.1 C.2.1 dX8_sheet_87 rfl (lv_at hl 0 rfl) ?_
                        refine g8 C hw 70 (by omega) rfl 41 (by decide) mw_865 (svr (hF.2 _)) dX8_sheet_88 ?_
                        refine lv_bipush (v := II 40) C.1 C.2.1 dX8_sheet_91 (by decide) ?_
                        refine lv_iload_n C.1 C.2.1 dX8_sheet_93 rfl (lv_at hl 1 rfl) ?_
                        refine x_imul C dX8_sheet_94 ?_
                        refine lv_iload C.1 C.2.1 dX8_sheet_95 (lv_at hl 4 rfl) ?_
                        refine x_iadd C dX8_sheet_97 ?_
                        refine lv_iconst (v := II 0) C.1 C.2.1 dX8_sheet_98 rfl ?_
                        refine x_iastore (L := 160) C hw hS 83 (by omega) rfl rfl (by omega) (by omega) (by decide) (x := 0) ⟨by decide, by decide⟩ dX8_sheet_99 (fun H locs hw hS => ?_)
                        have hw : Wo g (stM M2 (83000 + ((40 * i) + j)) 0) H := by rw [show 1000 * 83 + ((40 * (i : Int)) + (j : Int)).toNat = 83000 + ((40 * i) + j) from by omega] at hw; exact hw
                        refine lv_iinc (v := II ((j : Int) + 1)) (lv' := [(4, .int (II ((j : Int) + 1))), (0, .ref (gA g 70)), (1, .int (II (i : Int))), (2, .int (II so)), (3, .int (II z))]) C.1 C.2.1 dX8_sheet_100 hl (k := 4) rfl (II_add _ _) (by decide) rfl (fun ls hl => ?_)
                        refine lv_goto (tgt := 77) C.1 C.2.1 dX8_sheet_103 (by decide) ?_
                        exact ih77  (j + 1) (stM M2 (83000 + ((40 * i) + j)) 0) (by omega) (by omega) (by
      rcases hq with ⟨q1, q2⟩ | ⟨q1, q2, q3, q4, q5⟩
      · exfalso; omega
      · refine Or.inr ⟨q1, by rw [st_n (by omega)]; exact q2, by rw [st_n (by omega)]; exact q3, by rw [st_n (by omega)]; exact q4, fun x hx => ?_⟩
        by_cases e : x = j
        · rw [e, st_s]
        · rw [st_n (by omega)]; exact q5 x (by omega)) (fun m hm => by rw [st_n (by omega)]; exact hf m hm) _ _ _ hw hS (lv_sub hl [1, 2, 3, 4, 0] rfl)
                exact L77 _ 0 (stM (stM (stM M (80000 + i) 1) (81000 + i) so) (82000 + i) z) (Nat.lt_succ_self _) (by omega) (by
      by_cases hs1 : so = -1
      · first
        | (exfalso; omega)
        | exact Or.inl ⟨hs1, (st_n (by omega)).trans ((st_n (by omega)).trans st_s)⟩
      · first
        | (exfalso; omega)
        | exact Or.inr ⟨hs1, (st_n (by omega)).trans ((st_n (by omega)).trans st_s), (st_n (by omega)).trans st_s, st_s, fun _ h => absurd h (Nat.not_lt_zero _)⟩) (fun m hm => by rw [st_n (by omega), st_n (by omega), st_n (by omega)]) _ _ _ hw hS (lv_sub hl [1, 2, 3, 4, 0] rfl)
            · refine lv_bipush (v := II (-14)) C.1 C.2.1 dX8_sheet_42 (by decide) ?_
              subst hQQ; exact x_ireturn C hr hlk hw hS ⟨by decide, by decide⟩ rfl (by have e : okSh s0 so z = true := decide_eq_true (by omega); have e2 : decide (so = -1 ∨ 0 ≤ z) = false := decide_eq_false (by omega); unfold r_sheet s_sheet; rw [e, e2, if_pos rfl, if_neg (by omega)]; exact ⟨rfl, hR, fun _ _ => rfl⟩) dX8_sheet_44
        · refine lv_bipush (v := II (-2)) C.1 C.2.1 dX8_sheet_31 (by decide) ?_
          subst hQQ; exact x_ireturn C hr hlk hw hS ⟨by decide, by decide⟩ rfl (by have e : okSh s0 so z = false := decide_eq_false (fun y => by first | exact h1b y.1 | exact h15b (by omega) | omega); unfold r_sheet s_sheet; rw [e]; exact ⟨rfl, hR, fun _ _ => rfl⟩) dX8_sheet_33
    · have hw : Wo g M H := em15 ▸ hw
      rw [er15]
      refine x_if_eq (tgt := 31) C ⟨by decide, by decide⟩ dX8_sheet_18 (by decide) (fun _ => ?_) (fun h => absurd h (by decide))
      refine lv_bipush (v := II (-2)) C.1 C.2.1 dX8_sheet_31 (by decide) ?_
      subst hQQ; exact x_ireturn C hr hlk hw hS ⟨by decide, by decide⟩ rfl (by have e : okSh s0 so z = false := decide_eq_false (fun y => by first | exact h1b y.1 | exact h15b (by omega) | omega); unfold r_sheet s_sheet; rw [e]; exact ⟨rfl, hR, fun _ _ => rfl⟩) dX8_sheet_33
  · have hw : Wo g M H := em1 ▸ hw
    rw [er1]
    refine x_if_eq (tgt := 31) C ⟨by decide, by decide⟩ dX8_sheet_4 (by decide) (fun _ => ?_) (fun h => absurd h (by decide))
    refine lv_bipush (v := II (-2)) C.1 C.2.1 dX8_sheet_31 (by decide) ?_
    subst hQQ; exact x_ireturn C hr hlk hw hS ⟨by decide, by decide⟩ rfl (by have e : okSh s0 so z = false := decide_eq_false (fun y => by first | exact h1b y.1 | exact h15b (by omega) | omega); unfold r_sheet s_sheet; rw [e]; exact ⟨rfl, hR, fun _ _ => rfl⟩) dX8_sheet_33

set_option maxHeartbeats 4000000 in
set_option maxRecDepth 100000 in
theorem c_X8_cell (l : Launch) (g : Gm) (M : Nat → Int) (hF : LvF g) (n : Nat) (v : Nat → Nat → Int) (nt : Int) (pd : Int) (t : Nat) (X : Txt) (I : Option Bor) (Sh : Sht) (hR : RepM M (n, v, nt, pd, t) X I Sh) (hA : InvA (n, v, nt, pd, t) X I Sh) (s0 : Int) (gz_s0 : rg s0) (i0 : Int) (gz_i0 : rg i0) (x : Int) (gz_x : rg x) : CI l ({ cls := "RatedBySighsModel", name := "cell", desc := "(III)I" } : Jvm.MethodName) cX8_cell 4 .int (rmm 2 45) g M [.ref (gA g 70), .int (II s0), .int (II i0), .int (II x)] (fun r M' => r = r_cell Sh s0 i0 ∧ (RepM M' (n, v, nt, pd, t) X I (s_cell Sh s0 i0 x)) ∧ (∀ m, m < 70000 → M' m = M m)) := by
  refine c_start (by decide) (Nat.le_of_ble_eq_true rfl) (fun p e s m below meth c ls C hr hlk hml hw hS hl => ?_)
  have hl : lv_has ls 4 [(0, .ref (gA g 70)), (1, .int (II s0)), (2, .int (II i0)), (3, .int (II x))] := hl
  have g_M := hw.rg
  have hN : gN g = 84 := hF.1
  have hM : MB M n v nt t (X.2.1 t) (-1) := hR.mb hA
  have hn2 : n ≤ 8 := hM.1.2
  have hnt := hM.2.2.2.1.2
  have hpd : 0 ≤ pd ∧ pd ≤ 999999999 := hA.1.2.2.2.2.1
  have htc := hA.2.1
  have hts := hA.2.2.1.1
  have ht9 : t < X.1 := hA.1.2.2.2.2.2
  refine lv_iload_n C.1 C.2.1 dX8_cell_0 rfl (lv_at hl 1 rfl) ?_
  refine x_ci (x_runS (n := 1) C hw hS hml hl.1 (c_X8_isSheet l g M s0 gz_s0) mw_1301 mw_1302 mw_130 mw_1303 rfl rfl (by decide +kernel) ⟨Nat.le_of_ble_eq_true rfl, Nat.le_of_ble_eq_true rfl⟩ rfl rfl (Nat.le_of_ble_eq_true rfl) dX8_cell_1 ⟨Nat.zero_le _, Nat.zero_le _⟩) hS (fun r1 M1 H locs hr1 hp hw hS => ?_)
  rcases hp with ⟨em1, (⟨er1, h1b⟩ | ⟨er1, h1b⟩)⟩
  · have hw : Wo g M H := em1 ▸ hw
    rw [er1]
    refine x_if_ne (tgt := 10) C ⟨by decide, by decide⟩ dX8_cell_4 (by decide) (fun _ => ?_) (fun h => absurd h (by decide))
    have hs4 : 0 ≤ s0 ∧ s0 < 4 := h1b
    obtain ⟨i, rfl⟩ : ∃ i : Nat, s0 = (i : Int) := ⟨s0.toNat, by omega⟩
    have hszi := hA.2.2.2.2 i (by omega)
    refine lv_aload_n C.1 C.2.1 dX8_cell_10 rfl (lv_at hl 0 rfl) ?_
    rcases hR.2.2.2.1 i (by omega) with ⟨zs1, zs2⟩ | ⟨zs1, zs2, zs3, zs4, zs5⟩
    · refine g8 C hw 70 (by omega) rfl 38 (by decide) mw_862 (svr (hF.2 _)) dX8_cell_11 ?_
      refine lv_iload_n C.1 C.2.1 dX8_cell_14 rfl (lv_at hl 1 rfl) ?_
      refine x_baload (L := 4) C hw 80 (by omega) rfl rfl (by omega) (by omega) (by decide) (x := 0) zs2 dX8_cell_15 ?_
      refine x_if_ne (tgt := 22) C ⟨by decide, by decide⟩ dX8_cell_16 (by decide) (fun h => absurd h (by decide)) (fun _ => ?_)
      refine lv_bipush (v := II (-11)) C.1 C.2.1 dX8_cell_19 (by decide) ?_
      exact x_ireturn C hr hlk hw hS ⟨by decide, by decide⟩ rfl (by have e : r_cell Sh (i : Int) i0 = -11 := (by simp only [r_cell, Int.toNat_natCast]; rw [if_neg (by omega), if_pos zs1]); unfold s_cell; rw [e]; exact ⟨rfl, hR, fun _ _ => rfl⟩) dX8_cell_21
    · refine g8 C hw 70 (by omega) rfl 38 (by decide) mw_862 (svr (hF.2 _)) dX8_cell_11 ?_
      refine lv_iload_n C.1 C.2.1 dX8_cell_14 rfl (lv_at hl 1 rfl) ?_
      refine x_baload (L := 4) C hw 80 (by omega) rfl rfl (by omega) (by omega) (by decide) (x := 1) zs2 dX8_cell_15 ?_
      refine x_if_ne (tgt := 22) C ⟨by decide, by decide⟩ dX8_cell_16 (by decide) (fun _ => ?_) (fun h => absurd h (by decide))
      refine lv_iload_n C.1 C.2.1 dX8_cell_22 rfl (lv_at hl 2 rfl) ?_
      refine x_i2l C gz_i0 dX8_cell_23 ?_
      refine lv_lconst (v := LL 0) C.1 C.2.1 dX8_cell_24 (by decide) ?_
      refine lv_aload_n C.1 C.2.1 dX8_cell_25 rfl (lv_at hl 0 rfl) ?_
      refine g8 C hw 70 (by omega) rfl 40 (by decide) mw_864 (svr (hF.2 _)) dX8_cell_26 ?_
      refine lv_iload_n C.1 C.2.1 dX8_cell_29 rfl (lv_at hl 1 rfl) ?_
      refine x_iaload (L := 4) C hw 82 (by omega) rfl rfl (by omega) (by omega) (by decide) (x := Sh.2.1 i) zs4 dX8_cell_30 ?_
      refine lv_iconst (v := II 1) C.1 C.2.1 dX8_cell_31 rfl ?_
      refine x_isub C dX8_cell_32 ?_
      refine x_i2l C ⟨by have := g_M (82000 + i); have := zs4; omega, by have := g_M (82000 + i); have := zs4; omega⟩ dX8_cell_33 ?_
      refine x_ci (x_runS (n := 3) C hw hS hml hl.1 (c_X8_in l g M i0 gz_i0 0 ⟨by decide, by decide⟩ ((Sh.2.1 i) - 1) ⟨by omega, by omega⟩) mw_957 mw_958 mw_130 mw_959 rfl rfl (by decide +kernel) ⟨Nat.le_of_ble_eq_true rfl, Nat.le_of_ble_eq_true rfl⟩ rfl rfl (Nat.le_of_ble_eq_true rfl) dX8_cell_34 ⟨Nat.zero_le _, Nat.zero_le _⟩) hS (fun r34 M34 H locs hr34 hp hw hS => ?_)
      rcases hp with ⟨em34, (⟨er34, h34b⟩ | ⟨er34, h34b⟩)⟩
      · have hw : Wo g M H := em34 ▸ hw
        rw [er34]
        refine x_if_ne (tgt := 43) C ⟨by decide, by decide⟩ dX8_cell_37 (by decide) (fun _ => ?_) (fun h => absurd h (by decide))
        have hle9 : 0 ≤ i0 ∧ i0 ≤ Sh.2.1 i - 1 := h34b
        obtain ⟨j, rfl⟩ : ∃ i : Nat, i0 = (i : Int) := ⟨i0.toNat, by omega⟩
        refine lv_aload_n C.1 C.2.1 dX8_cell_43 rfl (lv_at hl 0 rfl) ?_
        refine g8 C hw 70 (by omega) rfl 41 (by decide) mw_865 (svr (hF.2 _)) dX8_cell_44 ?_
        refine lv_bipush (v := II 40) C.1 C.2.1 dX8_cell_47 (by decide) ?_
        refine lv_iload_n C.1 C.2.1 dX8_cell_49 rfl (lv_at hl 1 rfl) ?_
        refine x_imul C dX8_cell_50 ?_
        refine lv_iload_n C.1 C.2.1 dX8_cell_51 rfl (lv_at hl 2 rfl) ?_
        refine x_iadd C dX8_cell_52 ?_
        refine lv_aload_n C.1 C.2.1 dX8_cell_53 rfl (lv_at hl 0 rfl) ?_
        refine g8 C hw 70 (by omega) rfl 39 (by decide) mw_863 (svr (hF.2 _)) dX8_cell_54 ?_
        refine lv_iload_n C.1 C.2.1 dX8_cell_57 rfl (lv_at hl 1 rfl) ?_
        refine x_iaload (L := 4) C hw 81 (by omega) rfl rfl (by omega) (by omega) (by decide) (x := Sh.1 i) zs3 dX8_cell_58 ?_
        refine x_if_ne (tgt := 67) C ⟨by have := g_M (81000 + i); have := zs3; omega, by have := g_M (81000 + i); have := zs3; omega⟩ dX8_cell_59 (by decide) (fun c59 => ?_) (fun c59 => ?_)
        · refine lv_aload_n C.1 C.2.1 dX8_cell_67 rfl (lv_at hl 0 rfl) ?_
          refine g8 C hw 70 (by omega) rfl 39 (by decide) mw_863 (svr (hF.2 _)) dX8_cell_68 ?_
          refine lv_iload_n C.1 C.2.1 dX8_cell_71 rfl (lv_at hl 1 rfl) ?_
          refine x_iaload (L := 4) C hw 81 (by omega) rfl rfl (by omega) (by omega) (by decide) (x := Sh.1 i) zs3 dX8_cell_72 ?_
          refine lv_iconst (v := II 1) C.1 C.2.1 dX8_cell_73 rfl ?_
          refine x_icmp_ne (tgt := 82) C ⟨by have := g_M (81000 + i); have := zs3; omega, by have := g_M (81000 + i); have := zs3; omega⟩ ⟨by decide, by decide⟩ dX8_cell_74 (by decide) (fun c74 => ?_) (fun c74 => ?_)
          · refine lv_iload_n C.1 C.2.1 dX8_cell_82 rfl (lv_at hl 3 rfl) ?_
            refine x_iastore (L := 160) C hw hS 83 (by omega) rfl rfl (by omega) (by omega) (by decide) (x := x) gz_x dX8_cell_83 (fun H locs hw hS => ?_)
            have hw : Wo g (stM M (83000 + ((40 * i) + j)) x) H := by rw [show 1000 * 83 + ((40 * (i : Int)) + (j : Int)).toNat = 83000 + ((40 * i) + j) from by omega] at hw; exact hw
            refine lv_iconst (v := II 1) C.1 C.2.1 dX8_cell_84 rfl ?_
            exact x_ireturn C hr hlk hw hS ⟨by decide, by decide⟩ rfl (by
    have e : r_cell Sh (i : Int) (j : Int) = 1 := by simp only [r_cell, Int.toNat_natCast]; rw [if_neg (by omega), if_neg zs1, if_pos (by omega)]
    unfold s_cell
    rw [if_pos e, e]
    simp only [Int.toNat_natCast]
    refine ⟨trivial, hR.s2 hA ?_ (fun m hm => st_n (fun y => hm (Or.inr (by omega)))), fun m hm => st_n (by omega)⟩
    rw [← s_row_id]
    refine shmR hR.2.2.2.1 hA.sz (by show i < 4; omega) (Or.inr ⟨zs1, (st_n (by omega)).trans zs2, (st_n (by omega)).trans zs3, (st_n (by omega)).trans zs4, fun k hk => ?_⟩) (fun m hm _ => st_n (by omega))
    show stM M _ _ _ = up1 _ _ _ k
    unfold up1
    by_cases ek : k = j
    · rw [ek, st_s, if_pos rfl]; unfold putV; first | (rw [if_pos (by omega)]; done) | (rw [if_neg (by omega), if_pos (by omega)]; done) | (rw [if_neg (by omega), if_neg (by omega)]; done)
    · rw [st_n (by omega), if_neg ek]; exact zs5 k hk) dX8_cell_85
          · refine lv_iload_n C.1 C.2.1 dX8_cell_77 rfl (lv_at hl 3 rfl) ?_
            refine lv_i2s (v := II (w16 x)) C.1 C.2.1 dX8_cell_78 (II_self _).symm ?_
            refine lv_goto (tgt := 83) C.1 C.2.1 dX8_cell_79 (by decide) ?_
            refine x_iastore (L := 160) C hw hS 83 (by omega) rfl rfl (by omega) (by omega) (by decide) (x := w16 x) (rg_toInt _) dX8_cell_83 (fun H locs hw hS => ?_)
            have hw : Wo g (stM M (83000 + ((40 * i) + j)) (w16 x)) H := by rw [show 1000 * 83 + ((40 * (i : Int)) + (j : Int)).toNat = 83000 + ((40 * i) + j) from by omega] at hw; exact hw
            refine lv_iconst (v := II 1) C.1 C.2.1 dX8_cell_84 rfl ?_
            exact x_ireturn C hr hlk hw hS ⟨by decide, by decide⟩ rfl (by
    have e : r_cell Sh (i : Int) (j : Int) = 1 := by simp only [r_cell, Int.toNat_natCast]; rw [if_neg (by omega), if_neg zs1, if_pos (by omega)]
    unfold s_cell
    rw [if_pos e, e]
    simp only [Int.toNat_natCast]
    refine ⟨trivial, hR.s2 hA ?_ (fun m hm => st_n (fun y => hm (Or.inr (by omega)))), fun m hm => st_n (by omega)⟩
    rw [← s_row_id]
    refine shmR hR.2.2.2.1 hA.sz (by show i < 4; omega) (Or.inr ⟨zs1, (st_n (by omega)).trans zs2, (st_n (by omega)).trans zs3, (st_n (by omega)).trans zs4, fun k hk => ?_⟩) (fun m hm _ => st_n (by omega))
    show stM M _ _ _ = up1 _ _ _ k
    unfold up1
    by_cases ek : k = j
    · rw [ek, st_s, if_pos rfl]; unfold putV; first | (rw [if_pos (by omega)]; done) | (rw [if_neg (by omega), if_pos (by omega)]; done) | (rw [if_neg (by omega), if_neg (by omega)]; done)
    · rw [st_n (by omega), if_neg ek]; exact zs5 k hk) dX8_cell_85
        · refine lv_iload_n C.1 C.2.1 dX8_cell_62 rfl (lv_at hl 3 rfl) ?_
          refine lv_i2b (v := II (w8 x)) C.1 C.2.1 dX8_cell_63 (II_self _).symm ?_
          refine lv_goto (tgt := 83) C.1 C.2.1 dX8_cell_64 (by decide) ?_
          refine x_iastore (L := 160) C hw hS 83 (by omega) rfl rfl (by omega) (by omega) (by decide) (x := w8 x) (rg_toInt _) dX8_cell_83 (fun H locs hw hS => ?_)
          have hw : Wo g (stM M (83000 + ((40 * i) + j)) (w8 x)) H := by rw [show 1000 * 83 + ((40 * (i : Int)) + (j : Int)).toNat = 83000 + ((40 * i) + j) from by omega] at hw; exact hw
          refine lv_iconst (v := II 1) C.1 C.2.1 dX8_cell_84 rfl ?_
          exact x_ireturn C hr hlk hw hS ⟨by decide, by decide⟩ rfl (by
    have e : r_cell Sh (i : Int) (j : Int) = 1 := by simp only [r_cell, Int.toNat_natCast]; rw [if_neg (by omega), if_neg zs1, if_pos (by omega)]
    unfold s_cell
    rw [if_pos e, e]
    simp only [Int.toNat_natCast]
    refine ⟨trivial, hR.s2 hA ?_ (fun m hm => st_n (fun y => hm (Or.inr (by omega)))), fun m hm => st_n (by omega)⟩
    rw [← s_row_id]
    refine shmR hR.2.2.2.1 hA.sz (by show i < 4; omega) (Or.inr ⟨zs1, (st_n (by omega)).trans zs2, (st_n (by omega)).trans zs3, (st_n (by omega)).trans zs4, fun k hk => ?_⟩) (fun m hm _ => st_n (by omega))
    show stM M _ _ _ = up1 _ _ _ k
    unfold up1
    by_cases ek : k = j
    · rw [ek, st_s, if_pos rfl]; unfold putV; first | (rw [if_pos (by omega)]; done) | (rw [if_neg (by omega), if_pos (by omega)]; done) | (rw [if_neg (by omega), if_neg (by omega)]; done)
    · rw [st_n (by omega), if_neg ek]; exact zs5 k hk) dX8_cell_85
      · have hw : Wo g M H := em34 ▸ hw
        rw [er34]
        refine x_if_ne (tgt := 43) C ⟨by decide, by decide⟩ dX8_cell_37 (by decide) (fun h => absurd h (by decide)) (fun _ => ?_)
        refine lv_bipush (v := II (-12)) C.1 C.2.1 dX8_cell_40 (by decide) ?_
        exact x_ireturn C hr hlk hw hS ⟨by decide, by decide⟩ rfl (by have e : r_cell Sh (i : Int) i0 = -12 := (by simp only [r_cell, Int.toNat_natCast]; rw [if_neg (by omega), if_neg zs1, if_neg (fun y => h34b (by omega))]); unfold s_cell; rw [e]; exact ⟨rfl, hR, fun _ _ => rfl⟩) dX8_cell_42
  · have hw : Wo g M H := em1 ▸ hw
    rw [er1]
    refine x_if_ne (tgt := 10) C ⟨by decide, by decide⟩ dX8_cell_4 (by decide) (fun h => absurd h (by decide)) (fun _ => ?_)
    refine lv_bipush (v := II (-2)) C.1 C.2.1 dX8_cell_7 (by decide) ?_
    exact x_ireturn C hr hlk hw hS ⟨by decide, by decide⟩ rfl (by have e : r_cell Sh s0 i0 = -2 := (by simp only [r_cell, Int.toNat_natCast]; rw [if_pos h1b]); unfold s_cell; rw [e]; exact ⟨rfl, hR, fun _ _ => rfl⟩) dX8_cell_9

set_option maxHeartbeats 4000000 in
set_option maxRecDepth 100000 in
theorem c_X8_count (l : Launch) (g : Gm) (M : Nat → Int) (hF : LvF g) (n : Nat) (v : Nat → Nat → Int) (nt : Int) (pd : Int) (t : Nat) (X : Txt) (I : Option Bor) (Sh : Sht) (hR : RepM M (n, v, nt, pd, t) X I Sh) (hA : InvA (n, v, nt, pd, t) X I Sh) (w : Int) (gz_w : rg w) : CI l ({ cls := "RatedBySighsModel", name := "count", desc := "(I)I" } : Jvm.MethodName) cX8_count 4 .int (rmm 1 25) g M [.ref (gA g 70), .int (II w)] (fun r M' => r = r_count (n, v, nt, pd, t) X w ∧ (RepM M' (n, v, nt, pd, t) X I Sh) ∧ (∀ m, m < 70000 → M' m = M m)) := by
  refine c_start (by decide) (Nat.le_of_ble_eq_true rfl) (fun p e s m below meth c ls C hr hlk hml hw hS hl => ?_)
  have hl : lv_has ls 4 [(0, .ref (gA g 70)), (1, .int (II w))] := hl
  generalize ([.ref (gA g 70), .int (II w)] : List Value).toArray = args at C ⊢
  generalize hQQ : MQ below (postI g (fun r M' => r = r_count (n, v, nt, pd, t) X w ∧ (RepM M' (n, v, nt, pd, t) X I Sh) ∧ (∀ m, m < 70000 → M' m = M m))) args s 0 0 (ar g) = QQ
  have g_M := hw.rg
  have hN : gN g = 84 := hF.1
  have hM : MB M n v nt t (X.2.1 t) (-1) := hR.mb hA
  have hn2 : n ≤ 8 := hM.1.2
  have hnt := hM.2.2.2.1.2
  have hpd : 0 ≤ pd ∧ pd ≤ 999999999 := hA.1.2.2.2.2.1
  have htc := hA.2.1
  have hts := hA.2.2.1.1
  have ht9 : t < X.1 := hA.1.2.2.2.2.2
  refine lv_iload_n C.1 C.2.1 dX8_count_0 rfl (lv_at hl 1 rfl) ?_
  refine x_i2l C gz_w dX8_count_1 ?_
  refine lv_lconst (v := LL 0) C.1 C.2.1 dX8_count_2 (by decide) ?_
  refine lv_ldc2 C.1 C.2.1 C.2.2.1 (C.2.2.2.1 _ mw_978) dX8_count_3 ?_
  rw [show (6 : Int64) = LL 6 from by decide]
  refine x_ci (x_runS (n := 3) C hw hS hml hl.1 (c_X8_in l g M w gz_w 0 ⟨by decide, by decide⟩ 6 ⟨by decide, by decide⟩) mw_957 mw_958 mw_130 mw_959 rfl rfl (by decide +kernel) ⟨Nat.le_of_ble_eq_true rfl, Nat.le_of_ble_eq_true rfl⟩ rfl rfl (Nat.le_of_ble_eq_true rfl) dX8_count_6 ⟨Nat.zero_le _, Nat.zero_le _⟩) hS (fun r6 M6 H locs hr6 hp hw hS => ?_)
  rcases hp with ⟨em6, (⟨er6, h6b⟩ | ⟨er6, h6b⟩)⟩
  · have hw : Wo g M H := em6 ▸ hw
    rw [er6]
    refine x_if_ne (tgt := 15) C ⟨by decide, by decide⟩ dX8_count_9 (by decide) (fun _ => ?_) (fun h => absurd h (by decide))
    have hw6 : 0 ≤ w ∧ w ≤ 6 := h6b
    refine lv_iload_n C.1 C.2.1 dX8_count_15 rfl (lv_at hl 1 rfl) ?_
    refine lv_iconst (v := II 1) C.1 C.2.1 dX8_count_16 rfl ?_
    refine x_icmp_le (tgt := 73) C gz_w ⟨by decide, by decide⟩ dX8_count_17 (by decide) (fun c17 => ?_) (fun c17 => ?_)
    · refine lv_iconst (v := II 0) C.1 C.2.1 dX8_count_73 rfl ?_
      refine lv_istore_n (lv' := [(2, .int (II 0)), (0, .ref (gA g 70)), (1, .int (II w))]) C.1 C.2.1 dX8_count_74 rfl hl (by decide) rfl (fun ls hl => ?_)
      refine lv_iconst (v := II 0) C.1 C.2.1 dX8_count_75 rfl ?_
      refine lv_istore_n (lv' := [(3, .int (II 0)), (2, .int (II 0)), (0, .ref (gA g 70)), (1, .int (II w))]) C.1 C.2.1 dX8_count_76 rfl hl (by decide) rfl (fun ls hl => ?_)
      have L77 : ∀ (f1 : Nat) (j : Nat), (n - j) < f1 → (j ≤ n) → ∀ (H : Heap) (locs : List Loc) (ls : Array Slot), Wo g M H → va_S (ar g) s.heap H locs → lv_has ls 4 [(0, .ref (gA g 70)), (1, .int (II w)), (2, .int (II (cnt (fun q => decide (w = 0 ∨ v q 0 = 5)) j))), (3, .int (II (j : Int)))] → W p l e (rmm 1 25) s m args below meth c H locs 0 0 QQ (F0 m 77 ls []) := by
        intro f1
        induction f1 with
        | zero => intro j hmu; exact absurd hmu (Nat.not_lt_zero _)
        | succ f1 ih =>
          intro j hmu h1 H locs ls hw hS hl
          have ih77 := ih
          have hcj := cnt_in (fun q => decide (w = 0 ∨ v q 0 = 5)) j
          refine lv_iload_n C.1 C.2.1 dX8_count_77 rfl (lv_at hl 3 rfl) ?_
          refine lv_aload_n C.1 C.2.1 dX8_count_78 rfl (lv_at hl 0 rfl) ?_
          refine g8 C hw 70 (by omega) rfl 11 (by decide) mw_835 (svi (x := (n : Int)) hM.1.1) dX8_count_79 ?_
          refine x_icmp_ge (tgt := 113) C ⟨by omega, by omega⟩ ⟨by have := g_M 70011; have := hM.1.1; omega, by have := g_M 70011; have := hM.1.1; omega⟩ dX8_count_82 (by decide) (fun c82 => ?_) (fun c82 => ?_)
          · refine lv_iload_n C.1 C.2.1 dX8_count_113 rfl (lv_at hl 2 rfl) ?_
            subst hQQ; exact x_ireturn C hr hlk hw hS ⟨by omega, by omega⟩ rfl ⟨(by
    rw [show j = n by omega]
    unfold r_count
    by_cases e : w = 0
    · rw [if_pos e]
      have e2 : ∀ m : Nat, cnt (fun q => decide (w = 0 ∨ v q 0 = 5)) m = (m : Int) := fun m => by
        induction m with
        | zero => rfl
        | succ m ih => rw [cnt, ih, if_pos (decide_eq_true (Or.inl e))]; omega
      exact e2 n
    · rw [if_neg e, if_pos (by omega)]
      exact cnt_c (fun q _ => by by_cases e5 : v q 0 = 5 <;> simp [e, e5])), hR, (fun _ _ => rfl)⟩ dX8_count_114
          · refine lv_iload_n C.1 C.2.1 dX8_count_85 rfl (lv_at hl 2 rfl) ?_
            have J105 : ∀ (y : Int), (y = (if (fun q => decide (w = 0 ∨ v q 0 = 5)) j = true then 1 else 0)) → ∀ (H : Heap) (locs : List Loc) (ls : Array Slot), Wo g M H → va_S (ar g) s.heap H locs → lv_has ls 4 [(0, .ref (gA g 70)), (1, .int (II w)), (2, .int (II (cnt (fun q => decide (w = 0 ∨ v q 0 = 5)) j))), (3, .int (II (j : Int)))] → W p l e (rmm 1 25) s m args below meth c H locs 0 0 QQ (F0 m 105 ls [.int (II y), .int (II (cnt (fun q => decide (w = 0 ∨ v q 0 = 5)) j))]) := by
              intro y hy H locs ls hw hS hl
              have hy01 : y = 0 ∨ y = 1 := by rw [hy]; split <;> omega
              refine x_iadd C dX8_count_105 ?_
              refine lv_istore_n (lv' := [(2, .int (II ((cnt (fun q => decide (w = 0 ∨ v q 0 = 5)) j) + y))), (0, .ref (gA g 70)), (1, .int (II w)), (3, .int (II (j : Int)))]) C.1 C.2.1 dX8_count_106 rfl hl (by decide) rfl (fun ls hl => ?_)
              have ecn : cnt (fun q => decide (w = 0 ∨ v q 0 = 5)) j + y = cnt (fun q => decide (w = 0 ∨ v q 0 = 5)) (j + 1) := cnt2 rfl hy
              rw [ecn] at hl
              refine lv_iinc (v := II ((j : Int) + 1)) (lv' := [(3, .int (II ((j : Int) + 1))), (2, .int (II (cnt (fun q => decide (w = 0 ∨ v q 0 = 5)) (j + 1)))), (0, .ref (gA g 70)), (1, .int (II w))]) C.1 C.2.1 dX8_count_107 hl (k := 3) rfl (II_add _ _) (by decide) rfl (fun ls hl => ?_)
              refine lv_goto (tgt := 77) C.1 C.2.1 dX8_count_110 (by decide) ?_
              exact ih77  (j + 1) (by omega) (by omega) _ _ _ hw hS (lv_sub hl [2, 3, 1, 0] rfl)
            refine lv_iload_n C.1 C.2.1 dX8_count_86 rfl (lv_at hl 1 rfl) ?_
            refine x_if_eq (tgt := 100) C gz_w dX8_count_87 (by decide) (fun c87 => ?_) (fun c87 => ?_)
            · refine lv_iconst (v := II 1) C.1 C.2.1 dX8_count_100 rfl ?_
              refine lv_goto (tgt := 105) C.1 C.2.1 dX8_count_101 (by decide) ?_
              exact J105 1 (by first | (rw [if_pos (decide_eq_true (by omega))]; done) | (rw [if_neg (by simp only [decide_eq_true_eq]; omega)]; done)) _ _ _ hw hS (lv_sub hl [0, 1, 2, 3] rfl)
            · have hq0 := hM.2.2.1 j (by omega)
              refine lv_aload_n C.1 C.2.1 dX8_count_90 rfl (lv_at hl 0 rfl) ?_
              refine g8 C hw 70 (by omega) rfl 9 (by decide) mw_833 (svr (hF.2 _)) dX8_count_91 ?_
              refine lv_iload_n C.1 C.2.1 dX8_count_94 rfl (lv_at hl 3 rfl) ?_
              refine x_iaload (L := 8) C hw 74 (by omega) rfl rfl (by omega) (by omega) (by decide) (x := v j 0) ((hM.2.1.1 j (by omega) (by omega)).1) dX8_count_95 ?_
              refine lv_iconst (v := II 5) C.1 C.2.1 dX8_count_96 rfl ?_
              refine x_icmp_ne (tgt := 104) C ⟨by have := g_M (74000 + j); have := ((hM.2.1.1 j (by omega) (by omega)).1); omega, by have := g_M (74000 + j); have := ((hM.2.1.1 j (by omega) (by omega)).1); omega⟩ ⟨by decide, by decide⟩ dX8_count_97 (by decide) (fun c97 => ?_) (fun c97 => ?_)
              · refine lv_iconst (v := II 0) C.1 C.2.1 dX8_count_104 rfl ?_
                exact J105 0 (by first | (rw [if_pos (decide_eq_true (by omega))]; done) | (rw [if_neg (by simp only [decide_eq_true_eq]; omega)]; done)) _ _ _ hw hS (lv_sub hl [0, 1, 2, 3] rfl)
              · refine lv_iconst (v := II 1) C.1 C.2.1 dX8_count_100 rfl ?_
                refine lv_goto (tgt := 105) C.1 C.2.1 dX8_count_101 (by decide) ?_
                exact J105 1 (by first | (rw [if_pos (decide_eq_true (by omega))]; done) | (rw [if_neg (by simp only [decide_eq_true_eq]; omega)]; done)) _ _ _ hw hS (lv_sub hl [0, 1, 2, 3] rfl)
      exact L77 _ 0 (Nat.lt_succ_self _) (by omega) _ _ _ hw hS (lv_sub hl [2, 3, 1, 0] rfl)
    · refine lv_iload_n C.1 C.2.1 dX8_count_20 rfl (lv_at hl 1 rfl) ?_
      refine lv_iconst (v := II 2) C.1 C.2.1 dX8_count_21 rfl ?_
      refine x_icmp_ne (tgt := 32) C gz_w ⟨by decide, by decide⟩ dX8_count_22 (by decide) (fun c22 => ?_) (fun c22 => ?_)
      · refine lv_iload_n C.1 C.2.1 dX8_count_32 rfl (lv_at hl 1 rfl) ?_
        refine lv_iconst (v := II 3) C.1 C.2.1 dX8_count_33 rfl ?_
        refine x_icmp_ne (tgt := 44) C gz_w ⟨by decide, by decide⟩ dX8_count_34 (by decide) (fun c34 => ?_) (fun c34 => ?_)
        · refine lv_iload_n C.1 C.2.1 dX8_count_44 rfl (lv_at hl 1 rfl) ?_
          refine lv_iconst (v := II 4) C.1 C.2.1 dX8_count_45 rfl ?_
          refine x_icmp_ne (tgt := 56) C gz_w ⟨by decide, by decide⟩ dX8_count_46 (by decide) (fun c46 => ?_) (fun c46 => ?_)
          · refine lv_iload_n C.1 C.2.1 dX8_count_56 rfl (lv_at hl 1 rfl) ?_
            refine lv_iconst (v := II 5) C.1 C.2.1 dX8_count_57 rfl ?_
            refine x_icmp_ne (tgt := 68) C gz_w ⟨by decide, by decide⟩ dX8_count_58 (by decide) (fun c58 => ?_) (fun c58 => ?_)
            · refine lv_aload_n C.1 C.2.1 dX8_count_68 rfl (lv_at hl 0 rfl) ?_
              refine g8 C hw 70 (by omega) rfl 4 (by decide) mw_828 (svi (x := (t : Int)) hM.2.2.2.2.1.1) dX8_count_69 ?_
              subst hQQ; exact x_ireturn C hr hlk hw hS ⟨by have := g_M 70004; have := hM.2.2.2.2.1.1; omega, by have := g_M 70004; have := hM.2.2.2.2.1.1; omega⟩ rfl ⟨(by unfold r_count; (repeat' split) <;> first | rfl | omega), hR, (fun _ _ => rfl)⟩ dX8_count_72
            · refine lv_aload_n C.1 C.2.1 dX8_count_61 rfl (lv_at hl 0 rfl) ?_
              refine g8 C hw 70 (by omega) rfl 6 (by decide) mw_830 (svi (x := (X.2.2.1 : Int)) hR.2.1.2.2.1) dX8_count_62 ?_
              refine lv_goto (tgt := 72) C.1 C.2.1 dX8_count_65 (by decide) ?_
              subst hQQ; exact x_ireturn C hr hlk hw hS ⟨by have := g_M 70006; have := hR.2.1.2.2.1; omega, by have := g_M 70006; have := hR.2.1.2.2.1; omega⟩ rfl ⟨(by unfold r_count; (repeat' split) <;> first | rfl | omega), hR, (fun _ _ => rfl)⟩ dX8_count_72
          · refine lv_aload_n C.1 C.2.1 dX8_count_49 rfl (lv_at hl 0 rfl) ?_
            refine g8 C hw 70 (by omega) rfl 3 (by decide) mw_827 (svi (x := (X.1 : Int)) hR.2.1.1) dX8_count_50 ?_
            refine lv_goto (tgt := 72) C.1 C.2.1 dX8_count_53 (by decide) ?_
            subst hQQ; exact x_ireturn C hr hlk hw hS ⟨by have := g_M 70003; have := hR.2.1.1; omega, by have := g_M 70003; have := hR.2.1.1; omega⟩ rfl ⟨(by unfold r_count; (repeat' split) <;> first | rfl | omega), hR, (fun _ _ => rfl)⟩ dX8_count_72
        · refine lv_aload_n C.1 C.2.1 dX8_count_37 rfl (lv_at hl 0 rfl) ?_
          refine g8 C hw 70 (by omega) rfl 8 (by decide) mw_832 (svi (x := pd) hR.1.1.2.2.1) dX8_count_38 ?_
          refine lv_goto (tgt := 72) C.1 C.2.1 dX8_count_41 (by decide) ?_
          subst hQQ; exact x_ireturn C hr hlk hw hS ⟨by have := g_M 70008; have := hR.1.1.2.2.1; omega, by have := g_M 70008; have := hR.1.1.2.2.1; omega⟩ rfl ⟨(by unfold r_count; (repeat' split) <;> first | rfl | omega), hR, (fun _ _ => rfl)⟩ dX8_count_72
      · refine lv_aload_n C.1 C.2.1 dX8_count_25 rfl (lv_at hl 0 rfl) ?_
        refine g8 C hw 70 (by omega) rfl 7 (by decide) mw_831 (svi (x := nt) hM.2.2.2.1.1) dX8_count_26 ?_
        refine lv_goto (tgt := 72) C.1 C.2.1 dX8_count_29 (by decide) ?_
        subst hQQ; exact x_ireturn C hr hlk hw hS ⟨by have := g_M 70007; have := hM.2.2.2.1.1; omega, by have := g_M 70007; have := hM.2.2.2.1.1; omega⟩ rfl ⟨(by unfold r_count; (repeat' split) <;> first | rfl | omega), hR, (fun _ _ => rfl)⟩ dX8_count_72
  · have hw : Wo g M H := em6 ▸ hw
    rw [er6]
    refine x_if_ne (tgt := 15) C ⟨by decide, by decide⟩ dX8_count_9 (by decide) (fun h => absurd h (by decide)) (fun _ => ?_)
    have hw6 : ¬ (0 ≤ w ∧ w ≤ 6) := h6b
    refine lv_bipush (v := II (-2)) C.1 C.2.1 dX8_count_12 (by decide) ?_
    subst hQQ; exact x_ireturn C hr hlk hw hS ⟨by decide, by decide⟩ rfl ⟨(by unfold r_count; (repeat' split) <;> first | rfl | omega), hR, (fun _ _ => rfl)⟩ dX8_count_14

set_option maxHeartbeats 4000000 in
set_option maxRecDepth 100000 in
theorem c_X8_over (l : Launch) (g : Gm) (M : Nat → Int) (a : Int) (ga : 0 ≤ a ∧ a ≤ 5) : CI l ({ cls := "RatedBySighsModel", name := "over", desc := "(I)I" } : Jvm.MethodName) cX8_over 1 .int (rmm 0 0) g M [.int (II a)] (fun r M' => M' = M ∧ r = (if a = 0 then -1 else if a = 3 then 1 else if a = 4 then 2 else 0)) := by
  refine c_start (by decide) (Nat.le_of_ble_eq_true rfl) (fun p e s m below meth c ls C hr hlk hml hw hS hl => ?_)
  have hl : lv_has ls 1 [(0, .int (II a))] := hl
  have g_M := hw.rg
  refine lv_iload_n C.1 C.2.1 dX8_over_0 rfl (lv_at hl 0 rfl) ?_
  refine x_if_ne (tgt := 8) C ⟨by omega, by omega⟩ dX8_over_1 (by decide) (fun c1 => ?_) (fun c1 => ?_)
  · refine lv_iload_n C.1 C.2.1 dX8_over_8 rfl (lv_at hl 0 rfl) ?_
    refine lv_iconst (v := II 3) C.1 C.2.1 dX8_over_9 rfl ?_
    refine x_icmp_ne (tgt := 17) C ⟨by omega, by omega⟩ ⟨by decide, by decide⟩ dX8_over_10 (by decide) (fun c10 => ?_) (fun c10 => ?_)
    · refine lv_iload_n C.1 C.2.1 dX8_over_17 rfl (lv_at hl 0 rfl) ?_
      refine lv_iconst (v := II 4) C.1 C.2.1 dX8_over_18 rfl ?_
      refine x_icmp_ne (tgt := 26) C ⟨by omega, by omega⟩ ⟨by decide, by decide⟩ dX8_over_19 (by decide) (fun c19 => ?_) (fun c19 => ?_)
      · refine lv_iconst (v := II 0) C.1 C.2.1 dX8_over_26 rfl ?_
        exact x_ireturn C hr hlk hw hS ⟨by decide, by decide⟩ rfl ⟨rfl, by (repeat' split) <;> omega⟩ dX8_over_27
      · refine lv_iconst (v := II 2) C.1 C.2.1 dX8_over_22 rfl ?_
        refine lv_goto (tgt := 27) C.1 C.2.1 dX8_over_23 (by decide) ?_
        exact x_ireturn C hr hlk hw hS ⟨by decide, by decide⟩ rfl ⟨rfl, by (repeat' split) <;> omega⟩ dX8_over_27
    · refine lv_iconst (v := II 1) C.1 C.2.1 dX8_over_13 rfl ?_
      refine lv_goto (tgt := 27) C.1 C.2.1 dX8_over_14 (by decide) ?_
      exact x_ireturn C hr hlk hw hS ⟨by decide, by decide⟩ rfl ⟨rfl, by (repeat' split) <;> omega⟩ dX8_over_27
  · refine lv_iconst (v := II (-1)) C.1 C.2.1 dX8_over_4 rfl ?_
    refine lv_goto (tgt := 27) C.1 C.2.1 dX8_over_5 (by decide) ?_
    exact x_ireturn C hr hlk hw hS ⟨by decide, by decide⟩ rfl ⟨rfl, by (repeat' split) <;> omega⟩ dX8_over_27

set_option maxHeartbeats 4000000 in
set_option maxRecDepth 100000 in
theorem c_X8_taken (l : Launch) (g : Gm) (M : Nat → Int) (hF : LvF g) (n : Nat) (v : Nat → Nat → Int) (nt : Int) (pd : Int) (t : Nat) (X : Txt) (I : Option Bor) (Sh : Sht) (hR : RepM M (n, v, nt, pd, t) X I Sh) (hA : InvA (n, v, nt, pd, t) X I Sh) (q : Int) (gz_q : rg q) (k : Int) (gz_k : rg k) : CI l ({ cls := "RatedBySighsModel", name := "taken", desc := "(II)I" } : Jvm.MethodName) cX8_taken 4 .int (rmm 2 46) g M [.ref (gA g 70), .int (II q), .int (II k)] (fun r M' => r = r_taken v n q k ∧ (RepM M' (n, v, nt, pd, t) X I Sh) ∧ (∀ m, m < 70000 → M' m = M m)) := by
  refine c_start (by decide) (Nat.le_of_ble_eq_true rfl) (fun p e s m below meth c ls C hr hlk hml hw hS hl => ?_)
  have hl : lv_has ls 4 [(0, .ref (gA g 70)), (1, .int (II q)), (2, .int (II k))] := hl
  generalize ([.ref (gA g 70), .int (II q), .int (II k)] : List Value).toArray = args at C ⊢
  generalize hQQ : MQ below (postI g (fun r M' => r = r_taken v n q k ∧ (RepM M' (n, v, nt, pd, t) X I Sh) ∧ (∀ m, m < 70000 → M' m = M m))) args s 0 0 (ar g) = QQ
  have g_M := hw.rg
  have hN : gN g = 84 := hF.1
  have hM : MB M n v nt t (X.2.1 t) (-1) := hR.mb hA
  have hn2 : n ≤ 8 := hM.1.2
  have hnt := hM.2.2.2.1.2
  have hpd : 0 ≤ pd ∧ pd ≤ 999999999 := hA.1.2.2.2.2.1
  have htc := hA.2.1
  have hts := hA.2.2.1.1
  have ht9 : t < X.1 := hA.1.2.2.2.2.2
  refine lv_iload_n C.1 C.2.1 dX8_taken_0 rfl (lv_at hl 2 rfl) ?_
  refine x_i2l C gz_k dX8_taken_1 ?_
  refine lv_lconst (v := LL 0) C.1 C.2.1 dX8_taken_2 (by decide) ?_
  refine lv_ldc2 C.1 C.2.1 C.2.2.1 (C.2.2.2.1 _ mw_1208) dX8_taken_3 ?_
  rw [show (5 : Int64) = LL 5 from by decide]
  refine x_ci (x_runS (n := 3) C hw hS hml hl.1 (c_X8_in l g M k gz_k 0 ⟨by decide, by decide⟩ 5 ⟨by decide, by decide⟩) mw_957 mw_958 mw_130 mw_959 rfl rfl (by decide +kernel) ⟨Nat.le_of_ble_eq_true rfl, Nat.le_of_ble_eq_true rfl⟩ rfl rfl (Nat.le_of_ble_eq_true rfl) dX8_taken_6 ⟨Nat.zero_le _, Nat.zero_le _⟩) hS (fun r6 M6 H locs hr6 hp hw hS => ?_)
  rcases hp with ⟨em6, (⟨er6, h6b⟩ | ⟨er6, h6b⟩)⟩
  · have hw : Wo g M H := em6 ▸ hw
    rw [er6]
    refine x_if_ne (tgt := 15) C ⟨by decide, by decide⟩ dX8_taken_9 (by decide) (fun _ => ?_) (fun h => absurd h (by decide))
    have hk5 : 0 ≤ k ∧ k ≤ 5 := h6b
    refine lv_aload_n C.1 C.2.1 dX8_taken_15 rfl (lv_at hl 0 rfl) ?_
    refine lv_iload_n C.1 C.2.1 dX8_taken_16 rfl (lv_at hl 1 rfl) ?_
    refine x_ci (x_runV (n := 1) C hw hS hml hl.1 70 8 (by omega) rfl (by decide) rfl (c_X8_isOne l g M hF n hM.1 q gz_q) mw_960 mw_962 mw_53 mw_130 mw_963 rfl rfl (by decide +kernel) ⟨Nat.le_of_ble_eq_true rfl, Nat.le_of_ble_eq_true rfl⟩ rfl rfl (Nat.le_of_ble_eq_true rfl) dX8_taken_17 ⟨Nat.zero_le _, Nat.zero_le _⟩) hS (fun r17 M17 H locs hr17 hp hw hS => ?_)
    rcases hp with ⟨em17, (⟨er17, h17b⟩ | ⟨er17, h17b⟩)⟩
    · have hw : Wo g M H := em17 ▸ hw
      rw [er17]
      refine x_if_ne (tgt := 26) C ⟨by decide, by decide⟩ dX8_taken_20 (by decide) (fun _ => ?_) (fun h => absurd h (by decide))
      have hqn : 0 ≤ q ∧ q < n := h17b
      obtain ⟨i, rfl⟩ : ∃ i : Nat, q = (i : Int) := ⟨q.toNat, by omega⟩
      have hq0 := hM.2.2.1 i (by omega)
      refine lv_aload_n C.1 C.2.1 dX8_taken_26 rfl (lv_at hl 0 rfl) ?_
      refine g8 C hw 70 (by omega) rfl 9 (by decide) mw_833 (svr (hF.2 _)) dX8_taken_27 ?_
      refine lv_iload_n C.1 C.2.1 dX8_taken_30 rfl (lv_at hl 1 rfl) ?_
      refine x_iaload (L := 8) C hw 74 (by omega) rfl rfl (by omega) (by omega) (by decide) (x := v i 0) ((hM.2.1.1 i (by omega) (by omega)).1) dX8_taken_31 ?_
      refine lv_istore_n (lv' := [(3, .int (II (v i 0))), (0, .ref (gA g 70)), (1, .int (II (i : Int))), (2, .int (II k))]) C.1 C.2.1 dX8_taken_32 rfl hl (by decide) rfl (fun ls hl => ?_)
      have L33 : ∀ (f1 : Nat) (a : Int), (if a = -1 then 0 else if a = 0 then 1 else if a = 1 ∨ a = 2 ∨ a = 5 then 2 else 3) < f1 → (-1 ≤ a ∧ a ≤ 5) → ((v i 0 = k ∨ k = 0 ∨ (v i 0 = 3 ∧ k = 1) ∨ (v i 0 = 4 ∧ k = 2)) ↔ (a = k ∨ (a ≠ -1 ∧ (k = 0 ∨ (a = 3 ∧ k = 1) ∨ (a = 4 ∧ k = 2))))) → ∀ (H : Heap) (locs : List Loc) (ls : Array Slot), Wo g M H → va_S (ar g) s.heap H locs → lv_has ls 4 [(0, .ref (gA g 70)), (1, .int (II (i : Int))), (2, .int (II k)), (3, .int (II a))] → W p l e (rmm 2 46) s m args below meth c H locs 0 0 QQ (F0 m 33 ls []) := by
        intro f1
        induction f1 with
        | zero => intro a hmu; exact absurd hmu (Nat.not_lt_zero _)
        | succ f1 ih =>
          intro a hmu h1 h2 H locs ls hw hS hl
          have ih33 := ih
          refine lv_iload_n C.1 C.2.1 dX8_taken_33 rfl (lv_at hl 3 rfl) ?_
          refine lv_iconst (v := II (-1)) C.1 C.2.1 dX8_taken_34 rfl ?_
          refine x_icmp_eq (tgt := 51) C ⟨by omega, by omega⟩ ⟨by decide, by decide⟩ dX8_taken_35 (by decide) (fun c35 => ?_) (fun c35 => ?_)
          · refine lv_iload_n C.1 C.2.1 dX8_taken_51 rfl (lv_at hl 3 rfl) ?_
            refine lv_iload_n C.1 C.2.1 dX8_taken_52 rfl (lv_at hl 2 rfl) ?_
            refine x_icmp_ne (tgt := 67) C ⟨by omega, by omega⟩ gz_k dX8_taken_53 (by decide) (fun c53 => ?_) (fun c53 => ?_)
            · refine lv_bipush (v := II (-13)) C.1 C.2.1 dX8_taken_67 (by decide) ?_
              subst hQQ; exact x_ireturn C hr hlk hw hS ⟨by decide, by decide⟩ rfl ⟨(by rw [r_taken, if_neg (fun z => z hk5), if_neg (fun z => z (by omega))]; show _ = (if (v i 0 = k ∨ k = 0 ∨ (v i 0 = 3 ∧ k = 1) ∨ (v i 0 = 4 ∧ k = 2)) then v i 1 else -13); first | (rw [if_pos (by omega)]; done) | (rw [if_neg (by omega)]; done)), hR, (fun _ _ => rfl)⟩ dX8_taken_69
            · refine lv_aload_n C.1 C.2.1 dX8_taken_56 rfl (lv_at hl 0 rfl) ?_
              refine g8 C hw 70 (by omega) rfl 10 (by decide) mw_834 (svr (hF.2 _)) dX8_taken_57 ?_
              refine lv_iconst (v := II 4) C.1 C.2.1 dX8_taken_60 rfl ?_
              refine lv_iload_n C.1 C.2.1 dX8_taken_61 rfl (lv_at hl 1 rfl) ?_
              refine x_imul C dX8_taken_62 ?_
              refine x_iaload (L := 32) C hw 75 (by omega) rfl rfl (by omega) (by omega) (by decide) (x := v i 1) ((congrArg (fun z => M (1000 * 75 + z)) (by omega)).trans ((hM.2.1.1 i (by omega) (by omega)).2.1)) dX8_taken_63 ?_
              refine lv_goto (tgt := 69) C.1 C.2.1 dX8_taken_64 (by decide) ?_
              subst hQQ; exact x_ireturn C hr hlk hw hS ⟨by have := g_M (75000 + (4 * i)); have := ((hM.2.1.1 i (by omega) (by omega)).2.1); omega, by have := g_M (75000 + (4 * i)); have := ((hM.2.1.1 i (by omega) (by omega)).2.1); omega⟩ rfl ⟨(by rw [r_taken, if_neg (fun z => z hk5), if_neg (fun z => z (by omega))]; show _ = (if (v i 0 = k ∨ k = 0 ∨ (v i 0 = 3 ∧ k = 1) ∨ (v i 0 = 4 ∧ k = 2)) then v i 1 else -13); first | (rw [if_pos (by omega)]; done) | (rw [if_neg (by omega)]; done)), hR, (fun _ _ => rfl)⟩ dX8_taken_69
          · refine lv_iload_n C.1 C.2.1 dX8_taken_38 rfl (lv_at hl 3 rfl) ?_
            refine lv_iload_n C.1 C.2.1 dX8_taken_39 rfl (lv_at hl 2 rfl) ?_
            refine x_icmp_eq (tgt := 51) C ⟨by omega, by omega⟩ gz_k dX8_taken_40 (by decide) (fun c40 => ?_) (fun c40 => ?_)
            · refine lv_iload_n C.1 C.2.1 dX8_taken_51 rfl (lv_at hl 3 rfl) ?_
              refine lv_iload_n C.1 C.2.1 dX8_taken_52 rfl (lv_at hl 2 rfl) ?_
              refine x_icmp_ne (tgt := 67) C ⟨by omega, by omega⟩ gz_k dX8_taken_53 (by decide) (fun c53 => ?_) (fun c53 => ?_)
              · refine lv_bipush (v := II (-13)) C.1 C.2.1 dX8_taken_67 (by decide) ?_
                subst hQQ; exact x_ireturn C hr hlk hw hS ⟨by decide, by decide⟩ rfl ⟨(by rw [r_taken, if_neg (fun z => z hk5), if_neg (fun z => z (by omega))]; show _ = (if (v i 0 = k ∨ k = 0 ∨ (v i 0 = 3 ∧ k = 1) ∨ (v i 0 = 4 ∧ k = 2)) then v i 1 else -13); first | (rw [if_pos (by omega)]; done) | (rw [if_neg (by omega)]; done)), hR, (fun _ _ => rfl)⟩ dX8_taken_69
              · refine lv_aload_n C.1 C.2.1 dX8_taken_56 rfl (lv_at hl 0 rfl) ?_
                refine g8 C hw 70 (by omega) rfl 10 (by decide) mw_834 (svr (hF.2 _)) dX8_taken_57 ?_
                refine lv_iconst (v := II 4) C.1 C.2.1 dX8_taken_60 rfl ?_
                refine lv_iload_n C.1 C.2.1 dX8_taken_61 rfl (lv_at hl 1 rfl) ?_
                refine x_imul C dX8_taken_62 ?_
                refine x_iaload (L := 32) C hw 75 (by omega) rfl rfl (by omega) (by omega) (by decide) (x := v i 1) ((congrArg (fun z => M (1000 * 75 + z)) (by omega)).trans ((hM.2.1.1 i (by omega) (by omega)).2.1)) dX8_taken_63 ?_
                refine lv_goto (tgt := 69) C.1 C.2.1 dX8_taken_64 (by decide) ?_
                subst hQQ; exact x_ireturn C hr hlk hw hS ⟨by have := g_M (75000 + (4 * i)); have := ((hM.2.1.1 i (by omega) (by omega)).2.1); omega, by have := g_M (75000 + (4 * i)); have := ((hM.2.1.1 i (by omega) (by omega)).2.1); omega⟩ rfl ⟨(by rw [r_taken, if_neg (fun z => z hk5), if_neg (fun z => z (by omega))]; show _ = (if (v i 0 = k ∨ k = 0 ∨ (v i 0 = 3 ∧ k = 1) ∨ (v i 0 = 4 ∧ k = 2)) then v i 1 else -13); first | (rw [if_pos (by omega)]; done) | (rw [if_neg (by omega)]; done)), hR, (fun _ _ => rfl)⟩ dX8_taken_69
            · refine lv_iload_n C.1 C.2.1 dX8_taken_43 rfl (lv_at hl 3 rfl) ?_
              refine x_ci (x_runS (n := 1) C hw hS hml hl.1 (c_X8_over l g M a (by first | assumption | omega | exact ⟨by omega, by omega⟩ | decide)) mw_1364 mw_1365 mw_130 mw_1366 rfl rfl (by decide +kernel) ⟨Nat.le_of_ble_eq_true rfl, Nat.le_of_ble_eq_true rfl⟩ rfl rfl (Nat.le_of_ble_eq_true rfl) dX8_taken_44 ⟨Nat.zero_le _, Nat.zero_le _⟩) hS (fun r44 M44 H locs hr44 hp hw hS => ?_)
              obtain ⟨em44, er44⟩ := hp
              have hw : Wo g M H := em44 ▸ hw
              rw [er44] at hr44 ⊢
              refine lv_istore_n (lv' := [(3, .int (II (if a = 0 then -1 else if a = 3 then 1 else if a = 4 then 2 else 0))), (0, .ref (gA g 70)), (1, .int (II (i : Int))), (2, .int (II k))]) C.1 C.2.1 dX8_taken_47 rfl hl (by decide) rfl (fun ls hl => ?_)
              have ho9 : (if a = 0 then -1 else if a = 3 then 1 else if a = 4 then 2 else 0) ≤ 5 ∧ -1 ≤ (if a = 0 then -1 else if a = 3 then 1 else if a = 4 then 2 else 0) := by (repeat' split) <;> omega
              refine lv_goto (tgt := 33) C.1 C.2.1 dX8_taken_48 (by decide) ?_
              exact ih33  (if a = 0 then -1 else if a = 3 then 1 else if a = 4 then 2 else 0) (by have : a = 0 ∨ a = 1 ∨ a = 2 ∨ a = 3 ∨ a = 4 ∨ a = 5 := (by omega); rcases this with rfl | rfl | rfl | rfl | rfl | rfl <;> simp at hmu ⊢ <;> omega) (by omega) (by rw [h2]; (repeat' split) <;> (constructor <;> intro z <;> omega)) _ _ _ hw hS (lv_sub hl [1, 2, 3, 0] rfl)
      exact L33 _ (v i 0) (Nat.lt_succ_self _) (by omega) (by constructor <;> intro z <;> omega) _ _ _ hw hS (lv_sub hl [1, 2, 3, 0] rfl)
    · have hw : Wo g M H := em17 ▸ hw
      rw [er17]
      refine x_if_ne (tgt := 26) C ⟨by decide, by decide⟩ dX8_taken_20 (by decide) (fun h => absurd h (by decide)) (fun _ => ?_)
      refine lv_bipush (v := II (-11)) C.1 C.2.1 dX8_taken_23 (by decide) ?_
      subst hQQ; exact x_ireturn C hr hlk hw hS ⟨by decide, by decide⟩ rfl ⟨(by rw [r_taken, if_neg (fun z => z h6b), if_pos h17b]), hR, (fun _ _ => rfl)⟩ dX8_taken_25
  · have hw : Wo g M H := em6 ▸ hw
    rw [er6]
    refine x_if_ne (tgt := 15) C ⟨by decide, by decide⟩ dX8_taken_9 (by decide) (fun h => absurd h (by decide)) (fun _ => ?_)
    refine lv_bipush (v := II (-2)) C.1 C.2.1 dX8_taken_12 (by decide) ?_
    subst hQQ; exact x_ireturn C hr hlk hw hS ⟨by decide, by decide⟩ rfl ⟨(by rw [r_taken]; exact (if_pos h6b).symm), hR, (fun _ _ => rfl)⟩ dX8_taken_14
