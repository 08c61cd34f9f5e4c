set_option maxHeartbeats 4000000 in
set_option maxRecDepth 100000 in
theorem c_X7_tells (l : Launch) (g : Gm) (M : Nat → Int) (hF : LvF g) (n : Nat) (v : Nat → Nat → Int) (nt : Int) (pd : Int) (t : Nat) (X : Txt) (I : Option Bor) (Sh : Sht) (hR : RepC M (n, v, nt, pd, t) X I Sh) (hA : InvA (n, v, nt, pd, t) X I Sh) (s0 : Int) (gz_s0 : rg s0) (ho : Int) (gz_ho : rg ho) (q : Int) (gz_q : rg q) (w : Int) (gz_w : rg w) : CI l ({ cls := "RatedBySighs", name := "tells", desc := "(IIII)I" } : Jvm.MethodName) cX7_tells 6 .int (rmm 7 176) g M [.ref (gA g 0), .int (II s0), .int (II ho), .int (II q), .int (II w)] (fun r M' => r = r_tells v n nt t X Sh s0 ho q w ∧ (RepC M' (n, v, nt, pd, t) X I Sh) ∧ (∀ m, 70000 ≤ m → M' m = M m)) := by
  refine c_start (by decide) (Nat.le_of_ble_eq_true rfl) (fun p e s m below meth c ls C hr hlk hml hw hS hl => ?_)
  have hl : lv_has ls 6 [(0, .ref (gA g 0)), (1, .int (II s0)), (2, .int (II ho)), (3, .int (II q)), (4, .int (II w))] := hl
  generalize ([.ref (gA g 0), .int (II s0), .int (II ho), .int (II q), .int (II w)] : List Value).toArray = args at C ⊢
  generalize hQQ : MQ below (postI g (fun r M' => r = r_tells v n nt t X Sh s0 ho q w ∧ (RepC M' (n, v, nt, pd, t) X I Sh) ∧ (∀ m, 70000 ≤ m → M' m = M m))) args s 0 0 (ar g) = QQ
  have g_M := hw.rg
  have hN : gN g = 84 := hF.1
  have hB : BV M n v nt t (X.2.1 t) := hR.bv hA
  have hn2 : n ≤ 8 := hB.1.2
  have hnt := hB.2.2.2.1.2
  have hpd : 0 ≤ pd ∧ pd ≤ 999999999 := hA.1.2.2.2.2.1
  refine lv_iload_n C.1 C.2.1 dX7_tells_0 rfl (lv_at hl 1 rfl) ?_
  refine x_ci (x_runS (n := 1) C hw hS hml hl.1 (c_X7_isSheet l g M s0 gz_s0) mw_697 mw_698 mw_117 mw_699 rfl rfl (by decide +kernel) ⟨Nat.le_of_ble_eq_true rfl, Nat.le_of_ble_eq_true rfl⟩ rfl rfl (Nat.le_of_ble_eq_true rfl) dX7_tells_1 ⟨Nat.zero_le _, Nat.zero_le _⟩) hS (fun r1 M1 H locs hr1 hp hw hS => ?_)
  rcases hp with ⟨em1, (⟨er1, h1b⟩ | ⟨er1, h1b⟩)⟩
  · have hw : Wo g M H := em1 ▸ hw
    rw [er1]
    refine x_if_eq (tgt := 44) C ⟨by decide, by decide⟩ dX7_tells_4 (by decide) (fun h => absurd h (by decide)) (fun _ => ?_)
    refine lv_iconst (v := II 2) C.1 C.2.1 dX7_tells_7 rfl ?_
    refine lv_iload_n C.1 C.2.1 dX7_tells_8 rfl (lv_at hl 2 rfl) ?_
    refine x_ci (x_runS (n := 2) C hw hS hml hl.1 (c_X7_mayBe l g M 2 (by first | assumption | omega | exact ⟨by omega, by omega⟩ | decide) ho gz_ho) mw_513 mw_514 mw_117 mw_515 rfl rfl (by decide +kernel) ⟨Nat.le_of_ble_eq_true rfl, Nat.le_of_ble_eq_true rfl⟩ rfl rfl (Nat.le_of_ble_eq_true rfl) dX7_tells_9 ⟨Nat.zero_le _, Nat.zero_le _⟩) hS (fun r9 M9 H locs hr9 hp hw hS => ?_)
    rcases hp with ⟨em9, (⟨er9, h9b⟩ | ⟨er9, h9b⟩)⟩
    · have hw : Wo g M H := em9 ▸ hw
      rw [er9]
      refine x_if_eq (tgt := 44) C ⟨by decide, by decide⟩ dX7_tells_12 (by decide) (fun h => absurd h (by decide)) (fun _ => ?_)
      refine lv_iload C.1 C.2.1 dX7_tells_15 (lv_at hl 4 rfl) ?_
      refine x_if_lt (tgt := 44) C gz_w dX7_tells_17 (by decide) (fun c17 => ?_) (fun c17 => ?_)
      · refine lv_bipush (v := II (-2)) C.1 C.2.1 dX7_tells_44 (by decide) ?_
        subst hQQ; exact x_ireturn C hr hlk hw hS ⟨by decide, by decide⟩ rfl ⟨(by have e : okTl n s0 ho q w = false := decide_eq_false (fun y => by first | omega | exact h38b (by rw [hB.1.1]; omega) | exact h9b y.2.1 | exact h1b y.1); unfold r_tells; rw [if_pos e]), hR, (fun _ _ => rfl)⟩ dX7_tells_46
      · refine lv_iload C.1 C.2.1 dX7_tells_20 (lv_at hl 4 rfl) ?_
        refine lv_bipush (v := II 8) C.1 C.2.1 dX7_tells_22 (by decide) ?_
        refine x_icmp_gt (tgt := 44) C gz_w ⟨by decide, by decide⟩ dX7_tells_24 (by decide) (fun c24 => ?_) (fun c24 => ?_)
        · refine lv_bipush (v := II (-2)) C.1 C.2.1 dX7_tells_44 (by decide) ?_
          subst hQQ; exact x_ireturn C hr hlk hw hS ⟨by decide, by decide⟩ rfl ⟨(by have e : okTl n s0 ho q w = false := decide_eq_false (fun y => by first | omega | exact h38b (by rw [hB.1.1]; omega) | exact h9b y.2.1 | exact h1b y.1); unfold r_tells; rw [if_pos e]), hR, (fun _ _ => rfl)⟩ dX7_tells_46
        · have J47 : (w ≤ 1 ∨ (0 ≤ q ∧ q < n)) → ∀ (H : Heap) (locs : List Loc) (ls : Array Slot), Wo g M H → va_S (ar g) s.heap H locs → lv_has ls 6 [(0, .ref (gA g 0)), (1, .int (II s0)), (2, .int (II ho)), (3, .int (II q)), (4, .int (II w))] → W p l e (rmm 7 176) s m args below meth c H locs 0 0 QQ (F0 m 47 ls []) := by
            intro  hq1 H locs ls hw hS hl
            have hho4 : 0 ≤ ho ∧ ho ≤ 4 := h9b
            have eok : okTl n s0 ho q w = true := decide_eq_true ⟨h1b, hho4, by omega, hq1⟩
            obtain ⟨k, rfl⟩ : ∃ i : Nat, s0 = (i : Int) := ⟨s0.toNat, by omega⟩
            obtain ⟨q1, q2, q3⟩ := hR.2.2.2 k (by omega)
            have hszk := hA.2.2.2.2 k (by omega)
            refine lv_aload_n C.1 C.2.1 dX7_tells_47 rfl (lv_at hl 0 rfl) ?_
            refine g7 C hw 0 (by omega) rfl 7 (by decide) mw_487 (svr (hF.2 _)) dX7_tells_48 ?_
            refine lv_iload_n C.1 C.2.1 dX7_tells_51 rfl (lv_at hl 1 rfl) ?_
            refine x_aaload (L := 4) C hw 60 (by omega) 12 rfl (by decide) rfl (by omega) (by omega) (by decide) (rH hF k (by omega)) dX7_tells_52 ?_
            refine lv_astore (lv' := [(5, .ref (gA g (62 + 2 * k))), (0, .ref (gA g 0)), (1, .int (II (k : Int))), (2, .int (II ho)), (3, .int (II q)), (4, .int (II w))]) C.1 C.2.1 dX7_tells_53 hl (by decide) rfl (fun ls hl => ?_)
            refine lv_aload C.1 C.2.1 dX7_tells_55 (lv_at hl 0 rfl) ?_
            refine x_ci (x_runVN (n := 0) C hw hS hml hl.1 (62 + 2 * k) 5 (by omega) (kd_h (by omega)) (by decide) rfl (c_X5_isMissing l g M hF k (by omega)) mn_700 mw_702 mw_38 mw_124 mw_703 rfl rfl (by decide +kernel) ⟨Nat.le_of_ble_eq_true rfl, Nat.le_of_ble_eq_true rfl⟩ rfl rfl (Nat.le_of_ble_eq_true rfl) dX7_tells_57 ⟨Nat.zero_le _, Nat.zero_le _⟩) hS (fun r57 M57 H locs hr57 hp hw hS => ?_)
            rcases hp with ⟨em57, (⟨er57, h57b⟩ | ⟨er57, h57b⟩)⟩
            · have hw : Wo g M H := em57 ▸ hw
              rw [er57]
              refine x_if_eq (tgt := 66) C ⟨by decide, by decide⟩ dX7_tells_60 (by decide) (fun h => absurd h (by decide)) (fun _ => ?_)
              refine lv_bipush (v := II (-11)) C.1 C.2.1 dX7_tells_63 (by decide) ?_
              subst hQQ; exact x_ireturn C hr hlk hw hS ⟨by decide, by decide⟩ rfl ⟨(by unfold r_tells; rw [if_neg (by rw [eok]; decide)]; simp only [Int.toNat_natCast]; rw [if_pos (by rw [← q1]; exact h57b)]), hR, (fun _ _ => rfl)⟩ dX7_tells_65
            · have hw : Wo g M H := em57 ▸ hw
              rw [er57]
              refine x_if_eq (tgt := 66) C ⟨by decide, by decide⟩ dX7_tells_60 (by decide) (fun _ => ?_) (fun h => absurd h (by decide))
              refine lv_aload C.1 C.2.1 dX7_tells_66 (lv_at hl 0 rfl) ?_
              refine gn5 C hw (62 + 2 * k) (by omega) (kd_h (by omega)) 2 (by decide) mn_333 (svi (x := Sh.2.1 k) ((hR.2.2.2 k (by omega)).2.1)) dX7_tells_68 ?_
              refine lv_bipush (v := II 6) C.1 C.2.1 dX7_tells_71 (by decide) ?_
              refine x_icmp_eq (tgt := 79) C ⟨by have := g_M (1000 * (62 + 2 * k) + 2); have := ((hR.2.2.2 k (by omega)).2.1); omega, by have := g_M (1000 * (62 + 2 * k) + 2); have := ((hR.2.2.2 k (by omega)).2.1); omega⟩ ⟨by decide, by decide⟩ dX7_tells_73 (by decide) (fun c73 => ?_) (fun c73 => ?_)
              · have hz6 : Sh.2.1 k = 6 := c73
                refine lv_iload C.1 C.2.1 dX7_tells_79 (lv_at hl 5 rfl) ?_
                by_cases c81_0 : w = 0
                · refine x_tabIn (tgt := 128) C gz_w dX7_tells_81 (by omega) (by omega) (by rw [c81_0]; rfl) (by decide) ?_
                  refine lv_aload_n C.1 C.2.1 dX7_tells_128 rfl (lv_at hl 1 rfl) ?_
                  refine lv_aload C.1 C.2.1 dX7_tells_129 (lv_at hl 0 rfl) ?_
                  refine lv_iload_n C.1 C.2.1 dX7_tells_131 rfl (lv_at hl 3 rfl) ?_
                  refine x_ci (x_runV (n := 2) C hw hS hml hl.1 0 7 (by omega) rfl (by decide) rfl (c_X7_firstOther l g M hF n v nt t (X.2.1 t) hB k (by omega) (Sh.2.2 k) (fun h hh => (hR.2.2.2 k (by omega)).2.2 h (by rw [hz6]; omega)) ho gz_ho) mw_704 mw_706 mw_39 mw_117 mw_707 rfl rfl (by decide +kernel) ⟨Nat.le_of_ble_eq_true rfl, Nat.le_of_ble_eq_true rfl⟩ rfl rfl (Nat.le_of_ble_eq_true rfl) dX7_tells_132 ⟨Nat.zero_le _, Nat.zero_le _⟩) hS (fun r132 M132 H locs hr132 hp hw hS => ?_)
                  obtain ⟨er132, h132f⟩ := hp
                  have g_M132 := hw.rg
                  rw [er132] at hr132 ⊢
                  subst hQQ; exact x_ireturn C hr hlk hw hS hr132 rfl ⟨(by unfold r_tells; rw [if_neg (by rw [eok]; decide)]; simp only [Int.toNat_natCast]; rw [if_neg (by rw [← q1]; exact h57b), if_neg (fun z => z hz6), if_pos (by omega)]), (hR.fr hA (fun m hm => h132f m (fun z => hm (Or.inl z)))), (fun m hm => h132f m (by unfold scr; omega))⟩ dX7_tells_135
                by_cases c81_1 : w = 1
                · refine x_tabIn (tgt := 136) C gz_w dX7_tells_81 (by omega) (by omega) (by rw [c81_1]; rfl) (by decide) ?_
                  refine lv_aload_n C.1 C.2.1 dX7_tells_136 rfl (lv_at hl 1 rfl) ?_
                  refine lv_aload C.1 C.2.1 dX7_tells_137 (lv_at hl 0 rfl) ?_
                  refine lv_iload_n C.1 C.2.1 dX7_tells_139 rfl (lv_at hl 3 rfl) ?_
                  refine x_ci (x_runV (n := 2) C hw hS hml hl.1 0 7 (by omega) rfl (by decide) rfl (c_X7_textsThatFit l g M hF n v nt t (X.2.1 t) hB k (by omega) (Sh.2.2 k) (fun h hh => (hR.2.2.2 k (by omega)).2.2 h (by rw [hz6]; omega)) ho gz_ho X.1 X.2.1 ⟨hR.2.1.1, hA.2.1.2, hR.2.1.2.1⟩) mw_708 mw_710 mw_40 mw_117 mw_711 rfl rfl (by decide +kernel) ⟨Nat.le_of_ble_eq_true rfl, Nat.le_of_ble_eq_true rfl⟩ rfl rfl (Nat.le_of_ble_eq_true rfl) dX7_tells_140 ⟨Nat.zero_le _, Nat.zero_le _⟩) hS (fun r140 M140 H locs hr140 hp hw hS => ?_)
                  obtain ⟨er140, h140f⟩ := hp
                  have g_M140 := hw.rg
                  rw [er140] at hr140 ⊢
                  subst hQQ; exact x_ireturn C hr hlk hw hS hr140 rfl ⟨(by unfold r_tells; rw [if_neg (by rw [eok]; decide)]; simp only [Int.toNat_natCast]; rw [if_neg (by rw [← q1]; exact h57b), if_neg (fun z => z hz6), if_neg (by omega), if_pos (by omega)]), (hR.fr hA (fun m hm => h140f m (fun z => hm (Or.inl z)))), (fun m hm => h140f m (by unfold scr; omega))⟩ dX7_tells_143
                by_cases c81_2 : w = 2
                · refine x_tabIn (tgt := 144) C gz_w dX7_tells_81 (by omega) (by omega) (by rw [c81_2]; rfl) (by decide) ?_
                  obtain ⟨i, rfl⟩ : ∃ i : Nat, q = (i : Int) := ⟨q.toNat, by omega⟩
                  refine lv_aload_n C.1 C.2.1 dX7_tells_144 rfl (lv_at hl 1 rfl) ?_
                  refine lv_aload C.1 C.2.1 dX7_tells_145 (lv_at hl 0 rfl) ?_
                  refine lv_iload_n C.1 C.2.1 dX7_tells_147 rfl (lv_at hl 3 rfl) ?_
                  refine lv_iload_n C.1 C.2.1 dX7_tells_148 rfl (lv_at hl 4 rfl) ?_
                  refine lv_iconst (v := II 5) C.1 C.2.1 dX7_tells_149 rfl ?_
                  refine x_ci (x_runV (n := 4) C hw hS hml hl.1 0 7 (by omega) rfl (by decide) rfl (c_X7_bitsThatFit l g M hF n v nt t (X.2.1 t) hB k (by omega) (Sh.2.2 k) (fun h hh => (hR.2.2.2 k (by omega)).2.2 h (by rw [hz6]; omega)) ho gz_ho i (by omega) 5 (by decide) 0 ⟨by decide, by decide⟩ 0 6 ⟨rfl, rfl, by decide, by decide, by decide⟩ (fun j hj => by unfold okF; omega) ⟨by decide, rfl⟩) mw_712 mw_714 mw_41 mw_117 mw_715 rfl rfl (by decide +kernel) ⟨Nat.le_of_ble_eq_true rfl, Nat.le_of_ble_eq_true rfl⟩ rfl rfl (Nat.le_of_ble_eq_true rfl) dX7_tells_150 ⟨Nat.zero_le _, Nat.zero_le _⟩) hS (fun r150 M150 H locs hr150 hp hw hS => ?_)
                  obtain ⟨er150, h150f⟩ := hp
                  have g_M150 := hw.rg
                  rw [er150] at hr150 ⊢
                  subst hQQ; exact x_ireturn C hr hlk hw hS hr150 rfl ⟨(by unfold r_tells; rw [if_neg (by rw [eok]; decide)]; simp only [Int.toNat_natCast]; rw [if_neg (by rw [← q1]; exact h57b), if_neg (fun z => z hz6), if_neg (by omega), if_neg (by omega), if_pos (by omega)]), (hR.fr hA (fun m hm => h150f m (fun z => hm (Or.inl z)))), (fun m hm => h150f m (by unfold scr; omega))⟩ dX7_tells_153
                by_cases c81_3 : w = 3
                · refine x_tabIn (tgt := 154) C gz_w dX7_tells_81 (by omega) (by omega) (by rw [c81_3]; rfl) (by decide) ?_
                  obtain ⟨i, rfl⟩ : ∃ i : Nat, q = (i : Int) := ⟨q.toNat, by omega⟩
                  refine lv_aload_n C.1 C.2.1 dX7_tells_154 rfl (lv_at hl 1 rfl) ?_
                  refine lv_aload C.1 C.2.1 dX7_tells_155 (lv_at hl 0 rfl) ?_
                  refine lv_iload_n C.1 C.2.1 dX7_tells_157 rfl (lv_at hl 3 rfl) ?_
                  refine lv_iload_n C.1 C.2.1 dX7_tells_158 rfl (lv_at hl 4 rfl) ?_
                  refine lv_iconst (v := II 1) C.1 C.2.1 dX7_tells_159 rfl ?_
                  refine x_ci (x_runV (n := 4) C hw hS hml hl.1 0 7 (by omega) rfl (by decide) rfl (c_X7_bitsThatFit l g M hF n v nt t (X.2.1 t) hB k (by omega) (Sh.2.2 k) (fun h hh => (hR.2.2.2 k (by omega)).2.2 h (by rw [hz6]; omega)) ho gz_ho i (by omega) 1 (by decide) 1 ⟨by decide, by decide⟩ 0 10 ⟨rfl, rfl, by decide, by decide, by decide⟩ (fun j hj => by unfold okF; omega) ⟨by decide, rfl⟩) mw_712 mw_714 mw_41 mw_117 mw_715 rfl rfl (by decide +kernel) ⟨Nat.le_of_ble_eq_true rfl, Nat.le_of_ble_eq_true rfl⟩ rfl rfl (Nat.le_of_ble_eq_true rfl) dX7_tells_160 ⟨Nat.zero_le _, Nat.zero_le _⟩) hS (fun r160 M160 H locs hr160 hp hw hS => ?_)
                  obtain ⟨er160, h160f⟩ := hp
                  have g_M160 := hw.rg
                  rw [er160] at hr160 ⊢
                  subst hQQ; exact x_ireturn C hr hlk hw hS hr160 rfl ⟨(by unfold r_tells; rw [if_neg (by rw [eok]; decide)]; simp only [Int.toNat_natCast]; rw [if_neg (by rw [← q1]; exact h57b), if_neg (fun z => z hz6), if_neg (by omega), if_neg (by omega), if_neg (by omega), if_pos (by omega)]), (hR.fr hA (fun m hm => h160f m (fun z => hm (Or.inl z)))), (fun m hm => h160f m (by unfold scr; omega))⟩ dX7_tells_163
                by_cases c81_4 : w = 4
                · refine x_tabIn (tgt := 164) C gz_w dX7_tells_81 (by omega) (by omega) (by rw [c81_4]; rfl) (by decide) ?_
                  obtain ⟨i, rfl⟩ : ∃ i : Nat, q = (i : Int) := ⟨q.toNat, by omega⟩
                  refine lv_aload_n C.1 C.2.1 dX7_tells_164 rfl (lv_at hl 1 rfl) ?_
                  refine lv_aload C.1 C.2.1 dX7_tells_165 (lv_at hl 0 rfl) ?_
                  refine lv_iload_n C.1 C.2.1 dX7_tells_167 rfl (lv_at hl 3 rfl) ?_
                  refine lv_iload_n C.1 C.2.1 dX7_tells_168 rfl (lv_at hl 4 rfl) ?_
                  refine lv_iconst (v := II 2) C.1 C.2.1 dX7_tells_169 rfl ?_
                  refine x_ci (x_runV (n := 4) C hw hS hml hl.1 0 7 (by omega) rfl (by decide) rfl (c_X7_bitsThatFit l g M hF n v nt t (X.2.1 t) hB k (by omega) (Sh.2.2 k) (fun h hh => (hR.2.2.2 k (by omega)).2.2 h (by rw [hz6]; omega)) ho gz_ho i (by omega) 2 (by decide) 2 ⟨by decide, by decide⟩ 0 5 ⟨rfl, rfl, by decide, by decide, by decide⟩ (fun j hj => by unfold okF; omega) ⟨by decide, rfl⟩) mw_712 mw_714 mw_41 mw_117 mw_715 rfl rfl (by decide +kernel) ⟨Nat.le_of_ble_eq_true rfl, Nat.le_of_ble_eq_true rfl⟩ rfl rfl (Nat.le_of_ble_eq_true rfl) dX7_tells_170 ⟨Nat.zero_le _, Nat.zero_le _⟩) hS (fun r170 M170 H locs hr170 hp hw hS => ?_)
                  obtain ⟨er170, h170f⟩ := hp
                  have g_M170 := hw.rg
                  rw [er170] at hr170 ⊢
                  subst hQQ; exact x_ireturn C hr hlk hw hS hr170 rfl ⟨(by unfold r_tells; rw [if_neg (by rw [eok]; decide)]; simp only [Int.toNat_natCast]; rw [if_neg (by rw [← q1]; exact h57b), if_neg (fun z => z hz6), if_neg (by omega), if_neg (by omega), if_neg (by omega), if_neg (by omega), if_pos (by omega)]), (hR.fr hA (fun m hm => h170f m (fun z => hm (Or.inl z)))), (fun m hm => h170f m (by unfold scr; omega))⟩ dX7_tells_173
                by_cases c81_5 : w = 5
                · refine x_tabIn (tgt := 174) C gz_w dX7_tells_81 (by omega) (by omega) (by rw [c81_5]; rfl) (by decide) ?_
                  obtain ⟨i, rfl⟩ : ∃ i : Nat, q = (i : Int) := ⟨q.toNat, by omega⟩
                  refine lv_aload_n C.1 C.2.1 dX7_tells_174 rfl (lv_at hl 1 rfl) ?_
                  refine lv_aload C.1 C.2.1 dX7_tells_175 (lv_at hl 0 rfl) ?_
                  refine lv_iload_n C.1 C.2.1 dX7_tells_177 rfl (lv_at hl 3 rfl) ?_
                  refine lv_iload_n C.1 C.2.1 dX7_tells_178 rfl (lv_at hl 4 rfl) ?_
                  refine lv_iconst (v := II 3) C.1 C.2.1 dX7_tells_179 rfl ?_
                  refine x_ci (x_runV (n := 4) C hw hS hml hl.1 0 7 (by omega) rfl (by decide) rfl (c_X7_howManyFit l g M hF n v nt t (X.2.1 t) hB k (by omega) (Sh.2.2 k) (fun h hh => (hR.2.2.2 k (by omega)).2.2 h (by rw [hz6]; omega)) ho gz_ho i (by omega) 3 (by decide) 3 ⟨by decide, by decide⟩ (-20) 41 ⟨rfl, rfl, by decide, by decide, by decide⟩ (fun j hj => by unfold okF; omega)) mw_720 mw_722 mw_43 mw_117 mw_723 rfl rfl (by decide +kernel) ⟨Nat.le_of_ble_eq_true rfl, Nat.le_of_ble_eq_true rfl⟩ rfl rfl (Nat.le_of_ble_eq_true rfl) dX7_tells_180 ⟨Nat.zero_le _, Nat.zero_le _⟩) hS (fun r180 M180 H locs hr180 hp hw hS => ?_)
                  obtain ⟨er180, h180f⟩ := hp
                  have g_M180 := hw.rg
                  rw [er180] at hr180 ⊢
                  subst hQQ; exact x_ireturn C hr hlk hw hS hr180 rfl ⟨(by unfold r_tells; rw [if_neg (by rw [eok]; decide)]; simp only [Int.toNat_natCast]; rw [if_neg (by rw [← q1]; exact h57b), if_neg (fun z => z hz6), if_neg (by omega), if_neg (by omega), if_neg (by omega), if_neg (by omega), if_neg (by omega), if_pos (by omega)]), (hR.fr hA (fun m hm => h180f m (fun z => hm (Or.inl z)))), (fun m hm => h180f m (by unfold scr; omega))⟩ dX7_tells_183
                by_cases c81_6 : w = 6
                · refine x_tabIn (tgt := 184) C gz_w dX7_tells_81 (by omega) (by omega) (by rw [c81_6]; rfl) (by decide) ?_
                  obtain ⟨i, rfl⟩ : ∃ i : Nat, q = (i : Int) := ⟨q.toNat, by omega⟩
                  refine lv_aload_n C.1 C.2.1 dX7_tells_184 rfl (lv_at hl 1 rfl) ?_
                  refine lv_aload C.1 C.2.1 dX7_tells_185 (lv_at hl 0 rfl) ?_
                  refine lv_iload_n C.1 C.2.1 dX7_tells_187 rfl (lv_at hl 3 rfl) ?_
                  refine lv_iload_n C.1 C.2.1 dX7_tells_188 rfl (lv_at hl 4 rfl) ?_
                  refine lv_iconst (v := II 3) C.1 C.2.1 dX7_tells_189 rfl ?_
                  refine lv_bipush (v := II (-100)) C.1 C.2.1 dX7_tells_190 (by decide) ?_
                  refine x_ci (x_runV (n := 5) C hw hS hml hl.1 0 7 (by omega) rfl (by decide) rfl (c_X7_leastThatFits l g M hF n v nt t (X.2.1 t) hB k (by omega) (Sh.2.2 k) (fun h hh => (hR.2.2.2 k (by omega)).2.2 h (by rw [hz6]; omega)) ho gz_ho i (by omega) 3 (by decide) 3 ⟨by decide, by decide⟩ (-20) 41 ⟨rfl, rfl, by decide, by decide, by decide⟩ (fun j hj => by unfold okF; omega) (-100) ⟨by decide, by decide⟩) mw_724 mw_726 mw_44 mw_117 mw_727 rfl rfl (by decide +kernel) ⟨Nat.le_of_ble_eq_true rfl, Nat.le_of_ble_eq_true rfl⟩ rfl rfl (Nat.le_of_ble_eq_true rfl) dX7_tells_192 ⟨Nat.zero_le _, Nat.zero_le _⟩) hS (fun r192 M192 H locs hr192 hp hw hS => ?_)
                  obtain ⟨er192, h192f⟩ := hp
                  have g_M192 := hw.rg
                  rw [er192] at hr192 ⊢
                  subst hQQ; exact x_ireturn C hr hlk hw hS hr192 rfl ⟨(by unfold r_tells; rw [if_neg (by rw [eok]; decide)]; simp only [Int.toNat_natCast]; rw [if_neg (by rw [← q1]; exact h57b), if_neg (fun z => z hz6), if_neg (by omega), if_neg (by omega), if_neg (by omega), if_neg (by omega), if_neg (by omega), if_neg (by omega), if_pos (by omega)]), (hR.fr hA (fun m hm => h192f m (fun z => hm (Or.inl z)))), (fun m hm => h192f m (by unfold scr; omega))⟩ dX7_tells_195
                by_cases c81_7 : w = 7
                · refine x_tabIn (tgt := 196) C gz_w dX7_tells_81 (by omega) (by omega) (by rw [c81_7]; rfl) (by decide) ?_
                  obtain ⟨i, rfl⟩ : ∃ i : Nat, q = (i : Int) := ⟨q.toNat, by omega⟩
                  refine lv_aload_n C.1 C.2.1 dX7_tells_196 rfl (lv_at hl 1 rfl) ?_
                  refine lv_aload C.1 C.2.1 dX7_tells_197 (lv_at hl 0 rfl) ?_
                  refine lv_iload_n C.1 C.2.1 dX7_tells_199 rfl (lv_at hl 3 rfl) ?_
                  refine lv_iload_n C.1 C.2.1 dX7_tells_200 rfl (lv_at hl 4 rfl) ?_
                  refine lv_iconst (v := II 4) C.1 C.2.1 dX7_tells_201 rfl ?_
                  refine x_ci (x_runV (n := 4) C hw hS hml hl.1 0 7 (by omega) rfl (by decide) rfl (c_X7_howManyFit l g M hF n v nt t (X.2.1 t) hB k (by omega) (Sh.2.2 k) (fun h hh => (hR.2.2.2 k (by omega)).2.2 h (by rw [hz6]; omega)) ho gz_ho i (by omega) 4 (by decide) 4 ⟨by decide, by decide⟩ 0 64 ⟨rfl, rfl, by decide, by decide, by decide⟩ (fun j hj => by unfold okF; omega)) mw_720 mw_722 mw_43 mw_117 mw_723 rfl rfl (by decide +kernel) ⟨Nat.le_of_ble_eq_true rfl, Nat.le_of_ble_eq_true rfl⟩ rfl rfl (Nat.le_of_ble_eq_true rfl) dX7_tells_202 ⟨Nat.zero_le _, Nat.zero_le _⟩) hS (fun r202 M202 H locs hr202 hp hw hS => ?_)
                  obtain ⟨er202, h202f⟩ := hp
                  have g_M202 := hw.rg
                  rw [er202] at hr202 ⊢
                  subst hQQ; exact x_ireturn C hr hlk hw hS hr202 rfl ⟨(by unfold r_tells; rw [if_neg (by rw [eok]; decide)]; simp only [Int.toNat_natCast]; rw [if_neg (by rw [← q1]; exact h57b), if_neg (fun z => z hz6), if_neg (by omega), if_neg (by omega), if_neg (by omega), if_neg (by omega), if_neg (by omega), if_neg (by omega), if_neg (by omega), if_pos (by omega)]), (hR.fr hA (fun m hm => h202f m (fun z => hm (Or.inl z)))), (fun m hm => h202f m (by unfold scr; omega))⟩ dX7_tells_205
                refine x_tabOut (tgt := 206) C gz_w dX7_tells_81 (by omega) (by decide) ?_
                obtain ⟨i, rfl⟩ : ∃ i : Nat, q = (i : Int) := ⟨q.toNat, by omega⟩
                refine lv_aload_n C.1 C.2.1 dX7_tells_206 rfl (lv_at hl 1 rfl) ?_
                refine lv_aload C.1 C.2.1 dX7_tells_207 (lv_at hl 0 rfl) ?_
                refine lv_iload_n C.1 C.2.1 dX7_tells_209 rfl (lv_at hl 3 rfl) ?_
                refine lv_iload_n C.1 C.2.1 dX7_tells_210 rfl (lv_at hl 4 rfl) ?_
                refine lv_iconst (v := II 4) C.1 C.2.1 dX7_tells_211 rfl ?_
                refine lv_iconst (v := II (-1)) C.1 C.2.1 dX7_tells_212 rfl ?_
                refine x_ci (x_runV (n := 5) C hw hS hml hl.1 0 7 (by omega) rfl (by decide) rfl (c_X7_leastThatFits l g M hF n v nt t (X.2.1 t) hB k (by omega) (Sh.2.2 k) (fun h hh => (hR.2.2.2 k (by omega)).2.2 h (by rw [hz6]; omega)) ho gz_ho i (by omega) 4 (by decide) 4 ⟨by decide, by decide⟩ 0 64 ⟨rfl, rfl, by decide, by decide, by decide⟩ (fun j hj => by unfold okF; omega) (-1) ⟨by decide, by decide⟩) mw_724 mw_726 mw_44 mw_117 mw_727 rfl rfl (by decide +kernel) ⟨Nat.le_of_ble_eq_true rfl, Nat.le_of_ble_eq_true rfl⟩ rfl rfl (Nat.le_of_ble_eq_true rfl) dX7_tells_213 ⟨Nat.zero_le _, Nat.zero_le _⟩) hS (fun r213 M213 H locs hr213 hp hw hS => ?_)
                obtain ⟨er213, h213f⟩ := hp
                have g_M213 := hw.rg
                rw [er213] at hr213 ⊢
                subst hQQ; exact x_ireturn C hr hlk hw hS hr213 rfl ⟨(by unfold r_tells; rw [if_neg (by rw [eok]; decide)]; simp only [Int.toNat_natCast]; rw [if_neg (by rw [← q1]; exact h57b), if_neg (fun z => z hz6), if_neg (by omega), if_neg (by omega), if_neg (by omega), if_neg (by omega), if_neg (by omega), if_neg (by omega), if_neg (by omega), if_neg (by omega)]), (hR.fr hA (fun m hm => h213f m (fun z => hm (Or.inl z)))), (fun m hm => h213f m (by unfold scr; omega))⟩ dX7_tells_216
              · refine lv_bipush (v := II (-2)) C.1 C.2.1 dX7_tells_76 (by decide) ?_
                subst hQQ; exact x_ireturn C hr hlk hw hS ⟨by decide, by decide⟩ rfl ⟨(by unfold r_tells; rw [if_neg (by rw [eok]; decide)]; simp only [Int.toNat_natCast]; rw [if_neg (by rw [← q1]; exact h57b), if_pos c73]), hR, (fun _ _ => rfl)⟩ dX7_tells_78
          refine lv_iload C.1 C.2.1 dX7_tells_27 (lv_at hl 4 rfl) ?_
          refine lv_iconst (v := II 1) C.1 C.2.1 dX7_tells_29 rfl ?_
          refine x_icmp_le (tgt := 47) C gz_w ⟨by decide, by decide⟩ dX7_tells_30 (by decide) (fun c30 => ?_) (fun c30 => ?_)
          · exact J47  (by first | (left; omega) | (right; rw [← hB.1.1]; exact h38b)) _ _ _ hw hS (lv_sub hl [0, 1, 2, 3, 4] rfl)
          · refine lv_aload_n C.1 C.2.1 dX7_tells_33 rfl (lv_at hl 0 rfl) ?_
            refine g7 C hw 0 (by omega) rfl 1 (by decide) mw_481 (svr (hF.2 _)) dX7_tells_34 ?_
            refine lv_iload_n C.1 C.2.1 dX7_tells_37 rfl (lv_at hl 3 rfl) ?_
            refine x_ci (x_runVN (n := 1) C hw hS hml hl.1 2 1 (by omega) rfl (by decide) rfl (c_X1_has l g M hF q gz_q) mn_520 mw_522 mw_16 mw_119 mw_523 rfl rfl (by decide +kernel) ⟨Nat.le_of_ble_eq_true rfl, Nat.le_of_ble_eq_true rfl⟩ rfl rfl (Nat.le_of_ble_eq_true rfl) dX7_tells_38 ⟨Nat.zero_le _, Nat.zero_le _⟩) hS (fun r38 M38 H locs hr38 hp hw hS => ?_)
            rcases hp with ⟨em38, (⟨er38, h38b⟩ | ⟨er38, h38b⟩)⟩
            · have hw : Wo g M H := em38 ▸ hw
              rw [er38]
              refine x_if_ne (tgt := 47) C ⟨by decide, by decide⟩ dX7_tells_41 (by decide) (fun _ => ?_) (fun h => absurd h (by decide))
              exact J47  (by first | (left; omega) | (right; rw [← hB.1.1]; exact h38b)) _ _ _ hw hS (lv_sub hl [0, 1, 2, 3, 4] rfl)
            · have hw : Wo g M H := em38 ▸ hw
              rw [er38]
              refine x_if_ne (tgt := 47) C ⟨by decide, by decide⟩ dX7_tells_41 (by decide) (fun h => absurd h (by decide)) (fun _ => ?_)
              refine lv_bipush (v := II (-2)) C.1 C.2.1 dX7_tells_44 (by decide) ?_
              subst hQQ; exact x_ireturn C hr hlk hw hS ⟨by decide, by decide⟩ rfl ⟨(by have e : okTl n s0 ho q w = false := decide_eq_false (fun y => by first | omega | exact h38b (by rw [hB.1.1]; omega) | exact h9b y.2.1 | exact h1b y.1); unfold r_tells; rw [if_pos e]), hR, (fun _ _ => rfl)⟩ dX7_tells_46
    · have hw : Wo g M H := em9 ▸ hw
      rw [er9]
      refine x_if_eq (tgt := 44) C ⟨by decide, by decide⟩ dX7_tells_12 (by decide) (fun _ => ?_) (fun h => absurd h (by decide))
      refine lv_bipush (v := II (-2)) C.1 C.2.1 dX7_tells_44 (by decide) ?_
      subst hQQ; exact x_ireturn C hr hlk hw hS ⟨by decide, by decide⟩ rfl ⟨(by have e : okTl n s0 ho q w = false := decide_eq_false (fun y => by first | omega | exact h38b (by rw [hB.1.1]; omega) | exact h9b y.2.1 | exact h1b y.1); unfold r_tells; rw [if_pos e]), hR, (fun _ _ => rfl)⟩ dX7_tells_46
  · have hw : Wo g M H := em1 ▸ hw
    rw [er1]
    refine x_if_eq (tgt := 44) C ⟨by decide, by decide⟩ dX7_tells_4 (by decide) (fun _ => ?_) (fun h => absurd h (by decide))
    refine lv_bipush (v := II (-2)) C.1 C.2.1 dX7_tells_44 (by decide) ?_
    subst hQQ; exact x_ireturn C hr hlk hw hS ⟨by decide, by decide⟩ rfl ⟨(by have e : okTl n s0 ho q w = false := decide_eq_false (fun y => by first | omega | exact h38b (by rw [hB.1.1]; omega) | exact h9b y.2.1 | exact h1b y.1); unfold r_tells; rw [if_pos e]), hR, (fun _ _ => rfl)⟩ dX7_tells_46
