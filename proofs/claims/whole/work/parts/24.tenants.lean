theorem InvA.ten {n : Nat} {v : Nat → Nat → Int} {nt pd : Int} {t : Nat} {X : Txt} {I : Option Bor} {Sh : Sht} (h : InvA (n, v, nt, pd, t) X I Sh) (k z y : Int) : InvA (n_ten n k z y, v_ten v n k z y, nt, pd, t) X I Sh := by
  unfold n_ten v_ten
  by_cases hc : (okT k z y && decide (n ≠ 8)) = true
  · rw [if_pos hc, if_pos hc]
    simp only [Bool.and_eq_true, decide_eq_true_eq, okT] at hc
    obtain ⟨⟨h1, h2, h3, h4, h5, h6⟩, h7, h8, h9, h10⟩ := h
    dsimp only at h1 h2 h3 h4 h5 h6
    refine ⟨⟨by show n + 1 ≤ 8; omega, fun q hq => ?_, fun q hq => ?_, h4, h5, h6⟩, ?_⟩
    · by_cases e : q = n
      · subst e; simp [newP]; omega
      · have hq9 : q < n + 1 := hq
        have := h2 q (by omega)
        simpa [newP, e] using this
    · by_cases e : q = n
      · subst e; simp [newP]; omega
      · have hq9 : q < n + 1 := hq
        have := h3 q (by omega)
        simpa [newP, e] using this
    · refine ⟨h7, h8, fun b2 hb => ?_, h10⟩
      obtain ⟨g1, g2, g3⟩ := h9 b2 hb
      dsimp only at g2 g3
      refine ⟨g1, by show b2.1 ≤ n + 1; omega, fun q hq => ?_⟩
      rw [g3 q hq]
      show v q 0 = newP v n k z y q 0
      unfold newP
      rw [if_neg (by omega)]
  · rw [if_neg hc, if_neg hc]
    exact h
def tnR (w : Nat → Int) (sz fr : Int) : Nat → Nat → Int → Nat → (Nat → Nat → Int) → Int × Nat × (Nat → Nat → Int)
  | 0, _, c, n, v => (c, n, v)
  | r + 1, i, c, n, v => if 0 ≤ fr ∧ fr + 3 * i + 3 ≤ sz then tnR w sz fr r (i + 1) (if 0 ≤ r_ten n (w (fr.toNat + 3 * i)) (w (fr.toNat + 3 * i + 1)) (w (fr.toNat + 3 * i + 2)) then c + 1 else c) (n_ten n (w (fr.toNat + 3 * i)) (w (fr.toNat + 3 * i + 1)) (w (fr.toNat + 3 * i + 2))) (v_ten v n (w (fr.toNat + 3 * i)) (w (fr.toNat + 3 * i + 1)) (w (fr.toNat + 3 * i + 2))) else (-12, n, v)
def s_tens (n : Nat) (v : Nat → Nat → Int) (Sh : Sht) (s so fr z : Int) : Int × Nat × (Nat → Nat → Int) := if ¬ ((0 ≤ s ∧ s < 4) ∧ (0 ≤ so ∧ so ≤ 2) ∧ (0 ≤ z ∧ z ≤ 8)) then (-2, n, v) else if Sh.1 s.toNat ≠ -1 ∧ Sh.1 s.toNat ≠ so then (-13, n, v) else if Sh.1 s.toNat = -1 then (-11, n, v) else tnR (Sh.2.2 s.toNat) (Sh.2.1 s.toNat) fr z.toNat 0 0 n v
def r_feed (X : Txt) (x : Int) : Int := if ¬ (0 ≤ x ∧ x ≤ 255) then -2 else if X.2.2.1 = 160 then -4 else (X.2.2.1 : Int) + 1
def x_feed (X : Txt) (x : Int) : Txt := if 0 ≤ x ∧ x ≤ 255 ∧ X.2.2.1 ≠ 160 then (X.1, X.2.1, X.2.2.1 + 1, up1 X.2.2.2 X.2.2.1 x) else X
set_option maxHeartbeats 4000000 in
set_option maxRecDepth 100000 in
theorem c_X7_tenants (l : Launch) (g : Gm) (M : Nat → Int) (hF : LvF g) (n : Nat) (v : Nat → Nat → Int) (nt : Int) (pd : Int) (t : Nat) (X : Txt) (I : Option Bor) (Sh : Sht) (hR : RepC M (n, v, nt, pd, t) X I Sh) (hA : InvA (n, v, nt, pd, t) X I Sh) (s0 : Int) (gz_s0 : rg s0) (so : Int) (gz_so : rg so) (fr : Int) (gz_fr : rg fr) (z : Int) (gz_z : rg z) : CI l ({ cls := "RatedBySighs", name := "tenants", desc := "(IIII)I" } : Jvm.MethodName) cX7_tenants 9 .int (rmm 2 47) g M [.ref (gA g 0), .int (II s0), .int (II so), .int (II fr), .int (II z)] (fun r M' => r = (s_tens n v Sh s0 so fr z).1 ∧ (RepC M' ((s_tens n v Sh s0 so fr z).2.1, (s_tens n v Sh s0 so fr z).2.2, nt, pd, t) X I Sh) ∧ (∀ m, 70000 ≤ m → M' m = M m)) := by
  refine c_start (by decide) (Nat.le_of_ble_eq_true rfl) (fun p e s m below meth c ls C hr hlk hml hw hS hl => ?_)
  have hl : lv_has ls 9 [(0, .ref (gA g 0)), (1, .int (II s0)), (2, .int (II so)), (3, .int (II fr)), (4, .int (II z))] := hl
  generalize ([.ref (gA g 0), .int (II s0), .int (II so), .int (II fr), .int (II z)] : List Value).toArray = args at C ⊢
  generalize hQQ : MQ below (postI g (fun r M' => r = (s_tens n v Sh s0 so fr z).1 ∧ (RepC M' ((s_tens n v Sh s0 so fr z).2.1, (s_tens n v Sh s0 so fr z).2.2, nt, pd, t) X I Sh) ∧ (∀ m, 70000 ≤ m → M' m = M m))) args s 0 0 (ar g) = QQ
  have g_M := hw.rg
  have hN : gN g = 84 := hF.1
  have hB : BV M n v nt t (X.2.1 t) := hR.bv hA
  have hn2 : n ≤ 8 := hB.1.2
  have hnt := hB.2.2.2.1.2
  have hpd : 0 ≤ pd ∧ pd ≤ 999999999 := hA.1.2.2.2.2.1
  have gf1 := gz_fr.1
  have gf2 := gz_fr.2
  refine lv_iload_n C.1 C.2.1 dX7_tenants_0 rfl (lv_at hl 1 rfl) ?_
  refine x_ci (x_runS (n := 1) C hw hS hml hl.1 (c_X7_isSheet l g M s0 gz_s0) mw_697 mw_698 mw_117 mw_699 rfl rfl (by decide +kernel) ⟨Nat.le_of_ble_eq_true rfl, Nat.le_of_ble_eq_true rfl⟩ rfl rfl (Nat.le_of_ble_eq_true rfl) dX7_tenants_1 ⟨Nat.zero_le _, Nat.zero_le _⟩) hS (fun r1 M1 H locs hr1 hp hw hS => ?_)
  rcases hp with ⟨em1, (⟨er1, h1b⟩ | ⟨er1, h1b⟩)⟩
  · have hw : Wo g M H := em1 ▸ hw
    rw [er1]
    refine x_if_eq (tgt := 26) C ⟨by decide, by decide⟩ dX7_tenants_4 (by decide) (fun h => absurd h (by decide)) (fun _ => ?_)
    refine lv_iload_n C.1 C.2.1 dX7_tenants_7 rfl (lv_at hl 2 rfl) ?_
    refine x_ci (x_runS (n := 1) C hw hS hml hl.1 (c_X7_isSort l g M so gz_so) mw_785 mw_786 mw_117 mw_787 rfl rfl (by decide +kernel) ⟨Nat.le_of_ble_eq_true rfl, Nat.le_of_ble_eq_true rfl⟩ rfl rfl (Nat.le_of_ble_eq_true rfl) dX7_tenants_8 ⟨Nat.zero_le _, Nat.zero_le _⟩) hS (fun r8 M8 H locs hr8 hp hw hS => ?_)
    rcases hp with ⟨em8, (⟨er8, h8b⟩ | ⟨er8, h8b⟩)⟩
    · have hw : Wo g M H := em8 ▸ hw
      rw [er8]
      refine x_if_eq (tgt := 26) C ⟨by decide, by decide⟩ dX7_tenants_11 (by decide) (fun h => absurd h (by decide)) (fun _ => ?_)
      refine lv_iload C.1 C.2.1 dX7_tenants_14 (lv_at hl 4 rfl) ?_
      refine x_if_lt (tgt := 26) C gz_z dX7_tenants_16 (by decide) (fun c16 => ?_) (fun c16 => ?_)
      · refine lv_bipush (v := II (-2)) C.1 C.2.1 dX7_tenants_26 (by decide) ?_
        subst hQQ; exact x_ireturn C hr hlk hw hS ⟨by decide, by decide⟩ rfl (by have e : s_tens n v Sh s0 so fr z = (-2, n, v) := (by unfold s_tens; rw [if_pos (fun y => by first | omega | exact h8b y.2.1 | exact h1b y.1)]); rw [e]; exact ⟨rfl, hR, fun _ _ => rfl⟩) dX7_tenants_28
      · refine lv_iload C.1 C.2.1 dX7_tenants_19 (lv_at hl 4 rfl) ?_
        refine lv_bipush (v := II 8) C.1 C.2.1 dX7_tenants_21 (by decide) ?_
        refine x_icmp_le (tgt := 29) C gz_z ⟨by decide, by decide⟩ dX7_tenants_23 (by decide) (fun c23 => ?_) (fun c23 => ?_)
        · obtain ⟨i, rfl⟩ : ∃ i : Nat, s0 = (i : Int) := ⟨s0.toNat, by omega⟩
          have hszi := hA.2.2.2.2 i (by omega)
          obtain ⟨p1, p2, p3⟩ := hR.2.2.2 i (by omega)
          refine lv_aload_n C.1 C.2.1 dX7_tenants_29 rfl (lv_at hl 0 rfl) ?_
          refine g7 C hw 0 (by omega) rfl 7 (by decide) mw_487 (svr (hF.2 _)) dX7_tenants_30 ?_
          refine lv_iload_n C.1 C.2.1 dX7_tenants_33 rfl (lv_at hl 1 rfl) ?_
          refine x_aaload (L := 4) C hw 60 (by omega) 12 rfl (by decide) rfl (by omega) (by omega) (by decide) (rH hF i (by omega)) dX7_tenants_34 ?_
          refine lv_astore (lv' := [(5, .ref (gA g (62 + 2 * i))), (0, .ref (gA g 0)), (1, .int (II (i : Int))), (2, .int (II so)), (3, .int (II fr)), (4, .int (II z))]) C.1 C.2.1 dX7_tenants_35 hl (by decide) rfl (fun ls hl => ?_)
          refine lv_aload C.1 C.2.1 dX7_tenants_37 (lv_at hl 0 rfl) ?_
          refine x_ci (x_runVN (n := 0) C hw hS hml hl.1 (62 + 2 * i) 5 (by omega) (kd_h (by omega)) (by decide) rfl (c_X5_isMissing l g M hF i (by omega)) mn_700 mw_702 mw_38 mw_124 mw_703 rfl rfl (by decide +kernel) ⟨Nat.le_of_ble_eq_true rfl, Nat.le_of_ble_eq_true rfl⟩ rfl rfl (Nat.le_of_ble_eq_true rfl) dX7_tenants_39 ⟨Nat.zero_le _, Nat.zero_le _⟩) hS (fun r39 M39 H locs hr39 hp hw hS => ?_)
          rcases hp with ⟨em39, (⟨er39, h39b⟩ | ⟨er39, h39b⟩)⟩
          · have hw : Wo g M H := em39 ▸ hw
            rw [er39]
            refine x_if_ne (tgt := 57) C ⟨by decide, by decide⟩ dX7_tenants_42 (by decide) (fun _ => ?_) (fun h => absurd h (by decide))
            refine lv_aload C.1 C.2.1 dX7_tenants_57 (lv_at hl 0 rfl) ?_
            refine x_ci (x_runVN (n := 0) C hw hS hml hl.1 (62 + 2 * i) 5 (by omega) (kd_h (by omega)) (by decide) rfl (c_X5_isMissing l g M hF i (by omega)) mn_700 mw_702 mw_38 mw_124 mw_703 rfl rfl (by decide +kernel) ⟨Nat.le_of_ble_eq_true rfl, Nat.le_of_ble_eq_true rfl⟩ rfl rfl (Nat.le_of_ble_eq_true rfl) dX7_tenants_59 ⟨Nat.zero_le _, Nat.zero_le _⟩) hS (fun r59 M59 H locs hr59 hp hw hS => ?_)
            rcases hp with ⟨em59, (⟨er59, h59b⟩ | ⟨er59, h59b⟩)⟩
            · have hw : Wo g M H := em59 ▸ hw
              rw [er59]
              refine x_if_eq (tgt := 68) C ⟨by decide, by decide⟩ dX7_tenants_62 (by decide) (fun h => absurd h (by decide)) (fun _ => ?_)
              refine lv_bipush (v := II (-11)) C.1 C.2.1 dX7_tenants_65 (by decide) ?_
              subst hQQ; exact x_ireturn C hr hlk hw hS ⟨by decide, by decide⟩ rfl (by have e : s_tens n v Sh (i : Int) so fr z = (-11, n, v) := (by unfold s_tens; simp only [Int.toNat_natCast]; have hm1 : Sh.1 i = -1 := (by rw [← p1]; exact h59b); rw [if_neg (fun y => y ⟨by omega, by omega, by omega⟩), if_neg (by omega), if_pos hm1]); rw [e]; exact ⟨rfl, hR, fun _ _ => rfl⟩) dX7_tenants_67
            · have hw : Wo g M H := em59 ▸ hw
              rw [er59]
              refine x_if_eq (tgt := 68) C ⟨by decide, by decide⟩ dX7_tenants_62 (by decide) (fun _ => ?_) (fun h => absurd h (by decide))
              have hms : ¬ Sh.1 i = -1 := by rw [← p1]; exact h59b
              obtain ⟨N, rfl⟩ : ∃ i : Nat, z = (i : Int) := ⟨z.toNat, by omega⟩
              have e0 : s_tens n v Sh (i : Int) so fr (N : Int) = tnR (Sh.2.2 i) (Sh.2.1 i) fr N 0 0 n v := by
                simp only [s_tens, Int.toNat_natCast]
                rw [if_neg (fun y => y ⟨by omega, by omega, by omega⟩), if_neg (by omega), if_neg hms]
              refine lv_iconst (v := II 0) C.1 C.2.1 dX7_tenants_68 rfl ?_
              refine lv_istore (lv' := [(6, .int (II 0)), (5, .ref (gA g (62 + 2 * i))), (0, .ref (gA g 0)), (1, .int (II (i : Int))), (2, .int (II so)), (3, .int (II fr)), (4, .int (II (N : Int)))]) C.1 C.2.1 dX7_tenants_69 hl (by decide) rfl (fun ls hl => ?_)
              refine lv_iconst (v := II 0) C.1 C.2.1 dX7_tenants_71 rfl ?_
              refine lv_istore (lv' := [(7, .int (II 0)), (6, .int (II 0)), (5, .ref (gA g (62 + 2 * i))), (0, .ref (gA g 0)), (1, .int (II (i : Int))), (2, .int (II so)), (3, .int (II fr)), (4, .int (II (N : Int)))]) C.1 C.2.1 dX7_tenants_72 hl (by decide) rfl (fun ls hl => ?_)
              have L74 : ∀ (f1 : Nat) (j : Nat) (cm : Int) (n2 : Nat) (v2 : Nat → Nat → Int) (M2 : Nat → Int), (N - j) < f1 → (j ≤ N ∧ 0 ≤ cm ∧ cm ≤ j) → (j = 0 ∨ (0 ≤ fr ∧ fr ≤ 40)) → (RepC M2 (n2, v2, nt, pd, t) X I Sh) → (InvA (n2, v2, nt, pd, t) X I Sh) → (tnR (Sh.2.2 i) (Sh.2.1 i) fr (N - j) j cm n2 v2 = tnR (Sh.2.2 i) (Sh.2.1 i) fr N 0 0 n v) → (∀ m, 70000 ≤ m → M2 m = M m) → ∀ (H : Heap) (locs : List Loc) (ls : Array Slot), Wo g M2 H → va_S (ar g) s.heap H locs → lv_has ls 9 [(0, .ref (gA g 0)), (1, .int (II (i : Int))), (2, .int (II so)), (3, .int (II fr)), (4, .int (II (N : Int))), (5, .ref (gA g (62 + 2 * i))), (6, .int (II cm)), (7, .int (II (j : Int)))] → W p l e (rmm 2 47) s m args below meth c H locs 0 0 QQ (F0 m 74 ls []) := by
                intro f1
                induction f1 with
                | zero => intro j cm n2 v2 M2 hmu; exact absurd hmu (Nat.not_lt_zero _)
                | succ f1 ih =>
                  intro j cm n2 v2 M2 hmu h1 h0 hR2 hA2 htn hk2 H locs ls hw hS hl
                  have ih74 := ih
                  have g_M2 := hw.rg
                  obtain ⟨q1, q2, q3⟩ := hR2.2.2.2 i (by omega)
                  refine lv_iload C.1 C.2.1 dX7_tenants_74 (lv_at hl 7 rfl) ?_
                  refine lv_iload C.1 C.2.1 dX7_tenants_76 (lv_at hl 4 rfl) ?_
                  refine x_icmp_ge (tgt := 147) C ⟨by omega, by omega⟩ ⟨by omega, by omega⟩ dX7_tenants_78 (by decide) (fun c78 => ?_) (fun c78 => ?_)
                  · refine lv_iload C.1 C.2.1 dX7_tenants_147 (lv_at hl 6 rfl) ?_
                    subst hQQ; exact x_ireturn C hr hlk hw hS ⟨by omega, by omega⟩ rfl (by rw [show N - j = 0 by omega, tnR] at htn; rw [e0, ← htn]; exact ⟨rfl, hR2, hk2⟩) dX7_tenants_149
                  · refine lv_iload_n C.1 C.2.1 dX7_tenants_81 rfl (lv_at hl 3 rfl) ?_
                    refine lv_iconst (v := II 3) C.1 C.2.1 dX7_tenants_82 rfl ?_
                    refine lv_iload C.1 C.2.1 dX7_tenants_83 (lv_at hl 7 rfl) ?_
                    refine x_imul C dX7_tenants_85 ?_
                    refine x_iadd C dX7_tenants_86 ?_
                    refine lv_istore (lv' := [(8, .int (II (fr + (3 * (j : Int))))), (0, .ref (gA g 0)), (1, .int (II (i : Int))), (2, .int (II so)), (3, .int (II fr)), (4, .int (II (N : Int))), (5, .ref (gA g (62 + 2 * i))), (6, .int (II cm)), (7, .int (II (j : Int)))]) C.1 C.2.1 dX7_tenants_87 hl (by decide) rfl (fun ls hl => ?_)
                    refine lv_aload C.1 C.2.1 dX7_tenants_89 (lv_at hl 6 rfl) ?_
                    refine lv_iload C.1 C.2.1 dX7_tenants_91 (lv_at hl 0 rfl) ?_
                    refine lv_iconst (v := II 3) C.1 C.2.1 dX7_tenants_93 rfl ?_
                    refine x_ci (x_runVN (n := 2) C hw hS hml hl.1 (62 + 2 * i) 5 (by omega) (kd_h (by omega)) (by decide) rfl (c_X5_holds l g M2 hF i (by omega) (fr + (3 * (j : Int))) ⟨by omega, by omega⟩ 3 ⟨by decide, by decide⟩ (by rw [q2]; omega)) mn_792 mw_794 mw_51 mw_124 mw_795 rfl rfl (by decide +kernel) ⟨Nat.le_of_ble_eq_true rfl, Nat.le_of_ble_eq_true rfl⟩ rfl rfl (Nat.le_of_ble_eq_true rfl) dX7_tenants_94 ⟨Nat.zero_le _, Nat.zero_le _⟩) hS (fun r94 M94 H locs hr94 hp hw hS => ?_)
                    rcases hp with ⟨em94, (⟨er94, h94b⟩ | ⟨er94, h94b⟩)⟩
                    · have hw : Wo g M2 H := em94 ▸ hw
                      rw [er94]
                      refine x_if_ne (tgt := 103) C ⟨by decide, by decide⟩ dX7_tenants_97 (by decide) (fun _ => ?_) (fun h => absurd h (by decide))
                      rw [q2] at h94b
                      have hfr0 : 0 ≤ fr := by omega
                      have estep := htn
                      rw [show N - j = (N - (j + 1)) + 1 by omega, tnR, if_pos (by omega)] at estep
                      refine lv_aload_n C.1 C.2.1 dX7_tenants_103 rfl (lv_at hl 1 rfl) ?_
                      refine lv_aload C.1 C.2.1 dX7_tenants_104 (lv_at hl 6 rfl) ?_
                      refine gn5 C hw (62 + 2 * i) (by omega) (kd_h (by omega)) 0 (by decide) mn_329 (svr (rRow hF _ (by omega))) dX7_tenants_106 ?_
                      refine lv_iload C.1 C.2.1 dX7_tenants_109 (lv_at hl 0 rfl) ?_
                      refine x_iaload (L := 40) C hw (63 + 2 * i) (by omega) (kd_r (by omega)) (ln_r (by omega)) (by omega) (by omega) (by decide) (x := (Sh.2.2 i (fr.toNat + 3 * j))) ((congrArg (fun z => M2 (1000 * (63 + 2 * i) + z)) (by omega)).trans (q3 (fr.toNat + 3 * j) (by omega))) dX7_tenants_111 ?_
                      refine lv_aload C.1 C.2.1 dX7_tenants_112 (lv_at hl 6 rfl) ?_
                      refine gn5 C hw (62 + 2 * i) (by omega) (kd_h (by omega)) 0 (by decide) mn_329 (svr (rRow hF _ (by omega))) dX7_tenants_114 ?_
                      refine lv_iload C.1 C.2.1 dX7_tenants_117 (lv_at hl 0 rfl) ?_
                      refine lv_iconst (v := II 1) C.1 C.2.1 dX7_tenants_119 rfl ?_
                      refine x_iadd C dX7_tenants_120 ?_
                      refine x_iaload (L := 40) C hw (63 + 2 * i) (by omega) (kd_r (by omega)) (ln_r (by omega)) (by omega) (by omega) (by decide) (x := (Sh.2.2 i (fr.toNat + 3 * j + 1))) ((congrArg (fun z => M2 (1000 * (63 + 2 * i) + z)) (by omega)).trans (q3 (fr.toNat + 3 * j + 1) (by omega))) dX7_tenants_121 ?_
                      refine lv_aload C.1 C.2.1 dX7_tenants_122 (lv_at hl 6 rfl) ?_
                      refine gn5 C hw (62 + 2 * i) (by omega) (kd_h (by omega)) 0 (by decide) mn_329 (svr (rRow hF _ (by omega))) dX7_tenants_124 ?_
                      refine lv_iload C.1 C.2.1 dX7_tenants_127 (lv_at hl 0 rfl) ?_
                      refine lv_iconst (v := II 2) C.1 C.2.1 dX7_tenants_129 rfl ?_
                      refine x_iadd C dX7_tenants_130 ?_
                      refine x_iaload (L := 40) C hw (63 + 2 * i) (by omega) (kd_r (by omega)) (ln_r (by omega)) (by omega) (by omega) (by decide) (x := (Sh.2.2 i (fr.toNat + 3 * j + 2))) ((congrArg (fun z => M2 (1000 * (63 + 2 * i) + z)) (by omega)).trans (q3 (fr.toNat + 3 * j + 2) (by omega))) dX7_tenants_131 ?_
                      refine x_ci (x_runV (n := 3) C hw hS hml hl.1 0 7 (by omega) rfl (by decide) rfl (c_X7_tenant l g M2 hF n2 v2 nt pd t X I Sh hR2 hA2 (Sh.2.2 i (fr.toNat + 3 * j)) ⟨by have := g_M2 (1000 * (63 + 2 * i) + (fr.toNat + 3 * j)); have := (q3 (fr.toNat + 3 * j) (by omega)); omega, by have := g_M2 (1000 * (63 + 2 * i) + (fr.toNat + 3 * j)); have := (q3 (fr.toNat + 3 * j) (by omega)); omega⟩ (Sh.2.2 i (fr.toNat + 3 * j + 1)) ⟨by have := g_M2 (1000 * (63 + 2 * i) + (fr.toNat + 3 * j + 1)); have := (q3 (fr.toNat + 3 * j + 1) (by omega)); omega, by have := g_M2 (1000 * (63 + 2 * i) + (fr.toNat + 3 * j + 1)); have := (q3 (fr.toNat + 3 * j + 1) (by omega)); omega⟩ (Sh.2.2 i (fr.toNat + 3 * j + 2)) ⟨by have := g_M2 (1000 * (63 + 2 * i) + (fr.toNat + 3 * j + 2)); have := (q3 (fr.toNat + 3 * j + 2) (by omega)); omega, by have := g_M2 (1000 * (63 + 2 * i) + (fr.toNat + 3 * j + 2)); have := (q3 (fr.toNat + 3 * j + 2) (by omega)); omega⟩) mw_805 mw_533 mw_534 mw_117 mw_535 rfl rfl (by decide +kernel) ⟨Nat.le_of_ble_eq_true rfl, Nat.le_of_ble_eq_true rfl⟩ rfl rfl (Nat.le_of_ble_eq_true rfl) dX7_tenants_132 ⟨Nat.zero_le _, Nat.zero_le _⟩) hS (fun r132 M132 H locs hr132 hp hw hS => ?_)
                      obtain ⟨er132, h132r, h132k⟩ := hp
                      have g_M132 := hw.rg
                      rw [er132] at hr132 ⊢
                      refine x_if_lt (tgt := 141) C hr132 dX7_tenants_135 (by decide) (fun c135 => ?_) (fun c135 => ?_)
                      · refine lv_iinc (v := II ((j : Int) + 1)) (lv' := [(7, .int (II ((j : Int) + 1))), (8, .int (II (fr + (3 * (j : Int))))), (0, .ref (gA g 0)), (1, .int (II (i : Int))), (2, .int (II so)), (3, .int (II fr)), (4, .int (II (N : Int))), (5, .ref (gA g (62 + 2 * i))), (6, .int (II cm))]) C.1 C.2.1 dX7_tenants_141 hl (k := 8) rfl (II_add _ _) (by decide) rfl (fun ls hl => ?_)
                        refine lv_goto (tgt := 74) C.1 C.2.1 dX7_tenants_144 (by decide) ?_
                        exact ih74  (j + 1) cm (n_ten n2 (Sh.2.2 i (fr.toNat + 3 * j)) (Sh.2.2 i (fr.toNat + 3 * j + 1)) (Sh.2.2 i (fr.toNat + 3 * j + 2))) (v_ten v2 n2 (Sh.2.2 i (fr.toNat + 3 * j)) (Sh.2.2 i (fr.toNat + 3 * j + 1)) (Sh.2.2 i (fr.toNat + 3 * j + 2))) M132 (by omega) (by omega) (Or.inr (by omega)) h132r (hA2.ten _ _ _) (by rw [← estep]; first | (rw [if_pos (by omega)]; done) | (rw [if_neg (by omega)]; done)) (fun m hm => (h132k m hm).trans (hk2 m hm)) _ _ _ hw hS (lv_sub hl [2, 3, 4, 5, 6, 7, 8, 0] rfl)
                      · refine lv_iinc (v := II (cm + 1)) (lv' := [(6, .int (II (cm + 1))), (8, .int (II (fr + (3 * (j : Int))))), (0, .ref (gA g 0)), (1, .int (II (i : Int))), (2, .int (II so)), (3, .int (II fr)), (4, .int (II (N : Int))), (5, .ref (gA g (62 + 2 * i))), (7, .int (II (j : Int)))]) C.1 C.2.1 dX7_tenants_138 hl (k := 7) rfl (II_add _ _) (by decide) rfl (fun ls hl => ?_)
                        refine lv_iinc (v := II ((j : Int) + 1)) (lv' := [(7, .int (II ((j : Int) + 1))), (6, .int (II (cm + 1))), (8, .int (II (fr + (3 * (j : Int))))), (0, .ref (gA g 0)), (1, .int (II (i : Int))), (2, .int (II so)), (3, .int (II fr)), (4, .int (II (N : Int))), (5, .ref (gA g (62 + 2 * i)))]) C.1 C.2.1 dX7_tenants_141 hl (k := 8) rfl (II_add _ _) (by decide) rfl (fun ls hl => ?_)
                        refine lv_goto (tgt := 74) C.1 C.2.1 dX7_tenants_144 (by decide) ?_
                        exact ih74  (j + 1) (cm + 1) (n_ten n2 (Sh.2.2 i (fr.toNat + 3 * j)) (Sh.2.2 i (fr.toNat + 3 * j + 1)) (Sh.2.2 i (fr.toNat + 3 * j + 2))) (v_ten v2 n2 (Sh.2.2 i (fr.toNat + 3 * j)) (Sh.2.2 i (fr.toNat + 3 * j + 1)) (Sh.2.2 i (fr.toNat + 3 * j + 2))) M132 (by omega) (by omega) (Or.inr (by omega)) h132r (hA2.ten _ _ _) (by rw [← estep]; first | (rw [if_pos (by omega)]; done) | (rw [if_neg (by omega)]; done)) (fun m hm => (h132k m hm).trans (hk2 m hm)) _ _ _ hw hS (lv_sub hl [3, 4, 5, 6, 7, 8, 1, 0] rfl)
                    · have hw : Wo g M2 H := em94 ▸ hw
                      rw [er94]
                      refine x_if_ne (tgt := 103) C ⟨by decide, by decide⟩ dX7_tenants_97 (by decide) (fun h => absurd h (by decide)) (fun _ => ?_)
                      refine lv_bipush (v := II (-12)) C.1 C.2.1 dX7_tenants_100 (by decide) ?_
                      subst hQQ; exact x_ireturn C hr hlk hw hS ⟨by decide, by decide⟩ rfl (by rw [q2] at h94b; rw [show N - j = (N - (j + 1)) + 1 by omega, tnR, if_neg (by omega)] at htn; rw [e0, ← htn]; exact ⟨rfl, hR2, hk2⟩) dX7_tenants_102
              exact L74 _ 0 0 n v M (Nat.lt_succ_self _) (by omega) (Or.inl rfl) hR hA rfl (fun _ _ => rfl) _ _ _ hw hS (lv_sub hl [3, 4, 5, 6, 7, 2, 1, 0] rfl)
          · have hw : Wo g M H := em39 ▸ hw
            rw [er39]
            refine x_if_ne (tgt := 57) C ⟨by decide, by decide⟩ dX7_tenants_42 (by decide) (fun h => absurd h (by decide)) (fun _ => ?_)
            refine lv_aload C.1 C.2.1 dX7_tenants_45 (lv_at hl 0 rfl) ?_
            refine gn5 C hw (62 + 2 * i) (by omega) (kd_h (by omega)) 1 (by decide) mn_331 (svi (x := Sh.1 i) ((hR.2.2.2 i (by omega)).1)) dX7_tenants_47 ?_
            refine lv_iload_n C.1 C.2.1 dX7_tenants_50 rfl (lv_at hl 3 rfl) ?_
            refine x_icmp_eq (tgt := 57) C ⟨by have := g_M (1000 * (62 + 2 * i) + 1); have := ((hR.2.2.2 i (by omega)).1); omega, by have := g_M (1000 * (62 + 2 * i) + 1); have := ((hR.2.2.2 i (by omega)).1); omega⟩ gz_so dX7_tenants_51 (by decide) (fun c51 => ?_) (fun c51 => ?_)
            · refine lv_aload C.1 C.2.1 dX7_tenants_57 (lv_at hl 0 rfl) ?_
              refine x_ci (x_runVN (n := 0) C hw hS hml hl.1 (62 + 2 * i) 5 (by omega) (kd_h (by omega)) (by decide) rfl (c_X5_isMissing l g M hF i (by omega)) mn_700 mw_702 mw_38 mw_124 mw_703 rfl rfl (by decide +kernel) ⟨Nat.le_of_ble_eq_true rfl, Nat.le_of_ble_eq_true rfl⟩ rfl rfl (Nat.le_of_ble_eq_true rfl) dX7_tenants_59 ⟨Nat.zero_le _, Nat.zero_le _⟩) hS (fun r59 M59 H locs hr59 hp hw hS => ?_)
              rcases hp with ⟨em59, (⟨er59, h59b⟩ | ⟨er59, h59b⟩)⟩
              · have hw : Wo g M H := em59 ▸ hw
                rw [er59]
                refine x_if_eq (tgt := 68) C ⟨by decide, by decide⟩ dX7_tenants_62 (by decide) (fun h => absurd h (by decide)) (fun _ => ?_)
                refine lv_bipush (v := II (-11)) C.1 C.2.1 dX7_tenants_65 (by decide) ?_
                subst hQQ; exact x_ireturn C hr hlk hw hS ⟨by decide, by decide⟩ rfl (by have e : s_tens n v Sh (i : Int) so fr z = (-11, n, v) := (by unfold s_tens; simp only [Int.toNat_natCast]; have hm1 : Sh.1 i = -1 := (by rw [← p1]; exact h59b); rw [if_neg (fun y => y ⟨by omega, by omega, by omega⟩), if_neg (by omega), if_pos hm1]); rw [e]; exact ⟨rfl, hR, fun _ _ => rfl⟩) dX7_tenants_67
              · have hw : Wo g M H := em59 ▸ hw
                rw [er59]
                refine x_if_eq (tgt := 68) C ⟨by decide, by decide⟩ dX7_tenants_62 (by decide) (fun _ => ?_) (fun h => absurd h (by decide))
                have hms : ¬ Sh.1 i = -1 := by rw [← p1]; exact h59b
                obtain ⟨N, rfl⟩ : ∃ i : Nat, z = (i : Int) := ⟨z.toNat, by omega⟩
                have e0 : s_tens n v Sh (i : Int) so fr (N : Int) = tnR (Sh.2.2 i) (Sh.2.1 i) fr N 0 0 n v := by
                  simp only [s_tens, Int.toNat_natCast]
                  rw [if_neg (fun y => y ⟨by omega, by omega, by omega⟩), if_neg (by omega), if_neg hms]
                refine lv_iconst (v := II 0) C.1 C.2.1 dX7_tenants_68 rfl ?_
                refine lv_istore (lv' := [(6, .int (II 0)), (5, .ref (gA g (62 + 2 * i))), (0, .ref (gA g 0)), (1, .int (II (i : Int))), (2, .int (II so)), (3, .int (II fr)), (4, .int (II (N : Int)))]) C.1 C.2.1 dX7_tenants_69 hl (by decide) rfl (fun ls hl => ?_)
                refine lv_iconst (v := II 0) C.1 C.2.1 dX7_tenants_71 rfl ?_
                refine lv_istore (lv' := [(7, .int (II 0)), (6, .int (II 0)), (5, .ref (gA g (62 + 2 * i))), (0, .ref (gA g 0)), (1, .int (II (i : Int))), (2, .int (II so)), (3, .int (II fr)), (4, .int (II (N : Int)))]) C.1 C.2.1 dX7_tenants_72 hl (by decide) rfl (fun ls hl => ?_)
                have L74 : ∀ (f2 : Nat) (j : Nat) (cm : Int) (n2 : Nat) (v2 : Nat → Nat → Int) (M2 : Nat → Int), (N - j) < f2 → (j ≤ N ∧ 0 ≤ cm ∧ cm ≤ j) → (j = 0 ∨ (0 ≤ fr ∧ fr ≤ 40)) → (RepC M2 (n2, v2, nt, pd, t) X I Sh) → (InvA (n2, v2, nt, pd, t) X I Sh) → (tnR (Sh.2.2 i) (Sh.2.1 i) fr (N - j) j cm n2 v2 = tnR (Sh.2.2 i) (Sh.2.1 i) fr N 0 0 n v) → (∀ m, 70000 ≤ m → M2 m = M m) → ∀ (H : Heap) (locs : List Loc) (ls : Array Slot), Wo g M2 H → va_S (ar g) s.heap H locs → lv_has ls 9 [(0, .ref (gA g 0)), (1, .int (II (i : Int))), (2, .int (II so)), (3, .int (II fr)), (4, .int (II (N : Int))), (5, .ref (gA g (62 + 2 * i))), (6, .int (II cm)), (7, .int (II (j : Int)))] → W p l e (rmm 2 47) s m args below meth c H locs 0 0 QQ (F0 m 74 ls []) := by
                  intro f2
                  induction f2 with
                  | zero => intro j cm n2 v2 M2 hmu; exact absurd hmu (Nat.not_lt_zero _)
                  | succ f2 ih =>
                    intro j cm n2 v2 M2 hmu h1 h0 hR2 hA2 htn hk2 H locs ls hw hS hl
                    have ih74 := ih
                    have g_M2 := hw.rg
                    obtain ⟨q1, q2, q3⟩ := hR2.2.2.2 i (by omega)
                    refine lv_iload C.1 C.2.1 dX7_tenants_74 (lv_at hl 7 rfl) ?_
                    refine lv_iload C.1 C.2.1 dX7_tenants_76 (lv_at hl 4 rfl) ?_
                    refine x_icmp_ge (tgt := 147) C ⟨by omega, by omega⟩ ⟨by omega, by omega⟩ dX7_tenants_78 (by decide) (fun c78 => ?_) (fun c78 => ?_)
                    · refine lv_iload C.1 C.2.1 dX7_tenants_147 (lv_at hl 6 rfl) ?_
                      subst hQQ; exact x_ireturn C hr hlk hw hS ⟨by omega, by omega⟩ rfl (by rw [show N - j = 0 by omega, tnR] at htn; rw [e0, ← htn]; exact ⟨rfl, hR2, hk2⟩) dX7_tenants_149
                    · refine lv_iload_n C.1 C.2.1 dX7_tenants_81 rfl (lv_at hl 3 rfl) ?_
                      refine lv_iconst (v := II 3) C.1 C.2.1 dX7_tenants_82 rfl ?_
                      refine lv_iload C.1 C.2.1 dX7_tenants_83 (lv_at hl 7 rfl) ?_
                      refine x_imul C dX7_tenants_85 ?_
                      refine x_iadd C dX7_tenants_86 ?_
                      refine lv_istore (lv' := [(8, .int (II (fr + (3 * (j : Int))))), (0, .ref (gA g 0)), (1, .int (II (i : Int))), (2, .int (II so)), (3, .int (II fr)), (4, .int (II (N : Int))), (5, .ref (gA g (62 + 2 * i))), (6, .int (II cm)), (7, .int (II (j : Int)))]) C.1 C.2.1 dX7_tenants_87 hl (by decide) rfl (fun ls hl => ?_)
                      refine lv_aload C.1 C.2.1 dX7_tenants_89 (lv_at hl 6 rfl) ?_
                      refine lv_iload C.1 C.2.1 dX7_tenants_91 (lv_at hl 0 rfl) ?_
                      refine lv_iconst (v := II 3) C.1 C.2.1 dX7_tenants_93 rfl ?_
                      refine x_ci (x_runVN (n := 2) C hw hS hml hl.1 (62 + 2 * i) 5 (by omega) (kd_h (by omega)) (by decide) rfl (c_X5_holds l g M2 hF i (by omega) (fr + (3 * (j : Int))) ⟨by omega, by omega⟩ 3 ⟨by decide, by decide⟩ (by rw [q2]; omega)) mn_792 mw_794 mw_51 mw_124 mw_795 rfl rfl (by decide +kernel) ⟨Nat.le_of_ble_eq_true rfl, Nat.le_of_ble_eq_true rfl⟩ rfl rfl (Nat.le_of_ble_eq_true rfl) dX7_tenants_94 ⟨Nat.zero_le _, Nat.zero_le _⟩) hS (fun r94 M94 H locs hr94 hp hw hS => ?_)
                      rcases hp with ⟨em94, (⟨er94, h94b⟩ | ⟨er94, h94b⟩)⟩
                      · have hw : Wo g M2 H := em94 ▸ hw
                        rw [er94]
                        refine x_if_ne (tgt := 103) C ⟨by decide, by decide⟩ dX7_tenants_97 (by decide) (fun _ => ?_) (fun h => absurd h (by decide))
                        rw [q2] at h94b
                        have hfr0 : 0 ≤ fr := by omega
                        have estep := htn
                        rw [show N - j = (N - (j + 1)) + 1 by omega, tnR, if_pos (by omega)] at estep
                        refine lv_aload_n C.1 C.2.1 dX7_tenants_103 rfl (lv_at hl 1 rfl) ?_
                        refine lv_aload C.1 C.2.1 dX7_tenants_104 (lv_at hl 6 rfl) ?_
                        refine gn5 C hw (62 + 2 * i) (by omega) (kd_h (by omega)) 0 (by decide) mn_329 (svr (rRow hF _ (by omega))) dX7_tenants_106 ?_
                        refine lv_iload C.1 C.2.1 dX7_tenants_109 (lv_at hl 0 rfl) ?_
                        refine x_iaload (L := 40) C hw (63 + 2 * i) (by omega) (kd_r (by omega)) (ln_r (by omega)) (by omega) (by omega) (by decide) (x := (Sh.2.2 i (fr.toNat + 3 * j))) ((congrArg (fun z => M2 (1000 * (63 + 2 * i) + z)) (by omega)).trans (q3 (fr.toNat + 3 * j) (by omega))) dX7_tenants_111 ?_
                        refine lv_aload C.1 C.2.1 dX7_tenants_112 (lv_at hl 6 rfl) ?_
                        refine gn5 C hw (62 + 2 * i) (by omega) (kd_h (by omega)) 0 (by decide) mn_329 (svr (rRow hF _ (by omega))) dX7_tenants_114 ?_
                        refine lv_iload C.1 C.2.1 dX7_tenants_117 (lv_at hl 0 rfl) ?_
                        refine lv_iconst (v := II 1) C.1 C.2.1 dX7_tenants_119 rfl ?_
                        refine x_iadd C dX7_tenants_120 ?_
                        refine x_iaload (L := 40) C hw (63 + 2 * i) (by omega) (kd_r (by omega)) (ln_r (by omega)) (by omega) (by omega) (by decide) (x := (Sh.2.2 i (fr.toNat + 3 * j + 1))) ((congrArg (fun z => M2 (1000 * (63 + 2 * i) + z)) (by omega)).trans (q3 (fr.toNat + 3 * j + 1) (by omega))) dX7_tenants_121 ?_
                        refine lv_aload C.1 C.2.1 dX7_tenants_122 (lv_at hl 6 rfl) ?_
                        refine gn5 C hw (62 + 2 * i) (by omega) (kd_h (by omega)) 0 (by decide) mn_329 (svr (rRow hF _ (by omega))) dX7_tenants_124 ?_
                        refine lv_iload C.1 C.2.1 dX7_tenants_127 (lv_at hl 0 rfl) ?_
                        refine lv_iconst (v := II 2) C.1 C.2.1 dX7_tenants_129 rfl ?_
                        refine x_iadd C dX7_tenants_130 ?_
                        refine x_iaload (L := 40) C hw (63 + 2 * i) (by omega) (kd_r (by omega)) (ln_r (by omega)) (by omega) (by omega) (by decide) (x := (Sh.2.2 i (fr.toNat + 3 * j + 2))) ((congrArg (fun z => M2 (1000 * (63 + 2 * i) + z)) (by omega)).trans (q3 (fr.toNat + 3 * j + 2) (by omega))) dX7_tenants_131 ?_
                        refine x_ci (x_runV (n := 3) C hw hS hml hl.1 0 7 (by omega) rfl (by decide) rfl (c_X7_tenant l g M2 hF n2 v2 nt pd t X I Sh hR2 hA2 (Sh.2.2 i (fr.toNat + 3 * j)) ⟨by have := g_M2 (1000 * (63 + 2 * i) + (fr.toNat + 3 * j)); have := (q3 (fr.toNat + 3 * j) (by omega)); omega, by have := g_M2 (1000 * (63 + 2 * i) + (fr.toNat + 3 * j)); have := (q3 (fr.toNat + 3 * j) (by omega)); omega⟩ (Sh.2.2 i (fr.toNat + 3 * j + 1)) ⟨by have := g_M2 (1000 * (63 + 2 * i) + (fr.toNat + 3 * j + 1)); have := (q3 (fr.toNat + 3 * j + 1) (by omega)); omega, by have := g_M2 (1000 * (63 + 2 * i) + (fr.toNat + 3 * j + 1)); have := (q3 (fr.toNat + 3 * j + 1) (by omega)); omega⟩ (Sh.2.2 i (fr.toNat + 3 * j + 2)) ⟨by have := g_M2 (1000 * (63 + 2 * i) + (fr.toNat + 3 * j + 2)); have := (q3 (fr.toNat + 3 * j + 2) (by omega)); omega, by have := g_M2 (1000 * (63 + 2 * i) + (fr.toNat + 3 * j + 2)); have := (q3 (fr.toNat + 3 * j + 2) (by omega)); omega⟩) mw_805 mw_533 mw_534 mw_117 mw_535 rfl rfl (by decide +kernel) ⟨Nat.le_of_ble_eq_true rfl, Nat.le_of_ble_eq_true rfl⟩ rfl rfl (Nat.le_of_ble_eq_true rfl) dX7_tenants_132 ⟨Nat.zero_le _, Nat.zero_le _⟩) hS (fun r132 M132 H locs hr132 hp hw hS => ?_)
                        obtain ⟨er132, h132r, h132k⟩ := hp
                        have g_M132 := hw.rg
                        rw [er132] at hr132 ⊢
                        refine x_if_lt (tgt := 141) C hr132 dX7_tenants_135 (by decide) (fun c135 => ?_) (fun c135 => ?_)
                        · refine lv_iinc (v := II ((j : Int) + 1)) (lv' := [(7, .int (II ((j : Int) + 1))), (8, .int (II (fr + (3 * (j : Int))))), (0, .ref (gA g 0)), (1, .int (II (i : Int))), (2, .int (II so)), (3, .int (II fr)), (4, .int (II (N : Int))), (5, .ref (gA g (62 + 2 * i))), (6, .int (II cm))]) C.1 C.2.1 dX7_tenants_141 hl (k := 8) rfl (II_add _ _) (by decide) rfl (fun ls hl => ?_)
                          refine lv_goto (tgt := 74) C.1 C.2.1 dX7_tenants_144 (by decide) ?_
                          exact ih74  (j + 1) cm (n_ten n2 (Sh.2.2 i (fr.toNat + 3 * j)) (Sh.2.2 i (fr.toNat + 3 * j + 1)) (Sh.2.2 i (fr.toNat + 3 * j + 2))) (v_ten v2 n2 (Sh.2.2 i (fr.toNat + 3 * j)) (Sh.2.2 i (fr.toNat + 3 * j + 1)) (Sh.2.2 i (fr.toNat + 3 * j + 2))) M132 (by omega) (by omega) (Or.inr (by omega)) h132r (hA2.ten _ _ _) (by rw [← estep]; first | (rw [if_pos (by omega)]; done) | (rw [if_neg (by omega)]; done)) (fun m hm => (h132k m hm).trans (hk2 m hm)) _ _ _ hw hS (lv_sub hl [2, 3, 4, 5, 6, 7, 8, 0] rfl)
                        · refine lv_iinc (v := II (cm + 1)) (lv' := [(6, .int (II (cm + 1))), (8, .int (II (fr + (3 * (j : Int))))), (0, .ref (gA g 0)), (1, .int (II (i : Int))), (2, .int (II so)), (3, .int (II fr)), (4, .int (II (N : Int))), (5, .ref (gA g (62 + 2 * i))), (7, .int (II (j : Int)))]) C.1 C.2.1 dX7_tenants_138 hl (k := 7) rfl (II_add _ _) (by decide) rfl (fun ls hl => ?_)
                          refine lv_iinc (v := II ((j : Int) + 1)) (lv' := [(7, .int (II ((j : Int) + 1))), (6, .int (II (cm + 1))), (8, .int (II (fr + (3 * (j : Int))))), (0, .ref (gA g 0)), (1, .int (II (i : Int))), (2, .int (II so)), (3, .int (II fr)), (4, .int (II (N : Int))), (5, .ref (gA g (62 + 2 * i)))]) C.1 C.2.1 dX7_tenants_141 hl (k := 8) rfl (II_add _ _) (by decide) rfl (fun ls hl => ?_)
                          refine lv_goto (tgt := 74) C.1 C.2.1 dX7_tenants_144 (by decide) ?_
                          exact ih74  (j + 1) (cm + 1) (n_ten n2 (Sh.2.2 i (fr.toNat + 3 * j)) (Sh.2.2 i (fr.toNat + 3 * j + 1)) (Sh.2.2 i (fr.toNat + 3 * j + 2))) (v_ten v2 n2 (Sh.2.2 i (fr.toNat + 3 * j)) (Sh.2.2 i (fr.toNat + 3 * j + 1)) (Sh.2.2 i (fr.toNat + 3 * j + 2))) M132 (by omega) (by omega) (Or.inr (by omega)) h132r (hA2.ten _ _ _) (by rw [← estep]; first | (rw [if_pos (by omega)]; done) | (rw [if_neg (by omega)]; done)) (fun m hm => (h132k m hm).trans (hk2 m hm)) _ _ _ hw hS (lv_sub hl [3, 4, 5, 6, 7, 8, 1, 0] rfl)
                      · have hw : Wo g M2 H := em94 ▸ hw
                        rw [er94]
                        refine x_if_ne (tgt := 103) C ⟨by decide, by decide⟩ dX7_tenants_97 (by decide) (fun h => absurd h (by decide)) (fun _ => ?_)
                        refine lv_bipush (v := II (-12)) C.1 C.2.1 dX7_tenants_100 (by decide) ?_
                        subst hQQ; exact x_ireturn C hr hlk hw hS ⟨by decide, by decide⟩ rfl (by rw [q2] at h94b; rw [show N - j = (N - (j + 1)) + 1 by omega, tnR, if_neg (by omega)] at htn; rw [e0, ← htn]; exact ⟨rfl, hR2, hk2⟩) dX7_tenants_102
                exact L74 _ 0 0 n v M (Nat.lt_succ_self _) (by omega) (Or.inl rfl) hR hA rfl (fun _ _ => rfl) _ _ _ hw hS (lv_sub hl [3, 4, 5, 6, 7, 2, 1, 0] rfl)
            · refine lv_bipush (v := II (-13)) C.1 C.2.1 dX7_tenants_54 (by decide) ?_
              subst hQQ; exact x_ireturn C hr hlk hw hS ⟨by decide, by decide⟩ rfl (by have e : s_tens n v Sh (i : Int) so fr z = (-13, n, v) := (by unfold s_tens; simp only [Int.toNat_natCast]; rw [if_neg (fun y => y ⟨by omega, by omega, by omega⟩), if_pos ⟨by rw [← p1]; exact h39b, c51⟩]); rw [e]; exact ⟨rfl, hR, fun _ _ => rfl⟩) dX7_tenants_56
        · refine lv_bipush (v := II (-2)) C.1 C.2.1 dX7_tenants_26 (by decide) ?_
          subst hQQ; exact x_ireturn C hr hlk hw hS ⟨by decide, by decide⟩ rfl (by have e : s_tens n v Sh s0 so fr z = (-2, n, v) := (by unfold s_tens; rw [if_pos (fun y => by first | omega | exact h8b y.2.1 | exact h1b y.1)]); rw [e]; exact ⟨rfl, hR, fun _ _ => rfl⟩) dX7_tenants_28
    · have hw : Wo g M H := em8 ▸ hw
      rw [er8]
      refine x_if_eq (tgt := 26) C ⟨by decide, by decide⟩ dX7_tenants_11 (by decide) (fun _ => ?_) (fun h => absurd h (by decide))
      refine lv_bipush (v := II (-2)) C.1 C.2.1 dX7_tenants_26 (by decide) ?_
      subst hQQ; exact x_ireturn C hr hlk hw hS ⟨by decide, by decide⟩ rfl (by have e : s_tens n v Sh s0 so fr z = (-2, n, v) := (by unfold s_tens; rw [if_pos (fun y => by first | omega | exact h8b y.2.1 | exact h1b y.1)]); rw [e]; exact ⟨rfl, hR, fun _ _ => rfl⟩) dX7_tenants_28
  · have hw : Wo g M H := em1 ▸ hw
    rw [er1]
    refine x_if_eq (tgt := 26) C ⟨by decide, by decide⟩ dX7_tenants_4 (by decide) (fun _ => ?_) (fun h => absurd h (by decide))
    refine lv_bipush (v := II (-2)) C.1 C.2.1 dX7_tenants_26 (by decide) ?_
    subst hQQ; exact x_ireturn C hr hlk hw hS ⟨by decide, by decide⟩ rfl (by have e : s_tens n v Sh s0 so fr z = (-2, n, v) := (by unfold s_tens; rw [if_pos (fun y => by first | omega | exact h8b y.2.1 | exact h1b y.1)]); rw [e]; exact ⟨rfl, hR, fun _ _ => rfl⟩) dX7_tenants_28

set_option maxHeartbeats 4000000 in
set_option maxRecDepth 100000 in
theorem c_X4_append (l : Launch) (g : Gm) (M : Nat → Int) (hT : LvR g) (ts : Nat) (hts : M 45001 = (ts : Int) ∧ ts ≤ 160) (x : Int) (gx : rg x) : CI l ({ cls := "RatedBySighs$Reader", name := "append", desc := "(I)Z" } : Jvm.MethodName) cX4_append 2 .boolean (rmm 0 0) g M [.ref (gA g 45), .int (II x)] (fun r M' => ((r = 1 ∧ (ts < 160 ∧ M' = stM (stM M (46000 + ts) x) 45001 ((ts : Int) + 1))) ∨ (r = 0 ∧ (ts = 160 ∧ M' = M)))) := by
  refine c_start (by decide) (Nat.le_of_ble_eq_true rfl) (fun p e s m below meth c ls C hr hlk hml hw hS hl => ?_)
  have hl : lv_has ls 2 [(0, .ref (gA g 45)), (1, .int (II x))] := hl
  have g_M := hw.rg
  have hN : 49 ≤ gN g := hT.1
  refine lv_aload_n C.1 C.2.1 dX4_append_0 rfl (lv_at hl 0 rfl) ?_
  refine g4 C hw 45 (by omega) rfl 1 (by decide) mw_275 (svi (x := (ts : Int)) hts.1) dX4_append_1 ?_
  refine lv_sipush (v := II 160) C.1 C.2.1 dX4_append_4 (by decide) ?_
  refine x_icmp_lt (tgt := 12) C ⟨by have := g_M 45001; have := hts.1; omega, by have := g_M 45001; have := hts.1; omega⟩ ⟨by decide, by decide⟩ dX4_append_7 (by decide) (fun c7 => ?_) (fun c7 => ?_)
  · refine lv_aload_n C.1 C.2.1 dX4_append_12 rfl (lv_at hl 0 rfl) ?_
    refine g4 C hw 45 (by omega) rfl 0 (by decide) mw_274 (svr hT.2.1) dX4_append_13 ?_
    refine lv_aload_n C.1 C.2.1 dX4_append_16 rfl (lv_at hl 0 rfl) ?_
    refine g4 C hw 45 (by omega) rfl 1 (by decide) mw_275 (svi (x := (ts : Int)) hts.1) dX4_append_17 ?_
    refine lv_iload_n C.1 C.2.1 dX4_append_20 rfl (lv_at hl 1 rfl) ?_
    refine x_iastore (L := 160) C hw hS 46 (by omega) rfl rfl (by omega) (by omega) (by decide) (x := x) gx dX4_append_21 (fun H locs hw hS => ?_)
    have hw : Wo g (stM M (46000 + ts) x) H := hw
    refine lv_aload_n C.1 C.2.1 dX4_append_22 rfl (lv_at hl 0 rfl) ?_
    refine lv_dup C.1 C.2.1 dX4_append_23 rfl ?_
    refine g4 C hw 45 (by omega) rfl 1 (by decide) mw_275 (svi (x := (ts : Int)) ((st_n (by omega)).trans hts.1)) dX4_append_24 ?_
    refine lv_iconst (v := II 1) C.1 C.2.1 dX4_append_27 rfl ?_
    refine x_iadd C dX4_append_28 ?_
    refine p4 C hw hS 45 (by omega) rfl 1 (by decide) mw_275 rfl (x := (ts : Int) + 1) ⟨by omega, by omega⟩ (svi st_s) (tyX4_ok 1 (by decide)) rfl rfl dX4_append_29 (fun H locs hw hS => ?_)
    have hw : Wo g (stM (stM M (46000 + ts) x) 45001 ((ts : Int) + 1)) H := hw
    refine lv_iconst (v := II 1) C.1 C.2.1 dX4_append_32 rfl ?_
    exact x_ireturn C hr hlk hw hS ⟨by decide, by decide⟩ (by decide) (Or.inl ⟨rfl, by omega, rfl⟩) dX4_append_33
  · refine lv_iconst (v := II 0) C.1 C.2.1 dX4_append_10 rfl ?_
    exact x_ireturn C hr hlk hw hS ⟨by decide, by decide⟩ (by decide) (Or.inr ⟨rfl, by omega, rfl⟩) dX4_append_11

set_option maxHeartbeats 4000000 in
set_option maxRecDepth 100000 in
theorem c_X7_feed (l : Launch) (g : Gm) (M : Nat → Int) (hF : LvF g) (n : Nat) (v : Nat → Nat → Int) (nt : Int) (pd : Int) (t : Nat) (X : Txt) (I : Option Bor) (Sh : Sht) (hR : RepC M (n, v, nt, pd, t) X I Sh) (hA : InvA (n, v, nt, pd, t) X I Sh) (x : Int) (gz_x : rg x) : CI l ({ cls := "RatedBySighs", name := "feed", desc := "(I)I" } : Jvm.MethodName) cX7_feed 2 .int (rmm 1 21) g M [.ref (gA g 0), .int (II x)] (fun r M' => r = r_feed X x ∧ (RepC M' (n, v, nt, pd, t) (x_feed X x) I Sh) ∧ (∀ m, 70000 ≤ m → M' m = M m)) := by
  refine c_start (by decide) (Nat.le_of_ble_eq_true rfl) (fun p e s m below meth c ls C hr hlk hml hw hS hl => ?_)
  have hl : lv_has ls 2 [(0, .ref (gA g 0)), (1, .int (II x))] := hl
  have g_M := hw.rg
  have hN : gN g = 84 := hF.1
  have hB : BV M n v nt t (X.2.1 t) := hR.bv hA
  have hn2 : n ≤ 8 := hB.1.2
  have hnt := hB.2.2.2.1.2
  have hpd : 0 ≤ pd ∧ pd ≤ 999999999 := hA.1.2.2.2.2.1
  have hT := hF.r
  have hts := hA.2.2.1.1
  refine lv_iload_n C.1 C.2.1 dX7_feed_0 rfl (lv_at hl 1 rfl) ?_
  refine x_if_lt (tgt := 11) C gz_x dX7_feed_1 (by decide) (fun c1 => ?_) (fun c1 => ?_)
  · refine lv_bipush (v := II (-2)) C.1 C.2.1 dX7_feed_11 (by decide) ?_
    exact x_ireturn C hr hlk hw hS ⟨by decide, by decide⟩ rfl (by unfold r_feed x_feed; rw [if_pos (by omega), if_neg (by omega)]; exact ⟨rfl, hR, fun _ _ => rfl⟩) dX7_feed_13
  · refine lv_iload_n C.1 C.2.1 dX7_feed_4 rfl (lv_at hl 1 rfl) ?_
    refine lv_sipush (v := II 255) C.1 C.2.1 dX7_feed_5 (by decide) ?_
    refine x_icmp_le (tgt := 14) C gz_x ⟨by decide, by decide⟩ dX7_feed_8 (by decide) (fun c8 => ?_) (fun c8 => ?_)
    · refine lv_aload_n C.1 C.2.1 dX7_feed_14 rfl (lv_at hl 0 rfl) ?_
      refine g7 C hw 0 (by omega) rfl 3 (by decide) mw_483 (svr (hF.2 _)) dX7_feed_15 ?_
      refine lv_iload_n C.1 C.2.1 dX7_feed_18 rfl (lv_at hl 1 rfl) ?_
      refine x_ci (x_runVN (n := 1) C hw hS hml hl.1 45 4 (by omega) rfl (by decide) rfl (c_X4_append l g M hT X.2.2.1 ⟨hR.2.1.2.2.1, hts⟩ x gz_x) mn_390 mw_392 mw_0 mw_122 mw_393 rfl rfl (by decide +kernel) ⟨Nat.le_of_ble_eq_true rfl, Nat.le_of_ble_eq_true rfl⟩ rfl rfl (Nat.le_of_ble_eq_true rfl) dX7_feed_19 ⟨Nat.zero_le _, Nat.zero_le _⟩) hS (fun r19 M19 H locs hr19 hp hw hS => ?_)
      rcases hp with ⟨er19, h19b⟩ | ⟨er19, h19b⟩
      · have g_M19 := hw.rg
        rw [er19]
        refine x_if_eq (tgt := 35) C ⟨by decide, by decide⟩ dX7_feed_22 (by decide) (fun h => absurd h (by decide)) (fun _ => ?_)
        refine lv_aload_n C.1 C.2.1 dX7_feed_25 rfl (lv_at hl 0 rfl) ?_
        refine g7 C hw 0 (by omega) rfl 3 (by decide) mw_483 (svr (hF.2 _)) dX7_feed_26 ?_
        refine gn4 C hw 45 (by omega) rfl 1 (by decide) mn_276 (svi (x := (X.2.2.1 : Int) + 1) (show M19 45001 = (X.2.2.1 : Int) + 1 from by rw [h19b.2]; exact st_s)) dX7_feed_29 ?_
        refine lv_goto (tgt := 37) C.1 C.2.1 dX7_feed_32 (by decide) ?_
        exact x_ireturn C hr hlk hw hS ⟨by have := g_M19 45001; have := (show M19 45001 = (X.2.2.1 : Int) + 1 from by rw [h19b.2]; exact st_s); omega, by have := g_M19 45001; have := (show M19 45001 = (X.2.2.1 : Int) + 1 from by rw [h19b.2]; exact st_s); omega⟩ rfl (by
    unfold r_feed x_feed
    first
    | (rw [if_neg (by omega), if_pos (by omega), if_neg (by omega), h19b.2]; exact ⟨rfl, hR, fun _ _ => rfl⟩)
    | (rw [if_neg (by omega), if_neg (by omega), if_pos (by omega), h19b.2]
       refine ⟨rfl, ⟨hR.1.fr hA.1.1 (fun m hm => by rw [st_n (by omega), st_n (by omega)]), ⟨by rw [st_n (by omega), st_n (by omega)]; exact hR.2.1.1, fun t ht => (hR.2.1.2.1 t ht).fr (fun m hm => by have : t < X.1 := ht; have := hA.2.1.2; rw [st_n (by omega), st_n (by omega)]), st_s, fun i hi => ?_⟩, hR.2.2.1.fr hA.im (fun m hm => by rw [st_n (by omega), st_n (by omega)]), hR.2.2.2.fr hA.sz (fun m hm => by rw [st_n (by omega), st_n (by omega)])⟩, fun m hm => by rw [st_n (by omega), st_n (by omega)]⟩
       have hi9 : i < X.2.2.1 + 1 := hi
       rw [st_n (by omega)]
       show _ = up1 X.2.2.2 X.2.2.1 x i
       unfold up1
       by_cases e : i = X.2.2.1
       · rw [e, st_s, if_pos rfl]
       · rw [st_n (by omega), if_neg e]; exact hR.2.1.2.2.2 i (by omega))) dX7_feed_37
      · have g_M19 := hw.rg
        rw [er19]
        refine x_if_eq (tgt := 35) C ⟨by decide, by decide⟩ dX7_feed_22 (by decide) (fun _ => ?_) (fun h => absurd h (by decide))
        refine lv_bipush (v := II (-4)) C.1 C.2.1 dX7_feed_35 (by decide) ?_
        exact x_ireturn C hr hlk hw hS ⟨by decide, by decide⟩ rfl (by
    unfold r_feed x_feed
    first
    | (rw [if_neg (by omega), if_pos (by omega), if_neg (by omega), h19b.2]; exact ⟨rfl, hR, fun _ _ => rfl⟩)
    | (rw [if_neg (by omega), if_neg (by omega), if_pos (by omega), h19b.2]
       refine ⟨rfl, ⟨hR.1.fr hA.1.1 (fun m hm => by rw [st_n (by omega), st_n (by omega)]), ⟨by rw [st_n (by omega), st_n (by omega)]; exact hR.2.1.1, fun t ht => (hR.2.1.2.1 t ht).fr (fun m hm => by have : t < X.1 := ht; have := hA.2.1.2; rw [st_n (by omega), st_n (by omega)]), st_s, fun i hi => ?_⟩, hR.2.2.1.fr hA.im (fun m hm => by rw [st_n (by omega), st_n (by omega)]), hR.2.2.2.fr hA.sz (fun m hm => by rw [st_n (by omega), st_n (by omega)])⟩, fun m hm => by rw [st_n (by omega), st_n (by omega)]⟩
       have hi9 : i < X.2.2.1 + 1 := hi
       rw [st_n (by omega)]
       show _ = up1 X.2.2.2 X.2.2.1 x i
       unfold up1
       by_cases e : i = X.2.2.1
       · rw [e, st_s, if_pos rfl]
       · rw [st_n (by omega), if_neg e]; exact hR.2.1.2.2.2 i (by omega))) dX7_feed_37
    · refine lv_bipush (v := II (-2)) C.1 C.2.1 dX7_feed_11 (by decide) ?_
      exact x_ireturn C hr hlk hw hS ⟨by decide, by decide⟩ rfl (by unfold r_feed x_feed; rw [if_pos (by omega), if_neg (by omega)]; exact ⟨rfl, hR, fun _ _ => rfl⟩) dX7_feed_13
