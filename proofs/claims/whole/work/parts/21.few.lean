def bcX (x : Int32) : Int32 :=
  let a := x - ((x.toUInt32 >>> ((II 1).toUInt32 &&& Int32.toUInt32 31)).toInt32 &&& II 1431655765)
  let b := (a &&& II 858993459) + ((a.toUInt32 >>> ((II 2).toUInt32 &&& Int32.toUInt32 31)).toInt32 &&& II 858993459)
  let d := (b + (b.toUInt32 >>> ((II 4).toUInt32 &&& Int32.toUInt32 31)).toInt32) &&& II 252645135
  let f := d + (d.toUInt32 >>> ((II 8).toUInt32 &&& Int32.toUInt32 31)).toInt32
  (f + (f.toUInt32 >>> ((II 16).toUInt32 &&& Int32.toUInt32 31)).toInt32) &&& II 63
/-- how many bits of 0 .. 63 -/
def bc (o : Nat) : Nat := o % 2 + o / 2 % 2 + o / 4 % 2 + o / 8 % 2 + o / 16 % 2 + o / 32 % 2
theorem bcX_bc : ∀ o, o < 64 → bcX (II (o : Nat)) = II (bc o : Nat) := by decide +kernel
theorem bc_le : ∀ o, o < 64 → bc o ≤ 6 := by decide +kernel
/-- the fewest hours: of those that do, the fewest bits, of like ones the least -/
def isFew (P : Nat → Prop) (r : Int) : Prop := (r = -1 ∧ ∀ o, o < 64 → ¬ P o) ∨ ∃ o : Nat, r = (o : Int) ∧ o < 64 ∧ P o ∧ ∀ o', o' < 64 → P o' → bc o < bc o' ∨ (bc o = bc o' ∧ o ≤ o')
theorem isFew_u {P : Nat → Prop} {r r' : Int} (h : isFew P r) (h' : isFew P r') : r = r' := by
  rcases h with ⟨h1, h2⟩ | ⟨o, h1, h2, h3, h4⟩ <;> rcases h' with ⟨g1, g2⟩ | ⟨o', g1, g2, g3, g4⟩
  · omega
  · exact absurd g3 (h2 o' g2)
  · exact absurd h3 (g2 o h2)
  · have a := h4 o' g2 g3
    have b := g4 o h2 h3
    omega
set_option maxHeartbeats 4000000 in
set_option maxRecDepth 100000 in
theorem c_X7_drawn (l : Launch) (g : Gm) (M : Nat → Int) (hF : LvF g) (n : Nat) (v : Nat → Nat → Int) (nt : Int) (pd : Int) (t : Nat) (X : Txt) (I : Option Bor) (Sh : Sht) (hR : RepC M (n, v, nt, pd, t) X I Sh) (hA : InvA (n, v, nt, pd, t) X I Sh) (s0 : Int) (gz_s0 : rg s0) : CI l ({ cls := "RatedBySighs", name := "drawn", desc := "(I)I" } : Jvm.MethodName) cX7_drawn 2 .int (rmm 6 145) g M [.ref (gA g 0), .int (II s0)] (fun r M' => r = allS (vD v s0 n) n nt (X.2.1 t) ∧ (RepC M' (n, v, nt, pd, t) X I Sh) ∧ (∀ m, 70000 ≤ m → M' m = M m)) := by
  refine c_start (by decide) (Nat.le_of_ble_eq_true rfl) (fun p e s m below meth c ls C hr hlk hml hw hS hl => ?_)
  have hl : lv_has ls 2 [(0, .ref (gA g 0)), (1, .int (II s0))] := hl
  have g_M := hw.rg
  have hN : gN g = 84 := hF.1
  have hB : BV M n v nt t (X.2.1 t) := hR.bv hA
  have hn2 : n ≤ 8 := hB.1.2
  have hnt := hB.2.2.2.1.2
  have hpd : 0 ≤ pd ∧ pd ≤ 999999999 := hA.1.2.2.2.2.1
  refine lv_aload_n C.1 C.2.1 dX7_drawn_0 rfl (lv_at hl 0 rfl) ?_
  refine lv_iload_n C.1 C.2.1 dX7_drawn_1 rfl (lv_at hl 1 rfl) ?_
  refine x_ci (x_runV (n := 1) C hw hS hml hl.1 0 7 (by omega) rfl (by decide) rfl (c_X7_allDrawn l g M hF n v nt t (X.2.1 t) hB s0 gz_s0) mw_744 mw_746 mw_47 mw_117 mw_747 rfl rfl (by decide +kernel) ⟨Nat.le_of_ble_eq_true rfl, Nat.le_of_ble_eq_true rfl⟩ rfl rfl (Nat.le_of_ble_eq_true rfl) dX7_drawn_2 ⟨Nat.zero_le _, Nat.zero_le _⟩) hS (fun r2 M2 H locs hr2 hp hw hS => ?_)
  obtain ⟨er2, h2f⟩ := hp
  have g_M2 := hw.rg
  rw [er2] at hr2 ⊢
  exact x_ireturn C hr hlk hw hS hr2 rfl ⟨rfl, (hR.fr hA (fun m hm => h2f m (fun z => hm (z.elim Or.inl (fun y => Or.inr (Or.inr y)))))), (fun m hm => h2f m (by unfold scr; omega))⟩ dX7_drawn_5

set_option maxHeartbeats 4000000 in
set_option maxRecDepth 100000 in
theorem c_X7_chance (l : Launch) (g : Gm) (M : Nat → Int) (hF : LvF g) (n : Nat) (v : Nat → Nat → Int) (nt : Int) (pd : Int) (t : Nat) (X : Txt) (I : Option Bor) (Sh : Sht) (hR : RepC M (n, v, nt, pd, t) X I Sh) (hA : InvA (n, v, nt, pd, t) X I Sh) (s0 : Int) (gz_s0 : rg s0) (z : Int) (gz_z : rg z) (w : Int) (gz_w : rg w) : CL l ({ cls := "RatedBySighs", name := "chance", desc := "(III)J" } : Jvm.MethodName) cX7_chance 7 (rmm 6 145) g M [.ref (gA g 0), .int (II s0), .int (II z), .int (II w)] (fun r M' => r = r_chance v n nt (X.2.1 t) s0 z w ∧ (RepC M' (n, v, nt, pd, t) X I Sh) ∧ (∀ m, 70000 ≤ m → M' m = M m)) := by
  refine c_start (by decide) (Nat.le_of_ble_eq_true rfl) (fun p e s m below meth c ls C hr hlk hml hw hS hl => ?_)
  have hl : lv_has ls 7 [(0, .ref (gA g 0)), (1, .int (II s0)), (2, .int (II z)), (3, .int (II w))] := hl
  generalize ([.ref (gA g 0), .int (II s0), .int (II z), .int (II w)] : List Value).toArray = args at C ⊢
  generalize hQQ : MQ below (postL g (fun r M' => r = r_chance v n nt (X.2.1 t) s0 z w ∧ (RepC M' (n, v, nt, pd, t) X I Sh) ∧ (∀ m, 70000 ≤ m → M' m = M m))) args s 0 0 (ar g) = QQ
  have g_M := hw.rg
  have hN : gN g = 84 := hF.1
  have hB : BV M n v nt t (X.2.1 t) := hR.bv hA
  have hn2 : n ≤ 8 := hB.1.2
  have hnt := hB.2.2.2.1.2
  have hpd : 0 ≤ pd ∧ pd ≤ 999999999 := hA.1.2.2.2.2.1
  have ha1 := allS_in v n nt (X.2.1 t)
  refine lv_iload_n C.1 C.2.1 dX7_chance_0 rfl (lv_at hl 2 rfl) ?_
  refine lv_iconst (v := II 1) C.1 C.2.1 dX7_chance_1 rfl ?_
  refine x_icmp_lt (tgt := 18) C gz_z ⟨by decide, by decide⟩ dX7_chance_2 (by decide) (fun c2 => ?_) (fun c2 => ?_)
  · refine lv_ldc2 C.1 C.2.1 C.2.2.1 (C.2.2.2.1 _ mw_753) dX7_chance_18 ?_
    subst hQQ; exact x_lreturn C hr hlk hw hS ⟨by unfold r_chance; rw [if_neg (by omega)], hR, fun _ _ => rfl⟩ dX7_chance_21
  · refine lv_iload_n C.1 C.2.1 dX7_chance_5 rfl (lv_at hl 2 rfl) ?_
    refine lv_bipush (v := II 20) C.1 C.2.1 dX7_chance_6 (by decide) ?_
    refine x_icmp_gt (tgt := 18) C gz_z ⟨by decide, by decide⟩ dX7_chance_8 (by decide) (fun c8 => ?_) (fun c8 => ?_)
    · refine lv_ldc2 C.1 C.2.1 C.2.2.1 (C.2.2.2.1 _ mw_753) dX7_chance_18 ?_
      subst hQQ; exact x_lreturn C hr hlk hw hS ⟨by unfold r_chance; rw [if_neg (by omega)], hR, fun _ _ => rfl⟩ dX7_chance_21
    · refine lv_iload_n C.1 C.2.1 dX7_chance_11 rfl (lv_at hl 3 rfl) ?_
      refine x_ci (x_runS (n := 1) C hw hS hml hl.1 (c_X7_isZeroOrOne l g M w gz_w) mw_631 mw_632 mw_117 mw_633 rfl rfl (by decide +kernel) ⟨Nat.le_of_ble_eq_true rfl, Nat.le_of_ble_eq_true rfl⟩ rfl rfl (Nat.le_of_ble_eq_true rfl) dX7_chance_12 ⟨Nat.zero_le _, Nat.zero_le _⟩) hS (fun r12 M12 H locs hr12 hp hw hS => ?_)
      rcases hp with ⟨em12, (⟨er12, h12b⟩ | ⟨er12, h12b⟩)⟩
      · have hw : Wo g M H := em12 ▸ hw
        rw [er12]
        refine x_if_ne (tgt := 22) C ⟨by decide, by decide⟩ dX7_chance_15 (by decide) (fun _ => ?_) (fun h => absurd h (by decide))
        obtain ⟨k, rfl⟩ : ∃ i : Nat, z = (i : Int) := ⟨z.toNat, by omega⟩
        refine lv_aload_n C.1 C.2.1 dX7_chance_22 rfl (lv_at hl 0 rfl) ?_
        refine g7 C hw 0 (by omega) rfl 0 (by decide) mw_480 (svr (hF.2 _)) dX7_chance_23 ?_
        refine x_ci (x_runVN (n := 0) C hw hS hml hl.1 1 2 (by omega) rfl (by decide) rfl (c_X2_playAll l g M hF n v nt t (X.2.1 t) hB) mn_617 mw_619 mw_30 mw_118 mw_620 rfl rfl (by decide +kernel) ⟨Nat.le_of_ble_eq_true rfl, Nat.le_of_ble_eq_true rfl⟩ rfl rfl (Nat.le_of_ble_eq_true rfl) dX7_chance_26 ⟨Nat.zero_le _, Nat.zero_le _⟩) hS (fun r26 M26 H locs hr26 hp hw hS => ?_)
        obtain ⟨er26, h26f⟩ := hp
        have g_M26 := hw.rg
        rw [er26] at hr26 ⊢
        refine lv_istore (lv' := [(4, .int (II (allS v n nt (X.2.1 t)))), (0, .ref (gA g 0)), (1, .int (II s0)), (2, .int (II (k : Int))), (3, .int (II w))]) C.1 C.2.1 dX7_chance_29 hl (by decide) rfl (fun ls hl => ?_)
        refine lv_iconst (v := II 0) C.1 C.2.1 dX7_chance_31 rfl ?_
        refine lv_istore (lv' := [(5, .int (II 0)), (4, .int (II (allS v n nt (X.2.1 t)))), (0, .ref (gA g 0)), (1, .int (II s0)), (2, .int (II (k : Int))), (3, .int (II w))]) C.1 C.2.1 dX7_chance_32 hl (by decide) rfl (fun ls hl => ?_)
        refine lv_iconst (v := II 0) C.1 C.2.1 dX7_chance_34 rfl ?_
        refine lv_istore (lv' := [(6, .int (II 0)), (5, .int (II 0)), (4, .int (II (allS v n nt (X.2.1 t)))), (0, .ref (gA g 0)), (1, .int (II s0)), (2, .int (II (k : Int))), (3, .int (II w))]) C.1 C.2.1 dX7_chance_35 hl (by decide) rfl (fun ls hl => ?_)
        have L37 : ∀ (f1 : Nat) (i : Nat) (M2 : Nat → Int), (k - i) < f1 → (i ≤ k) → (∀ m, ¬ (scr m ∨ m / 1000 = 61) → M2 m = M m) → ∀ (H : Heap) (locs : List Loc) (ls : Array Slot), Wo g M2 H → va_S (ar g) s.heap H locs → lv_has ls 7 [(0, .ref (gA g 0)), (1, .int (II s0)), (2, .int (II (k : Int))), (3, .int (II w)), (4, .int (II (allS v n nt (X.2.1 t)))), (5, .int (II (cnt (fun i => decide (allS v n nt (X.2.1 t) < allS (vD v (wr (s0 + i)) n) n nt (X.2.1 t))) i))), (6, .int (II (i : Int)))] → W p l e (rmm 6 145) s m args below meth c H locs 0 0 QQ (F0 m 37 ls []) := by
          intro f1
          induction f1 with
          | zero => intro i M2 hmu; exact absurd hmu (Nat.not_lt_zero _)
          | succ f1 ih =>
            intro i M2 hmu h1 hf H locs ls hw hS hl
            have ih37 := ih
            have g_M2 := hw.rg
            have hci := cnt_in (fun i => decide (allS v n nt (X.2.1 t) < allS (vD v (wr (s0 + i)) n) n nt (X.2.1 t))) i
            refine lv_iload C.1 C.2.1 dX7_chance_37 (lv_at hl 6 rfl) ?_
            refine lv_iload_n C.1 C.2.1 dX7_chance_39 rfl (lv_at hl 2 rfl) ?_
            refine x_icmp_ge (tgt := 65) C ⟨by omega, by omega⟩ ⟨by omega, by omega⟩ dX7_chance_40 (by decide) (fun c40 => ?_) (fun c40 => ?_)
            · have eik : i = k := by omega
              rw [eik] at hl
              obtain ⟨a, ha⟩ : ∃ a : Nat, cnt (fun i => decide (allS v n nt (X.2.1 t) < allS (vD v (wr (s0 + i)) n) n nt (X.2.1 t))) k = (a : Int) := ⟨(cnt (fun i => decide (allS v n nt (X.2.1 t) < allS (vD v (wr (s0 + i)) n) n nt (X.2.1 t))) k).toNat, by have := cnt_in (fun i => decide (allS v n nt (X.2.1 t) < allS (vD v (wr (s0 + i)) n) n nt (X.2.1 t))) k; omega⟩
              have hak := cnt_in (fun i => decide (allS v n nt (X.2.1 t) < allS (vD v (wr (s0 + i)) n) n nt (X.2.1 t))) k
              rw [ha] at hl
              have hgp : 0 < Nat.gcd a k := Nat.gcd_pos_of_pos_right a (by omega)
              have hgl : Nat.gcd a k ≤ k := Nat.gcd_le_right a (by omega)
              have hd1 : 0 ≤ (k : Int) / ((Nat.gcd a k : Nat) : Int) ∧ (k : Int) / ((Nat.gcd a k : Nat) : Int) ≤ k := ⟨Int.ediv_nonneg (by omega) (by omega), Int.ediv_le_self _ (by omega)⟩
              have hd2 : 0 ≤ (a : Int) / ((Nat.gcd a k : Nat) : Int) ∧ (a : Int) / ((Nat.gcd a k : Nat) : Int) ≤ a := ⟨Int.ediv_nonneg (by omega) (by omega), Int.ediv_le_self _ (by omega)⟩
              refine lv_iload C.1 C.2.1 dX7_chance_65 (lv_at hl 5 rfl) ?_
              refine lv_iload_n C.1 C.2.1 dX7_chance_67 rfl (lv_at hl 2 rfl) ?_
              refine x_ci (x_runS (n := 2) C hw hS hml hl.1 (c_X7_commonDivisor l g M2 a (by first | assumption | omega | exact ⟨by omega, by omega⟩ | decide) k (by first | assumption | omega | exact ⟨by omega, by omega⟩ | decide)) mw_754 mw_755 mw_117 mw_756 rfl rfl (by decide +kernel) ⟨Nat.le_of_ble_eq_true rfl, Nat.le_of_ble_eq_true rfl⟩ rfl rfl (Nat.le_of_ble_eq_true rfl) dX7_chance_68 ⟨Nat.zero_le _, Nat.zero_le _⟩) hS (fun r68 M68 H locs hr68 hp hw hS => ?_)
              obtain ⟨em68, er68⟩ := hp
              have hw : Wo g M2 H := em68 ▸ hw
              rw [er68] at hr68 ⊢
              refine lv_istore (lv' := [(6, .int (II ((Nat.gcd a k : Nat) : Int))), (0, .ref (gA g 0)), (1, .int (II s0)), (2, .int (II (k : Int))), (3, .int (II w)), (4, .int (II (allS v n nt (X.2.1 t)))), (5, .int (II (a : Int)))]) C.1 C.2.1 dX7_chance_71 hl (by decide) rfl (fun ls hl => ?_)
              refine lv_iload_n C.1 C.2.1 dX7_chance_73 rfl (lv_at hl 4 rfl) ?_
              refine x_if_ne (tgt := 86) C gz_w dX7_chance_74 (by decide) (fun c74 => ?_) (fun c74 => ?_)
              · refine lv_iload_n C.1 C.2.1 dX7_chance_86 rfl (lv_at hl 3 rfl) ?_
                refine lv_iload C.1 C.2.1 dX7_chance_87 (lv_at hl 0 rfl) ?_
                refine x_idiv C (by omega) ⟨by omega, by omega⟩ (by omega) hr68 dX7_chance_89 ?_
                refine x_i2l C ⟨by omega, by omega⟩ dX7_chance_90 ?_
                subst hQQ; exact x_lreturn C hr hlk hw hS ⟨by
    have e1 : moreS v n nt (X.2.1 t) s0 k = (a : Int) := ha
    unfold r_chance
    simp only [Int.toNat_natCast, e1]
    rw [if_pos (by omega)]
    first | rw [if_pos (by omega)] | rw [if_neg (by omega)], hR.fr hA (fun m hm => hf m (fun z => hm (z.elim Or.inl (fun y => Or.inr (Or.inr y))))), fun m hm => hf m (by unfold scr; omega)⟩ dX7_chance_91
              · refine lv_iload C.1 C.2.1 dX7_chance_77 (lv_at hl 6 rfl) ?_
                refine lv_iload C.1 C.2.1 dX7_chance_79 (lv_at hl 0 rfl) ?_
                refine x_idiv C (by omega) ⟨by omega, by omega⟩ (by omega) hr68 dX7_chance_81 ?_
                refine x_i2l C ⟨by omega, by omega⟩ dX7_chance_82 ?_
                refine lv_goto (tgt := 91) C.1 C.2.1 dX7_chance_83 (by decide) ?_
                subst hQQ; exact x_lreturn C hr hlk hw hS ⟨by
    have e1 : moreS v n nt (X.2.1 t) s0 k = (a : Int) := ha
    unfold r_chance
    simp only [Int.toNat_natCast, e1]
    rw [if_pos (by omega)]
    first | rw [if_pos (by omega)] | rw [if_neg (by omega)], hR.fr hA (fun m hm => hf m (fun z => hm (z.elim Or.inl (fun y => Or.inr (Or.inr y))))), fun m hm => hf m (by unfold scr; omega)⟩ dX7_chance_91
            · have ha2 := allS_in (vD v (wr (s0 + (i : Int))) n) n nt (X.2.1 t)
              refine lv_aload_n C.1 C.2.1 dX7_chance_43 rfl (lv_at hl 0 rfl) ?_
              refine lv_iload_n C.1 C.2.1 dX7_chance_44 rfl (lv_at hl 1 rfl) ?_
              refine lv_iload C.1 C.2.1 dX7_chance_45 (lv_at hl 6 rfl) ?_
              refine x_iadd C dX7_chance_47 ?_
              refine x_top (b := wr (s0 + (i : Int))) (II_self _).symm ?_
              refine x_ci (x_runV (n := 1) C hw hS hml hl.1 0 7 (by omega) rfl (by decide) rfl (c_X7_allDrawn l g M2 hF n v nt t (X.2.1 t) (hB.fr3 hf) (wr (s0 + (i : Int))) (rg_toInt _)) mw_744 mw_746 mw_47 mw_117 mw_747 rfl rfl (by decide +kernel) ⟨Nat.le_of_ble_eq_true rfl, Nat.le_of_ble_eq_true rfl⟩ rfl rfl (Nat.le_of_ble_eq_true rfl) dX7_chance_48 ⟨Nat.zero_le _, Nat.zero_le _⟩) hS (fun r48 M48 H locs hr48 hp hw hS => ?_)
              obtain ⟨er48, h48f⟩ := hp
              have g_M48 := hw.rg
              rw [er48] at hr48 ⊢
              refine lv_iload C.1 C.2.1 dX7_chance_51 (lv_at hl 4 rfl) ?_
              have J59 : ∀ (y : Int), (y = cnt (fun i => decide (allS v n nt (X.2.1 t) < allS (vD v (wr (s0 + i)) n) n nt (X.2.1 t))) (i + 1)) → ∀ (H : Heap) (locs : List Loc) (ls : Array Slot), Wo g M48 H → va_S (ar g) s.heap H locs → lv_has ls 7 [(0, .ref (gA g 0)), (1, .int (II s0)), (2, .int (II (k : Int))), (3, .int (II w)), (4, .int (II (allS v n nt (X.2.1 t)))), (5, .int (II y)), (6, .int (II (i : Int)))] → W p l e (rmm 6 145) s m args below meth c H locs 0 0 QQ (F0 m 59 ls []) := by
                intro y hy H locs ls hw hS hl
                subst hy
                refine lv_iinc (v := II ((i : Int) + 1)) (lv' := [(6, .int (II ((i : Int) + 1))), (0, .ref (gA g 0)), (1, .int (II s0)), (2, .int (II (k : Int))), (3, .int (II w)), (4, .int (II (allS v n nt (X.2.1 t)))), (5, .int (II (cnt (fun i => decide (allS v n nt (X.2.1 t) < allS (vD v (wr (s0 + i)) n) n nt (X.2.1 t))) (i + 1))))]) C.1 C.2.1 dX7_chance_59 hl (k := 6) rfl (II_add _ _) (by decide) rfl (fun ls hl => ?_)
                refine lv_goto (tgt := 37) C.1 C.2.1 dX7_chance_62 (by decide) ?_
                exact ih37  (i + 1) M48 (by omega) (by omega) (fun m hm => (h48f m hm).trans (hf m hm)) _ _ _ hw hS (lv_sub hl [1, 2, 3, 4, 5, 6, 0] rfl)
              refine x_icmp_le (tgt := 59) C hr48 hr26 dX7_chance_53 (by decide) (fun c53 => ?_) (fun c53 => ?_)
              · exact J59 (cnt (fun i => decide (allS v n nt (X.2.1 t) < allS (vD v (wr (s0 + i)) n) n nt (X.2.1 t))) i) (by first | exact cnt_f (decide_eq_false (by omega)) | exact cnt_t (decide_eq_true (by omega))) _ _ _ hw hS (lv_sub hl [0, 1, 2, 3, 4, 5, 6] rfl)
              · refine lv_iinc (v := II (cnt (fun i => decide (allS v n nt (X.2.1 t) < allS (vD v (wr (s0 + i)) n) n nt (X.2.1 t))) i + 1)) (lv' := [(5, .int (II (cnt (fun i => decide (allS v n nt (X.2.1 t) < allS (vD v (wr (s0 + i)) n) n nt (X.2.1 t))) i + 1))), (0, .ref (gA g 0)), (1, .int (II s0)), (2, .int (II (k : Int))), (3, .int (II w)), (4, .int (II (allS v n nt (X.2.1 t)))), (6, .int (II (i : Int)))]) C.1 C.2.1 dX7_chance_56 hl (k := 5) rfl (II_add _ _) (by decide) rfl (fun ls hl => ?_)
                exact J59 (cnt (fun i => decide (allS v n nt (X.2.1 t) < allS (vD v (wr (s0 + i)) n) n nt (X.2.1 t))) i + 1) (by first | exact cnt_f (decide_eq_false (by omega)) | exact cnt_t (decide_eq_true (by omega))) _ _ _ hw hS (lv_sub hl [1, 2, 3, 4, 5, 0, 6] rfl)
        exact L37 _ 0 M26 (Nat.lt_succ_self _) (by omega) (fun m hm => h26f m (fun z => hm (Or.inl z))) _ _ _ hw hS (lv_sub hl [3, 4, 5, 6, 2, 1, 0] rfl)
      · have hw : Wo g M H := em12 ▸ hw
        rw [er12]
        refine x_if_ne (tgt := 22) C ⟨by decide, by decide⟩ dX7_chance_15 (by decide) (fun h => absurd h (by decide)) (fun _ => ?_)
        refine lv_ldc2 C.1 C.2.1 C.2.2.1 (C.2.2.2.1 _ mw_753) dX7_chance_18 ?_
        subst hQQ; exact x_lreturn C hr hlk hw hS ⟨by unfold r_chance; rw [if_neg (by omega)], hR, fun _ _ => rfl⟩ dX7_chance_21

set_option maxHeartbeats 4000000 in
set_option maxRecDepth 100000 in
theorem c_J6_bitCount (l : Launch) (g : Gm) (M : Nat → Int) (o : Nat) (ho : o < 64) : CI l ({ cls := "java/lang/Integer", name := "bitCount", desc := "(I)I" } : Jvm.MethodName) cJ6_bitCount_0f7a4 1 .int (rmm 0 0) g M [.int (II (o : Int))] (fun r M' => M' = M ∧ r = (bc o : Int)) := by
  refine c_start (by decide) (Nat.le_of_ble_eq_true rfl) (fun p e s m below meth c ls C hr hlk hml hw hS hl => ?_)
  have hl : lv_has ls 1 [(0, .int (II (o : Int)))] := hl
  have g_M := hw.rg
  have hbl := bc_le o ho
  refine lv_iload_n C.1 C.2.1 dJ6_bitCount_0f7a4_0 rfl (lv_at hl 0 rfl) ?_
  refine lv_iload_n C.1 C.2.1 dJ6_bitCount_0f7a4_1 rfl (lv_at hl 0 rfl) ?_
  refine lv_iconst (v := II 1) C.1 C.2.1 dJ6_bitCount_0f7a4_2 rfl ?_
  refine lv_iushr (v := ((II (o : Int)).toUInt32 >>> ((II 1).toUInt32 &&& Int32.toUInt32 31)).toInt32) C.1 C.2.1 dJ6_bitCount_0f7a4_3 rfl ?_
  refine lv_ldcw C.1 C.2.1 C.2.2.1 (C.2.2.2.1 _ mw_674) dJ6_bitCount_0f7a4_4 ?_
  rw [show (1431655765 : Int32) = II 1431655765 from by decide]
  refine lv_iand C.1 C.2.1 dJ6_bitCount_0f7a4_7 ?_
  refine lv_isub C.1 C.2.1 dJ6_bitCount_0f7a4_8 ?_
  refine lv_istore_n (lv' := [(0, .int ((II (o : Int)) - ((((II (o : Int)).toUInt32 >>> ((II 1).toUInt32 &&& Int32.toUInt32 31)).toInt32) &&& (II 1431655765))))]) C.1 C.2.1 dJ6_bitCount_0f7a4_9 rfl hl (by decide) rfl (fun ls hl => ?_)
  refine lv_iload_n C.1 C.2.1 dJ6_bitCount_0f7a4_10 rfl (lv_at hl 0 rfl) ?_
  refine lv_ldcw C.1 C.2.1 C.2.2.1 (C.2.2.2.1 _ mw_675) dJ6_bitCount_0f7a4_11 ?_
  rw [show (858993459 : Int32) = II 858993459 from by decide]
  refine lv_iand C.1 C.2.1 dJ6_bitCount_0f7a4_14 ?_
  refine lv_iload_n C.1 C.2.1 dJ6_bitCount_0f7a4_15 rfl (lv_at hl 0 rfl) ?_
  refine lv_iconst (v := II 2) C.1 C.2.1 dJ6_bitCount_0f7a4_16 rfl ?_
  refine lv_iushr (v := (((II (o : Int)) - ((((II (o : Int)).toUInt32 >>> ((II 1).toUInt32 &&& Int32.toUInt32 31)).toInt32) &&& (II 1431655765))).toUInt32 >>> ((II 2).toUInt32 &&& Int32.toUInt32 31)).toInt32) C.1 C.2.1 dJ6_bitCount_0f7a4_17 rfl ?_
  refine lv_ldcw C.1 C.2.1 C.2.2.1 (C.2.2.2.1 _ mw_675) dJ6_bitCount_0f7a4_18 ?_
  rw [show (858993459 : Int32) = II 858993459 from by decide]
  refine lv_iand C.1 C.2.1 dJ6_bitCount_0f7a4_21 ?_
  refine lv_iadd C.1 C.2.1 dJ6_bitCount_0f7a4_22 ?_
  refine lv_istore_n (lv' := [(0, .int ((((II (o : Int)) - ((((II (o : Int)).toUInt32 >>> ((II 1).toUInt32 &&& Int32.toUInt32 31)).toInt32) &&& (II 1431655765))) &&& (II 858993459)) + (((((II (o : Int)) - ((((II (o : Int)).toUInt32 >>> ((II 1).toUInt32 &&& Int32.toUInt32 31)).toInt32) &&& (II 1431655765))).toUInt32 >>> ((II 2).toUInt32 &&& Int32.toUInt32 31)).toInt32) &&& (II 858993459))))]) C.1 C.2.1 dJ6_bitCount_0f7a4_23 rfl hl (by decide) rfl (fun ls hl => ?_)
  refine lv_iload_n C.1 C.2.1 dJ6_bitCount_0f7a4_24 rfl (lv_at hl 0 rfl) ?_
  refine lv_iload_n C.1 C.2.1 dJ6_bitCount_0f7a4_25 rfl (lv_at hl 0 rfl) ?_
  refine lv_iconst (v := II 4) C.1 C.2.1 dJ6_bitCount_0f7a4_26 rfl ?_
  refine lv_iushr (v := (((((II (o : Int)) - ((((II (o : Int)).toUInt32 >>> ((II 1).toUInt32 &&& Int32.toUInt32 31)).toInt32) &&& (II 1431655765))) &&& (II 858993459)) + (((((II (o : Int)) - ((((II (o : Int)).toUInt32 >>> ((II 1).toUInt32 &&& Int32.toUInt32 31)).toInt32) &&& (II 1431655765))).toUInt32 >>> ((II 2).toUInt32 &&& Int32.toUInt32 31)).toInt32) &&& (II 858993459))).toUInt32 >>> ((II 4).toUInt32 &&& Int32.toUInt32 31)).toInt32) C.1 C.2.1 dJ6_bitCount_0f7a4_27 rfl ?_
  refine lv_iadd C.1 C.2.1 dJ6_bitCount_0f7a4_28 ?_
  refine lv_ldcw C.1 C.2.1 C.2.2.1 (C.2.2.2.1 _ mw_676) dJ6_bitCount_0f7a4_29 ?_
  rw [show (252645135 : Int32) = II 252645135 from by decide]
  refine lv_iand C.1 C.2.1 dJ6_bitCount_0f7a4_32 ?_
  refine lv_istore_n (lv' := [(0, .int ((((((II (o : Int)) - ((((II (o : Int)).toUInt32 >>> ((II 1).toUInt32 &&& Int32.toUInt32 31)).toInt32) &&& (II 1431655765))) &&& (II 858993459)) + (((((II (o : Int)) - ((((II (o : Int)).toUInt32 >>> ((II 1).toUInt32 &&& Int32.toUInt32 31)).toInt32) &&& (II 1431655765))).toUInt32 >>> ((II 2).toUInt32 &&& Int32.toUInt32 31)).toInt32) &&& (II 858993459))) + ((((((II (o : Int)) - ((((II (o : Int)).toUInt32 >>> ((II 1).toUInt32 &&& Int32.toUInt32 31)).toInt32) &&& (II 1431655765))) &&& (II 858993459)) + (((((II (o : Int)) - ((((II (o : Int)).toUInt32 >>> ((II 1).toUInt32 &&& Int32.toUInt32 31)).toInt32) &&& (II 1431655765))).toUInt32 >>> ((II 2).toUInt32 &&& Int32.toUInt32 31)).toInt32) &&& (II 858993459))).toUInt32 >>> ((II 4).toUInt32 &&& Int32.toUInt32 31)).toInt32)) &&& (II 252645135)))]) C.1 C.2.1 dJ6_bitCount_0f7a4_33 rfl hl (by decide) rfl (fun ls hl => ?_)
  refine lv_iload_n C.1 C.2.1 dJ6_bitCount_0f7a4_34 rfl (lv_at hl 0 rfl) ?_
  refine lv_iload_n C.1 C.2.1 dJ6_bitCount_0f7a4_35 rfl (lv_at hl 0 rfl) ?_
  refine lv_bipush (v := II 8) C.1 C.2.1 dJ6_bitCount_0f7a4_36 (by decide) ?_
  refine lv_iushr (v := (((((((II (o : Int)) - ((((II (o : Int)).toUInt32 >>> ((II 1).toUInt32 &&& Int32.toUInt32 31)).toInt32) &&& (II 1431655765))) &&& (II 858993459)) + (((((II (o : Int)) - ((((II (o : Int)).toUInt32 >>> ((II 1).toUInt32 &&& Int32.toUInt32 31)).toInt32) &&& (II 1431655765))).toUInt32 >>> ((II 2).toUInt32 &&& Int32.toUInt32 31)).toInt32) &&& (II 858993459))) + ((((((II (o : Int)) - ((((II (o : Int)).toUInt32 >>> ((II 1).toUInt32 &&& Int32.toUInt32 31)).toInt32) &&& (II 1431655765))) &&& (II 858993459)) + (((((II (o : Int)) - ((((II (o : Int)).toUInt32 >>> ((II 1).toUInt32 &&& Int32.toUInt32 31)).toInt32) &&& (II 1431655765))).toUInt32 >>> ((II 2).toUInt32 &&& Int32.toUInt32 31)).toInt32) &&& (II 858993459))).toUInt32 >>> ((II 4).toUInt32 &&& Int32.toUInt32 31)).toInt32)) &&& (II 252645135)).toUInt32 >>> ((II 8).toUInt32 &&& Int32.toUInt32 31)).toInt32) C.1 C.2.1 dJ6_bitCount_0f7a4_38 rfl ?_
  refine lv_iadd C.1 C.2.1 dJ6_bitCount_0f7a4_39 ?_
  refine lv_istore_n (lv' := [(0, .int (((((((II (o : Int)) - ((((II (o : Int)).toUInt32 >>> ((II 1).toUInt32 &&& Int32.toUInt32 31)).toInt32) &&& (II 1431655765))) &&& (II 858993459)) + (((((II (o : Int)) - ((((II (o : Int)).toUInt32 >>> ((II 1).toUInt32 &&& Int32.toUInt32 31)).toInt32) &&& (II 1431655765))).toUInt32 >>> ((II 2).toUInt32 &&& Int32.toUInt32 31)).toInt32) &&& (II 858993459))) + ((((((II (o : Int)) - ((((II (o : Int)).toUInt32 >>> ((II 1).toUInt32 &&& Int32.toUInt32 31)).toInt32) &&& (II 1431655765))) &&& (II 858993459)) + (((((II (o : Int)) - ((((II (o : Int)).toUInt32 >>> ((II 1).toUInt32 &&& Int32.toUInt32 31)).toInt32) &&& (II 1431655765))).toUInt32 >>> ((II 2).toUInt32 &&& Int32.toUInt32 31)).toInt32) &&& (II 858993459))).toUInt32 >>> ((II 4).toUInt32 &&& Int32.toUInt32 31)).toInt32)) &&& (II 252645135)) + ((((((((II (o : Int)) - ((((II (o : Int)).toUInt32 >>> ((II 1).toUInt32 &&& Int32.toUInt32 31)).toInt32) &&& (II 1431655765))) &&& (II 858993459)) + (((((II (o : Int)) - ((((II (o : Int)).toUInt32 >>> ((II 1).toUInt32 &&& Int32.toUInt32 31)).toInt32) &&& (II 1431655765))).toUInt32 >>> ((II 2).toUInt32 &&& Int32.toUInt32 31)).toInt32) &&& (II 858993459))) + ((((((II (o : Int)) - ((((II (o : Int)).toUInt32 >>> ((II 1).toUInt32 &&& Int32.toUInt32 31)).toInt32) &&& (II 1431655765))) &&& (II 858993459)) + (((((II (o : Int)) - ((((II (o : Int)).toUInt32 >>> ((II 1).toUInt32 &&& Int32.toUInt32 31)).toInt32) &&& (II 1431655765))).toUInt32 >>> ((II 2).toUInt32 &&& Int32.toUInt32 31)).toInt32) &&& (II 858993459))).toUInt32 >>> ((II 4).toUInt32 &&& Int32.toUInt32 31)).toInt32)) &&& (II 252645135)).toUInt32 >>> ((II 8).toUInt32 &&& Int32.toUInt32 31)).toInt32)))]) C.1 C.2.1 dJ6_bitCount_0f7a4_40 rfl hl (by decide) rfl (fun ls hl => ?_)
  refine lv_iload_n C.1 C.2.1 dJ6_bitCount_0f7a4_41 rfl (lv_at hl 0 rfl) ?_
  refine lv_iload_n C.1 C.2.1 dJ6_bitCount_0f7a4_42 rfl (lv_at hl 0 rfl) ?_
  refine lv_bipush (v := II 16) C.1 C.2.1 dJ6_bitCount_0f7a4_43 (by decide) ?_
  refine lv_iushr (v := ((((((((II (o : Int)) - ((((II (o : Int)).toUInt32 >>> ((II 1).toUInt32 &&& Int32.toUInt32 31)).toInt32) &&& (II 1431655765))) &&& (II 858993459)) + (((((II (o : Int)) - ((((II (o : Int)).toUInt32 >>> ((II 1).toUInt32 &&& Int32.toUInt32 31)).toInt32) &&& (II 1431655765))).toUInt32 >>> ((II 2).toUInt32 &&& Int32.toUInt32 31)).toInt32) &&& (II 858993459))) + ((((((II (o : Int)) - ((((II (o : Int)).toUInt32 >>> ((II 1).toUInt32 &&& Int32.toUInt32 31)).toInt32) &&& (II 1431655765))) &&& (II 858993459)) + (((((II (o : Int)) - ((((II (o : Int)).toUInt32 >>> ((II 1).toUInt32 &&& Int32.toUInt32 31)).toInt32) &&& (II 1431655765))).toUInt32 >>> ((II 2).toUInt32 &&& Int32.toUInt32 31)).toInt32) &&& (II 858993459))).toUInt32 >>> ((II 4).toUInt32 &&& Int32.toUInt32 31)).toInt32)) &&& (II 252645135)) + ((((((((II (o : Int)) - ((((II (o : Int)).toUInt32 >>> ((II 1).toUInt32 &&& Int32.toUInt32 31)).toInt32) &&& (II 1431655765))) &&& (II 858993459)) + (((((II (o : Int)) - ((((II (o : Int)).toUInt32 >>> ((II 1).toUInt32 &&& Int32.toUInt32 31)).toInt32) &&& (II 1431655765))).toUInt32 >>> ((II 2).toUInt32 &&& Int32.toUInt32 31)).toInt32) &&& (II 858993459))) + ((((((II (o : Int)) - ((((II (o : Int)).toUInt32 >>> ((II 1).toUInt32 &&& Int32.toUInt32 31)).toInt32) &&& (II 1431655765))) &&& (II 858993459)) + (((((II (o : Int)) - ((((II (o : Int)).toUInt32 >>> ((II 1).toUInt32 &&& Int32.toUInt32 31)).toInt32) &&& (II 1431655765))).toUInt32 >>> ((II 2).toUInt32 &&& Int32.toUInt32 31)).toInt32) &&& (II 858993459))).toUInt32 >>> ((II 4).toUInt32 &&& Int32.toUInt32 31)).toInt32)) &&& (II 252645135)).toUInt32 >>> ((II 8).toUInt32 &&& Int32.toUInt32 31)).toInt32)).toUInt32 >>> ((II 16).toUInt32 &&& Int32.toUInt32 31)).toInt32) C.1 C.2.1 dJ6_bitCount_0f7a4_45 rfl ?_
  refine lv_iadd C.1 C.2.1 dJ6_bitCount_0f7a4_46 ?_
  refine lv_istore_n (lv' := [(0, .int ((((((((II (o : Int)) - ((((II (o : Int)).toUInt32 >>> ((II 1).toUInt32 &&& Int32.toUInt32 31)).toInt32) &&& (II 1431655765))) &&& (II 858993459)) + (((((II (o : Int)) - ((((II (o : Int)).toUInt32 >>> ((II 1).toUInt32 &&& Int32.toUInt32 31)).toInt32) &&& (II 1431655765))).toUInt32 >>> ((II 2).toUInt32 &&& Int32.toUInt32 31)).toInt32) &&& (II 858993459))) + ((((((II (o : Int)) - ((((II (o : Int)).toUInt32 >>> ((II 1).toUInt32 &&& Int32.toUInt32 31)).toInt32) &&& (II 1431655765))) &&& (II 858993459)) + (((((II (o : Int)) - ((((II (o : Int)).toUInt32 >>> ((II 1).toUInt32 &&& Int32.toUInt32 31)).toInt32) &&& (II 1431655765))).toUInt32 >>> ((II 2).toUInt32 &&& Int32.toUInt32 31)).toInt32) &&& (II 858993459))).toUInt32 >>> ((II 4).toUInt32 &&& Int32.toUInt32 31)).toInt32)) &&& (II 252645135)) + ((((((((II (o : Int)) - ((((II (o : Int)).toUInt32 >>> ((II 1).toUInt32 &&& Int32.toUInt32 31)).toInt32) &&& (II 1431655765))) &&& (II 858993459)) + (((((II (o : Int)) - ((((II (o : Int)).toUInt32 >>> ((II 1).toUInt32 &&& Int32.toUInt32 31)).toInt32) &&& (II 1431655765))).toUInt32 >>> ((II 2).toUInt32 &&& Int32.toUInt32 31)).toInt32) &&& (II 858993459))) + ((((((II (o : Int)) - ((((II (o : Int)).toUInt32 >>> ((II 1).toUInt32 &&& Int32.toUInt32 31)).toInt32) &&& (II 1431655765))) &&& (II 858993459)) + (((((II (o : Int)) - ((((II (o : Int)).toUInt32 >>> ((II 1).toUInt32 &&& Int32.toUInt32 31)).toInt32) &&& (II 1431655765))).toUInt32 >>> ((II 2).toUInt32 &&& Int32.toUInt32 31)).toInt32) &&& (II 858993459))).toUInt32 >>> ((II 4).toUInt32 &&& Int32.toUInt32 31)).toInt32)) &&& (II 252645135)).toUInt32 >>> ((II 8).toUInt32 &&& Int32.toUInt32 31)).toInt32)) + (((((((((II (o : Int)) - ((((II (o : Int)).toUInt32 >>> ((II 1).toUInt32 &&& Int32.toUInt32 31)).toInt32) &&& (II 1431655765))) &&& (II 858993459)) + (((((II (o : Int)) - ((((II (o : Int)).toUInt32 >>> ((II 1).toUInt32 &&& Int32.toUInt32 31)).toInt32) &&& (II 1431655765))).toUInt32 >>> ((II 2).toUInt32 &&& Int32.toUInt32 31)).toInt32) &&& (II 858993459))) + ((((((II (o : Int)) - ((((II (o : Int)).toUInt32 >>> ((II 1).toUInt32 &&& Int32.toUInt32 31)).toInt32) &&& (II 1431655765))) &&& (II 858993459)) + (((((II (o : Int)) - ((((II (o : Int)).toUInt32 >>> ((II 1).toUInt32 &&& Int32.toUInt32 31)).toInt32) &&& (II 1431655765))).toUInt32 >>> ((II 2).toUInt32 &&& Int32.toUInt32 31)).toInt32) &&& (II 858993459))).toUInt32 >>> ((II 4).toUInt32 &&& Int32.toUInt32 31)).toInt32)) &&& (II 252645135)) + ((((((((II (o : Int)) - ((((II (o : Int)).toUInt32 >>> ((II 1).toUInt32 &&& Int32.toUInt32 31)).toInt32) &&& (II 1431655765))) &&& (II 858993459)) + (((((II (o : Int)) - ((((II (o : Int)).toUInt32 >>> ((II 1).toUInt32 &&& Int32.toUInt32 31)).toInt32) &&& (II 1431655765))).toUInt32 >>> ((II 2).toUInt32 &&& Int32.toUInt32 31)).toInt32) &&& (II 858993459))) + ((((((II (o : Int)) - ((((II (o : Int)).toUInt32 >>> ((II 1).toUInt32 &&& Int32.toUInt32 31)).toInt32) &&& (II 1431655765))) &&& (II 858993459)) + (((((II (o : Int)) - ((((II (o : Int)).toUInt32 >>> ((II 1).toUInt32 &&& Int32.toUInt32 31)).toInt32) &&& (II 1431655765))).toUInt32 >>> ((II 2).toUInt32 &&& Int32.toUInt32 31)).toInt32) &&& (II 858993459))).toUInt32 >>> ((II 4).toUInt32 &&& Int32.toUInt32 31)).toInt32)) &&& (II 252645135)).toUInt32 >>> ((II 8).toUInt32 &&& Int32.toUInt32 31)).toInt32)).toUInt32 >>> ((II 16).toUInt32 &&& Int32.toUInt32 31)).toInt32)))]) C.1 C.2.1 dJ6_bitCount_0f7a4_47 rfl hl (by decide) rfl (fun ls hl => ?_)
  refine lv_iload_n C.1 C.2.1 dJ6_bitCount_0f7a4_48 rfl (lv_at hl 0 rfl) ?_
  refine lv_bipush (v := II 63) C.1 C.2.1 dJ6_bitCount_0f7a4_49 (by decide) ?_
  refine lv_iand C.1 C.2.1 dJ6_bitCount_0f7a4_51 ?_
  rw [show ((((((((II (o : Int)) - ((((II (o : Int)).toUInt32 >>> ((II 1).toUInt32 &&& Int32.toUInt32 31)).toInt32) &&& (II 1431655765))) &&& (II 858993459)) + (((((II (o : Int)) - ((((II (o : Int)).toUInt32 >>> ((II 1).toUInt32 &&& Int32.toUInt32 31)).toInt32) &&& (II 1431655765))).toUInt32 >>> ((II 2).toUInt32 &&& Int32.toUInt32 31)).toInt32) &&& (II 858993459))) + ((((((II (o : Int)) - ((((II (o : Int)).toUInt32 >>> ((II 1).toUInt32 &&& Int32.toUInt32 31)).toInt32) &&& (II 1431655765))) &&& (II 858993459)) + (((((II (o : Int)) - ((((II (o : Int)).toUInt32 >>> ((II 1).toUInt32 &&& Int32.toUInt32 31)).toInt32) &&& (II 1431655765))).toUInt32 >>> ((II 2).toUInt32 &&& Int32.toUInt32 31)).toInt32) &&& (II 858993459))).toUInt32 >>> ((II 4).toUInt32 &&& Int32.toUInt32 31)).toInt32)) &&& (II 252645135)) + ((((((((II (o : Int)) - ((((II (o : Int)).toUInt32 >>> ((II 1).toUInt32 &&& Int32.toUInt32 31)).toInt32) &&& (II 1431655765))) &&& (II 858993459)) + (((((II (o : Int)) - ((((II (o : Int)).toUInt32 >>> ((II 1).toUInt32 &&& Int32.toUInt32 31)).toInt32) &&& (II 1431655765))).toUInt32 >>> ((II 2).toUInt32 &&& Int32.toUInt32 31)).toInt32) &&& (II 858993459))) + ((((((II (o : Int)) - ((((II (o : Int)).toUInt32 >>> ((II 1).toUInt32 &&& Int32.toUInt32 31)).toInt32) &&& (II 1431655765))) &&& (II 858993459)) + (((((II (o : Int)) - ((((II (o : Int)).toUInt32 >>> ((II 1).toUInt32 &&& Int32.toUInt32 31)).toInt32) &&& (II 1431655765))).toUInt32 >>> ((II 2).toUInt32 &&& Int32.toUInt32 31)).toInt32) &&& (II 858993459))).toUInt32 >>> ((II 4).toUInt32 &&& Int32.toUInt32 31)).toInt32)) &&& (II 252645135)).toUInt32 >>> ((II 8).toUInt32 &&& Int32.toUInt32 31)).toInt32)) + (((((((((II (o : Int)) - ((((II (o : Int)).toUInt32 >>> ((II 1).toUInt32 &&& Int32.toUInt32 31)).toInt32) &&& (II 1431655765))) &&& (II 858993459)) + (((((II (o : Int)) - ((((II (o : Int)).toUInt32 >>> ((II 1).toUInt32 &&& Int32.toUInt32 31)).toInt32) &&& (II 1431655765))).toUInt32 >>> ((II 2).toUInt32 &&& Int32.toUInt32 31)).toInt32) &&& (II 858993459))) + ((((((II (o : Int)) - ((((II (o : Int)).toUInt32 >>> ((II 1).toUInt32 &&& Int32.toUInt32 31)).toInt32) &&& (II 1431655765))) &&& (II 858993459)) + (((((II (o : Int)) - ((((II (o : Int)).toUInt32 >>> ((II 1).toUInt32 &&& Int32.toUInt32 31)).toInt32) &&& (II 1431655765))).toUInt32 >>> ((II 2).toUInt32 &&& Int32.toUInt32 31)).toInt32) &&& (II 858993459))).toUInt32 >>> ((II 4).toUInt32 &&& Int32.toUInt32 31)).toInt32)) &&& (II 252645135)) + ((((((((II (o : Int)) - ((((II (o : Int)).toUInt32 >>> ((II 1).toUInt32 &&& Int32.toUInt32 31)).toInt32) &&& (II 1431655765))) &&& (II 858993459)) + (((((II (o : Int)) - ((((II (o : Int)).toUInt32 >>> ((II 1).toUInt32 &&& Int32.toUInt32 31)).toInt32) &&& (II 1431655765))).toUInt32 >>> ((II 2).toUInt32 &&& Int32.toUInt32 31)).toInt32) &&& (II 858993459))) + ((((((II (o : Int)) - ((((II (o : Int)).toUInt32 >>> ((II 1).toUInt32 &&& Int32.toUInt32 31)).toInt32) &&& (II 1431655765))) &&& (II 858993459)) + (((((II (o : Int)) - ((((II (o : Int)).toUInt32 >>> ((II 1).toUInt32 &&& Int32.toUInt32 31)).toInt32) &&& (II 1431655765))).toUInt32 >>> ((II 2).toUInt32 &&& Int32.toUInt32 31)).toInt32) &&& (II 858993459))).toUInt32 >>> ((II 4).toUInt32 &&& Int32.toUInt32 31)).toInt32)) &&& (II 252645135)).toUInt32 >>> ((II 8).toUInt32 &&& Int32.toUInt32 31)).toInt32)).toUInt32 >>> ((II 16).toUInt32 &&& Int32.toUInt32 31)).toInt32)) &&& (II 63) = II (bc o : Int) from bcX_bc o ho]
  exact x_ireturn C hr hlk hw hS ⟨by omega, by omega⟩ rfl ⟨rfl, rfl⟩ dJ6_bitCount_0f7a4_52

set_option maxHeartbeats 4000000 in
set_option maxRecDepth 100000 in
theorem c_X7_few (l : Launch) (g : Gm) (M : Nat → Int) (hF : LvF g) (n : Nat) (v : Nat → Nat → Int) (nt : Int) (pd : Int) (t : Nat) (X : Txt) (I : Option Bor) (Sh : Sht) (hR : RepC M (n, v, nt, pd, t) X I Sh) (hA : InvA (n, v, nt, pd, t) X I Sh) (q : Int) (gz_q : rg q) (z : Int) (gz_z : rg z) : CI l ({ cls := "RatedBySighs", name := "few", desc := "(II)I" } : Jvm.MethodName) cX7_few 5 .int (rmm 5 124) g M [.ref (gA g 0), .int (II q), .int (II z)] (fun r M' => ((¬ ((0 ≤ q ∧ q < n) ∧ (0 ≤ z ∧ z ≤ 9999)) ∧ r = -2) ∨ (((0 ≤ q ∧ q < n) ∧ (0 ≤ z ∧ z ≤ 9999)) ∧ isFew (fun o => dueS (upv v q.toNat 4 (o : Int)) n nt (X.2.1 t) (v q.toNat 2) ≤ z) r)) ∧ (RepC M' (n, v, nt, pd, t) X I Sh) ∧ (∀ m, 70000 ≤ m → M' m = M m)) := by
  refine c_start (by decide) (Nat.le_of_ble_eq_true rfl) (fun p e s m below meth c ls C hr hlk hml hw hS hl => ?_)
  have hl : lv_has ls 5 [(0, .ref (gA g 0)), (1, .int (II q)), (2, .int (II z))] := hl
  generalize ([.ref (gA g 0), .int (II q), .int (II z)] : List Value).toArray = args at C ⊢
  generalize hQQ : MQ below (postI g (fun r M' => ((¬ ((0 ≤ q ∧ q < n) ∧ (0 ≤ z ∧ z ≤ 9999)) ∧ r = -2) ∨ (((0 ≤ q ∧ q < n) ∧ (0 ≤ z ∧ z ≤ 9999)) ∧ isFew (fun o => dueS (upv v q.toNat 4 (o : Int)) n nt (X.2.1 t) (v q.toNat 2) ≤ z) r)) ∧ (RepC M' (n, v, nt, pd, t) X I Sh) ∧ (∀ m, 70000 ≤ m → M' m = M m))) args s 0 0 (ar g) = QQ
  have g_M := hw.rg
  have hN : gN g = 84 := hF.1
  have hB : BV M n v nt t (X.2.1 t) := hR.bv hA
  have hn2 : n ≤ 8 := hB.1.2
  have hnt := hB.2.2.2.1.2
  have hpd : 0 ≤ pd ∧ pd ≤ 999999999 := hA.1.2.2.2.2.1
  refine lv_aload_n C.1 C.2.1 dX7_few_0 rfl (lv_at hl 0 rfl) ?_
  refine g7 C hw 0 (by omega) rfl 1 (by decide) mw_481 (svr (hF.2 _)) dX7_few_1 ?_
  refine lv_iload_n C.1 C.2.1 dX7_few_4 rfl (lv_at hl 1 rfl) ?_
  refine x_ci (x_runVN (n := 1) C hw hS hml hl.1 2 1 (by omega) rfl (by decide) rfl (c_X1_has l g M hF q gz_q) mn_520 mw_522 mw_16 mw_119 mw_523 rfl rfl (by decide +kernel) ⟨Nat.le_of_ble_eq_true rfl, Nat.le_of_ble_eq_true rfl⟩ rfl rfl (Nat.le_of_ble_eq_true rfl) dX7_few_5 ⟨Nat.zero_le _, Nat.zero_le _⟩) hS (fun r5 M5 H locs hr5 hp hw hS => ?_)
  rcases hp with ⟨em5, (⟨er5, h5b⟩ | ⟨er5, h5b⟩)⟩
  · have hw : Wo g M H := em5 ▸ hw
    rw [er5]
    refine x_if_eq (tgt := 22) C ⟨by decide, by decide⟩ dX7_few_8 (by decide) (fun h => absurd h (by decide)) (fun _ => ?_)
    refine lv_iload_n C.1 C.2.1 dX7_few_11 rfl (lv_at hl 2 rfl) ?_
    refine x_if_lt (tgt := 22) C gz_z dX7_few_12 (by decide) (fun c12 => ?_) (fun c12 => ?_)
    · refine lv_bipush (v := II (-2)) C.1 C.2.1 dX7_few_22 (by decide) ?_
      subst hQQ; exact x_ireturn C hr hlk hw hS ⟨by decide, by decide⟩ rfl ⟨(Or.inl ⟨(fun y => by first | exact h5b (by rw [hB.1.1]; exact y.1) | omega), rfl⟩), hR, (fun _ _ => rfl)⟩ dX7_few_24
    · refine lv_iload_n C.1 C.2.1 dX7_few_15 rfl (lv_at hl 2 rfl) ?_
      refine lv_sipush (v := II 9999) C.1 C.2.1 dX7_few_16 (by decide) ?_
      refine x_icmp_le (tgt := 25) C gz_z ⟨by decide, by decide⟩ dX7_few_19 (by decide) (fun c19 => ?_) (fun c19 => ?_)
      · have hqn : 0 ≤ q ∧ q < n := by rw [← hB.1.1]; exact h5b
        obtain ⟨i, rfl⟩ : ∃ i : Nat, q = (i : Int) := ⟨q.toNat, by omega⟩
        refine lv_iconst (v := II 0) C.1 C.2.1 dX7_few_25 rfl ?_
        refine lv_istore_n (lv' := [(3, .int (II 0)), (0, .ref (gA g 0)), (1, .int (II (i : Int))), (2, .int (II z))]) C.1 C.2.1 dX7_few_26 rfl hl (by decide) rfl (fun ls hl => ?_)
        have L27 : ∀ (f1 : Nat) (b : Nat) (M2 : Nat → Int), (7 - b) < f1 → (b ≤ 7) → (∀ o', o' < 64 → bc o' < b → ¬ dueS (upv v i 4 (o' : Int)) n nt (X.2.1 t) (v i 2) ≤ z) → (∀ m, ¬ scr m → M2 m = M m) → ∀ (H : Heap) (locs : List Loc) (ls : Array Slot), Wo g M2 H → va_S (ar g) s.heap H locs → lv_has ls 5 [(0, .ref (gA g 0)), (1, .int (II (i : Int))), (2, .int (II z)), (3, .int (II (b : Int)))] → W p l e (rmm 5 124) s m args below meth c H locs 0 0 QQ (F0 m 27 ls []) := by
          intro f1
          induction f1 with
          | zero => intro b M2 hmu; exact absurd hmu (Nat.not_lt_zero _)
          | succ f1 ih =>
            intro b M2 hmu h1 h2 hf H locs ls hw hS hl
            have ih27 := ih
            have g_M2 := hw.rg
            refine lv_iload_n C.1 C.2.1 dX7_few_27 rfl (lv_at hl 3 rfl) ?_
            refine lv_bipush (v := II 6) C.1 C.2.1 dX7_few_28 (by decide) ?_
            refine x_icmp_gt (tgt := 78) C ⟨by omega, by omega⟩ ⟨by decide, by decide⟩ dX7_few_30 (by decide) (fun c30 => ?_) (fun c30 => ?_)
            · refine lv_iconst (v := II (-1)) C.1 C.2.1 dX7_few_78 rfl ?_
              subst hQQ; exact x_ireturn C hr hlk hw hS ⟨by decide, by decide⟩ rfl ⟨(Or.inr ⟨by omega, Or.inl ⟨rfl, fun o' ho' => by simp only [Int.toNat_natCast]; exact h2 o' ho' (by have := bc_le o' ho'; omega)⟩⟩), (hR.fr hA (fun m hm => hf m (fun z => hm (Or.inl z)))), (fun m hm => hf m (by unfold scr; omega))⟩ dX7_few_79
            · refine lv_iconst (v := II 0) C.1 C.2.1 dX7_few_33 rfl ?_
              refine lv_istore (lv' := [(4, .int (II 0)), (0, .ref (gA g 0)), (1, .int (II (i : Int))), (2, .int (II z)), (3, .int (II (b : Int)))]) C.1 C.2.1 dX7_few_34 hl (by decide) rfl (fun ls hl => ?_)
              have L36 : ∀ (f2 : Nat) (o : Nat) (M3 : Nat → Int), (64 - o) < f2 → (o ≤ 64) → (∀ o', o' < o → bc o' = b → ¬ dueS (upv v i 4 (o' : Int)) n nt (X.2.1 t) (v i 2) ≤ z) → (∀ m, ¬ scr m → M3 m = M m) → ∀ (H : Heap) (locs : List Loc) (ls : Array Slot), Wo g M3 H → va_S (ar g) s.heap H locs → lv_has ls 5 [(0, .ref (gA g 0)), (1, .int (II (i : Int))), (2, .int (II z)), (3, .int (II (b : Int))), (4, .int (II (o : Int)))] → W p l e (rmm 5 124) s m args below meth c H locs 0 0 QQ (F0 m 36 ls []) := by
                intro f2
                induction f2 with
                | zero => intro o M3 hmu; exact absurd hmu (Nat.not_lt_zero _)
                | succ f2 ih =>
                  intro o M3 hmu h3 h4 hf3 H locs ls hw hS hl
                  have ih36 := ih
                  have g_M3 := hw.rg
                  refine lv_iload C.1 C.2.1 dX7_few_36 (lv_at hl 4 rfl) ?_
                  refine lv_bipush (v := II 64) C.1 C.2.1 dX7_few_38 (by decide) ?_
                  refine x_icmp_ge (tgt := 72) C ⟨by omega, by omega⟩ ⟨by decide, by decide⟩ dX7_few_40 (by decide) (fun c40 => ?_) (fun c40 => ?_)
                  · refine lv_iinc (v := II ((b : Int) + 1)) (lv' := [(3, .int (II ((b : Int) + 1))), (0, .ref (gA g 0)), (1, .int (II (i : Int))), (2, .int (II z)), (4, .int (II (o : Int)))]) C.1 C.2.1 dX7_few_72 hl (k := 3) rfl (II_add _ _) (by decide) rfl (fun ls hl => ?_)
                    refine lv_goto (tgt := 27) C.1 C.2.1 dX7_few_75 (by decide) ?_
                    exact ih27  (b + 1) M3 (by omega) (by omega) (fun o' ho hb => by by_cases e : bc o' < b <;> first | exact h2 o' ho e | exact h4 o' (by omega) (by omega)) hf3 _ _ _ hw hS (lv_sub hl [1, 2, 3, 0] rfl)
                  · have hbl := bc_le o (by omega)
                    have hdi := dueS_in (upv v i 4 (o : Int)) n nt (X.2.1 t) (v i 2)
                    refine lv_iload C.1 C.2.1 dX7_few_43 (lv_at hl 4 rfl) ?_
                    refine x_ci (x_runS (n := 1) C hw hS hml hl.1 (c_J6_bitCount l g M3 o (by omega)) mw_671 mw_672 mw_132 mw_673 rfl rfl (by decide +kernel) ⟨Nat.le_of_ble_eq_true rfl, Nat.le_of_ble_eq_true rfl⟩ rfl rfl (Nat.le_of_ble_eq_true rfl) dX7_few_45 ⟨Nat.zero_le _, Nat.zero_le _⟩) hS (fun r45 M45 H locs hr45 hp hw hS => ?_)
                    obtain ⟨em45, er45⟩ := hp
                    have hw : Wo g M3 H := em45 ▸ hw
                    rw [er45] at hr45 ⊢
                    refine lv_iload_n C.1 C.2.1 dX7_few_48 rfl (lv_at hl 3 rfl) ?_
                    refine x_icmp_ne (tgt := 66) C hr45 ⟨by omega, by omega⟩ dX7_few_49 (by decide) (fun c49 => ?_) (fun c49 => ?_)
                    · refine lv_iinc (v := II ((o : Int) + 1)) (lv' := [(4, .int (II ((o : Int) + 1))), (0, .ref (gA g 0)), (1, .int (II (i : Int))), (2, .int (II z)), (3, .int (II (b : Int)))]) C.1 C.2.1 dX7_few_66 hl (k := 4) rfl (II_add _ _) (by decide) rfl (fun ls hl => ?_)
                      refine lv_goto (tgt := 36) C.1 C.2.1 dX7_few_69 (by decide) ?_
                      exact ih36  (o + 1) M3 (by omega) (by omega) (fun o' ho hb => by by_cases e : o' = o <;> first | exact h4 o' (by omega) hb | (rw [e] at hb ⊢; omega)) hf3 _ _ _ hw hS (lv_sub hl [1, 2, 3, 4, 0] rfl)
                    · refine lv_aload_n C.1 C.2.1 dX7_few_52 rfl (lv_at hl 0 rfl) ?_
                      refine lv_iload_n C.1 C.2.1 dX7_few_53 rfl (lv_at hl 1 rfl) ?_
                      refine lv_iload C.1 C.2.1 dX7_few_54 (lv_at hl 4 rfl) ?_
                      refine x_ci (x_runV (n := 2) C hw hS hml hl.1 0 7 (by omega) rfl (by decide) rfl (c_X7_dueIfOut l g M3 hF n v nt t (X.2.1 t) (hB.fr hf3) i (by first | assumption | omega | exact ⟨by omega, by omega⟩ | decide) (o : Int) (by omega)) mw_677 mw_679 mw_36 mw_117 mw_680 rfl rfl (by decide +kernel) ⟨Nat.le_of_ble_eq_true rfl, Nat.le_of_ble_eq_true rfl⟩ rfl rfl (Nat.le_of_ble_eq_true rfl) dX7_few_56 ⟨Nat.zero_le _, Nat.zero_le _⟩) hS (fun r56 M56 H locs hr56 hp hw hS => ?_)
                      obtain ⟨er56, h56f⟩ := hp
                      have g_M56 := hw.rg
                      rw [er56] at hr56 ⊢
                      refine lv_iload_n C.1 C.2.1 dX7_few_59 rfl (lv_at hl 2 rfl) ?_
                      refine x_icmp_gt (tgt := 66) C hr56 gz_z dX7_few_60 (by decide) (fun c60 => ?_) (fun c60 => ?_)
                      · refine lv_iinc (v := II ((o : Int) + 1)) (lv' := [(4, .int (II ((o : Int) + 1))), (0, .ref (gA g 0)), (1, .int (II (i : Int))), (2, .int (II z)), (3, .int (II (b : Int)))]) C.1 C.2.1 dX7_few_66 hl (k := 4) rfl (II_add _ _) (by decide) rfl (fun ls hl => ?_)
                        refine lv_goto (tgt := 36) C.1 C.2.1 dX7_few_69 (by decide) ?_
                        exact ih36  (o + 1) M56 (by omega) (by omega) (fun o' ho hb => by by_cases e : o' = o <;> first | exact h4 o' (by omega) hb | (rw [e] at hb ⊢; omega)) (fun m hm => (h56f m hm).trans (hf3 m hm)) _ _ _ hw hS (lv_sub hl [1, 2, 3, 4, 0] rfl)
                      · refine lv_iload C.1 C.2.1 dX7_few_63 (lv_at hl 4 rfl) ?_
                        subst hQQ; exact x_ireturn C hr hlk hw hS ⟨by omega, by omega⟩ rfl ⟨(Or.inr ⟨by omega, Or.inr ⟨o, rfl, by omega, by simp only [Int.toNat_natCast]; omega, fun o' ho' hp => by simp only [Int.toNat_natCast] at hp; have a := h2 o' ho'; have b9 := h4 o'; have e1 : bc o = b := (by omega); by_cases c1 : bc o' < b <;> first | exact absurd hp (a c1) | (by_cases c2 : o' < o <;> first | (by_cases c3 : bc o' = b <;> first | exact absurd hp (b9 c2 c3) | omega) | omega)⟩⟩), (hR.fr hA (fun m hm => (fun m hm => (h56f m hm).trans (hf3 m hm)) m (fun z => hm (Or.inl z)))), (fun m hm => (fun m hm => (h56f m hm).trans (hf3 m hm)) m (by unfold scr; omega))⟩ dX7_few_65
              exact L36 _ 0 M2 (Nat.lt_succ_self _) (by omega) (fun _ h => absurd h (Nat.not_lt_zero _)) hf _ _ _ hw hS (lv_sub hl [1, 2, 3, 4, 0] rfl)
        exact L27 _ 0 M (Nat.lt_succ_self _) (by omega) (fun _ _ h => absurd h (Nat.not_lt_zero _)) (fun _ _ => rfl) _ _ _ hw hS (lv_sub hl [1, 2, 3, 0] rfl)
      · refine lv_bipush (v := II (-2)) C.1 C.2.1 dX7_few_22 (by decide) ?_
        subst hQQ; exact x_ireturn C hr hlk hw hS ⟨by decide, by decide⟩ rfl ⟨(Or.inl ⟨(fun y => by first | exact h5b (by rw [hB.1.1]; exact y.1) | omega), rfl⟩), hR, (fun _ _ => rfl)⟩ dX7_few_24
  · have hw : Wo g M H := em5 ▸ hw
    rw [er5]
    refine x_if_eq (tgt := 22) C ⟨by decide, by decide⟩ dX7_few_8 (by decide) (fun _ => ?_) (fun h => absurd h (by decide))
    refine lv_bipush (v := II (-2)) C.1 C.2.1 dX7_few_22 (by decide) ?_
    subst hQQ; exact x_ireturn C hr hlk hw hS ⟨by decide, by decide⟩ rfl ⟨(Or.inl ⟨(fun y => by first | exact h5b (by rw [hB.1.1]; exact y.1) | omega), rfl⟩), hR, (fun _ _ => rfl)⟩ dX7_few_24
