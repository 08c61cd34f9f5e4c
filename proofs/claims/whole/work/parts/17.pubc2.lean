theorem BV.sw {M : Nat → Int} {n : Nat} {v : Nat → Nat → Int} {nt : Int} {t : Nat} {E : Ev} (h : BV M n v nt t E) {i j : Nat} (hij : i < j) (hj : j < n) : BV (stM (stM M (1000 * (4 + i) + 2) (M (1000 * (4 + j) + 2))) (1000 * (4 + j) + 2) (M (1000 * (4 + i) + 2))) n (swp v i j) nt t E := by
  have h1 := h.up (q := i) (f := 2) (x := v j 2) (by omega) (by decide) (PI.up h.2.2.1 (by have := h.2.2.1 j hj; omega))
  have h2 := h1.up (q := j) (f := 2) (x := v i 2) hj (by decide) (PI.up h1.2.2.1 (by have := h.2.2.1 i (by omega); omega))
  rw [h.2.1 j hj 2 (by decide), h.2.1 i (by omega) 2 (by decide)]
  exact h2
theorem swb {M M' : Nat → Int} {a b : Nat} (hab : a ≠ b) {P : Nat → Prop} (hf : ∀ m, ¬ P m → M' m = stM (stM M a (M b)) b (M a) m) (ha : ¬ P a) (hb : ¬ P b) : ∀ m, ¬ P m → stM (stM M' a (M' b)) b (M' a) m = M m := by
  intro m hm
  by_cases e : m = b
  · subst e; rw [st_s, hf a ha, st_n hab, st_s]
  · rw [st_n e]
    by_cases e2 : m = a
    · subst e2; rw [st_s, hf b hb, st_s]
    · rw [st_n e2, hf m hm, st_n e, st_n e2]
set_option maxHeartbeats 4000000 in
set_option maxRecDepth 100000 in
theorem c_X7_cart (l : Launch) (g : Gm) (M : Nat → Int) (hF : LvF g) (n : Nat) (v : Nat → Nat → Int) (nt : Int) (pd : Int) (t : Nat) (X : Txt) (I : Option Bor) (Sh : Sht) (hR : RepC M (n, v, nt, pd, t) X I Sh) (hA : InvA (n, v, nt, pd, t) X I Sh) (w : Int) (gz_w : rg w) : CI l ({ cls := "RatedBySighs", name := "cart", desc := "(I)I" } : Jvm.MethodName) cX7_cart 5 .int (rmm 6 147) g M [.ref (gA g 0), .int (II w)] (fun r M' => r = r_best (ctA v n nt (X.2.1 t) n) w ∧ (RepC M' (n, v, nt, pd, t) X I Sh) ∧ (∀ m, 70000 ≤ m → M' m = M m)) := by
  refine c_start (by decide) (Nat.le_of_ble_eq_true rfl) (fun p e s m below meth c ls C hr hlk hml hw hS hl => ?_)
  have hl : lv_has ls 5 [(0, .ref (gA g 0)), (1, .int (II w))] := hl
  generalize ([.ref (gA g 0), .int (II w)] : List Value).toArray = args at C ⊢
  generalize hQQ : MQ below (postI g (fun r M' => r = r_best (ctA v n nt (X.2.1 t) n) w ∧ (RepC M' (n, v, nt, pd, t) X I Sh) ∧ (∀ m, 70000 ≤ m → M' m = M m))) args s 0 0 (ar g) = QQ
  have g_M := hw.rg
  have hN : gN g = 84 := hF.1
  have hB : BV M n v nt t (X.2.1 t) := hR.bv hA
  have hn2 : n ≤ 8 := hB.1.2
  have hnt := hB.2.2.2.1.2
  have hpd : 0 ≤ pd ∧ pd ≤ 999999999 := hA.1.2.2.2.2.1
  have hall := allS_in v n nt (X.2.1 t)
  refine lv_iload_n C.1 C.2.1 dX7_cart_0 rfl (lv_at hl 1 rfl) ?_
  refine x_ci (x_runS (n := 1) C hw hS hml hl.1 (c_X7_isZeroOrOne l g M w gz_w) mw_631 mw_632 mw_117 mw_633 rfl rfl (by decide +kernel) ⟨Nat.le_of_ble_eq_true rfl, Nat.le_of_ble_eq_true rfl⟩ rfl rfl (Nat.le_of_ble_eq_true rfl) dX7_cart_1 ⟨Nat.zero_le _, Nat.zero_le _⟩) hS (fun r1 M1 H locs hr1 hp hw hS => ?_)
  rcases hp with ⟨em1, (⟨er1, h1b⟩ | ⟨er1, h1b⟩)⟩
  · have hw : Wo g M H := em1 ▸ hw
    rw [er1]
    refine x_if_ne (tgt := 10) C ⟨by decide, by decide⟩ dX7_cart_4 (by decide) (fun _ => ?_) (fun h => absurd h (by decide))
    refine lv_aload_n C.1 C.2.1 dX7_cart_10 rfl (lv_at hl 0 rfl) ?_
    refine g7 C hw 0 (by omega) rfl 6 (by decide) mw_486 (svr (hF.2 _)) dX7_cart_11 ?_
    refine lv_aload_n C.1 C.2.1 dX7_cart_14 rfl (lv_at hl 0 rfl) ?_
    refine g7 C hw 0 (by omega) rfl 0 (by decide) mw_480 (svr (hF.2 _)) dX7_cart_15 ?_
    refine x_ci (x_runVN (n := 0) C hw hS hml hl.1 1 2 (by omega) rfl (by decide) rfl (c_X2_playAll l g M hF n v nt t (X.2.1 t) hB) mn_617 mw_619 mw_30 mw_118 mw_620 rfl rfl (by decide +kernel) ⟨Nat.le_of_ble_eq_true rfl, Nat.le_of_ble_eq_true rfl⟩ rfl rfl (Nat.le_of_ble_eq_true rfl) dX7_cart_18 ⟨Nat.zero_le _, Nat.zero_le _⟩) hS (fun r18 M18 H locs hr18 hp hw hS => ?_)
    obtain ⟨er18, h18f⟩ := hp
    have g_M18 := hw.rg
    rw [er18] at hr18 ⊢
    refine x_cv (x_runVN (n := 1) C hw hS hml hl.1 59 0 (by omega) rfl (by decide) rfl (c_X0_begin l g M18 hF (allS v n nt (X.2.1 t)) hr18) mn_651 mw_653 mw_33 mw_123 mw_654 rfl rfl (by decide +kernel) ⟨Nat.le_of_ble_eq_true rfl, Nat.le_of_ble_eq_true rfl⟩ rfl rfl (Nat.le_of_ble_eq_true rfl) dX7_cart_21 ⟨Nat.zero_le _, Nat.zero_le _⟩) hS (fun M21 H locs hp hw hS => ?_)
    have em21 := hp
    have hw : Wo g (stM (stM M18 59000 (-1)) 59001 (allS v n nt (X.2.1 t))) H := em21 ▸ hw
    refine lv_iconst (v := II 0) C.1 C.2.1 dX7_cart_24 rfl ?_
    refine lv_istore_n (lv' := [(2, .int (II 0)), (0, .ref (gA g 0)), (1, .int (II w))]) C.1 C.2.1 dX7_cart_25 rfl hl (by decide) rfl (fun ls hl => ?_)
    have L26 : ∀ (f1 : Nat) (i : Nat) (M2 : Nat → Int), (n - i) < f1 → (i ≤ n) → (M2 59000 = (ctA v n nt (X.2.1 t) i).1 ∧ M2 59001 = (ctA v n nt (X.2.1 t) i).2) → ((-1 ≤ (ctA v n nt (X.2.1 t) i).1 ∧ (ctA v n nt (X.2.1 t) i).1 ≤ 77) ∧ (0 ≤ (ctA v n nt (X.2.1 t) i).2 ∧ (ctA v n nt (X.2.1 t) i).2 ≤ 49995)) → (∀ m, ¬ (scr m ∨ m / 1000 = 59) → M2 m = M m) → ∀ (H : Heap) (locs : List Loc) (ls : Array Slot), Wo g M2 H → va_S (ar g) s.heap H locs → lv_has ls 5 [(0, .ref (gA g 0)), (1, .int (II w)), (2, .int (II (i : Int)))] → W p l e (rmm 6 147) s m args below meth c H locs 0 0 QQ (F0 m 26 ls []) := by
      intro f1
      induction f1 with
      | zero => intro i M2 hmu; exact absurd hmu (Nat.not_lt_zero _)
      | succ f1 ih =>
        intro i M2 hmu h1 h2 h3 hf H locs ls hw hS hl
        have ih26 := ih
        have g_M2 := hw.rg
        have hB2 : BV M2 n v nt t (X.2.1 t) := hB.fr2 hf
        refine lv_iload_n C.1 C.2.1 dX7_cart_26 rfl (lv_at hl 2 rfl) ?_
        refine lv_aload_n C.1 C.2.1 dX7_cart_27 rfl (lv_at hl 0 rfl) ?_
        refine g7 C hw 0 (by omega) rfl 1 (by decide) mw_481 (svr (hF.2 _)) dX7_cart_28 ?_
        refine gn1 C hw 2 (by omega) rfl 1 (by decide) mn_191 (svi (x := (n : Int)) hB2.1.1) dX7_cart_31 ?_
        refine x_icmp_ge (tgt := 98) C ⟨by omega, by omega⟩ ⟨by have := g_M2 2001; have := hB2.1.1; omega, by have := g_M2 2001; have := hB2.1.1; omega⟩ dX7_cart_34 (by decide) (fun c34 => ?_) (fun c34 => ?_)
        · refine lv_aload_n C.1 C.2.1 dX7_cart_98 rfl (lv_at hl 0 rfl) ?_
          refine g7 C hw 0 (by omega) rfl 6 (by decide) mw_486 (svr (hF.2 _)) dX7_cart_99 ?_
          refine lv_iload_n C.1 C.2.1 dX7_cart_102 rfl (lv_at hl 1 rfl) ?_
          refine x_ci (x_runVN (n := 1) C hw hS hml hl.1 59 0 (by omega) rfl (by decide) rfl (c_X0_answer l g M2 hF w gz_w) mn_659 mw_661 mw_35 mw_123 mw_662 rfl rfl (by decide +kernel) ⟨Nat.le_of_ble_eq_true rfl, Nat.le_of_ble_eq_true rfl⟩ rfl rfl (Nat.le_of_ble_eq_true rfl) dX7_cart_103 ⟨Nat.zero_le _, Nat.zero_le _⟩) hS (fun r103 M103 H locs hr103 hp hw hS => ?_)
          obtain ⟨em103, er103⟩ := hp
          have hw : Wo g M2 H := em103 ▸ hw
          rw [er103] at hr103 ⊢
          subst hQQ; exact x_ireturn C hr hlk hw hS hr103 rfl ⟨(by have e : i = n := (by omega); subst e; unfold r_best; rw [h2.1, h2.2]; (repeat' split) <;> first | rfl | omega), (hR.fr hA (fun m hm => hf m (fun z => hm (z.elim Or.inl (fun y => Or.inr (Or.inl y)))))), (fun m hm => hf m (by unfold scr; omega))⟩ dX7_cart_106
        · have hq := hB.2.2.1 i (by omega)
          refine lv_aload_n C.1 C.2.1 dX7_cart_37 rfl (lv_at hl 0 rfl) ?_
          refine g7 C hw 0 (by omega) rfl 1 (by decide) mw_481 (svr (hF.2 _)) dX7_cart_38 ?_
          refine gn1 C hw 2 (by omega) rfl 0 (by decide) mn_187 (svr (hF.2 _)) dX7_cart_41 ?_
          refine lv_iload_n C.1 C.2.1 dX7_cart_44 rfl (lv_at hl 2 rfl) ?_
          refine x_aaload (L := 8) C hw 3 (by omega) 11 rfl (by decide) rfl (by omega) (by omega) (by decide) (rP hF i (by omega)) dX7_cart_45 ?_
          refine gn3 C hw (4 + i) (by omega) (kd_p (by omega)) 4 (by decide) mn_174 (svi (x := v i 4) (hB2.2.1 i (by omega) 4 (by decide))) dX7_cart_46 ?_
          refine lv_istore_n (lv' := [(3, .int (II (v i 4))), (0, .ref (gA g 0)), (1, .int (II w)), (2, .int (II (i : Int)))]) C.1 C.2.1 dX7_cart_49 rfl hl (by decide) rfl (fun ls hl => ?_)
          refine lv_iconst (v := II 0) C.1 C.2.1 dX7_cart_50 rfl ?_
          refine lv_istore (lv' := [(4, .int (II 0)), (3, .int (II (v i 4))), (0, .ref (gA g 0)), (1, .int (II w)), (2, .int (II (i : Int)))]) C.1 C.2.1 dX7_cart_51 hl (by decide) rfl (fun ls hl => ?_)
          have L53 : ∀ (f2 : Nat) (k : Nat) (M3 : Nat → Int), (6 - k) < f2 → (k ≤ 6) → (M3 59000 = (ct1 v n nt (X.2.1 t) i (ctA v n nt (X.2.1 t) i) k).1 ∧ M3 59001 = (ct1 v n nt (X.2.1 t) i (ctA v n nt (X.2.1 t) i) k).2) → ((-1 ≤ (ct1 v n nt (X.2.1 t) i (ctA v n nt (X.2.1 t) i) k).1 ∧ (ct1 v n nt (X.2.1 t) i (ctA v n nt (X.2.1 t) i) k).1 ≤ 77) ∧ (0 ≤ (ct1 v n nt (X.2.1 t) i (ctA v n nt (X.2.1 t) i) k).2 ∧ (ct1 v n nt (X.2.1 t) i (ctA v n nt (X.2.1 t) i) k).2 ≤ 49995)) → (∀ m, ¬ (scr m ∨ m / 1000 = 59) → M3 m = M m) → ∀ (H : Heap) (locs : List Loc) (ls : Array Slot), Wo g M3 H → va_S (ar g) s.heap H locs → lv_has ls 5 [(0, .ref (gA g 0)), (1, .int (II w)), (2, .int (II (i : Int))), (3, .int (II (v i 4))), (4, .int (II (k : Int)))] → W p l e (rmm 6 147) s m args below meth c H locs 0 0 QQ (F0 m 53 ls []) := by
            intro f2
            induction f2 with
            | zero => intro k M3 hmu; exact absurd hmu (Nat.not_lt_zero _)
            | succ f2 ih =>
              intro k M3 hmu h7 h8 h9 hf3 H locs ls hw hS hl
              have ih53 := ih
              have g_M3 := hw.rg
              have hB3 : BV M3 n v nt t (X.2.1 t) := hB.fr2 hf3
              refine lv_iload C.1 C.2.1 dX7_cart_53 (lv_at hl 4 rfl) ?_
              refine lv_bipush (v := II 6) C.1 C.2.1 dX7_cart_55 (by decide) ?_
              refine x_icmp_ge (tgt := 92) C ⟨by omega, by omega⟩ ⟨by decide, by decide⟩ dX7_cart_57 (by decide) (fun c57 => ?_) (fun c57 => ?_)
              · refine lv_iinc (v := II ((i : Int) + 1)) (lv' := [(2, .int (II ((i : Int) + 1))), (0, .ref (gA g 0)), (1, .int (II w)), (3, .int (II (v i 4))), (4, .int (II (k : Int)))]) C.1 C.2.1 dX7_cart_92 hl (k := 2) rfl (II_add _ _) (by decide) rfl (fun ls hl => ?_)
                refine lv_goto (tgt := 26) C.1 C.2.1 dX7_cart_95 (by decide) ?_
                exact ih26  (i + 1) M3 (by omega) (by omega) (by rw [ctA, show 6 = k by omega]; exact h8) (by rw [ctA, show 6 = k by omega]; exact h9) hf3 _ _ _ hw hS (lv_sub hl [1, 2, 0] rfl)
              · refine lv_aload_n C.1 C.2.1 dX7_cart_60 rfl (lv_at hl 0 rfl) ?_
                refine g7 C hw 0 (by omega) rfl 6 (by decide) mw_486 (svr (hF.2 _)) dX7_cart_61 ?_
                refine lv_bipush (v := II 10) C.1 C.2.1 dX7_cart_64 (by decide) ?_
                refine lv_iload_n C.1 C.2.1 dX7_cart_66 rfl (lv_at hl 2 rfl) ?_
                refine x_imul C dX7_cart_67 ?_
                refine lv_iload C.1 C.2.1 dX7_cart_68 (lv_at hl 4 rfl) ?_
                refine x_iadd C dX7_cart_70 ?_
                refine lv_aload_n C.1 C.2.1 dX7_cart_71 rfl (lv_at hl 0 rfl) ?_
                refine lv_iload_n C.1 C.2.1 dX7_cart_72 rfl (lv_at hl 2 rfl) ?_
                refine lv_iconst (v := II 4) C.1 C.2.1 dX7_cart_73 rfl ?_
                refine lv_iload_n C.1 C.2.1 dX7_cart_74 rfl (lv_at hl 3 rfl) ?_
                refine lv_iconst (v := II 1) C.1 C.2.1 dX7_cart_75 rfl ?_
                refine lv_iload C.1 C.2.1 dX7_cart_76 (lv_at hl 4 rfl) ?_
                refine lv_ishl C.1 C.2.1 dX7_cart_78 ?_
                refine lv_ior C.1 C.2.1 dX7_cart_79 ?_
                rw [show (II (v i 4)) ||| (II 1 <<< (II (k : Int) &&& 31)) = II (orb (v i 4) k) from (II_self _).symm]
                refine x_ci (x_runV (n := 3) C hw hS hml hl.1 0 7 (by omega) rfl (by decide) rfl (c_X7_allIf l g M3 hF n v nt t (X.2.1 t) hB3 i (by first | assumption | omega | exact ⟨by omega, by omega⟩ | decide) 4 ⟨by decide, by decide⟩ 4 ⟨by decide, by decide⟩ (orb (v i 4) k) (rg_toInt _) (PI.upO hB.2.2.1 (orb_in (by omega) (by omega) (by omega)))) mw_639 mw_641 mw_31 mw_117 mw_642 rfl rfl (by decide +kernel) ⟨Nat.le_of_ble_eq_true rfl, Nat.le_of_ble_eq_true rfl⟩ rfl rfl (Nat.le_of_ble_eq_true rfl) dX7_cart_80 ⟨Nat.zero_le _, Nat.zero_le _⟩) hS (fun r80 M80 H locs hr80 hp hw hS => ?_)
                obtain ⟨er80, h80f⟩ := hp
                have g_M80 := hw.rg
                rw [er80] at hr80 ⊢
                refine x_cv (x_runVN (n := 2) C hw hS hml hl.1 59 0 (by omega) rfl (by decide) rfl (c_X0_offer l g M80 hF ((10 * (i : Int)) + (k : Int)) ⟨by omega, by omega⟩ (allS (upv v i 4 (orb (v i 4) k)) n nt (X.2.1 t)) hr80) mn_655 mw_657 mw_34 mw_123 mw_658 rfl rfl (by decide +kernel) ⟨Nat.le_of_ble_eq_true rfl, Nat.le_of_ble_eq_true rfl⟩ rfl rfl (Nat.le_of_ble_eq_true rfl) dX7_cart_83 ⟨Nat.zero_le _, Nat.zero_le _⟩) hS (fun M83 H locs hp hw hS => ?_)
                have em83 := hp
                have hw : Wo g (if (allS (upv v i 4 (orb (v i 4) k)) n nt (X.2.1 t)) < M80 59001 then stM (stM M80 59000 ((10 * (i : Int)) + (k : Int))) 59001 (allS (upv v i 4 (orb (v i 4) k)) n nt (X.2.1 t)) else M80) H := em83 ▸ hw
                refine lv_iinc (v := II ((k : Int) + 1)) (lv' := [(4, .int (II ((k : Int) + 1))), (0, .ref (gA g 0)), (1, .int (II w)), (2, .int (II (i : Int))), (3, .int (II (v i 4)))]) C.1 C.2.1 dX7_cart_86 hl (k := 4) rfl (II_add _ _) (by decide) rfl (fun ls hl => ?_)
                refine lv_goto (tgt := 53) C.1 C.2.1 dX7_cart_89 (by decide) ?_
                exact ih53  (k + 1) (if allS (upv v i 4 (orb (v i 4) k)) n nt (X.2.1 t) < M80 59001 then stM (stM M80 59000 (10 * (i : Int) + (k : Int))) 59001 (allS (upv v i 4 (orb (v i 4) k)) n nt (X.2.1 t)) else M80) (by omega) (by omega) (by rw [ct1, ofr, h80f _ (by unfold scr; omega), h8.2]; split <;> simp [stM, h80f 59000 (by unfold scr; omega), h80f 59001 (by unfold scr; omega), h8]) (by rw [ct1]; exact ofr_in h9 (by omega) (allS_in _ _ _ _)) (fun m hm => by have hm2 : ¬ m / 1000 = 59 := (fun z => hm (Or.inr z)); split <;> (try rw [st_n (by omega), st_n (by omega)]) <;> exact (h80f m (fun z => hm (Or.inl z))).trans (hf3 m hm)) _ _ _ hw hS (lv_sub hl [1, 2, 3, 4, 0] rfl)
          exact L53 _ 0 M2 (Nat.lt_succ_self _) (by omega) h2 h3 hf _ _ _ hw hS (lv_sub hl [2, 3, 4, 1, 0] rfl)
    exact L26 _ 0 (stM (stM M18 59000 (-1)) 59001 (allS v n nt (X.2.1 t))) (Nat.lt_succ_self _) (by omega) (⟨(st_n (by decide)).trans st_s, st_s⟩) (by unfold ctA; dsimp only; omega) (fun m hm => by have hm2 : ¬ m / 1000 = 59 := (fun z => hm (Or.inr z)); rw [st_n (by omega), st_n (by omega)]; exact h18f m (fun z => hm (Or.inl z))) _ _ _ hw hS (lv_sub hl [1, 2, 0] rfl)
  · have hw : Wo g M H := em1 ▸ hw
    rw [er1]
    refine x_if_ne (tgt := 10) C ⟨by decide, by decide⟩ dX7_cart_4 (by decide) (fun h => absurd h (by decide)) (fun _ => ?_)
    refine lv_bipush (v := II (-2)) C.1 C.2.1 dX7_cart_7 (by decide) ?_
    subst hQQ; exact x_ireturn C hr hlk hw hS ⟨by decide, by decide⟩ rfl ⟨(by unfold r_best; (repeat' split) <;> first | rfl | omega), hR, (fun _ _ => rfl)⟩ dX7_cart_9

set_option maxHeartbeats 4000000 in
set_option maxRecDepth 100000 in
theorem c_X7_changeHouses (l : Launch) (g : Gm) (M : Nat → Int) (hF : LvF g) (n : Nat) (hn : n ≤ 8) (i : Nat) (j : Nat) (hij : i < j ∧ j < n) : CV l ({ cls := "RatedBySighs", name := "changeHouses", desc := "(II)V" } : Jvm.MethodName) cX7_changeHouses 4 (rmm 0 0) g M [.ref (gA g 0), .int (II (i : Int)), .int (II (j : Int))] (fun M' => M' = stM (stM M (1000 * (4 + i) + 2) (M (1000 * (4 + j) + 2))) (1000 * (4 + j) + 2) (M (1000 * (4 + i) + 2))) := by
  refine c_start (by decide) (Nat.le_of_ble_eq_true rfl) (fun p e s m below meth c ls C hr hlk hml hw hS hl => ?_)
  have hl : lv_has ls 4 [(0, .ref (gA g 0)), (1, .int (II (i : Int))), (2, .int (II (j : Int)))] := hl
  have g_M := hw.rg
  have hN : gN g = 84 := hF.1
  refine lv_aload_n C.1 C.2.1 dX7_changeHouses_0 rfl (lv_at hl 0 rfl) ?_
  refine g7 C hw 0 (by omega) rfl 1 (by decide) mw_481 (svr (hF.2 _)) dX7_changeHouses_1 ?_
  refine gn1 C hw 2 (by omega) rfl 0 (by decide) mn_187 (svr (hF.2 _)) dX7_changeHouses_4 ?_
  refine lv_iload_n C.1 C.2.1 dX7_changeHouses_7 rfl (lv_at hl 1 rfl) ?_
  refine x_aaload (L := 8) C hw 3 (by omega) 11 rfl (by decide) rfl (by omega) (by omega) (by decide) (rP hF i (by omega)) dX7_changeHouses_8 ?_
  refine gn3 C hw (4 + i) (by omega) (kd_p (by omega)) 2 (by decide) mn_169 (svi (x := M (1000 * (4 + i) + 2)) rfl) dX7_changeHouses_9 ?_
  refine lv_istore_n (lv' := [(3, .int (II (M (1000 * (4 + i) + 2)))), (0, .ref (gA g 0)), (1, .int (II (i : Int))), (2, .int (II (j : Int)))]) C.1 C.2.1 dX7_changeHouses_12 rfl hl (by decide) rfl (fun ls hl => ?_)
  refine lv_aload_n C.1 C.2.1 dX7_changeHouses_13 rfl (lv_at hl 1 rfl) ?_
  refine g7 C hw 0 (by omega) rfl 1 (by decide) mw_481 (svr (hF.2 _)) dX7_changeHouses_14 ?_
  refine gn1 C hw 2 (by omega) rfl 0 (by decide) mn_187 (svr (hF.2 _)) dX7_changeHouses_17 ?_
  refine lv_iload_n C.1 C.2.1 dX7_changeHouses_20 rfl (lv_at hl 2 rfl) ?_
  refine x_aaload (L := 8) C hw 3 (by omega) 11 rfl (by decide) rfl (by omega) (by omega) (by decide) (rP hF i (by omega)) dX7_changeHouses_21 ?_
  refine lv_aload_n C.1 C.2.1 dX7_changeHouses_22 rfl (lv_at hl 1 rfl) ?_
  refine g7 C hw 0 (by omega) rfl 1 (by decide) mw_481 (svr (hF.2 _)) dX7_changeHouses_23 ?_
  refine gn1 C hw 2 (by omega) rfl 0 (by decide) mn_187 (svr (hF.2 _)) dX7_changeHouses_26 ?_
  refine lv_iload_n C.1 C.2.1 dX7_changeHouses_29 rfl (lv_at hl 3 rfl) ?_
  refine x_aaload (L := 8) C hw 3 (by omega) 11 rfl (by decide) rfl (by omega) (by omega) (by decide) (rP hF j (by omega)) dX7_changeHouses_30 ?_
  refine gn3 C hw (4 + j) (by omega) (kd_p (by omega)) 2 (by decide) mn_169 (svi (x := M (1000 * (4 + j) + 2)) rfl) dX7_changeHouses_31 ?_
  refine pn3 C hw hS (4 + i) (by omega) (kd_p (by omega)) 2 (by decide) mn_169 rfl (x := M (1000 * (4 + j) + 2)) (g_M _) (svi st_s) (tyX3_ok 2 (by decide)) rfl rfl dX7_changeHouses_34 (fun H locs hw hS => ?_)
  have hw : Wo g (stM M (1000 * (4 + i) + 2) (M (1000 * (4 + j) + 2))) H := hw
  refine lv_aload_n C.1 C.2.1 dX7_changeHouses_37 rfl (lv_at hl 1 rfl) ?_
  refine g7 C hw 0 (by omega) rfl 1 (by decide) mw_481 (svr (hF.2 _)) dX7_changeHouses_38 ?_
  refine gn1 C hw 2 (by omega) rfl 0 (by decide) mn_187 (svr (hF.2 _)) dX7_changeHouses_41 ?_
  refine lv_iload_n C.1 C.2.1 dX7_changeHouses_44 rfl (lv_at hl 3 rfl) ?_
  refine x_aaload (L := 8) C hw 3 (by omega) 11 rfl (by decide) rfl (by omega) (by omega) (by decide) (rP hF j (by omega)) dX7_changeHouses_45 ?_
  refine lv_iload_n C.1 C.2.1 dX7_changeHouses_46 rfl (lv_at hl 0 rfl) ?_
  refine pn3 C hw hS (4 + j) (by omega) (kd_p (by omega)) 2 (by decide) mn_169 rfl (x := M (1000 * (4 + i) + 2)) (g_M _) (svi st_s) (tyX3_ok 2 (by decide)) rfl rfl dX7_changeHouses_47 (fun H locs hw hS => ?_)
  have hw : Wo g (stM (stM M (1000 * (4 + i) + 2) (M (1000 * (4 + j) + 2))) (1000 * (4 + j) + 2) (M (1000 * (4 + i) + 2))) H := hw
  exact x_return C hr hlk hw hS rfl dX7_changeHouses_50

set_option maxHeartbeats 4000000 in
set_option maxRecDepth 100000 in
theorem c_X7_change (l : Launch) (g : Gm) (M : Nat → Int) (hF : LvF g) (n : Nat) (v : Nat → Nat → Int) (nt : Int) (pd : Int) (t : Nat) (X : Txt) (I : Option Bor) (Sh : Sht) (hR : RepC M (n, v, nt, pd, t) X I Sh) (hA : InvA (n, v, nt, pd, t) X I Sh) (w : Int) (gz_w : rg w) : CI l ({ cls := "RatedBySighs", name := "change", desc := "(I)I" } : Jvm.MethodName) cX7_change 4 .int (rmm 5 121) g M [.ref (gA g 0), .int (II w)] (fun r M' => r = r_best (chA v n nt (X.2.1 t) n) w ∧ (RepC M' (n, v, nt, pd, t) X I Sh) ∧ (∀ m, 70000 ≤ m → M' m = M m)) := by
  refine c_start (by decide) (Nat.le_of_ble_eq_true rfl) (fun p e s m below meth c ls C hr hlk hml hw hS hl => ?_)
  have hl : lv_has ls 4 [(0, .ref (gA g 0)), (1, .int (II w))] := hl
  generalize ([.ref (gA g 0), .int (II w)] : List Value).toArray = args at C ⊢
  generalize hQQ : MQ below (postI g (fun r M' => r = r_best (chA v n nt (X.2.1 t) n) w ∧ (RepC M' (n, v, nt, pd, t) X I Sh) ∧ (∀ m, 70000 ≤ m → M' m = M m))) args s 0 0 (ar g) = QQ
  have g_M := hw.rg
  have hN : gN g = 84 := hF.1
  have hB : BV M n v nt t (X.2.1 t) := hR.bv hA
  have hn2 : n ≤ 8 := hB.1.2
  have hnt := hB.2.2.2.1.2
  have hpd : 0 ≤ pd ∧ pd ≤ 999999999 := hA.1.2.2.2.2.1
  have hall := allS_in v n nt (X.2.1 t)
  refine lv_iload_n C.1 C.2.1 dX7_change_0 rfl (lv_at hl 1 rfl) ?_
  refine x_ci (x_runS (n := 1) C hw hS hml hl.1 (c_X7_isZeroOrOne l g M w gz_w) mw_631 mw_632 mw_117 mw_633 rfl rfl (by decide +kernel) ⟨Nat.le_of_ble_eq_true rfl, Nat.le_of_ble_eq_true rfl⟩ rfl rfl (Nat.le_of_ble_eq_true rfl) dX7_change_1 ⟨Nat.zero_le _, Nat.zero_le _⟩) hS (fun r1 M1 H locs hr1 hp hw hS => ?_)
  rcases hp with ⟨em1, (⟨er1, h1b⟩ | ⟨er1, h1b⟩)⟩
  · have hw : Wo g M H := em1 ▸ hw
    rw [er1]
    refine x_if_ne (tgt := 10) C ⟨by decide, by decide⟩ dX7_change_4 (by decide) (fun _ => ?_) (fun h => absurd h (by decide))
    refine lv_aload_n C.1 C.2.1 dX7_change_10 rfl (lv_at hl 0 rfl) ?_
    refine g7 C hw 0 (by omega) rfl 6 (by decide) mw_486 (svr (hF.2 _)) dX7_change_11 ?_
    refine lv_aload_n C.1 C.2.1 dX7_change_14 rfl (lv_at hl 0 rfl) ?_
    refine g7 C hw 0 (by omega) rfl 0 (by decide) mw_480 (svr (hF.2 _)) dX7_change_15 ?_
    refine x_ci (x_runVN (n := 0) C hw hS hml hl.1 1 2 (by omega) rfl (by decide) rfl (c_X2_playAll l g M hF n v nt t (X.2.1 t) hB) mn_617 mw_619 mw_30 mw_118 mw_620 rfl rfl (by decide +kernel) ⟨Nat.le_of_ble_eq_true rfl, Nat.le_of_ble_eq_true rfl⟩ rfl rfl (Nat.le_of_ble_eq_true rfl) dX7_change_18 ⟨Nat.zero_le _, Nat.zero_le _⟩) hS (fun r18 M18 H locs hr18 hp hw hS => ?_)
    obtain ⟨er18, h18f⟩ := hp
    have g_M18 := hw.rg
    rw [er18] at hr18 ⊢
    refine x_cv (x_runVN (n := 1) C hw hS hml hl.1 59 0 (by omega) rfl (by decide) rfl (c_X0_begin l g M18 hF (allS v n nt (X.2.1 t)) hr18) mn_651 mw_653 mw_33 mw_123 mw_654 rfl rfl (by decide +kernel) ⟨Nat.le_of_ble_eq_true rfl, Nat.le_of_ble_eq_true rfl⟩ rfl rfl (Nat.le_of_ble_eq_true rfl) dX7_change_21 ⟨Nat.zero_le _, Nat.zero_le _⟩) hS (fun M21 H locs hp hw hS => ?_)
    have em21 := hp
    have hw : Wo g (stM (stM M18 59000 (-1)) 59001 (allS v n nt (X.2.1 t))) H := em21 ▸ hw
    refine lv_iconst (v := II 0) C.1 C.2.1 dX7_change_24 rfl ?_
    refine lv_istore_n (lv' := [(2, .int (II 0)), (0, .ref (gA g 0)), (1, .int (II w))]) C.1 C.2.1 dX7_change_25 rfl hl (by decide) rfl (fun ls hl => ?_)
    have L26 : ∀ (f1 : Nat) (i : Nat) (M2 : Nat → Int), (n - i) < f1 → (i ≤ n) → (M2 59000 = (chA v n nt (X.2.1 t) i).1 ∧ M2 59001 = (chA v n nt (X.2.1 t) i).2) → ((-1 ≤ (chA v n nt (X.2.1 t) i).1 ∧ (chA v n nt (X.2.1 t) i).1 ≤ 77) ∧ (0 ≤ (chA v n nt (X.2.1 t) i).2 ∧ (chA v n nt (X.2.1 t) i).2 ≤ 49995)) → (∀ m, ¬ (scr m ∨ m / 1000 = 59) → M2 m = M m) → ∀ (H : Heap) (locs : List Loc) (ls : Array Slot), Wo g M2 H → va_S (ar g) s.heap H locs → lv_has ls 4 [(0, .ref (gA g 0)), (1, .int (II w)), (2, .int (II (i : Int)))] → W p l e (rmm 5 121) s m args below meth c H locs 0 0 QQ (F0 m 26 ls []) := by
      intro f1
      induction f1 with
      | zero => intro i M2 hmu; exact absurd hmu (Nat.not_lt_zero _)
      | succ f1 ih =>
        intro i M2 hmu h1 h2 h3 hf H locs ls hw hS hl
        have ih26 := ih
        have g_M2 := hw.rg
        have hB2 : BV M2 n v nt t (X.2.1 t) := hB.fr2 hf
        refine lv_iload_n C.1 C.2.1 dX7_change_26 rfl (lv_at hl 2 rfl) ?_
        refine lv_aload_n C.1 C.2.1 dX7_change_27 rfl (lv_at hl 0 rfl) ?_
        refine g7 C hw 0 (by omega) rfl 1 (by decide) mw_481 (svr (hF.2 _)) dX7_change_28 ?_
        refine gn1 C hw 2 (by omega) rfl 1 (by decide) mn_191 (svi (x := (n : Int)) hB2.1.1) dX7_change_31 ?_
        refine x_icmp_ge (tgt := 96) C ⟨by omega, by omega⟩ ⟨by have := g_M2 2001; have := hB2.1.1; omega, by have := g_M2 2001; have := hB2.1.1; omega⟩ dX7_change_34 (by decide) (fun c34 => ?_) (fun c34 => ?_)
        · refine lv_aload_n C.1 C.2.1 dX7_change_96 rfl (lv_at hl 0 rfl) ?_
          refine g7 C hw 0 (by omega) rfl 6 (by decide) mw_486 (svr (hF.2 _)) dX7_change_97 ?_
          refine lv_iload_n C.1 C.2.1 dX7_change_100 rfl (lv_at hl 1 rfl) ?_
          refine x_ci (x_runVN (n := 1) C hw hS hml hl.1 59 0 (by omega) rfl (by decide) rfl (c_X0_answer l g M2 hF w gz_w) mn_659 mw_661 mw_35 mw_123 mw_662 rfl rfl (by decide +kernel) ⟨Nat.le_of_ble_eq_true rfl, Nat.le_of_ble_eq_true rfl⟩ rfl rfl (Nat.le_of_ble_eq_true rfl) dX7_change_101 ⟨Nat.zero_le _, Nat.zero_le _⟩) hS (fun r101 M101 H locs hr101 hp hw hS => ?_)
          obtain ⟨em101, er101⟩ := hp
          have hw : Wo g M2 H := em101 ▸ hw
          rw [er101] at hr101 ⊢
          subst hQQ; exact x_ireturn C hr hlk hw hS hr101 rfl ⟨(by have e : i = n := (by omega); subst e; unfold r_best; rw [h2.1, h2.2]; (repeat' split) <;> first | rfl | omega), (hR.fr hA (fun m hm => hf m (fun z => hm (z.elim Or.inl (fun y => Or.inr (Or.inl y)))))), (fun m hm => hf m (by unfold scr; omega))⟩ dX7_change_104
        · refine lv_iload_n C.1 C.2.1 dX7_change_37 rfl (lv_at hl 2 rfl) ?_
          refine lv_iconst (v := II 1) C.1 C.2.1 dX7_change_38 rfl ?_
          refine x_iadd C dX7_change_39 ?_
          refine lv_istore_n (lv' := [(3, .int (II ((i : Int) + 1))), (0, .ref (gA g 0)), (1, .int (II w)), (2, .int (II (i : Int)))]) C.1 C.2.1 dX7_change_40 rfl hl (by decide) rfl (fun ls hl => ?_)
          have L41 : ∀ (f2 : Nat) (k : Nat) (M3 : Nat → Int), (n - (i + 1 + k)) < f2 → (i + 1 + k ≤ n) → (M3 59000 = (ch1 v n nt (X.2.1 t) i (chA v n nt (X.2.1 t) i) k).1 ∧ M3 59001 = (ch1 v n nt (X.2.1 t) i (chA v n nt (X.2.1 t) i) k).2) → ((-1 ≤ (ch1 v n nt (X.2.1 t) i (chA v n nt (X.2.1 t) i) k).1 ∧ (ch1 v n nt (X.2.1 t) i (chA v n nt (X.2.1 t) i) k).1 ≤ 77) ∧ (0 ≤ (ch1 v n nt (X.2.1 t) i (chA v n nt (X.2.1 t) i) k).2 ∧ (ch1 v n nt (X.2.1 t) i (chA v n nt (X.2.1 t) i) k).2 ≤ 49995)) → (∀ m, ¬ (scr m ∨ m / 1000 = 59) → M3 m = M m) → ∀ (H : Heap) (locs : List Loc) (ls : Array Slot), Wo g M3 H → va_S (ar g) s.heap H locs → lv_has ls 4 [(0, .ref (gA g 0)), (1, .int (II w)), (2, .int (II (i : Int))), (3, .int (II (i + 1 + k : Int)))] → W p l e (rmm 5 121) s m args below meth c H locs 0 0 QQ (F0 m 41 ls []) := by
            intro f2
            induction f2 with
            | zero => intro k M3 hmu; exact absurd hmu (Nat.not_lt_zero _)
            | succ f2 ih =>
              intro k M3 hmu h7 h8 h9 hf3 H locs ls hw hS hl
              have ih41 := ih
              have g_M3 := hw.rg
              have hB3 : BV M3 n v nt t (X.2.1 t) := hB.fr2 hf3
              refine lv_iload_n C.1 C.2.1 dX7_change_41 rfl (lv_at hl 3 rfl) ?_
              refine lv_aload_n C.1 C.2.1 dX7_change_42 rfl (lv_at hl 0 rfl) ?_
              refine g7 C hw 0 (by omega) rfl 1 (by decide) mw_481 (svr (hF.2 _)) dX7_change_43 ?_
              refine gn1 C hw 2 (by omega) rfl 1 (by decide) mn_191 (svi (x := (n : Int)) hB3.1.1) dX7_change_46 ?_
              refine x_icmp_ge (tgt := 90) C ⟨by omega, by omega⟩ ⟨by have := g_M3 2001; have := hB3.1.1; omega, by have := g_M3 2001; have := hB3.1.1; omega⟩ dX7_change_49 (by decide) (fun c49 => ?_) (fun c49 => ?_)
              · refine lv_iinc (v := II ((i : Int) + 1)) (lv' := [(2, .int (II ((i : Int) + 1))), (0, .ref (gA g 0)), (1, .int (II w)), (3, .int (II (i + 1 + k : Int)))]) C.1 C.2.1 dX7_change_90 hl (k := 2) rfl (II_add _ _) (by decide) rfl (fun ls hl => ?_)
                refine lv_goto (tgt := 26) C.1 C.2.1 dX7_change_93 (by decide) ?_
                exact ih26  (i + 1) M3 (by omega) (by omega) (by rw [chA, show n - (i + 1) = k by omega]; exact h8) (by rw [chA, show n - (i + 1) = k by omega]; exact h9) hf3 _ _ _ hw hS (lv_sub hl [1, 2, 0] rfl)
              · refine lv_aload_n C.1 C.2.1 dX7_change_52 rfl (lv_at hl 0 rfl) ?_
                refine lv_iload_n C.1 C.2.1 dX7_change_53 rfl (lv_at hl 2 rfl) ?_
                refine lv_iload_n C.1 C.2.1 dX7_change_54 rfl (lv_at hl 3 rfl) ?_
                refine x_cv (x_runV (n := 2) C hw hS hml hl.1 0 7 (by omega) rfl (by decide) rfl (c_X7_changeHouses l g M3 hF n hn2 i (i + 1 + k) (by first | assumption | omega | exact ⟨by omega, by omega⟩ | decide)) mw_689 mw_691 mw_37 mw_117 mw_692 rfl rfl (by decide +kernel) ⟨Nat.le_of_ble_eq_true rfl, Nat.le_of_ble_eq_true rfl⟩ rfl rfl (Nat.le_of_ble_eq_true rfl) dX7_change_55 ⟨Nat.zero_le _, Nat.zero_le _⟩) hS (fun M55 H locs hp hw hS => ?_)
                have em55 := hp
                have hw : Wo g (stM (stM M3 (1000 * (4 + i) + 2) (M3 (1000 * (4 + (i + 1 + k)) + 2))) (1000 * (4 + (i + 1 + k)) + 2) (M3 (1000 * (4 + i) + 2))) H := em55 ▸ hw
                refine lv_aload_n C.1 C.2.1 dX7_change_58 rfl (lv_at hl 0 rfl) ?_
                refine g7 C hw 0 (by omega) rfl 6 (by decide) mw_486 (svr (hF.2 _)) dX7_change_59 ?_
                refine lv_bipush (v := II 10) C.1 C.2.1 dX7_change_62 (by decide) ?_
                refine lv_iload_n C.1 C.2.1 dX7_change_64 rfl (lv_at hl 2 rfl) ?_
                refine x_imul C dX7_change_65 ?_
                refine lv_iload_n C.1 C.2.1 dX7_change_66 rfl (lv_at hl 3 rfl) ?_
                refine x_iadd C dX7_change_67 ?_
                refine lv_aload_n C.1 C.2.1 dX7_change_68 rfl (lv_at hl 0 rfl) ?_
                refine g7 C hw 0 (by omega) rfl 0 (by decide) mw_480 (svr (hF.2 _)) dX7_change_69 ?_
                refine x_ci (x_runVN (n := 0) C hw hS hml hl.1 1 2 (by omega) rfl (by decide) rfl (c_X2_playAll l g (stM (stM M3 (1000 * (4 + i) + 2) (M3 (1000 * (4 + (i + 1 + k)) + 2))) (1000 * (4 + (i + 1 + k)) + 2) (M3 (1000 * (4 + i) + 2))) hF n (swp v i (i + 1 + k)) nt t (X.2.1 t) (hB3.sw (by omega) (by omega))) mn_617 mw_619 mw_30 mw_118 mw_620 rfl rfl (by decide +kernel) ⟨Nat.le_of_ble_eq_true rfl, Nat.le_of_ble_eq_true rfl⟩ rfl rfl (Nat.le_of_ble_eq_true rfl) dX7_change_72 ⟨Nat.zero_le _, Nat.zero_le _⟩) hS (fun r72 M72 H locs hr72 hp hw hS => ?_)
                obtain ⟨er72, h72f⟩ := hp
                have g_M72 := hw.rg
                rw [er72] at hr72 ⊢
                have J78 : ∀  (M6 : Nat → Int), (M6 59000 = (ch1 v n nt (X.2.1 t) i (chA v n nt (X.2.1 t) i) (k + 1)).1 ∧ M6 59001 = (ch1 v n nt (X.2.1 t) i (chA v n nt (X.2.1 t) i) (k + 1)).2) → (∀ m, ¬ (m / 1000 = 59) → M6 m = M72 m) → ∀ (H : Heap) (locs : List Loc) (ls : Array Slot), Wo g M6 H → va_S (ar g) s.heap H locs → lv_has ls 4 [(0, .ref (gA g 0)), (1, .int (II w)), (2, .int (II (i : Int))), (3, .int (II (i + 1 + k : Int)))] → W p l e (rmm 5 121) s m args below meth c H locs 0 0 QQ (F0 m 78 ls []) := by
                  intro  M6 hb6 hf6 H locs ls hw hS hl
                  have g_M6 := hw.rg
                  refine lv_aload_n C.1 C.2.1 dX7_change_78 rfl (lv_at hl 0 rfl) ?_
                  refine lv_iload_n C.1 C.2.1 dX7_change_79 rfl (lv_at hl 2 rfl) ?_
                  refine lv_iload_n C.1 C.2.1 dX7_change_80 rfl (lv_at hl 3 rfl) ?_
                  refine x_cv (x_runV (n := 2) C hw hS hml hl.1 0 7 (by omega) rfl (by decide) rfl (c_X7_changeHouses l g M6 hF n hn2 i (i + 1 + k) (by first | assumption | omega | exact ⟨by omega, by omega⟩ | decide)) mw_689 mw_691 mw_37 mw_117 mw_692 rfl rfl (by decide +kernel) ⟨Nat.le_of_ble_eq_true rfl, Nat.le_of_ble_eq_true rfl⟩ rfl rfl (Nat.le_of_ble_eq_true rfl) dX7_change_81 ⟨Nat.zero_le _, Nat.zero_le _⟩) hS (fun M81 H locs hp hw hS => ?_)
                  have em81 := hp
                  have hw : Wo g (stM (stM M6 (1000 * (4 + i) + 2) (M6 (1000 * (4 + (i + 1 + k)) + 2))) (1000 * (4 + (i + 1 + k)) + 2) (M6 (1000 * (4 + i) + 2))) H := em81 ▸ hw
                  refine lv_iinc (v := II ((i + 1 + k : Int) + 1)) (lv' := [(3, .int (II ((i + 1 + k : Int) + 1))), (0, .ref (gA g 0)), (1, .int (II w)), (2, .int (II (i : Int)))]) C.1 C.2.1 dX7_change_84 hl (k := 3) rfl (II_add _ _) (by decide) rfl (fun ls hl => ?_)
                  refine lv_goto (tgt := 41) C.1 C.2.1 dX7_change_87 (by decide) ?_
                  exact ih41  (k + 1) (stM (stM M6 (1000 * (4 + i) + 2) (M6 (1000 * (4 + (i + 1 + k)) + 2))) (1000 * (4 + (i + 1 + k)) + 2) (M6 (1000 * (4 + i) + 2))) (by omega) (by omega) (⟨(st_n (by omega)).trans ((st_n (by omega)).trans hb6.1), (st_n (by omega)).trans ((st_n (by omega)).trans hb6.2)⟩) (by rw [ch1]; exact ofr_in h9 (by omega) (allS_in _ _ _ _)) (fun m hm => (swb (M := M3) (M' := M6) (P := fun m => scr m ∨ m / 1000 = 59) (by omega) (fun m hm => (hf6 m (fun z => hm (Or.inr z))).trans (h72f m (fun z => hm (Or.inl z)))) (by unfold scr; omega) (by unfold scr; omega) m hm).trans (hf3 m hm)) _ _ _ hw hS (lv_sub hl [1, 2, 3, 0] rfl)
                have e59 : M72 59001 = M3 59001 := (h72f _ (by unfold scr; omega)).trans (by rw [st_n (by omega), st_n (by omega)])
                have e58 : M72 59000 = M3 59000 := (h72f _ (by unfold scr; omega)).trans (by rw [st_n (by omega), st_n (by omega)])
                have ha72 := allS_in (swp v i (i + 1 + k)) n nt (X.2.1 t)
                refine x_cv (x_runVN (n := 2) C hw hS hml hl.1 59 0 (by omega) rfl (by decide) rfl (c_X0_offer l g M72 hF ((10 * (i : Int)) + (i + 1 + k : Int)) ⟨by omega, by omega⟩ (allS (swp v i (i + 1 + k)) n nt (X.2.1 t)) hr72) mn_655 mw_657 mw_34 mw_123 mw_658 rfl rfl (by decide +kernel) ⟨Nat.le_of_ble_eq_true rfl, Nat.le_of_ble_eq_true rfl⟩ rfl rfl (Nat.le_of_ble_eq_true rfl) dX7_change_75 ⟨Nat.zero_le _, Nat.zero_le _⟩) hS (fun M75 H locs hp hw hS => ?_)
                have em75 := hp
                have hw : Wo g (if (allS (swp v i (i + 1 + k)) n nt (X.2.1 t)) < M72 59001 then stM (stM M72 59000 ((10 * (i : Int)) + (i + 1 + k : Int))) 59001 (allS (swp v i (i + 1 + k)) n nt (X.2.1 t)) else M72) H := em75 ▸ hw
                exact J78 (if (allS (swp v i (i + 1 + k)) n nt (X.2.1 t)) < M72 59001 then stM (stM M72 59000 ((10 * (i : Int)) + (i + 1 + k : Int))) 59001 (allS (swp v i (i + 1 + k)) n nt (X.2.1 t)) else M72) (by rw [ch1, ofr, e59, h8.2]; split <;> simp [stM, e59, e58, h8]) (fun m hm => by split <;> first | rw [st_n (by omega), st_n (by omega)] | rfl) _ _ _ hw hS (lv_sub hl [0, 1, 2, 3] rfl)
          exact L41 _ 0 M2 (Nat.lt_succ_self _) (by omega) h2 h3 hf _ _ _ hw hS (lv_sub hl [1, 2, 3, 0] rfl)
    exact L26 _ 0 (stM (stM M18 59000 (-1)) 59001 (allS v n nt (X.2.1 t))) (Nat.lt_succ_self _) (by omega) (⟨(st_n (by decide)).trans st_s, st_s⟩) (by unfold chA; dsimp only; omega) (fun m hm => by have hm2 : ¬ m / 1000 = 59 := (fun z => hm (Or.inr z)); rw [st_n (by omega), st_n (by omega)]; exact h18f m (fun z => hm (Or.inl z))) _ _ _ hw hS (lv_sub hl [1, 2, 0] rfl)
  · have hw : Wo g M H := em1 ▸ hw
    rw [er1]
    refine x_if_ne (tgt := 10) C ⟨by decide, by decide⟩ dX7_change_4 (by decide) (fun h => absurd h (by decide)) (fun _ => ?_)
    refine lv_bipush (v := II (-2)) C.1 C.2.1 dX7_change_7 (by decide) ?_
    subst hQQ; exact x_ireturn C hr hlk hw hS ⟨by decide, by decide⟩ rfl ⟨(by unfold r_best; (repeat' split) <;> first | rfl | omega), hR, (fun _ _ => rfl)⟩ dX7_change_9
