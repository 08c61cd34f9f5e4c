def gr (b : Int × Int) (w x : Int) : Int × Int := if b.2 < x then (w, x) else b
def ld1 (v : Nat → Nat → Int) (n : Nat) (nt : Int) (E : Ev) (i : Nat) (b : Int × Int) : Nat → Int × Int
  | 0 => b
  | k + 1 => gr (ld1 v n nt E i b k) (10 * i + k) (reedS v n nt E i k)
def ldA (v : Nat → Nat → Int) (n : Nat) (nt : Int) (E : Ev) : Nat → Int × Int
  | 0 => (0, -1)
  | i + 1 => ld1 v n nt E i (ldA v n nt E i) 6
theorem reedS_in (v : Nat → Nat → Int) (n : Nat) (nt : Int) (E : Ev) (ho : Int) (h : Nat) : 0 ≤ reedS v n nt E ho h ∧ reedS v n nt E ho h ≤ 297 * n := sm_in (reed1_in v n nt E ho h) n
theorem gr_in {b : Int × Int} {w x : Int} (hb : (0 ≤ b.1 ∧ b.1 ≤ 45) ∧ (-1 ≤ b.2 ∧ b.2 ≤ 3000)) (hw : 0 ≤ w ∧ w ≤ 45) (hx : -1 ≤ x ∧ x ≤ 3000) : (0 ≤ (gr b w x).1 ∧ (gr b w x).1 ≤ 45) ∧ (-1 ≤ (gr b w x).2 ∧ (gr b w x).2 ≤ 3000) := by
  unfold gr
  split
  · exact ⟨hw, hx⟩
  · exact hb
def okS (n : Nat) (w q x : Int) : Bool := decide ((0 ≤ w ∧ w ≤ 4) ∧ (w = 0 ∨ (0 ≤ q ∧ q < n)) ∧ (loT w.toNat ≤ x ∧ x ≤ hiT w.toNat))
def r_set (v : Nat → Nat → Int) (n : Nat) (nt w q x : Int) : Int := if okS n w q x then (if w = 0 then nt else v q.toNat w.toNat) else -100
def v_set (v : Nat → Nat → Int) (n : Nat) (w q x : Int) : Nat → Nat → Int := if okS n w q x && decide (w ≠ 0) then upv v q.toNat w.toNat x else v
def nt_set (n : Nat) (nt w q x : Int) : Int := if okS n w q x && decide (w = 0) then x else nt
def r_night (v : Nat → Nat → Int) (n : Nat) (nt : Int) (E : Ev) : Int := if nt = 999 then -3 else allS v n nt E
def nt_night (nt : Int) : Int := if nt = 999 then nt else nt + 1
def pd_night (v : Nat → Nat → Int) (n : Nat) (nt : Int) (E : Ev) (pd : Int) : Int := if nt = 999 then pd else bnd (pd + allS v n nt E) 0 999999999
def okT (k num h : Int) : Bool := decide ((0 ≤ k ∧ k ≤ 5) ∧ (0 ≤ num ∧ num ≤ 9) ∧ (0 ≤ h ∧ h ≤ 4))
def newP (v : Nat → Nat → Int) (n : Nat) (k num h : Int) : Nat → Nat → Int := fun q f => if q = n then (if f = 0 then k else if f = 1 then num else if f = 2 then h else 0) else v q f
def r_ten (n : Nat) (k num h : Int) : Int := if okT k num h then (if n = 8 then -4 else (n : Int)) else -2
def n_ten (n : Nat) (k num h : Int) : Nat := if okT k num h && decide (n ≠ 8) then n + 1 else n
def v_ten (v : Nat → Nat → Int) (n : Nat) (k num h : Int) : Nat → Nat → Int := if okT k num h && decide (n ≠ 8) then newP v n k num h else v
def r_force (X : Txt) (t : Nat) (x : Int) : Int := if 0 ≤ x ∧ x < X.1 then (t : Int) else -2
def t_force (X : Txt) (t : Nat) (x : Int) : Nat := if 0 ≤ x ∧ x < X.1 then x.toNat else t
theorem RepC.b2 {M M' : Nat → Int} {b b' : Bor} {X : Txt} {I : Option Bor} {Sh : Sht} (h : RepC M b X I Sh) (hA : InvA b X I Sh) (hb : BorC M' 2 4 b') (hf : ∀ m, ¬ (sc3 m ∨ m / 1000 = 2 ∨ (4 ≤ m / 1000 ∧ m / 1000 ≤ 11)) → M' m = M m) : RepC M' b' X I Sh :=
  ⟨hb, h.2.1.fr ⟨hA.2.1.2, hA.2.2.1.1⟩ (fun m hm => hf m (by unfold sc3 scr; omega)), h.2.2.1.fr hA.im (fun m hm => hf m (by unfold sc3 scr; omega)), h.2.2.2.fr hA.sz (fun m hm => hf m (by unfold sc3 scr; omega))⟩
theorem borV {M : Nat → Int} {n : Nat} {v : Nat → Nat → Int} {nt pd : Int} {t : Nat} (h : BorC M 2 4 (n, v, nt, pd, t)) {q f : Nat} {x : Int} (hq : q < 8) (hf : f < 5) : BorC (stM M (1000 * (4 + q) + f) x) 2 4 (n, upv v q f x, nt, pd, t) := by
  refine ⟨(st_n (by omega)).trans h.1, (st_n (by omega)).trans h.2.1, (st_n (by omega)).trans h.2.2.1, (st_n (by omega)).trans h.2.2.2.1, fun i hi f' hf' => ?_⟩
  by_cases e : i = q ∧ f' = f
  · obtain ⟨rfl, rfl⟩ := e; rw [st_s]; exact upv_s.symm
  · rw [st_n (by omega)]; exact (h.2.2.2.2 i hi f' hf').trans (upv_n e).symm
set_option maxHeartbeats 4000000 in
set_option maxRecDepth 100000 in
theorem c_X7_loudest (l : Launch) (g : Gm) (M : Nat → Int) (hF : LvF g) (n : Nat) (v : Nat → Nat → Int) (nt : Int) (pd : Int) (t : Nat) (X : Txt) (I : Option Bor) (Sh : Sht) (hR : RepC M (n, v, nt, pd, t) X I Sh) (hA : InvA (n, v, nt, pd, t) X I Sh) (w : Int) (gz_w : rg w) : CI l ({ cls := "RatedBySighs", name := "loudest", desc := "(I)I" } : Jvm.MethodName) cX7_loudest 6 .int (rmm 4 99) g M [.ref (gA g 0), .int (II w)] (fun r M' => r = r_best (ldA v n nt (X.2.1 t) 5) w ∧ (RepC M' (n, v, nt, pd, t) X I Sh) ∧ (∀ m, 70000 ≤ m → M' m = M m)) := by
  refine c_start (by decide) (Nat.le_of_ble_eq_true rfl) (fun p e s m below meth c ls C hr hlk hml hw hS hl => ?_)
  have hl : lv_has ls 6 [(0, .ref (gA g 0)), (1, .int (II w))] := hl
  generalize ([.ref (gA g 0), .int (II w)] : List Value).toArray = args at C ⊢
  generalize hQQ : MQ below (postI g (fun r M' => r = r_best (ldA v n nt (X.2.1 t) 5) w ∧ (RepC M' (n, v, nt, pd, t) X I Sh) ∧ (∀ m, 70000 ≤ m → M' m = M m))) args s 0 0 (ar g) = QQ
  have g_M := hw.rg
  have hN : gN g = 84 := hF.1
  have hB : BV M n v nt t (X.2.1 t) := hR.bv hA
  have hn2 : n ≤ 8 := hB.1.2
  have hnt := hB.2.2.2.1.2
  have hpd : 0 ≤ pd ∧ pd ≤ 999999999 := hA.1.2.2.2.2.1
  refine lv_iload_n C.1 C.2.1 dX7_loudest_0 rfl (lv_at hl 1 rfl) ?_
  refine x_ci (x_runS (n := 1) C hw hS hml hl.1 (c_X7_isZeroOrOne l g M w gz_w) mw_631 mw_632 mw_117 mw_633 rfl rfl (by decide +kernel) ⟨Nat.le_of_ble_eq_true rfl, Nat.le_of_ble_eq_true rfl⟩ rfl rfl (Nat.le_of_ble_eq_true rfl) dX7_loudest_1 ⟨Nat.zero_le _, Nat.zero_le _⟩) hS (fun r1 M1 H locs hr1 hp hw hS => ?_)
  rcases hp with ⟨em1, (⟨er1, h1b⟩ | ⟨er1, h1b⟩)⟩
  · have hw : Wo g M H := em1 ▸ hw
    rw [er1]
    refine x_if_ne (tgt := 10) C ⟨by decide, by decide⟩ dX7_loudest_4 (by decide) (fun _ => ?_) (fun h => absurd h (by decide))
    refine lv_iconst (v := II 0) C.1 C.2.1 dX7_loudest_10 rfl ?_
    refine lv_istore_n (lv' := [(2, .int (II 0)), (0, .ref (gA g 0)), (1, .int (II w))]) C.1 C.2.1 dX7_loudest_11 rfl hl (by decide) rfl (fun ls hl => ?_)
    refine lv_iconst (v := II (-1)) C.1 C.2.1 dX7_loudest_12 rfl ?_
    refine lv_istore_n (lv' := [(3, .int (II (-1))), (2, .int (II 0)), (0, .ref (gA g 0)), (1, .int (II w))]) C.1 C.2.1 dX7_loudest_13 rfl hl (by decide) rfl (fun ls hl => ?_)
    refine lv_iconst (v := II 0) C.1 C.2.1 dX7_loudest_14 rfl ?_
    refine lv_istore (lv' := [(4, .int (II 0)), (3, .int (II (-1))), (2, .int (II 0)), (0, .ref (gA g 0)), (1, .int (II w))]) C.1 C.2.1 dX7_loudest_15 hl (by decide) rfl (fun ls hl => ?_)
    have L17 : ∀ (f1 : Nat) (i : Nat) (M2 : Nat → Int), (5 - i) < f1 → (i ≤ 5) → ((0 ≤ (ldA v n nt (X.2.1 t) i).1 ∧ (ldA v n nt (X.2.1 t) i).1 ≤ 45) ∧ (-1 ≤ (ldA v n nt (X.2.1 t) i).2 ∧ (ldA v n nt (X.2.1 t) i).2 ≤ 3000)) → (∀ m, ¬ scr m → M2 m = M m) → ∀ (H : Heap) (locs : List Loc) (ls : Array Slot), Wo g M2 H → va_S (ar g) s.heap H locs → lv_has ls 6 [(0, .ref (gA g 0)), (1, .int (II w)), (2, .int (II ((ldA v n nt (X.2.1 t) i).1))), (3, .int (II ((ldA v n nt (X.2.1 t) i).2))), (4, .int (II (i : Int)))] → W p l e (rmm 4 99) s m args below meth c H locs 0 0 QQ (F0 m 17 ls []) := by
      intro f1
      induction f1 with
      | zero => intro i M2 hmu; exact absurd hmu (Nat.not_lt_zero _)
      | succ f1 ih =>
        intro i M2 hmu h1 h3 hf H locs ls hw hS hl
        have ih17 := ih
        have g_M2 := hw.rg
        refine lv_iload C.1 C.2.1 dX7_loudest_17 (lv_at hl 4 rfl) ?_
        refine lv_iconst (v := II 5) C.1 C.2.1 dX7_loudest_19 rfl ?_
        refine x_icmp_ge (tgt := 89) C ⟨by omega, by omega⟩ ⟨by decide, by decide⟩ dX7_loudest_20 (by decide) (fun c20 => ?_) (fun c20 => ?_)
        · refine lv_iload_n C.1 C.2.1 dX7_loudest_89 rfl (lv_at hl 1 rfl) ?_
          refine x_if_ne (tgt := 97) C gz_w dX7_loudest_90 (by decide) (fun c90 => ?_) (fun c90 => ?_)
          · refine lv_iload_n C.1 C.2.1 dX7_loudest_97 rfl (lv_at hl 3 rfl) ?_
            subst hQQ; exact x_ireturn C hr hlk hw hS ⟨by omega, by omega⟩ rfl ⟨(by unfold r_best; rw [show 5 = i by omega]; (repeat' split) <;> first | rfl | omega), (hR.fr hA (fun m hm => hf m (fun z => hm (Or.inl z)))), (fun m hm => hf m (by unfold scr; omega))⟩ dX7_loudest_98
          · refine lv_iload_n C.1 C.2.1 dX7_loudest_93 rfl (lv_at hl 2 rfl) ?_
            refine lv_goto (tgt := 98) C.1 C.2.1 dX7_loudest_94 (by decide) ?_
            subst hQQ; exact x_ireturn C hr hlk hw hS ⟨by omega, by omega⟩ rfl ⟨(by unfold r_best; rw [show 5 = i by omega]; (repeat' split) <;> first | rfl | omega), (hR.fr hA (fun m hm => hf m (fun z => hm (Or.inl z)))), (fun m hm => hf m (by unfold scr; omega))⟩ dX7_loudest_98
        · refine lv_aload_n C.1 C.2.1 dX7_loudest_23 rfl (lv_at hl 0 rfl) ?_
          refine g7 C hw 0 (by omega) rfl 0 (by decide) mw_480 (svr (hF.2 _)) dX7_loudest_24 ?_
          refine lv_iload C.1 C.2.1 dX7_loudest_27 (lv_at hl 4 rfl) ?_
          refine x_ci (x_runVN (n := 1) C hw hS hml hl.1 1 2 (by omega) rfl (by decide) rfl (c_X2_play l g M2 hF n v nt t (X.2.1 t) (hB.fr hf) (i : Int) ⟨by omega, by omega⟩) mn_548 mw_550 mw_21 mw_118 mw_551 rfl rfl (by decide +kernel) ⟨Nat.le_of_ble_eq_true rfl, Nat.le_of_ble_eq_true rfl⟩ rfl rfl (Nat.le_of_ble_eq_true rfl) dX7_loudest_29 ⟨Nat.zero_le _, Nat.zero_le _⟩) hS (fun r29 M29 H locs hr29 hp hw hS => ?_)
          obtain ⟨er29, h29a, h29b, h29c, h29f⟩ := hp
          have g_M29 := hw.rg
          rw [er29] at hr29 ⊢
          refine lv_pop C.1 C.2.1 dX7_loudest_32 rfl ?_
          refine lv_iconst (v := II 0) C.1 C.2.1 dX7_loudest_33 rfl ?_
          refine lv_istore (lv' := [(5, .int (II 0)), (0, .ref (gA g 0)), (1, .int (II w)), (2, .int (II ((ldA v n nt (X.2.1 t) i).1))), (3, .int (II ((ldA v n nt (X.2.1 t) i).2))), (4, .int (II (i : Int)))]) C.1 C.2.1 dX7_loudest_34 hl (by decide) rfl (fun ls hl => ?_)
          have L36 : ∀ (f2 : Nat) (k : Nat), (6 - k) < f2 → (k ≤ 6) → ((0 ≤ (ld1 v n nt (X.2.1 t) i (ldA v n nt (X.2.1 t) i) k).1 ∧ (ld1 v n nt (X.2.1 t) i (ldA v n nt (X.2.1 t) i) k).1 ≤ 45) ∧ (-1 ≤ (ld1 v n nt (X.2.1 t) i (ldA v n nt (X.2.1 t) i) k).2 ∧ (ld1 v n nt (X.2.1 t) i (ldA v n nt (X.2.1 t) i) k).2 ≤ 3000)) → ∀ (H : Heap) (locs : List Loc) (ls : Array Slot), Wo g M29 H → va_S (ar g) s.heap H locs → lv_has ls 6 [(0, .ref (gA g 0)), (1, .int (II w)), (2, .int (II ((ld1 v n nt (X.2.1 t) i (ldA v n nt (X.2.1 t) i) k).1))), (3, .int (II ((ld1 v n nt (X.2.1 t) i (ldA v n nt (X.2.1 t) i) k).2))), (4, .int (II (i : Int))), (5, .int (II (k : Int)))] → W p l e (rmm 4 99) s m args below meth c H locs 0 0 QQ (F0 m 36 ls []) := by
            intro f2
            induction f2 with
            | zero => intro k hmu; exact absurd hmu (Nat.not_lt_zero _)
            | succ f2 ih =>
              intro k hmu h7 h9 H locs ls hw hS hl
              have ih36 := ih
              refine lv_iload C.1 C.2.1 dX7_loudest_36 (lv_at hl 5 rfl) ?_
              refine lv_bipush (v := II 6) C.1 C.2.1 dX7_loudest_38 (by decide) ?_
              refine x_icmp_ge (tgt := 83) C ⟨by omega, by omega⟩ ⟨by decide, by decide⟩ dX7_loudest_40 (by decide) (fun c40 => ?_) (fun c40 => ?_)
              · refine lv_iinc (v := II ((i : Int) + 1)) (lv' := [(4, .int (II ((i : Int) + 1))), (0, .ref (gA g 0)), (1, .int (II w)), (2, .int (II ((ld1 v n nt (X.2.1 t) i (ldA v n nt (X.2.1 t) i) k).1))), (3, .int (II ((ld1 v n nt (X.2.1 t) i (ldA v n nt (X.2.1 t) i) k).2))), (5, .int (II (k : Int)))]) C.1 C.2.1 dX7_loudest_83 hl (k := 4) rfl (II_add _ _) (by decide) rfl (fun ls hl => ?_)
                refine lv_goto (tgt := 17) C.1 C.2.1 dX7_loudest_86 (by decide) ?_
                rw [show k = 6 by omega] at hl
                exact ih17  (i + 1) M29 (by omega) (by omega) (by rw [ldA, show 6 = k by omega]; exact h9) (fun m hm => (h29f m hm).trans (hf m hm)) _ _ _ hw hS (lv_sub hl [1, 2, 3, 4, 0] rfl)
              · refine lv_aload_n C.1 C.2.1 dX7_loudest_43 rfl (lv_at hl 0 rfl) ?_
                refine g7 C hw 0 (by omega) rfl 0 (by decide) mw_480 (svr (hF.2 _)) dX7_loudest_44 ?_
                refine gn2 C hw 1 (by omega) rfl 4 (by decide) mn_247 (svr (hF.2 _)) dX7_loudest_47 ?_
                refine lv_iload C.1 C.2.1 dX7_loudest_50 (lv_at hl 5 rfl) ?_
                refine x_iaload (L := 6) C hw 44 (by omega) rfl rfl (by omega) (by omega) (by decide) (x := M29 (44000 + k)) rfl dX7_loudest_52 ?_
                have J77 : ∀ (z1 : Int) (z2 : Int), (z1 = (ld1 v n nt (X.2.1 t) i (ldA v n nt (X.2.1 t) i) (k + 1)).1) → (z2 = (ld1 v n nt (X.2.1 t) i (ldA v n nt (X.2.1 t) i) (k + 1)).2) → ∀ (H : Heap) (locs : List Loc) (ls : Array Slot), Wo g M29 H → va_S (ar g) s.heap H locs → lv_has ls 6 [(0, .ref (gA g 0)), (1, .int (II w)), (2, .int (II z1)), (3, .int (II z2)), (4, .int (II (i : Int))), (5, .int (II (k : Int)))] → W p l e (rmm 4 99) s m args below meth c H locs 0 0 QQ (F0 m 77 ls []) := by
                  intro z1 z2 hz1 hz2 H locs ls hw hS hl
                  subst hz1; subst hz2
                  have hg2 : (0 ≤ (ld1 v n nt (X.2.1 t) i (ldA v n nt (X.2.1 t) i) (k + 1)).1 ∧ (ld1 v n nt (X.2.1 t) i (ldA v n nt (X.2.1 t) i) (k + 1)).1 ≤ 45) ∧ (-1 ≤ (ld1 v n nt (X.2.1 t) i (ldA v n nt (X.2.1 t) i) (k + 1)).2 ∧ (ld1 v n nt (X.2.1 t) i (ldA v n nt (X.2.1 t) i) (k + 1)).2 ≤ 3000) := by rw [ld1]; exact gr_in h9 (by omega) (by have := reedS_in v n nt (X.2.1 t) i k; omega)
                  refine lv_iinc (v := II ((k : Int) + 1)) (lv' := [(5, .int (II ((k : Int) + 1))), (0, .ref (gA g 0)), (1, .int (II w)), (2, .int (II ((ld1 v n nt (X.2.1 t) i (ldA v n nt (X.2.1 t) i) (k + 1)).1))), (3, .int (II ((ld1 v n nt (X.2.1 t) i (ldA v n nt (X.2.1 t) i) (k + 1)).2))), (4, .int (II (i : Int)))]) C.1 C.2.1 dX7_loudest_77 hl (k := 5) rfl (II_add _ _) (by decide) rfl (fun ls hl => ?_)
                  refine lv_goto (tgt := 36) C.1 C.2.1 dX7_loudest_80 (by decide) ?_
                  exact ih36  (k + 1) (by omega) (by omega) hg2 _ _ _ hw hS (lv_sub hl [1, 2, 3, 4, 5, 0] rfl)
                refine lv_iload_n C.1 C.2.1 dX7_loudest_53 rfl (lv_at hl 3 rfl) ?_
                refine x_icmp_le (tgt := 77) C (g_M29 _) ⟨by omega, by omega⟩ dX7_loudest_54 (by decide) (fun c54 => ?_) (fun c54 => ?_)
                · exact J77 ((ld1 v n nt (X.2.1 t) i (ldA v n nt (X.2.1 t) i) k).1) ((ld1 v n nt (X.2.1 t) i (ldA v n nt (X.2.1 t) i) k).2) (by rw [ld1, gr]; first | rw [if_pos (by rw [← h29c k (by omega)]; omega)] | rw [if_neg (by rw [← h29c k (by omega)]; omega)]) (by rw [ld1, gr]; first | rw [if_pos (by rw [← h29c k (by omega)]; omega)]; exact h29c k (by omega) | rw [if_neg (by rw [← h29c k (by omega)]; omega)]) _ _ _ hw hS (lv_sub hl [0, 1, 2, 3, 4, 5] rfl)
                · refine lv_aload_n C.1 C.2.1 dX7_loudest_57 rfl (lv_at hl 0 rfl) ?_
                  refine g7 C hw 0 (by omega) rfl 0 (by decide) mw_480 (svr (hF.2 _)) dX7_loudest_58 ?_
                  refine gn2 C hw 1 (by omega) rfl 4 (by decide) mn_247 (svr (hF.2 _)) dX7_loudest_61 ?_
                  refine lv_iload C.1 C.2.1 dX7_loudest_64 (lv_at hl 5 rfl) ?_
                  refine x_iaload (L := 6) C hw 44 (by omega) rfl rfl (by omega) (by omega) (by decide) (x := M29 (44000 + k)) rfl dX7_loudest_66 ?_
                  refine lv_istore_n (lv' := [(3, .int (II (M29 (44000 + k)))), (0, .ref (gA g 0)), (1, .int (II w)), (2, .int (II ((ld1 v n nt (X.2.1 t) i (ldA v n nt (X.2.1 t) i) k).1))), (4, .int (II (i : Int))), (5, .int (II (k : Int)))]) C.1 C.2.1 dX7_loudest_67 rfl hl (by decide) rfl (fun ls hl => ?_)
                  refine lv_bipush (v := II 10) C.1 C.2.1 dX7_loudest_68 (by decide) ?_
                  refine lv_iload C.1 C.2.1 dX7_loudest_70 (lv_at hl 4 rfl) ?_
                  refine x_imul C dX7_loudest_72 ?_
                  refine lv_iload C.1 C.2.1 dX7_loudest_73 (lv_at hl 5 rfl) ?_
                  refine x_iadd C dX7_loudest_75 ?_
                  refine lv_istore_n (lv' := [(2, .int (II ((10 * (i : Int)) + (k : Int)))), (3, .int (II (M29 (44000 + k)))), (0, .ref (gA g 0)), (1, .int (II w)), (4, .int (II (i : Int))), (5, .int (II (k : Int)))]) C.1 C.2.1 dX7_loudest_76 rfl hl (by decide) rfl (fun ls hl => ?_)
                  exact J77 ((10 * (i : Int)) + (k : Int)) (M29 (44000 + k)) (by rw [ld1, gr]; first | rw [if_pos (by rw [← h29c k (by omega)]; omega)] | rw [if_neg (by rw [← h29c k (by omega)]; omega)]) (by rw [ld1, gr]; first | rw [if_pos (by rw [← h29c k (by omega)]; omega)]; exact h29c k (by omega) | rw [if_neg (by rw [← h29c k (by omega)]; omega)]) _ _ _ hw hS (lv_sub hl [2, 3, 0, 1, 4, 5] rfl)
          exact L36 _ 0 (Nat.lt_succ_self _) (by omega) h3 _ _ _ hw hS (lv_sub hl [1, 2, 3, 4, 5, 0] rfl)
    exact L17 _ 0 M (Nat.lt_succ_self _) (by omega) (by unfold ldA; dsimp only; omega) (fun _ _ => rfl) _ _ _ hw hS (lv_sub hl [3, 4, 2, 1, 0] rfl)
  · have hw : Wo g M H := em1 ▸ hw
    rw [er1]
    refine x_if_ne (tgt := 10) C ⟨by decide, by decide⟩ dX7_loudest_4 (by decide) (fun h => absurd h (by decide)) (fun _ => ?_)
    refine lv_bipush (v := II (-2)) C.1 C.2.1 dX7_loudest_7 (by decide) ?_
    subst hQQ; exact x_ireturn C hr hlk hw hS ⟨by decide, by decide⟩ rfl ⟨(by unfold r_best; (repeat' split) <;> first | rfl | omega), hR, (fun _ _ => rfl)⟩ dX7_loudest_9

set_option maxHeartbeats 4000000 in
set_option maxRecDepth 100000 in
theorem c_X7_night (l : Launch) (g : Gm) (M : Nat → Int) (hF : LvF g) (n : Nat) (v : Nat → Nat → Int) (nt : Int) (pd : Int) (t : Nat) (X : Txt) (I : Option Bor) (Sh : Sht) (hR : RepC M (n, v, nt, pd, t) X I Sh) (hA : InvA (n, v, nt, pd, t) X I Sh) : CI l ({ cls := "RatedBySighs", name := "night", desc := "()I" } : Jvm.MethodName) cX7_night 2 .int (rmm 5 121) g M [.ref (gA g 0)] (fun r M' => r = r_night v n nt (X.2.1 t) ∧ (RepC M' (n, v, nt_night nt, pd_night v n nt (X.2.1 t) pd, t) X I Sh) ∧ (∀ m, 70000 ≤ m → M' m = M m)) := by
  refine c_start (by decide) (Nat.le_of_ble_eq_true rfl) (fun p e s m below meth c ls C hr hlk hml hw hS hl => ?_)
  have hl : lv_has ls 2 [(0, .ref (gA g 0))] := hl
  have g_M := hw.rg
  have hN : gN g = 84 := hF.1
  have hB : BV M n v nt t (X.2.1 t) := hR.bv hA
  have hn2 : n ≤ 8 := hB.1.2
  have hnt := hB.2.2.2.1.2
  have hpd : 0 ≤ pd ∧ pd ≤ 999999999 := hA.1.2.2.2.2.1
  refine lv_aload_n C.1 C.2.1 dX7_night_0 rfl (lv_at hl 0 rfl) ?_
  refine g7 C hw 0 (by omega) rfl 1 (by decide) mw_481 (svr (hF.2 _)) dX7_night_1 ?_
  refine gn1 C hw 2 (by omega) rfl 2 (by decide) mn_193 (svi (x := nt) hB.2.2.2.1.1) dX7_night_4 ?_
  refine lv_sipush (v := II 999) C.1 C.2.1 dX7_night_7 (by decide) ?_
  refine x_icmp_lt (tgt := 16) C ⟨by have := g_M 2002; have := hB.2.2.2.1.1; omega, by have := g_M 2002; have := hB.2.2.2.1.1; omega⟩ ⟨by decide, by decide⟩ dX7_night_10 (by decide) (fun c10 => ?_) (fun c10 => ?_)
  · have ha1 := allS_in v n nt (X.2.1 t)
    refine lv_aload_n C.1 C.2.1 dX7_night_16 rfl (lv_at hl 0 rfl) ?_
    refine g7 C hw 0 (by omega) rfl 0 (by decide) mw_480 (svr (hF.2 _)) dX7_night_17 ?_
    refine x_ci (x_runVN (n := 0) C hw hS hml hl.1 1 2 (by omega) rfl (by decide) rfl (c_X2_playAll l g M hF n v nt t (X.2.1 t) hB) mn_617 mw_619 mw_30 mw_118 mw_620 rfl rfl (by decide +kernel) ⟨Nat.le_of_ble_eq_true rfl, Nat.le_of_ble_eq_true rfl⟩ rfl rfl (Nat.le_of_ble_eq_true rfl) dX7_night_20 ⟨Nat.zero_le _, Nat.zero_le _⟩) hS (fun r20 M20 H locs hr20 hp hw hS => ?_)
    obtain ⟨er20, h20f⟩ := hp
    have g_M20 := hw.rg
    rw [er20] at hr20 ⊢
    have e2003 : M20 2003 = pd := (h20f _ (by unfold scr; omega)).trans hR.1.2.2.1
    have e2002 : M20 2002 = nt := (h20f _ (by unfold scr; omega)).trans hR.1.2.1
    refine lv_istore_n (lv' := [(1, .int (II (allS v n nt (X.2.1 t)))), (0, .ref (gA g 0))]) C.1 C.2.1 dX7_night_23 rfl hl (by decide) rfl (fun ls hl => ?_)
    refine lv_aload_n C.1 C.2.1 dX7_night_24 rfl (lv_at hl 1 rfl) ?_
    refine g7 C hw 0 (by omega) rfl 1 (by decide) mw_481 (svr (hF.2 _)) dX7_night_25 ?_
    refine lv_ldc C.1 C.2.1 C.2.2.1 (C.2.2.2.1 _ mw_626) dX7_night_28 ?_
    rw [show (999999999 : Int32) = II 999999999 from by decide]
    refine lv_aload_n C.1 C.2.1 dX7_night_30 rfl (lv_at hl 1 rfl) ?_
    refine g7 C hw 0 (by omega) rfl 1 (by decide) mw_481 (svr (hF.2 _)) dX7_night_31 ?_
    refine gn1 C hw 2 (by omega) rfl 3 (by decide) mn_196 (svi (x := pd) e2003) dX7_night_34 ?_
    refine lv_iload_n C.1 C.2.1 dX7_night_37 rfl (lv_at hl 0 rfl) ?_
    refine x_iadd C dX7_night_38 ?_
    refine x_min C ⟨by decide, by decide⟩ ⟨by have := g_M20 2003; have := e2003; omega, by have := g_M20 2003; have := e2003; omega⟩ (hml.trans hl.1.symm) mw_578 mw_579 mw_131 mw_580 (Nat.le_of_ble_eq_true rfl) (Nat.le_of_ble_eq_true rfl) (Nat.zero_le _) (Nat.zero_le _) dX7_night_39 ?_
    refine pn1 C hw hS 2 (by omega) rfl 3 (by decide) mn_196 rfl (x := if pd + (allS v n nt (X.2.1 t)) < 999999999 then pd + (allS v n nt (X.2.1 t)) else 999999999) ⟨by omega, by omega⟩ (svi st_s) (tyX1_ok 3 (by decide)) rfl rfl dX7_night_42 (fun H locs hw hS => ?_)
    have hw : Wo g (stM M20 2003 (if pd + (allS v n nt (X.2.1 t)) < 999999999 then pd + (allS v n nt (X.2.1 t)) else 999999999)) H := hw
    refine lv_aload_n C.1 C.2.1 dX7_night_45 rfl (lv_at hl 1 rfl) ?_
    refine g7 C hw 0 (by omega) rfl 1 (by decide) mw_481 (svr (hF.2 _)) dX7_night_46 ?_
    refine lv_dup C.1 C.2.1 dX7_night_49 rfl ?_
    refine gn1 C hw 2 (by omega) rfl 2 (by decide) mn_193 (svi (x := nt) ((st_n (by decide)).trans e2002)) dX7_night_50 ?_
    refine lv_iconst (v := II 1) C.1 C.2.1 dX7_night_53 rfl ?_
    refine x_iadd C dX7_night_54 ?_
    refine pn1 C hw hS 2 (by omega) rfl 2 (by decide) mn_193 rfl (x := nt + 1) ⟨by omega, by omega⟩ (svi st_s) (tyX1_ok 2 (by decide)) rfl rfl dX7_night_55 (fun H locs hw hS => ?_)
    have hw : Wo g (stM (stM M20 2003 (if pd + (allS v n nt (X.2.1 t)) < 999999999 then pd + (allS v n nt (X.2.1 t)) else 999999999)) 2002 (nt + 1)) H := hw
    refine lv_iload_n C.1 C.2.1 dX7_night_58 rfl (lv_at hl 0 rfl) ?_
    exact x_ireturn C hr hlk hw hS hr20 rfl (by
    have e : ¬ nt = 999 := by omega
    unfold r_night nt_night pd_night
    rw [if_neg e, if_neg e, if_neg e]
    refine ⟨rfl, hR.b2 hA ⟨?_, st_s, ?_, ?_, fun i hi f hf => ?_⟩ (fun m hm => ?_), fun m hm => ?_⟩
    · rw [st_n (by decide), st_n (by decide), h20f _ (by unfold scr; omega)]; exact hR.1.1
    · rw [st_n (by decide), st_s]; show _ = bnd (pd + allS v n nt (X.2.1 t)) 0 999999999; unfold bnd; (repeat' split) <;> omega
    · rw [st_n (by decide), st_n (by decide), h20f _ (by unfold scr; omega)]; exact hR.1.2.2.2.1
    · rw [st_n (by omega), st_n (by omega), h20f _ (by have : i < n := hi; unfold scr; omega)]; exact hR.1.2.2.2.2 i hi f hf
    · have h2 : ¬ m / 1000 = 2 := fun z => hm (Or.inr (Or.inl z))
      rw [st_n (by omega), st_n (by omega)]; exact h20f m (fun z => hm (Or.inl (Or.inl z)))
    · rw [st_n (by omega), st_n (by omega)]; exact h20f m (by unfold scr; omega)) dX7_night_59
  · refine lv_bipush (v := II (-3)) C.1 C.2.1 dX7_night_13 (by decide) ?_
    exact x_ireturn C hr hlk hw hS ⟨by decide, by decide⟩ rfl (by have e : nt = 999 := (by omega); unfold r_night nt_night pd_night; rw [if_pos e, if_pos e, if_pos e]; exact ⟨rfl, hR, fun _ _ => rfl⟩) dX7_night_15

set_option maxHeartbeats 4000000 in
set_option maxRecDepth 100000 in
theorem c_X7_set (l : Launch) (g : Gm) (M : Nat → Int) (hF : LvF g) (n : Nat) (v : Nat → Nat → Int) (nt : Int) (pd : Int) (t : Nat) (X : Txt) (I : Option Bor) (Sh : Sht) (hR : RepC M (n, v, nt, pd, t) X I Sh) (hA : InvA (n, v, nt, pd, t) X I Sh) (w : Int) (gz_w : rg w) (q : Int) (gz_q : rg q) (x : Int) (gz_x : rg x) : CI l ({ cls := "RatedBySighs", name := "set", desc := "(III)I" } : Jvm.MethodName) cX7_set 6 .int (rmm 1 22) g M [.ref (gA g 0), .int (II w), .int (II q), .int (II x)] (fun r M' => r = r_set v n nt w q x ∧ (RepC M' (n, v_set v n w q x, nt_set n nt w q x, pd, t) X I Sh) ∧ (∀ m, 70000 ≤ m → M' m = M m)) := by
  refine c_start (by decide) (Nat.le_of_ble_eq_true rfl) (fun p e s m below meth c ls C hr hlk hml hw hS hl => ?_)
  have hl : lv_has ls 6 [(0, .ref (gA g 0)), (1, .int (II w)), (2, .int (II q)), (3, .int (II x))] := hl
  have g_M := hw.rg
  have hN : gN g = 84 := hF.1
  have hB : BV M n v nt t (X.2.1 t) := hR.bv hA
  have hn2 : n ≤ 8 := hB.1.2
  have hnt := hB.2.2.2.1.2
  have hpd : 0 ≤ pd ∧ pd ≤ 999999999 := hA.1.2.2.2.2.1
  refine lv_iload_n C.1 C.2.1 dX7_set_0 rfl (lv_at hl 1 rfl) ?_
  refine lv_iconst (v := II 4) C.1 C.2.1 dX7_set_1 rfl ?_
  refine x_icmp_gt (tgt := 13) C gz_w ⟨by decide, by decide⟩ dX7_set_2 (by decide) (fun c2 => ?_) (fun c2 => ?_)
  · refine lv_bipush (v := II (-100)) C.1 C.2.1 dX7_set_13 (by decide) ?_
    exact x_ireturn C hr hlk hw hS ⟨by decide, by decide⟩ rfl (by first | (have e : okS n w q x = false := decide_eq_false (by omega); unfold r_set v_set nt_set; rw [e]; exact ⟨rfl, hR, fun _ _ => rfl⟩) | (have e : okS n (i : Int) q x = false := decide_eq_false (fun z => h7b z.2.2); unfold r_set v_set nt_set; rw [e]; exact ⟨rfl, hR, fun _ _ => rfl⟩)) dX7_set_15
  · by_cases hw0 : w < 0
    · refine lv_iload_n C.1 C.2.1 dX7_set_5 rfl (lv_at hl 1 rfl) ?_
      refine lv_iload_n C.1 C.2.1 dX7_set_6 rfl (lv_at hl 3 rfl) ?_
      refine x_ci (x_runS (n := 2) C hw hS hml hl.1 (c_X7_mayBeN l g M w (by omega) gz_w x gz_x) mw_513 mw_514 mw_117 mw_515 rfl rfl (by decide +kernel) ⟨Nat.le_of_ble_eq_true rfl, Nat.le_of_ble_eq_true rfl⟩ rfl rfl (Nat.le_of_ble_eq_true rfl) dX7_set_7 ⟨Nat.zero_le _, Nat.zero_le _⟩) hS (fun r7 M7 H locs hr7 hp hw hS => ?_)
      obtain ⟨em7, er7⟩ := hp
      have hw : Wo g M H := em7 ▸ hw
      rw [er7] at hr7 ⊢
      refine x_if_ne (tgt := 16) C ⟨by decide, by decide⟩ dX7_set_10 (by decide) (fun h => absurd h (by decide)) (fun _ => ?_)
      refine lv_bipush (v := II (-100)) C.1 C.2.1 dX7_set_13 (by decide) ?_
      exact x_ireturn C hr hlk hw hS ⟨by decide, by decide⟩ rfl (by first | (have e : okS n w q x = false := decide_eq_false (by omega); unfold r_set v_set nt_set; rw [e]; exact ⟨rfl, hR, fun _ _ => rfl⟩) | (have e : okS n (i : Int) q x = false := decide_eq_false (fun z => h7b z.2.2); unfold r_set v_set nt_set; rw [e]; exact ⟨rfl, hR, fun _ _ => rfl⟩)) dX7_set_15
    · obtain ⟨i, rfl⟩ : ∃ i : Nat, w = (i : Int) := ⟨w.toNat, by omega⟩
      have hlr := lo_rg i (by omega)
      refine lv_iload_n C.1 C.2.1 dX7_set_5 rfl (lv_at hl 1 rfl) ?_
      refine lv_iload_n C.1 C.2.1 dX7_set_6 rfl (lv_at hl 3 rfl) ?_
      refine x_ci (x_runS (n := 2) C hw hS hml hl.1 (c_X7_mayBe l g M i (by omega) x gz_x) mw_513 mw_514 mw_117 mw_515 rfl rfl (by decide +kernel) ⟨Nat.le_of_ble_eq_true rfl, Nat.le_of_ble_eq_true rfl⟩ rfl rfl (Nat.le_of_ble_eq_true rfl) dX7_set_7 ⟨Nat.zero_le _, Nat.zero_le _⟩) hS (fun r7 M7 H locs hr7 hp hw hS => ?_)
      rcases hp with ⟨em7, (⟨er7, h7b⟩ | ⟨er7, h7b⟩)⟩
      · have hw : Wo g M H := em7 ▸ hw
        rw [er7]
        refine x_if_ne (tgt := 16) C ⟨by decide, by decide⟩ dX7_set_10 (by decide) (fun _ => ?_) (fun h => absurd h (by decide))
        have hxl : loT i ≤ x ∧ x ≤ hiT i := h7b
        refine lv_iload_n C.1 C.2.1 dX7_set_16 rfl (lv_at hl 1 rfl) ?_
        refine x_if_ne (tgt := 40) C ⟨by omega, by omega⟩ dX7_set_17 (by decide) (fun c17 => ?_) (fun c17 => ?_)
        · refine lv_aload_n C.1 C.2.1 dX7_set_40 rfl (lv_at hl 0 rfl) ?_
          refine g7 C hw 0 (by omega) rfl 1 (by decide) mw_481 (svr (hF.2 _)) dX7_set_41 ?_
          refine lv_iload_n C.1 C.2.1 dX7_set_44 rfl (lv_at hl 2 rfl) ?_
          refine x_ci (x_runVN (n := 1) C hw hS hml hl.1 2 1 (by omega) rfl (by decide) rfl (c_X1_has l g M hF q gz_q) mn_520 mw_522 mw_16 mw_119 mw_523 rfl rfl (by decide +kernel) ⟨Nat.le_of_ble_eq_true rfl, Nat.le_of_ble_eq_true rfl⟩ rfl rfl (Nat.le_of_ble_eq_true rfl) dX7_set_45 ⟨Nat.zero_le _, Nat.zero_le _⟩) hS (fun r45 M45 H locs hr45 hp hw hS => ?_)
          rcases hp with ⟨em45, (⟨er45, h45b⟩ | ⟨er45, h45b⟩)⟩
          · have hw : Wo g M H := em45 ▸ hw
            rw [er45]
            refine x_if_ne (tgt := 54) C ⟨by decide, by decide⟩ dX7_set_48 (by decide) (fun _ => ?_) (fun h => absurd h (by decide))
            have hqn : 0 ≤ q ∧ q < n := by rw [← hB.1.1]; exact h45b
            obtain ⟨j, rfl⟩ : ∃ i : Nat, q = (i : Int) := ⟨q.toNat, by omega⟩
            refine lv_aload_n C.1 C.2.1 dX7_set_54 rfl (lv_at hl 0 rfl) ?_
            refine g7 C hw 0 (by omega) rfl 1 (by decide) mw_481 (svr (hF.2 _)) dX7_set_55 ?_
            refine gn1 C hw 2 (by omega) rfl 0 (by decide) mn_187 (svr (hF.2 _)) dX7_set_58 ?_
            refine lv_iload_n C.1 C.2.1 dX7_set_61 rfl (lv_at hl 2 rfl) ?_
            refine x_aaload (L := 8) C hw 3 (by omega) 11 rfl (by decide) rfl (by omega) (by omega) (by decide) (rP hF j (by omega)) dX7_set_62 ?_
            refine lv_astore (lv' := [(4, .ref (gA g (4 + j))), (0, .ref (gA g 0)), (1, .int (II (i : Int))), (2, .int (II (j : Int))), (3, .int (II x))]) C.1 C.2.1 dX7_set_63 hl (by decide) rfl (fun ls hl => ?_)
            refine lv_aload C.1 C.2.1 dX7_set_65 (lv_at hl 0 rfl) ?_
            refine lv_iload_n C.1 C.2.1 dX7_set_67 rfl (lv_at hl 2 rfl) ?_
            refine x_ci (x_runVN (n := 1) C hw hS hml hl.1 (4 + j) 3 (by omega) (kd_p (by omega)) (by decide) rfl (c_X3_partF l g M (4 + j) (by omega) (kd_p (by omega)) (i : Int) ⟨by omega, by omega⟩ i (by unfold slotK; (repeat' split) <;> omega)) mn_524 mw_526 mw_17 mw_120 mw_527 rfl rfl (by decide +kernel) ⟨Nat.le_of_ble_eq_true rfl, Nat.le_of_ble_eq_true rfl⟩ rfl rfl (Nat.le_of_ble_eq_true rfl) dX7_set_68 ⟨Nat.zero_le _, Nat.zero_le _⟩) hS (fun r68 M68 H locs hr68 hp hw hS => ?_)
            obtain ⟨em68, er68⟩ := hp
            have hw : Wo g M H := em68 ▸ hw
            rw [er68] at hr68 ⊢
            refine lv_istore (lv' := [(5, .int (II (M (1000 * (4 + j) + i)))), (4, .ref (gA g (4 + j))), (0, .ref (gA g 0)), (1, .int (II (i : Int))), (2, .int (II (j : Int))), (3, .int (II x))]) C.1 C.2.1 dX7_set_71 hl (by decide) rfl (fun ls hl => ?_)
            refine lv_aload C.1 C.2.1 dX7_set_73 (lv_at hl 1 rfl) ?_
            refine lv_iload_n C.1 C.2.1 dX7_set_75 rfl (lv_at hl 3 rfl) ?_
            refine lv_iload_n C.1 C.2.1 dX7_set_76 rfl (lv_at hl 5 rfl) ?_
            refine x_cv (x_runVN (n := 2) C hw hS hml hl.1 (4 + j) 3 (by omega) (kd_p (by omega)) (by decide) rfl (c_X3_becomeF l g M (4 + j) (by omega) (kd_p (by omega)) (i : Int) ⟨by omega, by omega⟩ i (by unfold slotK; (repeat' split) <;> omega) x gz_x) mn_528 mw_530 mw_18 mw_120 mw_531 rfl rfl (by decide +kernel) ⟨Nat.le_of_ble_eq_true rfl, Nat.le_of_ble_eq_true rfl⟩ rfl rfl (Nat.le_of_ble_eq_true rfl) dX7_set_77 ⟨Nat.zero_le _, Nat.zero_le _⟩) hS (fun M77 H locs hp hw hS => ?_)
            have em77 := hp
            have hw : Wo g (stM M (1000 * (4 + j) + i) x) H := em77 ▸ hw
            refine lv_iload C.1 C.2.1 dX7_set_80 (lv_at hl 0 rfl) ?_
            exact x_ireturn C hr hlk hw hS hr68 rfl (by
    have e : okS n (i : Int) (j : Int) x = true := decide_eq_true ⟨by omega, Or.inr (by omega), hxl⟩
    have e2 : decide ((i : Int) ≠ 0) = true := decide_eq_true (by omega)
    have e3 : decide ((i : Int) = 0) = false := decide_eq_false (by omega)
    unfold r_set v_set nt_set
    rw [e, e2, e3, if_pos rfl, if_neg (by omega)]
    refine ⟨(hB.2.1 j (by omega) i (by omega)), hR.b2 hA (borV hR.1 (by omega) (by omega)) (fun m hm => ?_), fun m hm => st_n (by omega)⟩
    have h2 : ¬ (4 ≤ m / 1000 ∧ m / 1000 ≤ 11) := fun z => hm (Or.inr (Or.inr z))
    exact st_n (by omega)) dX7_set_82
          · have hw : Wo g M H := em45 ▸ hw
            rw [er45]
            refine x_if_ne (tgt := 54) C ⟨by decide, by decide⟩ dX7_set_48 (by decide) (fun h => absurd h (by decide)) (fun _ => ?_)
            refine lv_bipush (v := II (-100)) C.1 C.2.1 dX7_set_51 (by decide) ?_
            exact x_ireturn C hr hlk hw hS ⟨by decide, by decide⟩ rfl (by have e : okS n (i : Int) q x = false := decide_eq_false (fun z => z.2.1.elim (fun y => by omega) (fun y => h45b (by rw [hB.1.1]; exact y))); unfold r_set v_set nt_set; rw [e]; exact ⟨rfl, hR, fun _ _ => rfl⟩) dX7_set_53
        · have hi0 : i = 0 := by omega
          refine lv_aload_n C.1 C.2.1 dX7_set_20 rfl (lv_at hl 0 rfl) ?_
          refine g7 C hw 0 (by omega) rfl 1 (by decide) mw_481 (svr (hF.2 _)) dX7_set_21 ?_
          refine gn1 C hw 2 (by omega) rfl 2 (by decide) mn_193 (svi (x := nt) hB.2.2.2.1.1) dX7_set_24 ?_
          refine lv_istore (lv' := [(4, .int (II nt)), (0, .ref (gA g 0)), (1, .int (II (i : Int))), (2, .int (II q)), (3, .int (II x))]) C.1 C.2.1 dX7_set_27 hl (by decide) rfl (fun ls hl => ?_)
          refine lv_aload_n C.1 C.2.1 dX7_set_29 rfl (lv_at hl 1 rfl) ?_
          refine g7 C hw 0 (by omega) rfl 1 (by decide) mw_481 (svr (hF.2 _)) dX7_set_30 ?_
          refine lv_iload_n C.1 C.2.1 dX7_set_33 rfl (lv_at hl 4 rfl) ?_
          refine pn1 C hw hS 2 (by omega) rfl 2 (by decide) mn_193 rfl (x := x) gz_x (svi st_s) (tyX1_ok 2 (by decide)) rfl rfl dX7_set_34 (fun H locs hw hS => ?_)
          have hw : Wo g (stM M 2002 x) H := hw
          refine lv_iload C.1 C.2.1 dX7_set_37 (lv_at hl 0 rfl) ?_
          exact x_ireturn C hr hlk hw hS ⟨by have := g_M 2002; have := hB.2.2.2.1.1; omega, by have := g_M 2002; have := hB.2.2.2.1.1; omega⟩ rfl (by
    have e : okS n (i : Int) q x = true := decide_eq_true ⟨by omega, Or.inl (by omega), hxl⟩
    have e2 : decide ((i : Int) ≠ 0) = false := decide_eq_false (by omega)
    have e3 : decide ((i : Int) = 0) = true := decide_eq_true (by omega)
    unfold r_set v_set nt_set
    rw [e, e2, e3, if_pos rfl, if_pos (by omega)]
    refine ⟨rfl, hR.b2 hA ⟨(st_n (by decide)).trans hR.1.1, st_s, (st_n (by decide)).trans hR.1.2.2.1, (st_n (by decide)).trans hR.1.2.2.2.1, fun i hi f hf => (st_n (by omega)).trans (hR.1.2.2.2.2 i hi f hf)⟩ (fun m hm => ?_), fun m hm => st_n (by omega)⟩
    have h2 : ¬ m / 1000 = 2 := fun z => hm (Or.inr (Or.inl z))
    exact st_n (by omega)) dX7_set_39
      · have hw : Wo g M H := em7 ▸ hw
        rw [er7]
        refine x_if_ne (tgt := 16) C ⟨by decide, by decide⟩ dX7_set_10 (by decide) (fun h => absurd h (by decide)) (fun _ => ?_)
        refine lv_bipush (v := II (-100)) C.1 C.2.1 dX7_set_13 (by decide) ?_
        exact x_ireturn C hr hlk hw hS ⟨by decide, by decide⟩ rfl (by first | (have e : okS n w q x = false := decide_eq_false (by omega); unfold r_set v_set nt_set; rw [e]; exact ⟨rfl, hR, fun _ _ => rfl⟩) | (have e : okS n (i : Int) q x = false := decide_eq_false (fun z => h7b z.2.2); unfold r_set v_set nt_set; rw [e]; exact ⟨rfl, hR, fun _ _ => rfl⟩)) dX7_set_15

set_option maxHeartbeats 4000000 in
set_option maxRecDepth 100000 in
theorem c_X7_tenant (l : Launch) (g : Gm) (M : Nat → Int) (hF : LvF g) (n : Nat) (v : Nat → Nat → Int) (nt : Int) (pd : Int) (t : Nat) (X : Txt) (I : Option Bor) (Sh : Sht) (hR : RepC M (n, v, nt, pd, t) X I Sh) (hA : InvA (n, v, nt, pd, t) X I Sh) (k : Int) (gz_k : rg k) (z : Int) (gz_z : rg z) (h : Int) (gz_h : rg h) : CI l ({ cls := "RatedBySighs", name := "tenant", desc := "(III)I" } : Jvm.MethodName) cX7_tenant 5 .int (rmm 1 23) g M [.ref (gA g 0), .int (II k), .int (II z), .int (II h)] (fun r M' => r = r_ten n k z h ∧ (RepC M' (n_ten n k z h, v_ten v n k z h, nt, pd, t) X I Sh) ∧ (∀ m, 70000 ≤ m → M' m = M m)) := by
  refine c_start (by decide) (Nat.le_of_ble_eq_true rfl) (fun p e s m below meth c ls C hr hlk hml hw hS hl => ?_)
  have hl : lv_has ls 5 [(0, .ref (gA g 0)), (1, .int (II k)), (2, .int (II z)), (3, .int (II h))] := hl
  have g_M := hw.rg
  have hN : gN g = 84 := hF.1
  have hB : BV M n v nt t (X.2.1 t) := hR.bv hA
  have hn2 : n ≤ 8 := hB.1.2
  have hnt := hB.2.2.2.1.2
  have hpd : 0 ≤ pd ∧ pd ≤ 999999999 := hA.1.2.2.2.2.1
  refine lv_iconst (v := II 5) C.1 C.2.1 dX7_tenant_0 rfl ?_
  refine lv_iload_n C.1 C.2.1 dX7_tenant_1 rfl (lv_at hl 1 rfl) ?_
  refine x_ci (x_runS (n := 2) C hw hS hml hl.1 (c_X7_mayBe l g M 5 (by first | assumption | omega | exact ⟨by omega, by omega⟩ | decide) k gz_k) mw_513 mw_514 mw_117 mw_515 rfl rfl (by decide +kernel) ⟨Nat.le_of_ble_eq_true rfl, Nat.le_of_ble_eq_true rfl⟩ rfl rfl (Nat.le_of_ble_eq_true rfl) dX7_tenant_2 ⟨Nat.zero_le _, Nat.zero_le _⟩) hS (fun r2 M2 H locs hr2 hp hw hS => ?_)
  rcases hp with ⟨em2, (⟨er2, h2b⟩ | ⟨er2, h2b⟩)⟩
  · have hw : Wo g M H := em2 ▸ hw
    rw [er2]
    refine x_if_eq (tgt := 24) C ⟨by decide, by decide⟩ dX7_tenant_5 (by decide) (fun h => absurd h (by decide)) (fun _ => ?_)
    refine lv_iconst (v := II 1) C.1 C.2.1 dX7_tenant_8 rfl ?_
    refine lv_iload_n C.1 C.2.1 dX7_tenant_9 rfl (lv_at hl 2 rfl) ?_
    refine x_ci (x_runS (n := 2) C hw hS hml hl.1 (c_X7_mayBe l g M 1 (by first | assumption | omega | exact ⟨by omega, by omega⟩ | decide) z gz_z) mw_513 mw_514 mw_117 mw_515 rfl rfl (by decide +kernel) ⟨Nat.le_of_ble_eq_true rfl, Nat.le_of_ble_eq_true rfl⟩ rfl rfl (Nat.le_of_ble_eq_true rfl) dX7_tenant_10 ⟨Nat.zero_le _, Nat.zero_le _⟩) hS (fun r10 M10 H locs hr10 hp hw hS => ?_)
    rcases hp with ⟨em10, (⟨er10, h10b⟩ | ⟨er10, h10b⟩)⟩
    · have hw : Wo g M H := em10 ▸ hw
      rw [er10]
      refine x_if_eq (tgt := 24) C ⟨by decide, by decide⟩ dX7_tenant_13 (by decide) (fun h => absurd h (by decide)) (fun _ => ?_)
      refine lv_iconst (v := II 2) C.1 C.2.1 dX7_tenant_16 rfl ?_
      refine lv_iload_n C.1 C.2.1 dX7_tenant_17 rfl (lv_at hl 3 rfl) ?_
      refine x_ci (x_runS (n := 2) C hw hS hml hl.1 (c_X7_mayBe l g M 2 (by first | assumption | omega | exact ⟨by omega, by omega⟩ | decide) h gz_h) mw_513 mw_514 mw_117 mw_515 rfl rfl (by decide +kernel) ⟨Nat.le_of_ble_eq_true rfl, Nat.le_of_ble_eq_true rfl⟩ rfl rfl (Nat.le_of_ble_eq_true rfl) dX7_tenant_18 ⟨Nat.zero_le _, Nat.zero_le _⟩) hS (fun r18 M18 H locs hr18 hp hw hS => ?_)
      rcases hp with ⟨em18, (⟨er18, h18b⟩ | ⟨er18, h18b⟩)⟩
      · have hw : Wo g M H := em18 ▸ hw
        rw [er18]
        refine x_if_ne (tgt := 27) C ⟨by decide, by decide⟩ dX7_tenant_21 (by decide) (fun _ => ?_) (fun h => absurd h (by decide))
        have hk5 : 0 ≤ k ∧ k ≤ 5 := h2b
        have hz5 : 0 ≤ z ∧ z ≤ 9 := h10b
        have hh5 : 0 ≤ h ∧ h ≤ 4 := h18b
        have eT : okT k z h = true := decide_eq_true ⟨hk5, hz5, hh5⟩
        refine lv_aload_n C.1 C.2.1 dX7_tenant_27 rfl (lv_at hl 0 rfl) ?_
        refine g7 C hw 0 (by omega) rfl 1 (by decide) mw_481 (svr (hF.2 _)) dX7_tenant_28 ?_
        refine gn1 C hw 2 (by omega) rfl 1 (by decide) mn_191 (svi (x := (n : Int)) hB.1.1) dX7_tenant_31 ?_
        refine lv_bipush (v := II 8) C.1 C.2.1 dX7_tenant_34 (by decide) ?_
        refine x_icmp_lt (tgt := 42) C ⟨by have := g_M 2001; have := hB.1.1; omega, by have := g_M 2001; have := hB.1.1; omega⟩ ⟨by decide, by decide⟩ dX7_tenant_36 (by decide) (fun c36 => ?_) (fun c36 => ?_)
        · refine lv_aload_n C.1 C.2.1 dX7_tenant_42 rfl (lv_at hl 0 rfl) ?_
          refine g7 C hw 0 (by omega) rfl 1 (by decide) mw_481 (svr (hF.2 _)) dX7_tenant_43 ?_
          refine gn1 C hw 2 (by omega) rfl 1 (by decide) mn_191 (svi (x := (n : Int)) hB.1.1) dX7_tenant_46 ?_
          refine lv_istore (lv' := [(4, .int (II (n : Int))), (0, .ref (gA g 0)), (1, .int (II k)), (2, .int (II z)), (3, .int (II h))]) C.1 C.2.1 dX7_tenant_49 hl (by decide) rfl (fun ls hl => ?_)
          refine lv_aload_n C.1 C.2.1 dX7_tenant_51 rfl (lv_at hl 1 rfl) ?_
          refine g7 C hw 0 (by omega) rfl 1 (by decide) mw_481 (svr (hF.2 _)) dX7_tenant_52 ?_
          refine gn1 C hw 2 (by omega) rfl 0 (by decide) mn_187 (svr (hF.2 _)) dX7_tenant_55 ?_
          refine lv_iload C.1 C.2.1 dX7_tenant_58 (lv_at hl 0 rfl) ?_
          refine x_aaload (L := 8) C hw 3 (by omega) 11 rfl (by decide) rfl (by omega) (by omega) (by decide) (rP hF n (by omega)) dX7_tenant_60 ?_
          refine lv_iload_n C.1 C.2.1 dX7_tenant_61 rfl (lv_at hl 2 rfl) ?_
          refine lv_iload_n C.1 C.2.1 dX7_tenant_62 rfl (lv_at hl 3 rfl) ?_
          refine lv_iload_n C.1 C.2.1 dX7_tenant_63 rfl (lv_at hl 4 rfl) ?_
          refine x_cv (x_runVN (n := 3) C hw hS hml hl.1 (4 + n) 3 (by omega) (kd_p (by omega)) (by decide) rfl (c_X3_come l g M (4 + n) (by omega) (kd_p (by omega)) k gz_k z gz_z h gz_h) mn_536 mw_538 mw_19 mw_120 mw_539 rfl rfl (by decide +kernel) ⟨Nat.le_of_ble_eq_true rfl, Nat.le_of_ble_eq_true rfl⟩ rfl rfl (Nat.le_of_ble_eq_true rfl) dX7_tenant_64 ⟨Nat.zero_le _, Nat.zero_le _⟩) hS (fun M64 H locs hp hw hS => ?_)
          have em64 := hp
          have hw : Wo g (stM (stM (stM (stM (stM M (1000 * (4 + n) + 0) k) (1000 * (4 + n) + 1) z) (1000 * (4 + n) + 2) h) (1000 * (4 + n) + 3) 0) (1000 * (4 + n) + 4) 0) H := em64 ▸ hw
          refine lv_aload_n C.1 C.2.1 dX7_tenant_67 rfl (lv_at hl 1 rfl) ?_
          refine g7 C hw 0 (by omega) rfl 1 (by decide) mw_481 (svr (hF.2 _)) dX7_tenant_68 ?_
          refine lv_dup C.1 C.2.1 dX7_tenant_71 rfl ?_
          refine gn1 C hw 2 (by omega) rfl 1 (by decide) mn_191 (svi (x := (n : Int)) ((st_n (by omega)).trans ((st_n (by omega)).trans ((st_n (by omega)).trans ((st_n (by omega)).trans ((st_n (by omega)).trans hB.1.1)))))) dX7_tenant_72 ?_
          refine lv_iconst (v := II 1) C.1 C.2.1 dX7_tenant_75 rfl ?_
          refine x_iadd C dX7_tenant_76 ?_
          refine pn1 C hw hS 2 (by omega) rfl 1 (by decide) mn_191 rfl (x := (n : Int) + 1) ⟨by omega, by omega⟩ (svi st_s) (tyX1_ok 1 (by decide)) rfl rfl dX7_tenant_77 (fun H locs hw hS => ?_)
          have hw : Wo g (stM (stM (stM (stM (stM (stM M (1000 * (4 + n) + 0) k) (1000 * (4 + n) + 1) z) (1000 * (4 + n) + 2) h) (1000 * (4 + n) + 3) 0) (1000 * (4 + n) + 4) 0) 2001 ((n : Int) + 1)) H := hw
          refine lv_iload C.1 C.2.1 dX7_tenant_80 (lv_at hl 0 rfl) ?_
          exact x_ireturn C hr hlk hw hS ⟨by have := g_M 2001; have := hB.1.1; omega, by have := g_M 2001; have := hB.1.1; omega⟩ rfl (by
    have e2 : ¬ n = 8 := by omega
    have e3 : decide (n ≠ 8) = true := decide_eq_true e2
    unfold r_ten n_ten v_ten
    rw [eT, e3, if_pos rfl, if_neg e2]
    refine ⟨rfl, hR.b2 hA ⟨st_s, ?_, ?_, ?_, fun i hi f hf => ?_⟩ (fun m hm => ?_), fun m hm => ?_⟩
    · rw [st_n (by omega), st_n (by omega), st_n (by omega), st_n (by omega), st_n (by omega), st_n (by omega)]; exact hR.1.2.1
    · rw [st_n (by omega), st_n (by omega), st_n (by omega), st_n (by omega), st_n (by omega), st_n (by omega)]; exact hR.1.2.2.1
    · rw [st_n (by omega), st_n (by omega), st_n (by omega), st_n (by omega), st_n (by omega), st_n (by omega)]; exact hR.1.2.2.2.1
    · have hi9 : i < n + 1 := hi
      show _ = newP v n k z h i f
      unfold newP
      by_cases ei : i = n
      · subst ei
        rw [if_pos rfl]
        rcases (show f = 0 ∨ f = 1 ∨ f = 2 ∨ f = 3 ∨ f = 4 by omega) with rfl | rfl | rfl | rfl | rfl <;> simp [stM] <;> omega
      · rw [if_neg ei, st_n (by omega), st_n (by omega), st_n (by omega), st_n (by omega), st_n (by omega), st_n (by omega)]; exact hR.1.2.2.2.2 i (by show i < n; omega) f hf
    · have h2 : ¬ (m / 1000 = 2 ∨ (4 ≤ m / 1000 ∧ m / 1000 ≤ 11)) := fun z => hm (Or.inr z)
      rw [st_n (by omega), st_n (by omega), st_n (by omega), st_n (by omega), st_n (by omega), st_n (by omega)]
    · rw [st_n (by omega), st_n (by omega), st_n (by omega), st_n (by omega), st_n (by omega), st_n (by omega)]) dX7_tenant_82
        · refine lv_bipush (v := II (-4)) C.1 C.2.1 dX7_tenant_39 (by decide) ?_
          exact x_ireturn C hr hlk hw hS ⟨by decide, by decide⟩ rfl (by have e2 : n = 8 := (by omega); have e3 : decide (n ≠ 8) = false := decide_eq_false (by omega); unfold r_ten n_ten v_ten; rw [eT, e3, if_pos rfl, if_pos e2]; exact ⟨rfl, hR, fun _ _ => rfl⟩) dX7_tenant_41
      · have hw : Wo g M H := em18 ▸ hw
        rw [er18]
        refine x_if_ne (tgt := 27) C ⟨by decide, by decide⟩ dX7_tenant_21 (by decide) (fun h => absurd h (by decide)) (fun _ => ?_)
        refine lv_bipush (v := II (-2)) C.1 C.2.1 dX7_tenant_24 (by decide) ?_
        exact x_ireturn C hr hlk hw hS ⟨by decide, by decide⟩ rfl (by have e : okT k z h = false := decide_eq_false (fun y => by first | exact h18b y.2.2 | exact h10b y.2.1 | exact h2b y.1); unfold r_ten n_ten v_ten; rw [e]; exact ⟨rfl, hR, fun _ _ => rfl⟩) dX7_tenant_26
    · have hw : Wo g M H := em10 ▸ hw
      rw [er10]
      refine x_if_eq (tgt := 24) C ⟨by decide, by decide⟩ dX7_tenant_13 (by decide) (fun _ => ?_) (fun h => absurd h (by decide))
      refine lv_bipush (v := II (-2)) C.1 C.2.1 dX7_tenant_24 (by decide) ?_
      exact x_ireturn C hr hlk hw hS ⟨by decide, by decide⟩ rfl (by have e : okT k z h = false := decide_eq_false (fun y => by first | exact h18b y.2.2 | exact h10b y.2.1 | exact h2b y.1); unfold r_ten n_ten v_ten; rw [e]; exact ⟨rfl, hR, fun _ _ => rfl⟩) dX7_tenant_26
  · have hw : Wo g M H := em2 ▸ hw
    rw [er2]
    refine x_if_eq (tgt := 24) C ⟨by decide, by decide⟩ dX7_tenant_5 (by decide) (fun _ => ?_) (fun h => absurd h (by decide))
    refine lv_bipush (v := II (-2)) C.1 C.2.1 dX7_tenant_24 (by decide) ?_
    exact x_ireturn C hr hlk hw hS ⟨by decide, by decide⟩ rfl (by have e : okT k z h = false := decide_eq_false (fun y => by first | exact h18b y.2.2 | exact h10b y.2.1 | exact h2b y.1); unfold r_ten n_ten v_ten; rw [e]; exact ⟨rfl, hR, fun _ _ => rfl⟩) dX7_tenant_26

set_option maxHeartbeats 4000000 in
set_option maxRecDepth 100000 in
theorem c_X7_force (l : Launch) (g : Gm) (M : Nat → Int) (hF : LvF g) (n : Nat) (v : Nat → Nat → Int) (nt : Int) (pd : Int) (t : Nat) (X : Txt) (I : Option Bor) (Sh : Sht) (hR : RepC M (n, v, nt, pd, t) X I Sh) (hA : InvA (n, v, nt, pd, t) X I Sh) (x : Int) (gz_x : rg x) : CI l ({ cls := "RatedBySighs", name := "force", desc := "(I)I" } : Jvm.MethodName) cX7_force 3 .int (rmm 0 0) g M [.ref (gA g 0), .int (II x)] (fun r M' => r = r_force X t x ∧ (RepC M' (n, v, nt, pd, t_force X t x) X I Sh) ∧ (∀ m, 70000 ≤ m → M' m = M m)) := by
  refine c_start (by decide) (Nat.le_of_ble_eq_true rfl) (fun p e s m below meth c ls C hr hlk hml hw hS hl => ?_)
  have hl : lv_has ls 3 [(0, .ref (gA g 0)), (1, .int (II x))] := hl
  have g_M := hw.rg
  have hN : gN g = 84 := hF.1
  have hB : BV M n v nt t (X.2.1 t) := hR.bv hA
  have hn2 : n ≤ 8 := hB.1.2
  have hnt := hB.2.2.2.1.2
  have hpd : 0 ≤ pd ∧ pd ≤ 999999999 := hA.1.2.2.2.2.1
  refine lv_iload_n C.1 C.2.1 dX7_force_0 rfl (lv_at hl 1 rfl) ?_
  refine x_if_lt (tgt := 15) C gz_x dX7_force_1 (by decide) (fun c1 => ?_) (fun c1 => ?_)
  · refine lv_bipush (v := II (-2)) C.1 C.2.1 dX7_force_15 (by decide) ?_
    exact x_ireturn C hr hlk hw hS ⟨by decide, by decide⟩ rfl (by unfold r_force t_force; rw [if_neg (by omega), if_neg (by omega)]; exact ⟨rfl, hR, fun _ _ => rfl⟩) dX7_force_17
  · refine lv_iload_n C.1 C.2.1 dX7_force_4 rfl (lv_at hl 1 rfl) ?_
    refine lv_aload_n C.1 C.2.1 dX7_force_5 rfl (lv_at hl 0 rfl) ?_
    refine g7 C hw 0 (by omega) rfl 2 (by decide) mw_482 (svr (hF.2 _)) dX7_force_6 ?_
    refine gn6 C hw 12 (by omega) rfl 4 (by decide) mn_224 (svi (x := (X.1 : Int)) hR.2.1.1) dX7_force_9 ?_
    refine x_icmp_lt (tgt := 18) C gz_x ⟨by have := g_M 12004; have := hR.2.1.1; omega, by have := g_M 12004; have := hR.2.1.1; omega⟩ dX7_force_12 (by decide) (fun c12 => ?_) (fun c12 => ?_)
    · refine lv_aload_n C.1 C.2.1 dX7_force_18 rfl (lv_at hl 0 rfl) ?_
      refine g7 C hw 0 (by omega) rfl 1 (by decide) mw_481 (svr (hF.2 _)) dX7_force_19 ?_
      refine gn1 C hw 2 (by omega) rfl 4 (by decide) mn_199 (svi (x := (t : Int)) hB.2.2.2.2.1.1) dX7_force_22 ?_
      refine lv_istore_n (lv' := [(2, .int (II (t : Int))), (0, .ref (gA g 0)), (1, .int (II x))]) C.1 C.2.1 dX7_force_25 rfl hl (by decide) rfl (fun ls hl => ?_)
      refine lv_aload_n C.1 C.2.1 dX7_force_26 rfl (lv_at hl 1 rfl) ?_
      refine g7 C hw 0 (by omega) rfl 1 (by decide) mw_481 (svr (hF.2 _)) dX7_force_27 ?_
      refine lv_iload_n C.1 C.2.1 dX7_force_30 rfl (lv_at hl 2 rfl) ?_
      refine pn1 C hw hS 2 (by omega) rfl 4 (by decide) mn_199 rfl (x := x) gz_x (svi st_s) (tyX1_ok 4 (by decide)) rfl rfl dX7_force_31 (fun H locs hw hS => ?_)
      have hw : Wo g (stM M 2004 x) H := hw
      refine lv_iload_n C.1 C.2.1 dX7_force_34 rfl (lv_at hl 0 rfl) ?_
      exact x_ireturn C hr hlk hw hS ⟨by have := g_M 2004; have := hB.2.2.2.2.1.1; omega, by have := g_M 2004; have := hB.2.2.2.2.1.1; omega⟩ rfl (by
    unfold r_force t_force
    rw [if_pos (by omega), if_pos (by omega)]
    refine ⟨rfl, hR.b2 hA ⟨(st_n (by decide)).trans hR.1.1, (st_n (by decide)).trans hR.1.2.1, (st_n (by decide)).trans hR.1.2.2.1, st_s.trans (by show x = ((x.toNat : Nat) : Int); omega), fun i hi f hf => (st_n (by omega)).trans (hR.1.2.2.2.2 i hi f hf)⟩ (fun m hm => ?_), fun m hm => st_n (by omega)⟩
    have h2 : ¬ m / 1000 = 2 := fun z => hm (Or.inr (Or.inl z))
    exact st_n (by omega)) dX7_force_35
    · refine lv_bipush (v := II (-2)) C.1 C.2.1 dX7_force_15 (by decide) ?_
      exact x_ireturn C hr hlk hw hS ⟨by decide, by decide⟩ rfl (by unfold r_force t_force; rw [if_neg (by omega), if_neg (by omega)]; exact ⟨rfl, hR, fun _ _ => rfl⟩) dX7_force_17
