/-- the reader is made -/
def LvR (g : Gm) : Prop := 49 ≤ gN g ∧ gR g 45000 = some (gA g 46) ∧ gR g 45006 = some (gA g 47) ∧ gR g 45007 = some (gA g 48)
theorem LvF.r {g : Gm} (h : LvF g) : LvR g := ⟨by have := h.1; omega, h.2 45000, h.2 45006, h.2 45007⟩
def lcg (s0 : Int) : Nat → Int
  | 0 => s0
  | k + 1 => wr (lcg s0 k * 1103515245 + 12345)
def ush (z : Int) : Int := ((II z).toUInt32 >>> ((II 9).toUInt32 &&& Int32.toUInt32 31)).toInt32.toInt
theorem ush_in (z : Int) : 0 ≤ ush z ∧ ush z ≤ 8388607 := by
  have h := pk_ushr (II z) (II 9) 9 (by decide)
  have h2 : (II z).toBitVec.toNat < 2 ^ 32 := (II z).toBitVec.isLt
  unfold ush
  generalize ((II z).toUInt32 >>> ((II 9).toUInt32 &&& Int32.toUInt32 31)).toInt32 = y at h
  have h3 : y.toInt = y.toBitVec.toInt := rfl
  rw [h3, BitVec.toInt_eq_toNat_of_lt (by rw [h]; omega), h]
  omega
def dm (z : Int) : Int := ush z % 41 - 20
theorem dm_in (z : Int) : -20 ≤ dm z ∧ dm z ≤ 20 := by unfold dm; omega
def vD (v : Nat → Nat → Int) (s0 : Int) (n : Nat) : Nat → Nat → Int := fun q f => if q < n ∧ f = 3 then dm (lcg s0 (q + 1)) else v q f
theorem vD_up {v : Nat → Nat → Int} {s0 : Int} {i : Nat} : upv (vD v s0 i) i 3 (dm (lcg s0 (i + 1))) = vD v s0 (i + 1) := by
  funext q f
  unfold upv vD
  by_cases h : q = i ∧ f = 3
  · rw [if_pos h, if_pos (by omega), h.1]
  · rw [if_neg h]
    by_cases h2 : q < i ∧ f = 3
    · rw [if_pos h2, if_pos (by omega)]
    · rw [if_neg h2, if_neg (by omega)]
theorem vD_0 {v : Nat → Nat → Int} {s0 : Int} : vD v s0 0 = v := by
  funext q f
  unfold vD
  rw [if_neg (by omega)]
theorem vD_PI {v : Nat → Nat → Int} {s0 : Int} {i n : Nat} (h : PI v n) : PI (vD v s0 i) n := by
  intro p hp
  have := h p hp
  have hd := dm_in (lcg s0 (p + 1))
  refine ⟨?_, ?_, ?_, ?_, ?_⟩ <;> (unfold vD; split <;> omega)
def moreS (v : Nat → Nat → Int) (n : Nat) (nt : Int) (E : Ev) (s0 : Int) (z : Nat) : Int := cnt (fun i => decide (allS v n nt E < allS (vD v (wr (s0 + i)) n) n nt E)) z
def r_chance (v : Nat → Nat → Int) (n : Nat) (nt : Int) (E : Ev) (s0 z w : Int) : Int64 := if (1 ≤ z ∧ z ≤ 20) ∧ (w = 0 ∨ w = 1) then LL (if w = 0 then moreS v n nt E s0 z.toNat / (Nat.gcd (moreS v n nt E s0 z.toNat).toNat z.toNat : Nat) else z / (Nat.gcd (moreS v n nt E s0 z.toNat).toNat z.toNat : Nat)) else -4611686018427387904
def r_back (I : Option Bor) : Int := match I with
  | none => -3
  | some b => (b.1 : Int)
def b_back (I : Option Bor) (b : Bor) : Bor := match I with
  | none => b
  | some b2 => b2
theorem BV.fr3 {M M' : Nat → Int} {n : Nat} {v : Nat → Nat → Int} {nt : Int} {t : Nat} {E : Ev} (h : BV M n v nt t E) (hf : ∀ m, ¬ (scr m ∨ m / 1000 = 61) → M' m = M m) : BV M' n v nt t E := by
  obtain ⟨⟨h1, h2⟩, h3, h4, ⟨h5, h6⟩, ⟨h7, h8⟩, h9⟩ := h
  exact ⟨⟨(hf _ (by unfold scr; omega)).trans h1, h2⟩, fun q hq f hf' => (hf _ (by unfold scr; omega)).trans (h3 q hq f hf'), h4, ⟨(hf _ (by unfold scr; omega)).trans h5, h6⟩, ⟨(hf _ (by unfold scr; omega)).trans h7, h8⟩, h9.fr (fun m hm => hf m (by unfold scr; omega))⟩
set_option maxHeartbeats 4000000 in
set_option maxRecDepth 100000 in
theorem c_X1_becomeLike_k (l : Launch) (g : Gm) (M : Nat → Int) (hF : LvF g) (n : Nat) (hn : M 2001 = (n : Int) ∧ n ≤ 8) : CV l ({ cls := "RatedBySighs$Borough", name := "becomeLike", desc := "(LRatedBySighs$Borough;)V" } : Jvm.MethodName) cX1_becomeLike 3 (rmm 1 21) g M [.ref (gA g 49), .ref (gA g 2)] (fun M' => (M' 49001 = M 2001 ∧ M' 49002 = M 2002 ∧ M' 49003 = M 2003 ∧ M' 49004 = M 2004) ∧ (∀ j, j < n → ∀ f, f < 5 → M' (1000 * (51 + j) + f) = M (1000 * (4 + j) + f)) ∧ (∀ m, ¬ (m / 1000 = 49 ∨ (51 ≤ m / 1000 ∧ m / 1000 < 59)) → M' m = M m)) := by
  refine c_start (by decide) (Nat.le_of_ble_eq_true rfl) (fun p e s m below meth c ls C hr hlk hml hw hS hl => ?_)
  have hl : lv_has ls 3 [(0, .ref (gA g 49)), (1, .ref (gA g 2))] := hl
  generalize ([.ref (gA g 49), .ref (gA g 2)] : List Value).toArray = args at C ⊢
  generalize hQQ : MQ below (postV g (fun M' => (M' 49001 = M 2001 ∧ M' 49002 = M 2002 ∧ M' 49003 = M 2003 ∧ M' 49004 = M 2004) ∧ (∀ j, j < n → ∀ f, f < 5 → M' (1000 * (51 + j) + f) = M (1000 * (4 + j) + f)) ∧ (∀ m, ¬ (m / 1000 = 49 ∨ (51 ≤ m / 1000 ∧ m / 1000 < 59)) → M' m = M m))) args s 0 0 (ar g) = QQ
  have g_M := hw.rg
  have hN : gN g = 84 := hF.1
  refine lv_aload_n C.1 C.2.1 dX1_becomeLike_0 rfl (lv_at hl 0 rfl) ?_
  refine lv_aload_n C.1 C.2.1 dX1_becomeLike_1 rfl (lv_at hl 1 rfl) ?_
  refine g1 C hw 2 (by omega) rfl 1 (by decide) mw_189 (svi (x := M 2001) rfl) dX1_becomeLike_2 ?_
  refine p1 C hw hS 49 (by omega) rfl 1 (by decide) mw_189 rfl (x := M 2001) (g_M _) (svi st_s) (tyX1_ok 1 (by decide)) rfl rfl dX1_becomeLike_5 (fun H locs hw hS => ?_)
  have hw : Wo g (stM M 49001 (M 2001)) H := hw
  refine lv_aload_n C.1 C.2.1 dX1_becomeLike_8 rfl (lv_at hl 0 rfl) ?_
  refine lv_aload_n C.1 C.2.1 dX1_becomeLike_9 rfl (lv_at hl 1 rfl) ?_
  refine g1 C hw 2 (by omega) rfl 2 (by decide) mw_192 (svi (x := M 2002) (st_n (by decide))) dX1_becomeLike_10 ?_
  refine p1 C hw hS 49 (by omega) rfl 2 (by decide) mw_192 rfl (x := M 2002) (g_M _) (svi st_s) (tyX1_ok 2 (by decide)) rfl rfl dX1_becomeLike_13 (fun H locs hw hS => ?_)
  have hw : Wo g (stM (stM M 49001 (M 2001)) 49002 (M 2002)) H := hw
  refine lv_aload_n C.1 C.2.1 dX1_becomeLike_16 rfl (lv_at hl 0 rfl) ?_
  refine lv_aload_n C.1 C.2.1 dX1_becomeLike_17 rfl (lv_at hl 1 rfl) ?_
  refine g1 C hw 2 (by omega) rfl 3 (by decide) mw_195 (svi (x := M 2003) ((st_n (by decide)).trans (st_n (by decide)))) dX1_becomeLike_18 ?_
  refine p1 C hw hS 49 (by omega) rfl 3 (by decide) mw_195 rfl (x := M 2003) (g_M _) (svi st_s) (tyX1_ok 3 (by decide)) rfl rfl dX1_becomeLike_21 (fun H locs hw hS => ?_)
  have hw : Wo g (stM (stM (stM M 49001 (M 2001)) 49002 (M 2002)) 49003 (M 2003)) H := hw
  refine lv_aload_n C.1 C.2.1 dX1_becomeLike_24 rfl (lv_at hl 0 rfl) ?_
  refine lv_aload_n C.1 C.2.1 dX1_becomeLike_25 rfl (lv_at hl 1 rfl) ?_
  refine g1 C hw 2 (by omega) rfl 4 (by decide) mw_197 (svi (x := M 2004) ((st_n (by decide)).trans ((st_n (by decide)).trans (st_n (by decide))))) dX1_becomeLike_26 ?_
  refine p1 C hw hS 49 (by omega) rfl 4 (by decide) mw_197 rfl (x := M 2004) (g_M _) (svi st_s) (tyX1_ok 4 (by decide)) rfl rfl dX1_becomeLike_29 (fun H locs hw hS => ?_)
  have hw : Wo g (stM (stM (stM (stM M 49001 (M 2001)) 49002 (M 2002)) 49003 (M 2003)) 49004 (M 2004)) H := hw
  refine lv_iconst (v := II 0) C.1 C.2.1 dX1_becomeLike_32 rfl ?_
  refine lv_istore_n (lv' := [(2, .int (II 0)), (0, .ref (gA g 49)), (1, .ref (gA g 2))]) C.1 C.2.1 dX1_becomeLike_33 rfl hl (by decide) rfl (fun ls hl => ?_)
  have L34 : ∀ (f1 : Nat) (i : Nat) (M2 : Nat → Int), (n - i) < f1 → (i ≤ n) → (M2 49001 = M 2001 ∧ M2 49002 = M 2002 ∧ M2 49003 = M 2003 ∧ M2 49004 = M 2004) → (∀ j, j < i → ∀ f, f < 5 → M2 (1000 * (51 + j) + f) = M (1000 * (4 + j) + f)) → (∀ m, ¬ (m / 1000 = 49 ∨ (51 ≤ m / 1000 ∧ m / 1000 < 59)) → M2 m = M m) → ∀ (H : Heap) (locs : List Loc) (ls : Array Slot), Wo g M2 H → va_S (ar g) s.heap H locs → lv_has ls 3 [(0, .ref (gA g 49)), (1, .ref (gA g 2)), (2, .int (II (i : Int)))] → W p l e (rmm 1 21) s m args below meth c H locs 0 0 QQ (F0 m 34 ls []) := by
    intro f1
    induction f1 with
    | zero => intro i M2 hmu; exact absurd hmu (Nat.not_lt_zero _)
    | succ f1 ih =>
      intro i M2 hmu h1 h2 h3 h4 H locs ls hw hS hl
      have ih34 := ih
      have g_M2 := hw.rg
      refine lv_iload_n C.1 C.2.1 dX1_becomeLike_34 rfl (lv_at hl 2 rfl) ?_
      refine lv_aload_n C.1 C.2.1 dX1_becomeLike_35 rfl (lv_at hl 0 rfl) ?_
      refine g1 C hw 49 (by omega) rfl 1 (by decide) mw_189 (svi (x := (n : Int)) (h2.1.trans hn.1)) dX1_becomeLike_36 ?_
      refine x_icmp_ge (tgt := 63) C ⟨by omega, by omega⟩ ⟨by have := g_M2 49001; have := (h2.1.trans hn.1); omega, by have := g_M2 49001; have := (h2.1.trans hn.1); omega⟩ dX1_becomeLike_39 (by decide) (fun c39 => ?_) (fun c39 => ?_)
      · subst hQQ; exact x_return C hr hlk hw hS (by have e : i = n := (by omega); subst e; exact ⟨h2, h3, h4⟩) dX1_becomeLike_63
      · refine lv_aload_n C.1 C.2.1 dX1_becomeLike_42 rfl (lv_at hl 0 rfl) ?_
        refine g1 C hw 49 (by omega) rfl 0 (by decide) mw_186 (svr (hF.2 _)) dX1_becomeLike_43 ?_
        refine lv_iload_n C.1 C.2.1 dX1_becomeLike_46 rfl (lv_at hl 2 rfl) ?_
        refine x_aaload (L := 8) C hw 50 (by omega) 11 rfl (by decide) rfl (by omega) (by omega) (by decide) (rQ hF i (by omega)) dX1_becomeLike_47 ?_
        refine lv_aload_n C.1 C.2.1 dX1_becomeLike_48 rfl (lv_at hl 1 rfl) ?_
        refine g1 C hw 2 (by omega) rfl 0 (by decide) mw_186 (svr (hF.2 _)) dX1_becomeLike_49 ?_
        refine lv_iload_n C.1 C.2.1 dX1_becomeLike_52 rfl (lv_at hl 2 rfl) ?_
        refine x_aaload (L := 8) C hw 3 (by omega) 11 rfl (by decide) rfl (by omega) (by omega) (by decide) (rP hF i (by omega)) dX1_becomeLike_53 ?_
        refine x_cv (x_runVN (n := 1) C hw hS hml hl.1 (51 + i) 3 (by omega) (kd_q (by omega)) (by decide) rfl (c_X3_becomeLike l g M2 (51 + i) (by omega) (kd_q (by omega)) (4 + i) (by omega) (kd_p (by omega))) mn_765 mw_767 mw_49 mw_120 mw_768 rfl rfl (by decide +kernel) ⟨Nat.le_of_ble_eq_true rfl, Nat.le_of_ble_eq_true rfl⟩ rfl rfl (Nat.le_of_ble_eq_true rfl) dX1_becomeLike_54 ⟨Nat.zero_le _, Nat.zero_le _⟩) hS (fun M54 H locs hp hw hS => ?_)
        have em54 := hp
        have hw : Wo g (stM (stM (stM (stM (stM M2 (1000 * (51 + i) + 0) (M2 (1000 * (4 + i) + 0))) (1000 * (51 + i) + 1) (M2 (1000 * (4 + i) + 1))) (1000 * (51 + i) + 2) (M2 (1000 * (4 + i) + 2))) (1000 * (51 + i) + 3) (M2 (1000 * (4 + i) + 3))) (1000 * (51 + i) + 4) (M2 (1000 * (4 + i) + 4))) H := em54 ▸ hw
        refine lv_iinc (v := II ((i : Int) + 1)) (lv' := [(2, .int (II ((i : Int) + 1))), (0, .ref (gA g 49)), (1, .ref (gA g 2))]) C.1 C.2.1 dX1_becomeLike_57 hl (k := 2) rfl (II_add _ _) (by decide) rfl (fun ls hl => ?_)
        refine lv_goto (tgt := 34) C.1 C.2.1 dX1_becomeLike_60 (by decide) ?_
        exact ih34  (i + 1) (stM (stM (stM (stM (stM M2 (1000 * (51 + i) + 0) (M2 (1000 * (4 + i) + 0))) (1000 * (51 + i) + 1) (M2 (1000 * (4 + i) + 1))) (1000 * (51 + i) + 2) (M2 (1000 * (4 + i) + 2))) (1000 * (51 + i) + 3) (M2 (1000 * (4 + i) + 3))) (1000 * (51 + i) + 4) (M2 (1000 * (4 + i) + 4))) (by omega) (by omega) (⟨(by rw [st_n (by omega), st_n (by omega), st_n (by omega), st_n (by omega), st_n (by omega)]; exact h2.1), (by rw [st_n (by omega), st_n (by omega), st_n (by omega), st_n (by omega), st_n (by omega)]; exact h2.2.1), (by rw [st_n (by omega), st_n (by omega), st_n (by omega), st_n (by omega), st_n (by omega)]; exact h2.2.2.1), (by rw [st_n (by omega), st_n (by omega), st_n (by omega), st_n (by omega), st_n (by omega)]; exact h2.2.2.2)⟩) (fun j hj f hf => by
      by_cases e : j = i
      · subst e
        rcases (show f = 0 ∨ f = 1 ∨ f = 2 ∨ f = 3 ∨ f = 4 by omega) with rfl | rfl | rfl | rfl | rfl <;> simp [stM] <;> exact h4 _ (by omega)
      · rw [st_n (by omega), st_n (by omega), st_n (by omega), st_n (by omega), st_n (by omega)]; exact h3 j (by omega) f hf) (stF (stF (stF (stF (stF h4 (by omega)) (by omega)) (by omega)) (by omega)) (by omega)) _ _ _ hw hS (lv_sub hl [1, 2, 0] rfl)
  exact L34 _ 0 (stM (stM (stM (stM M 49001 (M 2001)) 49002 (M 2002)) 49003 (M 2003)) 49004 (M 2004)) (Nat.lt_succ_self _) (by omega) (by simp [stM]) (fun _ h => absurd h (Nat.not_lt_zero _)) (stF (stF (stF (stF (fun _ _ => rfl) (by omega)) (by omega)) (by omega)) (by omega)) _ _ _ hw hS (lv_sub hl [1, 2, 0] rfl)

set_option maxHeartbeats 4000000 in
set_option maxRecDepth 100000 in
theorem c_X1_becomeLike_b (l : Launch) (g : Gm) (M : Nat → Int) (hF : LvF g) (n : Nat) (hn : M 49001 = (n : Int) ∧ n ≤ 8) : CV l ({ cls := "RatedBySighs$Borough", name := "becomeLike", desc := "(LRatedBySighs$Borough;)V" } : Jvm.MethodName) cX1_becomeLike 3 (rmm 1 21) g M [.ref (gA g 2), .ref (gA g 49)] (fun M' => (M' 2001 = M 49001 ∧ M' 2002 = M 49002 ∧ M' 2003 = M 49003 ∧ M' 2004 = M 49004) ∧ (∀ j, j < n → ∀ f, f < 5 → M' (1000 * (4 + j) + f) = M (1000 * (51 + j) + f)) ∧ (∀ m, ¬ (m / 1000 = 2 ∨ (4 ≤ m / 1000 ∧ m / 1000 < 12)) → M' m = M m)) := by
  refine c_start (by decide) (Nat.le_of_ble_eq_true rfl) (fun p e s m below meth c ls C hr hlk hml hw hS hl => ?_)
  have hl : lv_has ls 3 [(0, .ref (gA g 2)), (1, .ref (gA g 49))] := hl
  generalize ([.ref (gA g 2), .ref (gA g 49)] : List Value).toArray = args at C ⊢
  generalize hQQ : MQ below (postV g (fun M' => (M' 2001 = M 49001 ∧ M' 2002 = M 49002 ∧ M' 2003 = M 49003 ∧ M' 2004 = M 49004) ∧ (∀ j, j < n → ∀ f, f < 5 → M' (1000 * (4 + j) + f) = M (1000 * (51 + j) + f)) ∧ (∀ m, ¬ (m / 1000 = 2 ∨ (4 ≤ m / 1000 ∧ m / 1000 < 12)) → M' m = M m))) args s 0 0 (ar g) = QQ
  have g_M := hw.rg
  have hN : gN g = 84 := hF.1
  refine lv_aload_n C.1 C.2.1 dX1_becomeLike_0 rfl (lv_at hl 0 rfl) ?_
  refine lv_aload_n C.1 C.2.1 dX1_becomeLike_1 rfl (lv_at hl 1 rfl) ?_
  refine g1 C hw 49 (by omega) rfl 1 (by decide) mw_189 (svi (x := M 49001) rfl) dX1_becomeLike_2 ?_
  refine p1 C hw hS 2 (by omega) rfl 1 (by decide) mw_189 rfl (x := M 49001) (g_M _) (svi st_s) (tyX1_ok 1 (by decide)) rfl rfl dX1_becomeLike_5 (fun H locs hw hS => ?_)
  have hw : Wo g (stM M 2001 (M 49001)) H := hw
  refine lv_aload_n C.1 C.2.1 dX1_becomeLike_8 rfl (lv_at hl 0 rfl) ?_
  refine lv_aload_n C.1 C.2.1 dX1_becomeLike_9 rfl (lv_at hl 1 rfl) ?_
  refine g1 C hw 49 (by omega) rfl 2 (by decide) mw_192 (svi (x := M 49002) (st_n (by decide))) dX1_becomeLike_10 ?_
  refine p1 C hw hS 2 (by omega) rfl 2 (by decide) mw_192 rfl (x := M 49002) (g_M _) (svi st_s) (tyX1_ok 2 (by decide)) rfl rfl dX1_becomeLike_13 (fun H locs hw hS => ?_)
  have hw : Wo g (stM (stM M 2001 (M 49001)) 2002 (M 49002)) H := hw
  refine lv_aload_n C.1 C.2.1 dX1_becomeLike_16 rfl (lv_at hl 0 rfl) ?_
  refine lv_aload_n C.1 C.2.1 dX1_becomeLike_17 rfl (lv_at hl 1 rfl) ?_
  refine g1 C hw 49 (by omega) rfl 3 (by decide) mw_195 (svi (x := M 49003) ((st_n (by decide)).trans (st_n (by decide)))) dX1_becomeLike_18 ?_
  refine p1 C hw hS 2 (by omega) rfl 3 (by decide) mw_195 rfl (x := M 49003) (g_M _) (svi st_s) (tyX1_ok 3 (by decide)) rfl rfl dX1_becomeLike_21 (fun H locs hw hS => ?_)
  have hw : Wo g (stM (stM (stM M 2001 (M 49001)) 2002 (M 49002)) 2003 (M 49003)) H := hw
  refine lv_aload_n C.1 C.2.1 dX1_becomeLike_24 rfl (lv_at hl 0 rfl) ?_
  refine lv_aload_n C.1 C.2.1 dX1_becomeLike_25 rfl (lv_at hl 1 rfl) ?_
  refine g1 C hw 49 (by omega) rfl 4 (by decide) mw_197 (svi (x := M 49004) ((st_n (by decide)).trans ((st_n (by decide)).trans (st_n (by decide))))) dX1_becomeLike_26 ?_
  refine p1 C hw hS 2 (by omega) rfl 4 (by decide) mw_197 rfl (x := M 49004) (g_M _) (svi st_s) (tyX1_ok 4 (by decide)) rfl rfl dX1_becomeLike_29 (fun H locs hw hS => ?_)
  have hw : Wo g (stM (stM (stM (stM M 2001 (M 49001)) 2002 (M 49002)) 2003 (M 49003)) 2004 (M 49004)) H := hw
  refine lv_iconst (v := II 0) C.1 C.2.1 dX1_becomeLike_32 rfl ?_
  refine lv_istore_n (lv' := [(2, .int (II 0)), (0, .ref (gA g 2)), (1, .ref (gA g 49))]) C.1 C.2.1 dX1_becomeLike_33 rfl hl (by decide) rfl (fun ls hl => ?_)
  have L34 : ∀ (f1 : Nat) (i : Nat) (M2 : Nat → Int), (n - i) < f1 → (i ≤ n) → (M2 2001 = M 49001 ∧ M2 2002 = M 49002 ∧ M2 2003 = M 49003 ∧ M2 2004 = M 49004) → (∀ j, j < i → ∀ f, f < 5 → M2 (1000 * (4 + j) + f) = M (1000 * (51 + j) + f)) → (∀ m, ¬ (m / 1000 = 2 ∨ (4 ≤ m / 1000 ∧ m / 1000 < 12)) → M2 m = M m) → ∀ (H : Heap) (locs : List Loc) (ls : Array Slot), Wo g M2 H → va_S (ar g) s.heap H locs → lv_has ls 3 [(0, .ref (gA g 2)), (1, .ref (gA g 49)), (2, .int (II (i : Int)))] → W p l e (rmm 1 21) s m args below meth c H locs 0 0 QQ (F0 m 34 ls []) := by
    intro f1
    induction f1 with
    | zero => intro i M2 hmu; exact absurd hmu (Nat.not_lt_zero _)
    | succ f1 ih =>
      intro i M2 hmu h1 h2 h3 h4 H locs ls hw hS hl
      have ih34 := ih
      have g_M2 := hw.rg
      refine lv_iload_n C.1 C.2.1 dX1_becomeLike_34 rfl (lv_at hl 2 rfl) ?_
      refine lv_aload_n C.1 C.2.1 dX1_becomeLike_35 rfl (lv_at hl 0 rfl) ?_
      refine g1 C hw 2 (by omega) rfl 1 (by decide) mw_189 (svi (x := (n : Int)) (h2.1.trans hn.1)) dX1_becomeLike_36 ?_
      refine x_icmp_ge (tgt := 63) C ⟨by omega, by omega⟩ ⟨by have := g_M2 2001; have := (h2.1.trans hn.1); omega, by have := g_M2 2001; have := (h2.1.trans hn.1); omega⟩ dX1_becomeLike_39 (by decide) (fun c39 => ?_) (fun c39 => ?_)
      · subst hQQ; exact x_return C hr hlk hw hS (by have e : i = n := (by omega); subst e; exact ⟨h2, h3, h4⟩) dX1_becomeLike_63
      · refine lv_aload_n C.1 C.2.1 dX1_becomeLike_42 rfl (lv_at hl 0 rfl) ?_
        refine g1 C hw 2 (by omega) rfl 0 (by decide) mw_186 (svr (hF.2 _)) dX1_becomeLike_43 ?_
        refine lv_iload_n C.1 C.2.1 dX1_becomeLike_46 rfl (lv_at hl 2 rfl) ?_
        refine x_aaload (L := 8) C hw 3 (by omega) 11 rfl (by decide) rfl (by omega) (by omega) (by decide) (rP hF i (by omega)) dX1_becomeLike_47 ?_
        refine lv_aload_n C.1 C.2.1 dX1_becomeLike_48 rfl (lv_at hl 1 rfl) ?_
        refine g1 C hw 49 (by omega) rfl 0 (by decide) mw_186 (svr (hF.2 _)) dX1_becomeLike_49 ?_
        refine lv_iload_n C.1 C.2.1 dX1_becomeLike_52 rfl (lv_at hl 2 rfl) ?_
        refine x_aaload (L := 8) C hw 50 (by omega) 11 rfl (by decide) rfl (by omega) (by omega) (by decide) (rQ hF i (by omega)) dX1_becomeLike_53 ?_
        refine x_cv (x_runVN (n := 1) C hw hS hml hl.1 (4 + i) 3 (by omega) (kd_p (by omega)) (by decide) rfl (c_X3_becomeLike l g M2 (4 + i) (by omega) (kd_p (by omega)) (51 + i) (by omega) (kd_q (by omega))) mn_765 mw_767 mw_49 mw_120 mw_768 rfl rfl (by decide +kernel) ⟨Nat.le_of_ble_eq_true rfl, Nat.le_of_ble_eq_true rfl⟩ rfl rfl (Nat.le_of_ble_eq_true rfl) dX1_becomeLike_54 ⟨Nat.zero_le _, Nat.zero_le _⟩) hS (fun M54 H locs hp hw hS => ?_)
        have em54 := hp
        have hw : Wo g (stM (stM (stM (stM (stM M2 (1000 * (4 + i) + 0) (M2 (1000 * (51 + i) + 0))) (1000 * (4 + i) + 1) (M2 (1000 * (51 + i) + 1))) (1000 * (4 + i) + 2) (M2 (1000 * (51 + i) + 2))) (1000 * (4 + i) + 3) (M2 (1000 * (51 + i) + 3))) (1000 * (4 + i) + 4) (M2 (1000 * (51 + i) + 4))) H := em54 ▸ hw
        refine lv_iinc (v := II ((i : Int) + 1)) (lv' := [(2, .int (II ((i : Int) + 1))), (0, .ref (gA g 2)), (1, .ref (gA g 49))]) C.1 C.2.1 dX1_becomeLike_57 hl (k := 2) rfl (II_add _ _) (by decide) rfl (fun ls hl => ?_)
        refine lv_goto (tgt := 34) C.1 C.2.1 dX1_becomeLike_60 (by decide) ?_
        exact ih34  (i + 1) (stM (stM (stM (stM (stM M2 (1000 * (4 + i) + 0) (M2 (1000 * (51 + i) + 0))) (1000 * (4 + i) + 1) (M2 (1000 * (51 + i) + 1))) (1000 * (4 + i) + 2) (M2 (1000 * (51 + i) + 2))) (1000 * (4 + i) + 3) (M2 (1000 * (51 + i) + 3))) (1000 * (4 + i) + 4) (M2 (1000 * (51 + i) + 4))) (by omega) (by omega) (⟨(by rw [st_n (by omega), st_n (by omega), st_n (by omega), st_n (by omega), st_n (by omega)]; exact h2.1), (by rw [st_n (by omega), st_n (by omega), st_n (by omega), st_n (by omega), st_n (by omega)]; exact h2.2.1), (by rw [st_n (by omega), st_n (by omega), st_n (by omega), st_n (by omega), st_n (by omega)]; exact h2.2.2.1), (by rw [st_n (by omega), st_n (by omega), st_n (by omega), st_n (by omega), st_n (by omega)]; exact h2.2.2.2)⟩) (fun j hj f hf => by
      by_cases e : j = i
      · subst e
        rcases (show f = 0 ∨ f = 1 ∨ f = 2 ∨ f = 3 ∨ f = 4 by omega) with rfl | rfl | rfl | rfl | rfl <;> simp [stM] <;> exact h4 _ (by omega)
      · rw [st_n (by omega), st_n (by omega), st_n (by omega), st_n (by omega), st_n (by omega)]; exact h3 j (by omega) f hf) (stF (stF (stF (stF (stF h4 (by omega)) (by omega)) (by omega)) (by omega)) (by omega)) _ _ _ hw hS (lv_sub hl [1, 2, 0] rfl)
  exact L34 _ 0 (stM (stM (stM (stM M 2001 (M 49001)) 2002 (M 49002)) 2003 (M 49003)) 2004 (M 49004)) (Nat.lt_succ_self _) (by omega) (by simp [stM]) (fun _ h => absurd h (Nat.not_lt_zero _)) (stF (stF (stF (stF (fun _ _ => rfl) (by omega)) (by omega)) (by omega)) (by omega)) _ _ _ hw hS (lv_sub hl [1, 2, 0] rfl)

set_option maxHeartbeats 4000000 in
set_option maxRecDepth 100000 in
theorem c_X7_image (l : Launch) (g : Gm) (M : Nat → Int) (hF : LvF g) (n : Nat) (v : Nat → Nat → Int) (nt : Int) (pd : Int) (t : Nat) (X : Txt) (I : Option Bor) (Sh : Sht) (hR : RepC M (n, v, nt, pd, t) X I Sh) (hA : InvA (n, v, nt, pd, t) X I Sh) : CI l ({ cls := "RatedBySighs", name := "image", desc := "()I" } : Jvm.MethodName) cX7_image 1 .int (rmm 2 43) g M [.ref (gA g 0)] (fun r M' => r = (n : Int) ∧ (RepC M' (n, v, nt, pd, t) X (some (n, v, nt, pd, t)) Sh) ∧ (∀ m, 70000 ≤ m → M' m = M m)) := by
  refine c_start (by decide) (Nat.le_of_ble_eq_true rfl) (fun p e s m below meth c ls C hr hlk hml hw hS hl => ?_)
  have hl : lv_has ls 1 [(0, .ref (gA g 0))] := hl
  have g_M := hw.rg
  have hN : gN g = 84 := hF.1
  have hB : BV M n v nt t (X.2.1 t) := hR.bv hA
  have hn2 : n ≤ 8 := hB.1.2
  have hnt := hB.2.2.2.1.2
  have hpd : 0 ≤ pd ∧ pd ≤ 999999999 := hA.1.2.2.2.2.1
  refine lv_aload_n C.1 C.2.1 dX7_image_0 rfl (lv_at hl 0 rfl) ?_
  refine g7 C hw 0 (by omega) rfl 4 (by decide) mw_484 (svr (hF.2 _)) dX7_image_1 ?_
  refine lv_aload_n C.1 C.2.1 dX7_image_4 rfl (lv_at hl 0 rfl) ?_
  refine g7 C hw 0 (by omega) rfl 1 (by decide) mw_481 (svr (hF.2 _)) dX7_image_5 ?_
  refine x_cv (x_runVN (n := 1) C hw hS hml hl.1 49 1 (by omega) rfl (by decide) rfl (c_X1_becomeLike_k l g M hF n hB.1) mn_761 mw_763 mw_48 mw_119 mw_764 rfl rfl (by decide +kernel) ⟨Nat.le_of_ble_eq_true rfl, Nat.le_of_ble_eq_true rfl⟩ rfl rfl (Nat.le_of_ble_eq_true rfl) dX7_image_8 ⟨Nat.zero_le _, Nat.zero_le _⟩) hS (fun M8 H locs hp hw hS => ?_)
  obtain ⟨h8a, h8b, h8f⟩ := hp
  have g_M8 := hw.rg
  refine lv_aload_n C.1 C.2.1 dX7_image_11 rfl (lv_at hl 0 rfl) ?_
  refine lv_iconst (v := II 1) C.1 C.2.1 dX7_image_12 rfl ?_
  refine p7 C hw hS 0 (by omega) rfl 5 (by decide) mw_485 rfl (x := 1) ⟨by decide, by decide⟩ (svi st_s) (tyX7_ok 5 (by decide)) (by decide) (by decide) dX7_image_13 (fun H locs hw hS => ?_)
  have hw : Wo g (stM M8 5 1) H := hw
  refine lv_aload_n C.1 C.2.1 dX7_image_16 rfl (lv_at hl 0 rfl) ?_
  refine g7 C hw 0 (by omega) rfl 1 (by decide) mw_481 (svr (hF.2 _)) dX7_image_17 ?_
  refine gn1 C hw 2 (by omega) rfl 1 (by decide) mn_191 (svi (x := (n : Int)) ((st_n (by decide)).trans ((h8f _ (by omega)).trans hB.1.1))) dX7_image_20 ?_
  exact x_ireturn C hr hlk hw hS ⟨by omega, by omega⟩ rfl ⟨rfl, ⟨hR.1.fr hA.1.1 (fun m hm => (st_n (by omega)).trans (h8f m (by omega))), hR.2.1.fr ⟨hA.2.1.2, hA.2.2.1.1⟩ (fun m hm => (st_n (by omega)).trans (h8f m (by omega))), ⟨st_s, (st_n (by decide)).trans (h8a.1.trans hR.1.1), (st_n (by decide)).trans (h8a.2.1.trans hR.1.2.1), (st_n (by decide)).trans (h8a.2.2.1.trans hR.1.2.2.1), (st_n (by decide)).trans (h8a.2.2.2.trans hR.1.2.2.2.1), fun i hi f hf => (st_n (by omega)).trans ((h8b i hi f hf).trans (hR.1.2.2.2.2 i hi f hf))⟩, hR.2.2.2.fr hA.sz (fun m hm => (st_n (by omega)).trans (h8f m (by omega)))⟩, fun m hm => (st_n (by omega)).trans (h8f m (by omega))⟩ dX7_image_23

set_option maxHeartbeats 4000000 in
set_option maxRecDepth 100000 in
theorem c_X7_back (l : Launch) (g : Gm) (M : Nat → Int) (hF : LvF g) (n : Nat) (v : Nat → Nat → Int) (nt : Int) (pd : Int) (t : Nat) (X : Txt) (I : Option Bor) (Sh : Sht) (hR : RepC M (n, v, nt, pd, t) X I Sh) (hA : InvA (n, v, nt, pd, t) X I Sh) : CI l ({ cls := "RatedBySighs", name := "back", desc := "()I" } : Jvm.MethodName) cX7_back 1 .int (rmm 2 43) g M [.ref (gA g 0)] (fun r M' => r = r_back I ∧ (RepC M' (b_back I (n, v, nt, pd, t)) X I Sh) ∧ (∀ m, 70000 ≤ m → M' m = M m)) := by
  refine c_start (by decide) (Nat.le_of_ble_eq_true rfl) (fun p e s m below meth c ls C hr hlk hml hw hS hl => ?_)
  have hl : lv_has ls 1 [(0, .ref (gA g 0))] := hl
  have g_M := hw.rg
  have hN : gN g = 84 := hF.1
  have hB : BV M n v nt t (X.2.1 t) := hR.bv hA
  have hn2 : n ≤ 8 := hB.1.2
  have hnt := hB.2.2.2.1.2
  have hpd : 0 ≤ pd ∧ pd ≤ 999999999 := hA.1.2.2.2.2.1
  refine lv_aload_n C.1 C.2.1 dX7_back_0 rfl (lv_at hl 0 rfl) ?_
  refine g7 C hw 0 (by omega) rfl 5 (by decide) mw_485 (svi (x := M 5) rfl) dX7_back_1 ?_
  refine x_if_ne (tgt := 10) C (g_M _) dX7_back_4 (by decide) (fun c4 => ?_) (fun c4 => ?_)
  · obtain ⟨b2, hI⟩ : ∃ b2, I = some b2 := by
      cases I with
      | none => exact absurd hR.2.2.1 c4
      | some b2 => exact ⟨b2, rfl⟩
    subst hI
    obtain ⟨hI1, hI2⟩ := hR.2.2.1
    have hb8 := hA.im b2 rfl
    refine lv_aload_n C.1 C.2.1 dX7_back_10 rfl (lv_at hl 0 rfl) ?_
    refine g7 C hw 0 (by omega) rfl 1 (by decide) mw_481 (svr (hF.2 _)) dX7_back_11 ?_
    refine lv_aload_n C.1 C.2.1 dX7_back_14 rfl (lv_at hl 0 rfl) ?_
    refine g7 C hw 0 (by omega) rfl 4 (by decide) mw_484 (svr (hF.2 _)) dX7_back_15 ?_
    refine x_cv (x_runVN (n := 1) C hw hS hml hl.1 2 1 (by omega) rfl (by decide) rfl (c_X1_becomeLike_b l g M hF b2.1 ⟨hI2.1, hb8⟩) mn_761 mw_763 mw_48 mw_119 mw_764 rfl rfl (by decide +kernel) ⟨Nat.le_of_ble_eq_true rfl, Nat.le_of_ble_eq_true rfl⟩ rfl rfl (Nat.le_of_ble_eq_true rfl) dX7_back_18 ⟨Nat.zero_le _, Nat.zero_le _⟩) hS (fun M18 H locs hp hw hS => ?_)
    obtain ⟨h18a, h18b, h18f⟩ := hp
    have g_M18 := hw.rg
    refine lv_aload_n C.1 C.2.1 dX7_back_21 rfl (lv_at hl 0 rfl) ?_
    refine g7 C hw 0 (by omega) rfl 1 (by decide) mw_481 (svr (hF.2 _)) dX7_back_22 ?_
    refine gn1 C hw 2 (by omega) rfl 1 (by decide) mn_191 (svi (x := (b2.1 : Int)) (h18a.1.trans hI2.1)) dX7_back_25 ?_
    exact x_ireturn C hr hlk hw hS ⟨by have := g_M18 2001; have := (h18a.1.trans hI2.1); omega, by have := g_M18 2001; have := (h18a.1.trans hI2.1); omega⟩ rfl ⟨rfl, ⟨⟨h18a.1.trans hI2.1, h18a.2.1.trans hI2.2.1, h18a.2.2.1.trans hI2.2.2.1, h18a.2.2.2.trans hI2.2.2.2.1, fun i hi f hf => (h18b i hi f hf).trans (hI2.2.2.2.2 i hi f hf)⟩, hR.2.1.fr ⟨hA.2.1.2, hA.2.2.1.1⟩ (fun m hm => h18f m (by omega)), ImgC.fr (I := some b2) hR.2.2.1 hA.im (fun m hm => h18f m (by omega)), hR.2.2.2.fr hA.sz (fun m hm => h18f m (by omega))⟩, fun m hm => h18f m (by omega)⟩ dX7_back_28
  · refine lv_bipush (v := II (-3)) C.1 C.2.1 dX7_back_7 (by decide) ?_
    exact x_ireturn C hr hlk hw hS ⟨by decide, by decide⟩ rfl (by
    have hI : I = none := by
      cases I with
      | none => rfl
      | some b2 => exact absurd hR.2.2.1.1 (by omega)
    subst hI
    exact ⟨rfl, hR, fun _ _ => rfl⟩) dX7_back_9

set_option maxHeartbeats 4000000 in
set_option maxRecDepth 100000 in
theorem c_X7_allDrawn (l : Launch) (g : Gm) (M : Nat → Int) (hF : LvF g) (n : Nat) (v : Nat → Nat → Int) (nt : Int) (t : Nat) (E : Ev) (hB : BV M n v nt t E) (s0 : Int) (gs : rg s0) : CI l ({ cls := "RatedBySighs", name := "allDrawn", desc := "(I)I" } : Jvm.MethodName) cX7_allDrawn 5 .int (rmm 5 121) g M [.ref (gA g 0), .int (II s0)] (fun r M' => r = allS (vD v s0 n) n nt E ∧ (∀ m, ¬ (scr m ∨ m / 1000 = 61) → M' m = M m)) := by
  refine c_start (by decide) (Nat.le_of_ble_eq_true rfl) (fun p e s m below meth c ls C hr hlk hml hw hS hl => ?_)
  have hl : lv_has ls 5 [(0, .ref (gA g 0)), (1, .int (II s0))] := hl
  generalize ([.ref (gA g 0), .int (II s0)] : List Value).toArray = args at C ⊢
  generalize hQQ : MQ below (postI g (fun r M' => r = allS (vD v s0 n) n nt E ∧ (∀ m, ¬ (scr m ∨ m / 1000 = 61) → M' m = M m))) args s 0 0 (ar g) = QQ
  have g_M := hw.rg
  have hN : gN g = 84 := hF.1
  have hn2 := hB.1.2
  refine lv_iload_n C.1 C.2.1 dX7_allDrawn_0 rfl (lv_at hl 1 rfl) ?_
  refine lv_istore_n (lv' := [(2, .int (II s0)), (0, .ref (gA g 0)), (1, .int (II s0))]) C.1 C.2.1 dX7_allDrawn_1 rfl hl (by decide) rfl (fun ls hl => ?_)
  refine lv_iconst (v := II 0) C.1 C.2.1 dX7_allDrawn_2 rfl ?_
  refine lv_istore_n (lv' := [(3, .int (II 0)), (2, .int (II s0)), (0, .ref (gA g 0)), (1, .int (II s0))]) C.1 C.2.1 dX7_allDrawn_3 rfl hl (by decide) rfl (fun ls hl => ?_)
  have L4 : ∀ (f1 : Nat) (i : Nat) (M2 : Nat → Int), (n - i) < f1 → (i ≤ n) → (BV M2 n (vD v s0 i) nt t E) → (∀ j, j < i → M2 (61000 + j) = v j 3) → (∀ m, ¬ (m / 1000 = 61 ∨ (4 ≤ m / 1000 ∧ m / 1000 < 4 + i ∧ m % 1000 = 3)) → M2 m = M m) → (rg (lcg s0 i)) → ∀ (H : Heap) (locs : List Loc) (ls : Array Slot), Wo g M2 H → va_S (ar g) s.heap H locs → lv_has ls 5 [(0, .ref (gA g 0)), (1, .int (II s0)), (2, .int (II (lcg s0 i))), (3, .int (II (i : Int)))] → W p l e (rmm 5 121) s m args below meth c H locs 0 0 QQ (F0 m 4 ls []) := by
    intro f1
    induction f1 with
    | zero => intro i M2 hmu; exact absurd hmu (Nat.not_lt_zero _)
    | succ f1 ih =>
      intro i M2 hmu h1 h2 h3 h4 h6 H locs ls hw hS hl
      have ih4 := ih
      have g_M2 := hw.rg
      have h9 : M2 2001 = (n : Int) := h2.1.1
      have h8 : ∀ j, i ≤ j ∧ j < n → M2 (1000 * (4 + j) + 3) = v j 3 := fun j hj => (h4 _ (by omega)).trans (hB.2.1 j hj.2 3 (by decide))
      have h8 : ∀ j, j < n ∧ i ≤ j → M2 (1000 * (4 + j) + 3) = v j 3 := fun j hj => h8 j ⟨hj.2, hj.1⟩
      refine lv_iload_n C.1 C.2.1 dX7_allDrawn_4 rfl (lv_at hl 3 rfl) ?_
      refine lv_aload_n C.1 C.2.1 dX7_allDrawn_5 rfl (lv_at hl 0 rfl) ?_
      refine g7 C hw 0 (by omega) rfl 1 (by decide) mw_481 (svr (hF.2 _)) dX7_allDrawn_6 ?_
      refine gn1 C hw 2 (by omega) rfl 1 (by decide) mn_191 (svi (x := (n : Int)) h9) dX7_allDrawn_9 ?_
      refine x_icmp_ge (tgt := 71) C ⟨by omega, by omega⟩ ⟨by have := g_M2 2001; have := h9; omega, by have := g_M2 2001; have := h9; omega⟩ dX7_allDrawn_12 (by decide) (fun c12 => ?_) (fun c12 => ?_)
      · have ein : i = n := by omega
        refine lv_aload_n C.1 C.2.1 dX7_allDrawn_71 rfl (lv_at hl 0 rfl) ?_
        refine g7 C hw 0 (by omega) rfl 0 (by decide) mw_480 (svr (hF.2 _)) dX7_allDrawn_72 ?_
        refine x_ci (x_runVN (n := 0) C hw hS hml hl.1 1 2 (by omega) rfl (by decide) rfl (c_X2_playAll l g M2 hF n (vD v s0 n) nt t E (by rw [← ein]; exact ein ▸ h2)) mn_617 mw_619 mw_30 mw_118 mw_620 rfl rfl (by decide +kernel) ⟨Nat.le_of_ble_eq_true rfl, Nat.le_of_ble_eq_true rfl⟩ rfl rfl (Nat.le_of_ble_eq_true rfl) dX7_allDrawn_75 ⟨Nat.zero_le _, Nat.zero_le _⟩) hS (fun r75 M75 H locs hr75 hp hw hS => ?_)
        obtain ⟨er75, h75f⟩ := hp
        have g_M75 := hw.rg
        rw [er75] at hr75 ⊢
        refine lv_istore_n (lv' := [(3, .int (II (allS (vD v s0 n) n nt E))), (0, .ref (gA g 0)), (1, .int (II s0)), (2, .int (II (lcg s0 i)))]) C.1 C.2.1 dX7_allDrawn_78 rfl hl (by decide) rfl (fun ls hl => ?_)
        refine lv_iconst (v := II 0) C.1 C.2.1 dX7_allDrawn_79 rfl ?_
        refine lv_istore (lv' := [(4, .int (II 0)), (3, .int (II (allS (vD v s0 n) n nt E))), (0, .ref (gA g 0)), (1, .int (II s0)), (2, .int (II (lcg s0 i)))]) C.1 C.2.1 dX7_allDrawn_80 hl (by decide) rfl (fun ls hl => ?_)
        have L82 : ∀ (f2 : Nat) (i : Nat) (M5 : Nat → Int), (n - i) < f2 → (i ≤ n) → (∀ j, j < n → M5 (61000 + j) = v j 3) → (∀ j, j < i → M5 (1000 * (4 + j) + 3) = v j 3) → (∀ m, ¬ (scr m ∨ m / 1000 = 61 ∨ (4 ≤ m / 1000 ∧ m / 1000 < 4 + n ∧ m % 1000 = 3)) → M5 m = M m) → ∀ (H : Heap) (locs : List Loc) (ls : Array Slot), Wo g M5 H → va_S (ar g) s.heap H locs → lv_has ls 5 [(0, .ref (gA g 0)), (1, .int (II s0)), (3, .int (II (allS (vD v s0 n) n nt E))), (4, .int (II (i : Int)))] → W p l e (rmm 5 121) s m args below meth c H locs 0 0 QQ (F0 m 82 ls []) := by
          intro f2
          induction f2 with
          | zero => intro i M5 hmu; exact absurd hmu (Nat.not_lt_zero _)
          | succ f2 ih =>
            intro i M5 hmu h20 h21 h22 h23 H locs ls hw hS hl
            have ih82 := ih
            have g_M5 := hw.rg
            have h29 : M5 2001 = (n : Int) := (h23 _ (by unfold scr; omega)).trans hB.1.1
            refine lv_iload C.1 C.2.1 dX7_allDrawn_82 (lv_at hl 3 rfl) ?_
            refine lv_aload_n C.1 C.2.1 dX7_allDrawn_84 rfl (lv_at hl 0 rfl) ?_
            refine g7 C hw 0 (by omega) rfl 1 (by decide) mw_481 (svr (hF.2 _)) dX7_allDrawn_85 ?_
            refine gn1 C hw 2 (by omega) rfl 1 (by decide) mn_191 (svi (x := (n : Int)) h29) dX7_allDrawn_88 ?_
            refine x_icmp_ge (tgt := 120) C ⟨by omega, by omega⟩ ⟨by have := g_M5 2001; have := h29; omega, by have := g_M5 2001; have := h29; omega⟩ dX7_allDrawn_91 (by decide) (fun c91 => ?_) (fun c91 => ?_)
            · refine lv_iload_n C.1 C.2.1 dX7_allDrawn_120 rfl (lv_at hl 2 rfl) ?_
              subst hQQ; exact x_ireturn C hr hlk hw hS hr75 rfl ⟨rfl, fun m hm => by
    by_cases e : 4 ≤ m / 1000 ∧ m / 1000 < 4 + n ∧ m % 1000 = 3
    · have h := h22 (m / 1000 - 4) (by omega)
      rw [show 1000 * (4 + (m / 1000 - 4)) + 3 = m by omega] at h
      rw [h, ← hB.2.1 (m / 1000 - 4) (by omega) 3 (by decide)]
      congr 1
      omega
    · exact h23 m (fun z => z.elim (fun y => hm (Or.inl y)) (fun y => y.elim (fun x => hm (Or.inr x)) e))⟩ dX7_allDrawn_121
            · have hq := hB.2.2.1 i (by omega)
              refine lv_aload_n C.1 C.2.1 dX7_allDrawn_94 rfl (lv_at hl 0 rfl) ?_
              refine g7 C hw 0 (by omega) rfl 1 (by decide) mw_481 (svr (hF.2 _)) dX7_allDrawn_95 ?_
              refine gn1 C hw 2 (by omega) rfl 0 (by decide) mn_187 (svr (hF.2 _)) dX7_allDrawn_98 ?_
              refine lv_iload C.1 C.2.1 dX7_allDrawn_101 (lv_at hl 3 rfl) ?_
              refine x_aaload (L := 8) C hw 3 (by omega) 11 rfl (by decide) rfl (by omega) (by omega) (by decide) (rP hF i (by omega)) dX7_allDrawn_103 ?_
              refine lv_aload_n C.1 C.2.1 dX7_allDrawn_104 rfl (lv_at hl 0 rfl) ?_
              refine g7 C hw 0 (by omega) rfl 8 (by decide) mw_488 (svr (hF.2 _)) dX7_allDrawn_105 ?_
              refine lv_iload C.1 C.2.1 dX7_allDrawn_108 (lv_at hl 3 rfl) ?_
              refine x_iaload (L := 8) C hw 61 (by omega) rfl rfl (by omega) (by omega) (by decide) (x := v i 3) (h21 i (by omega)) dX7_allDrawn_110 ?_
              refine pn3 C hw hS (4 + i) (by omega) (kd_p (by omega)) 3 (by decide) mn_172 rfl (x := v i 3) ⟨by have := g_M5 (61000 + i); have := (h21 i (by omega)); omega, by have := g_M5 (61000 + i); have := (h21 i (by omega)); omega⟩ (svi st_s) (tyX3_ok 3 (by decide)) rfl rfl dX7_allDrawn_111 (fun H locs hw hS => ?_)
              have hw : Wo g (stM M5 (1000 * (4 + i) + 3) (v i 3)) H := hw
              refine lv_iinc (v := II ((i : Int) + 1)) (lv' := [(4, .int (II ((i : Int) + 1))), (0, .ref (gA g 0)), (1, .int (II s0)), (3, .int (II (allS (vD v s0 n) n nt E)))]) C.1 C.2.1 dX7_allDrawn_114 hl (k := 3) rfl (II_add _ _) (by decide) rfl (fun ls hl => ?_)
              refine lv_goto (tgt := 82) C.1 C.2.1 dX7_allDrawn_117 (by decide) ?_
              exact ih82  (i + 1) (stM M5 (1000 * (4 + i) + 3) (v i 3)) (by omega) (by omega) (fun j hj => (st_n (by omega)).trans (h21 j hj)) (fun j hj => by
      by_cases e : j = i
      · subst e; exact st_s
      · exact (st_n (by omega)).trans (h22 j (by omega))) (stF h23 (by omega)) _ _ _ hw hS (lv_sub hl [1, 2, 3, 0] rfl)
        exact L82 _ 0 M75 (Nat.lt_succ_self _) (by omega) (fun j hj => (h75f _ (by unfold scr; omega)).trans (h3 j (by omega))) (fun _ h => absurd h (Nat.not_lt_zero _)) (fun m hm => (h75f m (fun z => hm (Or.inl z))).trans (h4 m (fun z => hm (Or.inr (by omega))))) _ _ _ hw hS (lv_sub hl [2, 3, 1, 0] rfl)
      · have hq := hB.2.2.1 i (by omega)
        refine lv_aload_n C.1 C.2.1 dX7_allDrawn_15 rfl (lv_at hl 0 rfl) ?_
        refine g7 C hw 0 (by omega) rfl 8 (by decide) mw_488 (svr (hF.2 _)) dX7_allDrawn_16 ?_
        refine lv_iload_n C.1 C.2.1 dX7_allDrawn_19 rfl (lv_at hl 3 rfl) ?_
        refine lv_aload_n C.1 C.2.1 dX7_allDrawn_20 rfl (lv_at hl 0 rfl) ?_
        refine g7 C hw 0 (by omega) rfl 1 (by decide) mw_481 (svr (hF.2 _)) dX7_allDrawn_21 ?_
        refine gn1 C hw 2 (by omega) rfl 0 (by decide) mn_187 (svr (hF.2 _)) dX7_allDrawn_24 ?_
        refine lv_iload_n C.1 C.2.1 dX7_allDrawn_27 rfl (lv_at hl 3 rfl) ?_
        refine x_aaload (L := 8) C hw 3 (by omega) 11 rfl (by decide) rfl (by omega) (by omega) (by decide) (rP hF i (by omega)) dX7_allDrawn_28 ?_
        refine gn3 C hw (4 + i) (by omega) (kd_p (by omega)) 3 (by decide) mn_172 (svi (x := v i 3) (h8 i (by omega))) dX7_allDrawn_29 ?_
        refine x_iastore (L := 8) C hw hS 61 (by omega) rfl rfl (by omega) (by omega) (by decide) (x := v i 3) ⟨by have := g_M2 (1000 * (4 + i) + 3); have := (h8 i (by omega)); omega, by have := g_M2 (1000 * (4 + i) + 3); have := (h8 i (by omega)); omega⟩ dX7_allDrawn_32 (fun H locs hw hS => ?_)
        have hw : Wo g (stM M2 (61000 + i) (v i 3)) H := hw
        refine lv_iload_n C.1 C.2.1 dX7_allDrawn_33 rfl (lv_at hl 2 rfl) ?_
        refine lv_ldcw C.1 C.2.1 C.2.2.1 (C.2.2.2.1 _ mw_748) dX7_allDrawn_34 ?_
        rw [show (1103515245 : Int32) = II 1103515245 from by decide]
        refine x_imul C dX7_allDrawn_37 ?_
        refine lv_sipush (v := II 12345) C.1 C.2.1 dX7_allDrawn_38 (by decide) ?_
        refine x_iadd C dX7_allDrawn_41 ?_
        refine x_top (b := wr (((lcg s0 i) * 1103515245) + 12345)) (II_self _).symm ?_
        refine lv_istore_n (lv' := [(2, .int (II (wr (((lcg s0 i) * 1103515245) + 12345)))), (0, .ref (gA g 0)), (1, .int (II s0)), (3, .int (II (i : Int)))]) C.1 C.2.1 dX7_allDrawn_42 rfl hl (by decide) rfl (fun ls hl => ?_)
        have hl : lv_has ls 5 [(2, .int (II (lcg s0 (i + 1)))), (0, .ref (gA g 0)), (1, .int (II s0)), (3, .int (II (i : Int)))] := hl
        have hdm := dm_in (lcg s0 (i + 1))
        have hus := ush_in (lcg s0 (i + 1))
        refine lv_aload_n C.1 C.2.1 dX7_allDrawn_43 rfl (lv_at hl 1 rfl) ?_
        refine g7 C hw 0 (by omega) rfl 1 (by decide) mw_481 (svr (hF.2 _)) dX7_allDrawn_44 ?_
        refine gn1 C hw 2 (by omega) rfl 0 (by decide) mn_187 (svr (hF.2 _)) dX7_allDrawn_47 ?_
        refine lv_iload_n C.1 C.2.1 dX7_allDrawn_50 rfl (lv_at hl 3 rfl) ?_
        refine x_aaload (L := 8) C hw 3 (by omega) 11 rfl (by decide) rfl (by omega) (by omega) (by decide) (rP hF i (by omega)) dX7_allDrawn_51 ?_
        refine lv_iload_n C.1 C.2.1 dX7_allDrawn_52 rfl (lv_at hl 0 rfl) ?_
        refine lv_bipush (v := II 9) C.1 C.2.1 dX7_allDrawn_53 (by decide) ?_
        refine lv_iushr (v := ((II (lcg s0 (i + 1))).toUInt32 >>> ((II 9).toUInt32 &&& Int32.toUInt32 31)).toInt32) C.1 C.2.1 dX7_allDrawn_55 rfl ?_
        rw [show ((II (lcg s0 (i + 1))).toUInt32 >>> ((II 9).toUInt32 &&& Int32.toUInt32 31)).toInt32 = II (ush (lcg s0 (i + 1))) from (II_self _).symm]
        refine lv_bipush (v := II 41) C.1 C.2.1 dX7_allDrawn_56 (by decide) ?_
        refine x_irem C (by omega) ⟨by omega, by omega⟩ (by omega) ⟨by decide, by decide⟩ dX7_allDrawn_58 ?_
        refine lv_bipush (v := II (-20)) C.1 C.2.1 dX7_allDrawn_59 (by decide) ?_
        refine x_iadd C dX7_allDrawn_61 ?_
        refine pn3 C hw hS (4 + i) (by omega) (kd_p (by omega)) 3 (by decide) mn_172 rfl (x := ((ush (lcg s0 (i + 1))) % 41) + (-20)) ⟨by omega, by omega⟩ (svi st_s) (tyX3_ok 3 (by decide)) rfl rfl dX7_allDrawn_62 (fun H locs hw hS => ?_)
        have hw : Wo g (stM (stM M2 (61000 + i) (v i 3)) (1000 * (4 + i) + 3) (((ush (lcg s0 (i + 1))) % 41) + (-20))) H := hw
        have hB3 : BV (stM (stM M2 (61000 + i) (v i 3)) (1000 * (4 + i) + 3) (dm (lcg s0 (i + 1)))) n (upv (vD v s0 i) i 3 (dm (lcg s0 (i + 1)))) nt t E := (BV.fr3 h2 (fun m hm => st_n (by omega))).up (by omega) (by decide) (PI.upM (vD_PI hB.2.2.1) hdm)
        refine lv_iinc (v := II ((i : Int) + 1)) (lv' := [(3, .int (II ((i : Int) + 1))), (2, .int (II (lcg s0 (i + 1)))), (0, .ref (gA g 0)), (1, .int (II s0))]) C.1 C.2.1 dX7_allDrawn_65 hl (k := 3) rfl (II_add _ _) (by decide) rfl (fun ls hl => ?_)
        refine lv_goto (tgt := 4) C.1 C.2.1 dX7_allDrawn_68 (by decide) ?_
        exact ih4  (i + 1) (stM (stM M2 (61000 + i) (v i 3)) (1000 * (4 + i) + 3) (((ush (lcg s0 (i + 1))) % 41) + (-20))) (by omega) (by omega) (by rw [← vD_up]; exact hB3) (fun j hj => (st_n (by omega)).trans (stA h3 rfl j hj)) (fun m hm => by rw [st_n (by omega), st_n (by omega)]; exact h4 m (by omega)) (rg_toInt _) _ _ _ hw hS (lv_sub hl [2, 3, 1, 0] rfl)
  exact L4 _ 0 M (Nat.lt_succ_self _) (by omega) (by rw [vD_0]; exact hB) (fun _ h => absurd h (Nat.not_lt_zero _)) (fun _ _ => rfl) gs _ _ _ hw hS (lv_sub hl [2, 3, 1, 0] rfl)
