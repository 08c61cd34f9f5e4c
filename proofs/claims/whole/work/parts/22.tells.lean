/-- the first hour that is otherwise -/
def foS (f w : Nat → Int) : Int := if f 0 ≠ w 0 then 0 else if f 1 ≠ w 1 then 1 else if f 2 ≠ w 2 then 2 else if f 3 ≠ w 3 then 3 else if f 4 ≠ w 4 then 4 else if f 5 ≠ w 5 then 5 else -1
theorem foS_at {f w : Nat → Int} {h : Nat} (hh : h < 6) (h1 : ∀ x, x < h → f x = w x) (h2 : ¬ f h = w h) : foS f w = (h : Int) := by
  unfold foS
  rcases (show h = 0 ∨ h = 1 ∨ h = 2 ∨ h = 3 ∨ h = 4 ∨ h = 5 by omega) with rfl | rfl | rfl | rfl | rfl | rfl <;> simp_all
theorem foS_no {f w : Nat → Int} (h1 : ∀ x, x < 6 → f x = w x) : foS f w = -1 := by
  unfold foS
  simp [h1 0 (by decide), h1 1 (by decide), h1 2 (by decide), h1 3 (by decide), h1 4 (by decide), h1 5 (by decide)]
theorem foS_in (f w : Nat → Int) : -1 ≤ foS f w ∧ foS f w ≤ 5 := by unfold foS; (repeat' split) <;> omega
def ftF (v : Nat → Nat → Int) (n : Nat) (nt : Int) (E : Ev) (ho : Int) (w : Nat → Int) (q f : Nat) (x : Int) : Bool := decide (foS (fun h => reedS (upv v q f x) n nt E ho h) w = -1)
def ftT (v : Nat → Nat → Int) (n : Nat) (nt : Int) (EE : Nat → Ev) (ho : Int) (w : Nat → Int) (k : Nat) : Bool := decide (foS (fun h => reedS v n nt (EE k) ho h) w = -1)
def bitsS (F : Nat → Bool) : Nat → Int
  | 0 => 0
  | k + 1 => bitsS F k + (if F k then 2 ^ k else 0)
theorem bitsS_in (F : Nat → Bool) : ∀ k : Nat, 0 ≤ bitsS F k ∧ bitsS F k < 2 ^ k
  | 0 => by simp [bitsS]
  | k + 1 => by
    have h := bitsS_in F k
    have e : (2 : Int) ^ (k + 1) = 2 ^ k + 2 ^ k := by rw [Int.pow_succ]; omega
    rw [bitsS, e]
    split <;> omega
theorem or_t : ∀ k, k < 10 → ∀ b, b < 2 ^ k → (II (b : Nat) ||| (II 1 <<< (II (k : Nat) &&& 31))) = II ((b : Nat) + 2 ^ k : Int) := by decide +kernel
theorem or_bit {k : Nat} {b : Int} (hk : k < 10) (h0 : 0 ≤ b) (h1 : b < 2 ^ k) : (II b ||| (II 1 <<< (II (k : Int) &&& 31))) = II (b + 2 ^ k) := by
  obtain ⟨n, rfl⟩ : ∃ n : Nat, b = n := ⟨b.toNat, by omega⟩
  exact or_t k hk n (by exact_mod_cast h1)
theorem pow10 {k : Nat} (h : k < 10) : (2 : Int) ^ k ≤ 512 := by
  rcases (show k = 0 ∨ k = 1 ∨ k = 2 ∨ k = 3 ∨ k = 4 ∨ k = 5 ∨ k = 6 ∨ k = 7 ∨ k = 8 ∨ k = 9 by omega) with rfl | rfl | rfl | rfl | rfl | rfl | rfl | rfl | rfl | rfl <;> decide
theorem pow11 {k : Nat} (h : k ≤ 10) : (2 : Int) ^ k ≤ 1024 := by
  rcases (show k = 10 ∨ k < 10 by omega) with rfl | h
  · decide
  · have := pow10 h; omega
theorem BV.rl {M M' : Nat → Int} {n : Nat} {v : Nat → Nat → Int} {nt : Int} {t j : Nat} {E E' : Ev} (h : BV M n v nt t E) (hf : ∀ m, ¬ (scr m ∨ m = 2004) → M' m = M m) (hj : M' 2004 = (j : Int)) (h6 : j < 6) (hT : TxC M j E') : BV M' n v nt j E' := by
  obtain ⟨⟨h1, h2⟩, h3, h4, ⟨h5, h6'⟩, ⟨h7, h8⟩, h9⟩ := h
  exact ⟨⟨(hf _ (by unfold scr; omega)).trans h1, h2⟩, fun q hq f hf' => (hf _ (by unfold scr; omega)).trans (h3 q hq f hf'), h4, ⟨(hf _ (by unfold scr; omega)).trans h5, h6'⟩, ⟨hj, h6⟩, hT.fr (fun m hm => hf m (by unfold scr; omega))⟩
/-- the least of lo .. that fits -/
def leaS (F : Nat → Bool) (lo no : Int) : Nat → Int
  | 0 => no
  | k + 1 => if F 0 then lo else leaS (fun j => F (j + 1)) (lo + 1) no k
theorem leaS_at {no : Int} : ∀ {m : Nat} {F : Nat → Bool} {lo : Int} {j : Nat}, j < m → (∀ i, i < j → F i = false) → F j = true → leaS F lo no m = lo + j
  | m + 1, F, lo, j, hj, h1, h2 => by
    rw [leaS]
    cases j with
    | zero => rw [if_pos h2]; simp
    | succ j =>
      rw [if_neg (by rw [h1 0 (by omega)]; decide), leaS_at (j := j) (by omega) (fun i hi => h1 (i + 1) (by omega)) h2]
      omega
theorem leaS_no {no : Int} : ∀ {m : Nat} {F : Nat → Bool} {lo : Int}, (∀ i, i < m → F i = false) → leaS F lo no m = no
  | 0, _, _, _ => rfl
  | m + 1, F, lo, h => by
    rw [leaS, if_neg (by rw [h 0 (by omega)]; decide)]
    exact leaS_no (fun i hi => h (i + 1) (by omega))
def okF (f : Nat) (x : Int) : Prop := (f = 0 ∧ 0 ≤ x ∧ x ≤ 5) ∨ (f = 1 ∧ 0 ≤ x ∧ x ≤ 9) ∨ (f = 2 ∧ 0 ≤ x ∧ x ≤ 4) ∨ (f = 3 ∧ -20 ≤ x ∧ x ≤ 20) ∨ (f = 4 ∧ 0 ≤ x ∧ x ≤ 63)
theorem PI.okF {v : Nat → Nat → Int} {n q f : Nat} {x : Int} (h : PI v n) (hx : okF f x) : PI (upv v q f x) n := by
  rcases hx with ⟨rfl, hx⟩ | ⟨rfl, hx⟩ | ⟨rfl, hx⟩ | ⟨rfl, hx⟩ | ⟨rfl, hx⟩
  · exact h.upK hx
  · exact h.upN hx
  · exact h.up (by omega)
  · exact h.upM hx
  · exact h.upO hx
def okTl (n : Nat) (s ho q w : Int) : Bool := decide ((0 ≤ s ∧ s < 4) ∧ (0 ≤ ho ∧ ho ≤ 4) ∧ (0 ≤ w ∧ w ≤ 8) ∧ (w ≤ 1 ∨ (0 ≤ q ∧ q < n)))
def r_tells (v : Nat → Nat → Int) (n : Nat) (nt : Int) (t : Nat) (X : Txt) (Sh : Sht) (s ho q w : Int) : Int := if okTl n s ho q w = false then -2 else if Sh.1 s.toNat = -1 then -11 else if Sh.2.1 s.toNat ≠ 6 then -2 else
  if w = 0 then foS (fun h => reedS v n nt (X.2.1 t) ho h) (Sh.2.2 s.toNat) else if w = 1 then bitsS (ftT v n nt X.2.1 ho (Sh.2.2 s.toNat)) X.1 else
  if w = 2 then bitsS (fun j => ftF v n nt (X.2.1 t) ho (Sh.2.2 s.toNat) q.toNat 0 (0 + (j : Int))) 6 else if w = 3 then bitsS (fun j => ftF v n nt (X.2.1 t) ho (Sh.2.2 s.toNat) q.toNat 1 (0 + (j : Int))) 10 else if w = 4 then bitsS (fun j => ftF v n nt (X.2.1 t) ho (Sh.2.2 s.toNat) q.toNat 2 (0 + (j : Int))) 5 else
  if w = 5 then cnt (fun j => ftF v n nt (X.2.1 t) ho (Sh.2.2 s.toNat) q.toNat 3 (-20 + (j : Int))) 41 else if w = 6 then leaS (fun j => ftF v n nt (X.2.1 t) ho (Sh.2.2 s.toNat) q.toNat 3 (-20 + (j : Int))) (-20) (-100) 41 else
  if w = 7 then cnt (fun j => ftF v n nt (X.2.1 t) ho (Sh.2.2 s.toNat) q.toNat 4 (0 + (j : Int))) 64 else leaS (fun j => ftF v n nt (X.2.1 t) ho (Sh.2.2 s.toNat) q.toNat 4 (0 + (j : Int))) 0 (-1) 64
set_option maxHeartbeats 4000000 in
set_option maxRecDepth 100000 in
theorem c_X7_firstOther (l : Launch) (g : Gm) (M : Nat → Int) (hF : LvF g) (n : Nat) (v : Nat → Nat → Int) (nt : Int) (t : Nat) (E : Ev) (hB : BV M n v nt t E) (k : Nat) (hk : k < 4) (rw : Nat → Int) (hrw : ∀ h, h < 6 → M (1000 * (63 + 2 * k) + h) = rw h) (ho : Int) (hho : rg ho) : CI l ({ cls := "RatedBySighs", name := "firstOther", desc := "(LRatedBySighs$Sheet;I)I" } : Jvm.MethodName) cX7_firstOther 4 .int (rmm 4 99) g M [.ref (gA g 0), .ref (gA g (62 + 2 * k)), .int (II ho)] (fun r M' => r = foS (fun h => reedS v n nt E ho h) rw ∧ (∀ m, ¬ scr m → M' m = M m)) := by
  refine c_start (by decide) (Nat.le_of_ble_eq_true rfl) (fun p e s m below meth c ls C hr hlk hml hw hS hl => ?_)
  have hl : lv_has ls 4 [(0, .ref (gA g 0)), (1, .ref (gA g (62 + 2 * k))), (2, .int (II ho))] := hl
  generalize ([.ref (gA g 0), .ref (gA g (62 + 2 * k)), .int (II ho)] : List Value).toArray = args at C ⊢
  generalize hQQ : MQ below (postI g (fun r M' => r = foS (fun h => reedS v n nt E ho h) rw ∧ (∀ m, ¬ scr m → M' m = M m))) args s 0 0 (ar g) = QQ
  have g_M := hw.rg
  have hN : gN g = 84 := hF.1
  refine lv_aload_n C.1 C.2.1 dX7_firstOther_0 rfl (lv_at hl 0 rfl) ?_
  refine g7 C hw 0 (by omega) rfl 0 (by decide) mw_480 (svr (hF.2 _)) dX7_firstOther_1 ?_
  refine lv_iload_n C.1 C.2.1 dX7_firstOther_4 rfl (lv_at hl 2 rfl) ?_
  refine x_ci (x_runVN (n := 1) C hw hS hml hl.1 1 2 (by omega) rfl (by decide) rfl (c_X2_play l g M hF n v nt t E hB ho hho) mn_548 mw_550 mw_21 mw_118 mw_551 rfl rfl (by decide +kernel) ⟨Nat.le_of_ble_eq_true rfl, Nat.le_of_ble_eq_true rfl⟩ rfl rfl (Nat.le_of_ble_eq_true rfl) dX7_firstOther_5 ⟨Nat.zero_le _, Nat.zero_le _⟩) hS (fun r5 M5 H locs hr5 hp hw hS => ?_)
  obtain ⟨er5, h5a, h5b, h5c, h5f⟩ := hp
  have g_M5 := hw.rg
  rw [er5] at hr5 ⊢
  refine lv_pop C.1 C.2.1 dX7_firstOther_8 rfl ?_
  refine lv_iconst (v := II 0) C.1 C.2.1 dX7_firstOther_9 rfl ?_
  refine lv_istore_n (lv' := [(3, .int (II 0)), (0, .ref (gA g 0)), (1, .ref (gA g (62 + 2 * k))), (2, .int (II ho))]) C.1 C.2.1 dX7_firstOther_10 rfl hl (by decide) rfl (fun ls hl => ?_)
  have L11 : ∀ (f1 : Nat) (h : Nat), (6 - h) < f1 → (h ≤ 6) → (∀ x, x < h → reedS v n nt E ho x = rw x) → ∀ (H : Heap) (locs : List Loc) (ls : Array Slot), Wo g M5 H → va_S (ar g) s.heap H locs → lv_has ls 4 [(0, .ref (gA g 0)), (1, .ref (gA g (62 + 2 * k))), (2, .int (II ho)), (3, .int (II (h : Int)))] → W p l e (rmm 4 99) s m args below meth c H locs 0 0 QQ (F0 m 11 ls []) := by
    intro f1
    induction f1 with
    | zero => intro h hmu; exact absurd hmu (Nat.not_lt_zero _)
    | succ f1 ih =>
      intro h hmu h1 h2 H locs ls hw hS hl
      have ih11 := ih
      refine lv_iload_n C.1 C.2.1 dX7_firstOther_11 rfl (lv_at hl 3 rfl) ?_
      refine lv_bipush (v := II 6) C.1 C.2.1 dX7_firstOther_12 (by decide) ?_
      refine x_icmp_ge (tgt := 43) C ⟨by omega, by omega⟩ ⟨by decide, by decide⟩ dX7_firstOther_14 (by decide) (fun c14 => ?_) (fun c14 => ?_)
      · refine lv_iconst (v := II (-1)) C.1 C.2.1 dX7_firstOther_43 rfl ?_
        subst hQQ; exact x_ireturn C hr hlk hw hS ⟨by decide, by decide⟩ rfl ⟨(foS_no (fun x hx => h2 x (by omega))).symm, h5f⟩ dX7_firstOther_44
      · refine lv_aload_n C.1 C.2.1 dX7_firstOther_17 rfl (lv_at hl 0 rfl) ?_
        refine g7 C hw 0 (by omega) rfl 0 (by decide) mw_480 (svr (hF.2 _)) dX7_firstOther_18 ?_
        refine gn2 C hw 1 (by omega) rfl 4 (by decide) mn_247 (svr (hF.2 _)) dX7_firstOther_21 ?_
        refine lv_iload_n C.1 C.2.1 dX7_firstOther_24 rfl (lv_at hl 3 rfl) ?_
        refine x_iaload (L := 6) C hw 44 (by omega) rfl rfl (by omega) (by omega) (by decide) (x := reedS v n nt E ho h) (h5c h (by omega)) dX7_firstOther_25 ?_
        refine lv_aload_n C.1 C.2.1 dX7_firstOther_26 rfl (lv_at hl 1 rfl) ?_
        refine gn5 C hw (62 + 2 * k) (by omega) (kd_h (by omega)) 0 (by decide) mn_329 (svr (rRow hF _ (by omega))) dX7_firstOther_27 ?_
        refine lv_iload_n C.1 C.2.1 dX7_firstOther_30 rfl (lv_at hl 3 rfl) ?_
        refine x_iaload (L := 40) C hw (63 + 2 * k) (by omega) (kd_r (by omega)) (ln_r (by omega)) (by omega) (by omega) (by decide) (x := rw h) ((h5f _ (by unfold scr; omega)).trans (hrw h (by omega))) dX7_firstOther_31 ?_
        refine x_icmp_eq (tgt := 37) C ⟨by have := g_M5 (44000 + h); have := (h5c h (by omega)); omega, by have := g_M5 (44000 + h); have := (h5c h (by omega)); omega⟩ ⟨by have := g_M5 (1000 * (63 + 2 * k) + h); have := ((h5f _ (by unfold scr; omega)).trans (hrw h (by omega))); omega, by have := g_M5 (1000 * (63 + 2 * k) + h); have := ((h5f _ (by unfold scr; omega)).trans (hrw h (by omega))); omega⟩ dX7_firstOther_32 (by decide) (fun c32 => ?_) (fun c32 => ?_)
        · refine lv_iinc (v := II ((h : Int) + 1)) (lv' := [(3, .int (II ((h : Int) + 1))), (0, .ref (gA g 0)), (1, .ref (gA g (62 + 2 * k))), (2, .int (II ho))]) C.1 C.2.1 dX7_firstOther_37 hl (k := 3) rfl (II_add _ _) (by decide) rfl (fun ls hl => ?_)
          refine lv_goto (tgt := 11) C.1 C.2.1 dX7_firstOther_40 (by decide) ?_
          exact ih11  (h + 1) (by omega) (by omega) (fun x hx => by by_cases e : x = h <;> first | (rw [e]; exact c32) | exact h2 x (by omega)) _ _ _ hw hS (lv_sub hl [1, 2, 3, 0] rfl)
        · refine lv_iload_n C.1 C.2.1 dX7_firstOther_35 rfl (lv_at hl 3 rfl) ?_
          subst hQQ; exact x_ireturn C hr hlk hw hS ⟨by omega, by omega⟩ rfl ⟨(foS_at (by omega) h2 c32).symm, h5f⟩ dX7_firstOther_36
  exact L11 _ 0 (Nat.lt_succ_self _) (by omega) (fun _ h => absurd h (Nat.not_lt_zero _)) _ _ _ hw hS (lv_sub hl [1, 2, 3, 0] rfl)

set_option maxHeartbeats 4000000 in
set_option maxRecDepth 100000 in
theorem c_X7_wouldFit (l : Launch) (g : Gm) (M : Nat → Int) (hF : LvF g) (n : Nat) (v : Nat → Nat → Int) (nt : Int) (t : Nat) (E : Ev) (hB : BV M n v nt t E) (k : Nat) (hk : k < 4) (rw : Nat → Int) (hrw : ∀ h, h < 6 → M (1000 * (63 + 2 * k) + h) = rw h) (ho : Int) (hho : rg ho) (i : Nat) (hi : i < n) (w : Int) (hw0 : rg w) (f : Nat) (hf : slotK w = f ∧ f < 5) (x : Int) (hx : rg x) (hok : okF f x) : CI l ({ cls := "RatedBySighs", name := "wouldFit", desc := "(LRatedBySighs$Sheet;IIII)Z" } : Jvm.MethodName) cX7_wouldFit 9 .boolean (rmm 5 122) g M [.ref (gA g 0), .ref (gA g (62 + 2 * k)), .int (II ho), .int (II (i : Int)), .int (II w), .int (II x)] (fun r M' => (∀ m, ¬ scr m → M' m = M m) ∧ ((r = 1 ∧ (ftF v n nt E ho rw i f x = true)) ∨ (r = 0 ∧ (ftF v n nt E ho rw i f x = false)))) := by
  refine c_start (by decide) (Nat.le_of_ble_eq_true rfl) (fun p e s m below meth c ls C hr hlk hml hw hS hl => ?_)
  have hl : lv_has ls 9 [(0, .ref (gA g 0)), (1, .ref (gA g (62 + 2 * k))), (2, .int (II ho)), (3, .int (II (i : Int))), (4, .int (II w)), (5, .int (II x))] := hl
  generalize ([.ref (gA g 0), .ref (gA g (62 + 2 * k)), .int (II ho), .int (II (i : Int)), .int (II w), .int (II x)] : List Value).toArray = args at C ⊢
  generalize hQQ : MQ below (postI g (fun r M' => (∀ m, ¬ scr m → M' m = M m) ∧ ((r = 1 ∧ (ftF v n nt E ho rw i f x = true)) ∨ (r = 0 ∧ (ftF v n nt E ho rw i f x = false))))) args s 0 0 (ar g) = QQ
  have g_M := hw.rg
  have hN : gN g = 84 := hF.1
  have hn2 := hB.1.2
  refine lv_aload_n C.1 C.2.1 dX7_wouldFit_0 rfl (lv_at hl 0 rfl) ?_
  refine g7 C hw 0 (by omega) rfl 1 (by decide) mw_481 (svr (hF.2 _)) dX7_wouldFit_1 ?_
  refine gn1 C hw 2 (by omega) rfl 0 (by decide) mn_187 (svr (hF.2 _)) dX7_wouldFit_4 ?_
  refine lv_iload_n C.1 C.2.1 dX7_wouldFit_7 rfl (lv_at hl 3 rfl) ?_
  refine x_aaload (L := 8) C hw 3 (by omega) 11 rfl (by decide) rfl (by omega) (by omega) (by decide) (rP hF i (by omega)) dX7_wouldFit_8 ?_
  refine lv_astore (lv' := [(6, .ref (gA g (4 + i))), (0, .ref (gA g 0)), (1, .ref (gA g (62 + 2 * k))), (2, .int (II ho)), (3, .int (II (i : Int))), (4, .int (II w)), (5, .int (II x))]) C.1 C.2.1 dX7_wouldFit_9 hl (by decide) rfl (fun ls hl => ?_)
  refine lv_aload C.1 C.2.1 dX7_wouldFit_11 (lv_at hl 0 rfl) ?_
  refine lv_iload C.1 C.2.1 dX7_wouldFit_13 (lv_at hl 5 rfl) ?_
  refine x_ci (x_runVN (n := 1) C hw hS hml hl.1 (4 + i) 3 (by omega) (kd_p (by omega)) (by decide) rfl (c_X3_partF l g M (4 + i) (by omega) (kd_p (by omega)) w hw0 f hf.1) mn_524 mw_526 mw_17 mw_120 mw_527 rfl rfl (by decide +kernel) ⟨Nat.le_of_ble_eq_true rfl, Nat.le_of_ble_eq_true rfl⟩ rfl rfl (Nat.le_of_ble_eq_true rfl) dX7_wouldFit_15 ⟨Nat.zero_le _, Nat.zero_le _⟩) hS (fun r15 M15 H locs hr15 hp hw hS => ?_)
  obtain ⟨em15, er15⟩ := hp
  have hw : Wo g M H := em15 ▸ hw
  rw [er15] at hr15 ⊢
  refine lv_istore (lv' := [(7, .int (II (M (1000 * (4 + i) + f)))), (6, .ref (gA g (4 + i))), (0, .ref (gA g 0)), (1, .ref (gA g (62 + 2 * k))), (2, .int (II ho)), (3, .int (II (i : Int))), (4, .int (II w)), (5, .int (II x))]) C.1 C.2.1 dX7_wouldFit_18 hl (by decide) rfl (fun ls hl => ?_)
  refine lv_aload C.1 C.2.1 dX7_wouldFit_20 (lv_at hl 1 rfl) ?_
  refine lv_iload C.1 C.2.1 dX7_wouldFit_22 (lv_at hl 6 rfl) ?_
  refine lv_iload C.1 C.2.1 dX7_wouldFit_24 (lv_at hl 7 rfl) ?_
  refine x_cv (x_runVN (n := 2) C hw hS hml hl.1 (4 + i) 3 (by omega) (kd_p (by omega)) (by decide) rfl (c_X3_becomeF l g M (4 + i) (by omega) (kd_p (by omega)) w hw0 f hf.1 x hx) mn_528 mw_530 mw_18 mw_120 mw_531 rfl rfl (by decide +kernel) ⟨Nat.le_of_ble_eq_true rfl, Nat.le_of_ble_eq_true rfl⟩ rfl rfl (Nat.le_of_ble_eq_true rfl) dX7_wouldFit_26 ⟨Nat.zero_le _, Nat.zero_le _⟩) hS (fun M26 H locs hp hw hS => ?_)
  have em26 := hp
  have hw : Wo g (stM M (1000 * (4 + i) + f) x) H := em26 ▸ hw
  refine lv_aload_n C.1 C.2.1 dX7_wouldFit_29 rfl (lv_at hl 2 rfl) ?_
  refine lv_aload_n C.1 C.2.1 dX7_wouldFit_30 rfl (lv_at hl 3 rfl) ?_
  refine lv_iload_n C.1 C.2.1 dX7_wouldFit_31 rfl (lv_at hl 4 rfl) ?_
  refine x_ci (x_runV (n := 2) C hw hS hml hl.1 0 7 (by omega) rfl (by decide) rfl (c_X7_firstOther l g (stM M (1000 * (4 + i) + f) x) hF n (upv v i f x) nt t E (hB.up hi hf.2 (hB.2.2.1.okF hok)) k hk rw (fun h hh => (st_n (by omega)).trans (hrw h hh)) ho hho) mw_704 mw_706 mw_39 mw_117 mw_707 rfl rfl (by decide +kernel) ⟨Nat.le_of_ble_eq_true rfl, Nat.le_of_ble_eq_true rfl⟩ rfl rfl (Nat.le_of_ble_eq_true rfl) dX7_wouldFit_32 ⟨Nat.zero_le _, Nat.zero_le _⟩) hS (fun r32 M32 H locs hr32 hp hw hS => ?_)
  obtain ⟨er32, h32f⟩ := hp
  have g_M32 := hw.rg
  rw [er32] at hr32 ⊢
  have J44 : ∀ (y : Int), ((y = 1 ∧ ftF v n nt E ho rw i f x = true) ∨ (y = 0 ∧ ftF v n nt E ho rw i f x = false)) → ∀ (H : Heap) (locs : List Loc) (ls : Array Slot), Wo g M32 H → va_S (ar g) s.heap H locs → lv_has ls 9 [(0, .ref (gA g 0)), (1, .ref (gA g (62 + 2 * k))), (2, .int (II ho)), (3, .int (II (i : Int))), (4, .int (II w)), (5, .int (II x)), (6, .ref (gA g (4 + i))), (7, .int (II (M (1000 * (4 + i) + f))))] → W p l e (rmm 5 122) s m args below meth c H locs 0 0 QQ (F0 m 44 ls [.int (II y)]) := by
    intro y hy H locs ls hw hS hl
    have hy01 : y = 0 ∨ y = 1 := by omega
    refine lv_istore (lv' := [(8, .int (II y)), (0, .ref (gA g 0)), (1, .ref (gA g (62 + 2 * k))), (2, .int (II ho)), (3, .int (II (i : Int))), (4, .int (II w)), (5, .int (II x)), (6, .ref (gA g (4 + i))), (7, .int (II (M (1000 * (4 + i) + f))))]) C.1 C.2.1 dX7_wouldFit_44 hl (by decide) rfl (fun ls hl => ?_)
    refine lv_aload C.1 C.2.1 dX7_wouldFit_46 (lv_at hl 7 rfl) ?_
    refine lv_iload C.1 C.2.1 dX7_wouldFit_48 (lv_at hl 5 rfl) ?_
    refine lv_iload C.1 C.2.1 dX7_wouldFit_50 (lv_at hl 8 rfl) ?_
    refine x_cv (x_runVN (n := 2) C hw hS hml hl.1 (4 + i) 3 (by omega) (kd_p (by omega)) (by decide) rfl (c_X3_becomeF l g M32 (4 + i) (by omega) (kd_p (by omega)) w hw0 f hf.1 (M (1000 * (4 + i) + f)) hr15) mn_528 mw_530 mw_18 mw_120 mw_531 rfl rfl (by decide +kernel) ⟨Nat.le_of_ble_eq_true rfl, Nat.le_of_ble_eq_true rfl⟩ rfl rfl (Nat.le_of_ble_eq_true rfl) dX7_wouldFit_52 ⟨Nat.zero_le _, Nat.zero_le _⟩) hS (fun M52 H locs hp hw hS => ?_)
    have em52 := hp
    have hw : Wo g (stM M32 (1000 * (4 + i) + f) (M (1000 * (4 + i) + f))) H := em52 ▸ hw
    refine lv_iload C.1 C.2.1 dX7_wouldFit_55 (lv_at hl 0 rfl) ?_
    have hnar : narrow .boolean (.int (II y)) = .int (II y) := by rcases hy01 with rfl | rfl <;> decide
    subst hQQ; exact x_ireturn C hr hlk hw hS ⟨by omega, by omega⟩ hnar ⟨fun m hm => by
    by_cases e : m = 1000 * (4 + i) + f
    · subst e; exact st_s
    · exact (st_n e).trans ((h32f m hm).trans (st_n e)), hy⟩ dX7_wouldFit_57
  refine lv_iconst (v := II (-1)) C.1 C.2.1 dX7_wouldFit_35 rfl ?_
  refine x_icmp_ne (tgt := 43) C hr32 ⟨by decide, by decide⟩ dX7_wouldFit_36 (by decide) (fun c36 => ?_) (fun c36 => ?_)
  · refine lv_iconst (v := II 0) C.1 C.2.1 dX7_wouldFit_43 rfl ?_
    exact J44 0 (by first | exact Or.inl ⟨rfl, decide_eq_true c36⟩ | exact Or.inr ⟨rfl, decide_eq_false c36⟩) _ _ _ hw hS (lv_sub hl [2, 3, 4, 5, 6, 7, 1, 0] rfl)
  · refine lv_iconst (v := II 1) C.1 C.2.1 dX7_wouldFit_39 rfl ?_
    refine lv_goto (tgt := 44) C.1 C.2.1 dX7_wouldFit_40 (by decide) ?_
    exact J44 1 (by first | exact Or.inl ⟨rfl, decide_eq_true c36⟩ | exact Or.inr ⟨rfl, decide_eq_false c36⟩) _ _ _ hw hS (lv_sub hl [2, 3, 4, 5, 6, 7, 1, 0] rfl)

set_option maxHeartbeats 4000000 in
set_option maxRecDepth 100000 in
theorem c_X7_bitsThatFit (l : Launch) (g : Gm) (M : Nat → Int) (hF : LvF g) (n : Nat) (v : Nat → Nat → Int) (nt : Int) (t : Nat) (E : Ev) (hB : BV M n v nt t E) (k : Nat) (hk : k < 4) (rw : Nat → Int) (hrw : ∀ h, h < 6 → M (1000 * (63 + 2 * k) + h) = rw h) (ho : Int) (hho : rg ho) (i : Nat) (hi : i < n) (w : Nat) (hw0 : w < 6) (f : Nat) (hf : slotK (w : Int) = f ∧ f < 5) (lo : Int) (mm : Nat) (hlo : loT w = lo ∧ hiT w = lo + (mm : Int) - 1 ∧ mm ≤ 64 ∧ -20 ≤ lo ∧ lo ≤ 0) (hok : ∀ j, j < mm → okF f (lo + (j : Int))) (hb10 : mm ≤ 10 ∧ lo = 0) : CI l ({ cls := "RatedBySighs", name := "bitsThatFit", desc := "(LRatedBySighs$Sheet;III)I" } : Jvm.MethodName) cX7_bitsThatFit 7 .int (rmm 6 150) g M [.ref (gA g 0), .ref (gA g (62 + 2 * k)), .int (II ho), .int (II (i : Int)), .int (II (w : Int))] (fun r M' => r = bitsS (fun j => ftF v n nt E ho rw i f (lo + (j : Int))) mm ∧ (∀ m, ¬ scr m → M' m = M m)) := by
  refine c_start (by decide) (Nat.le_of_ble_eq_true rfl) (fun p e s m below meth c ls C hr hlk hml hw hS hl => ?_)
  have hl : lv_has ls 7 [(0, .ref (gA g 0)), (1, .ref (gA g (62 + 2 * k))), (2, .int (II ho)), (3, .int (II (i : Int))), (4, .int (II (w : Int)))] := hl
  generalize ([.ref (gA g 0), .ref (gA g (62 + 2 * k)), .int (II ho), .int (II (i : Int)), .int (II (w : Int))] : List Value).toArray = args at C ⊢
  generalize hQQ : MQ below (postI g (fun r M' => r = bitsS (fun j => ftF v n nt E ho rw i f (lo + (j : Int))) mm ∧ (∀ m, ¬ scr m → M' m = M m))) args s 0 0 (ar g) = QQ
  have g_M := hw.rg
  have hN : gN g = 84 := hF.1
  have hn2 := hB.1.2
  refine lv_iconst (v := II 0) C.1 C.2.1 dX7_bitsThatFit_0 rfl ?_
  refine lv_istore (lv' := [(5, .int (II 0)), (0, .ref (gA g 0)), (1, .ref (gA g (62 + 2 * k))), (2, .int (II ho)), (3, .int (II (i : Int))), (4, .int (II (w : Int)))]) C.1 C.2.1 dX7_bitsThatFit_1 hl (by decide) rfl (fun ls hl => ?_)
  refine x_gets C hS 0 (by decide) mw_516 dX7_bitsThatFit_3 ?_
  refine lv_iload C.1 C.2.1 dX7_bitsThatFit_6 (lv_at hl 5 rfl) ?_
  refine x_sald C hS 0 (by decide) (by omega) (by omega) (x := lo) hlo.1 dX7_bitsThatFit_8 ?_
  refine lv_istore (lv' := [(6, .int (II lo)), (5, .int (II 0)), (0, .ref (gA g 0)), (1, .ref (gA g (62 + 2 * k))), (2, .int (II ho)), (3, .int (II (i : Int))), (4, .int (II (w : Int)))]) C.1 C.2.1 dX7_bitsThatFit_9 hl (by decide) rfl (fun ls hl => ?_)
  have L11 : ∀ (f1 : Nat) (j : Nat) (M2 : Nat → Int), (mm - j) < f1 → (j ≤ mm) → (∀ m, ¬ scr m → M2 m = M m) → ∀ (H : Heap) (locs : List Loc) (ls : Array Slot), Wo g M2 H → va_S (ar g) s.heap H locs → lv_has ls 7 [(0, .ref (gA g 0)), (1, .ref (gA g (62 + 2 * k))), (2, .int (II ho)), (3, .int (II (i : Int))), (4, .int (II (w : Int))), (5, .int (II (bitsS (fun j => ftF v n nt E ho rw i f (lo + (j : Int))) j))), (6, .int (II (lo + (j : Int))))] → W p l e (rmm 6 150) s m args below meth c H locs 0 0 QQ (F0 m 11 ls []) := by
    intro f1
    induction f1 with
    | zero => intro j M2 hmu; exact absurd hmu (Nat.not_lt_zero _)
    | succ f1 ih =>
      intro j M2 hmu h1 hfr H locs ls hw hS hl
      have ih11 := ih
      have g_M2 := hw.rg
      have hbi := bitsS_in (fun j => ftF v n nt E ho rw i f (lo + (j : Int))) j
      have hp8 := pow11 (show j ≤ 10 by omega)
      refine lv_iload C.1 C.2.1 dX7_bitsThatFit_11 (lv_at hl 6 rfl) ?_
      refine x_gets C hS 1 (by decide) mw_518 dX7_bitsThatFit_13 ?_
      refine lv_iload C.1 C.2.1 dX7_bitsThatFit_16 (lv_at hl 4 rfl) ?_
      refine x_sald C hS 1 (by decide) (by omega) (by omega) (x := lo + (mm : Int) - 1) hlo.2.1 dX7_bitsThatFit_18 ?_
      refine x_icmp_gt (tgt := 51) C ⟨by omega, by omega⟩ ⟨by omega, by omega⟩ dX7_bitsThatFit_19 (by decide) (fun c19 => ?_) (fun c19 => ?_)
      · refine lv_iload C.1 C.2.1 dX7_bitsThatFit_51 (lv_at hl 5 rfl) ?_
        subst hQQ; exact x_ireturn C hr hlk hw hS ⟨by omega, by omega⟩ rfl (by have e : j = mm := (by omega); subst e; exact ⟨rfl, hfr⟩) dX7_bitsThatFit_53
      · have hp9 := pow10 (show j < 10 by omega)
        refine lv_aload_n C.1 C.2.1 dX7_bitsThatFit_22 rfl (lv_at hl 0 rfl) ?_
        refine lv_aload_n C.1 C.2.1 dX7_bitsThatFit_23 rfl (lv_at hl 1 rfl) ?_
        refine lv_iload_n C.1 C.2.1 dX7_bitsThatFit_24 rfl (lv_at hl 2 rfl) ?_
        refine lv_iload_n C.1 C.2.1 dX7_bitsThatFit_25 rfl (lv_at hl 3 rfl) ?_
        refine lv_iload C.1 C.2.1 dX7_bitsThatFit_26 (lv_at hl 4 rfl) ?_
        refine lv_iload C.1 C.2.1 dX7_bitsThatFit_28 (lv_at hl 6 rfl) ?_
        have J45 : ∀ (y : Int) (M5 : Nat → Int), (y = bitsS (fun j => ftF v n nt E ho rw i f (lo + (j : Int))) (j + 1)) → (∀ m, ¬ scr m → M5 m = M2 m) → ∀ (H : Heap) (locs : List Loc) (ls : Array Slot), Wo g M5 H → va_S (ar g) s.heap H locs → lv_has ls 7 [(0, .ref (gA g 0)), (1, .ref (gA g (62 + 2 * k))), (2, .int (II ho)), (3, .int (II (i : Int))), (4, .int (II (w : Int))), (5, .int (II y)), (6, .int (II (lo + (j : Int))))] → W p l e (rmm 6 150) s m args below meth c H locs 0 0 QQ (F0 m 45 ls []) := by
          intro y M5 hy h30f H locs ls hw hS hl
          have g_M5 := hw.rg
          subst hy
          refine lv_iinc (v := II (lo + (j : Int) + 1)) (lv' := [(6, .int (II (lo + (j : Int) + 1))), (0, .ref (gA g 0)), (1, .ref (gA g (62 + 2 * k))), (2, .int (II ho)), (3, .int (II (i : Int))), (4, .int (II (w : Int))), (5, .int (II (bitsS (fun j => ftF v n nt E ho rw i f (lo + (j : Int))) (j + 1))))]) C.1 C.2.1 dX7_bitsThatFit_45 hl (k := 6) rfl (II_add _ _) (by decide) rfl (fun ls hl => ?_)
          refine lv_goto (tgt := 11) C.1 C.2.1 dX7_bitsThatFit_48 (by decide) ?_
          have hl := hl
          rw [show lo + (j : Int) + 1 = lo + ((j + 1 : Nat) : Int) by omega] at hl
          exact ih11  (j + 1) M5 (by omega) (by omega) (fun m hm => (h30f m hm).trans (hfr m hm)) _ _ _ hw hS (lv_sub hl [1, 2, 3, 4, 5, 6, 0] rfl)
        refine x_ci (x_runV (n := 5) C hw hS hml hl.1 0 7 (by omega) rfl (by decide) rfl (c_X7_wouldFit l g M2 hF n v nt t E (hB.fr hfr) k hk rw (fun h hh => (hfr _ (by unfold scr; omega)).trans (hrw h hh)) ho hho i (by first | assumption | omega | exact ⟨by omega, by omega⟩ | decide) (w : Int) ⟨by omega, by omega⟩ f hf (lo + (j : Int)) ⟨by omega, by omega⟩ (hok j (by omega))) mw_716 mw_718 mw_42 mw_117 mw_719 rfl rfl (by decide +kernel) ⟨Nat.le_of_ble_eq_true rfl, Nat.le_of_ble_eq_true rfl⟩ rfl rfl (Nat.le_of_ble_eq_true rfl) dX7_bitsThatFit_30 ⟨Nat.zero_le _, Nat.zero_le _⟩) hS (fun r30 M30 H locs hr30 hp hw hS => ?_)
        rcases hp with ⟨h30f, (⟨er30, h30b⟩ | ⟨er30, h30b⟩)⟩
        · have g_M30 := hw.rg
          rw [er30]
          refine x_if_eq (tgt := 45) C ⟨by decide, by decide⟩ dX7_bitsThatFit_33 (by decide) (fun h => absurd h (by decide)) (fun _ => ?_)
          refine lv_iload C.1 C.2.1 dX7_bitsThatFit_36 (lv_at hl 5 rfl) ?_
          refine lv_iconst (v := II 1) C.1 C.2.1 dX7_bitsThatFit_38 rfl ?_
          refine lv_iload C.1 C.2.1 dX7_bitsThatFit_39 (lv_at hl 6 rfl) ?_
          refine lv_ishl C.1 C.2.1 dX7_bitsThatFit_41 ?_
          refine lv_ior C.1 C.2.1 dX7_bitsThatFit_42 ?_
          rw [show II (lo + (j : Int)) = II (j : Int) by rw [hb10.2]; congr 1; omega, or_bit (by omega) hbi.1 hbi.2]
          refine lv_istore (lv' := [(5, .int (II (bitsS (fun j => ftF v n nt E ho rw i f (lo + (j : Int))) j + 2 ^ j))), (0, .ref (gA g 0)), (1, .ref (gA g (62 + 2 * k))), (2, .int (II ho)), (3, .int (II (i : Int))), (4, .int (II (w : Int))), (6, .int (II (lo + (j : Int))))]) C.1 C.2.1 dX7_bitsThatFit_43 hl (by decide) rfl (fun ls hl => ?_)
          exact J45 (bitsS (fun j => ftF v n nt E ho rw i f (lo + (j : Int))) j + 2 ^ j) M30 (by rw [bitsS]; first | (rw [if_pos h30b]; done) | (rw [if_neg (by rw [h30b]; decide)]; omega)) h30f _ _ _ hw hS (lv_sub hl [1, 2, 3, 4, 5, 0, 6] rfl)
        · have g_M30 := hw.rg
          rw [er30]
          refine x_if_eq (tgt := 45) C ⟨by decide, by decide⟩ dX7_bitsThatFit_33 (by decide) (fun _ => ?_) (fun h => absurd h (by decide))
          exact J45 (bitsS (fun j => ftF v n nt E ho rw i f (lo + (j : Int))) j) M30 (by rw [bitsS]; first | (rw [if_pos h30b]; done) | (rw [if_neg (by rw [h30b]; decide)]; omega)) h30f _ _ _ hw hS (lv_sub hl [0, 1, 2, 3, 4, 5, 6] rfl)
  have hl : lv_has ls 7 [(6, .int (II (lo + ((0 : Nat) : Int)))), (5, .int (II 0)), (0, .ref (gA g 0)), (1, .ref (gA g (62 + 2 * k))), (2, .int (II ho)), (3, .int (II (i : Int))), (4, .int (II (w : Int)))] := by rw [show lo + ((0 : Nat) : Int) = lo by omega]; exact hl
  exact L11 _ 0 M (Nat.lt_succ_self _) (by omega) (fun _ _ => rfl) _ _ _ hw hS (lv_sub hl [2, 3, 4, 5, 6, 1, 0] rfl)

set_option maxHeartbeats 4000000 in
set_option maxRecDepth 100000 in
theorem c_X7_howManyFit (l : Launch) (g : Gm) (M : Nat → Int) (hF : LvF g) (n : Nat) (v : Nat → Nat → Int) (nt : Int) (t : Nat) (E : Ev) (hB : BV M n v nt t E) (k : Nat) (hk : k < 4) (rw : Nat → Int) (hrw : ∀ h, h < 6 → M (1000 * (63 + 2 * k) + h) = rw h) (ho : Int) (hho : rg ho) (i : Nat) (hi : i < n) (w : Nat) (hw0 : w < 6) (f : Nat) (hf : slotK (w : Int) = f ∧ f < 5) (lo : Int) (mm : Nat) (hlo : loT w = lo ∧ hiT w = lo + (mm : Int) - 1 ∧ mm ≤ 64 ∧ -20 ≤ lo ∧ lo ≤ 0) (hok : ∀ j, j < mm → okF f (lo + (j : Int))) : CI l ({ cls := "RatedBySighs", name := "howManyFit", desc := "(LRatedBySighs$Sheet;III)I" } : Jvm.MethodName) cX7_howManyFit 7 .int (rmm 6 150) g M [.ref (gA g 0), .ref (gA g (62 + 2 * k)), .int (II ho), .int (II (i : Int)), .int (II (w : Int))] (fun r M' => r = cnt (fun j => ftF v n nt E ho rw i f (lo + (j : Int))) mm ∧ (∀ m, ¬ scr m → M' m = M m)) := by
  refine c_start (by decide) (Nat.le_of_ble_eq_true rfl) (fun p e s m below meth c ls C hr hlk hml hw hS hl => ?_)
  have hl : lv_has ls 7 [(0, .ref (gA g 0)), (1, .ref (gA g (62 + 2 * k))), (2, .int (II ho)), (3, .int (II (i : Int))), (4, .int (II (w : Int)))] := hl
  generalize ([.ref (gA g 0), .ref (gA g (62 + 2 * k)), .int (II ho), .int (II (i : Int)), .int (II (w : Int))] : List Value).toArray = args at C ⊢
  generalize hQQ : MQ below (postI g (fun r M' => r = cnt (fun j => ftF v n nt E ho rw i f (lo + (j : Int))) mm ∧ (∀ m, ¬ scr m → M' m = M m))) args s 0 0 (ar g) = QQ
  have g_M := hw.rg
  have hN : gN g = 84 := hF.1
  have hn2 := hB.1.2
  refine lv_iconst (v := II 0) C.1 C.2.1 dX7_howManyFit_0 rfl ?_
  refine lv_istore (lv' := [(5, .int (II 0)), (0, .ref (gA g 0)), (1, .ref (gA g (62 + 2 * k))), (2, .int (II ho)), (3, .int (II (i : Int))), (4, .int (II (w : Int)))]) C.1 C.2.1 dX7_howManyFit_1 hl (by decide) rfl (fun ls hl => ?_)
  refine x_gets C hS 0 (by decide) mw_516 dX7_howManyFit_3 ?_
  refine lv_iload C.1 C.2.1 dX7_howManyFit_6 (lv_at hl 5 rfl) ?_
  refine x_sald C hS 0 (by decide) (by omega) (by omega) (x := lo) hlo.1 dX7_howManyFit_8 ?_
  refine lv_istore (lv' := [(6, .int (II lo)), (5, .int (II 0)), (0, .ref (gA g 0)), (1, .ref (gA g (62 + 2 * k))), (2, .int (II ho)), (3, .int (II (i : Int))), (4, .int (II (w : Int)))]) C.1 C.2.1 dX7_howManyFit_9 hl (by decide) rfl (fun ls hl => ?_)
  have L11 : ∀ (f1 : Nat) (j : Nat) (M2 : Nat → Int), (mm - j) < f1 → (j ≤ mm) → (∀ m, ¬ scr m → M2 m = M m) → ∀ (H : Heap) (locs : List Loc) (ls : Array Slot), Wo g M2 H → va_S (ar g) s.heap H locs → lv_has ls 7 [(0, .ref (gA g 0)), (1, .ref (gA g (62 + 2 * k))), (2, .int (II ho)), (3, .int (II (i : Int))), (4, .int (II (w : Int))), (5, .int (II (cnt (fun j => ftF v n nt E ho rw i f (lo + (j : Int))) j))), (6, .int (II (lo + (j : Int))))] → W p l e (rmm 6 150) s m args below meth c H locs 0 0 QQ (F0 m 11 ls []) := by
    intro f1
    induction f1 with
    | zero => intro j M2 hmu; exact absurd hmu (Nat.not_lt_zero _)
    | succ f1 ih =>
      intro j M2 hmu h1 hfr H locs ls hw hS hl
      have ih11 := ih
      have g_M2 := hw.rg
      have hbi := cnt_in (fun j => ftF v n nt E ho rw i f (lo + (j : Int))) j
      refine lv_iload C.1 C.2.1 dX7_howManyFit_11 (lv_at hl 6 rfl) ?_
      refine x_gets C hS 1 (by decide) mw_518 dX7_howManyFit_13 ?_
      refine lv_iload C.1 C.2.1 dX7_howManyFit_16 (lv_at hl 4 rfl) ?_
      refine x_sald C hS 1 (by decide) (by omega) (by omega) (x := lo + (mm : Int) - 1) hlo.2.1 dX7_howManyFit_18 ?_
      refine x_icmp_gt (tgt := 45) C ⟨by omega, by omega⟩ ⟨by omega, by omega⟩ dX7_howManyFit_19 (by decide) (fun c19 => ?_) (fun c19 => ?_)
      · refine lv_iload C.1 C.2.1 dX7_howManyFit_45 (lv_at hl 5 rfl) ?_
        subst hQQ; exact x_ireturn C hr hlk hw hS ⟨by omega, by omega⟩ rfl (by have e : j = mm := (by omega); subst e; exact ⟨rfl, hfr⟩) dX7_howManyFit_47
      · refine lv_aload_n C.1 C.2.1 dX7_howManyFit_22 rfl (lv_at hl 0 rfl) ?_
        refine lv_aload_n C.1 C.2.1 dX7_howManyFit_23 rfl (lv_at hl 1 rfl) ?_
        refine lv_iload_n C.1 C.2.1 dX7_howManyFit_24 rfl (lv_at hl 2 rfl) ?_
        refine lv_iload_n C.1 C.2.1 dX7_howManyFit_25 rfl (lv_at hl 3 rfl) ?_
        refine lv_iload C.1 C.2.1 dX7_howManyFit_26 (lv_at hl 4 rfl) ?_
        refine lv_iload C.1 C.2.1 dX7_howManyFit_28 (lv_at hl 6 rfl) ?_
        have J39 : ∀ (y : Int) (M5 : Nat → Int), (y = cnt (fun j => ftF v n nt E ho rw i f (lo + (j : Int))) (j + 1)) → (∀ m, ¬ scr m → M5 m = M2 m) → ∀ (H : Heap) (locs : List Loc) (ls : Array Slot), Wo g M5 H → va_S (ar g) s.heap H locs → lv_has ls 7 [(0, .ref (gA g 0)), (1, .ref (gA g (62 + 2 * k))), (2, .int (II ho)), (3, .int (II (i : Int))), (4, .int (II (w : Int))), (5, .int (II y)), (6, .int (II (lo + (j : Int))))] → W p l e (rmm 6 150) s m args below meth c H locs 0 0 QQ (F0 m 39 ls []) := by
          intro y M5 hy h30f H locs ls hw hS hl
          have g_M5 := hw.rg
          subst hy
          refine lv_iinc (v := II (lo + (j : Int) + 1)) (lv' := [(6, .int (II (lo + (j : Int) + 1))), (0, .ref (gA g 0)), (1, .ref (gA g (62 + 2 * k))), (2, .int (II ho)), (3, .int (II (i : Int))), (4, .int (II (w : Int))), (5, .int (II (cnt (fun j => ftF v n nt E ho rw i f (lo + (j : Int))) (j + 1))))]) C.1 C.2.1 dX7_howManyFit_39 hl (k := 6) rfl (II_add _ _) (by decide) rfl (fun ls hl => ?_)
          refine lv_goto (tgt := 11) C.1 C.2.1 dX7_howManyFit_42 (by decide) ?_
          have hl := hl
          rw [show lo + (j : Int) + 1 = lo + ((j + 1 : Nat) : Int) by omega] at hl
          exact ih11  (j + 1) M5 (by omega) (by omega) (fun m hm => (h30f m hm).trans (hfr m hm)) _ _ _ hw hS (lv_sub hl [1, 2, 3, 4, 5, 6, 0] rfl)
        refine x_ci (x_runV (n := 5) C hw hS hml hl.1 0 7 (by omega) rfl (by decide) rfl (c_X7_wouldFit l g M2 hF n v nt t E (hB.fr hfr) k hk rw (fun h hh => (hfr _ (by unfold scr; omega)).trans (hrw h hh)) ho hho i (by first | assumption | omega | exact ⟨by omega, by omega⟩ | decide) (w : Int) ⟨by omega, by omega⟩ f hf (lo + (j : Int)) ⟨by omega, by omega⟩ (hok j (by omega))) mw_716 mw_718 mw_42 mw_117 mw_719 rfl rfl (by decide +kernel) ⟨Nat.le_of_ble_eq_true rfl, Nat.le_of_ble_eq_true rfl⟩ rfl rfl (Nat.le_of_ble_eq_true rfl) dX7_howManyFit_30 ⟨Nat.zero_le _, Nat.zero_le _⟩) hS (fun r30 M30 H locs hr30 hp hw hS => ?_)
        rcases hp with ⟨h30f, (⟨er30, h30b⟩ | ⟨er30, h30b⟩)⟩
        · have g_M30 := hw.rg
          rw [er30]
          refine x_if_eq (tgt := 39) C ⟨by decide, by decide⟩ dX7_howManyFit_33 (by decide) (fun h => absurd h (by decide)) (fun _ => ?_)
          refine lv_iinc (v := II (cnt (fun j => ftF v n nt E ho rw i f (lo + (j : Int))) j + 1)) (lv' := [(5, .int (II (cnt (fun j => ftF v n nt E ho rw i f (lo + (j : Int))) j + 1))), (0, .ref (gA g 0)), (1, .ref (gA g (62 + 2 * k))), (2, .int (II ho)), (3, .int (II (i : Int))), (4, .int (II (w : Int))), (6, .int (II (lo + (j : Int))))]) C.1 C.2.1 dX7_howManyFit_36 hl (k := 5) rfl (II_add _ _) (by decide) rfl (fun ls hl => ?_)
          exact J39 (cnt (fun j => ftF v n nt E ho rw i f (lo + (j : Int))) j + 1) M30 (by first | exact cnt_t h30b | exact cnt_f h30b) h30f _ _ _ hw hS (lv_sub hl [1, 2, 3, 4, 5, 0, 6] rfl)
        · have g_M30 := hw.rg
          rw [er30]
          refine x_if_eq (tgt := 39) C ⟨by decide, by decide⟩ dX7_howManyFit_33 (by decide) (fun _ => ?_) (fun h => absurd h (by decide))
          exact J39 (cnt (fun j => ftF v n nt E ho rw i f (lo + (j : Int))) j) M30 (by first | exact cnt_t h30b | exact cnt_f h30b) h30f _ _ _ hw hS (lv_sub hl [0, 1, 2, 3, 4, 5, 6] rfl)
  have hl : lv_has ls 7 [(6, .int (II (lo + ((0 : Nat) : Int)))), (5, .int (II 0)), (0, .ref (gA g 0)), (1, .ref (gA g (62 + 2 * k))), (2, .int (II ho)), (3, .int (II (i : Int))), (4, .int (II (w : Int)))] := by rw [show lo + ((0 : Nat) : Int) = lo by omega]; exact hl
  exact L11 _ 0 M (Nat.lt_succ_self _) (by omega) (fun _ _ => rfl) _ _ _ hw hS (lv_sub hl [2, 3, 4, 5, 6, 1, 0] rfl)

set_option maxHeartbeats 4000000 in
set_option maxRecDepth 100000 in
theorem c_X7_leastThatFits (l : Launch) (g : Gm) (M : Nat → Int) (hF : LvF g) (n : Nat) (v : Nat → Nat → Int) (nt : Int) (t : Nat) (E : Ev) (hB : BV M n v nt t E) (k : Nat) (hk : k < 4) (rw : Nat → Int) (hrw : ∀ h, h < 6 → M (1000 * (63 + 2 * k) + h) = rw h) (ho : Int) (hho : rg ho) (i : Nat) (hi : i < n) (w : Nat) (hw0 : w < 6) (f : Nat) (hf : slotK (w : Int) = f ∧ f < 5) (lo : Int) (mm : Nat) (hlo : loT w = lo ∧ hiT w = lo + (mm : Int) - 1 ∧ mm ≤ 64 ∧ -20 ≤ lo ∧ lo ≤ 0) (hok : ∀ j, j < mm → okF f (lo + (j : Int))) (no : Int) (hno : rg no) : CI l ({ cls := "RatedBySighs", name := "leastThatFits", desc := "(LRatedBySighs$Sheet;IIII)I" } : Jvm.MethodName) cX7_leastThatFits 7 .int (rmm 6 150) g M [.ref (gA g 0), .ref (gA g (62 + 2 * k)), .int (II ho), .int (II (i : Int)), .int (II (w : Int)), .int (II no)] (fun r M' => r = leaS (fun j => ftF v n nt E ho rw i f (lo + (j : Int))) lo no mm ∧ (∀ m, ¬ scr m → M' m = M m)) := by
  refine c_start (by decide) (Nat.le_of_ble_eq_true rfl) (fun p e s m below meth c ls C hr hlk hml hw hS hl => ?_)
  have hl : lv_has ls 7 [(0, .ref (gA g 0)), (1, .ref (gA g (62 + 2 * k))), (2, .int (II ho)), (3, .int (II (i : Int))), (4, .int (II (w : Int))), (5, .int (II no))] := hl
  generalize ([.ref (gA g 0), .ref (gA g (62 + 2 * k)), .int (II ho), .int (II (i : Int)), .int (II (w : Int)), .int (II no)] : List Value).toArray = args at C ⊢
  generalize hQQ : MQ below (postI g (fun r M' => r = leaS (fun j => ftF v n nt E ho rw i f (lo + (j : Int))) lo no mm ∧ (∀ m, ¬ scr m → M' m = M m))) args s 0 0 (ar g) = QQ
  have g_M := hw.rg
  have hN : gN g = 84 := hF.1
  have hn2 := hB.1.2
  refine x_gets C hS 0 (by decide) mw_516 dX7_leastThatFits_0 ?_
  refine lv_iload C.1 C.2.1 dX7_leastThatFits_3 (lv_at hl 4 rfl) ?_
  refine x_sald C hS 0 (by decide) (by omega) (by omega) (x := lo) hlo.1 dX7_leastThatFits_5 ?_
  refine lv_istore (lv' := [(6, .int (II lo)), (0, .ref (gA g 0)), (1, .ref (gA g (62 + 2 * k))), (2, .int (II ho)), (3, .int (II (i : Int))), (4, .int (II (w : Int))), (5, .int (II no))]) C.1 C.2.1 dX7_leastThatFits_6 hl (by decide) rfl (fun ls hl => ?_)
  have L8 : ∀ (f1 : Nat) (j : Nat) (M2 : Nat → Int), (mm - j) < f1 → (j ≤ mm) → (∀ x, x < j → ftF v n nt E ho rw i f (lo + (x : Int)) = false) → (∀ m, ¬ scr m → M2 m = M m) → ∀ (H : Heap) (locs : List Loc) (ls : Array Slot), Wo g M2 H → va_S (ar g) s.heap H locs → lv_has ls 7 [(0, .ref (gA g 0)), (1, .ref (gA g (62 + 2 * k))), (2, .int (II ho)), (3, .int (II (i : Int))), (4, .int (II (w : Int))), (5, .int (II no)), (6, .int (II (lo + (j : Int))))] → W p l e (rmm 6 150) s m args below meth c H locs 0 0 QQ (F0 m 8 ls []) := by
    intro f1
    induction f1 with
    | zero => intro j M2 hmu; exact absurd hmu (Nat.not_lt_zero _)
    | succ f1 ih =>
      intro j M2 hmu h1 h2 hfr H locs ls hw hS hl
      have ih8 := ih
      have g_M2 := hw.rg
      refine lv_iload C.1 C.2.1 dX7_leastThatFits_8 (lv_at hl 6 rfl) ?_
      refine x_gets C hS 1 (by decide) mw_518 dX7_leastThatFits_10 ?_
      refine lv_iload C.1 C.2.1 dX7_leastThatFits_13 (lv_at hl 4 rfl) ?_
      refine x_sald C hS 1 (by decide) (by omega) (by omega) (x := lo + (mm : Int) - 1) hlo.2.1 dX7_leastThatFits_15 ?_
      refine x_icmp_gt (tgt := 42) C ⟨by omega, by omega⟩ ⟨by omega, by omega⟩ dX7_leastThatFits_16 (by decide) (fun c16 => ?_) (fun c16 => ?_)
      · refine lv_iload C.1 C.2.1 dX7_leastThatFits_42 (lv_at hl 5 rfl) ?_
        subst hQQ; exact x_ireturn C hr hlk hw hS hno rfl ⟨(leaS_no (fun x hx => h2 x (by omega))).symm, hfr⟩ dX7_leastThatFits_44
      · refine lv_aload_n C.1 C.2.1 dX7_leastThatFits_19 rfl (lv_at hl 0 rfl) ?_
        refine lv_aload_n C.1 C.2.1 dX7_leastThatFits_20 rfl (lv_at hl 1 rfl) ?_
        refine lv_iload_n C.1 C.2.1 dX7_leastThatFits_21 rfl (lv_at hl 2 rfl) ?_
        refine lv_iload_n C.1 C.2.1 dX7_leastThatFits_22 rfl (lv_at hl 3 rfl) ?_
        refine lv_iload C.1 C.2.1 dX7_leastThatFits_23 (lv_at hl 4 rfl) ?_
        refine lv_iload C.1 C.2.1 dX7_leastThatFits_25 (lv_at hl 6 rfl) ?_
        refine x_ci (x_runV (n := 5) C hw hS hml hl.1 0 7 (by omega) rfl (by decide) rfl (c_X7_wouldFit l g M2 hF n v nt t E (hB.fr hfr) k hk rw (fun h hh => (hfr _ (by unfold scr; omega)).trans (hrw h hh)) ho hho i (by first | assumption | omega | exact ⟨by omega, by omega⟩ | decide) (w : Int) ⟨by omega, by omega⟩ f hf (lo + (j : Int)) ⟨by omega, by omega⟩ (hok j (by omega))) mw_716 mw_718 mw_42 mw_117 mw_719 rfl rfl (by decide +kernel) ⟨Nat.le_of_ble_eq_true rfl, Nat.le_of_ble_eq_true rfl⟩ rfl rfl (Nat.le_of_ble_eq_true rfl) dX7_leastThatFits_27 ⟨Nat.zero_le _, Nat.zero_le _⟩) hS (fun r27 M27 H locs hr27 hp hw hS => ?_)
        rcases hp with ⟨h27f, (⟨er27, h27b⟩ | ⟨er27, h27b⟩)⟩
        · have g_M27 := hw.rg
          rw [er27]
          refine x_if_eq (tgt := 36) C ⟨by decide, by decide⟩ dX7_leastThatFits_30 (by decide) (fun h => absurd h (by decide)) (fun _ => ?_)
          refine lv_iload C.1 C.2.1 dX7_leastThatFits_33 (lv_at hl 6 rfl) ?_
          subst hQQ; exact x_ireturn C hr hlk hw hS ⟨by omega, by omega⟩ rfl ⟨(leaS_at (by omega) h2 h27b).symm, fun m hm => (h27f m hm).trans (hfr m hm)⟩ dX7_leastThatFits_35
        · have g_M27 := hw.rg
          rw [er27]
          refine x_if_eq (tgt := 36) C ⟨by decide, by decide⟩ dX7_leastThatFits_30 (by decide) (fun _ => ?_) (fun h => absurd h (by decide))
          refine lv_iinc (v := II (lo + (j : Int) + 1)) (lv' := [(6, .int (II (lo + (j : Int) + 1))), (0, .ref (gA g 0)), (1, .ref (gA g (62 + 2 * k))), (2, .int (II ho)), (3, .int (II (i : Int))), (4, .int (II (w : Int))), (5, .int (II no))]) C.1 C.2.1 dX7_leastThatFits_36 hl (k := 6) rfl (II_add _ _) (by decide) rfl (fun ls hl => ?_)
          refine lv_goto (tgt := 8) C.1 C.2.1 dX7_leastThatFits_39 (by decide) ?_
          have hl := hl
          rw [show lo + (j : Int) + 1 = lo + ((j + 1 : Nat) : Int) by omega] at hl
          exact ih8  (j + 1) M27 (by omega) (by omega) (fun x hx => by by_cases e : x = j <;> first | (rw [e]; exact h27b) | exact h2 x (by omega)) (fun m hm => (h27f m hm).trans (hfr m hm)) _ _ _ hw hS (lv_sub hl [1, 2, 3, 4, 5, 6, 0] rfl)
  have hl : lv_has ls 7 [(6, .int (II (lo + ((0 : Nat) : Int)))), (0, .ref (gA g 0)), (1, .ref (gA g (62 + 2 * k))), (2, .int (II ho)), (3, .int (II (i : Int))), (4, .int (II (w : Int))), (5, .int (II no))] := by rw [show lo + ((0 : Nat) : Int) = lo by omega]; exact hl
  exact L8 _ 0 M (Nat.lt_succ_self _) (by omega) (fun _ h => absurd h (Nat.not_lt_zero _)) (fun _ _ => rfl) _ _ _ hw hS (lv_sub hl [1, 2, 3, 4, 5, 6, 0] rfl)

set_option maxHeartbeats 4000000 in
set_option maxRecDepth 100000 in
theorem c_X7_textsThatFit (l : Launch) (g : Gm) (M : Nat → Int) (hF : LvF g) (n : Nat) (v : Nat → Nat → Int) (nt : Int) (t : Nat) (E : Ev) (hB : BV M n v nt t E) (k : Nat) (hk : k < 4) (rw : Nat → Int) (hrw : ∀ h, h < 6 → M (1000 * (63 + 2 * k) + h) = rw h) (ho : Int) (hho : rg ho) (tc : Nat) (EE : Nat → Ev) (hTX : M 12004 = (tc : Int) ∧ tc ≤ 6 ∧ ∀ j, j < tc → TxC M j (EE j)) : CI l ({ cls := "RatedBySighs", name := "textsThatFit", desc := "(LRatedBySighs$Sheet;I)I" } : Jvm.MethodName) cX7_textsThatFit 6 .int (rmm 5 122) g M [.ref (gA g 0), .ref (gA g (62 + 2 * k)), .int (II ho)] (fun r M' => r = bitsS (ftT v n nt EE ho rw) tc ∧ (∀ m, ¬ scr m → M' m = M m)) := by
  refine c_start (by decide) (Nat.le_of_ble_eq_true rfl) (fun p e s m below meth c ls C hr hlk hml hw hS hl => ?_)
  have hl : lv_has ls 6 [(0, .ref (gA g 0)), (1, .ref (gA g (62 + 2 * k))), (2, .int (II ho))] := hl
  generalize ([.ref (gA g 0), .ref (gA g (62 + 2 * k)), .int (II ho)] : List Value).toArray = args at C ⊢
  generalize hQQ : MQ below (postI g (fun r M' => r = bitsS (ftT v n nt EE ho rw) tc ∧ (∀ m, ¬ scr m → M' m = M m))) args s 0 0 (ar g) = QQ
  have g_M := hw.rg
  have hN : gN g = 84 := hF.1
  refine lv_aload_n C.1 C.2.1 dX7_textsThatFit_0 rfl (lv_at hl 0 rfl) ?_
  refine g7 C hw 0 (by omega) rfl 1 (by decide) mw_481 (svr (hF.2 _)) dX7_textsThatFit_1 ?_
  refine gn1 C hw 2 (by omega) rfl 4 (by decide) mn_199 (svi (x := (t : Int)) hB.2.2.2.2.1.1) dX7_textsThatFit_4 ?_
  refine lv_istore_n (lv' := [(3, .int (II (t : Int))), (0, .ref (gA g 0)), (1, .ref (gA g (62 + 2 * k))), (2, .int (II ho))]) C.1 C.2.1 dX7_textsThatFit_7 rfl hl (by decide) rfl (fun ls hl => ?_)
  refine lv_iconst (v := II 0) C.1 C.2.1 dX7_textsThatFit_8 rfl ?_
  refine lv_istore (lv' := [(4, .int (II 0)), (3, .int (II (t : Int))), (0, .ref (gA g 0)), (1, .ref (gA g (62 + 2 * k))), (2, .int (II ho))]) C.1 C.2.1 dX7_textsThatFit_9 hl (by decide) rfl (fun ls hl => ?_)
  refine lv_iconst (v := II 0) C.1 C.2.1 dX7_textsThatFit_11 rfl ?_
  refine lv_istore (lv' := [(5, .int (II 0)), (4, .int (II 0)), (3, .int (II (t : Int))), (0, .ref (gA g 0)), (1, .ref (gA g (62 + 2 * k))), (2, .int (II ho))]) C.1 C.2.1 dX7_textsThatFit_12 hl (by decide) rfl (fun ls hl => ?_)
  have L14 : ∀ (f1 : Nat) (j : Nat) (M2 : Nat → Int), (tc - j) < f1 → (j ≤ tc) → (∀ m, ¬ (scr m ∨ m = 2004) → M2 m = M m) → ∀ (H : Heap) (locs : List Loc) (ls : Array Slot), Wo g M2 H → va_S (ar g) s.heap H locs → lv_has ls 6 [(0, .ref (gA g 0)), (1, .ref (gA g (62 + 2 * k))), (2, .int (II ho)), (3, .int (II (t : Int))), (4, .int (II (bitsS (ftT v n nt EE ho rw) j))), (5, .int (II (j : Int)))] → W p l e (rmm 5 122) s m args below meth c H locs 0 0 QQ (F0 m 14 ls []) := by
    intro f1
    induction f1 with
    | zero => intro j M2 hmu; exact absurd hmu (Nat.not_lt_zero _)
    | succ f1 ih =>
      intro j M2 hmu h1 hfr H locs ls hw hS hl
      have ih14 := ih
      have g_M2 := hw.rg
      have hbi := bitsS_in (ftT v n nt EE ho rw) j
      have hp8 := pow11 (show j ≤ 10 by omega)
      refine lv_iload C.1 C.2.1 dX7_textsThatFit_14 (lv_at hl 5 rfl) ?_
      refine lv_aload_n C.1 C.2.1 dX7_textsThatFit_16 rfl (lv_at hl 0 rfl) ?_
      refine g7 C hw 0 (by omega) rfl 2 (by decide) mw_482 (svr (hF.2 _)) dX7_textsThatFit_17 ?_
      refine gn6 C hw 12 (by omega) rfl 4 (by decide) mn_224 (svi (x := (tc : Int)) ((hfr _ (by unfold scr; omega)).trans hTX.1)) dX7_textsThatFit_20 ?_
      refine x_icmp_ge (tgt := 60) C ⟨by omega, by omega⟩ ⟨by have := g_M2 12004; have := ((hfr _ (by unfold scr; omega)).trans hTX.1); omega, by have := g_M2 12004; have := ((hfr _ (by unfold scr; omega)).trans hTX.1); omega⟩ dX7_textsThatFit_23 (by decide) (fun c23 => ?_) (fun c23 => ?_)
      · refine lv_aload_n C.1 C.2.1 dX7_textsThatFit_60 rfl (lv_at hl 0 rfl) ?_
        refine g7 C hw 0 (by omega) rfl 1 (by decide) mw_481 (svr (hF.2 _)) dX7_textsThatFit_61 ?_
        refine lv_iload_n C.1 C.2.1 dX7_textsThatFit_64 rfl (lv_at hl 3 rfl) ?_
        refine pn1 C hw hS 2 (by omega) rfl 4 (by decide) mn_199 rfl (x := (t : Int)) ⟨by have := g_M 2004; have := hB.2.2.2.2.1.1; omega, by have := g_M 2004; have := hB.2.2.2.2.1.1; omega⟩ (svi st_s) (tyX1_ok 4 (by decide)) rfl rfl dX7_textsThatFit_65 (fun H locs hw hS => ?_)
        have hw : Wo g (stM M2 2004 (t : Int)) H := hw
        refine lv_iload C.1 C.2.1 dX7_textsThatFit_68 (lv_at hl 4 rfl) ?_
        subst hQQ; exact x_ireturn C hr hlk hw hS ⟨by omega, by omega⟩ rfl (by
    have e : j = tc := (by omega)
    subst e
    refine ⟨rfl, fun m hm => ?_⟩
    by_cases e2 : m = 2004
    · subst e2; exact st_s.trans hB.2.2.2.2.1.1.symm
    · exact (st_n e2).trans (hfr m (fun z => z.elim hm e2))) dX7_textsThatFit_70
      · have hp9 := pow10 (show j < 10 by omega)
        refine lv_aload_n C.1 C.2.1 dX7_textsThatFit_26 rfl (lv_at hl 0 rfl) ?_
        refine g7 C hw 0 (by omega) rfl 1 (by decide) mw_481 (svr (hF.2 _)) dX7_textsThatFit_27 ?_
        refine lv_iload C.1 C.2.1 dX7_textsThatFit_30 (lv_at hl 5 rfl) ?_
        refine pn1 C hw hS 2 (by omega) rfl 4 (by decide) mn_199 rfl (x := (j : Int)) ⟨by omega, by omega⟩ (svi st_s) (tyX1_ok 4 (by decide)) rfl rfl dX7_textsThatFit_32 (fun H locs hw hS => ?_)
        have hw : Wo g (stM M2 2004 (j : Int)) H := hw
        refine lv_aload_n C.1 C.2.1 dX7_textsThatFit_35 rfl (lv_at hl 0 rfl) ?_
        refine lv_aload_n C.1 C.2.1 dX7_textsThatFit_36 rfl (lv_at hl 1 rfl) ?_
        refine lv_iload_n C.1 C.2.1 dX7_textsThatFit_37 rfl (lv_at hl 2 rfl) ?_
        refine x_ci (x_runV (n := 2) C hw hS hml hl.1 0 7 (by omega) rfl (by decide) rfl (c_X7_firstOther l g (stM M2 2004 (j : Int)) hF n v nt j (EE j) (hB.rl (M' := stM M2 2004 (j : Int)) (fun m hm => (st_n (fun z => hm (Or.inr z))).trans (hfr m hm)) st_s (by omega) (hTX.2.2 j (by omega))) k hk rw (fun h hh => (st_n (by omega)).trans ((hfr _ (by unfold scr; omega)).trans (hrw h hh))) ho hho) mw_704 mw_706 mw_39 mw_117 mw_707 rfl rfl (by decide +kernel) ⟨Nat.le_of_ble_eq_true rfl, Nat.le_of_ble_eq_true rfl⟩ rfl rfl (Nat.le_of_ble_eq_true rfl) dX7_textsThatFit_38 ⟨Nat.zero_le _, Nat.zero_le _⟩) hS (fun r38 M38 H locs hr38 hp hw hS => ?_)
        obtain ⟨er38, h38f⟩ := hp
        have g_M38 := hw.rg
        rw [er38] at hr38 ⊢
        have J54 : ∀ (y : Int), (y = bitsS (ftT v n nt EE ho rw) (j + 1)) → ∀ (H : Heap) (locs : List Loc) (ls : Array Slot), Wo g M38 H → va_S (ar g) s.heap H locs → lv_has ls 6 [(0, .ref (gA g 0)), (1, .ref (gA g (62 + 2 * k))), (2, .int (II ho)), (3, .int (II (t : Int))), (4, .int (II y)), (5, .int (II (j : Int)))] → W p l e (rmm 5 122) s m args below meth c H locs 0 0 QQ (F0 m 54 ls []) := by
          intro y hy H locs ls hw hS hl
          subst hy
          refine lv_iinc (v := II ((j : Int) + 1)) (lv' := [(5, .int (II ((j : Int) + 1))), (0, .ref (gA g 0)), (1, .ref (gA g (62 + 2 * k))), (2, .int (II ho)), (3, .int (II (t : Int))), (4, .int (II (bitsS (ftT v n nt EE ho rw) (j + 1))))]) C.1 C.2.1 dX7_textsThatFit_54 hl (k := 5) rfl (II_add _ _) (by decide) rfl (fun ls hl => ?_)
          refine lv_goto (tgt := 14) C.1 C.2.1 dX7_textsThatFit_57 (by decide) ?_
          exact ih14  (j + 1) M38 (by omega) (by omega) (fun m hm => (h38f m (fun z => hm (Or.inl z))).trans ((st_n (fun z => hm (Or.inr z))).trans (hfr m hm))) _ _ _ hw hS (lv_sub hl [1, 2, 3, 4, 5, 0] rfl)
        refine lv_iconst (v := II (-1)) C.1 C.2.1 dX7_textsThatFit_41 rfl ?_
        refine x_icmp_ne (tgt := 54) C hr38 ⟨by decide, by decide⟩ dX7_textsThatFit_42 (by decide) (fun c42 => ?_) (fun c42 => ?_)
        · exact J54 (bitsS (ftT v n nt EE ho rw) j) (by rw [bitsS]; first | (rw [if_pos (show ftT v n nt EE ho rw j = true from decide_eq_true c42)]; done) | (rw [if_neg (by rw [show ftT v n nt EE ho rw j = false from decide_eq_false c42]; decide)]; omega)) _ _ _ hw hS (lv_sub hl [0, 1, 2, 3, 4, 5] rfl)
        · refine lv_iload C.1 C.2.1 dX7_textsThatFit_45 (lv_at hl 4 rfl) ?_
          refine lv_iconst (v := II 1) C.1 C.2.1 dX7_textsThatFit_47 rfl ?_
          refine lv_iload C.1 C.2.1 dX7_textsThatFit_48 (lv_at hl 5 rfl) ?_
          refine lv_ishl C.1 C.2.1 dX7_textsThatFit_50 ?_
          refine lv_ior C.1 C.2.1 dX7_textsThatFit_51 ?_
          rw [or_bit (by omega) hbi.1 hbi.2]
          refine lv_istore (lv' := [(4, .int (II (bitsS (ftT v n nt EE ho rw) j + 2 ^ j))), (0, .ref (gA g 0)), (1, .ref (gA g (62 + 2 * k))), (2, .int (II ho)), (3, .int (II (t : Int))), (5, .int (II (j : Int)))]) C.1 C.2.1 dX7_textsThatFit_52 hl (by decide) rfl (fun ls hl => ?_)
          exact J54 (bitsS (ftT v n nt EE ho rw) j + 2 ^ j) (by rw [bitsS]; first | (rw [if_pos (show ftT v n nt EE ho rw j = true from decide_eq_true c42)]; done) | (rw [if_neg (by rw [show ftT v n nt EE ho rw j = false from decide_eq_false c42]; decide)]; omega)) _ _ _ hw hS (lv_sub hl [1, 2, 3, 4, 0, 5] rfl)
  exact L14 _ 0 M (Nat.lt_succ_self _) (by omega) (fun _ _ => rfl) _ _ _ hw hS (lv_sub hl [3, 4, 5, 2, 1, 0] rfl)
