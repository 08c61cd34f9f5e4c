theorem MB.rl {M M' : Nat → Int} {n : Nat} {v : Nat → Nat → Int} {nt : Int} {t j : Nat} {E E' : Ev} (h : MB M n v nt t E (-1)) (hf : ∀ m, ¬ (sc4 m ∨ m = 70004) → M' m = M m) (hj : M' 70004 = (j : Int)) (h6 : j < 6) (hT : TxM M j E') : MB M' n v nt j E' (-1) := by
  obtain ⟨⟨h1, hn⟩, ⟨r1, r2, r3⟩, hP, ⟨h5, h6'⟩, ⟨h7, h8⟩, h9, ⟨ha, hb⟩⟩ := h
  refine ⟨⟨(hf _ (by unfold sc4 scm; omega)).trans h1, hn⟩, ⟨fun q hq hg => ?_, r2, fun q hq => ?_⟩, hP, ⟨(hf _ (by unfold sc4 scm; omega)).trans h5, h6'⟩, ⟨hj, h6⟩, hT.fr (fun m hm => hf m (by unfold sc4 scm; omega)), ⟨(hf _ (by unfold sc4 scm; omega)).trans ha, hb⟩⟩
  · have := r1 q hq hg
    rw [hf (74000 + q) (by unfold sc4 scm; omega), hf (75000 + 4 * q) (by unfold sc4 scm; omega), hf (75000 + (4 * q + 1)) (by unfold sc4 scm; omega), hf (75000 + (4 * q + 2)) (by unfold sc4 scm; omega), hf (75000 + (4 * q + 3)) (by unfold sc4 scm; omega)]
    exact this
  · rw [hf (75000 + (4 * q + 2)) (by unfold sc4 scm; omega)]; exact r3 q hq
theorem bits_mul (F : Nat → Bool) (j : Nat) : ∀ d : Nat, ∃ c : Int, bitsS F (j + d) = bitsS F j + 2 ^ j * c
  | 0 => ⟨0, by rw [Int.mul_zero, Int.add_zero]; rfl⟩
  | d + 1 => by
    obtain ⟨c, hc⟩ := bits_mul F j d
    have e : (2 : Int) ^ (j + d) = 2 ^ j * 2 ^ d := Int.pow_add 2 j d
    rw [show j + (d + 1) = (j + d) + 1 by omega, bitsS, hc]
    by_cases h : F (j + d) = true
    · exact ⟨c + 2 ^ d, by rw [if_pos h, e, Int.mul_add, Int.add_assoc]⟩
    · exact ⟨c, by rw [if_neg h, Int.add_zero]⟩
theorem orU_t : ∀ k, k < 10 → ∀ c, c < 2 ^ (9 - k) → (II ((2 ^ (k + 1) * c : Nat) : Int) ||| (II 1 <<< (II (k : Nat) &&& 31))) = II (((2 ^ (k + 1) * c : Nat) : Int) + 2 ^ k) := by decide +kernel
theorem or_up {F : Nat → Bool} {mm y : Nat} (hy : y < mm) (hm : mm ≤ 10) : (II (bitsS F mm - bitsS F (y + 1)) ||| (II 1 <<< (II (y : Int) &&& 31))) = II (bitsS F mm - bitsS F (y + 1) + 2 ^ y) := by
  obtain ⟨c, hc⟩ := bits_mul F (y + 1) (mm - (y + 1))
  rw [show y + 1 + (mm - (y + 1)) = mm by omega] at hc
  have h1 := bitsS_in F mm
  have h2 := bitsS_in F (y + 1)
  have hp : (0 : Int) < 2 ^ (y + 1) := Int.pow_pos (by decide)
  have hc0 : 0 ≤ c := by
    rcases Int.lt_or_le c 0 with h | h
    · have : 2 ^ (y + 1) * c ≤ 2 ^ (y + 1) * (-1) := Int.mul_le_mul_of_nonneg_left (by omega) (by omega)
      omega
    · exact h
  have h10 : (2 : Int) ^ mm ≤ 1024 := pow11 hm
  obtain ⟨k, rfl⟩ : ∃ k : Nat, c = k := ⟨c.toNat, by omega⟩
  have e : bitsS F mm - bitsS F (y + 1) = ((2 ^ (y + 1) * k : Nat) : Int) := by rw [hc]; push_cast; omega
  have hk : 2 ^ (y + 1) * k < 1024 := by
    have : ((2 ^ (y + 1) * k : Nat) : Int) < 1024 := by rw [← e]; omega
    omega
  have hk2 : k < 2 ^ (9 - y) := by
    have e2 : 2 ^ (y + 1) * 2 ^ (9 - y) = 1024 := by rw [← Nat.pow_add, show y + 1 + (9 - y) = 10 by omega]
    refine Nat.lt_of_mul_lt_mul_left (a := 2 ^ (y + 1)) ?_
    omega
  rw [e]
  exact orU_t y (by omega) k hk2
theorem lea_end {F : Nat → Bool} {lo no : Int} {mm : Nat} : leaS (fun x => F (x + mm)) (lo + (mm : Int)) no (mm - mm) = no := by rw [Nat.sub_self]; rfl
theorem lea_step {F : Nat → Bool} {lo no : Int} {mm y : Nat} (h : y < mm) : leaS (fun x => F (x + y)) (lo + (y : Int)) no (mm - y) = if F y = true then lo + (y : Int) else leaS (fun x => F (x + (y + 1))) (lo + ((y + 1 : Nat) : Int)) no (mm - (y + 1)) := by
  rw [show mm - y = (mm - (y + 1)) + 1 by omega, leaS, Nat.zero_add]
  have e1 : lo + (y : Int) + 1 = lo + ((y + 1 : Nat) : Int) := by omega
  have e2 : (fun j => F (j + 1 + y)) = fun x => F (x + (y + 1)) := by funext x; congr 1; omega
  rw [e1, e2]
theorem lea_in {F : Nat → Bool} {lo no : Int} : ∀ {m : Nat}, leaS F lo no m = no ∨ (lo ≤ leaS F lo no m ∧ leaS F lo no m < lo + m)
  | 0 => Or.inl rfl
  | m + 1 => by
    rw [leaS]
    split
    · right; omega
    · rcases lea_in (F := fun j => F (j + 1)) (lo := lo + 1) (no := no) (m := m) with h | h
      · exact Or.inl h
      · right; omega
theorem lea_0 {F : Nat → Bool} {lo no : Int} {mm : Nat} : leaS (fun x => F (x + 0)) (lo + ((0 : Nat) : Int)) no (mm - 0) = leaS F lo no mm := by simp
theorem bits0 {F : Nat → Bool} {m : Nat} : bitsS F m - bitsS F 0 = bitsS F m := by rw [show bitsS F 0 = 0 from rfl]; omega
theorem cntz_ {F : Nat → Bool} {m : Nat} : cnt F m - cnt F 0 = cnt F m := by rw [show cnt F 0 = 0 from rfl]; omega
theorem bits_t {F : Nat → Bool} {m y : Nat} (h : F y = true) : bitsS F m - bitsS F y = bitsS F m - bitsS F (y + 1) + 2 ^ y := by
  have : bitsS F (y + 1) = bitsS F y + 2 ^ y := by rw [bitsS, if_pos h]
  omega
theorem bits_f {F : Nat → Bool} {m y : Nat} (h : F y = false) : bitsS F m - bitsS F y = bitsS F m - bitsS F (y + 1) := by
  have : bitsS F (y + 1) = bitsS F y + 0 := by rw [bitsS, if_neg (by rw [h]; decide)]
  omega
theorem cntt_ {F : Nat → Bool} {m y : Nat} (h : F y = true) : cnt F m - cnt F y = cnt F m - cnt F (y + 1) + 1 := by
  have : cnt F (y + 1) = cnt F y + 1 := by rw [cnt, if_pos h]
  omega
theorem cntf_ {F : Nat → Bool} {m y : Nat} (h : F y = false) : cnt F m - cnt F y = cnt F m - cnt F (y + 1) := by
  have : cnt F (y + 1) = cnt F y + 0 := by rw [cnt, if_neg (by rw [h]; decide)]
  omega
theorem lea_t {F : Nat → Bool} {lo no : Int} {m y : Nat} (h : F y = true) (hy : y < m) : leaS (fun x => F (x + y)) (lo + (y : Int)) no (m - y) = lo + (y : Int) := by rw [lea_step hy, if_pos h]
theorem lea_f {F : Nat → Bool} {lo no : Int} {m y : Nat} (h : F y = false) (hy : y < m) : leaS (fun x => F (x + y)) (lo + (y : Int)) no (m - y) = leaS (fun x => F (x + (y + 1))) (lo + ((y + 1 : Nat) : Int)) no (m - (y + 1)) := by rw [lea_step hy, if_neg (by rw [h]; decide)]
theorem cnt_mono {F : Nat → Bool} {a b : Nat} (h : a ≤ b) : cnt F a ≤ cnt F b := by
  induction b with
  | zero => obtain rfl : a = 0 := (by omega); exact Int.le_refl _
  | succ b ih =>
    by_cases e : a = b + 1
    · subst e; omega
    · have := ih (by omega)
      rw [cnt]; split <;> omega
theorem bits_mono {F : Nat → Bool} {a b : Nat} (h : a ≤ b) : bitsS F a ≤ bitsS F b := by
  induction b with
  | zero => obtain rfl : a = 0 := (by omega); exact Int.le_refl _
  | succ b ih =>
    by_cases e : a = b + 1
    · subst e; omega
    · have := ih (by omega)
      have hp : (0 : Int) < 2 ^ b := Int.pow_pos (by decide)
      rw [bitsS]; split <;> omega
set_option maxHeartbeats 4000000 in
set_option maxRecDepth 100000 in
theorem c_X8_firstOther (l : Launch) (g : Gm) (M : Nat → Int) (hF : LvF g) (n : Nat) (v : Nat → Nat → Int) (nt : Int) (t : Nat) (E : Ev) (hM : MB M n v nt t E (-1)) (k : Nat) (hk : k < 4) (rw : Nat → Int) (hrw : ∀ h, h < 6 → M (83000 + (40 * k + h)) = rw h) (ho : Int) (hho : rg ho) : CI l ({ cls := "RatedBySighsModel", name := "firstOther", desc := "(II)I" } : Jvm.MethodName) cX8_firstOther 4 .int (rmm 44 978) g M [.ref (gA g 70), .int (II (k : Int)), .int (II ho)] (fun r M' => r = foS (fun h => reedS v n nt E ho h) rw ∧ (∀ m, ¬ scm m → M' m = M m)) := by
  refine c_start (by decide) (Nat.le_of_ble_eq_true rfl) (fun p e s m below meth c ls C hr hlk hml hw hS hl => ?_)
  have hl : lv_has ls 4 [(0, .ref (gA g 70)), (1, .int (II (k : Int))), (2, .int (II ho))] := hl
  generalize ([.ref (gA g 70), .int (II (k : Int)), .int (II ho)] : List Value).toArray = args at C ⊢
  generalize hQQ : MQ below (postI g (fun r M' => r = foS (fun h => reedS v n nt E ho h) rw ∧ (∀ m, ¬ scm m → M' m = M m))) args s 0 0 (ar g) = QQ
  have g_M := hw.rg
  have hN : gN g = 84 := hF.1
  have hn2 := hM.1.2
  refine lv_aload_n C.1 C.2.1 dX8_firstOther_0 rfl (lv_at hl 0 rfl) ?_
  refine x_cv (x_runV (n := 0) C hw hS hml hl.1 70 8 (by omega) rfl (by decide) rfl (c_X8_gathers l g M hF n v nt t E (-1) hM) mw_979 mw_981 mw_54 mw_130 mw_982 rfl rfl (by decide +kernel) ⟨Nat.le_of_ble_eq_true rfl, Nat.le_of_ble_eq_true rfl⟩ rfl rfl (Nat.le_of_ble_eq_true rfl) dX8_firstOther_1 ⟨Nat.zero_le _, Nat.zero_le _⟩) hS (fun M1 H locs hp hw hS => ?_)
  obtain ⟨h1a, h1f⟩ := hp
  have g_M1 := hw.rg
  refine lv_iconst (v := II 0) C.1 C.2.1 dX8_firstOther_4 rfl ?_
  refine lv_istore_n (lv' := [(3, .int (II 0)), (0, .ref (gA g 70)), (1, .int (II (k : Int))), (2, .int (II ho))]) C.1 C.2.1 dX8_firstOther_5 rfl hl (by decide) rfl (fun ls hl => ?_)
  have L6 : ∀ (f1 : Nat) (h : Nat), (6 - h) < f1 → (h ≤ 6) → (∀ x, x < h → reedS v n nt E ho x = rw x) → ∀ (H : Heap) (locs : List Loc) (ls : Array Slot), Wo g M1 H → va_S (ar g) s.heap H locs → lv_has ls 4 [(0, .ref (gA g 70)), (1, .int (II (k : Int))), (2, .int (II ho)), (3, .int (II (h : Int)))] → W p l e (rmm 44 978) s m args below meth c H locs 0 0 QQ (F0 m 6 ls []) := by
    intro f1
    induction f1 with
    | zero => intro h hmu; exact absurd hmu (Nat.not_lt_zero _)
    | succ f1 ih =>
      intro h hmu h1 h2 H locs ls hw hS hl
      have ih6 := ih
      refine lv_iload_n C.1 C.2.1 dX8_firstOther_6 rfl (lv_at hl 3 rfl) ?_
      refine lv_bipush (v := II 6) C.1 C.2.1 dX8_firstOther_7 (by decide) ?_
      refine x_icmp_ge (tgt := 40) C ⟨by omega, by omega⟩ ⟨by decide, by decide⟩ dX8_firstOther_9 (by decide) (fun c9 => ?_) (fun c9 => ?_)
      · refine lv_iconst (v := II (-1)) C.1 C.2.1 dX8_firstOther_40 rfl ?_
        subst hQQ; exact x_ireturn C hr hlk hw hS ⟨by decide, by decide⟩ rfl ⟨(foS_no (fun x hx => h2 x (by omega))).symm, h1f⟩ dX8_firstOther_41
      · have hre := reedS_in v n nt E ho h
        refine lv_aload_n C.1 C.2.1 dX8_firstOther_12 rfl (lv_at hl 0 rfl) ?_
        refine lv_iload_n C.1 C.2.1 dX8_firstOther_13 rfl (lv_at hl 2 rfl) ?_
        refine lv_iload_n C.1 C.2.1 dX8_firstOther_14 rfl (lv_at hl 3 rfl) ?_
        refine x_ci (x_runV (n := 2) C hw hS hml hl.1 70 8 (by omega) rfl (by decide) rfl (c_X8_reedOf l g M1 hF n v nt t E (hM.fr h1f) (fun p hp hg h hh => (h1a p hp hg h hh).2) ho hho h (by omega)) mw_1231 mw_1233 mw_108 mw_130 mw_1234 rfl rfl (by decide +kernel) ⟨Nat.le_of_ble_eq_true rfl, Nat.le_of_ble_eq_true rfl⟩ rfl rfl (Nat.le_of_ble_eq_true rfl) dX8_firstOther_15 ⟨Nat.zero_le _, Nat.zero_le _⟩) hS (fun r15 M15 H locs hr15 hp hw hS => ?_)
        obtain ⟨em15, er15⟩ := hp
        have hw : Wo g M1 H := em15 ▸ hw
        rw [er15] at hr15 ⊢
        refine lv_aload_n C.1 C.2.1 dX8_firstOther_18 rfl (lv_at hl 0 rfl) ?_
        refine g8 C hw 70 (by omega) rfl 41 (by decide) mw_865 (svr (hF.2 _)) dX8_firstOther_19 ?_
        refine lv_bipush (v := II 40) C.1 C.2.1 dX8_firstOther_22 (by decide) ?_
        refine lv_iload_n C.1 C.2.1 dX8_firstOther_24 rfl (lv_at hl 1 rfl) ?_
        refine x_imul C dX8_firstOther_25 ?_
        refine lv_iload_n C.1 C.2.1 dX8_firstOther_26 rfl (lv_at hl 3 rfl) ?_
        refine x_iadd C dX8_firstOther_27 ?_
        refine x_iaload (L := 160) C hw 83 (by omega) rfl rfl (by omega) (by omega) (by decide) (x := rw h) ((congrArg (fun z => M1 (1000 * 83 + z)) (by omega)).trans ((h1f _ (by unfold scm; omega)).trans (hrw h (by omega)))) dX8_firstOther_28 ?_
        refine x_icmp_eq (tgt := 34) C hr15 ⟨by have := g_M1 (83000 + ((40 * k) + h)); have := ((h1f _ (by unfold scm; omega)).trans (hrw h (by omega))); omega, by have := g_M1 (83000 + ((40 * k) + h)); have := ((h1f _ (by unfold scm; omega)).trans (hrw h (by omega))); omega⟩ dX8_firstOther_29 (by decide) (fun c29 => ?_) (fun c29 => ?_)
        · refine lv_iinc (v := II ((h : Int) + 1)) (lv' := [(3, .int (II ((h : Int) + 1))), (0, .ref (gA g 70)), (1, .int (II (k : Int))), (2, .int (II ho))]) C.1 C.2.1 dX8_firstOther_34 hl (k := 3) rfl (II_add _ _) (by decide) rfl (fun ls hl => ?_)
          refine lv_goto (tgt := 6) C.1 C.2.1 dX8_firstOther_37 (by decide) ?_
          exact ih6  (h + 1) (by omega) (by omega) (fun x hx => by by_cases e : x = h <;> first | (rw [e]; exact c29) | exact h2 x (by omega)) _ _ _ hw hS (lv_sub hl [1, 2, 3, 0] rfl)
        · refine lv_iload_n C.1 C.2.1 dX8_firstOther_32 rfl (lv_at hl 3 rfl) ?_
          subst hQQ; exact x_ireturn C hr hlk hw hS ⟨by omega, by omega⟩ rfl ⟨(foS_at (by omega) h2 c29).symm, h1f⟩ dX8_firstOther_33
  exact L6 _ 0 (Nat.lt_succ_self _) (by omega) (fun _ h => absurd h (Nat.not_lt_zero _)) _ _ _ hw hS (lv_sub hl [1, 2, 3, 0] rfl)

set_option maxHeartbeats 4000000 in
set_option maxRecDepth 100000 in
theorem c_X8_tells (l : Launch) (g : Gm) (M : Nat → Int) (hF : LvF g) (n : Nat) (v : Nat → Nat → Int) (nt : Int) (pd : Int) (t : Nat) (X : Txt) (I : Option Bor) (Sh : Sht) (hR : RepM M (n, v, nt, pd, t) X I Sh) (hA : InvA (n, v, nt, pd, t) X I Sh) (s0 : Int) (gz_s0 : rg s0) (ho : Int) (gz_ho : rg ho) (q : Int) (gz_q : rg q) (w : Int) (gz_w : rg w) : CI l ({ cls := "RatedBySighsModel", name := "tells", desc := "(IIII)I" } : Jvm.MethodName) cX8_tells 12 .int (rmm 45 1001) g M [.ref (gA g 70), .int (II s0), .int (II ho), .int (II q), .int (II w)] (fun r M' => r = r_tells v n nt t X Sh s0 ho q w ∧ (RepM M' (n, v, nt, pd, t) X I Sh) ∧ (∀ m, m < 70000 → M' m = M m)) := by
  refine c_start (by decide) (Nat.le_of_ble_eq_true rfl) (fun p e s m below meth c ls C hr hlk hml hw hS hl => ?_)
  have hl : lv_has ls 12 [(0, .ref (gA g 70)), (1, .int (II s0)), (2, .int (II ho)), (3, .int (II q)), (4, .int (II w))] := hl
  generalize ([.ref (gA g 70), .int (II s0), .int (II ho), .int (II q), .int (II w)] : List Value).toArray = args at C ⊢
  generalize hQQ : MQ below (postI g (fun r M' => r = r_tells v n nt t X Sh s0 ho q w ∧ (RepM M' (n, v, nt, pd, t) X I Sh) ∧ (∀ m, m < 70000 → M' m = M m))) args s 0 0 (ar g) = QQ
  have g_M := hw.rg
  have hN : gN g = 84 := hF.1
  have hM : MB M n v nt t (X.2.1 t) (-1) := hR.mb hA
  have hn2 : n ≤ 8 := hM.1.2
  have hnt := hM.2.2.2.1.2
  have hpd : 0 ≤ pd ∧ pd ≤ 999999999 := hA.1.2.2.2.2.1
  have htc := hA.2.1
  have hts := hA.2.2.1.1
  have ht9 : t < X.1 := hA.1.2.2.2.2.2
  refine lv_iload_n C.1 C.2.1 dX8_tells_0 rfl (lv_at hl 1 rfl) ?_
  refine x_ci (x_runS (n := 1) C hw hS hml hl.1 (c_X8_isSheet l g M s0 gz_s0) mw_1301 mw_1302 mw_130 mw_1303 rfl rfl (by decide +kernel) ⟨Nat.le_of_ble_eq_true rfl, Nat.le_of_ble_eq_true rfl⟩ rfl rfl (Nat.le_of_ble_eq_true rfl) dX8_tells_1 ⟨Nat.zero_le _, Nat.zero_le _⟩) hS (fun r1 M1 H locs hr1 hp hw hS => ?_)
  rcases hp with ⟨em1, (⟨er1, h1b⟩ | ⟨er1, h1b⟩)⟩
  · have hw : Wo g M H := em1 ▸ hw
    rw [er1]
    refine x_if_eq (tgt := 41) C ⟨by decide, by decide⟩ dX8_tells_4 (by decide) (fun h => absurd h (by decide)) (fun _ => ?_)
    have hs4 : 0 ≤ s0 ∧ s0 < 4 := h1b
    refine lv_iload_n C.1 C.2.1 dX8_tells_7 rfl (lv_at hl 2 rfl) ?_
    refine x_ci (x_runS (n := 1) C hw hS hml hl.1 (c_X8_isHouse l g M ho gz_ho) mw_1210 mw_1211 mw_130 mw_1212 rfl rfl (by decide +kernel) ⟨Nat.le_of_ble_eq_true rfl, Nat.le_of_ble_eq_true rfl⟩ rfl rfl (Nat.le_of_ble_eq_true rfl) dX8_tells_8 ⟨Nat.zero_le _, Nat.zero_le _⟩) hS (fun r8 M8 H locs hr8 hp hw hS => ?_)
    rcases hp with ⟨em8, (⟨er8, h8b⟩ | ⟨er8, h8b⟩)⟩
    · have hw : Wo g M H := em8 ▸ hw
      rw [er8]
      refine x_if_eq (tgt := 41) C ⟨by decide, by decide⟩ dX8_tells_11 (by decide) (fun h => absurd h (by decide)) (fun _ => ?_)
      have hho4 : 0 ≤ ho ∧ ho ≤ 4 := h8b
      refine lv_iload C.1 C.2.1 dX8_tells_14 (lv_at hl 4 rfl) ?_
      refine x_i2l C gz_w dX8_tells_16 ?_
      refine lv_lconst (v := LL 0) C.1 C.2.1 dX8_tells_17 (by decide) ?_
      refine lv_ldc2 C.1 C.2.1 C.2.2.1 (C.2.2.2.1 _ mw_1305) dX8_tells_18 ?_
      rw [show (8 : Int64) = LL 8 from by decide]
      refine x_ci (x_runS (n := 3) C hw hS hml hl.1 (c_X8_in l g M w gz_w 0 ⟨by decide, by decide⟩ 8 ⟨by decide, by decide⟩) mw_957 mw_958 mw_130 mw_959 rfl rfl (by decide +kernel) ⟨Nat.le_of_ble_eq_true rfl, Nat.le_of_ble_eq_true rfl⟩ rfl rfl (Nat.le_of_ble_eq_true rfl) dX8_tells_21 ⟨Nat.zero_le _, Nat.zero_le _⟩) hS (fun r21 M21 H locs hr21 hp hw hS => ?_)
      rcases hp with ⟨em21, (⟨er21, h21b⟩ | ⟨er21, h21b⟩)⟩
      · have hw : Wo g M H := em21 ▸ hw
        rw [er21]
        refine x_if_eq (tgt := 41) C ⟨by decide, by decide⟩ dX8_tells_24 (by decide) (fun h => absurd h (by decide)) (fun _ => ?_)
        refine lv_iload C.1 C.2.1 dX8_tells_27 (lv_at hl 4 rfl) ?_
        refine lv_iconst (v := II 1) C.1 C.2.1 dX8_tells_29 rfl ?_
        refine x_icmp_le (tgt := 44) C gz_w ⟨by decide, by decide⟩ dX8_tells_30 (by decide) (fun c30 => ?_) (fun c30 => ?_)
        · have hw9 : 0 ≤ w ∧ w ≤ 8 := h21b
          have hq1 : w ≤ 1 ∨ (0 ≤ q ∧ q < n) := by first | (left; omega) | exact Or.inr h35b
          obtain ⟨k, rfl⟩ : ∃ i : Nat, s0 = (i : Int) := ⟨s0.toNat, by omega⟩
          have eok : okTl n (k : Int) ho q w = true := decide_eq_true ⟨by omega, hho4, hw9, hq1⟩
          have hszk := hA.2.2.2.2 k (by omega)
          refine lv_aload_n C.1 C.2.1 dX8_tells_44 rfl (lv_at hl 0 rfl) ?_
          rcases hR.2.2.2.1 k (by omega) with ⟨zs1, zs2⟩ | ⟨zs1, zs2, zs3, zs4, zs5⟩
          · refine g8 C hw 70 (by omega) rfl 38 (by decide) mw_862 (svr (hF.2 _)) dX8_tells_45 ?_
            refine lv_iload_n C.1 C.2.1 dX8_tells_48 rfl (lv_at hl 1 rfl) ?_
            refine x_baload (L := 4) C hw 80 (by omega) rfl rfl (by omega) (by omega) (by decide) (x := 0) zs2 dX8_tells_49 ?_
            refine x_if_ne (tgt := 56) C ⟨by decide, by decide⟩ dX8_tells_50 (by decide) (fun h => absurd h (by decide)) (fun _ => ?_)
            refine lv_bipush (v := II (-11)) C.1 C.2.1 dX8_tells_53 (by decide) ?_
            subst hQQ; exact x_ireturn C hr hlk hw hS ⟨by decide, by decide⟩ rfl ⟨(by unfold r_tells; rw [if_neg (by rw [eok]; decide)]; simp only [Int.toNat_natCast]; rw [if_pos zs1]), hR, (fun _ _ => rfl)⟩ dX8_tells_55
          · refine g8 C hw 70 (by omega) rfl 38 (by decide) mw_862 (svr (hF.2 _)) dX8_tells_45 ?_
            refine lv_iload_n C.1 C.2.1 dX8_tells_48 rfl (lv_at hl 1 rfl) ?_
            refine x_baload (L := 4) C hw 80 (by omega) rfl rfl (by omega) (by omega) (by decide) (x := 1) zs2 dX8_tells_49 ?_
            refine x_if_ne (tgt := 56) C ⟨by decide, by decide⟩ dX8_tells_50 (by decide) (fun _ => ?_) (fun h => absurd h (by decide))
            refine lv_aload_n C.1 C.2.1 dX8_tells_56 rfl (lv_at hl 0 rfl) ?_
            refine g8 C hw 70 (by omega) rfl 40 (by decide) mw_864 (svr (hF.2 _)) dX8_tells_57 ?_
            refine lv_iload_n C.1 C.2.1 dX8_tells_60 rfl (lv_at hl 1 rfl) ?_
            refine x_iaload (L := 4) C hw 82 (by omega) rfl rfl (by omega) (by omega) (by decide) (x := Sh.2.1 k) zs4 dX8_tells_61 ?_
            refine lv_bipush (v := II 6) C.1 C.2.1 dX8_tells_62 (by decide) ?_
            refine x_icmp_eq (tgt := 70) C ⟨by have := g_M (82000 + k); have := zs4; omega, by have := g_M (82000 + k); have := zs4; omega⟩ ⟨by decide, by decide⟩ dX8_tells_64 (by decide) (fun c64 => ?_) (fun c64 => ?_)
            · have hz6 : Sh.2.1 k = 6 := by omega
              obtain ⟨hw0, hw8⟩ : 0 ≤ w ∧ w ≤ 8 := h21b
              rcases (show w = 0 ∨ w = 1 ∨ w = 2 ∨ w = 3 ∨ w = 4 ∨ w = 5 ∨ w = 6 ∨ w = 7 ∨ w = 8 by omega) with rfl | rfl | rfl | rfl | rfl | rfl | rfl | rfl | rfl
              · have hl : lv_has ls 12 [(0, .ref (gA g 70)), (1, .int (II (k : Int))), (2, .int (II ho)), (3, .int (II q)), (4, .int (II 0))] := hl
                refine lv_iload C.1 C.2.1 dX8_tells_70 (lv_at hl 4 rfl) ?_
                refine x_if_ne (tgt := 82) C ⟨by decide, by decide⟩ dX8_tells_72 (by decide) (fun h => absurd h (by decide)) (fun _ => ?_)
                refine lv_aload_n C.1 C.2.1 dX8_tells_75 rfl (lv_at hl 0 rfl) ?_
                refine lv_iload_n C.1 C.2.1 dX8_tells_76 rfl (lv_at hl 1 rfl) ?_
                refine lv_iload_n C.1 C.2.1 dX8_tells_77 rfl (lv_at hl 2 rfl) ?_
                refine x_ci (x_runV (n := 2) C hw hS hml hl.1 70 8 (by omega) rfl (by decide) rfl (c_X8_firstOther l g M hF n v nt t (X.2.1 t) hM k (by omega) (Sh.2.2 k) (fun h hh => zs5 h (by rw [hz6]; omega)) ho gz_ho) mw_1306 mw_1308 mw_114 mw_130 mw_1309 rfl rfl (by decide +kernel) ⟨Nat.le_of_ble_eq_true rfl, Nat.le_of_ble_eq_true rfl⟩ rfl rfl (Nat.le_of_ble_eq_true rfl) dX8_tells_78 ⟨Nat.zero_le _, Nat.zero_le _⟩) hS (fun r78 M78 H locs hr78 hp hw hS => ?_)
                obtain ⟨er78, h78f⟩ := hp
                have g_M78 := hw.rg
                rw [er78] at hr78 ⊢
                subst hQQ; exact x_ireturn C hr hlk hw hS hr78 rfl ⟨(by unfold r_tells; rw [if_neg (by rw [eok]; decide)]; simp only [Int.toNat_natCast]; rw [if_neg zs1, if_neg (fun z => z hz6), if_pos trivial]), (hR.fr hA (fun m hm _ => h78f m (fun z => hm (Or.inl z)))), (fun m hm => h78f m (by unfold scm; omega))⟩ dX8_tells_81
              · have hl : lv_has ls 12 [(0, .ref (gA g 70)), (1, .int (II (k : Int))), (2, .int (II ho)), (3, .int (II q)), (4, .int (II 1))] := hl
                obtain ⟨F, hFe⟩ : ∃ F : Nat → Bool, F = (ftT v n nt X.2.1 ho (Sh.2.2 k)) := ⟨_, rfl⟩
                refine lv_iload C.1 C.2.1 dX8_tells_70 (lv_at hl 4 rfl) ?_
                refine x_if_ne (tgt := 82) C ⟨by decide, by decide⟩ dX8_tells_72 (by decide) (fun _ => ?_) (fun h => absurd h (by decide))
                refine lv_iload C.1 C.2.1 dX8_tells_82 (lv_at hl 4 rfl) ?_
                refine lv_iconst (v := II 1) C.1 C.2.1 dX8_tells_84 rfl ?_
                refine x_icmp_ne (tgt := 93) C ⟨by decide, by decide⟩ ⟨by decide, by decide⟩ dX8_tells_85 (by decide) (fun h => absurd h (by decide)) (fun _ => ?_)
                refine lv_bipush (v := II 6) C.1 C.2.1 dX8_tells_88 (by decide) ?_
                refine lv_goto (tgt := 128) C.1 C.2.1 dX8_tells_90 (by decide) ?_
                refine lv_istore (lv' := [(5, .int (II 6)), (0, .ref (gA g 70)), (1, .int (II (k : Int))), (2, .int (II ho)), (3, .int (II q)), (4, .int (II 1))]) C.1 C.2.1 dX8_tells_128 hl (by decide) rfl (fun ls hl => ?_)
                refine lv_iload C.1 C.2.1 dX8_tells_130 (lv_at hl 0 rfl) ?_
                refine lv_bipush (v := II 6) C.1 C.2.1 dX8_tells_132 (by decide) ?_
                refine x_icmp_ne (tgt := 144) C ⟨by decide, by decide⟩ ⟨by decide, by decide⟩ dX8_tells_134 (by decide) (fun h => absurd h (by decide)) (fun _ => ?_)
                refine lv_aload_n C.1 C.2.1 dX8_tells_137 rfl (lv_at hl 1 rfl) ?_
                refine g8 C hw 70 (by omega) rfl 4 (by decide) mw_828 (svi (x := (t : Int)) hM.2.2.2.2.1.1) dX8_tells_138 ?_
                refine lv_goto (tgt := 151) C.1 C.2.1 dX8_tells_141 (by decide) ?_
                skip
                refine lv_istore (lv' := [(6, .int (II (t : Int))), (5, .int (II 6)), (0, .ref (gA g 70)), (1, .int (II (k : Int))), (2, .int (II ho)), (3, .int (II q)), (4, .int (II 1))]) C.1 C.2.1 dX8_tells_151 hl (by decide) rfl (fun ls hl => ?_)
                refine lv_iload C.1 C.2.1 dX8_tells_153 (lv_at hl 1 rfl) ?_
                refine lv_bipush (v := II 6) C.1 C.2.1 dX8_tells_155 (by decide) ?_
                refine x_icmp_ne (tgt := 169) C ⟨by decide, by decide⟩ ⟨by decide, by decide⟩ dX8_tells_157 (by decide) (fun h => absurd h (by decide)) (fun _ => ?_)
                refine lv_aload_n C.1 C.2.1 dX8_tells_160 rfl (lv_at hl 2 rfl) ?_
                refine g8 C hw 70 (by omega) rfl 3 (by decide) mw_827 (svi (x := (X.1 : Int)) hR.2.1.1) dX8_tells_161 ?_
                refine lv_iconst (v := II 1) C.1 C.2.1 dX8_tells_164 rfl ?_
                refine x_isub C dX8_tells_165 ?_
                refine lv_goto (tgt := 184) C.1 C.2.1 dX8_tells_166 (by decide) ?_
                refine lv_istore (lv' := [(7, .int (II ((X.1 : Int) - 1))), (6, .int (II (t : Int))), (5, .int (II 6)), (0, .ref (gA g 70)), (1, .int (II (k : Int))), (2, .int (II ho)), (3, .int (II q)), (4, .int (II 1))]) C.1 C.2.1 dX8_tells_184 hl (by decide) rfl (fun ls hl => ?_)
                refine lv_iconst (v := II 0) C.1 C.2.1 dX8_tells_186 rfl ?_
                refine lv_istore (lv' := [(8, .int (II 0)), (7, .int (II ((X.1 : Int) - 1))), (6, .int (II (t : Int))), (5, .int (II 6)), (0, .ref (gA g 70)), (1, .int (II (k : Int))), (2, .int (II ho)), (3, .int (II q)), (4, .int (II 1))]) C.1 C.2.1 dX8_tells_187 hl (by decide) rfl (fun ls hl => ?_)
                refine lv_iconst (v := II 0) C.1 C.2.1 dX8_tells_189 rfl ?_
                refine lv_istore (lv' := [(9, .int (II 0)), (8, .int (II 0)), (7, .int (II ((X.1 : Int) - 1))), (6, .int (II (t : Int))), (5, .int (II 6)), (0, .ref (gA g 70)), (1, .int (II (k : Int))), (2, .int (II ho)), (3, .int (II q)), (4, .int (II 1))]) C.1 C.2.1 dX8_tells_190 hl (by decide) rfl (fun ls hl => ?_)
                refine lv_iload C.1 C.2.1 dX8_tells_192 (lv_at hl 9 rfl) ?_
                refine lv_bipush (v := II 6) C.1 C.2.1 dX8_tells_194 (by decide) ?_
                refine x_icmp_ne (tgt := 204) C ⟨by decide, by decide⟩ ⟨by decide, by decide⟩ dX8_tells_196 (by decide) (fun _ => ?_) (fun h => absurd h (by decide))
                refine lv_iconst (v := II (-1)) C.1 C.2.1 dX8_tells_204 rfl ?_
                refine lv_istore (lv' := [(10, .int (II (-1))), (9, .int (II 0)), (8, .int (II 0)), (7, .int (II ((X.1 : Int) - 1))), (6, .int (II (t : Int))), (5, .int (II 6)), (0, .ref (gA g 70)), (1, .int (II (k : Int))), (2, .int (II ho)), (3, .int (II q)), (4, .int (II 1))]) C.1 C.2.1 dX8_tells_205 hl (by decide) rfl (fun ls hl => ?_)
                refine lv_iload C.1 C.2.1 dX8_tells_207 (lv_at hl 3 rfl) ?_
                refine lv_istore (lv' := [(11, .int (II ((X.1 : Int) - 1))), (10, .int (II (-1))), (9, .int (II 0)), (8, .int (II 0)), (7, .int (II ((X.1 : Int) - 1))), (6, .int (II (t : Int))), (5, .int (II 6)), (0, .ref (gA g 70)), (1, .int (II (k : Int))), (2, .int (II ho)), (3, .int (II q)), (4, .int (II 1))]) C.1 C.2.1 dX8_tells_209 hl (by decide) rfl (fun ls hl => ?_)
                have L211 : ∀ (f1 : Nat) (j : Nat) (M3 : Nat → Int), j < f1 → (j ≤ X.1) → (∀ m, ¬ (scm m ∨ m = 70004) → M3 m = M m) → ∀ (H : Heap) (locs : List Loc) (ls : Array Slot), Wo g M3 H → va_S (ar g) s.heap H locs → lv_has ls 12 [(0, .ref (gA g 70)), (1, .int (II (k : Int))), (2, .int (II ho)), (3, .int (II q)), (4, .int (II 1)), (5, .int (II 6)), (6, .int (II (t : Int))), (7, .int (II ((X.1 : Int) - 1))), (8, .int (II (bitsS F X.1 - bitsS F j))), (9, .int (II (cnt F X.1 - cnt F j))), (10, .int (II (leaS (fun x => F (x + j)) (0 + ((j : Nat) : Int)) (-1) (X.1 - j)))), (11, .int (II (0 + ((j : Nat) : Int) - 1)))] → W p l e (rmm 45 1001) s m args below meth c H locs 0 0 QQ (F0 m 211 ls []) := by
                  intro f1
                  induction f1 with
                  | zero => intro j M3 hmu; exact absurd hmu (Nat.not_lt_zero _)
                  | succ f1 ih =>
                    intro j M3 hmu h1 hf3 H locs ls hw hS hl
                    have ih211 := ih
                    have g_M3 := hw.rg
                    have hcj := cnt_in F j
                    have hcm := cnt_in F X.1
                    have hbj := bitsS_in F j
                    have hbm := bitsS_in F X.1
                    have hpm : (2 : Int) ^ (X.1) ≤ 1024 := pow11 (by omega)
                    have hsj : cnt F j ≤ cnt F X.1 := cnt_mono (by omega)
                    have hbmj : bitsS F j ≤ bitsS F X.1 := bits_mono (by omega)
                    have hle := lea_in (F := fun x => F (x + j)) (lo := 0 + ((j : Nat) : Int)) (no := (-1)) (m := X.1 - j)
                    refine lv_iload C.1 C.2.1 dX8_tells_211 (lv_at hl 11 rfl) ?_
                    refine lv_iload C.1 C.2.1 dX8_tells_213 (lv_at hl 5 rfl) ?_
                    refine lv_bipush (v := II 6) C.1 C.2.1 dX8_tells_215 (by decide) ?_
                    refine x_icmp_ge (tgt := 228) C ⟨by decide, by decide⟩ ⟨by decide, by decide⟩ dX8_tells_217 (by decide) (fun _ => ?_) (fun h => absurd h (by decide))
                    refine lv_iconst (v := II 0) C.1 C.2.1 dX8_tells_228 rfl ?_
                    refine x_icmp_lt (tgt := 283) C ⟨by omega, by omega⟩ ⟨by decide, by decide⟩ dX8_tells_229 (by decide) (fun c229 => ?_) (fun c229 => ?_)
                    · refine lv_aload_n C.1 C.2.1 dX8_tells_283 rfl (lv_at hl 0 rfl) ?_
                      refine lv_iload C.1 C.2.1 dX8_tells_284 (lv_at hl 5 rfl) ?_
                      refine lv_iload_n C.1 C.2.1 dX8_tells_286 rfl (lv_at hl 3 rfl) ?_
                      refine lv_iload C.1 C.2.1 dX8_tells_287 (lv_at hl 6 rfl) ?_
                      refine x_cv (x_runV (n := 3) C hw hS hml hl.1 70 8 (by omega) rfl (by decide) rfl (c_X8_lays6 l g M3 hF q gz_q (t : Int) ⟨by have := g_M 70004; have := hM.2.2.2.2.1.1; omega, by have := g_M 70004; have := hM.2.2.2.2.1.1; omega⟩) mw_1200 mw_1202 mw_107 mw_130 mw_1203 rfl rfl (by decide +kernel) ⟨Nat.le_of_ble_eq_true rfl, Nat.le_of_ble_eq_true rfl⟩ rfl rfl (Nat.le_of_ble_eq_true rfl) dX8_tells_289 ⟨Nat.zero_le _, Nat.zero_le _⟩) hS (fun M289 H locs hp hw hS => ?_)
                      have em289 := hp
                      have hw : Wo g (stM M3 70004 (t : Int)) H := em289 ▸ hw
                      refine lv_iload C.1 C.2.1 dX8_tells_292 (lv_at hl 4 rfl) ?_
                      refine lv_iconst (v := II 5) C.1 C.2.1 dX8_tells_294 rfl ?_
                      refine x_icmp_ge (tgt := 303) C ⟨by decide, by decide⟩ ⟨by decide, by decide⟩ dX8_tells_295 (by decide) (fun h => absurd h (by decide)) (fun _ => ?_)
                      refine lv_iload C.1 C.2.1 dX8_tells_298 (lv_at hl 8 rfl) ?_
                      refine lv_goto (tgt := 318) C.1 C.2.1 dX8_tells_300 (by decide) ?_
                      subst hQQ; exact x_ireturn C hr hlk hw hS ⟨by omega, by omega⟩ rfl ⟨(by have hj0 : j = 0 := (by omega); subst hj0; unfold r_tells; rw [if_neg (by rw [eok]; decide)]; simp only [Int.toNat_natCast]; rw [if_neg zs1, if_neg (fun z => z hz6), if_neg (by decide), if_pos trivial]; subst hFe; exact bits0), (hR.fr hA (fun m hm _ => by
      by_cases e : m = 70004
      · rw [e, st_s]; exact hR.1.1.2.2.2.symm
      · rw [st_n e]; exact hf3 m (fun z => z.elim (fun y => hm (Or.inl y)) e))), (fun m hm => by rw [st_n (by omega), hf3 m (by unfold scm; omega)])⟩ dX8_tells_318
                    · obtain ⟨y, rfl⟩ : ∃ y, j = y + 1 := ⟨j - 1, by omega⟩
                      have ev : 0 + (((y + 1) : Nat) : Int) - 1 = 0 + (y : Int) := by omega
                      have hl : lv_has ls 12 [(0, .ref (gA g 70)), (1, .int (II (k : Int))), (2, .int (II ho)), (3, .int (II q)), (4, .int (II 1)), (5, .int (II 6)), (6, .int (II (t : Int))), (7, .int (II ((X.1 : Int) - 1))), (8, .int (II (bitsS F X.1 - bitsS F (y + 1)))), (9, .int (II (cnt F X.1 - cnt F (y + 1)))), (10, .int (II (leaS (fun x => F (x + (y + 1))) (0 + (((y + 1) : Nat) : Int)) (-1) (X.1 - (y + 1))))), (11, .int (II (0 + (y : Int))))] := by rw [← ev]; exact hl
                      have hb1 := bitsS_in F (y + 1)
                      have hci1 := cnt_in F (y + 1)
                      refine lv_aload_n C.1 C.2.1 dX8_tells_232 rfl (lv_at hl 0 rfl) ?_
                      refine lv_iload C.1 C.2.1 dX8_tells_233 (lv_at hl 5 rfl) ?_
                      refine lv_iload_n C.1 C.2.1 dX8_tells_235 rfl (lv_at hl 3 rfl) ?_
                      refine lv_iload C.1 C.2.1 dX8_tells_236 (lv_at hl 11 rfl) ?_
                      refine x_cv (x_runV (n := 3) C hw hS hml hl.1 70 8 (by omega) rfl (by decide) rfl (c_X8_lays6 l g M3 hF q gz_q (0 + (y : Int)) ⟨by omega, by omega⟩) mw_1200 mw_1202 mw_107 mw_130 mw_1203 rfl rfl (by decide +kernel) ⟨Nat.le_of_ble_eq_true rfl, Nat.le_of_ble_eq_true rfl⟩ rfl rfl (Nat.le_of_ble_eq_true rfl) dX8_tells_238 ⟨Nat.zero_le _, Nat.zero_le _⟩) hS (fun M238 H locs hp hw hS => ?_)
                      have em238 := hp
                      have hw : Wo g (stM M3 70004 (0 + (y : Int))) H := em238 ▸ hw
                      refine lv_aload_n C.1 C.2.1 dX8_tells_241 rfl (lv_at hl 0 rfl) ?_
                      refine lv_iload_n C.1 C.2.1 dX8_tells_242 rfl (lv_at hl 1 rfl) ?_
                      refine lv_iload_n C.1 C.2.1 dX8_tells_243 rfl (lv_at hl 2 rfl) ?_
                      refine x_ci (x_runV (n := 2) C hw hS hml hl.1 70 8 (by omega) rfl (by decide) rfl (c_X8_firstOther l g (stM M3 70004 (0 + (y : Int))) hF n v nt y (X.2.1 y) (hM.rl (j := y) (fun m hm => by unfold sc4 scm at hm; rw [st_n (by omega)]; exact hf3 m (by unfold scm; omega)) (by rw [st_s]; omega) (by omega) (hR.2.1.2.1 y (by omega))) k (by omega) (Sh.2.2 k) (fun h hh => (st_n (by omega)).trans ((hf3 _ (by unfold scm; omega)).trans (zs5 h (by rw [hz6]; omega)))) ho gz_ho) mw_1306 mw_1308 mw_114 mw_130 mw_1309 rfl rfl (by decide +kernel) ⟨Nat.le_of_ble_eq_true rfl, Nat.le_of_ble_eq_true rfl⟩ rfl rfl (Nat.le_of_ble_eq_true rfl) dX8_tells_244 ⟨Nat.zero_le _, Nat.zero_le _⟩) hS (fun r244 M244 H locs hr244 hp hw hS => ?_)
                      obtain ⟨er244, h244f⟩ := hp
                      have g_M244 := hw.rg
                      rw [er244] at hr244 ⊢
                      have hfo := foS_in (fun h => reedS v n nt (X.2.1 y) ho h) (Sh.2.2 k)
                      refine lv_iconst (v := II (-1)) C.1 C.2.1 dX8_tells_247 rfl ?_
                      refine x_icmp_ne (tgt := 277) C hr244 ⟨by decide, by decide⟩ dX8_tells_248 (by decide) (fun c248 => ?_) (fun c248 => ?_)
                      · skip
                        refine lv_iinc (v := II (0 + (y : Int) + (-1))) (lv' := [(11, .int (II (0 + (y : Int) + (-1)))), (0, .ref (gA g 70)), (1, .int (II (k : Int))), (2, .int (II ho)), (3, .int (II q)), (4, .int (II 1)), (5, .int (II 6)), (6, .int (II (t : Int))), (7, .int (II ((X.1 : Int) - 1))), (8, .int (II (bitsS F X.1 - bitsS F (y + 1)))), (9, .int (II (cnt F X.1 - cnt F (y + 1)))), (10, .int (II (leaS (fun x => F (x + (y + 1))) (0 + (((y + 1) : Nat) : Int)) (-1) (X.1 - (y + 1)))))]) C.1 C.2.1 dX8_tells_277 hl (k := 11) rfl (II_add _ _) (by decide) rfl (fun ls hl => ?_)
                        refine lv_goto (tgt := 211) C.1 C.2.1 dX8_tells_280 (by decide) ?_
                        have hFy : F y = false := by rw [hFe]; exact decide_eq_false c248
                        have e8 : bitsS F X.1 - bitsS F y = (bitsS F X.1 - bitsS F (y + 1) : Int) := bits_f hFy
                        have e9 : cnt F X.1 - cnt F y = (cnt F X.1 - cnt F (y + 1) : Int) := cntf_ hFy
                        have e10 : leaS (fun x => F (x + y)) (0 + ((y : Nat) : Int)) (-1) (X.1 - y) = (leaS (fun x => F (x + (y + 1))) (0 + (((y + 1) : Nat) : Int)) (-1) (X.1 - (y + 1)) : Int) := lea_f hFy (by omega)
                        have e11 : 0 + ((y : Nat) : Int) - 1 = (0 + (y : Int) + (-1) : Int) := by omega
                        have hl : lv_has ls 12 [(11, .int (II (0 + ((y : Nat) : Int) - 1))), (0, .ref (gA g 70)), (1, .int (II (k : Int))), (2, .int (II ho)), (3, .int (II q)), (4, .int (II 1)), (5, .int (II 6)), (6, .int (II (t : Int))), (7, .int (II ((X.1 : Int) - 1))), (8, .int (II (bitsS F X.1 - bitsS F y))), (9, .int (II (cnt F X.1 - cnt F y))), (10, .int (II (leaS (fun x => F (x + y)) (0 + ((y : Nat) : Int)) (-1) (X.1 - y))))] := by rw [e8, e9, e10, e11]; exact hl
                        exact ih211  y M244 (by omega) (by omega) (fun m hm => by rw [h244f m (fun z => hm (Or.inl z)), st_n (fun z => hm (Or.inr z))]; exact hf3 m hm) _ _ _ hw hS (lv_sub hl [1, 2, 3, 4, 5, 6, 7, 8, 9, 10, 11, 0] rfl)
                      · skip
                        refine lv_iload C.1 C.2.1 dX8_tells_251 (lv_at hl 8 rfl) ?_
                        refine lv_iload C.1 C.2.1 dX8_tells_253 (lv_at hl 4 rfl) ?_
                        refine lv_iconst (v := II 5) C.1 C.2.1 dX8_tells_255 rfl ?_
                        refine x_icmp_ge (tgt := 266) C ⟨by decide, by decide⟩ ⟨by decide, by decide⟩ dX8_tells_256 (by decide) (fun h => absurd h (by decide)) (fun _ => ?_)
                        refine lv_iconst (v := II 1) C.1 C.2.1 dX8_tells_259 rfl ?_
                        refine lv_iload C.1 C.2.1 dX8_tells_260 (lv_at hl 11 rfl) ?_
                        refine lv_ishl C.1 C.2.1 dX8_tells_262 ?_
                        refine lv_goto (tgt := 267) C.1 C.2.1 dX8_tells_263 (by decide) ?_
                        refine lv_ior C.1 C.2.1 dX8_tells_267 ?_
                        rw [show II (0 + (y : Int)) = II (y : Int) by congr 1; omega, or_up (F := F) (mm := X.1) (y := y) (by omega) (by omega)]
                        refine lv_istore (lv' := [(8, .int (II (bitsS F X.1 - bitsS F (y + 1) + 2 ^ y))), (0, .ref (gA g 70)), (1, .int (II (k : Int))), (2, .int (II ho)), (3, .int (II q)), (4, .int (II 1)), (5, .int (II 6)), (6, .int (II (t : Int))), (7, .int (II ((X.1 : Int) - 1))), (9, .int (II (cnt F X.1 - cnt F (y + 1)))), (10, .int (II (leaS (fun x => F (x + (y + 1))) (0 + (((y + 1) : Nat) : Int)) (-1) (X.1 - (y + 1))))), (11, .int (II (0 + (y : Int))))]) C.1 C.2.1 dX8_tells_268 hl (by decide) rfl (fun ls hl => ?_)
                        refine lv_iinc (v := II (cnt F X.1 - cnt F (y + 1) + 1)) (lv' := [(9, .int (II (cnt F X.1 - cnt F (y + 1) + 1))), (8, .int (II (bitsS F X.1 - bitsS F (y + 1) + 2 ^ y))), (0, .ref (gA g 70)), (1, .int (II (k : Int))), (2, .int (II ho)), (3, .int (II q)), (4, .int (II 1)), (5, .int (II 6)), (6, .int (II (t : Int))), (7, .int (II ((X.1 : Int) - 1))), (10, .int (II (leaS (fun x => F (x + (y + 1))) (0 + (((y + 1) : Nat) : Int)) (-1) (X.1 - (y + 1))))), (11, .int (II (0 + (y : Int))))]) C.1 C.2.1 dX8_tells_270 hl (k := 9) rfl (II_add _ _) (by decide) rfl (fun ls hl => ?_)
                        refine lv_iload C.1 C.2.1 dX8_tells_273 (lv_at hl 11 rfl) ?_
                        refine lv_istore (lv' := [(10, .int (II (0 + (y : Int)))), (9, .int (II (cnt F X.1 - cnt F (y + 1) + 1))), (8, .int (II (bitsS F X.1 - bitsS F (y + 1) + 2 ^ y))), (0, .ref (gA g 70)), (1, .int (II (k : Int))), (2, .int (II ho)), (3, .int (II q)), (4, .int (II 1)), (5, .int (II 6)), (6, .int (II (t : Int))), (7, .int (II ((X.1 : Int) - 1))), (11, .int (II (0 + (y : Int))))]) C.1 C.2.1 dX8_tells_275 hl (by decide) rfl (fun ls hl => ?_)
                        skip
                        refine lv_iinc (v := II (0 + (y : Int) + (-1))) (lv' := [(11, .int (II (0 + (y : Int) + (-1)))), (10, .int (II (0 + (y : Int)))), (9, .int (II (cnt F X.1 - cnt F (y + 1) + 1))), (8, .int (II (bitsS F X.1 - bitsS F (y + 1) + 2 ^ y))), (0, .ref (gA g 70)), (1, .int (II (k : Int))), (2, .int (II ho)), (3, .int (II q)), (4, .int (II 1)), (5, .int (II 6)), (6, .int (II (t : Int))), (7, .int (II ((X.1 : Int) - 1)))]) C.1 C.2.1 dX8_tells_277 hl (k := 11) rfl (II_add _ _) (by decide) rfl (fun ls hl => ?_)
                        refine lv_goto (tgt := 211) C.1 C.2.1 dX8_tells_280 (by decide) ?_
                        have hFy : F y = true := by rw [hFe]; exact decide_eq_true c248
                        have e8 : bitsS F X.1 - bitsS F y = (bitsS F X.1 - bitsS F (y + 1) + 2 ^ y : Int) := bits_t hFy
                        have e9 : cnt F X.1 - cnt F y = (cnt F X.1 - cnt F (y + 1) + 1 : Int) := cntt_ hFy
                        have e10 : leaS (fun x => F (x + y)) (0 + ((y : Nat) : Int)) (-1) (X.1 - y) = (0 + (y : Int) : Int) := lea_t hFy (by omega)
                        have e11 : 0 + ((y : Nat) : Int) - 1 = (0 + (y : Int) + (-1) : Int) := by omega
                        have hl : lv_has ls 12 [(11, .int (II (0 + ((y : Nat) : Int) - 1))), (10, .int (II (leaS (fun x => F (x + y)) (0 + ((y : Nat) : Int)) (-1) (X.1 - y)))), (9, .int (II (cnt F X.1 - cnt F y))), (8, .int (II (bitsS F X.1 - bitsS F y))), (0, .ref (gA g 70)), (1, .int (II (k : Int))), (2, .int (II ho)), (3, .int (II q)), (4, .int (II 1)), (5, .int (II 6)), (6, .int (II (t : Int))), (7, .int (II ((X.1 : Int) - 1)))] := by rw [e8, e9, e10, e11]; exact hl
                        exact ih211  y M244 (by omega) (by omega) (fun m hm => by rw [h244f m (fun z => hm (Or.inl z)), st_n (fun z => hm (Or.inr z))]; exact hf3 m hm) _ _ _ hw hS (lv_sub hl [4, 5, 6, 7, 8, 9, 10, 11, 3, 2, 1, 0] rfl)
                have e8 : bitsS F X.1 - bitsS F X.1 = (0 : Int) := by first | (rw [Int.sub_self]; done) | (rw [lea_end]; done) | omega | rfl | simp
                have e9 : cnt F X.1 - cnt F X.1 = (0 : Int) := by first | (rw [Int.sub_self]; done) | (rw [lea_end]; done) | omega | rfl | simp
                have e10 : leaS (fun x => F (x + X.1)) (0 + ((X.1 : Nat) : Int)) (-1) (X.1 - X.1) = ((-1) : Int) := by first | (rw [Int.sub_self]; done) | (rw [lea_end]; done) | omega | rfl | simp
                have e11 : 0 + ((X.1 : Nat) : Int) - 1 = ((X.1 : Int) - 1 : Int) := by first | (rw [Int.sub_self]; done) | (rw [lea_end]; done) | omega | rfl | simp
                have hl : lv_has ls 12 [(11, .int (II (0 + ((X.1 : Nat) : Int) - 1))), (10, .int (II (leaS (fun x => F (x + X.1)) (0 + ((X.1 : Nat) : Int)) (-1) (X.1 - X.1)))), (9, .int (II (cnt F X.1 - cnt F X.1))), (8, .int (II (bitsS F X.1 - bitsS F X.1))), (7, .int (II ((X.1 : Int) - 1))), (6, .int (II (t : Int))), (5, .int (II 6)), (0, .ref (gA g 70)), (1, .int (II (k : Int))), (2, .int (II ho)), (3, .int (II q)), (4, .int (II 1))] := by rw [e8, e9, e10, e11]; exact hl
                exact L211 _ X.1 M (Nat.lt_succ_self _) (by omega) (fun _ _ => rfl) _ _ _ hw hS (lv_sub hl [7, 8, 9, 10, 11, 6, 5, 4, 3, 2, 1, 0] rfl)
              · have hl : lv_has ls 12 [(0, .ref (gA g 70)), (1, .int (II (k : Int))), (2, .int (II ho)), (3, .int (II q)), (4, .int (II 2))] := hl
                obtain ⟨i, rfl⟩ : ∃ i : Nat, q = (i : Int) := ⟨q.toNat, by omega⟩
                obtain ⟨F, hFe⟩ : ∃ F : Nat → Bool, F = (fun (j : Nat) => ftF v n nt (X.2.1 t) ho (Sh.2.2 k) i 0 (0 + (j : Int))) := ⟨_, rfl⟩
                exfalso; omega
              · have hl : lv_has ls 12 [(0, .ref (gA g 70)), (1, .int (II (k : Int))), (2, .int (II ho)), (3, .int (II q)), (4, .int (II 3))] := hl
                obtain ⟨i, rfl⟩ : ∃ i : Nat, q = (i : Int) := ⟨q.toNat, by omega⟩
                obtain ⟨F, hFe⟩ : ∃ F : Nat → Bool, F = (fun (j : Nat) => ftF v n nt (X.2.1 t) ho (Sh.2.2 k) i 1 (0 + (j : Int))) := ⟨_, rfl⟩
                exfalso; omega
              · have hl : lv_has ls 12 [(0, .ref (gA g 70)), (1, .int (II (k : Int))), (2, .int (II ho)), (3, .int (II q)), (4, .int (II 4))] := hl
                obtain ⟨i, rfl⟩ : ∃ i : Nat, q = (i : Int) := ⟨q.toNat, by omega⟩
                obtain ⟨F, hFe⟩ : ∃ F : Nat → Bool, F = (fun (j : Nat) => ftF v n nt (X.2.1 t) ho (Sh.2.2 k) i 2 (0 + (j : Int))) := ⟨_, rfl⟩
                exfalso; omega
              · have hl : lv_has ls 12 [(0, .ref (gA g 70)), (1, .int (II (k : Int))), (2, .int (II ho)), (3, .int (II q)), (4, .int (II 5))] := hl
                obtain ⟨i, rfl⟩ : ∃ i : Nat, q = (i : Int) := ⟨q.toNat, by omega⟩
                obtain ⟨F, hFe⟩ : ∃ F : Nat → Bool, F = (fun (j : Nat) => ftF v n nt (X.2.1 t) ho (Sh.2.2 k) i 3 ((-20) + (j : Int))) := ⟨_, rfl⟩
                exfalso; omega
              · have hl : lv_has ls 12 [(0, .ref (gA g 70)), (1, .int (II (k : Int))), (2, .int (II ho)), (3, .int (II q)), (4, .int (II 6))] := hl
                obtain ⟨i, rfl⟩ : ∃ i : Nat, q = (i : Int) := ⟨q.toNat, by omega⟩
                obtain ⟨F, hFe⟩ : ∃ F : Nat → Bool, F = (fun (j : Nat) => ftF v n nt (X.2.1 t) ho (Sh.2.2 k) i 3 ((-20) + (j : Int))) := ⟨_, rfl⟩
                exfalso; omega
              · have hl : lv_has ls 12 [(0, .ref (gA g 70)), (1, .int (II (k : Int))), (2, .int (II ho)), (3, .int (II q)), (4, .int (II 7))] := hl
                obtain ⟨i, rfl⟩ : ∃ i : Nat, q = (i : Int) := ⟨q.toNat, by omega⟩
                obtain ⟨F, hFe⟩ : ∃ F : Nat → Bool, F = (fun (j : Nat) => ftF v n nt (X.2.1 t) ho (Sh.2.2 k) i 4 (0 + (j : Int))) := ⟨_, rfl⟩
                exfalso; omega
              · have hl : lv_has ls 12 [(0, .ref (gA g 70)), (1, .int (II (k : Int))), (2, .int (II ho)), (3, .int (II q)), (4, .int (II 8))] := hl
                obtain ⟨i, rfl⟩ : ∃ i : Nat, q = (i : Int) := ⟨q.toNat, by omega⟩
                obtain ⟨F, hFe⟩ : ∃ F : Nat → Bool, F = (fun (j : Nat) => ftF v n nt (X.2.1 t) ho (Sh.2.2 k) i 4 (0 + (j : Int))) := ⟨_, rfl⟩
                exfalso; omega
            · refine lv_bipush (v := II (-2)) C.1 C.2.1 dX8_tells_67 (by decide) ?_
              subst hQQ; exact x_ireturn C hr hlk hw hS ⟨by decide, by decide⟩ rfl ⟨(by unfold r_tells; rw [if_neg (by rw [eok]; decide)]; simp only [Int.toNat_natCast]; rw [if_neg zs1, if_pos (by omega)]), hR, (fun _ _ => rfl)⟩ dX8_tells_69
        · refine lv_aload_n C.1 C.2.1 dX8_tells_33 rfl (lv_at hl 0 rfl) ?_
          refine lv_iload_n C.1 C.2.1 dX8_tells_34 rfl (lv_at hl 3 rfl) ?_
          refine x_ci (x_runV (n := 1) C hw hS hml hl.1 70 8 (by omega) rfl (by decide) rfl (c_X8_isOne l g M hF n hM.1 q gz_q) mw_960 mw_962 mw_53 mw_130 mw_963 rfl rfl (by decide +kernel) ⟨Nat.le_of_ble_eq_true rfl, Nat.le_of_ble_eq_true rfl⟩ rfl rfl (Nat.le_of_ble_eq_true rfl) dX8_tells_35 ⟨Nat.zero_le _, Nat.zero_le _⟩) hS (fun r35 M35 H locs hr35 hp hw hS => ?_)
          rcases hp with ⟨em35, (⟨er35, h35b⟩ | ⟨er35, h35b⟩)⟩
          · have hw : Wo g M H := em35 ▸ hw
            rw [er35]
            refine x_if_ne (tgt := 44) C ⟨by decide, by decide⟩ dX8_tells_38 (by decide) (fun _ => ?_) (fun h => absurd h (by decide))
            have hw9 : 0 ≤ w ∧ w ≤ 8 := h21b
            have hq1 : w ≤ 1 ∨ (0 ≤ q ∧ q < n) := by first | (left; omega) | exact Or.inr h35b
            obtain ⟨k, rfl⟩ : ∃ i : Nat, s0 = (i : Int) := ⟨s0.toNat, by omega⟩
            have eok : okTl n (k : Int) ho q w = true := decide_eq_true ⟨by omega, hho4, hw9, hq1⟩
            have hszk := hA.2.2.2.2 k (by omega)
            refine lv_aload_n C.1 C.2.1 dX8_tells_44 rfl (lv_at hl 0 rfl) ?_
            rcases hR.2.2.2.1 k (by omega) with ⟨zs1, zs2⟩ | ⟨zs1, zs2, zs3, zs4, zs5⟩
            · refine g8 C hw 70 (by omega) rfl 38 (by decide) mw_862 (svr (hF.2 _)) dX8_tells_45 ?_
              refine lv_iload_n C.1 C.2.1 dX8_tells_48 rfl (lv_at hl 1 rfl) ?_
              refine x_baload (L := 4) C hw 80 (by omega) rfl rfl (by omega) (by omega) (by decide) (x := 0) zs2 dX8_tells_49 ?_
              refine x_if_ne (tgt := 56) C ⟨by decide, by decide⟩ dX8_tells_50 (by decide) (fun h => absurd h (by decide)) (fun _ => ?_)
              refine lv_bipush (v := II (-11)) C.1 C.2.1 dX8_tells_53 (by decide) ?_
              subst hQQ; exact x_ireturn C hr hlk hw hS ⟨by decide, by decide⟩ rfl ⟨(by unfold r_tells; rw [if_neg (by rw [eok]; decide)]; simp only [Int.toNat_natCast]; rw [if_pos zs1]), hR, (fun _ _ => rfl)⟩ dX8_tells_55
            · refine g8 C hw 70 (by omega) rfl 38 (by decide) mw_862 (svr (hF.2 _)) dX8_tells_45 ?_
              refine lv_iload_n C.1 C.2.1 dX8_tells_48 rfl (lv_at hl 1 rfl) ?_
              refine x_baload (L := 4) C hw 80 (by omega) rfl rfl (by omega) (by omega) (by decide) (x := 1) zs2 dX8_tells_49 ?_
              refine x_if_ne (tgt := 56) C ⟨by decide, by decide⟩ dX8_tells_50 (by decide) (fun _ => ?_) (fun h => absurd h (by decide))
              refine lv_aload_n C.1 C.2.1 dX8_tells_56 rfl (lv_at hl 0 rfl) ?_
              refine g8 C hw 70 (by omega) rfl 40 (by decide) mw_864 (svr (hF.2 _)) dX8_tells_57 ?_
              refine lv_iload_n C.1 C.2.1 dX8_tells_60 rfl (lv_at hl 1 rfl) ?_
              refine x_iaload (L := 4) C hw 82 (by omega) rfl rfl (by omega) (by omega) (by decide) (x := Sh.2.1 k) zs4 dX8_tells_61 ?_
              refine lv_bipush (v := II 6) C.1 C.2.1 dX8_tells_62 (by decide) ?_
              refine x_icmp_eq (tgt := 70) C ⟨by have := g_M (82000 + k); have := zs4; omega, by have := g_M (82000 + k); have := zs4; omega⟩ ⟨by decide, by decide⟩ dX8_tells_64 (by decide) (fun c64 => ?_) (fun c64 => ?_)
              · have hz6 : Sh.2.1 k = 6 := by omega
                obtain ⟨hw0, hw8⟩ : 0 ≤ w ∧ w ≤ 8 := h21b
                rcases (show w = 0 ∨ w = 1 ∨ w = 2 ∨ w = 3 ∨ w = 4 ∨ w = 5 ∨ w = 6 ∨ w = 7 ∨ w = 8 by omega) with rfl | rfl | rfl | rfl | rfl | rfl | rfl | rfl | rfl
                · have hl : lv_has ls 12 [(0, .ref (gA g 70)), (1, .int (II (k : Int))), (2, .int (II ho)), (3, .int (II q)), (4, .int (II 0))] := hl
                  exfalso; omega
                · have hl : lv_has ls 12 [(0, .ref (gA g 70)), (1, .int (II (k : Int))), (2, .int (II ho)), (3, .int (II q)), (4, .int (II 1))] := hl
                  obtain ⟨F, hFe⟩ : ∃ F : Nat → Bool, F = (ftT v n nt X.2.1 ho (Sh.2.2 k)) := ⟨_, rfl⟩
                  exfalso; omega
                · have hl : lv_has ls 12 [(0, .ref (gA g 70)), (1, .int (II (k : Int))), (2, .int (II ho)), (3, .int (II q)), (4, .int (II 2))] := hl
                  obtain ⟨i, rfl⟩ : ∃ i : Nat, q = (i : Int) := ⟨q.toNat, by omega⟩
                  obtain ⟨F, hFe⟩ : ∃ F : Nat → Bool, F = (fun (j : Nat) => ftF v n nt (X.2.1 t) ho (Sh.2.2 k) i 0 (0 + (j : Int))) := ⟨_, rfl⟩
                  refine lv_iload C.1 C.2.1 dX8_tells_70 (lv_at hl 4 rfl) ?_
                  refine x_if_ne (tgt := 82) C ⟨by decide, by decide⟩ dX8_tells_72 (by decide) (fun _ => ?_) (fun h => absurd h (by decide))
                  refine lv_iload C.1 C.2.1 dX8_tells_82 (lv_at hl 4 rfl) ?_
                  refine lv_iconst (v := II 1) C.1 C.2.1 dX8_tells_84 rfl ?_
                  refine x_icmp_ne (tgt := 93) C ⟨by decide, by decide⟩ ⟨by decide, by decide⟩ dX8_tells_85 (by decide) (fun _ => ?_) (fun h => absurd h (by decide))
                  refine lv_iload C.1 C.2.1 dX8_tells_93 (lv_at hl 4 rfl) ?_
                  refine lv_iconst (v := II 2) C.1 C.2.1 dX8_tells_95 rfl ?_
                  refine x_icmp_ne (tgt := 103) C ⟨by decide, by decide⟩ ⟨by decide, by decide⟩ dX8_tells_96 (by decide) (fun h => absurd h (by decide)) (fun _ => ?_)
                  refine lv_iconst (v := II 5) C.1 C.2.1 dX8_tells_99 rfl ?_
                  refine lv_goto (tgt := 128) C.1 C.2.1 dX8_tells_100 (by decide) ?_
                  refine lv_istore (lv' := [(5, .int (II 5)), (0, .ref (gA g 70)), (1, .int (II (k : Int))), (2, .int (II ho)), (3, .int (II (i : Int))), (4, .int (II 2))]) C.1 C.2.1 dX8_tells_128 hl (by decide) rfl (fun ls hl => ?_)
                  refine lv_iload C.1 C.2.1 dX8_tells_130 (lv_at hl 0 rfl) ?_
                  refine lv_bipush (v := II 6) C.1 C.2.1 dX8_tells_132 (by decide) ?_
                  refine x_icmp_ne (tgt := 144) C ⟨by decide, by decide⟩ ⟨by decide, by decide⟩ dX8_tells_134 (by decide) (fun _ => ?_) (fun h => absurd h (by decide))
                  refine lv_aload_n C.1 C.2.1 dX8_tells_144 rfl (lv_at hl 1 rfl) ?_
                  refine lv_iload_n C.1 C.2.1 dX8_tells_145 rfl (lv_at hl 4 rfl) ?_
                  refine lv_iload C.1 C.2.1 dX8_tells_146 (lv_at hl 0 rfl) ?_
                  refine x_ci (x_runV (n := 2) C hw hS hml hl.1 70 8 (by omega) rfl (by decide) rfl (c_X8_told l g M hF n v nt pd t X I Sh hR hA (i : Int) ⟨by omega, by omega⟩ 5 ⟨by decide, by decide⟩) mw_970 mw_971 mw_972 mw_130 mw_973 rfl rfl (by decide +kernel) ⟨Nat.le_of_ble_eq_true rfl, Nat.le_of_ble_eq_true rfl⟩ rfl rfl (Nat.le_of_ble_eq_true rfl) dX8_tells_148 ⟨Nat.zero_le _, Nat.zero_le _⟩) hS (fun r148 M148 H locs hr148 hp hw hS => ?_)
                  obtain ⟨er148, h148r, h148k⟩ := hp
                  have g_M148 := hw.rg
                  rw [er148] at hr148 ⊢
                  have ew : r_told v n nt (X.2.1 t) (i : Int) 5 = v i 0 := by
                    unfold r_told
                    rw [if_neg (by decide), if_neg (fun z => z (by omega)), if_neg (by decide), if_pos rfl]; rfl
                  rw [ew]
                  have hMB : MB M148 n v nt t (X.2.1 t) (-1) := h148r.mb hA
                  have hq0 := hM.2.2.1 i (by omega)
                  obtain ⟨-, -, -, -, q5⟩ : Sh.1 k ≠ -1 ∧ M148 (80000 + k) = 1 ∧ M148 (81000 + k) = Sh.1 k ∧ M148 (82000 + k) = Sh.2.1 k ∧ ∀ j : Nat, (j : Int) < Sh.2.1 k → M148 (83000 + (40 * k + j)) = Sh.2.2 k j := by
                    rcases h148r.2.2.2.1 k (by omega) with z | z
                    · exact absurd z.1 zs1
                    · exact z
                  refine lv_istore (lv' := [(6, .int (II (v i 0))), (5, .int (II 5)), (0, .ref (gA g 70)), (1, .int (II (k : Int))), (2, .int (II ho)), (3, .int (II (i : Int))), (4, .int (II 2))]) C.1 C.2.1 dX8_tells_151 hl (by decide) rfl (fun ls hl => ?_)
                  refine lv_iload C.1 C.2.1 dX8_tells_153 (lv_at hl 1 rfl) ?_
                  refine lv_bipush (v := II 6) C.1 C.2.1 dX8_tells_155 (by decide) ?_
                  refine x_icmp_ne (tgt := 169) C ⟨by decide, by decide⟩ ⟨by decide, by decide⟩ dX8_tells_157 (by decide) (fun _ => ?_) (fun h => absurd h (by decide))
                  refine lv_iload C.1 C.2.1 dX8_tells_169 (lv_at hl 1 rfl) ?_
                  refine lv_iconst (v := II 5) C.1 C.2.1 dX8_tells_171 rfl ?_
                  refine x_icmp_ne (tgt := 179) C ⟨by decide, by decide⟩ ⟨by decide, by decide⟩ dX8_tells_172 (by decide) (fun h => absurd h (by decide)) (fun _ => ?_)
                  refine lv_iconst (v := II 5) C.1 C.2.1 dX8_tells_175 rfl ?_
                  refine lv_goto (tgt := 184) C.1 C.2.1 dX8_tells_176 (by decide) ?_
                  refine lv_istore (lv' := [(7, .int (II 5)), (6, .int (II (v i 0))), (5, .int (II 5)), (0, .ref (gA g 70)), (1, .int (II (k : Int))), (2, .int (II ho)), (3, .int (II (i : Int))), (4, .int (II 2))]) C.1 C.2.1 dX8_tells_184 hl (by decide) rfl (fun ls hl => ?_)
                  refine lv_iconst (v := II 0) C.1 C.2.1 dX8_tells_186 rfl ?_
                  refine lv_istore (lv' := [(8, .int (II 0)), (7, .int (II 5)), (6, .int (II (v i 0))), (5, .int (II 5)), (0, .ref (gA g 70)), (1, .int (II (k : Int))), (2, .int (II ho)), (3, .int (II (i : Int))), (4, .int (II 2))]) C.1 C.2.1 dX8_tells_187 hl (by decide) rfl (fun ls hl => ?_)
                  refine lv_iconst (v := II 0) C.1 C.2.1 dX8_tells_189 rfl ?_
                  refine lv_istore (lv' := [(9, .int (II 0)), (8, .int (II 0)), (7, .int (II 5)), (6, .int (II (v i 0))), (5, .int (II 5)), (0, .ref (gA g 70)), (1, .int (II (k : Int))), (2, .int (II ho)), (3, .int (II (i : Int))), (4, .int (II 2))]) C.1 C.2.1 dX8_tells_190 hl (by decide) rfl (fun ls hl => ?_)
                  refine lv_iload C.1 C.2.1 dX8_tells_192 (lv_at hl 9 rfl) ?_
                  refine lv_bipush (v := II 6) C.1 C.2.1 dX8_tells_194 (by decide) ?_
                  refine x_icmp_ne (tgt := 204) C ⟨by decide, by decide⟩ ⟨by decide, by decide⟩ dX8_tells_196 (by decide) (fun _ => ?_) (fun h => absurd h (by decide))
                  refine lv_iconst (v := II (-1)) C.1 C.2.1 dX8_tells_204 rfl ?_
                  refine lv_istore (lv' := [(10, .int (II (-1))), (9, .int (II 0)), (8, .int (II 0)), (7, .int (II 5)), (6, .int (II (v i 0))), (5, .int (II 5)), (0, .ref (gA g 70)), (1, .int (II (k : Int))), (2, .int (II ho)), (3, .int (II (i : Int))), (4, .int (II 2))]) C.1 C.2.1 dX8_tells_205 hl (by decide) rfl (fun ls hl => ?_)
                  refine lv_iload C.1 C.2.1 dX8_tells_207 (lv_at hl 3 rfl) ?_
                  refine lv_istore (lv' := [(11, .int (II 5)), (10, .int (II (-1))), (9, .int (II 0)), (8, .int (II 0)), (7, .int (II 5)), (6, .int (II (v i 0))), (5, .int (II 5)), (0, .ref (gA g 70)), (1, .int (II (k : Int))), (2, .int (II ho)), (3, .int (II (i : Int))), (4, .int (II 2))]) C.1 C.2.1 dX8_tells_209 hl (by decide) rfl (fun ls hl => ?_)
                  have L211 : ∀ (f2 : Nat) (j : Nat) (M3 : Nat → Int), j < f2 → (j ≤ 6) → (∀ m, ¬ (scm m ∨ m = (74000 + i)) → M3 m = M148 m) → ∀ (H : Heap) (locs : List Loc) (ls : Array Slot), Wo g M3 H → va_S (ar g) s.heap H locs → lv_has ls 12 [(0, .ref (gA g 70)), (1, .int (II (k : Int))), (2, .int (II ho)), (3, .int (II (i : Int))), (4, .int (II 2)), (5, .int (II 5)), (6, .int (II (v i 0))), (7, .int (II 5)), (8, .int (II (bitsS F 6 - bitsS F j))), (9, .int (II (cnt F 6 - cnt F j))), (10, .int (II (leaS (fun x => F (x + j)) (0 + ((j : Nat) : Int)) (-1) (6 - j)))), (11, .int (II (0 + ((j : Nat) : Int) - 1)))] → W p l e (rmm 45 1001) s m args below meth c H locs 0 0 QQ (F0 m 211 ls []) := by
                    intro f2
                    induction f2 with
                    | zero => intro j M3 hmu; exact absurd hmu (Nat.not_lt_zero _)
                    | succ f2 ih =>
                      intro j M3 hmu h1 hf3 H locs ls hw hS hl
                      have ih211 := ih
                      have g_M3 := hw.rg
                      have hcj := cnt_in F j
                      have hcm := cnt_in F 6
                      have hbj := bitsS_in F j
                      have hbm := bitsS_in F 6
                      have hpm : (2 : Int) ^ (6) ≤ 1024 := pow11 (by omega)
                      have hsj : cnt F j ≤ cnt F 6 := cnt_mono (by omega)
                      have hbmj : bitsS F j ≤ bitsS F 6 := bits_mono (by omega)
                      have hle := lea_in (F := fun x => F (x + j)) (lo := 0 + ((j : Nat) : Int)) (no := (-1)) (m := 6 - j)
                      refine lv_iload C.1 C.2.1 dX8_tells_211 (lv_at hl 11 rfl) ?_
                      refine lv_iload C.1 C.2.1 dX8_tells_213 (lv_at hl 5 rfl) ?_
                      refine lv_bipush (v := II 6) C.1 C.2.1 dX8_tells_215 (by decide) ?_
                      refine x_icmp_ge (tgt := 228) C ⟨by decide, by decide⟩ ⟨by decide, by decide⟩ dX8_tells_217 (by decide) (fun h => absurd h (by decide)) (fun _ => ?_)
                      refine lv_iload C.1 C.2.1 dX8_tells_220 (lv_at hl 5 rfl) ?_
                      refine x_ci (x_runS (n := 1) C hw hS hml hl.1 (c_X8_leastOf l g M3 5 (by decide)) mw_964 mw_965 mw_130 mw_966 rfl rfl (by decide +kernel) ⟨Nat.le_of_ble_eq_true rfl, Nat.le_of_ble_eq_true rfl⟩ rfl rfl (Nat.le_of_ble_eq_true rfl) dX8_tells_222 ⟨Nat.zero_le _, Nat.zero_le _⟩) hS (fun r222 M222 H locs hr222 hp hw hS => ?_)
                      obtain ⟨em222, er222⟩ := hp
                      have hw : Wo g M3 H := em222 ▸ hw
                      rw [er222] at hr222 ⊢
                      rw [show loT 5 = (0 : Int) from by decide] at hr222 ⊢
                      refine lv_goto (tgt := 229) C.1 C.2.1 dX8_tells_225 (by decide) ?_
                      refine x_icmp_lt (tgt := 283) C ⟨by omega, by omega⟩ ⟨by decide, by decide⟩ dX8_tells_229 (by decide) (fun c229 => ?_) (fun c229 => ?_)
                      · refine lv_aload_n C.1 C.2.1 dX8_tells_283 rfl (lv_at hl 0 rfl) ?_
                        refine lv_iload C.1 C.2.1 dX8_tells_284 (lv_at hl 5 rfl) ?_
                        refine lv_iload_n C.1 C.2.1 dX8_tells_286 rfl (lv_at hl 3 rfl) ?_
                        refine lv_iload C.1 C.2.1 dX8_tells_287 (lv_at hl 6 rfl) ?_
                        refine x_cv (x_runV (n := 3) C hw hS hml hl.1 70 8 (by omega) rfl (by decide) rfl (c_X8_laysN l g M3 hF 5 (by omega) i (by omega) 0 (74000 + i) ⟨by unfold psP; omega, by omega⟩ (v i 0) ⟨by omega, by omega⟩) mw_1200 mw_1202 mw_107 mw_130 mw_1203 rfl rfl (by decide +kernel) ⟨Nat.le_of_ble_eq_true rfl, Nat.le_of_ble_eq_true rfl⟩ rfl rfl (Nat.le_of_ble_eq_true rfl) dX8_tells_289 ⟨Nat.zero_le _, Nat.zero_le _⟩) hS (fun M289 H locs hp hw hS => ?_)
                        have em289 := hp
                        have hw : Wo g (stM M3 (74000 + i) (v i 0)) H := em289 ▸ hw
                        refine lv_iload C.1 C.2.1 dX8_tells_292 (lv_at hl 4 rfl) ?_
                        refine lv_iconst (v := II 5) C.1 C.2.1 dX8_tells_294 rfl ?_
                        refine x_icmp_ge (tgt := 303) C ⟨by decide, by decide⟩ ⟨by decide, by decide⟩ dX8_tells_295 (by decide) (fun h => absurd h (by decide)) (fun _ => ?_)
                        refine lv_iload C.1 C.2.1 dX8_tells_298 (lv_at hl 8 rfl) ?_
                        refine lv_goto (tgt := 318) C.1 C.2.1 dX8_tells_300 (by decide) ?_
                        subst hQQ; exact x_ireturn C hr hlk hw hS ⟨by omega, by omega⟩ rfl ⟨(by have hj0 : j = 0 := (by omega); subst hj0; unfold r_tells; rw [if_neg (by rw [eok]; decide)]; simp only [Int.toNat_natCast]; rw [if_neg zs1, if_neg (fun z => z hz6), if_neg (by decide), if_neg (by decide), if_pos trivial]; subst hFe; exact bits0), (h148r.fr hA (fun m hm _ => by
      by_cases e : m = (74000 + i)
      · rw [e, st_s]; exact (mb_at hMB (q := i) (f := 0) (by omega) (by unfold psP; omega)).symm
      · rw [st_n e]; exact hf3 m (fun z => z.elim (fun y => hm (Or.inl y)) e))), (fun m hm => by rw [st_n (by omega), hf3 m (by unfold scm; omega)]; exact h148k m hm)⟩ dX8_tells_318
                      · obtain ⟨y, rfl⟩ : ∃ y, j = y + 1 := ⟨j - 1, by omega⟩
                        have ev : 0 + (((y + 1) : Nat) : Int) - 1 = 0 + (y : Int) := by omega
                        have hl : lv_has ls 12 [(0, .ref (gA g 70)), (1, .int (II (k : Int))), (2, .int (II ho)), (3, .int (II (i : Int))), (4, .int (II 2)), (5, .int (II 5)), (6, .int (II (v i 0))), (7, .int (II 5)), (8, .int (II (bitsS F 6 - bitsS F (y + 1)))), (9, .int (II (cnt F 6 - cnt F (y + 1)))), (10, .int (II (leaS (fun x => F (x + (y + 1))) (0 + (((y + 1) : Nat) : Int)) (-1) (6 - (y + 1))))), (11, .int (II (0 + (y : Int))))] := by rw [← ev]; exact hl
                        have hb1 := bitsS_in F (y + 1)
                        have hci1 := cnt_in F (y + 1)
                        refine lv_aload_n C.1 C.2.1 dX8_tells_232 rfl (lv_at hl 0 rfl) ?_
                        refine lv_iload C.1 C.2.1 dX8_tells_233 (lv_at hl 5 rfl) ?_
                        refine lv_iload_n C.1 C.2.1 dX8_tells_235 rfl (lv_at hl 3 rfl) ?_
                        refine lv_iload C.1 C.2.1 dX8_tells_236 (lv_at hl 11 rfl) ?_
                        refine x_cv (x_runV (n := 3) C hw hS hml hl.1 70 8 (by omega) rfl (by decide) rfl (c_X8_laysN l g M3 hF 5 (by omega) i (by omega) 0 (74000 + i) ⟨by unfold psP; omega, by omega⟩ (0 + (y : Int)) ⟨by omega, by omega⟩) mw_1200 mw_1202 mw_107 mw_130 mw_1203 rfl rfl (by decide +kernel) ⟨Nat.le_of_ble_eq_true rfl, Nat.le_of_ble_eq_true rfl⟩ rfl rfl (Nat.le_of_ble_eq_true rfl) dX8_tells_238 ⟨Nat.zero_le _, Nat.zero_le _⟩) hS (fun M238 H locs hp hw hS => ?_)
                        have em238 := hp
                        have hw : Wo g (stM M3 (74000 + i) (0 + (y : Int))) H := em238 ▸ hw
                        refine lv_aload_n C.1 C.2.1 dX8_tells_241 rfl (lv_at hl 0 rfl) ?_
                        refine lv_iload_n C.1 C.2.1 dX8_tells_242 rfl (lv_at hl 1 rfl) ?_
                        refine lv_iload_n C.1 C.2.1 dX8_tells_243 rfl (lv_at hl 2 rfl) ?_
                        refine x_ci (x_runV (n := 2) C hw hS hml hl.1 70 8 (by omega) rfl (by decide) rfl (c_X8_firstOther l g (stM M3 (74000 + i) (0 + (y : Int))) hF n (upv v i 0 (0 + (y : Int))) nt t (X.2.1 t) (hMB.up (q := i) (f := 0) (ps := (74000 + i)) (by unfold psP; omega) (fun m hm => by unfold sc4 scm at hm; rw [st_n (by omega)]; exact hf3 m (by unfold scm; omega)) st_s (hM.2.2.1.okF (by unfold okF; omega)) (fun z => by omega) (by omega)) k (by omega) (Sh.2.2 k) (fun h hh => (st_n (by omega)).trans ((hf3 _ (by unfold scm; omega)).trans (q5 h (by rw [hz6]; omega)))) ho gz_ho) mw_1306 mw_1308 mw_114 mw_130 mw_1309 rfl rfl (by decide +kernel) ⟨Nat.le_of_ble_eq_true rfl, Nat.le_of_ble_eq_true rfl⟩ rfl rfl (Nat.le_of_ble_eq_true rfl) dX8_tells_244 ⟨Nat.zero_le _, Nat.zero_le _⟩) hS (fun r244 M244 H locs hr244 hp hw hS => ?_)
                        obtain ⟨er244, h244f⟩ := hp
                        have g_M244 := hw.rg
                        rw [er244] at hr244 ⊢
                        have hfo := foS_in (fun h => reedS (upv v i 0 (0 + (y : Int))) n nt (X.2.1 t) ho h) (Sh.2.2 k)
                        refine lv_iconst (v := II (-1)) C.1 C.2.1 dX8_tells_247 rfl ?_
                        refine x_icmp_ne (tgt := 277) C hr244 ⟨by decide, by decide⟩ dX8_tells_248 (by decide) (fun c248 => ?_) (fun c248 => ?_)
                        · skip
                          refine lv_iinc (v := II (0 + (y : Int) + (-1))) (lv' := [(11, .int (II (0 + (y : Int) + (-1)))), (0, .ref (gA g 70)), (1, .int (II (k : Int))), (2, .int (II ho)), (3, .int (II (i : Int))), (4, .int (II 2)), (5, .int (II 5)), (6, .int (II (v i 0))), (7, .int (II 5)), (8, .int (II (bitsS F 6 - bitsS F (y + 1)))), (9, .int (II (cnt F 6 - cnt F (y + 1)))), (10, .int (II (leaS (fun x => F (x + (y + 1))) (0 + (((y + 1) : Nat) : Int)) (-1) (6 - (y + 1)))))]) C.1 C.2.1 dX8_tells_277 hl (k := 11) rfl (II_add _ _) (by decide) rfl (fun ls hl => ?_)
                          refine lv_goto (tgt := 211) C.1 C.2.1 dX8_tells_280 (by decide) ?_
                          have hFy : F y = false := by rw [hFe]; exact decide_eq_false c248
                          have e8 : bitsS F 6 - bitsS F y = (bitsS F 6 - bitsS F (y + 1) : Int) := bits_f hFy
                          have e9 : cnt F 6 - cnt F y = (cnt F 6 - cnt F (y + 1) : Int) := cntf_ hFy
                          have e10 : leaS (fun x => F (x + y)) (0 + ((y : Nat) : Int)) (-1) (6 - y) = (leaS (fun x => F (x + (y + 1))) (0 + (((y + 1) : Nat) : Int)) (-1) (6 - (y + 1)) : Int) := lea_f hFy (by omega)
                          have e11 : 0 + ((y : Nat) : Int) - 1 = (0 + (y : Int) + (-1) : Int) := by omega
                          have hl : lv_has ls 12 [(11, .int (II (0 + ((y : Nat) : Int) - 1))), (0, .ref (gA g 70)), (1, .int (II (k : Int))), (2, .int (II ho)), (3, .int (II (i : Int))), (4, .int (II 2)), (5, .int (II 5)), (6, .int (II (v i 0))), (7, .int (II 5)), (8, .int (II (bitsS F 6 - bitsS F y))), (9, .int (II (cnt F 6 - cnt F y))), (10, .int (II (leaS (fun x => F (x + y)) (0 + ((y : Nat) : Int)) (-1) (6 - y))))] := by rw [e8, e9, e10, e11]; exact hl
                          exact ih211  y M244 (by omega) (by omega) (fun m hm => by rw [h244f m (fun z => hm (Or.inl z)), st_n (fun z => hm (Or.inr z))]; exact hf3 m hm) _ _ _ hw hS (lv_sub hl [1, 2, 3, 4, 5, 6, 7, 8, 9, 10, 11, 0] rfl)
                        · skip
                          refine lv_iload C.1 C.2.1 dX8_tells_251 (lv_at hl 8 rfl) ?_
                          refine lv_iload C.1 C.2.1 dX8_tells_253 (lv_at hl 4 rfl) ?_
                          refine lv_iconst (v := II 5) C.1 C.2.1 dX8_tells_255 rfl ?_
                          refine x_icmp_ge (tgt := 266) C ⟨by decide, by decide⟩ ⟨by decide, by decide⟩ dX8_tells_256 (by decide) (fun h => absurd h (by decide)) (fun _ => ?_)
                          refine lv_iconst (v := II 1) C.1 C.2.1 dX8_tells_259 rfl ?_
                          refine lv_iload C.1 C.2.1 dX8_tells_260 (lv_at hl 11 rfl) ?_
                          refine lv_ishl C.1 C.2.1 dX8_tells_262 ?_
                          refine lv_goto (tgt := 267) C.1 C.2.1 dX8_tells_263 (by decide) ?_
                          refine lv_ior C.1 C.2.1 dX8_tells_267 ?_
                          rw [show II (0 + (y : Int)) = II (y : Int) by congr 1; omega, or_up (F := F) (mm := 6) (y := y) (by omega) (by omega)]
                          refine lv_istore (lv' := [(8, .int (II (bitsS F 6 - bitsS F (y + 1) + 2 ^ y))), (0, .ref (gA g 70)), (1, .int (II (k : Int))), (2, .int (II ho)), (3, .int (II (i : Int))), (4, .int (II 2)), (5, .int (II 5)), (6, .int (II (v i 0))), (7, .int (II 5)), (9, .int (II (cnt F 6 - cnt F (y + 1)))), (10, .int (II (leaS (fun x => F (x + (y + 1))) (0 + (((y + 1) : Nat) : Int)) (-1) (6 - (y + 1))))), (11, .int (II (0 + (y : Int))))]) C.1 C.2.1 dX8_tells_268 hl (by decide) rfl (fun ls hl => ?_)
                          refine lv_iinc (v := II (cnt F 6 - cnt F (y + 1) + 1)) (lv' := [(9, .int (II (cnt F 6 - cnt F (y + 1) + 1))), (8, .int (II (bitsS F 6 - bitsS F (y + 1) + 2 ^ y))), (0, .ref (gA g 70)), (1, .int (II (k : Int))), (2, .int (II ho)), (3, .int (II (i : Int))), (4, .int (II 2)), (5, .int (II 5)), (6, .int (II (v i 0))), (7, .int (II 5)), (10, .int (II (leaS (fun x => F (x + (y + 1))) (0 + (((y + 1) : Nat) : Int)) (-1) (6 - (y + 1))))), (11, .int (II (0 + (y : Int))))]) C.1 C.2.1 dX8_tells_270 hl (k := 9) rfl (II_add _ _) (by decide) rfl (fun ls hl => ?_)
                          refine lv_iload C.1 C.2.1 dX8_tells_273 (lv_at hl 11 rfl) ?_
                          refine lv_istore (lv' := [(10, .int (II (0 + (y : Int)))), (9, .int (II (cnt F 6 - cnt F (y + 1) + 1))), (8, .int (II (bitsS F 6 - bitsS F (y + 1) + 2 ^ y))), (0, .ref (gA g 70)), (1, .int (II (k : Int))), (2, .int (II ho)), (3, .int (II (i : Int))), (4, .int (II 2)), (5, .int (II 5)), (6, .int (II (v i 0))), (7, .int (II 5)), (11, .int (II (0 + (y : Int))))]) C.1 C.2.1 dX8_tells_275 hl (by decide) rfl (fun ls hl => ?_)
                          skip
                          refine lv_iinc (v := II (0 + (y : Int) + (-1))) (lv' := [(11, .int (II (0 + (y : Int) + (-1)))), (10, .int (II (0 + (y : Int)))), (9, .int (II (cnt F 6 - cnt F (y + 1) + 1))), (8, .int (II (bitsS F 6 - bitsS F (y + 1) + 2 ^ y))), (0, .ref (gA g 70)), (1, .int (II (k : Int))), (2, .int (II ho)), (3, .int (II (i : Int))), (4, .int (II 2)), (5, .int (II 5)), (6, .int (II (v i 0))), (7, .int (II 5))]) C.1 C.2.1 dX8_tells_277 hl (k := 11) rfl (II_add _ _) (by decide) rfl (fun ls hl => ?_)
                          refine lv_goto (tgt := 211) C.1 C.2.1 dX8_tells_280 (by decide) ?_
                          have hFy : F y = true := by rw [hFe]; exact decide_eq_true c248
                          have e8 : bitsS F 6 - bitsS F y = (bitsS F 6 - bitsS F (y + 1) + 2 ^ y : Int) := bits_t hFy
                          have e9 : cnt F 6 - cnt F y = (cnt F 6 - cnt F (y + 1) + 1 : Int) := cntt_ hFy
                          have e10 : leaS (fun x => F (x + y)) (0 + ((y : Nat) : Int)) (-1) (6 - y) = (0 + (y : Int) : Int) := lea_t hFy (by omega)
                          have e11 : 0 + ((y : Nat) : Int) - 1 = (0 + (y : Int) + (-1) : Int) := by omega
                          have hl : lv_has ls 12 [(11, .int (II (0 + ((y : Nat) : Int) - 1))), (10, .int (II (leaS (fun x => F (x + y)) (0 + ((y : Nat) : Int)) (-1) (6 - y)))), (9, .int (II (cnt F 6 - cnt F y))), (8, .int (II (bitsS F 6 - bitsS F y))), (0, .ref (gA g 70)), (1, .int (II (k : Int))), (2, .int (II ho)), (3, .int (II (i : Int))), (4, .int (II 2)), (5, .int (II 5)), (6, .int (II (v i 0))), (7, .int (II 5))] := by rw [e8, e9, e10, e11]; exact hl
                          exact ih211  y M244 (by omega) (by omega) (fun m hm => by rw [h244f m (fun z => hm (Or.inl z)), st_n (fun z => hm (Or.inr z))]; exact hf3 m hm) _ _ _ hw hS (lv_sub hl [4, 5, 6, 7, 8, 9, 10, 11, 3, 2, 1, 0] rfl)
                  have e8 : bitsS F 6 - bitsS F 6 = (0 : Int) := by first | (rw [Int.sub_self]; done) | (rw [lea_end]; done) | omega | rfl | simp
                  have e9 : cnt F 6 - cnt F 6 = (0 : Int) := by first | (rw [Int.sub_self]; done) | (rw [lea_end]; done) | omega | rfl | simp
                  have e10 : leaS (fun x => F (x + 6)) (0 + ((6 : Nat) : Int)) (-1) (6 - 6) = ((-1) : Int) := by first | (rw [Int.sub_self]; done) | (rw [lea_end]; done) | omega | rfl | simp
                  have e11 : 0 + ((6 : Nat) : Int) - 1 = (5 : Int) := by first | (rw [Int.sub_self]; done) | (rw [lea_end]; done) | omega | rfl | simp
                  have hl : lv_has ls 12 [(11, .int (II (0 + ((6 : Nat) : Int) - 1))), (10, .int (II (leaS (fun x => F (x + 6)) (0 + ((6 : Nat) : Int)) (-1) (6 - 6)))), (9, .int (II (cnt F 6 - cnt F 6))), (8, .int (II (bitsS F 6 - bitsS F 6))), (7, .int (II 5)), (6, .int (II (v i 0))), (5, .int (II 5)), (0, .ref (gA g 70)), (1, .int (II (k : Int))), (2, .int (II ho)), (3, .int (II (i : Int))), (4, .int (II 2))] := by rw [e8, e9, e10, e11]; exact hl
                  exact L211 _ 6 M148 (Nat.lt_succ_self _) (by omega) (fun _ _ => rfl) _ _ _ hw hS (lv_sub hl [7, 8, 9, 10, 11, 6, 5, 4, 3, 2, 1, 0] rfl)
                · have hl : lv_has ls 12 [(0, .ref (gA g 70)), (1, .int (II (k : Int))), (2, .int (II ho)), (3, .int (II q)), (4, .int (II 3))] := hl
                  obtain ⟨i, rfl⟩ : ∃ i : Nat, q = (i : Int) := ⟨q.toNat, by omega⟩
                  obtain ⟨F, hFe⟩ : ∃ F : Nat → Bool, F = (fun (j : Nat) => ftF v n nt (X.2.1 t) ho (Sh.2.2 k) i 1 (0 + (j : Int))) := ⟨_, rfl⟩
                  refine lv_iload C.1 C.2.1 dX8_tells_70 (lv_at hl 4 rfl) ?_
                  refine x_if_ne (tgt := 82) C ⟨by decide, by decide⟩ dX8_tells_72 (by decide) (fun _ => ?_) (fun h => absurd h (by decide))
                  refine lv_iload C.1 C.2.1 dX8_tells_82 (lv_at hl 4 rfl) ?_
                  refine lv_iconst (v := II 1) C.1 C.2.1 dX8_tells_84 rfl ?_
                  refine x_icmp_ne (tgt := 93) C ⟨by decide, by decide⟩ ⟨by decide, by decide⟩ dX8_tells_85 (by decide) (fun _ => ?_) (fun h => absurd h (by decide))
                  refine lv_iload C.1 C.2.1 dX8_tells_93 (lv_at hl 4 rfl) ?_
                  refine lv_iconst (v := II 2) C.1 C.2.1 dX8_tells_95 rfl ?_
                  refine x_icmp_ne (tgt := 103) C ⟨by decide, by decide⟩ ⟨by decide, by decide⟩ dX8_tells_96 (by decide) (fun _ => ?_) (fun h => absurd h (by decide))
                  refine lv_iload C.1 C.2.1 dX8_tells_103 (lv_at hl 4 rfl) ?_
                  refine lv_iconst (v := II 5) C.1 C.2.1 dX8_tells_105 rfl ?_
                  refine x_icmp_ge (tgt := 116) C ⟨by decide, by decide⟩ ⟨by decide, by decide⟩ dX8_tells_106 (by decide) (fun h => absurd h (by decide)) (fun _ => ?_)
                  refine lv_iload C.1 C.2.1 dX8_tells_109 (lv_at hl 4 rfl) ?_
                  refine lv_iconst (v := II 2) C.1 C.2.1 dX8_tells_111 rfl ?_
                  refine x_isub C dX8_tells_112 ?_
                  rw [show (3 - 2 : Int) = 1 from by decide]
                  refine lv_goto (tgt := 128) C.1 C.2.1 dX8_tells_113 (by decide) ?_
                  refine lv_istore (lv' := [(5, .int (II 1)), (0, .ref (gA g 70)), (1, .int (II (k : Int))), (2, .int (II ho)), (3, .int (II (i : Int))), (4, .int (II 3))]) C.1 C.2.1 dX8_tells_128 hl (by decide) rfl (fun ls hl => ?_)
                  refine lv_iload C.1 C.2.1 dX8_tells_130 (lv_at hl 0 rfl) ?_
                  refine lv_bipush (v := II 6) C.1 C.2.1 dX8_tells_132 (by decide) ?_
                  refine x_icmp_ne (tgt := 144) C ⟨by decide, by decide⟩ ⟨by decide, by decide⟩ dX8_tells_134 (by decide) (fun _ => ?_) (fun h => absurd h (by decide))
                  refine lv_aload_n C.1 C.2.1 dX8_tells_144 rfl (lv_at hl 1 rfl) ?_
                  refine lv_iload_n C.1 C.2.1 dX8_tells_145 rfl (lv_at hl 4 rfl) ?_
                  refine lv_iload C.1 C.2.1 dX8_tells_146 (lv_at hl 0 rfl) ?_
                  refine x_ci (x_runV (n := 2) C hw hS hml hl.1 70 8 (by omega) rfl (by decide) rfl (c_X8_told l g M hF n v nt pd t X I Sh hR hA (i : Int) ⟨by omega, by omega⟩ 1 ⟨by decide, by decide⟩) mw_970 mw_971 mw_972 mw_130 mw_973 rfl rfl (by decide +kernel) ⟨Nat.le_of_ble_eq_true rfl, Nat.le_of_ble_eq_true rfl⟩ rfl rfl (Nat.le_of_ble_eq_true rfl) dX8_tells_148 ⟨Nat.zero_le _, Nat.zero_le _⟩) hS (fun r148 M148 H locs hr148 hp hw hS => ?_)
                  obtain ⟨er148, h148r, h148k⟩ := hp
                  have g_M148 := hw.rg
                  rw [er148] at hr148 ⊢
                  have ew : r_told v n nt (X.2.1 t) (i : Int) 1 = v i 1 := by
                    unfold r_told
                    rw [if_neg (by decide), if_neg (fun z => z (by omega)), if_pos (by decide)]; rfl
                  rw [ew]
                  have hMB : MB M148 n v nt t (X.2.1 t) (-1) := h148r.mb hA
                  have hq0 := hM.2.2.1 i (by omega)
                  obtain ⟨-, -, -, -, q5⟩ : Sh.1 k ≠ -1 ∧ M148 (80000 + k) = 1 ∧ M148 (81000 + k) = Sh.1 k ∧ M148 (82000 + k) = Sh.2.1 k ∧ ∀ j : Nat, (j : Int) < Sh.2.1 k → M148 (83000 + (40 * k + j)) = Sh.2.2 k j := by
                    rcases h148r.2.2.2.1 k (by omega) with z | z
                    · exact absurd z.1 zs1
                    · exact z
                  refine lv_istore (lv' := [(6, .int (II (v i 1))), (5, .int (II 1)), (0, .ref (gA g 70)), (1, .int (II (k : Int))), (2, .int (II ho)), (3, .int (II (i : Int))), (4, .int (II 3))]) C.1 C.2.1 dX8_tells_151 hl (by decide) rfl (fun ls hl => ?_)
                  refine lv_iload C.1 C.2.1 dX8_tells_153 (lv_at hl 1 rfl) ?_
                  refine lv_bipush (v := II 6) C.1 C.2.1 dX8_tells_155 (by decide) ?_
                  refine x_icmp_ne (tgt := 169) C ⟨by decide, by decide⟩ ⟨by decide, by decide⟩ dX8_tells_157 (by decide) (fun _ => ?_) (fun h => absurd h (by decide))
                  refine lv_iload C.1 C.2.1 dX8_tells_169 (lv_at hl 1 rfl) ?_
                  refine lv_iconst (v := II 5) C.1 C.2.1 dX8_tells_171 rfl ?_
                  refine x_icmp_ne (tgt := 179) C ⟨by decide, by decide⟩ ⟨by decide, by decide⟩ dX8_tells_172 (by decide) (fun _ => ?_) (fun h => absurd h (by decide))
                  refine lv_iload C.1 C.2.1 dX8_tells_179 (lv_at hl 1 rfl) ?_
                  refine x_ci (x_runS (n := 1) C hw hS hml hl.1 (c_X8_mostOf l g M148 1 (by decide)) mw_967 mw_968 mw_130 mw_969 rfl rfl (by decide +kernel) ⟨Nat.le_of_ble_eq_true rfl, Nat.le_of_ble_eq_true rfl⟩ rfl rfl (Nat.le_of_ble_eq_true rfl) dX8_tells_181 ⟨Nat.zero_le _, Nat.zero_le _⟩) hS (fun r181 M181 H locs hr181 hp hw hS => ?_)
                  obtain ⟨em181, er181⟩ := hp
                  have hw : Wo g M148 H := em181 ▸ hw
                  rw [er181] at hr181 ⊢
                  rw [show hiT 1 = (9 : Int) from by decide] at hr181 ⊢
                  refine lv_istore (lv' := [(7, .int (II 9)), (6, .int (II (v i 1))), (5, .int (II 1)), (0, .ref (gA g 70)), (1, .int (II (k : Int))), (2, .int (II ho)), (3, .int (II (i : Int))), (4, .int (II 3))]) C.1 C.2.1 dX8_tells_184 hl (by decide) rfl (fun ls hl => ?_)
                  refine lv_iconst (v := II 0) C.1 C.2.1 dX8_tells_186 rfl ?_
                  refine lv_istore (lv' := [(8, .int (II 0)), (7, .int (II 9)), (6, .int (II (v i 1))), (5, .int (II 1)), (0, .ref (gA g 70)), (1, .int (II (k : Int))), (2, .int (II ho)), (3, .int (II (i : Int))), (4, .int (II 3))]) C.1 C.2.1 dX8_tells_187 hl (by decide) rfl (fun ls hl => ?_)
                  refine lv_iconst (v := II 0) C.1 C.2.1 dX8_tells_189 rfl ?_
                  refine lv_istore (lv' := [(9, .int (II 0)), (8, .int (II 0)), (7, .int (II 9)), (6, .int (II (v i 1))), (5, .int (II 1)), (0, .ref (gA g 70)), (1, .int (II (k : Int))), (2, .int (II ho)), (3, .int (II (i : Int))), (4, .int (II 3))]) C.1 C.2.1 dX8_tells_190 hl (by decide) rfl (fun ls hl => ?_)
                  refine lv_iload C.1 C.2.1 dX8_tells_192 (lv_at hl 9 rfl) ?_
                  refine lv_bipush (v := II 6) C.1 C.2.1 dX8_tells_194 (by decide) ?_
                  refine x_icmp_ne (tgt := 204) C ⟨by decide, by decide⟩ ⟨by decide, by decide⟩ dX8_tells_196 (by decide) (fun _ => ?_) (fun h => absurd h (by decide))
                  refine lv_iconst (v := II (-1)) C.1 C.2.1 dX8_tells_204 rfl ?_
                  refine lv_istore (lv' := [(10, .int (II (-1))), (9, .int (II 0)), (8, .int (II 0)), (7, .int (II 9)), (6, .int (II (v i 1))), (5, .int (II 1)), (0, .ref (gA g 70)), (1, .int (II (k : Int))), (2, .int (II ho)), (3, .int (II (i : Int))), (4, .int (II 3))]) C.1 C.2.1 dX8_tells_205 hl (by decide) rfl (fun ls hl => ?_)
                  refine lv_iload C.1 C.2.1 dX8_tells_207 (lv_at hl 3 rfl) ?_
                  refine lv_istore (lv' := [(11, .int (II 9)), (10, .int (II (-1))), (9, .int (II 0)), (8, .int (II 0)), (7, .int (II 9)), (6, .int (II (v i 1))), (5, .int (II 1)), (0, .ref (gA g 70)), (1, .int (II (k : Int))), (2, .int (II ho)), (3, .int (II (i : Int))), (4, .int (II 3))]) C.1 C.2.1 dX8_tells_209 hl (by decide) rfl (fun ls hl => ?_)
                  have L211 : ∀ (f3 : Nat) (j : Nat) (M3 : Nat → Int), j < f3 → (j ≤ 10) → (∀ m, ¬ (scm m ∨ m = (75000 + 4 * i)) → M3 m = M148 m) → ∀ (H : Heap) (locs : List Loc) (ls : Array Slot), Wo g M3 H → va_S (ar g) s.heap H locs → lv_has ls 12 [(0, .ref (gA g 70)), (1, .int (II (k : Int))), (2, .int (II ho)), (3, .int (II (i : Int))), (4, .int (II 3)), (5, .int (II 1)), (6, .int (II (v i 1))), (7, .int (II 9)), (8, .int (II (bitsS F 10 - bitsS F j))), (9, .int (II (cnt F 10 - cnt F j))), (10, .int (II (leaS (fun x => F (x + j)) (0 + ((j : Nat) : Int)) (-1) (10 - j)))), (11, .int (II (0 + ((j : Nat) : Int) - 1)))] → W p l e (rmm 45 1001) s m args below meth c H locs 0 0 QQ (F0 m 211 ls []) := by
                    intro f3
                    induction f3 with
                    | zero => intro j M3 hmu; exact absurd hmu (Nat.not_lt_zero _)
                    | succ f3 ih =>
                      intro j M3 hmu h1 hf3 H locs ls hw hS hl
                      have ih211 := ih
                      have g_M3 := hw.rg
                      have hcj := cnt_in F j
                      have hcm := cnt_in F 10
                      have hbj := bitsS_in F j
                      have hbm := bitsS_in F 10
                      have hpm : (2 : Int) ^ (10) ≤ 1024 := pow11 (by omega)
                      have hsj : cnt F j ≤ cnt F 10 := cnt_mono (by omega)
                      have hbmj : bitsS F j ≤ bitsS F 10 := bits_mono (by omega)
                      have hle := lea_in (F := fun x => F (x + j)) (lo := 0 + ((j : Nat) : Int)) (no := (-1)) (m := 10 - j)
                      refine lv_iload C.1 C.2.1 dX8_tells_211 (lv_at hl 11 rfl) ?_
                      refine lv_iload C.1 C.2.1 dX8_tells_213 (lv_at hl 5 rfl) ?_
                      refine lv_bipush (v := II 6) C.1 C.2.1 dX8_tells_215 (by decide) ?_
                      refine x_icmp_ge (tgt := 228) C ⟨by decide, by decide⟩ ⟨by decide, by decide⟩ dX8_tells_217 (by decide) (fun h => absurd h (by decide)) (fun _ => ?_)
                      refine lv_iload C.1 C.2.1 dX8_tells_220 (lv_at hl 5 rfl) ?_
                      refine x_ci (x_runS (n := 1) C hw hS hml hl.1 (c_X8_leastOf l g M3 1 (by decide)) mw_964 mw_965 mw_130 mw_966 rfl rfl (by decide +kernel) ⟨Nat.le_of_ble_eq_true rfl, Nat.le_of_ble_eq_true rfl⟩ rfl rfl (Nat.le_of_ble_eq_true rfl) dX8_tells_222 ⟨Nat.zero_le _, Nat.zero_le _⟩) hS (fun r222 M222 H locs hr222 hp hw hS => ?_)
                      obtain ⟨em222, er222⟩ := hp
                      have hw : Wo g M3 H := em222 ▸ hw
                      rw [er222] at hr222 ⊢
                      rw [show loT 1 = (0 : Int) from by decide] at hr222 ⊢
                      refine lv_goto (tgt := 229) C.1 C.2.1 dX8_tells_225 (by decide) ?_
                      refine x_icmp_lt (tgt := 283) C ⟨by omega, by omega⟩ ⟨by decide, by decide⟩ dX8_tells_229 (by decide) (fun c229 => ?_) (fun c229 => ?_)
                      · refine lv_aload_n C.1 C.2.1 dX8_tells_283 rfl (lv_at hl 0 rfl) ?_
                        refine lv_iload C.1 C.2.1 dX8_tells_284 (lv_at hl 5 rfl) ?_
                        refine lv_iload_n C.1 C.2.1 dX8_tells_286 rfl (lv_at hl 3 rfl) ?_
                        refine lv_iload C.1 C.2.1 dX8_tells_287 (lv_at hl 6 rfl) ?_
                        refine x_cv (x_runV (n := 3) C hw hS hml hl.1 70 8 (by omega) rfl (by decide) rfl (c_X8_laysN l g M3 hF 1 (by omega) i (by omega) 1 (75000 + 4 * i) ⟨by unfold psP; omega, by omega⟩ (v i 1) ⟨by omega, by omega⟩) mw_1200 mw_1202 mw_107 mw_130 mw_1203 rfl rfl (by decide +kernel) ⟨Nat.le_of_ble_eq_true rfl, Nat.le_of_ble_eq_true rfl⟩ rfl rfl (Nat.le_of_ble_eq_true rfl) dX8_tells_289 ⟨Nat.zero_le _, Nat.zero_le _⟩) hS (fun M289 H locs hp hw hS => ?_)
                        have em289 := hp
                        have hw : Wo g (stM M3 (75000 + 4 * i) (v i 1)) H := em289 ▸ hw
                        refine lv_iload C.1 C.2.1 dX8_tells_292 (lv_at hl 4 rfl) ?_
                        refine lv_iconst (v := II 5) C.1 C.2.1 dX8_tells_294 rfl ?_
                        refine x_icmp_ge (tgt := 303) C ⟨by decide, by decide⟩ ⟨by decide, by decide⟩ dX8_tells_295 (by decide) (fun h => absurd h (by decide)) (fun _ => ?_)
                        refine lv_iload C.1 C.2.1 dX8_tells_298 (lv_at hl 8 rfl) ?_
                        refine lv_goto (tgt := 318) C.1 C.2.1 dX8_tells_300 (by decide) ?_
                        subst hQQ; exact x_ireturn C hr hlk hw hS ⟨by omega, by omega⟩ rfl ⟨(by have hj0 : j = 0 := (by omega); subst hj0; unfold r_tells; rw [if_neg (by rw [eok]; decide)]; simp only [Int.toNat_natCast]; rw [if_neg zs1, if_neg (fun z => z hz6), if_neg (by decide), if_neg (by decide), if_neg (by decide), if_pos trivial]; subst hFe; exact bits0), (h148r.fr hA (fun m hm _ => by
      by_cases e : m = (75000 + 4 * i)
      · rw [e, st_s]; exact (mb_at hMB (q := i) (f := 1) (by omega) (by unfold psP; omega)).symm
      · rw [st_n e]; exact hf3 m (fun z => z.elim (fun y => hm (Or.inl y)) e))), (fun m hm => by rw [st_n (by omega), hf3 m (by unfold scm; omega)]; exact h148k m hm)⟩ dX8_tells_318
                      · obtain ⟨y, rfl⟩ : ∃ y, j = y + 1 := ⟨j - 1, by omega⟩
                        have ev : 0 + (((y + 1) : Nat) : Int) - 1 = 0 + (y : Int) := by omega
                        have hl : lv_has ls 12 [(0, .ref (gA g 70)), (1, .int (II (k : Int))), (2, .int (II ho)), (3, .int (II (i : Int))), (4, .int (II 3)), (5, .int (II 1)), (6, .int (II (v i 1))), (7, .int (II 9)), (8, .int (II (bitsS F 10 - bitsS F (y + 1)))), (9, .int (II (cnt F 10 - cnt F (y + 1)))), (10, .int (II (leaS (fun x => F (x + (y + 1))) (0 + (((y + 1) : Nat) : Int)) (-1) (10 - (y + 1))))), (11, .int (II (0 + (y : Int))))] := by rw [← ev]; exact hl
                        have hb1 := bitsS_in F (y + 1)
                        have hci1 := cnt_in F (y + 1)
                        refine lv_aload_n C.1 C.2.1 dX8_tells_232 rfl (lv_at hl 0 rfl) ?_
                        refine lv_iload C.1 C.2.1 dX8_tells_233 (lv_at hl 5 rfl) ?_
                        refine lv_iload_n C.1 C.2.1 dX8_tells_235 rfl (lv_at hl 3 rfl) ?_
                        refine lv_iload C.1 C.2.1 dX8_tells_236 (lv_at hl 11 rfl) ?_
                        refine x_cv (x_runV (n := 3) C hw hS hml hl.1 70 8 (by omega) rfl (by decide) rfl (c_X8_laysN l g M3 hF 1 (by omega) i (by omega) 1 (75000 + 4 * i) ⟨by unfold psP; omega, by omega⟩ (0 + (y : Int)) ⟨by omega, by omega⟩) mw_1200 mw_1202 mw_107 mw_130 mw_1203 rfl rfl (by decide +kernel) ⟨Nat.le_of_ble_eq_true rfl, Nat.le_of_ble_eq_true rfl⟩ rfl rfl (Nat.le_of_ble_eq_true rfl) dX8_tells_238 ⟨Nat.zero_le _, Nat.zero_le _⟩) hS (fun M238 H locs hp hw hS => ?_)
                        have em238 := hp
                        have hw : Wo g (stM M3 (75000 + 4 * i) (0 + (y : Int))) H := em238 ▸ hw
                        refine lv_aload_n C.1 C.2.1 dX8_tells_241 rfl (lv_at hl 0 rfl) ?_
                        refine lv_iload_n C.1 C.2.1 dX8_tells_242 rfl (lv_at hl 1 rfl) ?_
                        refine lv_iload_n C.1 C.2.1 dX8_tells_243 rfl (lv_at hl 2 rfl) ?_
                        refine x_ci (x_runV (n := 2) C hw hS hml hl.1 70 8 (by omega) rfl (by decide) rfl (c_X8_firstOther l g (stM M3 (75000 + 4 * i) (0 + (y : Int))) hF n (upv v i 1 (0 + (y : Int))) nt t (X.2.1 t) (hMB.up (q := i) (f := 1) (ps := (75000 + 4 * i)) (by unfold psP; omega) (fun m hm => by unfold sc4 scm at hm; rw [st_n (by omega)]; exact hf3 m (by unfold scm; omega)) st_s (hM.2.2.1.okF (by unfold okF; omega)) (fun z => by omega) (by omega)) k (by omega) (Sh.2.2 k) (fun h hh => (st_n (by omega)).trans ((hf3 _ (by unfold scm; omega)).trans (q5 h (by rw [hz6]; omega)))) ho gz_ho) mw_1306 mw_1308 mw_114 mw_130 mw_1309 rfl rfl (by decide +kernel) ⟨Nat.le_of_ble_eq_true rfl, Nat.le_of_ble_eq_true rfl⟩ rfl rfl (Nat.le_of_ble_eq_true rfl) dX8_tells_244 ⟨Nat.zero_le _, Nat.zero_le _⟩) hS (fun r244 M244 H locs hr244 hp hw hS => ?_)
                        obtain ⟨er244, h244f⟩ := hp
                        have g_M244 := hw.rg
                        rw [er244] at hr244 ⊢
                        have hfo := foS_in (fun h => reedS (upv v i 1 (0 + (y : Int))) n nt (X.2.1 t) ho h) (Sh.2.2 k)
                        refine lv_iconst (v := II (-1)) C.1 C.2.1 dX8_tells_247 rfl ?_
                        refine x_icmp_ne (tgt := 277) C hr244 ⟨by decide, by decide⟩ dX8_tells_248 (by decide) (fun c248 => ?_) (fun c248 => ?_)
                        · skip
                          refine lv_iinc (v := II (0 + (y : Int) + (-1))) (lv' := [(11, .int (II (0 + (y : Int) + (-1)))), (0, .ref (gA g 70)), (1, .int (II (k : Int))), (2, .int (II ho)), (3, .int (II (i : Int))), (4, .int (II 3)), (5, .int (II 1)), (6, .int (II (v i 1))), (7, .int (II 9)), (8, .int (II (bitsS F 10 - bitsS F (y + 1)))), (9, .int (II (cnt F 10 - cnt F (y + 1)))), (10, .int (II (leaS (fun x => F (x + (y + 1))) (0 + (((y + 1) : Nat) : Int)) (-1) (10 - (y + 1)))))]) C.1 C.2.1 dX8_tells_277 hl (k := 11) rfl (II_add _ _) (by decide) rfl (fun ls hl => ?_)
                          refine lv_goto (tgt := 211) C.1 C.2.1 dX8_tells_280 (by decide) ?_
                          have hFy : F y = false := by rw [hFe]; exact decide_eq_false c248
                          have e8 : bitsS F 10 - bitsS F y = (bitsS F 10 - bitsS F (y + 1) : Int) := bits_f hFy
                          have e9 : cnt F 10 - cnt F y = (cnt F 10 - cnt F (y + 1) : Int) := cntf_ hFy
                          have e10 : leaS (fun x => F (x + y)) (0 + ((y : Nat) : Int)) (-1) (10 - y) = (leaS (fun x => F (x + (y + 1))) (0 + (((y + 1) : Nat) : Int)) (-1) (10 - (y + 1)) : Int) := lea_f hFy (by omega)
                          have e11 : 0 + ((y : Nat) : Int) - 1 = (0 + (y : Int) + (-1) : Int) := by omega
                          have hl : lv_has ls 12 [(11, .int (II (0 + ((y : Nat) : Int) - 1))), (0, .ref (gA g 70)), (1, .int (II (k : Int))), (2, .int (II ho)), (3, .int (II (i : Int))), (4, .int (II 3)), (5, .int (II 1)), (6, .int (II (v i 1))), (7, .int (II 9)), (8, .int (II (bitsS F 10 - bitsS F y))), (9, .int (II (cnt F 10 - cnt F y))), (10, .int (II (leaS (fun x => F (x + y)) (0 + ((y : Nat) : Int)) (-1) (10 - y))))] := by rw [e8, e9, e10, e11]; exact hl
                          exact ih211  y M244 (by omega) (by omega) (fun m hm => by rw [h244f m (fun z => hm (Or.inl z)), st_n (fun z => hm (Or.inr z))]; exact hf3 m hm) _ _ _ hw hS (lv_sub hl [1, 2, 3, 4, 5, 6, 7, 8, 9, 10, 11, 0] rfl)
                        · skip
                          refine lv_iload C.1 C.2.1 dX8_tells_251 (lv_at hl 8 rfl) ?_
                          refine lv_iload C.1 C.2.1 dX8_tells_253 (lv_at hl 4 rfl) ?_
                          refine lv_iconst (v := II 5) C.1 C.2.1 dX8_tells_255 rfl ?_
                          refine x_icmp_ge (tgt := 266) C ⟨by decide, by decide⟩ ⟨by decide, by decide⟩ dX8_tells_256 (by decide) (fun h => absurd h (by decide)) (fun _ => ?_)
                          refine lv_iconst (v := II 1) C.1 C.2.1 dX8_tells_259 rfl ?_
                          refine lv_iload C.1 C.2.1 dX8_tells_260 (lv_at hl 11 rfl) ?_
                          refine lv_ishl C.1 C.2.1 dX8_tells_262 ?_
                          refine lv_goto (tgt := 267) C.1 C.2.1 dX8_tells_263 (by decide) ?_
                          refine lv_ior C.1 C.2.1 dX8_tells_267 ?_
                          rw [show II (0 + (y : Int)) = II (y : Int) by congr 1; omega, or_up (F := F) (mm := 10) (y := y) (by omega) (by omega)]
                          refine lv_istore (lv' := [(8, .int (II (bitsS F 10 - bitsS F (y + 1) + 2 ^ y))), (0, .ref (gA g 70)), (1, .int (II (k : Int))), (2, .int (II ho)), (3, .int (II (i : Int))), (4, .int (II 3)), (5, .int (II 1)), (6, .int (II (v i 1))), (7, .int (II 9)), (9, .int (II (cnt F 10 - cnt F (y + 1)))), (10, .int (II (leaS (fun x => F (x + (y + 1))) (0 + (((y + 1) : Nat) : Int)) (-1) (10 - (y + 1))))), (11, .int (II (0 + (y : Int))))]) C.1 C.2.1 dX8_tells_268 hl (by decide) rfl (fun ls hl => ?_)
                          refine lv_iinc (v := II (cnt F 10 - cnt F (y + 1) + 1)) (lv' := [(9, .int (II (cnt F 10 - cnt F (y + 1) + 1))), (8, .int (II (bitsS F 10 - bitsS F (y + 1) + 2 ^ y))), (0, .ref (gA g 70)), (1, .int (II (k : Int))), (2, .int (II ho)), (3, .int (II (i : Int))), (4, .int (II 3)), (5, .int (II 1)), (6, .int (II (v i 1))), (7, .int (II 9)), (10, .int (II (leaS (fun x => F (x + (y + 1))) (0 + (((y + 1) : Nat) : Int)) (-1) (10 - (y + 1))))), (11, .int (II (0 + (y : Int))))]) C.1 C.2.1 dX8_tells_270 hl (k := 9) rfl (II_add _ _) (by decide) rfl (fun ls hl => ?_)
                          refine lv_iload C.1 C.2.1 dX8_tells_273 (lv_at hl 11 rfl) ?_
                          refine lv_istore (lv' := [(10, .int (II (0 + (y : Int)))), (9, .int (II (cnt F 10 - cnt F (y + 1) + 1))), (8, .int (II (bitsS F 10 - bitsS F (y + 1) + 2 ^ y))), (0, .ref (gA g 70)), (1, .int (II (k : Int))), (2, .int (II ho)), (3, .int (II (i : Int))), (4, .int (II 3)), (5, .int (II 1)), (6, .int (II (v i 1))), (7, .int (II 9)), (11, .int (II (0 + (y : Int))))]) C.1 C.2.1 dX8_tells_275 hl (by decide) rfl (fun ls hl => ?_)
                          skip
                          refine lv_iinc (v := II (0 + (y : Int) + (-1))) (lv' := [(11, .int (II (0 + (y : Int) + (-1)))), (10, .int (II (0 + (y : Int)))), (9, .int (II (cnt F 10 - cnt F (y + 1) + 1))), (8, .int (II (bitsS F 10 - bitsS F (y + 1) + 2 ^ y))), (0, .ref (gA g 70)), (1, .int (II (k : Int))), (2, .int (II ho)), (3, .int (II (i : Int))), (4, .int (II 3)), (5, .int (II 1)), (6, .int (II (v i 1))), (7, .int (II 9))]) C.1 C.2.1 dX8_tells_277 hl (k := 11) rfl (II_add _ _) (by decide) rfl (fun ls hl => ?_)
                          refine lv_goto (tgt := 211) C.1 C.2.1 dX8_tells_280 (by decide) ?_
                          have hFy : F y = true := by rw [hFe]; exact decide_eq_true c248
                          have e8 : bitsS F 10 - bitsS F y = (bitsS F 10 - bitsS F (y + 1) + 2 ^ y : Int) := bits_t hFy
                          have e9 : cnt F 10 - cnt F y = (cnt F 10 - cnt F (y + 1) + 1 : Int) := cntt_ hFy
                          have e10 : leaS (fun x => F (x + y)) (0 + ((y : Nat) : Int)) (-1) (10 - y) = (0 + (y : Int) : Int) := lea_t hFy (by omega)
                          have e11 : 0 + ((y : Nat) : Int) - 1 = (0 + (y : Int) + (-1) : Int) := by omega
                          have hl : lv_has ls 12 [(11, .int (II (0 + ((y : Nat) : Int) - 1))), (10, .int (II (leaS (fun x => F (x + y)) (0 + ((y : Nat) : Int)) (-1) (10 - y)))), (9, .int (II (cnt F 10 - cnt F y))), (8, .int (II (bitsS F 10 - bitsS F y))), (0, .ref (gA g 70)), (1, .int (II (k : Int))), (2, .int (II ho)), (3, .int (II (i : Int))), (4, .int (II 3)), (5, .int (II 1)), (6, .int (II (v i 1))), (7, .int (II 9))] := by rw [e8, e9, e10, e11]; exact hl
                          exact ih211  y M244 (by omega) (by omega) (fun m hm => by rw [h244f m (fun z => hm (Or.inl z)), st_n (fun z => hm (Or.inr z))]; exact hf3 m hm) _ _ _ hw hS (lv_sub hl [4, 5, 6, 7, 8, 9, 10, 11, 3, 2, 1, 0] rfl)
                  have e8 : bitsS F 10 - bitsS F 10 = (0 : Int) := by first | (rw [Int.sub_self]; done) | (rw [lea_end]; done) | omega | rfl | simp
                  have e9 : cnt F 10 - cnt F 10 = (0 : Int) := by first | (rw [Int.sub_self]; done) | (rw [lea_end]; done) | omega | rfl | simp
                  have e10 : leaS (fun x => F (x + 10)) (0 + ((10 : Nat) : Int)) (-1) (10 - 10) = ((-1) : Int) := by first | (rw [Int.sub_self]; done) | (rw [lea_end]; done) | omega | rfl | simp
                  have e11 : 0 + ((10 : Nat) : Int) - 1 = (9 : Int) := by first | (rw [Int.sub_self]; done) | (rw [lea_end]; done) | omega | rfl | simp
                  have hl : lv_has ls 12 [(11, .int (II (0 + ((10 : Nat) : Int) - 1))), (10, .int (II (leaS (fun x => F (x + 10)) (0 + ((10 : Nat) : Int)) (-1) (10 - 10)))), (9, .int (II (cnt F 10 - cnt F 10))), (8, .int (II (bitsS F 10 - bitsS F 10))), (7, .int (II 9)), (6, .int (II (v i 1))), (5, .int (II 1)), (0, .ref (gA g 70)), (1, .int (II (k : Int))), (2, .int (II ho)), (3, .int (II (i : Int))), (4, .int (II 3))] := by rw [e8, e9, e10, e11]; exact hl
                  exact L211 _ 10 M148 (Nat.lt_succ_self _) (by omega) (fun _ _ => rfl) _ _ _ hw hS (lv_sub hl [7, 8, 9, 10, 11, 6, 5, 4, 3, 2, 1, 0] rfl)
                · have hl : lv_has ls 12 [(0, .ref (gA g 70)), (1, .int (II (k : Int))), (2, .int (II ho)), (3, .int (II q)), (4, .int (II 4))] := hl
                  obtain ⟨i, rfl⟩ : ∃ i : Nat, q = (i : Int) := ⟨q.toNat, by omega⟩
                  obtain ⟨F, hFe⟩ : ∃ F : Nat → Bool, F = (fun (j : Nat) => ftF v n nt (X.2.1 t) ho (Sh.2.2 k) i 2 (0 + (j : Int))) := ⟨_, rfl⟩
                  refine lv_iload C.1 C.2.1 dX8_tells_70 (lv_at hl 4 rfl) ?_
                  refine x_if_ne (tgt := 82) C ⟨by decide, by decide⟩ dX8_tells_72 (by decide) (fun _ => ?_) (fun h => absurd h (by decide))
                  refine lv_iload C.1 C.2.1 dX8_tells_82 (lv_at hl 4 rfl) ?_
                  refine lv_iconst (v := II 1) C.1 C.2.1 dX8_tells_84 rfl ?_
                  refine x_icmp_ne (tgt := 93) C ⟨by decide, by decide⟩ ⟨by decide, by decide⟩ dX8_tells_85 (by decide) (fun _ => ?_) (fun h => absurd h (by decide))
                  refine lv_iload C.1 C.2.1 dX8_tells_93 (lv_at hl 4 rfl) ?_
                  refine lv_iconst (v := II 2) C.1 C.2.1 dX8_tells_95 rfl ?_
                  refine x_icmp_ne (tgt := 103) C ⟨by decide, by decide⟩ ⟨by decide, by decide⟩ dX8_tells_96 (by decide) (fun _ => ?_) (fun h => absurd h (by decide))
                  refine lv_iload C.1 C.2.1 dX8_tells_103 (lv_at hl 4 rfl) ?_
                  refine lv_iconst (v := II 5) C.1 C.2.1 dX8_tells_105 rfl ?_
                  refine x_icmp_ge (tgt := 116) C ⟨by decide, by decide⟩ ⟨by decide, by decide⟩ dX8_tells_106 (by decide) (fun h => absurd h (by decide)) (fun _ => ?_)
                  refine lv_iload C.1 C.2.1 dX8_tells_109 (lv_at hl 4 rfl) ?_
                  refine lv_iconst (v := II 2) C.1 C.2.1 dX8_tells_111 rfl ?_
                  refine x_isub C dX8_tells_112 ?_
                  rw [show (4 - 2 : Int) = 2 from by decide]
                  refine lv_goto (tgt := 128) C.1 C.2.1 dX8_tells_113 (by decide) ?_
                  refine lv_istore (lv' := [(5, .int (II 2)), (0, .ref (gA g 70)), (1, .int (II (k : Int))), (2, .int (II ho)), (3, .int (II (i : Int))), (4, .int (II 4))]) C.1 C.2.1 dX8_tells_128 hl (by decide) rfl (fun ls hl => ?_)
                  refine lv_iload C.1 C.2.1 dX8_tells_130 (lv_at hl 0 rfl) ?_
                  refine lv_bipush (v := II 6) C.1 C.2.1 dX8_tells_132 (by decide) ?_
                  refine x_icmp_ne (tgt := 144) C ⟨by decide, by decide⟩ ⟨by decide, by decide⟩ dX8_tells_134 (by decide) (fun _ => ?_) (fun h => absurd h (by decide))
                  refine lv_aload_n C.1 C.2.1 dX8_tells_144 rfl (lv_at hl 1 rfl) ?_
                  refine lv_iload_n C.1 C.2.1 dX8_tells_145 rfl (lv_at hl 4 rfl) ?_
                  refine lv_iload C.1 C.2.1 dX8_tells_146 (lv_at hl 0 rfl) ?_
                  refine x_ci (x_runV (n := 2) C hw hS hml hl.1 70 8 (by omega) rfl (by decide) rfl (c_X8_told l g M hF n v nt pd t X I Sh hR hA (i : Int) ⟨by omega, by omega⟩ 2 ⟨by decide, by decide⟩) mw_970 mw_971 mw_972 mw_130 mw_973 rfl rfl (by decide +kernel) ⟨Nat.le_of_ble_eq_true rfl, Nat.le_of_ble_eq_true rfl⟩ rfl rfl (Nat.le_of_ble_eq_true rfl) dX8_tells_148 ⟨Nat.zero_le _, Nat.zero_le _⟩) hS (fun r148 M148 H locs hr148 hp hw hS => ?_)
                  obtain ⟨er148, h148r, h148k⟩ := hp
                  have g_M148 := hw.rg
                  rw [er148] at hr148 ⊢
                  have ew : r_told v n nt (X.2.1 t) (i : Int) 2 = v i 2 := by
                    unfold r_told
                    rw [if_neg (by decide), if_neg (fun z => z (by omega)), if_pos (by decide)]; rfl
                  rw [ew]
                  have hMB : MB M148 n v nt t (X.2.1 t) (-1) := h148r.mb hA
                  have hq0 := hM.2.2.1 i (by omega)
                  obtain ⟨-, -, -, -, q5⟩ : Sh.1 k ≠ -1 ∧ M148 (80000 + k) = 1 ∧ M148 (81000 + k) = Sh.1 k ∧ M148 (82000 + k) = Sh.2.1 k ∧ ∀ j : Nat, (j : Int) < Sh.2.1 k → M148 (83000 + (40 * k + j)) = Sh.2.2 k j := by
                    rcases h148r.2.2.2.1 k (by omega) with z | z
                    · exact absurd z.1 zs1
                    · exact z
                  refine lv_istore (lv' := [(6, .int (II (v i 2))), (5, .int (II 2)), (0, .ref (gA g 70)), (1, .int (II (k : Int))), (2, .int (II ho)), (3, .int (II (i : Int))), (4, .int (II 4))]) C.1 C.2.1 dX8_tells_151 hl (by decide) rfl (fun ls hl => ?_)
                  refine lv_iload C.1 C.2.1 dX8_tells_153 (lv_at hl 1 rfl) ?_
                  refine lv_bipush (v := II 6) C.1 C.2.1 dX8_tells_155 (by decide) ?_
                  refine x_icmp_ne (tgt := 169) C ⟨by decide, by decide⟩ ⟨by decide, by decide⟩ dX8_tells_157 (by decide) (fun _ => ?_) (fun h => absurd h (by decide))
                  refine lv_iload C.1 C.2.1 dX8_tells_169 (lv_at hl 1 rfl) ?_
                  refine lv_iconst (v := II 5) C.1 C.2.1 dX8_tells_171 rfl ?_
                  refine x_icmp_ne (tgt := 179) C ⟨by decide, by decide⟩ ⟨by decide, by decide⟩ dX8_tells_172 (by decide) (fun _ => ?_) (fun h => absurd h (by decide))
                  refine lv_iload C.1 C.2.1 dX8_tells_179 (lv_at hl 1 rfl) ?_
                  refine x_ci (x_runS (n := 1) C hw hS hml hl.1 (c_X8_mostOf l g M148 2 (by decide)) mw_967 mw_968 mw_130 mw_969 rfl rfl (by decide +kernel) ⟨Nat.le_of_ble_eq_true rfl, Nat.le_of_ble_eq_true rfl⟩ rfl rfl (Nat.le_of_ble_eq_true rfl) dX8_tells_181 ⟨Nat.zero_le _, Nat.zero_le _⟩) hS (fun r181 M181 H locs hr181 hp hw hS => ?_)
                  obtain ⟨em181, er181⟩ := hp
                  have hw : Wo g M148 H := em181 ▸ hw
                  rw [er181] at hr181 ⊢
                  rw [show hiT 2 = (4 : Int) from by decide] at hr181 ⊢
                  refine lv_istore (lv' := [(7, .int (II 4)), (6, .int (II (v i 2))), (5, .int (II 2)), (0, .ref (gA g 70)), (1, .int (II (k : Int))), (2, .int (II ho)), (3, .int (II (i : Int))), (4, .int (II 4))]) C.1 C.2.1 dX8_tells_184 hl (by decide) rfl (fun ls hl => ?_)
                  refine lv_iconst (v := II 0) C.1 C.2.1 dX8_tells_186 rfl ?_
                  refine lv_istore (lv' := [(8, .int (II 0)), (7, .int (II 4)), (6, .int (II (v i 2))), (5, .int (II 2)), (0, .ref (gA g 70)), (1, .int (II (k : Int))), (2, .int (II ho)), (3, .int (II (i : Int))), (4, .int (II 4))]) C.1 C.2.1 dX8_tells_187 hl (by decide) rfl (fun ls hl => ?_)
                  refine lv_iconst (v := II 0) C.1 C.2.1 dX8_tells_189 rfl ?_
                  refine lv_istore (lv' := [(9, .int (II 0)), (8, .int (II 0)), (7, .int (II 4)), (6, .int (II (v i 2))), (5, .int (II 2)), (0, .ref (gA g 70)), (1, .int (II (k : Int))), (2, .int (II ho)), (3, .int (II (i : Int))), (4, .int (II 4))]) C.1 C.2.1 dX8_tells_190 hl (by decide) rfl (fun ls hl => ?_)
                  refine lv_iload C.1 C.2.1 dX8_tells_192 (lv_at hl 9 rfl) ?_
                  refine lv_bipush (v := II 6) C.1 C.2.1 dX8_tells_194 (by decide) ?_
                  refine x_icmp_ne (tgt := 204) C ⟨by decide, by decide⟩ ⟨by decide, by decide⟩ dX8_tells_196 (by decide) (fun _ => ?_) (fun h => absurd h (by decide))
                  refine lv_iconst (v := II (-1)) C.1 C.2.1 dX8_tells_204 rfl ?_
                  refine lv_istore (lv' := [(10, .int (II (-1))), (9, .int (II 0)), (8, .int (II 0)), (7, .int (II 4)), (6, .int (II (v i 2))), (5, .int (II 2)), (0, .ref (gA g 70)), (1, .int (II (k : Int))), (2, .int (II ho)), (3, .int (II (i : Int))), (4, .int (II 4))]) C.1 C.2.1 dX8_tells_205 hl (by decide) rfl (fun ls hl => ?_)
                  refine lv_iload C.1 C.2.1 dX8_tells_207 (lv_at hl 3 rfl) ?_
                  refine lv_istore (lv' := [(11, .int (II 4)), (10, .int (II (-1))), (9, .int (II 0)), (8, .int (II 0)), (7, .int (II 4)), (6, .int (II (v i 2))), (5, .int (II 2)), (0, .ref (gA g 70)), (1, .int (II (k : Int))), (2, .int (II ho)), (3, .int (II (i : Int))), (4, .int (II 4))]) C.1 C.2.1 dX8_tells_209 hl (by decide) rfl (fun ls hl => ?_)
                  have L211 : ∀ (f4 : Nat) (j : Nat) (M3 : Nat → Int), j < f4 → (j ≤ 5) → (∀ m, ¬ (scm m ∨ m = (75000 + (4 * i + 1))) → M3 m = M148 m) → ∀ (H : Heap) (locs : List Loc) (ls : Array Slot), Wo g M3 H → va_S (ar g) s.heap H locs → lv_has ls 12 [(0, .ref (gA g 70)), (1, .int (II (k : Int))), (2, .int (II ho)), (3, .int (II (i : Int))), (4, .int (II 4)), (5, .int (II 2)), (6, .int (II (v i 2))), (7, .int (II 4)), (8, .int (II (bitsS F 5 - bitsS F j))), (9, .int (II (cnt F 5 - cnt F j))), (10, .int (II (leaS (fun x => F (x + j)) (0 + ((j : Nat) : Int)) (-1) (5 - j)))), (11, .int (II (0 + ((j : Nat) : Int) - 1)))] → W p l e (rmm 45 1001) s m args below meth c H locs 0 0 QQ (F0 m 211 ls []) := by
                    intro f4
                    induction f4 with
                    | zero => intro j M3 hmu; exact absurd hmu (Nat.not_lt_zero _)
                    | succ f4 ih =>
                      intro j M3 hmu h1 hf3 H locs ls hw hS hl
                      have ih211 := ih
                      have g_M3 := hw.rg
                      have hcj := cnt_in F j
                      have hcm := cnt_in F 5
                      have hbj := bitsS_in F j
                      have hbm := bitsS_in F 5
                      have hpm : (2 : Int) ^ (5) ≤ 1024 := pow11 (by omega)
                      have hsj : cnt F j ≤ cnt F 5 := cnt_mono (by omega)
                      have hbmj : bitsS F j ≤ bitsS F 5 := bits_mono (by omega)
                      have hle := lea_in (F := fun x => F (x + j)) (lo := 0 + ((j : Nat) : Int)) (no := (-1)) (m := 5 - j)
                      refine lv_iload C.1 C.2.1 dX8_tells_211 (lv_at hl 11 rfl) ?_
                      refine lv_iload C.1 C.2.1 dX8_tells_213 (lv_at hl 5 rfl) ?_
                      refine lv_bipush (v := II 6) C.1 C.2.1 dX8_tells_215 (by decide) ?_
                      refine x_icmp_ge (tgt := 228) C ⟨by decide, by decide⟩ ⟨by decide, by decide⟩ dX8_tells_217 (by decide) (fun h => absurd h (by decide)) (fun _ => ?_)
                      refine lv_iload C.1 C.2.1 dX8_tells_220 (lv_at hl 5 rfl) ?_
                      refine x_ci (x_runS (n := 1) C hw hS hml hl.1 (c_X8_leastOf l g M3 2 (by decide)) mw_964 mw_965 mw_130 mw_966 rfl rfl (by decide +kernel) ⟨Nat.le_of_ble_eq_true rfl, Nat.le_of_ble_eq_true rfl⟩ rfl rfl (Nat.le_of_ble_eq_true rfl) dX8_tells_222 ⟨Nat.zero_le _, Nat.zero_le _⟩) hS (fun r222 M222 H locs hr222 hp hw hS => ?_)
                      obtain ⟨em222, er222⟩ := hp
                      have hw : Wo g M3 H := em222 ▸ hw
                      rw [er222] at hr222 ⊢
                      rw [show loT 2 = (0 : Int) from by decide] at hr222 ⊢
                      refine lv_goto (tgt := 229) C.1 C.2.1 dX8_tells_225 (by decide) ?_
                      refine x_icmp_lt (tgt := 283) C ⟨by omega, by omega⟩ ⟨by decide, by decide⟩ dX8_tells_229 (by decide) (fun c229 => ?_) (fun c229 => ?_)
                      · refine lv_aload_n C.1 C.2.1 dX8_tells_283 rfl (lv_at hl 0 rfl) ?_
                        refine lv_iload C.1 C.2.1 dX8_tells_284 (lv_at hl 5 rfl) ?_
                        refine lv_iload_n C.1 C.2.1 dX8_tells_286 rfl (lv_at hl 3 rfl) ?_
                        refine lv_iload C.1 C.2.1 dX8_tells_287 (lv_at hl 6 rfl) ?_
                        refine x_cv (x_runV (n := 3) C hw hS hml hl.1 70 8 (by omega) rfl (by decide) rfl (c_X8_laysN l g M3 hF 2 (by omega) i (by omega) 2 (75000 + (4 * i + 1)) ⟨by unfold psP; omega, by omega⟩ (v i 2) ⟨by omega, by omega⟩) mw_1200 mw_1202 mw_107 mw_130 mw_1203 rfl rfl (by decide +kernel) ⟨Nat.le_of_ble_eq_true rfl, Nat.le_of_ble_eq_true rfl⟩ rfl rfl (Nat.le_of_ble_eq_true rfl) dX8_tells_289 ⟨Nat.zero_le _, Nat.zero_le _⟩) hS (fun M289 H locs hp hw hS => ?_)
                        have em289 := hp
                        have hw : Wo g (stM M3 (75000 + (4 * i + 1)) (v i 2)) H := em289 ▸ hw
                        refine lv_iload C.1 C.2.1 dX8_tells_292 (lv_at hl 4 rfl) ?_
                        refine lv_iconst (v := II 5) C.1 C.2.1 dX8_tells_294 rfl ?_
                        refine x_icmp_ge (tgt := 303) C ⟨by decide, by decide⟩ ⟨by decide, by decide⟩ dX8_tells_295 (by decide) (fun h => absurd h (by decide)) (fun _ => ?_)
                        refine lv_iload C.1 C.2.1 dX8_tells_298 (lv_at hl 8 rfl) ?_
                        refine lv_goto (tgt := 318) C.1 C.2.1 dX8_tells_300 (by decide) ?_
                        subst hQQ; exact x_ireturn C hr hlk hw hS ⟨by omega, by omega⟩ rfl ⟨(by have hj0 : j = 0 := (by omega); subst hj0; unfold r_tells; rw [if_neg (by rw [eok]; decide)]; simp only [Int.toNat_natCast]; rw [if_neg zs1, if_neg (fun z => z hz6), if_neg (by decide), if_neg (by decide), if_neg (by decide), if_neg (by decide), if_pos trivial]; subst hFe; exact bits0), (h148r.fr hA (fun m hm _ => by
      by_cases e : m = (75000 + (4 * i + 1))
      · rw [e, st_s]; exact (mb_at hMB (q := i) (f := 2) (by omega) (by unfold psP; omega)).symm
      · rw [st_n e]; exact hf3 m (fun z => z.elim (fun y => hm (Or.inl y)) e))), (fun m hm => by rw [st_n (by omega), hf3 m (by unfold scm; omega)]; exact h148k m hm)⟩ dX8_tells_318
                      · obtain ⟨y, rfl⟩ : ∃ y, j = y + 1 := ⟨j - 1, by omega⟩
                        have ev : 0 + (((y + 1) : Nat) : Int) - 1 = 0 + (y : Int) := by omega
                        have hl : lv_has ls 12 [(0, .ref (gA g 70)), (1, .int (II (k : Int))), (2, .int (II ho)), (3, .int (II (i : Int))), (4, .int (II 4)), (5, .int (II 2)), (6, .int (II (v i 2))), (7, .int (II 4)), (8, .int (II (bitsS F 5 - bitsS F (y + 1)))), (9, .int (II (cnt F 5 - cnt F (y + 1)))), (10, .int (II (leaS (fun x => F (x + (y + 1))) (0 + (((y + 1) : Nat) : Int)) (-1) (5 - (y + 1))))), (11, .int (II (0 + (y : Int))))] := by rw [← ev]; exact hl
                        have hb1 := bitsS_in F (y + 1)
                        have hci1 := cnt_in F (y + 1)
                        refine lv_aload_n C.1 C.2.1 dX8_tells_232 rfl (lv_at hl 0 rfl) ?_
                        refine lv_iload C.1 C.2.1 dX8_tells_233 (lv_at hl 5 rfl) ?_
                        refine lv_iload_n C.1 C.2.1 dX8_tells_235 rfl (lv_at hl 3 rfl) ?_
                        refine lv_iload C.1 C.2.1 dX8_tells_236 (lv_at hl 11 rfl) ?_
                        refine x_cv (x_runV (n := 3) C hw hS hml hl.1 70 8 (by omega) rfl (by decide) rfl (c_X8_laysN l g M3 hF 2 (by omega) i (by omega) 2 (75000 + (4 * i + 1)) ⟨by unfold psP; omega, by omega⟩ (0 + (y : Int)) ⟨by omega, by omega⟩) mw_1200 mw_1202 mw_107 mw_130 mw_1203 rfl rfl (by decide +kernel) ⟨Nat.le_of_ble_eq_true rfl, Nat.le_of_ble_eq_true rfl⟩ rfl rfl (Nat.le_of_ble_eq_true rfl) dX8_tells_238 ⟨Nat.zero_le _, Nat.zero_le _⟩) hS (fun M238 H locs hp hw hS => ?_)
                        have em238 := hp
                        have hw : Wo g (stM M3 (75000 + (4 * i + 1)) (0 + (y : Int))) H := em238 ▸ hw
                        refine lv_aload_n C.1 C.2.1 dX8_tells_241 rfl (lv_at hl 0 rfl) ?_
                        refine lv_iload_n C.1 C.2.1 dX8_tells_242 rfl (lv_at hl 1 rfl) ?_
                        refine lv_iload_n C.1 C.2.1 dX8_tells_243 rfl (lv_at hl 2 rfl) ?_
                        refine x_ci (x_runV (n := 2) C hw hS hml hl.1 70 8 (by omega) rfl (by decide) rfl (c_X8_firstOther l g (stM M3 (75000 + (4 * i + 1)) (0 + (y : Int))) hF n (upv v i 2 (0 + (y : Int))) nt t (X.2.1 t) (hMB.up (q := i) (f := 2) (ps := (75000 + (4 * i + 1))) (by unfold psP; omega) (fun m hm => by unfold sc4 scm at hm; rw [st_n (by omega)]; exact hf3 m (by unfold scm; omega)) st_s (hM.2.2.1.okF (by unfold okF; omega)) (fun z => by omega) (by omega)) k (by omega) (Sh.2.2 k) (fun h hh => (st_n (by omega)).trans ((hf3 _ (by unfold scm; omega)).trans (q5 h (by rw [hz6]; omega)))) ho gz_ho) mw_1306 mw_1308 mw_114 mw_130 mw_1309 rfl rfl (by decide +kernel) ⟨Nat.le_of_ble_eq_true rfl, Nat.le_of_ble_eq_true rfl⟩ rfl rfl (Nat.le_of_ble_eq_true rfl) dX8_tells_244 ⟨Nat.zero_le _, Nat.zero_le _⟩) hS (fun r244 M244 H locs hr244 hp hw hS => ?_)
                        obtain ⟨er244, h244f⟩ := hp
                        have g_M244 := hw.rg
                        rw [er244] at hr244 ⊢
                        have hfo := foS_in (fun h => reedS (upv v i 2 (0 + (y : Int))) n nt (X.2.1 t) ho h) (Sh.2.2 k)
                        refine lv_iconst (v := II (-1)) C.1 C.2.1 dX8_tells_247 rfl ?_
                        refine x_icmp_ne (tgt := 277) C hr244 ⟨by decide, by decide⟩ dX8_tells_248 (by decide) (fun c248 => ?_) (fun c248 => ?_)
                        · skip
                          refine lv_iinc (v := II (0 + (y : Int) + (-1))) (lv' := [(11, .int (II (0 + (y : Int) + (-1)))), (0, .ref (gA g 70)), (1, .int (II (k : Int))), (2, .int (II ho)), (3, .int (II (i : Int))), (4, .int (II 4)), (5, .int (II 2)), (6, .int (II (v i 2))), (7, .int (II 4)), (8, .int (II (bitsS F 5 - bitsS F (y + 1)))), (9, .int (II (cnt F 5 - cnt F (y + 1)))), (10, .int (II (leaS (fun x => F (x + (y + 1))) (0 + (((y + 1) : Nat) : Int)) (-1) (5 - (y + 1)))))]) C.1 C.2.1 dX8_tells_277 hl (k := 11) rfl (II_add _ _) (by decide) rfl (fun ls hl => ?_)
                          refine lv_goto (tgt := 211) C.1 C.2.1 dX8_tells_280 (by decide) ?_
                          have hFy : F y = false := by rw [hFe]; exact decide_eq_false c248
                          have e8 : bitsS F 5 - bitsS F y = (bitsS F 5 - bitsS F (y + 1) : Int) := bits_f hFy
                          have e9 : cnt F 5 - cnt F y = (cnt F 5 - cnt F (y + 1) : Int) := cntf_ hFy
                          have e10 : leaS (fun x => F (x + y)) (0 + ((y : Nat) : Int)) (-1) (5 - y) = (leaS (fun x => F (x + (y + 1))) (0 + (((y + 1) : Nat) : Int)) (-1) (5 - (y + 1)) : Int) := lea_f hFy (by omega)
                          have e11 : 0 + ((y : Nat) : Int) - 1 = (0 + (y : Int) + (-1) : Int) := by omega
                          have hl : lv_has ls 12 [(11, .int (II (0 + ((y : Nat) : Int) - 1))), (0, .ref (gA g 70)), (1, .int (II (k : Int))), (2, .int (II ho)), (3, .int (II (i : Int))), (4, .int (II 4)), (5, .int (II 2)), (6, .int (II (v i 2))), (7, .int (II 4)), (8, .int (II (bitsS F 5 - bitsS F y))), (9, .int (II (cnt F 5 - cnt F y))), (10, .int (II (leaS (fun x => F (x + y)) (0 + ((y : Nat) : Int)) (-1) (5 - y))))] := by rw [e8, e9, e10, e11]; exact hl
                          exact ih211  y M244 (by omega) (by omega) (fun m hm => by rw [h244f m (fun z => hm (Or.inl z)), st_n (fun z => hm (Or.inr z))]; exact hf3 m hm) _ _ _ hw hS (lv_sub hl [1, 2, 3, 4, 5, 6, 7, 8, 9, 10, 11, 0] rfl)
                        · skip
                          refine lv_iload C.1 C.2.1 dX8_tells_251 (lv_at hl 8 rfl) ?_
                          refine lv_iload C.1 C.2.1 dX8_tells_253 (lv_at hl 4 rfl) ?_
                          refine lv_iconst (v := II 5) C.1 C.2.1 dX8_tells_255 rfl ?_
                          refine x_icmp_ge (tgt := 266) C ⟨by decide, by decide⟩ ⟨by decide, by decide⟩ dX8_tells_256 (by decide) (fun h => absurd h (by decide)) (fun _ => ?_)
                          refine lv_iconst (v := II 1) C.1 C.2.1 dX8_tells_259 rfl ?_
                          refine lv_iload C.1 C.2.1 dX8_tells_260 (lv_at hl 11 rfl) ?_
                          refine lv_ishl C.1 C.2.1 dX8_tells_262 ?_
                          refine lv_goto (tgt := 267) C.1 C.2.1 dX8_tells_263 (by decide) ?_
                          refine lv_ior C.1 C.2.1 dX8_tells_267 ?_
                          rw [show II (0 + (y : Int)) = II (y : Int) by congr 1; omega, or_up (F := F) (mm := 5) (y := y) (by omega) (by omega)]
                          refine lv_istore (lv' := [(8, .int (II (bitsS F 5 - bitsS F (y + 1) + 2 ^ y))), (0, .ref (gA g 70)), (1, .int (II (k : Int))), (2, .int (II ho)), (3, .int (II (i : Int))), (4, .int (II 4)), (5, .int (II 2)), (6, .int (II (v i 2))), (7, .int (II 4)), (9, .int (II (cnt F 5 - cnt F (y + 1)))), (10, .int (II (leaS (fun x => F (x + (y + 1))) (0 + (((y + 1) : Nat) : Int)) (-1) (5 - (y + 1))))), (11, .int (II (0 + (y : Int))))]) C.1 C.2.1 dX8_tells_268 hl (by decide) rfl (fun ls hl => ?_)
                          refine lv_iinc (v := II (cnt F 5 - cnt F (y + 1) + 1)) (lv' := [(9, .int (II (cnt F 5 - cnt F (y + 1) + 1))), (8, .int (II (bitsS F 5 - bitsS F (y + 1) + 2 ^ y))), (0, .ref (gA g 70)), (1, .int (II (k : Int))), (2, .int (II ho)), (3, .int (II (i : Int))), (4, .int (II 4)), (5, .int (II 2)), (6, .int (II (v i 2))), (7, .int (II 4)), (10, .int (II (leaS (fun x => F (x + (y + 1))) (0 + (((y + 1) : Nat) : Int)) (-1) (5 - (y + 1))))), (11, .int (II (0 + (y : Int))))]) C.1 C.2.1 dX8_tells_270 hl (k := 9) rfl (II_add _ _) (by decide) rfl (fun ls hl => ?_)
                          refine lv_iload C.1 C.2.1 dX8_tells_273 (lv_at hl 11 rfl) ?_
                          refine lv_istore (lv' := [(10, .int (II (0 + (y : Int)))), (9, .int (II (cnt F 5 - cnt F (y + 1) + 1))), (8, .int (II (bitsS F 5 - bitsS F (y + 1) + 2 ^ y))), (0, .ref (gA g 70)), (1, .int (II (k : Int))), (2, .int (II ho)), (3, .int (II (i : Int))), (4, .int (II 4)), (5, .int (II 2)), (6, .int (II (v i 2))), (7, .int (II 4)), (11, .int (II (0 + (y : Int))))]) C.1 C.2.1 dX8_tells_275 hl (by decide) rfl (fun ls hl => ?_)
                          skip
                          refine lv_iinc (v := II (0 + (y : Int) + (-1))) (lv' := [(11, .int (II (0 + (y : Int) + (-1)))), (10, .int (II (0 + (y : Int)))), (9, .int (II (cnt F 5 - cnt F (y + 1) + 1))), (8, .int (II (bitsS F 5 - bitsS F (y + 1) + 2 ^ y))), (0, .ref (gA g 70)), (1, .int (II (k : Int))), (2, .int (II ho)), (3, .int (II (i : Int))), (4, .int (II 4)), (5, .int (II 2)), (6, .int (II (v i 2))), (7, .int (II 4))]) C.1 C.2.1 dX8_tells_277 hl (k := 11) rfl (II_add _ _) (by decide) rfl (fun ls hl => ?_)
                          refine lv_goto (tgt := 211) C.1 C.2.1 dX8_tells_280 (by decide) ?_
                          have hFy : F y = true := by rw [hFe]; exact decide_eq_true c248
                          have e8 : bitsS F 5 - bitsS F y = (bitsS F 5 - bitsS F (y + 1) + 2 ^ y : Int) := bits_t hFy
                          have e9 : cnt F 5 - cnt F y = (cnt F 5 - cnt F (y + 1) + 1 : Int) := cntt_ hFy
                          have e10 : leaS (fun x => F (x + y)) (0 + ((y : Nat) : Int)) (-1) (5 - y) = (0 + (y : Int) : Int) := lea_t hFy (by omega)
                          have e11 : 0 + ((y : Nat) : Int) - 1 = (0 + (y : Int) + (-1) : Int) := by omega
                          have hl : lv_has ls 12 [(11, .int (II (0 + ((y : Nat) : Int) - 1))), (10, .int (II (leaS (fun x => F (x + y)) (0 + ((y : Nat) : Int)) (-1) (5 - y)))), (9, .int (II (cnt F 5 - cnt F y))), (8, .int (II (bitsS F 5 - bitsS F y))), (0, .ref (gA g 70)), (1, .int (II (k : Int))), (2, .int (II ho)), (3, .int (II (i : Int))), (4, .int (II 4)), (5, .int (II 2)), (6, .int (II (v i 2))), (7, .int (II 4))] := by rw [e8, e9, e10, e11]; exact hl
                          exact ih211  y M244 (by omega) (by omega) (fun m hm => by rw [h244f m (fun z => hm (Or.inl z)), st_n (fun z => hm (Or.inr z))]; exact hf3 m hm) _ _ _ hw hS (lv_sub hl [4, 5, 6, 7, 8, 9, 10, 11, 3, 2, 1, 0] rfl)
                  have e8 : bitsS F 5 - bitsS F 5 = (0 : Int) := by first | (rw [Int.sub_self]; done) | (rw [lea_end]; done) | omega | rfl | simp
                  have e9 : cnt F 5 - cnt F 5 = (0 : Int) := by first | (rw [Int.sub_self]; done) | (rw [lea_end]; done) | omega | rfl | simp
                  have e10 : leaS (fun x => F (x + 5)) (0 + ((5 : Nat) : Int)) (-1) (5 - 5) = ((-1) : Int) := by first | (rw [Int.sub_self]; done) | (rw [lea_end]; done) | omega | rfl | simp
                  have e11 : 0 + ((5 : Nat) : Int) - 1 = (4 : Int) := by first | (rw [Int.sub_self]; done) | (rw [lea_end]; done) | omega | rfl | simp
                  have hl : lv_has ls 12 [(11, .int (II (0 + ((5 : Nat) : Int) - 1))), (10, .int (II (leaS (fun x => F (x + 5)) (0 + ((5 : Nat) : Int)) (-1) (5 - 5)))), (9, .int (II (cnt F 5 - cnt F 5))), (8, .int (II (bitsS F 5 - bitsS F 5))), (7, .int (II 4)), (6, .int (II (v i 2))), (5, .int (II 2)), (0, .ref (gA g 70)), (1, .int (II (k : Int))), (2, .int (II ho)), (3, .int (II (i : Int))), (4, .int (II 4))] := by rw [e8, e9, e10, e11]; exact hl
                  exact L211 _ 5 M148 (Nat.lt_succ_self _) (by omega) (fun _ _ => rfl) _ _ _ hw hS (lv_sub hl [7, 8, 9, 10, 11, 6, 5, 4, 3, 2, 1, 0] rfl)
                · have hl : lv_has ls 12 [(0, .ref (gA g 70)), (1, .int (II (k : Int))), (2, .int (II ho)), (3, .int (II q)), (4, .int (II 5))] := hl
                  obtain ⟨i, rfl⟩ : ∃ i : Nat, q = (i : Int) := ⟨q.toNat, by omega⟩
                  obtain ⟨F, hFe⟩ : ∃ F : Nat → Bool, F = (fun (j : Nat) => ftF v n nt (X.2.1 t) ho (Sh.2.2 k) i 3 ((-20) + (j : Int))) := ⟨_, rfl⟩
                  refine lv_iload C.1 C.2.1 dX8_tells_70 (lv_at hl 4 rfl) ?_
                  refine x_if_ne (tgt := 82) C ⟨by decide, by decide⟩ dX8_tells_72 (by decide) (fun _ => ?_) (fun h => absurd h (by decide))
                  refine lv_iload C.1 C.2.1 dX8_tells_82 (lv_at hl 4 rfl) ?_
                  refine lv_iconst (v := II 1) C.1 C.2.1 dX8_tells_84 rfl ?_
                  refine x_icmp_ne (tgt := 93) C ⟨by decide, by decide⟩ ⟨by decide, by decide⟩ dX8_tells_85 (by decide) (fun _ => ?_) (fun h => absurd h (by decide))
                  refine lv_iload C.1 C.2.1 dX8_tells_93 (lv_at hl 4 rfl) ?_
                  refine lv_iconst (v := II 2) C.1 C.2.1 dX8_tells_95 rfl ?_
                  refine x_icmp_ne (tgt := 103) C ⟨by decide, by decide⟩ ⟨by decide, by decide⟩ dX8_tells_96 (by decide) (fun _ => ?_) (fun h => absurd h (by decide))
                  refine lv_iload C.1 C.2.1 dX8_tells_103 (lv_at hl 4 rfl) ?_
                  refine lv_iconst (v := II 5) C.1 C.2.1 dX8_tells_105 rfl ?_
                  refine x_icmp_ge (tgt := 116) C ⟨by decide, by decide⟩ ⟨by decide, by decide⟩ dX8_tells_106 (by decide) (fun _ => ?_) (fun h => absurd h (by decide))
                  refine lv_iload C.1 C.2.1 dX8_tells_116 (lv_at hl 4 rfl) ?_
                  refine lv_bipush (v := II 7) C.1 C.2.1 dX8_tells_118 (by decide) ?_
                  refine x_icmp_ge (tgt := 127) C ⟨by decide, by decide⟩ ⟨by decide, by decide⟩ dX8_tells_120 (by decide) (fun h => absurd h (by decide)) (fun _ => ?_)
                  refine lv_iconst (v := II 3) C.1 C.2.1 dX8_tells_123 rfl ?_
                  refine lv_goto (tgt := 128) C.1 C.2.1 dX8_tells_124 (by decide) ?_
                  refine lv_istore (lv' := [(5, .int (II 3)), (0, .ref (gA g 70)), (1, .int (II (k : Int))), (2, .int (II ho)), (3, .int (II (i : Int))), (4, .int (II 5))]) C.1 C.2.1 dX8_tells_128 hl (by decide) rfl (fun ls hl => ?_)
                  refine lv_iload C.1 C.2.1 dX8_tells_130 (lv_at hl 0 rfl) ?_
                  refine lv_bipush (v := II 6) C.1 C.2.1 dX8_tells_132 (by decide) ?_
                  refine x_icmp_ne (tgt := 144) C ⟨by decide, by decide⟩ ⟨by decide, by decide⟩ dX8_tells_134 (by decide) (fun _ => ?_) (fun h => absurd h (by decide))
                  refine lv_aload_n C.1 C.2.1 dX8_tells_144 rfl (lv_at hl 1 rfl) ?_
                  refine lv_iload_n C.1 C.2.1 dX8_tells_145 rfl (lv_at hl 4 rfl) ?_
                  refine lv_iload C.1 C.2.1 dX8_tells_146 (lv_at hl 0 rfl) ?_
                  refine x_ci (x_runV (n := 2) C hw hS hml hl.1 70 8 (by omega) rfl (by decide) rfl (c_X8_told l g M hF n v nt pd t X I Sh hR hA (i : Int) ⟨by omega, by omega⟩ 3 ⟨by decide, by decide⟩) mw_970 mw_971 mw_972 mw_130 mw_973 rfl rfl (by decide +kernel) ⟨Nat.le_of_ble_eq_true rfl, Nat.le_of_ble_eq_true rfl⟩ rfl rfl (Nat.le_of_ble_eq_true rfl) dX8_tells_148 ⟨Nat.zero_le _, Nat.zero_le _⟩) hS (fun r148 M148 H locs hr148 hp hw hS => ?_)
                  obtain ⟨er148, h148r, h148k⟩ := hp
                  have g_M148 := hw.rg
                  rw [er148] at hr148 ⊢
                  have ew : r_told v n nt (X.2.1 t) (i : Int) 3 = v i 3 := by
                    unfold r_told
                    rw [if_neg (by decide), if_neg (fun z => z (by omega)), if_pos (by decide)]; rfl
                  rw [ew]
                  have hMB : MB M148 n v nt t (X.2.1 t) (-1) := h148r.mb hA
                  have hq0 := hM.2.2.1 i (by omega)
                  obtain ⟨-, -, -, -, q5⟩ : Sh.1 k ≠ -1 ∧ M148 (80000 + k) = 1 ∧ M148 (81000 + k) = Sh.1 k ∧ M148 (82000 + k) = Sh.2.1 k ∧ ∀ j : Nat, (j : Int) < Sh.2.1 k → M148 (83000 + (40 * k + j)) = Sh.2.2 k j := by
                    rcases h148r.2.2.2.1 k (by omega) with z | z
                    · exact absurd z.1 zs1
                    · exact z
                  refine lv_istore (lv' := [(6, .int (II (v i 3))), (5, .int (II 3)), (0, .ref (gA g 70)), (1, .int (II (k : Int))), (2, .int (II ho)), (3, .int (II (i : Int))), (4, .int (II 5))]) C.1 C.2.1 dX8_tells_151 hl (by decide) rfl (fun ls hl => ?_)
                  refine lv_iload C.1 C.2.1 dX8_tells_153 (lv_at hl 1 rfl) ?_
                  refine lv_bipush (v := II 6) C.1 C.2.1 dX8_tells_155 (by decide) ?_
                  refine x_icmp_ne (tgt := 169) C ⟨by decide, by decide⟩ ⟨by decide, by decide⟩ dX8_tells_157 (by decide) (fun _ => ?_) (fun h => absurd h (by decide))
                  refine lv_iload C.1 C.2.1 dX8_tells_169 (lv_at hl 1 rfl) ?_
                  refine lv_iconst (v := II 5) C.1 C.2.1 dX8_tells_171 rfl ?_
                  refine x_icmp_ne (tgt := 179) C ⟨by decide, by decide⟩ ⟨by decide, by decide⟩ dX8_tells_172 (by decide) (fun _ => ?_) (fun h => absurd h (by decide))
                  refine lv_iload C.1 C.2.1 dX8_tells_179 (lv_at hl 1 rfl) ?_
                  refine x_ci (x_runS (n := 1) C hw hS hml hl.1 (c_X8_mostOf l g M148 3 (by decide)) mw_967 mw_968 mw_130 mw_969 rfl rfl (by decide +kernel) ⟨Nat.le_of_ble_eq_true rfl, Nat.le_of_ble_eq_true rfl⟩ rfl rfl (Nat.le_of_ble_eq_true rfl) dX8_tells_181 ⟨Nat.zero_le _, Nat.zero_le _⟩) hS (fun r181 M181 H locs hr181 hp hw hS => ?_)
                  obtain ⟨em181, er181⟩ := hp
                  have hw : Wo g M148 H := em181 ▸ hw
                  rw [er181] at hr181 ⊢
                  rw [show hiT 3 = (20 : Int) from by decide] at hr181 ⊢
                  refine lv_istore (lv' := [(7, .int (II 20)), (6, .int (II (v i 3))), (5, .int (II 3)), (0, .ref (gA g 70)), (1, .int (II (k : Int))), (2, .int (II ho)), (3, .int (II (i : Int))), (4, .int (II 5))]) C.1 C.2.1 dX8_tells_184 hl (by decide) rfl (fun ls hl => ?_)
                  refine lv_iconst (v := II 0) C.1 C.2.1 dX8_tells_186 rfl ?_
                  refine lv_istore (lv' := [(8, .int (II 0)), (7, .int (II 20)), (6, .int (II (v i 3))), (5, .int (II 3)), (0, .ref (gA g 70)), (1, .int (II (k : Int))), (2, .int (II ho)), (3, .int (II (i : Int))), (4, .int (II 5))]) C.1 C.2.1 dX8_tells_187 hl (by decide) rfl (fun ls hl => ?_)
                  refine lv_iconst (v := II 0) C.1 C.2.1 dX8_tells_189 rfl ?_
                  refine lv_istore (lv' := [(9, .int (II 0)), (8, .int (II 0)), (7, .int (II 20)), (6, .int (II (v i 3))), (5, .int (II 3)), (0, .ref (gA g 70)), (1, .int (II (k : Int))), (2, .int (II ho)), (3, .int (II (i : Int))), (4, .int (II 5))]) C.1 C.2.1 dX8_tells_190 hl (by decide) rfl (fun ls hl => ?_)
                  refine lv_iload C.1 C.2.1 dX8_tells_192 (lv_at hl 9 rfl) ?_
                  refine lv_bipush (v := II 6) C.1 C.2.1 dX8_tells_194 (by decide) ?_
                  refine x_icmp_ne (tgt := 204) C ⟨by decide, by decide⟩ ⟨by decide, by decide⟩ dX8_tells_196 (by decide) (fun _ => ?_) (fun h => absurd h (by decide))
                  refine lv_iconst (v := II (-1)) C.1 C.2.1 dX8_tells_204 rfl ?_
                  refine lv_istore (lv' := [(10, .int (II (-1))), (9, .int (II 0)), (8, .int (II 0)), (7, .int (II 20)), (6, .int (II (v i 3))), (5, .int (II 3)), (0, .ref (gA g 70)), (1, .int (II (k : Int))), (2, .int (II ho)), (3, .int (II (i : Int))), (4, .int (II 5))]) C.1 C.2.1 dX8_tells_205 hl (by decide) rfl (fun ls hl => ?_)
                  refine lv_iload C.1 C.2.1 dX8_tells_207 (lv_at hl 3 rfl) ?_
                  refine lv_istore (lv' := [(11, .int (II 20)), (10, .int (II (-1))), (9, .int (II 0)), (8, .int (II 0)), (7, .int (II 20)), (6, .int (II (v i 3))), (5, .int (II 3)), (0, .ref (gA g 70)), (1, .int (II (k : Int))), (2, .int (II ho)), (3, .int (II (i : Int))), (4, .int (II 5))]) C.1 C.2.1 dX8_tells_209 hl (by decide) rfl (fun ls hl => ?_)
                  have L211 : ∀ (f5 : Nat) (j : Nat) (M3 : Nat → Int), j < f5 → (j ≤ 41) → (∀ m, ¬ (scm m ∨ m = (75000 + (4 * i + 2))) → M3 m = M148 m) → ∀ (H : Heap) (locs : List Loc) (ls : Array Slot), Wo g M3 H → va_S (ar g) s.heap H locs → lv_has ls 12 [(0, .ref (gA g 70)), (1, .int (II (k : Int))), (2, .int (II ho)), (3, .int (II (i : Int))), (4, .int (II 5)), (5, .int (II 3)), (6, .int (II (v i 3))), (7, .int (II 20)), (8, .int (II 0)), (9, .int (II (cnt F 41 - cnt F j))), (10, .int (II (leaS (fun x => F (x + j)) ((-20) + ((j : Nat) : Int)) (-1) (41 - j)))), (11, .int (II ((-20) + ((j : Nat) : Int) - 1)))] → W p l e (rmm 45 1001) s m args below meth c H locs 0 0 QQ (F0 m 211 ls []) := by
                    intro f5
                    induction f5 with
                    | zero => intro j M3 hmu; exact absurd hmu (Nat.not_lt_zero _)
                    | succ f5 ih =>
                      intro j M3 hmu h1 hf3 H locs ls hw hS hl
                      have ih211 := ih
                      have g_M3 := hw.rg
                      have hcj := cnt_in F j
                      have hcm := cnt_in F 41
                      have hsj : cnt F j ≤ cnt F 41 := cnt_mono (by omega)
                      have hle := lea_in (F := fun x => F (x + j)) (lo := (-20) + ((j : Nat) : Int)) (no := (-1)) (m := 41 - j)
                      refine lv_iload C.1 C.2.1 dX8_tells_211 (lv_at hl 11 rfl) ?_
                      refine lv_iload C.1 C.2.1 dX8_tells_213 (lv_at hl 5 rfl) ?_
                      refine lv_bipush (v := II 6) C.1 C.2.1 dX8_tells_215 (by decide) ?_
                      refine x_icmp_ge (tgt := 228) C ⟨by decide, by decide⟩ ⟨by decide, by decide⟩ dX8_tells_217 (by decide) (fun h => absurd h (by decide)) (fun _ => ?_)
                      refine lv_iload C.1 C.2.1 dX8_tells_220 (lv_at hl 5 rfl) ?_
                      refine x_ci (x_runS (n := 1) C hw hS hml hl.1 (c_X8_leastOf l g M3 3 (by decide)) mw_964 mw_965 mw_130 mw_966 rfl rfl (by decide +kernel) ⟨Nat.le_of_ble_eq_true rfl, Nat.le_of_ble_eq_true rfl⟩ rfl rfl (Nat.le_of_ble_eq_true rfl) dX8_tells_222 ⟨Nat.zero_le _, Nat.zero_le _⟩) hS (fun r222 M222 H locs hr222 hp hw hS => ?_)
                      obtain ⟨em222, er222⟩ := hp
                      have hw : Wo g M3 H := em222 ▸ hw
                      rw [er222] at hr222 ⊢
                      rw [show loT 3 = ((-20) : Int) from by decide] at hr222 ⊢
                      refine lv_goto (tgt := 229) C.1 C.2.1 dX8_tells_225 (by decide) ?_
                      refine x_icmp_lt (tgt := 283) C ⟨by omega, by omega⟩ ⟨by decide, by decide⟩ dX8_tells_229 (by decide) (fun c229 => ?_) (fun c229 => ?_)
                      · refine lv_aload_n C.1 C.2.1 dX8_tells_283 rfl (lv_at hl 0 rfl) ?_
                        refine lv_iload C.1 C.2.1 dX8_tells_284 (lv_at hl 5 rfl) ?_
                        refine lv_iload_n C.1 C.2.1 dX8_tells_286 rfl (lv_at hl 3 rfl) ?_
                        refine lv_iload C.1 C.2.1 dX8_tells_287 (lv_at hl 6 rfl) ?_
                        refine x_cv (x_runV (n := 3) C hw hS hml hl.1 70 8 (by omega) rfl (by decide) rfl (c_X8_laysN l g M3 hF 3 (by omega) i (by omega) 3 (75000 + (4 * i + 2)) ⟨by unfold psP; omega, by omega⟩ (v i 3) ⟨by omega, by omega⟩) mw_1200 mw_1202 mw_107 mw_130 mw_1203 rfl rfl (by decide +kernel) ⟨Nat.le_of_ble_eq_true rfl, Nat.le_of_ble_eq_true rfl⟩ rfl rfl (Nat.le_of_ble_eq_true rfl) dX8_tells_289 ⟨Nat.zero_le _, Nat.zero_le _⟩) hS (fun M289 H locs hp hw hS => ?_)
                        have em289 := hp
                        have hw : Wo g (stM M3 (75000 + (4 * i + 2)) (v i 3)) H := em289 ▸ hw
                        refine lv_iload C.1 C.2.1 dX8_tells_292 (lv_at hl 4 rfl) ?_
                        refine lv_iconst (v := II 5) C.1 C.2.1 dX8_tells_294 rfl ?_
                        refine x_icmp_ge (tgt := 303) C ⟨by decide, by decide⟩ ⟨by decide, by decide⟩ dX8_tells_295 (by decide) (fun _ => ?_) (fun h => absurd h (by decide))
                        refine lv_iload C.1 C.2.1 dX8_tells_303 (lv_at hl 4 rfl) ?_
                        refine lv_iconst (v := II 2) C.1 C.2.1 dX8_tells_305 rfl ?_
                        refine x_irem C (by omega) ⟨by decide, by decide⟩ (by omega) ⟨by decide, by decide⟩ dX8_tells_306 ?_
                        rw [show (5 % 2 : Int) = 1 from by decide]
                        refine lv_iconst (v := II 1) C.1 C.2.1 dX8_tells_307 rfl ?_
                        refine x_icmp_ne (tgt := 316) C ⟨by decide, by decide⟩ ⟨by decide, by decide⟩ dX8_tells_308 (by decide) (fun h => absurd h (by decide)) (fun _ => ?_)
                        refine lv_iload C.1 C.2.1 dX8_tells_311 (lv_at hl 9 rfl) ?_
                        refine lv_goto (tgt := 318) C.1 C.2.1 dX8_tells_313 (by decide) ?_
                        subst hQQ; exact x_ireturn C hr hlk hw hS ⟨by omega, by omega⟩ rfl ⟨(by have hj0 : j = 0 := (by omega); subst hj0; unfold r_tells; rw [if_neg (by rw [eok]; decide)]; simp only [Int.toNat_natCast]; rw [if_neg zs1, if_neg (fun z => z hz6), if_neg (by decide), if_neg (by decide), if_neg (by decide), if_neg (by decide), if_neg (by decide), if_pos trivial]; subst hFe; exact cntz_), (h148r.fr hA (fun m hm _ => by
      by_cases e : m = (75000 + (4 * i + 2))
      · rw [e, st_s]; exact (mb_at hMB (q := i) (f := 3) (by omega) (by unfold psP; omega)).symm
      · rw [st_n e]; exact hf3 m (fun z => z.elim (fun y => hm (Or.inl y)) e))), (fun m hm => by rw [st_n (by omega), hf3 m (by unfold scm; omega)]; exact h148k m hm)⟩ dX8_tells_318
                      · obtain ⟨y, rfl⟩ : ∃ y, j = y + 1 := ⟨j - 1, by omega⟩
                        have ev : (-20) + (((y + 1) : Nat) : Int) - 1 = (-20) + (y : Int) := by omega
                        have hl : lv_has ls 12 [(0, .ref (gA g 70)), (1, .int (II (k : Int))), (2, .int (II ho)), (3, .int (II (i : Int))), (4, .int (II 5)), (5, .int (II 3)), (6, .int (II (v i 3))), (7, .int (II 20)), (8, .int (II 0)), (9, .int (II (cnt F 41 - cnt F (y + 1)))), (10, .int (II (leaS (fun x => F (x + (y + 1))) ((-20) + (((y + 1) : Nat) : Int)) (-1) (41 - (y + 1))))), (11, .int (II ((-20) + (y : Int))))] := by rw [← ev]; exact hl
                        refine lv_aload_n C.1 C.2.1 dX8_tells_232 rfl (lv_at hl 0 rfl) ?_
                        refine lv_iload C.1 C.2.1 dX8_tells_233 (lv_at hl 5 rfl) ?_
                        refine lv_iload_n C.1 C.2.1 dX8_tells_235 rfl (lv_at hl 3 rfl) ?_
                        refine lv_iload C.1 C.2.1 dX8_tells_236 (lv_at hl 11 rfl) ?_
                        refine x_cv (x_runV (n := 3) C hw hS hml hl.1 70 8 (by omega) rfl (by decide) rfl (c_X8_laysN l g M3 hF 3 (by omega) i (by omega) 3 (75000 + (4 * i + 2)) ⟨by unfold psP; omega, by omega⟩ ((-20) + (y : Int)) ⟨by omega, by omega⟩) mw_1200 mw_1202 mw_107 mw_130 mw_1203 rfl rfl (by decide +kernel) ⟨Nat.le_of_ble_eq_true rfl, Nat.le_of_ble_eq_true rfl⟩ rfl rfl (Nat.le_of_ble_eq_true rfl) dX8_tells_238 ⟨Nat.zero_le _, Nat.zero_le _⟩) hS (fun M238 H locs hp hw hS => ?_)
                        have em238 := hp
                        have hw : Wo g (stM M3 (75000 + (4 * i + 2)) ((-20) + (y : Int))) H := em238 ▸ hw
                        refine lv_aload_n C.1 C.2.1 dX8_tells_241 rfl (lv_at hl 0 rfl) ?_
                        refine lv_iload_n C.1 C.2.1 dX8_tells_242 rfl (lv_at hl 1 rfl) ?_
                        refine lv_iload_n C.1 C.2.1 dX8_tells_243 rfl (lv_at hl 2 rfl) ?_
                        refine x_ci (x_runV (n := 2) C hw hS hml hl.1 70 8 (by omega) rfl (by decide) rfl (c_X8_firstOther l g (stM M3 (75000 + (4 * i + 2)) ((-20) + (y : Int))) hF n (upv v i 3 ((-20) + (y : Int))) nt t (X.2.1 t) (hMB.up (q := i) (f := 3) (ps := (75000 + (4 * i + 2))) (by unfold psP; omega) (fun m hm => by unfold sc4 scm at hm; rw [st_n (by omega)]; exact hf3 m (by unfold scm; omega)) st_s (hM.2.2.1.okF (by unfold okF; omega)) (fun z => by omega) (by omega)) k (by omega) (Sh.2.2 k) (fun h hh => (st_n (by omega)).trans ((hf3 _ (by unfold scm; omega)).trans (q5 h (by rw [hz6]; omega)))) ho gz_ho) mw_1306 mw_1308 mw_114 mw_130 mw_1309 rfl rfl (by decide +kernel) ⟨Nat.le_of_ble_eq_true rfl, Nat.le_of_ble_eq_true rfl⟩ rfl rfl (Nat.le_of_ble_eq_true rfl) dX8_tells_244 ⟨Nat.zero_le _, Nat.zero_le _⟩) hS (fun r244 M244 H locs hr244 hp hw hS => ?_)
                        obtain ⟨er244, h244f⟩ := hp
                        have g_M244 := hw.rg
                        rw [er244] at hr244 ⊢
                        have hfo := foS_in (fun h => reedS (upv v i 3 ((-20) + (y : Int))) n nt (X.2.1 t) ho h) (Sh.2.2 k)
                        refine lv_iconst (v := II (-1)) C.1 C.2.1 dX8_tells_247 rfl ?_
                        refine x_icmp_ne (tgt := 277) C hr244 ⟨by decide, by decide⟩ dX8_tells_248 (by decide) (fun c248 => ?_) (fun c248 => ?_)
                        · skip
                          refine lv_iinc (v := II ((-20) + (y : Int) + (-1))) (lv' := [(11, .int (II ((-20) + (y : Int) + (-1)))), (0, .ref (gA g 70)), (1, .int (II (k : Int))), (2, .int (II ho)), (3, .int (II (i : Int))), (4, .int (II 5)), (5, .int (II 3)), (6, .int (II (v i 3))), (7, .int (II 20)), (8, .int (II 0)), (9, .int (II (cnt F 41 - cnt F (y + 1)))), (10, .int (II (leaS (fun x => F (x + (y + 1))) ((-20) + (((y + 1) : Nat) : Int)) (-1) (41 - (y + 1)))))]) C.1 C.2.1 dX8_tells_277 hl (k := 11) rfl (II_add _ _) (by decide) rfl (fun ls hl => ?_)
                          refine lv_goto (tgt := 211) C.1 C.2.1 dX8_tells_280 (by decide) ?_
                          have hFy : F y = false := by rw [hFe]; exact decide_eq_false c248
                          have e9 : cnt F 41 - cnt F y = (cnt F 41 - cnt F (y + 1) : Int) := cntf_ hFy
                          have e10 : leaS (fun x => F (x + y)) ((-20) + ((y : Nat) : Int)) (-1) (41 - y) = (leaS (fun x => F (x + (y + 1))) ((-20) + (((y + 1) : Nat) : Int)) (-1) (41 - (y + 1)) : Int) := lea_f hFy (by omega)
                          have e11 : (-20) + ((y : Nat) : Int) - 1 = ((-20) + (y : Int) + (-1) : Int) := by omega
                          have hl : lv_has ls 12 [(11, .int (II ((-20) + ((y : Nat) : Int) - 1))), (0, .ref (gA g 70)), (1, .int (II (k : Int))), (2, .int (II ho)), (3, .int (II (i : Int))), (4, .int (II 5)), (5, .int (II 3)), (6, .int (II (v i 3))), (7, .int (II 20)), (8, .int (II 0)), (9, .int (II (cnt F 41 - cnt F y))), (10, .int (II (leaS (fun x => F (x + y)) ((-20) + ((y : Nat) : Int)) (-1) (41 - y))))] := by rw [e9, e10, e11]; exact hl
                          exact ih211  y M244 (by omega) (by omega) (fun m hm => by rw [h244f m (fun z => hm (Or.inl z)), st_n (fun z => hm (Or.inr z))]; exact hf3 m hm) _ _ _ hw hS (lv_sub hl [1, 2, 3, 4, 5, 6, 7, 8, 9, 10, 11, 0] rfl)
                        · skip
                          refine lv_iload C.1 C.2.1 dX8_tells_251 (lv_at hl 8 rfl) ?_
                          refine lv_iload C.1 C.2.1 dX8_tells_253 (lv_at hl 4 rfl) ?_
                          refine lv_iconst (v := II 5) C.1 C.2.1 dX8_tells_255 rfl ?_
                          refine x_icmp_ge (tgt := 266) C ⟨by decide, by decide⟩ ⟨by decide, by decide⟩ dX8_tells_256 (by decide) (fun _ => ?_) (fun h => absurd h (by decide))
                          refine lv_iconst (v := II 0) C.1 C.2.1 dX8_tells_266 rfl ?_
                          refine lv_ior C.1 C.2.1 dX8_tells_267 ?_
                          rw [show (II 0 ||| II 0) = II 0 from by decide]
                          refine lv_istore (lv' := [(8, .int (II 0)), (0, .ref (gA g 70)), (1, .int (II (k : Int))), (2, .int (II ho)), (3, .int (II (i : Int))), (4, .int (II 5)), (5, .int (II 3)), (6, .int (II (v i 3))), (7, .int (II 20)), (9, .int (II (cnt F 41 - cnt F (y + 1)))), (10, .int (II (leaS (fun x => F (x + (y + 1))) ((-20) + (((y + 1) : Nat) : Int)) (-1) (41 - (y + 1))))), (11, .int (II ((-20) + (y : Int))))]) C.1 C.2.1 dX8_tells_268 hl (by decide) rfl (fun ls hl => ?_)
                          refine lv_iinc (v := II (cnt F 41 - cnt F (y + 1) + 1)) (lv' := [(9, .int (II (cnt F 41 - cnt F (y + 1) + 1))), (8, .int (II 0)), (0, .ref (gA g 70)), (1, .int (II (k : Int))), (2, .int (II ho)), (3, .int (II (i : Int))), (4, .int (II 5)), (5, .int (II 3)), (6, .int (II (v i 3))), (7, .int (II 20)), (10, .int (II (leaS (fun x => F (x + (y + 1))) ((-20) + (((y + 1) : Nat) : Int)) (-1) (41 - (y + 1))))), (11, .int (II ((-20) + (y : Int))))]) C.1 C.2.1 dX8_tells_270 hl (k := 9) rfl (II_add _ _) (by decide) rfl (fun ls hl => ?_)
                          refine lv_iload C.1 C.2.1 dX8_tells_273 (lv_at hl 11 rfl) ?_
                          refine lv_istore (lv' := [(10, .int (II ((-20) + (y : Int)))), (9, .int (II (cnt F 41 - cnt F (y + 1) + 1))), (8, .int (II 0)), (0, .ref (gA g 70)), (1, .int (II (k : Int))), (2, .int (II ho)), (3, .int (II (i : Int))), (4, .int (II 5)), (5, .int (II 3)), (6, .int (II (v i 3))), (7, .int (II 20)), (11, .int (II ((-20) + (y : Int))))]) C.1 C.2.1 dX8_tells_275 hl (by decide) rfl (fun ls hl => ?_)
                          skip
                          refine lv_iinc (v := II ((-20) + (y : Int) + (-1))) (lv' := [(11, .int (II ((-20) + (y : Int) + (-1)))), (10, .int (II ((-20) + (y : Int)))), (9, .int (II (cnt F 41 - cnt F (y + 1) + 1))), (8, .int (II 0)), (0, .ref (gA g 70)), (1, .int (II (k : Int))), (2, .int (II ho)), (3, .int (II (i : Int))), (4, .int (II 5)), (5, .int (II 3)), (6, .int (II (v i 3))), (7, .int (II 20))]) C.1 C.2.1 dX8_tells_277 hl (k := 11) rfl (II_add _ _) (by decide) rfl (fun ls hl => ?_)
                          refine lv_goto (tgt := 211) C.1 C.2.1 dX8_tells_280 (by decide) ?_
                          have hFy : F y = true := by rw [hFe]; exact decide_eq_true c248
                          have e9 : cnt F 41 - cnt F y = (cnt F 41 - cnt F (y + 1) + 1 : Int) := cntt_ hFy
                          have e10 : leaS (fun x => F (x + y)) ((-20) + ((y : Nat) : Int)) (-1) (41 - y) = ((-20) + (y : Int) : Int) := lea_t hFy (by omega)
                          have e11 : (-20) + ((y : Nat) : Int) - 1 = ((-20) + (y : Int) + (-1) : Int) := by omega
                          have hl : lv_has ls 12 [(11, .int (II ((-20) + ((y : Nat) : Int) - 1))), (10, .int (II (leaS (fun x => F (x + y)) ((-20) + ((y : Nat) : Int)) (-1) (41 - y)))), (9, .int (II (cnt F 41 - cnt F y))), (8, .int (II 0)), (0, .ref (gA g 70)), (1, .int (II (k : Int))), (2, .int (II ho)), (3, .int (II (i : Int))), (4, .int (II 5)), (5, .int (II 3)), (6, .int (II (v i 3))), (7, .int (II 20))] := by rw [e9, e10, e11]; exact hl
                          exact ih211  y M244 (by omega) (by omega) (fun m hm => by rw [h244f m (fun z => hm (Or.inl z)), st_n (fun z => hm (Or.inr z))]; exact hf3 m hm) _ _ _ hw hS (lv_sub hl [4, 5, 6, 7, 8, 9, 10, 11, 3, 2, 1, 0] rfl)
                  have e9 : cnt F 41 - cnt F 41 = (0 : Int) := by first | (rw [Int.sub_self]; done) | (rw [lea_end]; done) | omega | rfl | simp
                  have e10 : leaS (fun x => F (x + 41)) ((-20) + ((41 : Nat) : Int)) (-1) (41 - 41) = ((-1) : Int) := by first | (rw [Int.sub_self]; done) | (rw [lea_end]; done) | omega | rfl | simp
                  have e11 : (-20) + ((41 : Nat) : Int) - 1 = (20 : Int) := by first | (rw [Int.sub_self]; done) | (rw [lea_end]; done) | omega | rfl | simp
                  have hl : lv_has ls 12 [(11, .int (II ((-20) + ((41 : Nat) : Int) - 1))), (10, .int (II (leaS (fun x => F (x + 41)) ((-20) + ((41 : Nat) : Int)) (-1) (41 - 41)))), (9, .int (II (cnt F 41 - cnt F 41))), (8, .int (II 0)), (7, .int (II 20)), (6, .int (II (v i 3))), (5, .int (II 3)), (0, .ref (gA g 70)), (1, .int (II (k : Int))), (2, .int (II ho)), (3, .int (II (i : Int))), (4, .int (II 5))] := by rw [e9, e10, e11]; exact hl
                  exact L211 _ 41 M148 (Nat.lt_succ_self _) (by omega) (fun _ _ => rfl) _ _ _ hw hS (lv_sub hl [7, 8, 9, 10, 11, 6, 5, 4, 3, 2, 1, 0] rfl)
                · have hl : lv_has ls 12 [(0, .ref (gA g 70)), (1, .int (II (k : Int))), (2, .int (II ho)), (3, .int (II q)), (4, .int (II 6))] := hl
                  obtain ⟨i, rfl⟩ : ∃ i : Nat, q = (i : Int) := ⟨q.toNat, by omega⟩
                  obtain ⟨F, hFe⟩ : ∃ F : Nat → Bool, F = (fun (j : Nat) => ftF v n nt (X.2.1 t) ho (Sh.2.2 k) i 3 ((-20) + (j : Int))) := ⟨_, rfl⟩
                  refine lv_iload C.1 C.2.1 dX8_tells_70 (lv_at hl 4 rfl) ?_
                  refine x_if_ne (tgt := 82) C ⟨by decide, by decide⟩ dX8_tells_72 (by decide) (fun _ => ?_) (fun h => absurd h (by decide))
                  refine lv_iload C.1 C.2.1 dX8_tells_82 (lv_at hl 4 rfl) ?_
                  refine lv_iconst (v := II 1) C.1 C.2.1 dX8_tells_84 rfl ?_
                  refine x_icmp_ne (tgt := 93) C ⟨by decide, by decide⟩ ⟨by decide, by decide⟩ dX8_tells_85 (by decide) (fun _ => ?_) (fun h => absurd h (by decide))
                  refine lv_iload C.1 C.2.1 dX8_tells_93 (lv_at hl 4 rfl) ?_
                  refine lv_iconst (v := II 2) C.1 C.2.1 dX8_tells_95 rfl ?_
                  refine x_icmp_ne (tgt := 103) C ⟨by decide, by decide⟩ ⟨by decide, by decide⟩ dX8_tells_96 (by decide) (fun _ => ?_) (fun h => absurd h (by decide))
                  refine lv_iload C.1 C.2.1 dX8_tells_103 (lv_at hl 4 rfl) ?_
                  refine lv_iconst (v := II 5) C.1 C.2.1 dX8_tells_105 rfl ?_
                  refine x_icmp_ge (tgt := 116) C ⟨by decide, by decide⟩ ⟨by decide, by decide⟩ dX8_tells_106 (by decide) (fun _ => ?_) (fun h => absurd h (by decide))
                  refine lv_iload C.1 C.2.1 dX8_tells_116 (lv_at hl 4 rfl) ?_
                  refine lv_bipush (v := II 7) C.1 C.2.1 dX8_tells_118 (by decide) ?_
                  refine x_icmp_ge (tgt := 127) C ⟨by decide, by decide⟩ ⟨by decide, by decide⟩ dX8_tells_120 (by decide) (fun h => absurd h (by decide)) (fun _ => ?_)
                  refine lv_iconst (v := II 3) C.1 C.2.1 dX8_tells_123 rfl ?_
                  refine lv_goto (tgt := 128) C.1 C.2.1 dX8_tells_124 (by decide) ?_
                  refine lv_istore (lv' := [(5, .int (II 3)), (0, .ref (gA g 70)), (1, .int (II (k : Int))), (2, .int (II ho)), (3, .int (II (i : Int))), (4, .int (II 6))]) C.1 C.2.1 dX8_tells_128 hl (by decide) rfl (fun ls hl => ?_)
                  refine lv_iload C.1 C.2.1 dX8_tells_130 (lv_at hl 0 rfl) ?_
                  refine lv_bipush (v := II 6) C.1 C.2.1 dX8_tells_132 (by decide) ?_
                  refine x_icmp_ne (tgt := 144) C ⟨by decide, by decide⟩ ⟨by decide, by decide⟩ dX8_tells_134 (by decide) (fun _ => ?_) (fun h => absurd h (by decide))
                  refine lv_aload_n C.1 C.2.1 dX8_tells_144 rfl (lv_at hl 1 rfl) ?_
                  refine lv_iload_n C.1 C.2.1 dX8_tells_145 rfl (lv_at hl 4 rfl) ?_
                  refine lv_iload C.1 C.2.1 dX8_tells_146 (lv_at hl 0 rfl) ?_
                  refine x_ci (x_runV (n := 2) C hw hS hml hl.1 70 8 (by omega) rfl (by decide) rfl (c_X8_told l g M hF n v nt pd t X I Sh hR hA (i : Int) ⟨by omega, by omega⟩ 3 ⟨by decide, by decide⟩) mw_970 mw_971 mw_972 mw_130 mw_973 rfl rfl (by decide +kernel) ⟨Nat.le_of_ble_eq_true rfl, Nat.le_of_ble_eq_true rfl⟩ rfl rfl (Nat.le_of_ble_eq_true rfl) dX8_tells_148 ⟨Nat.zero_le _, Nat.zero_le _⟩) hS (fun r148 M148 H locs hr148 hp hw hS => ?_)
                  obtain ⟨er148, h148r, h148k⟩ := hp
                  have g_M148 := hw.rg
                  rw [er148] at hr148 ⊢
                  have ew : r_told v n nt (X.2.1 t) (i : Int) 3 = v i 3 := by
                    unfold r_told
                    rw [if_neg (by decide), if_neg (fun z => z (by omega)), if_pos (by decide)]; rfl
                  rw [ew]
                  have hMB : MB M148 n v nt t (X.2.1 t) (-1) := h148r.mb hA
                  have hq0 := hM.2.2.1 i (by omega)
                  obtain ⟨-, -, -, -, q5⟩ : Sh.1 k ≠ -1 ∧ M148 (80000 + k) = 1 ∧ M148 (81000 + k) = Sh.1 k ∧ M148 (82000 + k) = Sh.2.1 k ∧ ∀ j : Nat, (j : Int) < Sh.2.1 k → M148 (83000 + (40 * k + j)) = Sh.2.2 k j := by
                    rcases h148r.2.2.2.1 k (by omega) with z | z
                    · exact absurd z.1 zs1
                    · exact z
                  refine lv_istore (lv' := [(6, .int (II (v i 3))), (5, .int (II 3)), (0, .ref (gA g 70)), (1, .int (II (k : Int))), (2, .int (II ho)), (3, .int (II (i : Int))), (4, .int (II 6))]) C.1 C.2.1 dX8_tells_151 hl (by decide) rfl (fun ls hl => ?_)
                  refine lv_iload C.1 C.2.1 dX8_tells_153 (lv_at hl 1 rfl) ?_
                  refine lv_bipush (v := II 6) C.1 C.2.1 dX8_tells_155 (by decide) ?_
                  refine x_icmp_ne (tgt := 169) C ⟨by decide, by decide⟩ ⟨by decide, by decide⟩ dX8_tells_157 (by decide) (fun _ => ?_) (fun h => absurd h (by decide))
                  refine lv_iload C.1 C.2.1 dX8_tells_169 (lv_at hl 1 rfl) ?_
                  refine lv_iconst (v := II 5) C.1 C.2.1 dX8_tells_171 rfl ?_
                  refine x_icmp_ne (tgt := 179) C ⟨by decide, by decide⟩ ⟨by decide, by decide⟩ dX8_tells_172 (by decide) (fun _ => ?_) (fun h => absurd h (by decide))
                  refine lv_iload C.1 C.2.1 dX8_tells_179 (lv_at hl 1 rfl) ?_
                  refine x_ci (x_runS (n := 1) C hw hS hml hl.1 (c_X8_mostOf l g M148 3 (by decide)) mw_967 mw_968 mw_130 mw_969 rfl rfl (by decide +kernel) ⟨Nat.le_of_ble_eq_true rfl, Nat.le_of_ble_eq_true rfl⟩ rfl rfl (Nat.le_of_ble_eq_true rfl) dX8_tells_181 ⟨Nat.zero_le _, Nat.zero_le _⟩) hS (fun r181 M181 H locs hr181 hp hw hS => ?_)
                  obtain ⟨em181, er181⟩ := hp
                  have hw : Wo g M148 H := em181 ▸ hw
                  rw [er181] at hr181 ⊢
                  rw [show hiT 3 = (20 : Int) from by decide] at hr181 ⊢
                  refine lv_istore (lv' := [(7, .int (II 20)), (6, .int (II (v i 3))), (5, .int (II 3)), (0, .ref (gA g 70)), (1, .int (II (k : Int))), (2, .int (II ho)), (3, .int (II (i : Int))), (4, .int (II 6))]) C.1 C.2.1 dX8_tells_184 hl (by decide) rfl (fun ls hl => ?_)
                  refine lv_iconst (v := II 0) C.1 C.2.1 dX8_tells_186 rfl ?_
                  refine lv_istore (lv' := [(8, .int (II 0)), (7, .int (II 20)), (6, .int (II (v i 3))), (5, .int (II 3)), (0, .ref (gA g 70)), (1, .int (II (k : Int))), (2, .int (II ho)), (3, .int (II (i : Int))), (4, .int (II 6))]) C.1 C.2.1 dX8_tells_187 hl (by decide) rfl (fun ls hl => ?_)
                  refine lv_iconst (v := II 0) C.1 C.2.1 dX8_tells_189 rfl ?_
                  refine lv_istore (lv' := [(9, .int (II 0)), (8, .int (II 0)), (7, .int (II 20)), (6, .int (II (v i 3))), (5, .int (II 3)), (0, .ref (gA g 70)), (1, .int (II (k : Int))), (2, .int (II ho)), (3, .int (II (i : Int))), (4, .int (II 6))]) C.1 C.2.1 dX8_tells_190 hl (by decide) rfl (fun ls hl => ?_)
                  refine lv_iload C.1 C.2.1 dX8_tells_192 (lv_at hl 9 rfl) ?_
                  refine lv_bipush (v := II 6) C.1 C.2.1 dX8_tells_194 (by decide) ?_
                  refine x_icmp_ne (tgt := 204) C ⟨by decide, by decide⟩ ⟨by decide, by decide⟩ dX8_tells_196 (by decide) (fun h => absurd h (by decide)) (fun _ => ?_)
                  refine lv_bipush (v := II (-100)) C.1 C.2.1 dX8_tells_199 (by decide) ?_
                  refine lv_goto (tgt := 205) C.1 C.2.1 dX8_tells_201 (by decide) ?_
                  refine lv_istore (lv' := [(10, .int (II (-100))), (9, .int (II 0)), (8, .int (II 0)), (7, .int (II 20)), (6, .int (II (v i 3))), (5, .int (II 3)), (0, .ref (gA g 70)), (1, .int (II (k : Int))), (2, .int (II ho)), (3, .int (II (i : Int))), (4, .int (II 6))]) C.1 C.2.1 dX8_tells_205 hl (by decide) rfl (fun ls hl => ?_)
                  refine lv_iload C.1 C.2.1 dX8_tells_207 (lv_at hl 3 rfl) ?_
                  refine lv_istore (lv' := [(11, .int (II 20)), (10, .int (II (-100))), (9, .int (II 0)), (8, .int (II 0)), (7, .int (II 20)), (6, .int (II (v i 3))), (5, .int (II 3)), (0, .ref (gA g 70)), (1, .int (II (k : Int))), (2, .int (II ho)), (3, .int (II (i : Int))), (4, .int (II 6))]) C.1 C.2.1 dX8_tells_209 hl (by decide) rfl (fun ls hl => ?_)
                  have L211 : ∀ (f6 : Nat) (j : Nat) (M3 : Nat → Int), j < f6 → (j ≤ 41) → (∀ m, ¬ (scm m ∨ m = (75000 + (4 * i + 2))) → M3 m = M148 m) → ∀ (H : Heap) (locs : List Loc) (ls : Array Slot), Wo g M3 H → va_S (ar g) s.heap H locs → lv_has ls 12 [(0, .ref (gA g 70)), (1, .int (II (k : Int))), (2, .int (II ho)), (3, .int (II (i : Int))), (4, .int (II 6)), (5, .int (II 3)), (6, .int (II (v i 3))), (7, .int (II 20)), (8, .int (II 0)), (9, .int (II (cnt F 41 - cnt F j))), (10, .int (II (leaS (fun x => F (x + j)) ((-20) + ((j : Nat) : Int)) (-100) (41 - j)))), (11, .int (II ((-20) + ((j : Nat) : Int) - 1)))] → W p l e (rmm 45 1001) s m args below meth c H locs 0 0 QQ (F0 m 211 ls []) := by
                    intro f6
                    induction f6 with
                    | zero => intro j M3 hmu; exact absurd hmu (Nat.not_lt_zero _)
                    | succ f6 ih =>
                      intro j M3 hmu h1 hf3 H locs ls hw hS hl
                      have ih211 := ih
                      have g_M3 := hw.rg
                      have hcj := cnt_in F j
                      have hcm := cnt_in F 41
                      have hsj : cnt F j ≤ cnt F 41 := cnt_mono (by omega)
                      have hle := lea_in (F := fun x => F (x + j)) (lo := (-20) + ((j : Nat) : Int)) (no := (-100)) (m := 41 - j)
                      refine lv_iload C.1 C.2.1 dX8_tells_211 (lv_at hl 11 rfl) ?_
                      refine lv_iload C.1 C.2.1 dX8_tells_213 (lv_at hl 5 rfl) ?_
                      refine lv_bipush (v := II 6) C.1 C.2.1 dX8_tells_215 (by decide) ?_
                      refine x_icmp_ge (tgt := 228) C ⟨by decide, by decide⟩ ⟨by decide, by decide⟩ dX8_tells_217 (by decide) (fun h => absurd h (by decide)) (fun _ => ?_)
                      refine lv_iload C.1 C.2.1 dX8_tells_220 (lv_at hl 5 rfl) ?_
                      refine x_ci (x_runS (n := 1) C hw hS hml hl.1 (c_X8_leastOf l g M3 3 (by decide)) mw_964 mw_965 mw_130 mw_966 rfl rfl (by decide +kernel) ⟨Nat.le_of_ble_eq_true rfl, Nat.le_of_ble_eq_true rfl⟩ rfl rfl (Nat.le_of_ble_eq_true rfl) dX8_tells_222 ⟨Nat.zero_le _, Nat.zero_le _⟩) hS (fun r222 M222 H locs hr222 hp hw hS => ?_)
                      obtain ⟨em222, er222⟩ := hp
                      have hw : Wo g M3 H := em222 ▸ hw
                      rw [er222] at hr222 ⊢
                      rw [show loT 3 = ((-20) : Int) from by decide] at hr222 ⊢
                      refine lv_goto (tgt := 229) C.1 C.2.1 dX8_tells_225 (by decide) ?_
                      refine x_icmp_lt (tgt := 283) C ⟨by omega, by omega⟩ ⟨by decide, by decide⟩ dX8_tells_229 (by decide) (fun c229 => ?_) (fun c229 => ?_)
                      · refine lv_aload_n C.1 C.2.1 dX8_tells_283 rfl (lv_at hl 0 rfl) ?_
                        refine lv_iload C.1 C.2.1 dX8_tells_284 (lv_at hl 5 rfl) ?_
                        refine lv_iload_n C.1 C.2.1 dX8_tells_286 rfl (lv_at hl 3 rfl) ?_
                        refine lv_iload C.1 C.2.1 dX8_tells_287 (lv_at hl 6 rfl) ?_
                        refine x_cv (x_runV (n := 3) C hw hS hml hl.1 70 8 (by omega) rfl (by decide) rfl (c_X8_laysN l g M3 hF 3 (by omega) i (by omega) 3 (75000 + (4 * i + 2)) ⟨by unfold psP; omega, by omega⟩ (v i 3) ⟨by omega, by omega⟩) mw_1200 mw_1202 mw_107 mw_130 mw_1203 rfl rfl (by decide +kernel) ⟨Nat.le_of_ble_eq_true rfl, Nat.le_of_ble_eq_true rfl⟩ rfl rfl (Nat.le_of_ble_eq_true rfl) dX8_tells_289 ⟨Nat.zero_le _, Nat.zero_le _⟩) hS (fun M289 H locs hp hw hS => ?_)
                        have em289 := hp
                        have hw : Wo g (stM M3 (75000 + (4 * i + 2)) (v i 3)) H := em289 ▸ hw
                        refine lv_iload C.1 C.2.1 dX8_tells_292 (lv_at hl 4 rfl) ?_
                        refine lv_iconst (v := II 5) C.1 C.2.1 dX8_tells_294 rfl ?_
                        refine x_icmp_ge (tgt := 303) C ⟨by decide, by decide⟩ ⟨by decide, by decide⟩ dX8_tells_295 (by decide) (fun _ => ?_) (fun h => absurd h (by decide))
                        refine lv_iload C.1 C.2.1 dX8_tells_303 (lv_at hl 4 rfl) ?_
                        refine lv_iconst (v := II 2) C.1 C.2.1 dX8_tells_305 rfl ?_
                        refine x_irem C (by omega) ⟨by decide, by decide⟩ (by omega) ⟨by decide, by decide⟩ dX8_tells_306 ?_
                        rw [show (6 % 2 : Int) = 0 from by decide]
                        refine lv_iconst (v := II 1) C.1 C.2.1 dX8_tells_307 rfl ?_
                        refine x_icmp_ne (tgt := 316) C ⟨by decide, by decide⟩ ⟨by decide, by decide⟩ dX8_tells_308 (by decide) (fun _ => ?_) (fun h => absurd h (by decide))
                        refine lv_iload C.1 C.2.1 dX8_tells_316 (lv_at hl 10 rfl) ?_
                        subst hQQ; exact x_ireturn C hr hlk hw hS ⟨by omega, by omega⟩ rfl ⟨(by have hj0 : j = 0 := (by omega); subst hj0; unfold r_tells; rw [if_neg (by rw [eok]; decide)]; simp only [Int.toNat_natCast]; rw [if_neg zs1, if_neg (fun z => z hz6), if_neg (by decide), if_neg (by decide), if_neg (by decide), if_neg (by decide), if_neg (by decide), if_neg (by decide), if_pos trivial]; exact (lea_0 (F := F)).trans (by rw [hFe])), (h148r.fr hA (fun m hm _ => by
      by_cases e : m = (75000 + (4 * i + 2))
      · rw [e, st_s]; exact (mb_at hMB (q := i) (f := 3) (by omega) (by unfold psP; omega)).symm
      · rw [st_n e]; exact hf3 m (fun z => z.elim (fun y => hm (Or.inl y)) e))), (fun m hm => by rw [st_n (by omega), hf3 m (by unfold scm; omega)]; exact h148k m hm)⟩ dX8_tells_318
                      · obtain ⟨y, rfl⟩ : ∃ y, j = y + 1 := ⟨j - 1, by omega⟩
                        have ev : (-20) + (((y + 1) : Nat) : Int) - 1 = (-20) + (y : Int) := by omega
                        have hl : lv_has ls 12 [(0, .ref (gA g 70)), (1, .int (II (k : Int))), (2, .int (II ho)), (3, .int (II (i : Int))), (4, .int (II 6)), (5, .int (II 3)), (6, .int (II (v i 3))), (7, .int (II 20)), (8, .int (II 0)), (9, .int (II (cnt F 41 - cnt F (y + 1)))), (10, .int (II (leaS (fun x => F (x + (y + 1))) ((-20) + (((y + 1) : Nat) : Int)) (-100) (41 - (y + 1))))), (11, .int (II ((-20) + (y : Int))))] := by rw [← ev]; exact hl
                        refine lv_aload_n C.1 C.2.1 dX8_tells_232 rfl (lv_at hl 0 rfl) ?_
                        refine lv_iload C.1 C.2.1 dX8_tells_233 (lv_at hl 5 rfl) ?_
                        refine lv_iload_n C.1 C.2.1 dX8_tells_235 rfl (lv_at hl 3 rfl) ?_
                        refine lv_iload C.1 C.2.1 dX8_tells_236 (lv_at hl 11 rfl) ?_
                        refine x_cv (x_runV (n := 3) C hw hS hml hl.1 70 8 (by omega) rfl (by decide) rfl (c_X8_laysN l g M3 hF 3 (by omega) i (by omega) 3 (75000 + (4 * i + 2)) ⟨by unfold psP; omega, by omega⟩ ((-20) + (y : Int)) ⟨by omega, by omega⟩) mw_1200 mw_1202 mw_107 mw_130 mw_1203 rfl rfl (by decide +kernel) ⟨Nat.le_of_ble_eq_true rfl, Nat.le_of_ble_eq_true rfl⟩ rfl rfl (Nat.le_of_ble_eq_true rfl) dX8_tells_238 ⟨Nat.zero_le _, Nat.zero_le _⟩) hS (fun M238 H locs hp hw hS => ?_)
                        have em238 := hp
                        have hw : Wo g (stM M3 (75000 + (4 * i + 2)) ((-20) + (y : Int))) H := em238 ▸ hw
                        refine lv_aload_n C.1 C.2.1 dX8_tells_241 rfl (lv_at hl 0 rfl) ?_
                        refine lv_iload_n C.1 C.2.1 dX8_tells_242 rfl (lv_at hl 1 rfl) ?_
                        refine lv_iload_n C.1 C.2.1 dX8_tells_243 rfl (lv_at hl 2 rfl) ?_
                        refine x_ci (x_runV (n := 2) C hw hS hml hl.1 70 8 (by omega) rfl (by decide) rfl (c_X8_firstOther l g (stM M3 (75000 + (4 * i + 2)) ((-20) + (y : Int))) hF n (upv v i 3 ((-20) + (y : Int))) nt t (X.2.1 t) (hMB.up (q := i) (f := 3) (ps := (75000 + (4 * i + 2))) (by unfold psP; omega) (fun m hm => by unfold sc4 scm at hm; rw [st_n (by omega)]; exact hf3 m (by unfold scm; omega)) st_s (hM.2.2.1.okF (by unfold okF; omega)) (fun z => by omega) (by omega)) k (by omega) (Sh.2.2 k) (fun h hh => (st_n (by omega)).trans ((hf3 _ (by unfold scm; omega)).trans (q5 h (by rw [hz6]; omega)))) ho gz_ho) mw_1306 mw_1308 mw_114 mw_130 mw_1309 rfl rfl (by decide +kernel) ⟨Nat.le_of_ble_eq_true rfl, Nat.le_of_ble_eq_true rfl⟩ rfl rfl (Nat.le_of_ble_eq_true rfl) dX8_tells_244 ⟨Nat.zero_le _, Nat.zero_le _⟩) hS (fun r244 M244 H locs hr244 hp hw hS => ?_)
                        obtain ⟨er244, h244f⟩ := hp
                        have g_M244 := hw.rg
                        rw [er244] at hr244 ⊢
                        have hfo := foS_in (fun h => reedS (upv v i 3 ((-20) + (y : Int))) n nt (X.2.1 t) ho h) (Sh.2.2 k)
                        refine lv_iconst (v := II (-1)) C.1 C.2.1 dX8_tells_247 rfl ?_
                        refine x_icmp_ne (tgt := 277) C hr244 ⟨by decide, by decide⟩ dX8_tells_248 (by decide) (fun c248 => ?_) (fun c248 => ?_)
                        · skip
                          refine lv_iinc (v := II ((-20) + (y : Int) + (-1))) (lv' := [(11, .int (II ((-20) + (y : Int) + (-1)))), (0, .ref (gA g 70)), (1, .int (II (k : Int))), (2, .int (II ho)), (3, .int (II (i : Int))), (4, .int (II 6)), (5, .int (II 3)), (6, .int (II (v i 3))), (7, .int (II 20)), (8, .int (II 0)), (9, .int (II (cnt F 41 - cnt F (y + 1)))), (10, .int (II (leaS (fun x => F (x + (y + 1))) ((-20) + (((y + 1) : Nat) : Int)) (-100) (41 - (y + 1)))))]) C.1 C.2.1 dX8_tells_277 hl (k := 11) rfl (II_add _ _) (by decide) rfl (fun ls hl => ?_)
                          refine lv_goto (tgt := 211) C.1 C.2.1 dX8_tells_280 (by decide) ?_
                          have hFy : F y = false := by rw [hFe]; exact decide_eq_false c248
                          have e9 : cnt F 41 - cnt F y = (cnt F 41 - cnt F (y + 1) : Int) := cntf_ hFy
                          have e10 : leaS (fun x => F (x + y)) ((-20) + ((y : Nat) : Int)) (-100) (41 - y) = (leaS (fun x => F (x + (y + 1))) ((-20) + (((y + 1) : Nat) : Int)) (-100) (41 - (y + 1)) : Int) := lea_f hFy (by omega)
                          have e11 : (-20) + ((y : Nat) : Int) - 1 = ((-20) + (y : Int) + (-1) : Int) := by omega
                          have hl : lv_has ls 12 [(11, .int (II ((-20) + ((y : Nat) : Int) - 1))), (0, .ref (gA g 70)), (1, .int (II (k : Int))), (2, .int (II ho)), (3, .int (II (i : Int))), (4, .int (II 6)), (5, .int (II 3)), (6, .int (II (v i 3))), (7, .int (II 20)), (8, .int (II 0)), (9, .int (II (cnt F 41 - cnt F y))), (10, .int (II (leaS (fun x => F (x + y)) ((-20) + ((y : Nat) : Int)) (-100) (41 - y))))] := by rw [e9, e10, e11]; exact hl
                          exact ih211  y M244 (by omega) (by omega) (fun m hm => by rw [h244f m (fun z => hm (Or.inl z)), st_n (fun z => hm (Or.inr z))]; exact hf3 m hm) _ _ _ hw hS (lv_sub hl [1, 2, 3, 4, 5, 6, 7, 8, 9, 10, 11, 0] rfl)
                        · skip
                          refine lv_iload C.1 C.2.1 dX8_tells_251 (lv_at hl 8 rfl) ?_
                          refine lv_iload C.1 C.2.1 dX8_tells_253 (lv_at hl 4 rfl) ?_
                          refine lv_iconst (v := II 5) C.1 C.2.1 dX8_tells_255 rfl ?_
                          refine x_icmp_ge (tgt := 266) C ⟨by decide, by decide⟩ ⟨by decide, by decide⟩ dX8_tells_256 (by decide) (fun _ => ?_) (fun h => absurd h (by decide))
                          refine lv_iconst (v := II 0) C.1 C.2.1 dX8_tells_266 rfl ?_
                          refine lv_ior C.1 C.2.1 dX8_tells_267 ?_
                          rw [show (II 0 ||| II 0) = II 0 from by decide]
                          refine lv_istore (lv' := [(8, .int (II 0)), (0, .ref (gA g 70)), (1, .int (II (k : Int))), (2, .int (II ho)), (3, .int (II (i : Int))), (4, .int (II 6)), (5, .int (II 3)), (6, .int (II (v i 3))), (7, .int (II 20)), (9, .int (II (cnt F 41 - cnt F (y + 1)))), (10, .int (II (leaS (fun x => F (x + (y + 1))) ((-20) + (((y + 1) : Nat) : Int)) (-100) (41 - (y + 1))))), (11, .int (II ((-20) + (y : Int))))]) C.1 C.2.1 dX8_tells_268 hl (by decide) rfl (fun ls hl => ?_)
                          refine lv_iinc (v := II (cnt F 41 - cnt F (y + 1) + 1)) (lv' := [(9, .int (II (cnt F 41 - cnt F (y + 1) + 1))), (8, .int (II 0)), (0, .ref (gA g 70)), (1, .int (II (k : Int))), (2, .int (II ho)), (3, .int (II (i : Int))), (4, .int (II 6)), (5, .int (II 3)), (6, .int (II (v i 3))), (7, .int (II 20)), (10, .int (II (leaS (fun x => F (x + (y + 1))) ((-20) + (((y + 1) : Nat) : Int)) (-100) (41 - (y + 1))))), (11, .int (II ((-20) + (y : Int))))]) C.1 C.2.1 dX8_tells_270 hl (k := 9) rfl (II_add _ _) (by decide) rfl (fun ls hl => ?_)
                          refine lv_iload C.1 C.2.1 dX8_tells_273 (lv_at hl 11 rfl) ?_
                          refine lv_istore (lv' := [(10, .int (II ((-20) + (y : Int)))), (9, .int (II (cnt F 41 - cnt F (y + 1) + 1))), (8, .int (II 0)), (0, .ref (gA g 70)), (1, .int (II (k : Int))), (2, .int (II ho)), (3, .int (II (i : Int))), (4, .int (II 6)), (5, .int (II 3)), (6, .int (II (v i 3))), (7, .int (II 20)), (11, .int (II ((-20) + (y : Int))))]) C.1 C.2.1 dX8_tells_275 hl (by decide) rfl (fun ls hl => ?_)
                          skip
                          refine lv_iinc (v := II ((-20) + (y : Int) + (-1))) (lv' := [(11, .int (II ((-20) + (y : Int) + (-1)))), (10, .int (II ((-20) + (y : Int)))), (9, .int (II (cnt F 41 - cnt F (y + 1) + 1))), (8, .int (II 0)), (0, .ref (gA g 70)), (1, .int (II (k : Int))), (2, .int (II ho)), (3, .int (II (i : Int))), (4, .int (II 6)), (5, .int (II 3)), (6, .int (II (v i 3))), (7, .int (II 20))]) C.1 C.2.1 dX8_tells_277 hl (k := 11) rfl (II_add _ _) (by decide) rfl (fun ls hl => ?_)
                          refine lv_goto (tgt := 211) C.1 C.2.1 dX8_tells_280 (by decide) ?_
                          have hFy : F y = true := by rw [hFe]; exact decide_eq_true c248
                          have e9 : cnt F 41 - cnt F y = (cnt F 41 - cnt F (y + 1) + 1 : Int) := cntt_ hFy
                          have e10 : leaS (fun x => F (x + y)) ((-20) + ((y : Nat) : Int)) (-100) (41 - y) = ((-20) + (y : Int) : Int) := lea_t hFy (by omega)
                          have e11 : (-20) + ((y : Nat) : Int) - 1 = ((-20) + (y : Int) + (-1) : Int) := by omega
                          have hl : lv_has ls 12 [(11, .int (II ((-20) + ((y : Nat) : Int) - 1))), (10, .int (II (leaS (fun x => F (x + y)) ((-20) + ((y : Nat) : Int)) (-100) (41 - y)))), (9, .int (II (cnt F 41 - cnt F y))), (8, .int (II 0)), (0, .ref (gA g 70)), (1, .int (II (k : Int))), (2, .int (II ho)), (3, .int (II (i : Int))), (4, .int (II 6)), (5, .int (II 3)), (6, .int (II (v i 3))), (7, .int (II 20))] := by rw [e9, e10, e11]; exact hl
                          exact ih211  y M244 (by omega) (by omega) (fun m hm => by rw [h244f m (fun z => hm (Or.inl z)), st_n (fun z => hm (Or.inr z))]; exact hf3 m hm) _ _ _ hw hS (lv_sub hl [4, 5, 6, 7, 8, 9, 10, 11, 3, 2, 1, 0] rfl)
                  have e9 : cnt F 41 - cnt F 41 = (0 : Int) := by first | (rw [Int.sub_self]; done) | (rw [lea_end]; done) | omega | rfl | simp
                  have e10 : leaS (fun x => F (x + 41)) ((-20) + ((41 : Nat) : Int)) (-100) (41 - 41) = ((-100) : Int) := by first | (rw [Int.sub_self]; done) | (rw [lea_end]; done) | omega | rfl | simp
                  have e11 : (-20) + ((41 : Nat) : Int) - 1 = (20 : Int) := by first | (rw [Int.sub_self]; done) | (rw [lea_end]; done) | omega | rfl | simp
                  have hl : lv_has ls 12 [(11, .int (II ((-20) + ((41 : Nat) : Int) - 1))), (10, .int (II (leaS (fun x => F (x + 41)) ((-20) + ((41 : Nat) : Int)) (-100) (41 - 41)))), (9, .int (II (cnt F 41 - cnt F 41))), (8, .int (II 0)), (7, .int (II 20)), (6, .int (II (v i 3))), (5, .int (II 3)), (0, .ref (gA g 70)), (1, .int (II (k : Int))), (2, .int (II ho)), (3, .int (II (i : Int))), (4, .int (II 6))] := by rw [e9, e10, e11]; exact hl
                  exact L211 _ 41 M148 (Nat.lt_succ_self _) (by omega) (fun _ _ => rfl) _ _ _ hw hS (lv_sub hl [7, 8, 9, 10, 11, 6, 5, 4, 3, 2, 1, 0] rfl)
                · have hl : lv_has ls 12 [(0, .ref (gA g 70)), (1, .int (II (k : Int))), (2, .int (II ho)), (3, .int (II q)), (4, .int (II 7))] := hl
                  obtain ⟨i, rfl⟩ : ∃ i : Nat, q = (i : Int) := ⟨q.toNat, by omega⟩
                  obtain ⟨F, hFe⟩ : ∃ F : Nat → Bool, F = (fun (j : Nat) => ftF v n nt (X.2.1 t) ho (Sh.2.2 k) i 4 (0 + (j : Int))) := ⟨_, rfl⟩
                  refine lv_iload C.1 C.2.1 dX8_tells_70 (lv_at hl 4 rfl) ?_
                  refine x_if_ne (tgt := 82) C ⟨by decide, by decide⟩ dX8_tells_72 (by decide) (fun _ => ?_) (fun h => absurd h (by decide))
                  refine lv_iload C.1 C.2.1 dX8_tells_82 (lv_at hl 4 rfl) ?_
                  refine lv_iconst (v := II 1) C.1 C.2.1 dX8_tells_84 rfl ?_
                  refine x_icmp_ne (tgt := 93) C ⟨by decide, by decide⟩ ⟨by decide, by decide⟩ dX8_tells_85 (by decide) (fun _ => ?_) (fun h => absurd h (by decide))
                  refine lv_iload C.1 C.2.1 dX8_tells_93 (lv_at hl 4 rfl) ?_
                  refine lv_iconst (v := II 2) C.1 C.2.1 dX8_tells_95 rfl ?_
                  refine x_icmp_ne (tgt := 103) C ⟨by decide, by decide⟩ ⟨by decide, by decide⟩ dX8_tells_96 (by decide) (fun _ => ?_) (fun h => absurd h (by decide))
                  refine lv_iload C.1 C.2.1 dX8_tells_103 (lv_at hl 4 rfl) ?_
                  refine lv_iconst (v := II 5) C.1 C.2.1 dX8_tells_105 rfl ?_
                  refine x_icmp_ge (tgt := 116) C ⟨by decide, by decide⟩ ⟨by decide, by decide⟩ dX8_tells_106 (by decide) (fun _ => ?_) (fun h => absurd h (by decide))
                  refine lv_iload C.1 C.2.1 dX8_tells_116 (lv_at hl 4 rfl) ?_
                  refine lv_bipush (v := II 7) C.1 C.2.1 dX8_tells_118 (by decide) ?_
                  refine x_icmp_ge (tgt := 127) C ⟨by decide, by decide⟩ ⟨by decide, by decide⟩ dX8_tells_120 (by decide) (fun _ => ?_) (fun h => absurd h (by decide))
                  refine lv_iconst (v := II 4) C.1 C.2.1 dX8_tells_127 rfl ?_
                  refine lv_istore (lv' := [(5, .int (II 4)), (0, .ref (gA g 70)), (1, .int (II (k : Int))), (2, .int (II ho)), (3, .int (II (i : Int))), (4, .int (II 7))]) C.1 C.2.1 dX8_tells_128 hl (by decide) rfl (fun ls hl => ?_)
                  refine lv_iload C.1 C.2.1 dX8_tells_130 (lv_at hl 0 rfl) ?_
                  refine lv_bipush (v := II 6) C.1 C.2.1 dX8_tells_132 (by decide) ?_
                  refine x_icmp_ne (tgt := 144) C ⟨by decide, by decide⟩ ⟨by decide, by decide⟩ dX8_tells_134 (by decide) (fun _ => ?_) (fun h => absurd h (by decide))
                  refine lv_aload_n C.1 C.2.1 dX8_tells_144 rfl (lv_at hl 1 rfl) ?_
                  refine lv_iload_n C.1 C.2.1 dX8_tells_145 rfl (lv_at hl 4 rfl) ?_
                  refine lv_iload C.1 C.2.1 dX8_tells_146 (lv_at hl 0 rfl) ?_
                  refine x_ci (x_runV (n := 2) C hw hS hml hl.1 70 8 (by omega) rfl (by decide) rfl (c_X8_told l g M hF n v nt pd t X I Sh hR hA (i : Int) ⟨by omega, by omega⟩ 4 ⟨by decide, by decide⟩) mw_970 mw_971 mw_972 mw_130 mw_973 rfl rfl (by decide +kernel) ⟨Nat.le_of_ble_eq_true rfl, Nat.le_of_ble_eq_true rfl⟩ rfl rfl (Nat.le_of_ble_eq_true rfl) dX8_tells_148 ⟨Nat.zero_le _, Nat.zero_le _⟩) hS (fun r148 M148 H locs hr148 hp hw hS => ?_)
                  obtain ⟨er148, h148r, h148k⟩ := hp
                  have g_M148 := hw.rg
                  rw [er148] at hr148 ⊢
                  have ew : r_told v n nt (X.2.1 t) (i : Int) 4 = v i 4 := by
                    unfold r_told
                    rw [if_neg (by decide), if_neg (fun z => z (by omega)), if_pos (by decide)]; rfl
                  rw [ew]
                  have hMB : MB M148 n v nt t (X.2.1 t) (-1) := h148r.mb hA
                  have hq0 := hM.2.2.1 i (by omega)
                  obtain ⟨-, -, -, -, q5⟩ : Sh.1 k ≠ -1 ∧ M148 (80000 + k) = 1 ∧ M148 (81000 + k) = Sh.1 k ∧ M148 (82000 + k) = Sh.2.1 k ∧ ∀ j : Nat, (j : Int) < Sh.2.1 k → M148 (83000 + (40 * k + j)) = Sh.2.2 k j := by
                    rcases h148r.2.2.2.1 k (by omega) with z | z
                    · exact absurd z.1 zs1
                    · exact z
                  refine lv_istore (lv' := [(6, .int (II (v i 4))), (5, .int (II 4)), (0, .ref (gA g 70)), (1, .int (II (k : Int))), (2, .int (II ho)), (3, .int (II (i : Int))), (4, .int (II 7))]) C.1 C.2.1 dX8_tells_151 hl (by decide) rfl (fun ls hl => ?_)
                  refine lv_iload C.1 C.2.1 dX8_tells_153 (lv_at hl 1 rfl) ?_
                  refine lv_bipush (v := II 6) C.1 C.2.1 dX8_tells_155 (by decide) ?_
                  refine x_icmp_ne (tgt := 169) C ⟨by decide, by decide⟩ ⟨by decide, by decide⟩ dX8_tells_157 (by decide) (fun _ => ?_) (fun h => absurd h (by decide))
                  refine lv_iload C.1 C.2.1 dX8_tells_169 (lv_at hl 1 rfl) ?_
                  refine lv_iconst (v := II 5) C.1 C.2.1 dX8_tells_171 rfl ?_
                  refine x_icmp_ne (tgt := 179) C ⟨by decide, by decide⟩ ⟨by decide, by decide⟩ dX8_tells_172 (by decide) (fun _ => ?_) (fun h => absurd h (by decide))
                  refine lv_iload C.1 C.2.1 dX8_tells_179 (lv_at hl 1 rfl) ?_
                  refine x_ci (x_runS (n := 1) C hw hS hml hl.1 (c_X8_mostOf l g M148 4 (by decide)) mw_967 mw_968 mw_130 mw_969 rfl rfl (by decide +kernel) ⟨Nat.le_of_ble_eq_true rfl, Nat.le_of_ble_eq_true rfl⟩ rfl rfl (Nat.le_of_ble_eq_true rfl) dX8_tells_181 ⟨Nat.zero_le _, Nat.zero_le _⟩) hS (fun r181 M181 H locs hr181 hp hw hS => ?_)
                  obtain ⟨em181, er181⟩ := hp
                  have hw : Wo g M148 H := em181 ▸ hw
                  rw [er181] at hr181 ⊢
                  rw [show hiT 4 = (63 : Int) from by decide] at hr181 ⊢
                  refine lv_istore (lv' := [(7, .int (II 63)), (6, .int (II (v i 4))), (5, .int (II 4)), (0, .ref (gA g 70)), (1, .int (II (k : Int))), (2, .int (II ho)), (3, .int (II (i : Int))), (4, .int (II 7))]) C.1 C.2.1 dX8_tells_184 hl (by decide) rfl (fun ls hl => ?_)
                  refine lv_iconst (v := II 0) C.1 C.2.1 dX8_tells_186 rfl ?_
                  refine lv_istore (lv' := [(8, .int (II 0)), (7, .int (II 63)), (6, .int (II (v i 4))), (5, .int (II 4)), (0, .ref (gA g 70)), (1, .int (II (k : Int))), (2, .int (II ho)), (3, .int (II (i : Int))), (4, .int (II 7))]) C.1 C.2.1 dX8_tells_187 hl (by decide) rfl (fun ls hl => ?_)
                  refine lv_iconst (v := II 0) C.1 C.2.1 dX8_tells_189 rfl ?_
                  refine lv_istore (lv' := [(9, .int (II 0)), (8, .int (II 0)), (7, .int (II 63)), (6, .int (II (v i 4))), (5, .int (II 4)), (0, .ref (gA g 70)), (1, .int (II (k : Int))), (2, .int (II ho)), (3, .int (II (i : Int))), (4, .int (II 7))]) C.1 C.2.1 dX8_tells_190 hl (by decide) rfl (fun ls hl => ?_)
                  refine lv_iload C.1 C.2.1 dX8_tells_192 (lv_at hl 9 rfl) ?_
                  refine lv_bipush (v := II 6) C.1 C.2.1 dX8_tells_194 (by decide) ?_
                  refine x_icmp_ne (tgt := 204) C ⟨by decide, by decide⟩ ⟨by decide, by decide⟩ dX8_tells_196 (by decide) (fun _ => ?_) (fun h => absurd h (by decide))
                  refine lv_iconst (v := II (-1)) C.1 C.2.1 dX8_tells_204 rfl ?_
                  refine lv_istore (lv' := [(10, .int (II (-1))), (9, .int (II 0)), (8, .int (II 0)), (7, .int (II 63)), (6, .int (II (v i 4))), (5, .int (II 4)), (0, .ref (gA g 70)), (1, .int (II (k : Int))), (2, .int (II ho)), (3, .int (II (i : Int))), (4, .int (II 7))]) C.1 C.2.1 dX8_tells_205 hl (by decide) rfl (fun ls hl => ?_)
                  refine lv_iload C.1 C.2.1 dX8_tells_207 (lv_at hl 3 rfl) ?_
                  refine lv_istore (lv' := [(11, .int (II 63)), (10, .int (II (-1))), (9, .int (II 0)), (8, .int (II 0)), (7, .int (II 63)), (6, .int (II (v i 4))), (5, .int (II 4)), (0, .ref (gA g 70)), (1, .int (II (k : Int))), (2, .int (II ho)), (3, .int (II (i : Int))), (4, .int (II 7))]) C.1 C.2.1 dX8_tells_209 hl (by decide) rfl (fun ls hl => ?_)
                  have L211 : ∀ (f7 : Nat) (j : Nat) (M3 : Nat → Int), j < f7 → (j ≤ 64) → (∀ m, ¬ (scm m ∨ m = (75000 + (4 * i + 3))) → M3 m = M148 m) → ∀ (H : Heap) (locs : List Loc) (ls : Array Slot), Wo g M3 H → va_S (ar g) s.heap H locs → lv_has ls 12 [(0, .ref (gA g 70)), (1, .int (II (k : Int))), (2, .int (II ho)), (3, .int (II (i : Int))), (4, .int (II 7)), (5, .int (II 4)), (6, .int (II (v i 4))), (7, .int (II 63)), (8, .int (II 0)), (9, .int (II (cnt F 64 - cnt F j))), (10, .int (II (leaS (fun x => F (x + j)) (0 + ((j : Nat) : Int)) (-1) (64 - j)))), (11, .int (II (0 + ((j : Nat) : Int) - 1)))] → W p l e (rmm 45 1001) s m args below meth c H locs 0 0 QQ (F0 m 211 ls []) := by
                    intro f7
                    induction f7 with
                    | zero => intro j M3 hmu; exact absurd hmu (Nat.not_lt_zero _)
                    | succ f7 ih =>
                      intro j M3 hmu h1 hf3 H locs ls hw hS hl
                      have ih211 := ih
                      have g_M3 := hw.rg
                      have hcj := cnt_in F j
                      have hcm := cnt_in F 64
                      have hsj : cnt F j ≤ cnt F 64 := cnt_mono (by omega)
                      have hle := lea_in (F := fun x => F (x + j)) (lo := 0 + ((j : Nat) : Int)) (no := (-1)) (m := 64 - j)
                      refine lv_iload C.1 C.2.1 dX8_tells_211 (lv_at hl 11 rfl) ?_
                      refine lv_iload C.1 C.2.1 dX8_tells_213 (lv_at hl 5 rfl) ?_
                      refine lv_bipush (v := II 6) C.1 C.2.1 dX8_tells_215 (by decide) ?_
                      refine x_icmp_ge (tgt := 228) C ⟨by decide, by decide⟩ ⟨by decide, by decide⟩ dX8_tells_217 (by decide) (fun h => absurd h (by decide)) (fun _ => ?_)
                      refine lv_iload C.1 C.2.1 dX8_tells_220 (lv_at hl 5 rfl) ?_
                      refine x_ci (x_runS (n := 1) C hw hS hml hl.1 (c_X8_leastOf l g M3 4 (by decide)) mw_964 mw_965 mw_130 mw_966 rfl rfl (by decide +kernel) ⟨Nat.le_of_ble_eq_true rfl, Nat.le_of_ble_eq_true rfl⟩ rfl rfl (Nat.le_of_ble_eq_true rfl) dX8_tells_222 ⟨Nat.zero_le _, Nat.zero_le _⟩) hS (fun r222 M222 H locs hr222 hp hw hS => ?_)
                      obtain ⟨em222, er222⟩ := hp
                      have hw : Wo g M3 H := em222 ▸ hw
                      rw [er222] at hr222 ⊢
                      rw [show loT 4 = (0 : Int) from by decide] at hr222 ⊢
                      refine lv_goto (tgt := 229) C.1 C.2.1 dX8_tells_225 (by decide) ?_
                      refine x_icmp_lt (tgt := 283) C ⟨by omega, by omega⟩ ⟨by decide, by decide⟩ dX8_tells_229 (by decide) (fun c229 => ?_) (fun c229 => ?_)
                      · refine lv_aload_n C.1 C.2.1 dX8_tells_283 rfl (lv_at hl 0 rfl) ?_
                        refine lv_iload C.1 C.2.1 dX8_tells_284 (lv_at hl 5 rfl) ?_
                        refine lv_iload_n C.1 C.2.1 dX8_tells_286 rfl (lv_at hl 3 rfl) ?_
                        refine lv_iload C.1 C.2.1 dX8_tells_287 (lv_at hl 6 rfl) ?_
                        refine x_cv (x_runV (n := 3) C hw hS hml hl.1 70 8 (by omega) rfl (by decide) rfl (c_X8_laysN l g M3 hF 4 (by omega) i (by omega) 4 (75000 + (4 * i + 3)) ⟨by unfold psP; omega, by omega⟩ (v i 4) ⟨by omega, by omega⟩) mw_1200 mw_1202 mw_107 mw_130 mw_1203 rfl rfl (by decide +kernel) ⟨Nat.le_of_ble_eq_true rfl, Nat.le_of_ble_eq_true rfl⟩ rfl rfl (Nat.le_of_ble_eq_true rfl) dX8_tells_289 ⟨Nat.zero_le _, Nat.zero_le _⟩) hS (fun M289 H locs hp hw hS => ?_)
                        have em289 := hp
                        have hw : Wo g (stM M3 (75000 + (4 * i + 3)) (v i 4)) H := em289 ▸ hw
                        refine lv_iload C.1 C.2.1 dX8_tells_292 (lv_at hl 4 rfl) ?_
                        refine lv_iconst (v := II 5) C.1 C.2.1 dX8_tells_294 rfl ?_
                        refine x_icmp_ge (tgt := 303) C ⟨by decide, by decide⟩ ⟨by decide, by decide⟩ dX8_tells_295 (by decide) (fun _ => ?_) (fun h => absurd h (by decide))
                        refine lv_iload C.1 C.2.1 dX8_tells_303 (lv_at hl 4 rfl) ?_
                        refine lv_iconst (v := II 2) C.1 C.2.1 dX8_tells_305 rfl ?_
                        refine x_irem C (by omega) ⟨by decide, by decide⟩ (by omega) ⟨by decide, by decide⟩ dX8_tells_306 ?_
                        rw [show (7 % 2 : Int) = 1 from by decide]
                        refine lv_iconst (v := II 1) C.1 C.2.1 dX8_tells_307 rfl ?_
                        refine x_icmp_ne (tgt := 316) C ⟨by decide, by decide⟩ ⟨by decide, by decide⟩ dX8_tells_308 (by decide) (fun h => absurd h (by decide)) (fun _ => ?_)
                        refine lv_iload C.1 C.2.1 dX8_tells_311 (lv_at hl 9 rfl) ?_
                        refine lv_goto (tgt := 318) C.1 C.2.1 dX8_tells_313 (by decide) ?_
                        subst hQQ; exact x_ireturn C hr hlk hw hS ⟨by omega, by omega⟩ rfl ⟨(by have hj0 : j = 0 := (by omega); subst hj0; unfold r_tells; rw [if_neg (by rw [eok]; decide)]; simp only [Int.toNat_natCast]; rw [if_neg zs1, if_neg (fun z => z hz6), if_neg (by decide), if_neg (by decide), if_neg (by decide), if_neg (by decide), if_neg (by decide), if_neg (by decide), if_neg (by decide), if_pos trivial]; subst hFe; exact cntz_), (h148r.fr hA (fun m hm _ => by
      by_cases e : m = (75000 + (4 * i + 3))
      · rw [e, st_s]; exact (mb_at hMB (q := i) (f := 4) (by omega) (by unfold psP; omega)).symm
      · rw [st_n e]; exact hf3 m (fun z => z.elim (fun y => hm (Or.inl y)) e))), (fun m hm => by rw [st_n (by omega), hf3 m (by unfold scm; omega)]; exact h148k m hm)⟩ dX8_tells_318
                      · obtain ⟨y, rfl⟩ : ∃ y, j = y + 1 := ⟨j - 1, by omega⟩
                        have ev : 0 + (((y + 1) : Nat) : Int) - 1 = 0 + (y : Int) := by omega
                        have hl : lv_has ls 12 [(0, .ref (gA g 70)), (1, .int (II (k : Int))), (2, .int (II ho)), (3, .int (II (i : Int))), (4, .int (II 7)), (5, .int (II 4)), (6, .int (II (v i 4))), (7, .int (II 63)), (8, .int (II 0)), (9, .int (II (cnt F 64 - cnt F (y + 1)))), (10, .int (II (leaS (fun x => F (x + (y + 1))) (0 + (((y + 1) : Nat) : Int)) (-1) (64 - (y + 1))))), (11, .int (II (0 + (y : Int))))] := by rw [← ev]; exact hl
                        refine lv_aload_n C.1 C.2.1 dX8_tells_232 rfl (lv_at hl 0 rfl) ?_
                        refine lv_iload C.1 C.2.1 dX8_tells_233 (lv_at hl 5 rfl) ?_
                        refine lv_iload_n C.1 C.2.1 dX8_tells_235 rfl (lv_at hl 3 rfl) ?_
                        refine lv_iload C.1 C.2.1 dX8_tells_236 (lv_at hl 11 rfl) ?_
                        refine x_cv (x_runV (n := 3) C hw hS hml hl.1 70 8 (by omega) rfl (by decide) rfl (c_X8_laysN l g M3 hF 4 (by omega) i (by omega) 4 (75000 + (4 * i + 3)) ⟨by unfold psP; omega, by omega⟩ (0 + (y : Int)) ⟨by omega, by omega⟩) mw_1200 mw_1202 mw_107 mw_130 mw_1203 rfl rfl (by decide +kernel) ⟨Nat.le_of_ble_eq_true rfl, Nat.le_of_ble_eq_true rfl⟩ rfl rfl (Nat.le_of_ble_eq_true rfl) dX8_tells_238 ⟨Nat.zero_le _, Nat.zero_le _⟩) hS (fun M238 H locs hp hw hS => ?_)
                        have em238 := hp
                        have hw : Wo g (stM M3 (75000 + (4 * i + 3)) (0 + (y : Int))) H := em238 ▸ hw
                        refine lv_aload_n C.1 C.2.1 dX8_tells_241 rfl (lv_at hl 0 rfl) ?_
                        refine lv_iload_n C.1 C.2.1 dX8_tells_242 rfl (lv_at hl 1 rfl) ?_
                        refine lv_iload_n C.1 C.2.1 dX8_tells_243 rfl (lv_at hl 2 rfl) ?_
                        refine x_ci (x_runV (n := 2) C hw hS hml hl.1 70 8 (by omega) rfl (by decide) rfl (c_X8_firstOther l g (stM M3 (75000 + (4 * i + 3)) (0 + (y : Int))) hF n (upv v i 4 (0 + (y : Int))) nt t (X.2.1 t) (hMB.up (q := i) (f := 4) (ps := (75000 + (4 * i + 3))) (by unfold psP; omega) (fun m hm => by unfold sc4 scm at hm; rw [st_n (by omega)]; exact hf3 m (by unfold scm; omega)) st_s (hM.2.2.1.okF (by unfold okF; omega)) (fun z => by omega) (by omega)) k (by omega) (Sh.2.2 k) (fun h hh => (st_n (by omega)).trans ((hf3 _ (by unfold scm; omega)).trans (q5 h (by rw [hz6]; omega)))) ho gz_ho) mw_1306 mw_1308 mw_114 mw_130 mw_1309 rfl rfl (by decide +kernel) ⟨Nat.le_of_ble_eq_true rfl, Nat.le_of_ble_eq_true rfl⟩ rfl rfl (Nat.le_of_ble_eq_true rfl) dX8_tells_244 ⟨Nat.zero_le _, Nat.zero_le _⟩) hS (fun r244 M244 H locs hr244 hp hw hS => ?_)
                        obtain ⟨er244, h244f⟩ := hp
                        have g_M244 := hw.rg
                        rw [er244] at hr244 ⊢
                        have hfo := foS_in (fun h => reedS (upv v i 4 (0 + (y : Int))) n nt (X.2.1 t) ho h) (Sh.2.2 k)
                        refine lv_iconst (v := II (-1)) C.1 C.2.1 dX8_tells_247 rfl ?_
                        refine x_icmp_ne (tgt := 277) C hr244 ⟨by decide, by decide⟩ dX8_tells_248 (by decide) (fun c248 => ?_) (fun c248 => ?_)
                        · skip
                          refine lv_iinc (v := II (0 + (y : Int) + (-1))) (lv' := [(11, .int (II (0 + (y : Int) + (-1)))), (0, .ref (gA g 70)), (1, .int (II (k : Int))), (2, .int (II ho)), (3, .int (II (i : Int))), (4, .int (II 7)), (5, .int (II 4)), (6, .int (II (v i 4))), (7, .int (II 63)), (8, .int (II 0)), (9, .int (II (cnt F 64 - cnt F (y + 1)))), (10, .int (II (leaS (fun x => F (x + (y + 1))) (0 + (((y + 1) : Nat) : Int)) (-1) (64 - (y + 1)))))]) C.1 C.2.1 dX8_tells_277 hl (k := 11) rfl (II_add _ _) (by decide) rfl (fun ls hl => ?_)
                          refine lv_goto (tgt := 211) C.1 C.2.1 dX8_tells_280 (by decide) ?_
                          have hFy : F y = false := by rw [hFe]; exact decide_eq_false c248
                          have e9 : cnt F 64 - cnt F y = (cnt F 64 - cnt F (y + 1) : Int) := cntf_ hFy
                          have e10 : leaS (fun x => F (x + y)) (0 + ((y : Nat) : Int)) (-1) (64 - y) = (leaS (fun x => F (x + (y + 1))) (0 + (((y + 1) : Nat) : Int)) (-1) (64 - (y + 1)) : Int) := lea_f hFy (by omega)
                          have e11 : 0 + ((y : Nat) : Int) - 1 = (0 + (y : Int) + (-1) : Int) := by omega
                          have hl : lv_has ls 12 [(11, .int (II (0 + ((y : Nat) : Int) - 1))), (0, .ref (gA g 70)), (1, .int (II (k : Int))), (2, .int (II ho)), (3, .int (II (i : Int))), (4, .int (II 7)), (5, .int (II 4)), (6, .int (II (v i 4))), (7, .int (II 63)), (8, .int (II 0)), (9, .int (II (cnt F 64 - cnt F y))), (10, .int (II (leaS (fun x => F (x + y)) (0 + ((y : Nat) : Int)) (-1) (64 - y))))] := by rw [e9, e10, e11]; exact hl
                          exact ih211  y M244 (by omega) (by omega) (fun m hm => by rw [h244f m (fun z => hm (Or.inl z)), st_n (fun z => hm (Or.inr z))]; exact hf3 m hm) _ _ _ hw hS (lv_sub hl [1, 2, 3, 4, 5, 6, 7, 8, 9, 10, 11, 0] rfl)
                        · skip
                          refine lv_iload C.1 C.2.1 dX8_tells_251 (lv_at hl 8 rfl) ?_
                          refine lv_iload C.1 C.2.1 dX8_tells_253 (lv_at hl 4 rfl) ?_
                          refine lv_iconst (v := II 5) C.1 C.2.1 dX8_tells_255 rfl ?_
                          refine x_icmp_ge (tgt := 266) C ⟨by decide, by decide⟩ ⟨by decide, by decide⟩ dX8_tells_256 (by decide) (fun _ => ?_) (fun h => absurd h (by decide))
                          refine lv_iconst (v := II 0) C.1 C.2.1 dX8_tells_266 rfl ?_
                          refine lv_ior C.1 C.2.1 dX8_tells_267 ?_
                          rw [show (II 0 ||| II 0) = II 0 from by decide]
                          refine lv_istore (lv' := [(8, .int (II 0)), (0, .ref (gA g 70)), (1, .int (II (k : Int))), (2, .int (II ho)), (3, .int (II (i : Int))), (4, .int (II 7)), (5, .int (II 4)), (6, .int (II (v i 4))), (7, .int (II 63)), (9, .int (II (cnt F 64 - cnt F (y + 1)))), (10, .int (II (leaS (fun x => F (x + (y + 1))) (0 + (((y + 1) : Nat) : Int)) (-1) (64 - (y + 1))))), (11, .int (II (0 + (y : Int))))]) C.1 C.2.1 dX8_tells_268 hl (by decide) rfl (fun ls hl => ?_)
                          refine lv_iinc (v := II (cnt F 64 - cnt F (y + 1) + 1)) (lv' := [(9, .int (II (cnt F 64 - cnt F (y + 1) + 1))), (8, .int (II 0)), (0, .ref (gA g 70)), (1, .int (II (k : Int))), (2, .int (II ho)), (3, .int (II (i : Int))), (4, .int (II 7)), (5, .int (II 4)), (6, .int (II (v i 4))), (7, .int (II 63)), (10, .int (II (leaS (fun x => F (x + (y + 1))) (0 + (((y + 1) : Nat) : Int)) (-1) (64 - (y + 1))))), (11, .int (II (0 + (y : Int))))]) C.1 C.2.1 dX8_tells_270 hl (k := 9) rfl (II_add _ _) (by decide) rfl (fun ls hl => ?_)
                          refine lv_iload C.1 C.2.1 dX8_tells_273 (lv_at hl 11 rfl) ?_
                          refine lv_istore (lv' := [(10, .int (II (0 + (y : Int)))), (9, .int (II (cnt F 64 - cnt F (y + 1) + 1))), (8, .int (II 0)), (0, .ref (gA g 70)), (1, .int (II (k : Int))), (2, .int (II ho)), (3, .int (II (i : Int))), (4, .int (II 7)), (5, .int (II 4)), (6, .int (II (v i 4))), (7, .int (II 63)), (11, .int (II (0 + (y : Int))))]) C.1 C.2.1 dX8_tells_275 hl (by decide) rfl (fun ls hl => ?_)
                          skip
                          refine lv_iinc (v := II (0 + (y : Int) + (-1))) (lv' := [(11, .int (II (0 + (y : Int) + (-1)))), (10, .int (II (0 + (y : Int)))), (9, .int (II (cnt F 64 - cnt F (y + 1) + 1))), (8, .int (II 0)), (0, .ref (gA g 70)), (1, .int (II (k : Int))), (2, .int (II ho)), (3, .int (II (i : Int))), (4, .int (II 7)), (5, .int (II 4)), (6, .int (II (v i 4))), (7, .int (II 63))]) C.1 C.2.1 dX8_tells_277 hl (k := 11) rfl (II_add _ _) (by decide) rfl (fun ls hl => ?_)
                          refine lv_goto (tgt := 211) C.1 C.2.1 dX8_tells_280 (by decide) ?_
                          have hFy : F y = true := by rw [hFe]; exact decide_eq_true c248
                          have e9 : cnt F 64 - cnt F y = (cnt F 64 - cnt F (y + 1) + 1 : Int) := cntt_ hFy
                          have e10 : leaS (fun x => F (x + y)) (0 + ((y : Nat) : Int)) (-1) (64 - y) = (0 + (y : Int) : Int) := lea_t hFy (by omega)
                          have e11 : 0 + ((y : Nat) : Int) - 1 = (0 + (y : Int) + (-1) : Int) := by omega
                          have hl : lv_has ls 12 [(11, .int (II (0 + ((y : Nat) : Int) - 1))), (10, .int (II (leaS (fun x => F (x + y)) (0 + ((y : Nat) : Int)) (-1) (64 - y)))), (9, .int (II (cnt F 64 - cnt F y))), (8, .int (II 0)), (0, .ref (gA g 70)), (1, .int (II (k : Int))), (2, .int (II ho)), (3, .int (II (i : Int))), (4, .int (II 7)), (5, .int (II 4)), (6, .int (II (v i 4))), (7, .int (II 63))] := by rw [e9, e10, e11]; exact hl
                          exact ih211  y M244 (by omega) (by omega) (fun m hm => by rw [h244f m (fun z => hm (Or.inl z)), st_n (fun z => hm (Or.inr z))]; exact hf3 m hm) _ _ _ hw hS (lv_sub hl [4, 5, 6, 7, 8, 9, 10, 11, 3, 2, 1, 0] rfl)
                  have e9 : cnt F 64 - cnt F 64 = (0 : Int) := by first | (rw [Int.sub_self]; done) | (rw [lea_end]; done) | omega | rfl | simp
                  have e10 : leaS (fun x => F (x + 64)) (0 + ((64 : Nat) : Int)) (-1) (64 - 64) = ((-1) : Int) := by first | (rw [Int.sub_self]; done) | (rw [lea_end]; done) | omega | rfl | simp
                  have e11 : 0 + ((64 : Nat) : Int) - 1 = (63 : Int) := by first | (rw [Int.sub_self]; done) | (rw [lea_end]; done) | omega | rfl | simp
                  have hl : lv_has ls 12 [(11, .int (II (0 + ((64 : Nat) : Int) - 1))), (10, .int (II (leaS (fun x => F (x + 64)) (0 + ((64 : Nat) : Int)) (-1) (64 - 64)))), (9, .int (II (cnt F 64 - cnt F 64))), (8, .int (II 0)), (7, .int (II 63)), (6, .int (II (v i 4))), (5, .int (II 4)), (0, .ref (gA g 70)), (1, .int (II (k : Int))), (2, .int (II ho)), (3, .int (II (i : Int))), (4, .int (II 7))] := by rw [e9, e10, e11]; exact hl
                  exact L211 _ 64 M148 (Nat.lt_succ_self _) (by omega) (fun _ _ => rfl) _ _ _ hw hS (lv_sub hl [7, 8, 9, 10, 11, 6, 5, 4, 3, 2, 1, 0] rfl)
                · have hl : lv_has ls 12 [(0, .ref (gA g 70)), (1, .int (II (k : Int))), (2, .int (II ho)), (3, .int (II q)), (4, .int (II 8))] := hl
                  obtain ⟨i, rfl⟩ : ∃ i : Nat, q = (i : Int) := ⟨q.toNat, by omega⟩
                  obtain ⟨F, hFe⟩ : ∃ F : Nat → Bool, F = (fun (j : Nat) => ftF v n nt (X.2.1 t) ho (Sh.2.2 k) i 4 (0 + (j : Int))) := ⟨_, rfl⟩
                  refine lv_iload C.1 C.2.1 dX8_tells_70 (lv_at hl 4 rfl) ?_
                  refine x_if_ne (tgt := 82) C ⟨by decide, by decide⟩ dX8_tells_72 (by decide) (fun _ => ?_) (fun h => absurd h (by decide))
                  refine lv_iload C.1 C.2.1 dX8_tells_82 (lv_at hl 4 rfl) ?_
                  refine lv_iconst (v := II 1) C.1 C.2.1 dX8_tells_84 rfl ?_
                  refine x_icmp_ne (tgt := 93) C ⟨by decide, by decide⟩ ⟨by decide, by decide⟩ dX8_tells_85 (by decide) (fun _ => ?_) (fun h => absurd h (by decide))
                  refine lv_iload C.1 C.2.1 dX8_tells_93 (lv_at hl 4 rfl) ?_
                  refine lv_iconst (v := II 2) C.1 C.2.1 dX8_tells_95 rfl ?_
                  refine x_icmp_ne (tgt := 103) C ⟨by decide, by decide⟩ ⟨by decide, by decide⟩ dX8_tells_96 (by decide) (fun _ => ?_) (fun h => absurd h (by decide))
                  refine lv_iload C.1 C.2.1 dX8_tells_103 (lv_at hl 4 rfl) ?_
                  refine lv_iconst (v := II 5) C.1 C.2.1 dX8_tells_105 rfl ?_
                  refine x_icmp_ge (tgt := 116) C ⟨by decide, by decide⟩ ⟨by decide, by decide⟩ dX8_tells_106 (by decide) (fun _ => ?_) (fun h => absurd h (by decide))
                  refine lv_iload C.1 C.2.1 dX8_tells_116 (lv_at hl 4 rfl) ?_
                  refine lv_bipush (v := II 7) C.1 C.2.1 dX8_tells_118 (by decide) ?_
                  refine x_icmp_ge (tgt := 127) C ⟨by decide, by decide⟩ ⟨by decide, by decide⟩ dX8_tells_120 (by decide) (fun _ => ?_) (fun h => absurd h (by decide))
                  refine lv_iconst (v := II 4) C.1 C.2.1 dX8_tells_127 rfl ?_
                  refine lv_istore (lv' := [(5, .int (II 4)), (0, .ref (gA g 70)), (1, .int (II (k : Int))), (2, .int (II ho)), (3, .int (II (i : Int))), (4, .int (II 8))]) C.1 C.2.1 dX8_tells_128 hl (by decide) rfl (fun ls hl => ?_)
                  refine lv_iload C.1 C.2.1 dX8_tells_130 (lv_at hl 0 rfl) ?_
                  refine lv_bipush (v := II 6) C.1 C.2.1 dX8_tells_132 (by decide) ?_
                  refine x_icmp_ne (tgt := 144) C ⟨by decide, by decide⟩ ⟨by decide, by decide⟩ dX8_tells_134 (by decide) (fun _ => ?_) (fun h => absurd h (by decide))
                  refine lv_aload_n C.1 C.2.1 dX8_tells_144 rfl (lv_at hl 1 rfl) ?_
                  refine lv_iload_n C.1 C.2.1 dX8_tells_145 rfl (lv_at hl 4 rfl) ?_
                  refine lv_iload C.1 C.2.1 dX8_tells_146 (lv_at hl 0 rfl) ?_
                  refine x_ci (x_runV (n := 2) C hw hS hml hl.1 70 8 (by omega) rfl (by decide) rfl (c_X8_told l g M hF n v nt pd t X I Sh hR hA (i : Int) ⟨by omega, by omega⟩ 4 ⟨by decide, by decide⟩) mw_970 mw_971 mw_972 mw_130 mw_973 rfl rfl (by decide +kernel) ⟨Nat.le_of_ble_eq_true rfl, Nat.le_of_ble_eq_true rfl⟩ rfl rfl (Nat.le_of_ble_eq_true rfl) dX8_tells_148 ⟨Nat.zero_le _, Nat.zero_le _⟩) hS (fun r148 M148 H locs hr148 hp hw hS => ?_)
                  obtain ⟨er148, h148r, h148k⟩ := hp
                  have g_M148 := hw.rg
                  rw [er148] at hr148 ⊢
                  have ew : r_told v n nt (X.2.1 t) (i : Int) 4 = v i 4 := by
                    unfold r_told
                    rw [if_neg (by decide), if_neg (fun z => z (by omega)), if_pos (by decide)]; rfl
                  rw [ew]
                  have hMB : MB M148 n v nt t (X.2.1 t) (-1) := h148r.mb hA
                  have hq0 := hM.2.2.1 i (by omega)
                  obtain ⟨-, -, -, -, q5⟩ : Sh.1 k ≠ -1 ∧ M148 (80000 + k) = 1 ∧ M148 (81000 + k) = Sh.1 k ∧ M148 (82000 + k) = Sh.2.1 k ∧ ∀ j : Nat, (j : Int) < Sh.2.1 k → M148 (83000 + (40 * k + j)) = Sh.2.2 k j := by
                    rcases h148r.2.2.2.1 k (by omega) with z | z
                    · exact absurd z.1 zs1
                    · exact z
                  refine lv_istore (lv' := [(6, .int (II (v i 4))), (5, .int (II 4)), (0, .ref (gA g 70)), (1, .int (II (k : Int))), (2, .int (II ho)), (3, .int (II (i : Int))), (4, .int (II 8))]) C.1 C.2.1 dX8_tells_151 hl (by decide) rfl (fun ls hl => ?_)
                  refine lv_iload C.1 C.2.1 dX8_tells_153 (lv_at hl 1 rfl) ?_
                  refine lv_bipush (v := II 6) C.1 C.2.1 dX8_tells_155 (by decide) ?_
                  refine x_icmp_ne (tgt := 169) C ⟨by decide, by decide⟩ ⟨by decide, by decide⟩ dX8_tells_157 (by decide) (fun _ => ?_) (fun h => absurd h (by decide))
                  refine lv_iload C.1 C.2.1 dX8_tells_169 (lv_at hl 1 rfl) ?_
                  refine lv_iconst (v := II 5) C.1 C.2.1 dX8_tells_171 rfl ?_
                  refine x_icmp_ne (tgt := 179) C ⟨by decide, by decide⟩ ⟨by decide, by decide⟩ dX8_tells_172 (by decide) (fun _ => ?_) (fun h => absurd h (by decide))
                  refine lv_iload C.1 C.2.1 dX8_tells_179 (lv_at hl 1 rfl) ?_
                  refine x_ci (x_runS (n := 1) C hw hS hml hl.1 (c_X8_mostOf l g M148 4 (by decide)) mw_967 mw_968 mw_130 mw_969 rfl rfl (by decide +kernel) ⟨Nat.le_of_ble_eq_true rfl, Nat.le_of_ble_eq_true rfl⟩ rfl rfl (Nat.le_of_ble_eq_true rfl) dX8_tells_181 ⟨Nat.zero_le _, Nat.zero_le _⟩) hS (fun r181 M181 H locs hr181 hp hw hS => ?_)
                  obtain ⟨em181, er181⟩ := hp
                  have hw : Wo g M148 H := em181 ▸ hw
                  rw [er181] at hr181 ⊢
                  rw [show hiT 4 = (63 : Int) from by decide] at hr181 ⊢
                  refine lv_istore (lv' := [(7, .int (II 63)), (6, .int (II (v i 4))), (5, .int (II 4)), (0, .ref (gA g 70)), (1, .int (II (k : Int))), (2, .int (II ho)), (3, .int (II (i : Int))), (4, .int (II 8))]) C.1 C.2.1 dX8_tells_184 hl (by decide) rfl (fun ls hl => ?_)
                  refine lv_iconst (v := II 0) C.1 C.2.1 dX8_tells_186 rfl ?_
                  refine lv_istore (lv' := [(8, .int (II 0)), (7, .int (II 63)), (6, .int (II (v i 4))), (5, .int (II 4)), (0, .ref (gA g 70)), (1, .int (II (k : Int))), (2, .int (II ho)), (3, .int (II (i : Int))), (4, .int (II 8))]) C.1 C.2.1 dX8_tells_187 hl (by decide) rfl (fun ls hl => ?_)
                  refine lv_iconst (v := II 0) C.1 C.2.1 dX8_tells_189 rfl ?_
                  refine lv_istore (lv' := [(9, .int (II 0)), (8, .int (II 0)), (7, .int (II 63)), (6, .int (II (v i 4))), (5, .int (II 4)), (0, .ref (gA g 70)), (1, .int (II (k : Int))), (2, .int (II ho)), (3, .int (II (i : Int))), (4, .int (II 8))]) C.1 C.2.1 dX8_tells_190 hl (by decide) rfl (fun ls hl => ?_)
                  refine lv_iload C.1 C.2.1 dX8_tells_192 (lv_at hl 9 rfl) ?_
                  refine lv_bipush (v := II 6) C.1 C.2.1 dX8_tells_194 (by decide) ?_
                  refine x_icmp_ne (tgt := 204) C ⟨by decide, by decide⟩ ⟨by decide, by decide⟩ dX8_tells_196 (by decide) (fun _ => ?_) (fun h => absurd h (by decide))
                  refine lv_iconst (v := II (-1)) C.1 C.2.1 dX8_tells_204 rfl ?_
                  refine lv_istore (lv' := [(10, .int (II (-1))), (9, .int (II 0)), (8, .int (II 0)), (7, .int (II 63)), (6, .int (II (v i 4))), (5, .int (II 4)), (0, .ref (gA g 70)), (1, .int (II (k : Int))), (2, .int (II ho)), (3, .int (II (i : Int))), (4, .int (II 8))]) C.1 C.2.1 dX8_tells_205 hl (by decide) rfl (fun ls hl => ?_)
                  refine lv_iload C.1 C.2.1 dX8_tells_207 (lv_at hl 3 rfl) ?_
                  refine lv_istore (lv' := [(11, .int (II 63)), (10, .int (II (-1))), (9, .int (II 0)), (8, .int (II 0)), (7, .int (II 63)), (6, .int (II (v i 4))), (5, .int (II 4)), (0, .ref (gA g 70)), (1, .int (II (k : Int))), (2, .int (II ho)), (3, .int (II (i : Int))), (4, .int (II 8))]) C.1 C.2.1 dX8_tells_209 hl (by decide) rfl (fun ls hl => ?_)
                  have L211 : ∀ (f8 : Nat) (j : Nat) (M3 : Nat → Int), j < f8 → (j ≤ 64) → (∀ m, ¬ (scm m ∨ m = (75000 + (4 * i + 3))) → M3 m = M148 m) → ∀ (H : Heap) (locs : List Loc) (ls : Array Slot), Wo g M3 H → va_S (ar g) s.heap H locs → lv_has ls 12 [(0, .ref (gA g 70)), (1, .int (II (k : Int))), (2, .int (II ho)), (3, .int (II (i : Int))), (4, .int (II 8)), (5, .int (II 4)), (6, .int (II (v i 4))), (7, .int (II 63)), (8, .int (II 0)), (9, .int (II (cnt F 64 - cnt F j))), (10, .int (II (leaS (fun x => F (x + j)) (0 + ((j : Nat) : Int)) (-1) (64 - j)))), (11, .int (II (0 + ((j : Nat) : Int) - 1)))] → W p l e (rmm 45 1001) s m args below meth c H locs 0 0 QQ (F0 m 211 ls []) := by
                    intro f8
                    induction f8 with
                    | zero => intro j M3 hmu; exact absurd hmu (Nat.not_lt_zero _)
                    | succ f8 ih =>
                      intro j M3 hmu h1 hf3 H locs ls hw hS hl
                      have ih211 := ih
                      have g_M3 := hw.rg
                      have hcj := cnt_in F j
                      have hcm := cnt_in F 64
                      have hsj : cnt F j ≤ cnt F 64 := cnt_mono (by omega)
                      have hle := lea_in (F := fun x => F (x + j)) (lo := 0 + ((j : Nat) : Int)) (no := (-1)) (m := 64 - j)
                      refine lv_iload C.1 C.2.1 dX8_tells_211 (lv_at hl 11 rfl) ?_
                      refine lv_iload C.1 C.2.1 dX8_tells_213 (lv_at hl 5 rfl) ?_
                      refine lv_bipush (v := II 6) C.1 C.2.1 dX8_tells_215 (by decide) ?_
                      refine x_icmp_ge (tgt := 228) C ⟨by decide, by decide⟩ ⟨by decide, by decide⟩ dX8_tells_217 (by decide) (fun h => absurd h (by decide)) (fun _ => ?_)
                      refine lv_iload C.1 C.2.1 dX8_tells_220 (lv_at hl 5 rfl) ?_
                      refine x_ci (x_runS (n := 1) C hw hS hml hl.1 (c_X8_leastOf l g M3 4 (by decide)) mw_964 mw_965 mw_130 mw_966 rfl rfl (by decide +kernel) ⟨Nat.le_of_ble_eq_true rfl, Nat.le_of_ble_eq_true rfl⟩ rfl rfl (Nat.le_of_ble_eq_true rfl) dX8_tells_222 ⟨Nat.zero_le _, Nat.zero_le _⟩) hS (fun r222 M222 H locs hr222 hp hw hS => ?_)
                      obtain ⟨em222, er222⟩ := hp
                      have hw : Wo g M3 H := em222 ▸ hw
                      rw [er222] at hr222 ⊢
                      rw [show loT 4 = (0 : Int) from by decide] at hr222 ⊢
                      refine lv_goto (tgt := 229) C.1 C.2.1 dX8_tells_225 (by decide) ?_
                      refine x_icmp_lt (tgt := 283) C ⟨by omega, by omega⟩ ⟨by decide, by decide⟩ dX8_tells_229 (by decide) (fun c229 => ?_) (fun c229 => ?_)
                      · refine lv_aload_n C.1 C.2.1 dX8_tells_283 rfl (lv_at hl 0 rfl) ?_
                        refine lv_iload C.1 C.2.1 dX8_tells_284 (lv_at hl 5 rfl) ?_
                        refine lv_iload_n C.1 C.2.1 dX8_tells_286 rfl (lv_at hl 3 rfl) ?_
                        refine lv_iload C.1 C.2.1 dX8_tells_287 (lv_at hl 6 rfl) ?_
                        refine x_cv (x_runV (n := 3) C hw hS hml hl.1 70 8 (by omega) rfl (by decide) rfl (c_X8_laysN l g M3 hF 4 (by omega) i (by omega) 4 (75000 + (4 * i + 3)) ⟨by unfold psP; omega, by omega⟩ (v i 4) ⟨by omega, by omega⟩) mw_1200 mw_1202 mw_107 mw_130 mw_1203 rfl rfl (by decide +kernel) ⟨Nat.le_of_ble_eq_true rfl, Nat.le_of_ble_eq_true rfl⟩ rfl rfl (Nat.le_of_ble_eq_true rfl) dX8_tells_289 ⟨Nat.zero_le _, Nat.zero_le _⟩) hS (fun M289 H locs hp hw hS => ?_)
                        have em289 := hp
                        have hw : Wo g (stM M3 (75000 + (4 * i + 3)) (v i 4)) H := em289 ▸ hw
                        refine lv_iload C.1 C.2.1 dX8_tells_292 (lv_at hl 4 rfl) ?_
                        refine lv_iconst (v := II 5) C.1 C.2.1 dX8_tells_294 rfl ?_
                        refine x_icmp_ge (tgt := 303) C ⟨by decide, by decide⟩ ⟨by decide, by decide⟩ dX8_tells_295 (by decide) (fun _ => ?_) (fun h => absurd h (by decide))
                        refine lv_iload C.1 C.2.1 dX8_tells_303 (lv_at hl 4 rfl) ?_
                        refine lv_iconst (v := II 2) C.1 C.2.1 dX8_tells_305 rfl ?_
                        refine x_irem C (by omega) ⟨by decide, by decide⟩ (by omega) ⟨by decide, by decide⟩ dX8_tells_306 ?_
                        rw [show (8 % 2 : Int) = 0 from by decide]
                        refine lv_iconst (v := II 1) C.1 C.2.1 dX8_tells_307 rfl ?_
                        refine x_icmp_ne (tgt := 316) C ⟨by decide, by decide⟩ ⟨by decide, by decide⟩ dX8_tells_308 (by decide) (fun _ => ?_) (fun h => absurd h (by decide))
                        refine lv_iload C.1 C.2.1 dX8_tells_316 (lv_at hl 10 rfl) ?_
                        subst hQQ; exact x_ireturn C hr hlk hw hS ⟨by omega, by omega⟩ rfl ⟨(by have hj0 : j = 0 := (by omega); subst hj0; unfold r_tells; rw [if_neg (by rw [eok]; decide)]; simp only [Int.toNat_natCast]; rw [if_neg zs1, if_neg (fun z => z hz6), if_neg (by decide), if_neg (by decide), if_neg (by decide), if_neg (by decide), if_neg (by decide), if_neg (by decide), if_neg (by decide), if_neg (by decide)]; exact (lea_0 (F := F)).trans (by rw [hFe])), (h148r.fr hA (fun m hm _ => by
      by_cases e : m = (75000 + (4 * i + 3))
      · rw [e, st_s]; exact (mb_at hMB (q := i) (f := 4) (by omega) (by unfold psP; omega)).symm
      · rw [st_n e]; exact hf3 m (fun z => z.elim (fun y => hm (Or.inl y)) e))), (fun m hm => by rw [st_n (by omega), hf3 m (by unfold scm; omega)]; exact h148k m hm)⟩ dX8_tells_318
                      · obtain ⟨y, rfl⟩ : ∃ y, j = y + 1 := ⟨j - 1, by omega⟩
                        have ev : 0 + (((y + 1) : Nat) : Int) - 1 = 0 + (y : Int) := by omega
                        have hl : lv_has ls 12 [(0, .ref (gA g 70)), (1, .int (II (k : Int))), (2, .int (II ho)), (3, .int (II (i : Int))), (4, .int (II 8)), (5, .int (II 4)), (6, .int (II (v i 4))), (7, .int (II 63)), (8, .int (II 0)), (9, .int (II (cnt F 64 - cnt F (y + 1)))), (10, .int (II (leaS (fun x => F (x + (y + 1))) (0 + (((y + 1) : Nat) : Int)) (-1) (64 - (y + 1))))), (11, .int (II (0 + (y : Int))))] := by rw [← ev]; exact hl
                        refine lv_aload_n C.1 C.2.1 dX8_tells_232 rfl (lv_at hl 0 rfl) ?_
                        refine lv_iload C.1 C.2.1 dX8_tells_233 (lv_at hl 5 rfl) ?_
                        refine lv_iload_n C.1 C.2.1 dX8_tells_235 rfl (lv_at hl 3 rfl) ?_
                        refine lv_iload C.1 C.2.1 dX8_tells_236 (lv_at hl 11 rfl) ?_
                        refine x_cv (x_runV (n := 3) C hw hS hml hl.1 70 8 (by omega) rfl (by decide) rfl (c_X8_laysN l g M3 hF 4 (by omega) i (by omega) 4 (75000 + (4 * i + 3)) ⟨by unfold psP; omega, by omega⟩ (0 + (y : Int)) ⟨by omega, by omega⟩) mw_1200 mw_1202 mw_107 mw_130 mw_1203 rfl rfl (by decide +kernel) ⟨Nat.le_of_ble_eq_true rfl, Nat.le_of_ble_eq_true rfl⟩ rfl rfl (Nat.le_of_ble_eq_true rfl) dX8_tells_238 ⟨Nat.zero_le _, Nat.zero_le _⟩) hS (fun M238 H locs hp hw hS => ?_)
                        have em238 := hp
                        have hw : Wo g (stM M3 (75000 + (4 * i + 3)) (0 + (y : Int))) H := em238 ▸ hw
                        refine lv_aload_n C.1 C.2.1 dX8_tells_241 rfl (lv_at hl 0 rfl) ?_
                        refine lv_iload_n C.1 C.2.1 dX8_tells_242 rfl (lv_at hl 1 rfl) ?_
                        refine lv_iload_n C.1 C.2.1 dX8_tells_243 rfl (lv_at hl 2 rfl) ?_
                        refine x_ci (x_runV (n := 2) C hw hS hml hl.1 70 8 (by omega) rfl (by decide) rfl (c_X8_firstOther l g (stM M3 (75000 + (4 * i + 3)) (0 + (y : Int))) hF n (upv v i 4 (0 + (y : Int))) nt t (X.2.1 t) (hMB.up (q := i) (f := 4) (ps := (75000 + (4 * i + 3))) (by unfold psP; omega) (fun m hm => by unfold sc4 scm at hm; rw [st_n (by omega)]; exact hf3 m (by unfold scm; omega)) st_s (hM.2.2.1.okF (by unfold okF; omega)) (fun z => by omega) (by omega)) k (by omega) (Sh.2.2 k) (fun h hh => (st_n (by omega)).trans ((hf3 _ (by unfold scm; omega)).trans (q5 h (by rw [hz6]; omega)))) ho gz_ho) mw_1306 mw_1308 mw_114 mw_130 mw_1309 rfl rfl (by decide +kernel) ⟨Nat.le_of_ble_eq_true rfl, Nat.le_of_ble_eq_true rfl⟩ rfl rfl (Nat.le_of_ble_eq_true rfl) dX8_tells_244 ⟨Nat.zero_le _, Nat.zero_le _⟩) hS (fun r244 M244 H locs hr244 hp hw hS => ?_)
                        obtain ⟨er244, h244f⟩ := hp
                        have g_M244 := hw.rg
                        rw [er244] at hr244 ⊢
                        have hfo := foS_in (fun h => reedS (upv v i 4 (0 + (y : Int))) n nt (X.2.1 t) ho h) (Sh.2.2 k)
                        refine lv_iconst (v := II (-1)) C.1 C.2.1 dX8_tells_247 rfl ?_
                        refine x_icmp_ne (tgt := 277) C hr244 ⟨by decide, by decide⟩ dX8_tells_248 (by decide) (fun c248 => ?_) (fun c248 => ?_)
                        · skip
                          refine lv_iinc (v := II (0 + (y : Int) + (-1))) (lv' := [(11, .int (II (0 + (y : Int) + (-1)))), (0, .ref (gA g 70)), (1, .int (II (k : Int))), (2, .int (II ho)), (3, .int (II (i : Int))), (4, .int (II 8)), (5, .int (II 4)), (6, .int (II (v i 4))), (7, .int (II 63)), (8, .int (II 0)), (9, .int (II (cnt F 64 - cnt F (y + 1)))), (10, .int (II (leaS (fun x => F (x + (y + 1))) (0 + (((y + 1) : Nat) : Int)) (-1) (64 - (y + 1)))))]) C.1 C.2.1 dX8_tells_277 hl (k := 11) rfl (II_add _ _) (by decide) rfl (fun ls hl => ?_)
                          refine lv_goto (tgt := 211) C.1 C.2.1 dX8_tells_280 (by decide) ?_
                          have hFy : F y = false := by rw [hFe]; exact decide_eq_false c248
                          have e9 : cnt F 64 - cnt F y = (cnt F 64 - cnt F (y + 1) : Int) := cntf_ hFy
                          have e10 : leaS (fun x => F (x + y)) (0 + ((y : Nat) : Int)) (-1) (64 - y) = (leaS (fun x => F (x + (y + 1))) (0 + (((y + 1) : Nat) : Int)) (-1) (64 - (y + 1)) : Int) := lea_f hFy (by omega)
                          have e11 : 0 + ((y : Nat) : Int) - 1 = (0 + (y : Int) + (-1) : Int) := by omega
                          have hl : lv_has ls 12 [(11, .int (II (0 + ((y : Nat) : Int) - 1))), (0, .ref (gA g 70)), (1, .int (II (k : Int))), (2, .int (II ho)), (3, .int (II (i : Int))), (4, .int (II 8)), (5, .int (II 4)), (6, .int (II (v i 4))), (7, .int (II 63)), (8, .int (II 0)), (9, .int (II (cnt F 64 - cnt F y))), (10, .int (II (leaS (fun x => F (x + y)) (0 + ((y : Nat) : Int)) (-1) (64 - y))))] := by rw [e9, e10, e11]; exact hl
                          exact ih211  y M244 (by omega) (by omega) (fun m hm => by rw [h244f m (fun z => hm (Or.inl z)), st_n (fun z => hm (Or.inr z))]; exact hf3 m hm) _ _ _ hw hS (lv_sub hl [1, 2, 3, 4, 5, 6, 7, 8, 9, 10, 11, 0] rfl)
                        · skip
                          refine lv_iload C.1 C.2.1 dX8_tells_251 (lv_at hl 8 rfl) ?_
                          refine lv_iload C.1 C.2.1 dX8_tells_253 (lv_at hl 4 rfl) ?_
                          refine lv_iconst (v := II 5) C.1 C.2.1 dX8_tells_255 rfl ?_
                          refine x_icmp_ge (tgt := 266) C ⟨by decide, by decide⟩ ⟨by decide, by decide⟩ dX8_tells_256 (by decide) (fun _ => ?_) (fun h => absurd h (by decide))
                          refine lv_iconst (v := II 0) C.1 C.2.1 dX8_tells_266 rfl ?_
                          refine lv_ior C.1 C.2.1 dX8_tells_267 ?_
                          rw [show (II 0 ||| II 0) = II 0 from by decide]
                          refine lv_istore (lv' := [(8, .int (II 0)), (0, .ref (gA g 70)), (1, .int (II (k : Int))), (2, .int (II ho)), (3, .int (II (i : Int))), (4, .int (II 8)), (5, .int (II 4)), (6, .int (II (v i 4))), (7, .int (II 63)), (9, .int (II (cnt F 64 - cnt F (y + 1)))), (10, .int (II (leaS (fun x => F (x + (y + 1))) (0 + (((y + 1) : Nat) : Int)) (-1) (64 - (y + 1))))), (11, .int (II (0 + (y : Int))))]) C.1 C.2.1 dX8_tells_268 hl (by decide) rfl (fun ls hl => ?_)
                          refine lv_iinc (v := II (cnt F 64 - cnt F (y + 1) + 1)) (lv' := [(9, .int (II (cnt F 64 - cnt F (y + 1) + 1))), (8, .int (II 0)), (0, .ref (gA g 70)), (1, .int (II (k : Int))), (2, .int (II ho)), (3, .int (II (i : Int))), (4, .int (II 8)), (5, .int (II 4)), (6, .int (II (v i 4))), (7, .int (II 63)), (10, .int (II (leaS (fun x => F (x + (y + 1))) (0 + (((y + 1) : Nat) : Int)) (-1) (64 - (y + 1))))), (11, .int (II (0 + (y : Int))))]) C.1 C.2.1 dX8_tells_270 hl (k := 9) rfl (II_add _ _) (by decide) rfl (fun ls hl => ?_)
                          refine lv_iload C.1 C.2.1 dX8_tells_273 (lv_at hl 11 rfl) ?_
                          refine lv_istore (lv' := [(10, .int (II (0 + (y : Int)))), (9, .int (II (cnt F 64 - cnt F (y + 1) + 1))), (8, .int (II 0)), (0, .ref (gA g 70)), (1, .int (II (k : Int))), (2, .int (II ho)), (3, .int (II (i : Int))), (4, .int (II 8)), (5, .int (II 4)), (6, .int (II (v i 4))), (7, .int (II 63)), (11, .int (II (0 + (y : Int))))]) C.1 C.2.1 dX8_tells_275 hl (by decide) rfl (fun ls hl => ?_)
                          skip
                          refine lv_iinc (v := II (0 + (y : Int) + (-1))) (lv' := [(11, .int (II (0 + (y : Int) + (-1)))), (10, .int (II (0 + (y : Int)))), (9, .int (II (cnt F 64 - cnt F (y + 1) + 1))), (8, .int (II 0)), (0, .ref (gA g 70)), (1, .int (II (k : Int))), (2, .int (II ho)), (3, .int (II (i : Int))), (4, .int (II 8)), (5, .int (II 4)), (6, .int (II (v i 4))), (7, .int (II 63))]) C.1 C.2.1 dX8_tells_277 hl (k := 11) rfl (II_add _ _) (by decide) rfl (fun ls hl => ?_)
                          refine lv_goto (tgt := 211) C.1 C.2.1 dX8_tells_280 (by decide) ?_
                          have hFy : F y = true := by rw [hFe]; exact decide_eq_true c248
                          have e9 : cnt F 64 - cnt F y = (cnt F 64 - cnt F (y + 1) + 1 : Int) := cntt_ hFy
                          have e10 : leaS (fun x => F (x + y)) (0 + ((y : Nat) : Int)) (-1) (64 - y) = (0 + (y : Int) : Int) := lea_t hFy (by omega)
                          have e11 : 0 + ((y : Nat) : Int) - 1 = (0 + (y : Int) + (-1) : Int) := by omega
                          have hl : lv_has ls 12 [(11, .int (II (0 + ((y : Nat) : Int) - 1))), (10, .int (II (leaS (fun x => F (x + y)) (0 + ((y : Nat) : Int)) (-1) (64 - y)))), (9, .int (II (cnt F 64 - cnt F y))), (8, .int (II 0)), (0, .ref (gA g 70)), (1, .int (II (k : Int))), (2, .int (II ho)), (3, .int (II (i : Int))), (4, .int (II 8)), (5, .int (II 4)), (6, .int (II (v i 4))), (7, .int (II 63))] := by rw [e9, e10, e11]; exact hl
                          exact ih211  y M244 (by omega) (by omega) (fun m hm => by rw [h244f m (fun z => hm (Or.inl z)), st_n (fun z => hm (Or.inr z))]; exact hf3 m hm) _ _ _ hw hS (lv_sub hl [4, 5, 6, 7, 8, 9, 10, 11, 3, 2, 1, 0] rfl)
                  have e9 : cnt F 64 - cnt F 64 = (0 : Int) := by first | (rw [Int.sub_self]; done) | (rw [lea_end]; done) | omega | rfl | simp
                  have e10 : leaS (fun x => F (x + 64)) (0 + ((64 : Nat) : Int)) (-1) (64 - 64) = ((-1) : Int) := by first | (rw [Int.sub_self]; done) | (rw [lea_end]; done) | omega | rfl | simp
                  have e11 : 0 + ((64 : Nat) : Int) - 1 = (63 : Int) := by first | (rw [Int.sub_self]; done) | (rw [lea_end]; done) | omega | rfl | simp
                  have hl : lv_has ls 12 [(11, .int (II (0 + ((64 : Nat) : Int) - 1))), (10, .int (II (leaS (fun x => F (x + 64)) (0 + ((64 : Nat) : Int)) (-1) (64 - 64)))), (9, .int (II (cnt F 64 - cnt F 64))), (8, .int (II 0)), (7, .int (II 63)), (6, .int (II (v i 4))), (5, .int (II 4)), (0, .ref (gA g 70)), (1, .int (II (k : Int))), (2, .int (II ho)), (3, .int (II (i : Int))), (4, .int (II 8))] := by rw [e9, e10, e11]; exact hl
                  exact L211 _ 64 M148 (Nat.lt_succ_self _) (by omega) (fun _ _ => rfl) _ _ _ hw hS (lv_sub hl [7, 8, 9, 10, 11, 6, 5, 4, 3, 2, 1, 0] rfl)
              · refine lv_bipush (v := II (-2)) C.1 C.2.1 dX8_tells_67 (by decide) ?_
                subst hQQ; exact x_ireturn C hr hlk hw hS ⟨by decide, by decide⟩ rfl ⟨(by unfold r_tells; rw [if_neg (by rw [eok]; decide)]; simp only [Int.toNat_natCast]; rw [if_neg zs1, if_pos (by omega)]), hR, (fun _ _ => rfl)⟩ dX8_tells_69
          · have hw : Wo g M H := em35 ▸ hw
            rw [er35]
            refine x_if_ne (tgt := 44) C ⟨by decide, by decide⟩ dX8_tells_38 (by decide) (fun h => absurd h (by decide)) (fun _ => ?_)
            refine lv_bipush (v := II (-2)) C.1 C.2.1 dX8_tells_41 (by decide) ?_
            subst hQQ; exact x_ireturn C hr hlk hw hS ⟨by decide, by decide⟩ rfl ⟨(by have e : okTl n s0 ho q w = false := decide_eq_false (fun y => by first | exact h1b y.1 | exact h8b y.2.1 | (have := y.2.2.1; exact h21b (by omega)) | (have := y.2.2.2; exact h35b (by omega))); unfold r_tells; rw [if_pos e]), hR, (fun _ _ => rfl)⟩ dX8_tells_43
      · have hw : Wo g M H := em21 ▸ hw
        rw [er21]
        refine x_if_eq (tgt := 41) C ⟨by decide, by decide⟩ dX8_tells_24 (by decide) (fun _ => ?_) (fun h => absurd h (by decide))
        refine lv_bipush (v := II (-2)) C.1 C.2.1 dX8_tells_41 (by decide) ?_
        subst hQQ; exact x_ireturn C hr hlk hw hS ⟨by decide, by decide⟩ rfl ⟨(by have e : okTl n s0 ho q w = false := decide_eq_false (fun y => by first | exact h1b y.1 | exact h8b y.2.1 | (have := y.2.2.1; exact h21b (by omega)) | (have := y.2.2.2; exact h35b (by omega))); unfold r_tells; rw [if_pos e]), hR, (fun _ _ => rfl)⟩ dX8_tells_43
    · have hw : Wo g M H := em8 ▸ hw
      rw [er8]
      refine x_if_eq (tgt := 41) C ⟨by decide, by decide⟩ dX8_tells_11 (by decide) (fun _ => ?_) (fun h => absurd h (by decide))
      refine lv_bipush (v := II (-2)) C.1 C.2.1 dX8_tells_41 (by decide) ?_
      subst hQQ; exact x_ireturn C hr hlk hw hS ⟨by decide, by decide⟩ rfl ⟨(by have e : okTl n s0 ho q w = false := decide_eq_false (fun y => by first | exact h1b y.1 | exact h8b y.2.1 | (have := y.2.2.1; exact h21b (by omega)) | (have := y.2.2.2; exact h35b (by omega))); unfold r_tells; rw [if_pos e]), hR, (fun _ _ => rfl)⟩ dX8_tells_43
  · have hw : Wo g M H := em1 ▸ hw
    rw [er1]
    refine x_if_eq (tgt := 41) C ⟨by decide, by decide⟩ dX8_tells_4 (by decide) (fun _ => ?_) (fun h => absurd h (by decide))
    refine lv_bipush (v := II (-2)) C.1 C.2.1 dX8_tells_41 (by decide) ?_
    subst hQQ; exact x_ireturn C hr hlk hw hS ⟨by decide, by decide⟩ rfl ⟨(by have e : okTl n s0 ho q w = false := decide_eq_false (fun y => by first | exact h1b y.1 | exact h8b y.2.1 | (have := y.2.2.1; exact h21b (by omega)) | (have := y.2.2.2; exact h35b (by omega))); unfold r_tells; rw [if_pos e]), hR, (fun _ _ => rfl)⟩ dX8_tells_43
