/-! A NIGHT: n people, v q f: of one q kind 0, number 1, house 2, mood 3, out 4; nt the night; E: what the rule's parts say -/
abbrev Ev : Type := Nat → Int → Int → Int → Int → Int → Int → Int
def exB (k num nt : Int) : Bool := decide (k = 5) || ((decide (k = 1) || decide (k = 3)) && decide (4 < num)) || (decide (k = 3) && decide (nt % 2 = 1))
theorem exB_t {k num nt : Int} (h : exK k num nt) : exB k num nt = true := by
  unfold exK at h; unfold exB
  rcases h with h | ⟨h | h, h2⟩ | ⟨h, h2⟩
  · simp [h]
  · simp [h, h2]
  · simp [h, h2]
  · simp [h, h2]
theorem exB_f {k num nt : Int} (h : ¬ exK k num nt) : exB k num nt = false := by
  unfold exK at h; unfold exB
  cases hb : (decide (k = 5) || ((decide (k = 1) || decide (k = 3)) && decide (4 < num)) || (decide (k = 3) && decide (nt % 2 = 1))) with
  | false => rfl
  | true =>
    simp only [Bool.or_eq_true, Bool.and_eq_true, decide_eq_true_eq] at hb
    exfalso
    omega
def inH (v : Nat → Nat → Int) (q h : Nat) : Bool := decide (bitv (v q 4) h = 0)
def othr (v : Nat → Nat → Int) (n p h : Nat) : Int := cnt (fun q => decide (q ≠ p) && (decide (v q 2 = v p 2) && inH v q h)) n
def fool (v : Nat → Nat → Int) (n p h : Nat) : Int := cnt (fun q => decide (q ≠ p) && ((decide (v q 2 = v p 2) && inH v q h) && decide (v q 0 = 5))) n
def swayA (v : Nat → Nat → Int) (n : Nat) (E : Ev) (p h : Nat) (mo : Int) : Int := if inH v p h then swayK (v p 0) (v p 1) (bnd (E 1 mo h (v p 1) (othr v n p h) (v p 2) (fool v n p h)) (-9) 9) (fool v n p h) else 1
def moodA (v : Nat → Nat → Int) (n : Nat) (E : Ev) (p : Nat) : Nat → Int
  | 0 => v p 3
  | h + 1 => bnd (moodA v n E p h + swayA v n E p h (moodA v n E p h)) (-20) 20
def sighA (v : Nat → Nat → Int) (n : Nat) (nt : Int) (E : Ev) (p h : Nat) : Int := if inH v p h then sighK (v p 0) (v p 1) nt (bnd (E 0 (moodA v n E p h) h (v p 1) (othr v n p h) (v p 2) (fool v n p h)) 0 99) (moodA v n E p h) else 0
def sm (f : Nat → Int) : Nat → Int
  | 0 => 0
  | k + 1 => sm f k + f k
def reed1 (v : Nat → Nat → Int) (n : Nat) (nt : Int) (E : Ev) (ho : Int) (h q : Nat) : Int := if v q 2 = ho then sighA v n nt E q h else 0
def reedS (v : Nat → Nat → Int) (n : Nat) (nt : Int) (E : Ev) (ho : Int) (h : Nat) : Int := sm (reed1 v n nt E ho h) n
def pay1 (v : Nat → Nat → Int) (n : Nat) (nt : Int) (E : Ev) (ho : Int) (h q : Nat) : Int := if v q 2 = ho then (if exB (v q 0) (v q 1) nt then 0 else sighA v n nt E q h) else 0
def payS (v : Nat → Nat → Int) (n : Nat) (nt : Int) (E : Ev) (ho : Int) (h : Nat) : Int := sm (pay1 v n nt E ho h) n
def livS (v : Nat → Nat → Int) (n : Nat) (ho : Int) : Int := cnt (fun q => decide (v q 2 = ho)) n
def dueS (v : Nat → Nat → Int) (n : Nat) (nt : Int) (E : Ev) (ho : Int) : Int := bnd (E 2 (sm (payS v n nt E ho) 6) 6 0 (livS v n ho) ho 0) 0 9999
def allS (v : Nat → Nat → Int) (n : Nat) (nt : Int) (E : Ev) : Int := sm (fun k => dueS v n nt E (k : Int)) 5
def presS (v : Nat → Nat → Int) (ho : Int) (h n : Nat) : Int := cnt (fun q => decide (v q 2 = ho) && inH v q h) n
def foolP (v : Nat → Nat → Int) (ho : Int) (h n : Nat) : Int := cnt (fun q => (decide (v q 2 = ho) && inH v q h) && decide (v q 0 = 5)) n
def PI (v : Nat → Nat → Int) (n : Nat) : Prop := ∀ q, q < n → (0 ≤ v q 0 ∧ v q 0 ≤ 5) ∧ (0 ≤ v q 1 ∧ v q 1 ≤ 9) ∧ (-1 ≤ v q 2 ∧ v q 2 ≤ 4) ∧ (-20 ≤ v q 3 ∧ v q 3 ≤ 20) ∧ (0 ≤ v q 4 ∧ v q 4 ≤ 63)
theorem sm_in {f : Nat → Int} {B : Int} (h : ∀ q, 0 ≤ f q ∧ f q ≤ B) : ∀ n : Nat, 0 ≤ sm f n ∧ sm f n ≤ B * n
  | 0 => by simp [sm]
  | n + 1 => by
    have h1 := sm_in h n
    have h2 := h n
    have e : B * ((n + 1 : Nat) : Int) = B * n + B := by rw [Int.natCast_succ, Int.mul_add, Int.mul_one]
    rw [sm, e]
    omega
theorem sighK_in {k num nt x mo : Int} (h : 0 ≤ x ∧ x ≤ 99) : 0 ≤ sighK k num nt x mo ∧ sighK k num nt x mo ≤ 297 := by
  unfold sighK wsK
  (repeat' split) <;> omega
theorem sighA_in (v : Nat → Nat → Int) (n : Nat) (nt : Int) (E : Ev) (p h : Nat) : 0 ≤ sighA v n nt E p h ∧ sighA v n nt E p h ≤ 297 := by
  unfold sighA
  split
  · exact sighK_in (bnd_in (by decide))
  · omega
theorem reed1_in (v : Nat → Nat → Int) (n : Nat) (nt : Int) (E : Ev) (ho : Int) (h q : Nat) : 0 ≤ reed1 v n nt E ho h q ∧ reed1 v n nt E ho h q ≤ 297 := by
  have := sighA_in v n nt E q h
  unfold reed1; split <;> omega
theorem pay1_in (v : Nat → Nat → Int) (n : Nat) (nt : Int) (E : Ev) (ho : Int) (h q : Nat) : 0 ≤ pay1 v n nt E ho h q ∧ pay1 v n nt E ho h q ≤ 297 := by
  have := sighA_in v n nt E q h
  unfold pay1; (repeat' split) <;> omega
theorem moodA_in {v : Nat → Nat → Int} {n : Nat} {E : Ev} {p : Nat} (h : PI v n) (hp : p < n) (k : Nat) : -20 ≤ moodA v n E p k ∧ moodA v n E p k ≤ 20 := by
  cases k with
  | zero => exact (h p hp).2.2.2.1
  | succ k => exact bnd_in (by decide)
theorem cnt_pt {P : Nat → Bool} {n p : Nat} (hp : p < n) (h : P p = true) : cnt (fun q => decide (q ≠ p) && P q) n = cnt P n - 1 := by
  induction n with
  | zero => omega
  | succ n ih =>
    by_cases e : n = p
    · subst e
      have e2 : ∀ m : Nat, m ≤ n → cnt (fun q => decide (q ≠ n) && P q) m = cnt P m := by
        intro m
        induction m with
        | zero => intro _; rfl
        | succ m ihm =>
          intro hm
          rw [cnt, cnt, ihm (by omega)]
          have : decide (m ≠ n) = true := decide_eq_true (by omega)
          rw [this, Bool.true_and]
      rw [cnt, cnt, e2 n (Nat.le_refl _), h]
      simp
    · rw [cnt, cnt, ih (by omega)]
      have : decide (n ≠ p) = true := decide_eq_true e
      rw [this, Bool.true_and]
      omega
theorem cnt_pf {P : Nat → Bool} {n p : Nat} (h : P p = false) : cnt (fun q => decide (q ≠ p) && P q) n = cnt P n := by
  induction n with
  | zero => rfl
  | succ n ih =>
    rw [cnt, cnt, ih]
    by_cases e : n = p
    · subst e; rw [h]; simp
    · have : decide (n ≠ p) = true := decide_eq_true e
      rw [this, Bool.true_and]
theorem cnt0 {x : Int} {P : Nat → Bool} {i : Nat} (h : x = cnt P i) (hP : P i = false) : x = cnt P (i + 1) := h.trans (cnt_f hP)
theorem cnt1 {x : Int} {P : Nat → Bool} {i : Nat} (h : x = cnt P i) (hP : P i = true) : x + 1 = cnt P (i + 1) := by rw [h]; exact cnt_t hP
theorem cnt2 {x z : Int} {P : Nat → Bool} {i : Nat} (h : x = cnt P i) (hz : z = if P i = true then 1 else 0) : x + z = cnt P (i + 1) := by rw [h, hz]; rfl
/-- a text's code and starts, and what its parts say -/
def TxC (M : Nat → Int) (t : Nat) (E : Ev) : Prop := ∃ a : Nat → Nat, (∀ j, j < 4 → M (1000 * (21 + t) + j) = (a j : Int)) ∧ (∀ j, j < 3 → a j ≤ a (j + 1)) ∧ a 3 ≤ 160 ∧ ∀ q, q < 3 → ∀ nm : Nat → Int, rnF (fun i => M (1000 * (14 + t) + i)) nm (a (q + 1) - a q) (a q) [] = some [E q (nm 0) (nm 1) (nm 2) (nm 3) (nm 4) (nm 5)]
theorem rnF_congr {c1 c2 nm : Nat → Int} {b : Nat} (h : ∀ i, i < b → c1 i = c2 i) : ∀ (k a : Nat) (S : List Int), a + k ≤ b → rnF c1 nm k a S = rnF c2 nm k a S
  | 0, _, _, _ => rfl
  | k + 1, a, S, hk => by
    rw [rnF, rnF, h a (by omega)]
    cases stepW nm (c2 a) S with
    | none => rfl
    | some S' => exact rnF_congr h k (a + 1) S' (by omega)
theorem TxC.fr {M M' : Nat → Int} {t : Nat} {E : Ev} (h : TxC M t E) (hf : ∀ m, m / 1000 = 14 + t ∨ m / 1000 = 21 + t → M' m = M m) : TxC M' t E := by
  obtain ⟨a, h1, h2, h3, h4⟩ := h
  have e0 := h2 0 (by decide)
  have e1 := h2 1 (by decide)
  have e2 := h2 2 (by decide)
  refine ⟨a, fun j hj => (hf _ (by omega)).trans (h1 j hj), h2, h3, fun q hq nm => ?_⟩
  rw [← h4 q hq nm]
  refine rnF_congr (b := 160) (fun i hi => hf _ (by omega)) _ _ _ ?_
  rcases (show q = 0 ∨ q = 1 ∨ q = 2 by omega) with rfl | rfl | rfl <;> simp only [Nat.zero_add, Nat.reduceAdd] at * <;> omega
def BV (M : Nat → Int) (n : Nat) (v : Nat → Nat → Int) (nt : Int) (t : Nat) (E : Ev) : Prop := (M 2001 = (n : Int) ∧ n ≤ 8) ∧ (∀ q, q < n → ∀ f, f < 5 → M (1000 * (4 + q) + f) = v q f) ∧ PI v n ∧ (M 2002 = nt ∧ 0 ≤ nt ∧ nt ≤ 999) ∧ (M 2004 = (t : Int) ∧ t < 6) ∧ TxC M t E
def scr (m : Nat) : Prop := m / 1000 = 1 ∨ m / 1000 = 27 ∨ m / 1000 = 28 ∨ (34 ≤ m / 1000 ∧ m / 1000 ≤ 48)
theorem BV.fr {M M' : Nat → Int} {n : Nat} {v : Nat → Nat → Int} {nt : Int} {t : Nat} {E : Ev} (h : BV M n v nt t E) (hf : ∀ m, ¬ scr m → M' m = M m) : BV M' n v nt t E := by
  obtain ⟨⟨h1, h2⟩, h3, h4, ⟨h5, h6⟩, ⟨h7, h8⟩, h9⟩ := h
  exact ⟨⟨(hf _ (by unfold scr; omega)).trans h1, h2⟩, fun q hq f hf' => (hf _ (by unfold scr; omega)).trans (h3 q hq f hf'), h4, ⟨(hf _ (by unfold scr; omega)).trans h5, h6⟩, ⟨(hf _ (by unfold scr; omega)).trans h7, h8⟩, h9.fr (fun m hm => hf m (by unfold scr; omega))⟩
set_option maxHeartbeats 4000000 in
set_option maxRecDepth 100000 in
theorem c_X2_seeWhoIsPresent (l : Launch) (g : Gm) (M : Nat → Int) (hF : LvF g) (n : Nat) (v : Nat → Nat → Int) (nt : Int) (t : Nat) (E : Ev) (hB : BV M n v nt t E) (ho : Int) (hho : rg ho) (h : Nat) (hh : h < 6) : CV l ({ cls := "RatedBySighs$Evening", name := "seeWhoIsPresent", desc := "(II)V" } : Jvm.MethodName) cX2_seeWhoIsPresent 5 (rmm 1 21) g M [.ref (gA g 1), .int (II ho), .int (II (h : Int))] (fun M' => (M' 1006 = presS v ho h n ∧ M' 1007 = foolP v ho h n) ∧ (∀ m, ¬ (m = 1006 ∨ m = 1007) → M' m = M m)) := by
  refine c_start (by decide) (Nat.le_of_ble_eq_true rfl) (fun p e s m below meth c ls C hr hlk hml hw hS hl => ?_)
  have hl : lv_has ls 5 [(0, .ref (gA g 1)), (1, .int (II ho)), (2, .int (II (h : Int)))] := hl
  generalize hQQ : MQ below (postV g (fun M' => (M' 1006 = presS v ho h n ∧ M' 1007 = foolP v ho h n) ∧ (∀ m, ¬ (m = 1006 ∨ m = 1007) → M' m = M m))) ([.ref (gA g 1), .int (II ho), .int (II (h : Int))] : List Value).toArray s 0 0 (ar g) = QQ
  have g_M := hw.rg
  have hN : gN g = 84 := hF.1
  obtain ⟨⟨hn1, hn2⟩, hBv, hPI, hBnt, hBt, hTx⟩ := id hB
  refine lv_aload_n C.1 C.2.1 dX2_seeWhoIsPresent_0 rfl (lv_at hl 0 rfl) ?_
  refine lv_iconst (v := II 0) C.1 C.2.1 dX2_seeWhoIsPresent_1 rfl ?_
  refine p2 C hw hS 1 (by omega) rfl 6 (by decide) mw_432 rfl (x := 0) ⟨by decide, by decide⟩ (svi st_s) (tyX2_ok 6 (by decide)) rfl rfl dX2_seeWhoIsPresent_2 (fun H locs hw hS => ?_)
  have hw : Wo g (stM M 1006 0) H := hw
  refine lv_aload_n C.1 C.2.1 dX2_seeWhoIsPresent_5 rfl (lv_at hl 0 rfl) ?_
  refine lv_iconst (v := II 0) C.1 C.2.1 dX2_seeWhoIsPresent_6 rfl ?_
  refine p2 C hw hS 1 (by omega) rfl 7 (by decide) mw_433 rfl (x := 0) ⟨by decide, by decide⟩ (svi st_s) (tyX2_ok 7 (by decide)) rfl rfl dX2_seeWhoIsPresent_7 (fun H locs hw hS => ?_)
  have hw : Wo g (stM (stM M 1006 0) 1007 0) H := hw
  refine lv_iconst (v := II 0) C.1 C.2.1 dX2_seeWhoIsPresent_10 rfl ?_
  refine lv_istore_n (lv' := [(3, .int (II 0)), (0, .ref (gA g 1)), (1, .int (II ho)), (2, .int (II (h : Int)))]) C.1 C.2.1 dX2_seeWhoIsPresent_11 rfl hl (by decide) rfl (fun ls hl => ?_)
  have L12 : ∀ (f1 : Nat) (i : Nat) (M2 : Nat → Int), (n - i) < f1 → (i ≤ n) → (M2 1006 = presS v ho h i ∧ M2 1007 = foolP v ho h i) → (∀ m, ¬ (m = 1006 ∨ m = 1007) → M2 m = M m) → ∀ (H : Heap) (locs : List Loc) (ls : Array Slot), Wo g M2 H → va_S (ar g) s.heap H locs → lv_has ls 5 [(0, .ref (gA g 1)), (1, .int (II ho)), (2, .int (II (h : Int))), (3, .int (II (i : Int)))] → W p l e (rmm 1 21) s m ([.ref (gA g 1), .int (II ho), .int (II (h : Int))] : List Value).toArray below meth c H locs 0 0 QQ (F0 m 12 ls []) := by
    intro f1
    induction f1 with
    | zero => intro i M2 hmu; exact absurd hmu (Nat.not_lt_zero _)
    | succ f1 ih =>
      intro i M2 hmu h1 h2 h3 H locs ls hw hS hl
      have ih12 := ih
      have g_M2 := hw.rg
      have hB2 : BV M2 n v nt t E := hB.fr (fun m hm => h3 m (by unfold scr at hm; omega))
      have hp1 := cnt_in (fun q => decide (v q 2 = ho) && inH v q h) i
      have hp2 := cnt_in (fun q => (decide (v q 2 = ho) && inH v q h) && decide (v q 0 = 5)) i
      have e1 : M2 1006 = cnt (fun q => decide (v q 2 = ho) && inH v q h) i := h2.1
      have e2 : M2 1007 = cnt (fun q => (decide (v q 2 = ho) && inH v q h) && decide (v q 0 = 5)) i := h2.2
      refine lv_iload_n C.1 C.2.1 dX2_seeWhoIsPresent_12 rfl (lv_at hl 3 rfl) ?_
      refine lv_aload_n C.1 C.2.1 dX2_seeWhoIsPresent_13 rfl (lv_at hl 0 rfl) ?_
      refine g2 C hw 1 (by omega) rfl 0 (by decide) mw_421 (svr (hF.2 _)) dX2_seeWhoIsPresent_14 ?_
      refine gn1 C hw 2 (by omega) rfl 1 (by decide) mn_190 (svi (x := (n : Int)) hB2.1.1) dX2_seeWhoIsPresent_17 ?_
      refine x_icmp_ge (tgt := 91) C ⟨by omega, by omega⟩ ⟨by omega, by omega⟩ dX2_seeWhoIsPresent_20 (by decide) (fun c20 => ?_) (fun c20 => ?_)
      · subst hQQ; exact x_return C hr hlk hw hS ⟨⟨by rw [h2.1, show i = n by omega], by rw [h2.2, show i = n by omega]⟩, h3⟩ dX2_seeWhoIsPresent_91
      · have hq := hPI i (by omega)
        refine lv_aload_n C.1 C.2.1 dX2_seeWhoIsPresent_23 rfl (lv_at hl 0 rfl) ?_
        refine g2 C hw 1 (by omega) rfl 0 (by decide) mw_421 (svr (hF.2 _)) dX2_seeWhoIsPresent_24 ?_
        refine gn1 C hw 2 (by omega) rfl 0 (by decide) mn_188 (svr (hF.2 _)) dX2_seeWhoIsPresent_27 ?_
        refine lv_iload_n C.1 C.2.1 dX2_seeWhoIsPresent_30 rfl (lv_at hl 3 rfl) ?_
        refine x_aaload (L := 8) C hw 3 (by omega) 11 rfl (by decide) rfl (by omega) (by omega) (by decide) (rP hF i (by omega)) dX2_seeWhoIsPresent_31 ?_
        refine lv_astore (lv' := [(4, .ref (gA g (4 + i))), (0, .ref (gA g 1)), (1, .int (II ho)), (2, .int (II (h : Int))), (3, .int (II (i : Int)))]) C.1 C.2.1 dX2_seeWhoIsPresent_32 hl (by decide) rfl (fun ls hl => ?_)
        have J85 : ∀  (M3 : Nat → Int), (M3 1006 = presS v ho h (i + 1) ∧ M3 1007 = foolP v ho h (i + 1)) → (∀ m, ¬ (m = 1006 ∨ m = 1007) → M3 m = M m) → ∀ (H : Heap) (locs : List Loc) (ls : Array Slot), Wo g M3 H → va_S (ar g) s.heap H locs → lv_has ls 5 [(0, .ref (gA g 1)), (1, .int (II ho)), (2, .int (II (h : Int))), (3, .int (II (i : Int))), (4, .ref (gA g (4 + i)))] → W p l e (rmm 1 21) s m ([.ref (gA g 1), .int (II ho), .int (II (h : Int))] : List Value).toArray below meth c H locs 0 0 QQ (F0 m 85 ls []) := by
          intro  M3 h4 hfr H locs ls hw hS hl
          have g_M3 := hw.rg
          refine lv_iinc (v := II ((i : Int) + 1)) (lv' := [(3, .int (II ((i : Int) + 1))), (0, .ref (gA g 1)), (1, .int (II ho)), (2, .int (II (h : Int))), (4, .ref (gA g (4 + i)))]) C.1 C.2.1 dX2_seeWhoIsPresent_85 hl (k := 3) rfl (II_add _ _) (by decide) rfl (fun ls hl => ?_)
          refine lv_goto (tgt := 12) C.1 C.2.1 dX2_seeWhoIsPresent_88 (by decide) ?_
          exact ih12  (i + 1) M3 (by omega) (by omega) h4 hfr _ _ _ hw hS (lv_sub hl [1, 2, 3, 0] rfl)
        refine lv_aload C.1 C.2.1 dX2_seeWhoIsPresent_34 (lv_at hl 0 rfl) ?_
        refine gn3 C hw (4 + i) (by omega) (kd_p (by omega)) 2 (by decide) mn_168 (svi (x := v i 2) (hB2.2.1 i (by omega) 2 (by decide))) dX2_seeWhoIsPresent_36 ?_
        refine lv_iload_n C.1 C.2.1 dX2_seeWhoIsPresent_39 rfl (lv_at hl 2 rfl) ?_
        refine x_icmp_ne (tgt := 85) C ⟨by omega, by omega⟩ hho dX2_seeWhoIsPresent_40 (by decide) (fun c40 => ?_) (fun c40 => ?_)
        · exact J85 M2 ⟨cnt0 e1 (by first | (simp [c40]; done) | (simp [inH, ← hB2.2.1 i (by omega) 4 (by decide), h46b]; done)), cnt0 e2 (by first | (simp [c40]; done) | (simp [inH, ← hB2.2.1 i (by omega) 4 (by decide), h46b]; done))⟩ h3 _ _ _ hw hS (lv_sub hl [1, 2, 3, 4, 0] rfl)
        · refine lv_aload C.1 C.2.1 dX2_seeWhoIsPresent_43 (lv_at hl 0 rfl) ?_
          refine lv_iload_n C.1 C.2.1 dX2_seeWhoIsPresent_45 rfl (lv_at hl 3 rfl) ?_
          refine x_ci (x_runVN (n := 1) C hw hS hml hl.1 (4 + i) 3 (by omega) (kd_p (by omega)) (by decide) rfl (c_X3_isOut l g M2 (4 + i) (by omega) (kd_p (by omega)) h (by first | assumption | omega | exact ⟨by omega, by omega⟩ | decide) (by rw [hB2.2.1 i (by omega) 4 (by decide)]; omega)) mn_561 mw_563 mw_23 mw_120 mw_564 rfl rfl (by decide +kernel) ⟨Nat.le_of_ble_eq_true rfl, Nat.le_of_ble_eq_true rfl⟩ rfl rfl (Nat.le_of_ble_eq_true rfl) dX2_seeWhoIsPresent_46 ⟨Nat.zero_le _, Nat.zero_le _⟩) hS (fun r46 M46 H locs hr46 hp hw hS => ?_)
          rcases hp with ⟨em46, (⟨er46, h46b⟩ | ⟨er46, h46b⟩)⟩
          · have hw : Wo g M2 H := em46 ▸ hw
            rw [er46]
            refine x_if_ne (tgt := 85) C ⟨by decide, by decide⟩ dX2_seeWhoIsPresent_49 (by decide) (fun _ => ?_) (fun h => absurd h (by decide))
            exact J85 M2 ⟨cnt0 e1 (by first | (simp [c40]; done) | (simp [inH, ← hB2.2.1 i (by omega) 4 (by decide), h46b]; done)), cnt0 e2 (by first | (simp [c40]; done) | (simp [inH, ← hB2.2.1 i (by omega) 4 (by decide), h46b]; done))⟩ h3 _ _ _ hw hS (lv_sub hl [1, 2, 3, 4, 0] rfl)
          · have hw : Wo g M2 H := em46 ▸ hw
            rw [er46]
            refine x_if_ne (tgt := 85) C ⟨by decide, by decide⟩ dX2_seeWhoIsPresent_49 (by decide) (fun h => absurd h (by decide)) (fun _ => ?_)
            refine lv_aload_n C.1 C.2.1 dX2_seeWhoIsPresent_52 rfl (lv_at hl 1 rfl) ?_
            refine lv_dup C.1 C.2.1 dX2_seeWhoIsPresent_53 rfl ?_
            refine g2 C hw 1 (by omega) rfl 6 (by decide) mw_432 (svi (x := M2 1006) rfl) dX2_seeWhoIsPresent_54 ?_
            refine lv_iconst (v := II 1) C.1 C.2.1 dX2_seeWhoIsPresent_57 rfl ?_
            refine x_iadd C dX2_seeWhoIsPresent_58 ?_
            refine p2 C hw hS 1 (by omega) rfl 6 (by decide) mw_432 rfl (x := (M2 1006) + 1) ⟨by have := g_M2 1006; omega, by have := g_M2 1006; omega⟩ (svi st_s) (tyX2_ok 6 (by decide)) rfl rfl dX2_seeWhoIsPresent_59 (fun H locs hw hS => ?_)
            have hw : Wo g (stM M2 1006 ((M2 1006) + 1)) H := hw
            refine lv_aload_n C.1 C.2.1 dX2_seeWhoIsPresent_62 rfl (lv_at hl 1 rfl) ?_
            refine lv_dup C.1 C.2.1 dX2_seeWhoIsPresent_63 rfl ?_
            refine g2 C hw 1 (by omega) rfl 7 (by decide) mw_433 (svi (x := M2 1007) (st_n (by decide))) dX2_seeWhoIsPresent_64 ?_
            have J81 : ∀ (z : Int), (z = (if v i 0 = 5 then 1 else 0)) → ∀ (H : Heap) (locs : List Loc) (ls : Array Slot), Wo g (stM M2 1006 ((M2 1006) + 1)) H → va_S (ar g) s.heap H locs → lv_has ls 5 [(0, .ref (gA g 1)), (1, .int (II ho)), (2, .int (II (h : Int))), (3, .int (II (i : Int))), (4, .ref (gA g (4 + i)))] → W p l e (rmm 1 21) s m ([.ref (gA g 1), .int (II ho), .int (II (h : Int))] : List Value).toArray below meth c H locs 0 0 QQ (F0 m 81 ls [.int (II z), .int (II (M2 1007)), .ref (gA g 1)]) := by
              intro z hz H locs ls hw hS hl
              have hz01 : z = 0 ∨ z = 1 := by rw [hz]; split <;> omega
              refine x_iadd C dX2_seeWhoIsPresent_81 ?_
              refine p2 C hw hS 1 (by omega) rfl 7 (by decide) mw_433 rfl (x := (M2 1007) + z) ⟨by have := g_M2 1007; omega, by have := g_M2 1007; omega⟩ (svi st_s) (tyX2_ok 7 (by decide)) rfl rfl dX2_seeWhoIsPresent_82 (fun H locs hw hS => ?_)
              have hw : Wo g (stM (stM M2 1006 ((M2 1006) + 1)) 1007 ((M2 1007) + z)) H := hw
              exact J85 (stM (stM M2 1006 ((M2 1006) + 1)) 1007 ((M2 1007) + z)) ⟨(st_n (by decide)).trans (st_s.trans (cnt1 e1 (by simp [c40, inH, ← hB2.2.1 i (by omega) 4 (by decide), h46b]))), st_s.trans (cnt2 e2 (by rw [hz]; simp [c40, inH, ← hB2.2.1 i (by omega) 4 (by decide), h46b]))⟩ (stF (stF h3 (by omega)) (by omega)) _ _ _ hw hS (lv_sub hl [0, 1, 2, 3, 4] rfl)
            refine lv_aload C.1 C.2.1 dX2_seeWhoIsPresent_67 (lv_at hl 0 rfl) ?_
            refine gn3 C hw (4 + i) (by omega) (kd_p (by omega)) 0 (by decide) mn_162 (svi (x := v i 0) ((st_n (by omega)).trans (hB2.2.1 i (by omega) 0 (by decide)))) dX2_seeWhoIsPresent_69 ?_
            refine lv_iconst (v := II 5) C.1 C.2.1 dX2_seeWhoIsPresent_72 rfl ?_
            refine x_icmp_ne (tgt := 80) C ⟨by omega, by omega⟩ ⟨by decide, by decide⟩ dX2_seeWhoIsPresent_73 (by decide) (fun c73 => ?_) (fun c73 => ?_)
            · refine lv_iconst (v := II 0) C.1 C.2.1 dX2_seeWhoIsPresent_80 rfl ?_
              exact J81 0 (by first | rw [if_pos (by omega)] | rw [if_neg (by omega)]) _ _ _ hw hS (lv_sub hl [1, 2, 3, 4, 0] rfl)
            · refine lv_iconst (v := II 1) C.1 C.2.1 dX2_seeWhoIsPresent_76 rfl ?_
              refine lv_goto (tgt := 81) C.1 C.2.1 dX2_seeWhoIsPresent_77 (by decide) ?_
              exact J81 1 (by first | rw [if_pos (by omega)] | rw [if_neg (by omega)]) _ _ _ hw hS (lv_sub hl [1, 2, 3, 4, 0] rfl)
  exact L12 _ 0 (stM (stM M 1006 0) 1007 0) (Nat.lt_succ_self _) (by omega) ⟨(st_n (by decide)).trans st_s, st_s⟩ (stF (stF (fun _ _ => rfl) (by omega)) (by omega)) _ _ _ hw hS (lv_sub hl [1, 2, 3, 0] rfl)
