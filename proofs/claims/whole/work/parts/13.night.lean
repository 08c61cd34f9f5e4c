/-! A NIGHT: n people, v q f: of one q kind 0, number 1, house 2, mood 3, out 4; nt the night; E: what the rule's parts say -/
abbrev Ev : Type := Nat → Int → Int → Int → Int → Int → Int → Int
def exB (k num nt : Int) : Bool := decide (k = 5) || ((decide (k = 1) || decide (k = 3)) && decide (4 < num)) || (decide (k = 3) && decide (nt % 2 = 1))
theorem exB_t {k num nt : Int} (h : exK k num nt) : exB k num nt = true := by
  unfold exK at h; unfold exB
  rcases h with h | ⟨h | h, h2⟩ | ⟨h, h2⟩
  · simp [h]
  · simp [h, h2]
  · simp [h, h2]
  · simp [h, h2]
theorem exB_f {k num nt : Int} (h : ¬ exK k num nt) : exB k num nt = false := by
  unfold exK at h; unfold exB
  cases hb : (decide (k = 5) || ((decide (k = 1) || decide (k = 3)) && decide (4 < num)) || (decide (k = 3) && decide (nt % 2 = 1))) with
  | false => rfl
  | true =>
    simp only [Bool.or_eq_true, Bool.and_eq_true, decide_eq_true_eq] at hb
    exfalso
    omega
def inH (v : Nat → Nat → Int) (q h : Nat) : Bool := decide (bitv (v q 4) h = 0)
def othr (v : Nat → Nat → Int) (n p h : Nat) : Int := cnt (fun q => decide (q ≠ p) && (decide (v q 2 = v p 2) && inH v q h)) n
def fool (v : Nat → Nat → Int) (n p h : Nat) : Int := cnt (fun q => decide (q ≠ p) && ((decide (v q 2 = v p 2) && inH v q h) && decide (v q 0 = 5))) n
def swayA (v : Nat → Nat → Int) (n : Nat) (E : Ev) (p h : Nat) (mo : Int) : Int := if inH v p h then swayK (v p 0) (v p 1) (bnd (E 1 mo h (v p 1) (othr v n p h) (v p 2) (fool v n p h)) (-9) 9) (fool v n p h) else 1
def moodA (v : Nat → Nat → Int) (n : Nat) (E : Ev) (p : Nat) : Nat → Int
  | 0 => v p 3
  | h + 1 => bnd (moodA v n E p h + swayA v n E p h (moodA v n E p h)) (-20) 20
def sighA (v : Nat → Nat → Int) (n : Nat) (nt : Int) (E : Ev) (p h : Nat) : Int := if inH v p h then sighK (v p 0) (v p 1) nt (bnd (E 0 (moodA v n E p h) h (v p 1) (othr v n p h) (v p 2) (fool v n p h)) 0 99) (moodA v n E p h) else 0
def sm (f : Nat → Int) : Nat → Int
  | 0 => 0
  | k + 1 => sm f k + f k
def reed1 (v : Nat → Nat → Int) (n : Nat) (nt : Int) (E : Ev) (ho : Int) (h q : Nat) : Int := if v q 2 = ho then sighA v n nt E q h else 0
def reedS (v : Nat → Nat → Int) (n : Nat) (nt : Int) (E : Ev) (ho : Int) (h : Nat) : Int := sm (reed1 v n nt E ho h) n
def pay1 (v : Nat → Nat → Int) (n : Nat) (nt : Int) (E : Ev) (ho : Int) (h q : Nat) : Int := if v q 2 = ho then (if exB (v q 0) (v q 1) nt then 0 else sighA v n nt E q h) else 0
def payS (v : Nat → Nat → Int) (n : Nat) (nt : Int) (E : Ev) (ho : Int) (h : Nat) : Int := sm (pay1 v n nt E ho h) n
def livS (v : Nat → Nat → Int) (n : Nat) (ho : Int) : Int := cnt (fun q => decide (v q 2 = ho)) n
def dueS (v : Nat → Nat → Int) (n : Nat) (nt : Int) (E : Ev) (ho : Int) : Int := bnd (E 2 (sm (payS v n nt E ho) 6) 6 0 (livS v n ho) ho 0) 0 9999
def allS (v : Nat → Nat → Int) (n : Nat) (nt : Int) (E : Ev) : Int := sm (fun k => dueS v n nt E (k : Int)) 5
def presS (v : Nat → Nat → Int) (ho : Int) (h n : Nat) : Int := cnt (fun q => decide (v q 2 = ho) && inH v q h) n
def foolP (v : Nat → Nat → Int) (ho : Int) (h n : Nat) : Int := cnt (fun q => (decide (v q 2 = ho) && inH v q h) && decide (v q 0 = 5)) n
def PI (v : Nat → Nat → Int) (n : Nat) : Prop := ∀ q, q < n → (0 ≤ v q 0 ∧ v q 0 ≤ 5) ∧ (0 ≤ v q 1 ∧ v q 1 ≤ 9) ∧ (-1 ≤ v q 2 ∧ v q 2 ≤ 4) ∧ (-20 ≤ v q 3 ∧ v q 3 ≤ 20) ∧ (0 ≤ v q 4 ∧ v q 4 ≤ 63)
theorem sm_in {f : Nat → Int} {B : Int} (h : ∀ q, 0 ≤ f q ∧ f q ≤ B) : ∀ n : Nat, 0 ≤ sm f n ∧ sm f n ≤ B * n
  | 0 => by simp [sm]
  | n + 1 => by
    have h1 := sm_in h n
    have h2 := h n
    have e : B * ((n + 1 : Nat) : Int) = B * n + B := by rw [Int.natCast_succ, Int.mul_add, Int.mul_one]
    rw [sm, e]
    omega
theorem sighK_in {k num nt x mo : Int} (h : 0 ≤ x ∧ x ≤ 99) : 0 ≤ sighK k num nt x mo ∧ sighK k num nt x mo ≤ 297 := by
  unfold sighK wsK
  (repeat' split) <;> omega
theorem sighA_in (v : Nat → Nat → Int) (n : Nat) (nt : Int) (E : Ev) (p h : Nat) : 0 ≤ sighA v n nt E p h ∧ sighA v n nt E p h ≤ 297 := by
  unfold sighA
  split
  · exact sighK_in (bnd_in (by decide))
  · omega
theorem reed1_in (v : Nat → Nat → Int) (n : Nat) (nt : Int) (E : Ev) (ho : Int) (h q : Nat) : 0 ≤ reed1 v n nt E ho h q ∧ reed1 v n nt E ho h q ≤ 297 := by
  have := sighA_in v n nt E q h
  unfold reed1; split <;> omega
theorem pay1_in (v : Nat → Nat → Int) (n : Nat) (nt : Int) (E : Ev) (ho : Int) (h q : Nat) : 0 ≤ pay1 v n nt E ho h q ∧ pay1 v n nt E ho h q ≤ 297 := by
  have := sighA_in v n nt E q h
  unfold pay1; (repeat' split) <;> omega
theorem moodA_in {v : Nat → Nat → Int} {n : Nat} {E : Ev} {p : Nat} (h : PI v n) (hp : p < n) (k : Nat) : -20 ≤ moodA v n E p k ∧ moodA v n E p k ≤ 20 := by
  cases k with
  | zero => exact (h p hp).2.2.2.1
  | succ k => exact bnd_in (by decide)
theorem cnt_pt {P : Nat → Bool} {n p : Nat} (hp : p < n) (h : P p = true) : cnt (fun q => decide (q ≠ p) && P q) n = cnt P n - 1 := by
  induction n with
  | zero => omega
  | succ n ih =>
    by_cases e : n = p
    · subst e
      have e2 : ∀ m : Nat, m ≤ n → cnt (fun q => decide (q ≠ n) && P q) m = cnt P m := by
        intro m
        induction m with
        | zero => intro _; rfl
        | succ m ihm =>
          intro hm
          rw [cnt, cnt, ihm (by omega)]
          have : decide (m ≠ n) = true := decide_eq_true (by omega)
          rw [this, Bool.true_and]
      rw [cnt, cnt, e2 n (Nat.le_refl _), h]
      simp
    · rw [cnt, cnt, ih (by omega)]
      have : decide (n ≠ p) = true := decide_eq_true e
      rw [this, Bool.true_and]
      omega
theorem cnt_pf {P : Nat → Bool} {n p : Nat} (h : P p = false) : cnt (fun q => decide (q ≠ p) && P q) n = cnt P n := by
  induction n with
  | zero => rfl
  | succ n ih =>
    rw [cnt, cnt, ih]
    by_cases e : n = p
    · subst e; rw [h]; simp
    · have : decide (n ≠ p) = true := decide_eq_true e
      rw [this, Bool.true_and]
theorem cnt0 {x : Int} {P : Nat → Bool} {i : Nat} (h : x = cnt P i) (hP : P i = false) : x = cnt P (i + 1) := h.trans (cnt_f hP)
theorem cnt1 {x : Int} {P : Nat → Bool} {i : Nat} (h : x = cnt P i) (hP : P i = true) : x + 1 = cnt P (i + 1) := by rw [h]; exact cnt_t hP
theorem cnt2 {x z : Int} {P : Nat → Bool} {i : Nat} (h : x = cnt P i) (hz : z = if P i = true then 1 else 0) : x + z = cnt P (i + 1) := by rw [h, hz]; rfl
/-- a text's code and starts, and what its parts say -/
def TxC (M : Nat → Int) (t : Nat) (E : Ev) : Prop := ∃ a : Nat → Nat, (∀ j, j < 4 → M (1000 * (21 + t) + j) = (a j : Int)) ∧ (∀ j, j < 3 → a j ≤ a (j + 1)) ∧ a 3 ≤ 160 ∧ ∀ q, q < 3 → ∀ nm : Nat → Int, rnF (fun i => M (1000 * (14 + t) + i)) nm (a (q + 1) - a q) (a q) [] = some [E q (nm 0) (nm 1) (nm 2) (nm 3) (nm 4) (nm 5)]
theorem rnF_congr {c1 c2 nm : Nat → Int} {b : Nat} (h : ∀ i, i < b → c1 i = c2 i) : ∀ (k a : Nat) (S : List Int), a + k ≤ b → rnF c1 nm k a S = rnF c2 nm k a S
  | 0, _, _, _ => rfl
  | k + 1, a, S, hk => by
    rw [rnF, rnF, h a (by omega)]
    cases stepW nm (c2 a) S with
    | none => rfl
    | some S' => exact rnF_congr h k (a + 1) S' (by omega)
theorem TxC.fr {M M' : Nat → Int} {t : Nat} {E : Ev} (h : TxC M t E) (hf : ∀ m, m / 1000 = 14 + t ∨ m / 1000 = 21 + t → M' m = M m) : TxC M' t E := by
  obtain ⟨a, h1, h2, h3, h4⟩ := h
  have e0 := h2 0 (by decide)
  have e1 := h2 1 (by decide)
  have e2 := h2 2 (by decide)
  refine ⟨a, fun j hj => (hf _ (by omega)).trans (h1 j hj), h2, h3, fun q hq nm => ?_⟩
  rw [← h4 q hq nm]
  refine rnF_congr (b := 160) (fun i hi => hf _ (by omega)) _ _ _ ?_
  rcases (show q = 0 ∨ q = 1 ∨ q = 2 by omega) with rfl | rfl | rfl <;> simp only [Nat.zero_add, Nat.reduceAdd] at * <;> omega
def BV (M : Nat → Int) (n : Nat) (v : Nat → Nat → Int) (nt : Int) (t : Nat) (E : Ev) : Prop := (M 2001 = (n : Int) ∧ n ≤ 8) ∧ (∀ q, q < n → ∀ f, f < 5 → M (1000 * (4 + q) + f) = v q f) ∧ PI v n ∧ (M 2002 = nt ∧ 0 ≤ nt ∧ nt ≤ 999) ∧ (M 2004 = (t : Int) ∧ t < 6) ∧ TxC M t E
def scr (m : Nat) : Prop := m / 1000 = 1 ∨ m / 1000 = 27 ∨ m / 1000 = 28 ∨ (30 ≤ m / 1000 ∧ m / 1000 ≤ 44)
theorem BV.fr {M M' : Nat → Int} {n : Nat} {v : Nat → Nat → Int} {nt : Int} {t : Nat} {E : Ev} (h : BV M n v nt t E) (hf : ∀ m, ¬ scr m → M' m = M m) : BV M' n v nt t E := by
  obtain ⟨⟨h1, h2⟩, h3, h4, ⟨h5, h6⟩, ⟨h7, h8⟩, h9⟩ := h
  exact ⟨⟨(hf _ (by unfold scr; omega)).trans h1, h2⟩, fun q hq f hf' => (hf _ (by unfold scr; omega)).trans (h3 q hq f hf'), h4, ⟨(hf _ (by unfold scr; omega)).trans h5, h6⟩, ⟨(hf _ (by unfold scr; omega)).trans h7, h8⟩, h9.fr (fun m hm => hf m (by unfold scr; omega))⟩
set_option maxHeartbeats 4000000 in
set_option maxRecDepth 100000 in
theorem c_X2_seeWhoIsPresent (l : Launch) (g : Gm) (M : Nat → Int) (hF : LvF g) (n : Nat) (v : Nat → Nat → Int) (nt : Int) (t : Nat) (E : Ev) (hB : BV M n v nt t E) (ho : Int) (hho : rg ho) (h : Nat) (hh : h < 6) : CV l ({ cls := "RatedBySighs$Evening", name := "seeWhoIsPresent", desc := "(II)V" } : Jvm.MethodName) cX2_seeWhoIsPresent 5 (rmm 1 21) g M [.ref (gA g 1), .int (II ho), .int (II (h : Int))] (fun M' => (M' 1006 = presS v ho h n ∧ M' 1007 = foolP v ho h n) ∧ (∀ m, ¬ (m = 1006 ∨ m = 1007) → M' m = M m)) := by
  refine c_start (by decide) (Nat.le_of_ble_eq_true rfl) (fun p e s m below meth c ls C hr hlk hml hw hS hl => ?_)
  have hl : lv_has ls 5 [(0, .ref (gA g 1)), (1, .int (II ho)), (2, .int (II (h : Int)))] := hl
  generalize ([.ref (gA g 1), .int (II ho), .int (II (h : Int))] : List Value).toArray = args at C ⊢
  generalize hQQ : MQ below (postV g (fun M' => (M' 1006 = presS v ho h n ∧ M' 1007 = foolP v ho h n) ∧ (∀ m, ¬ (m = 1006 ∨ m = 1007) → M' m = M m))) args s 0 0 (ar g) = QQ
  have g_M := hw.rg
  have hN : gN g = 84 := hF.1
  obtain ⟨⟨hn1, hn2⟩, hBv, hPI, hBnt, hBt, hTx⟩ := id hB
  refine lv_aload_n C.1 C.2.1 dX2_seeWhoIsPresent_0 rfl (lv_at hl 0 rfl) ?_
  refine lv_iconst (v := II 0) C.1 C.2.1 dX2_seeWhoIsPresent_1 rfl ?_
  refine p2 C hw hS 1 (by omega) rfl 6 (by decide) mw_249 rfl (x := 0) ⟨by decide, by decide⟩ (svi st_s) (tyX2_ok 6 (by decide)) rfl rfl dX2_seeWhoIsPresent_2 (fun H locs hw hS => ?_)
  have hw : Wo g (stM M 1006 0) H := hw
  refine lv_aload_n C.1 C.2.1 dX2_seeWhoIsPresent_5 rfl (lv_at hl 0 rfl) ?_
  refine lv_iconst (v := II 0) C.1 C.2.1 dX2_seeWhoIsPresent_6 rfl ?_
  refine p2 C hw hS 1 (by omega) rfl 7 (by decide) mw_250 rfl (x := 0) ⟨by decide, by decide⟩ (svi st_s) (tyX2_ok 7 (by decide)) rfl rfl dX2_seeWhoIsPresent_7 (fun H locs hw hS => ?_)
  have hw : Wo g (stM (stM M 1006 0) 1007 0) H := hw
  refine lv_iconst (v := II 0) C.1 C.2.1 dX2_seeWhoIsPresent_10 rfl ?_
  refine lv_istore_n (lv' := [(3, .int (II 0)), (0, .ref (gA g 1)), (1, .int (II ho)), (2, .int (II (h : Int)))]) C.1 C.2.1 dX2_seeWhoIsPresent_11 rfl hl (by decide) rfl (fun ls hl => ?_)
  have L12 : ∀ (f1 : Nat) (i : Nat) (M2 : Nat → Int), (n - i) < f1 → (i ≤ n) → (M2 1006 = presS v ho h i ∧ M2 1007 = foolP v ho h i) → (∀ m, ¬ (m = 1006 ∨ m = 1007) → M2 m = M m) → ∀ (H : Heap) (locs : List Loc) (ls : Array Slot), Wo g M2 H → va_S (ar g) s.heap H locs → lv_has ls 5 [(0, .ref (gA g 1)), (1, .int (II ho)), (2, .int (II (h : Int))), (3, .int (II (i : Int)))] → W p l e (rmm 1 21) s m args below meth c H locs 0 0 QQ (F0 m 12 ls []) := by
    intro f1
    induction f1 with
    | zero => intro i M2 hmu; exact absurd hmu (Nat.not_lt_zero _)
    | succ f1 ih =>
      intro i M2 hmu h1 h2 h3 H locs ls hw hS hl
      have ih12 := ih
      have g_M2 := hw.rg
      have hB2 : BV M2 n v nt t E := hB.fr (fun m hm => h3 m (by unfold scr at hm; omega))
      have hp1 := cnt_in (fun q => decide (v q 2 = ho) && inH v q h) i
      have hp2 := cnt_in (fun q => (decide (v q 2 = ho) && inH v q h) && decide (v q 0 = 5)) i
      have e1 : M2 1006 = cnt (fun q => decide (v q 2 = ho) && inH v q h) i := h2.1
      have e2 : M2 1007 = cnt (fun q => (decide (v q 2 = ho) && inH v q h) && decide (v q 0 = 5)) i := h2.2
      refine lv_iload_n C.1 C.2.1 dX2_seeWhoIsPresent_12 rfl (lv_at hl 3 rfl) ?_
      refine lv_aload_n C.1 C.2.1 dX2_seeWhoIsPresent_13 rfl (lv_at hl 0 rfl) ?_
      refine g2 C hw 1 (by omega) rfl 0 (by decide) mw_238 (svr (hF.2 _)) dX2_seeWhoIsPresent_14 ?_
      refine gn1 C hw 2 (by omega) rfl 1 (by decide) mn_190 (svi (x := (n : Int)) hB2.1.1) dX2_seeWhoIsPresent_17 ?_
      refine x_icmp_ge (tgt := 91) C ⟨by omega, by omega⟩ ⟨by have := g_M2 2001; have := hB2.1.1; omega, by have := g_M2 2001; have := hB2.1.1; omega⟩ dX2_seeWhoIsPresent_20 (by decide) (fun c20 => ?_) (fun c20 => ?_)
      · subst hQQ; exact x_return C hr hlk hw hS ⟨⟨by rw [h2.1, show i = n by omega], by rw [h2.2, show i = n by omega]⟩, h3⟩ dX2_seeWhoIsPresent_91
      · have hq := hPI i (by omega)
        refine lv_aload_n C.1 C.2.1 dX2_seeWhoIsPresent_23 rfl (lv_at hl 0 rfl) ?_
        refine g2 C hw 1 (by omega) rfl 0 (by decide) mw_238 (svr (hF.2 _)) dX2_seeWhoIsPresent_24 ?_
        refine gn1 C hw 2 (by omega) rfl 0 (by decide) mn_188 (svr (hF.2 _)) dX2_seeWhoIsPresent_27 ?_
        refine lv_iload_n C.1 C.2.1 dX2_seeWhoIsPresent_30 rfl (lv_at hl 3 rfl) ?_
        refine x_aaload (L := 8) C hw 3 (by omega) 11 rfl (by decide) rfl (by omega) (by omega) (by decide) (rP hF i (by omega)) dX2_seeWhoIsPresent_31 ?_
        refine lv_astore (lv' := [(4, .ref (gA g (4 + i))), (0, .ref (gA g 1)), (1, .int (II ho)), (2, .int (II (h : Int))), (3, .int (II (i : Int)))]) C.1 C.2.1 dX2_seeWhoIsPresent_32 hl (by decide) rfl (fun ls hl => ?_)
        have J85 : ∀  (M3 : Nat → Int), (M3 1006 = presS v ho h (i + 1) ∧ M3 1007 = foolP v ho h (i + 1)) → (∀ m, ¬ (m = 1006 ∨ m = 1007) → M3 m = M m) → ∀ (H : Heap) (locs : List Loc) (ls : Array Slot), Wo g M3 H → va_S (ar g) s.heap H locs → lv_has ls 5 [(0, .ref (gA g 1)), (1, .int (II ho)), (2, .int (II (h : Int))), (3, .int (II (i : Int))), (4, .ref (gA g (4 + i)))] → W p l e (rmm 1 21) s m args below meth c H locs 0 0 QQ (F0 m 85 ls []) := by
          intro  M3 h4 hfr H locs ls hw hS hl
          have g_M3 := hw.rg
          refine lv_iinc (v := II ((i : Int) + 1)) (lv' := [(3, .int (II ((i : Int) + 1))), (0, .ref (gA g 1)), (1, .int (II ho)), (2, .int (II (h : Int))), (4, .ref (gA g (4 + i)))]) C.1 C.2.1 dX2_seeWhoIsPresent_85 hl (k := 3) rfl (II_add _ _) (by decide) rfl (fun ls hl => ?_)
          refine lv_goto (tgt := 12) C.1 C.2.1 dX2_seeWhoIsPresent_88 (by decide) ?_
          exact ih12  (i + 1) M3 (by omega) (by omega) h4 hfr _ _ _ hw hS (lv_sub hl [1, 2, 3, 0] rfl)
        refine lv_aload C.1 C.2.1 dX2_seeWhoIsPresent_34 (lv_at hl 0 rfl) ?_
        refine gn3 C hw (4 + i) (by omega) (kd_p (by omega)) 2 (by decide) mn_168 (svi (x := v i 2) (hB2.2.1 i (by omega) 2 (by decide))) dX2_seeWhoIsPresent_36 ?_
        refine lv_iload_n C.1 C.2.1 dX2_seeWhoIsPresent_39 rfl (lv_at hl 2 rfl) ?_
        refine x_icmp_ne (tgt := 85) C ⟨by have := g_M2 (1000 * (4 + i) + 2); have := (hB2.2.1 i (by omega) 2 (by decide)); omega, by have := g_M2 (1000 * (4 + i) + 2); have := (hB2.2.1 i (by omega) 2 (by decide)); omega⟩ hho dX2_seeWhoIsPresent_40 (by decide) (fun c40 => ?_) (fun c40 => ?_)
        · exact J85 M2 (⟨cnt0 e1 (by first | (simp [c40]; done) | (simp [inH, h46b]; done)), cnt0 e2 (by first | (simp [c40]; done) | (simp [inH, h46b]; done))⟩) h3 _ _ _ hw hS (lv_sub hl [1, 2, 3, 4, 0] rfl)
        · refine lv_aload C.1 C.2.1 dX2_seeWhoIsPresent_43 (lv_at hl 0 rfl) ?_
          refine lv_iload_n C.1 C.2.1 dX2_seeWhoIsPresent_45 rfl (lv_at hl 3 rfl) ?_
          refine x_ci (x_runVN (n := 1) C hw hS hml hl.1 (4 + i) 3 (by omega) (kd_p (by omega)) (by decide) rfl (c_X3_isOut l g M2 (4 + i) (by omega) (kd_p (by omega)) (v i 4) (hB2.2.1 i (by omega) 4 (by decide)) h (by first | assumption | omega | exact ⟨by omega, by omega⟩ | decide) (by first | assumption | omega | exact ⟨by omega, by omega⟩ | decide)) mn_556 mw_558 mw_23 mw_120 mw_559 rfl rfl (by decide +kernel) ⟨Nat.le_of_ble_eq_true rfl, Nat.le_of_ble_eq_true rfl⟩ rfl rfl (Nat.le_of_ble_eq_true rfl) dX2_seeWhoIsPresent_46 ⟨Nat.zero_le _, Nat.zero_le _⟩) hS (fun r46 M46 H locs hr46 hp hw hS => ?_)
          rcases hp with ⟨em46, (⟨er46, h46b⟩ | ⟨er46, h46b⟩)⟩
          · have hw : Wo g M2 H := em46 ▸ hw
            rw [er46]
            refine x_if_ne (tgt := 85) C ⟨by decide, by decide⟩ dX2_seeWhoIsPresent_49 (by decide) (fun _ => ?_) (fun h => absurd h (by decide))
            exact J85 M2 (⟨cnt0 e1 (by first | (simp [c40]; done) | (simp [inH, h46b]; done)), cnt0 e2 (by first | (simp [c40]; done) | (simp [inH, h46b]; done))⟩) h3 _ _ _ hw hS (lv_sub hl [1, 2, 3, 4, 0] rfl)
          · have hw : Wo g M2 H := em46 ▸ hw
            rw [er46]
            refine x_if_ne (tgt := 85) C ⟨by decide, by decide⟩ dX2_seeWhoIsPresent_49 (by decide) (fun h => absurd h (by decide)) (fun _ => ?_)
            refine lv_aload_n C.1 C.2.1 dX2_seeWhoIsPresent_52 rfl (lv_at hl 1 rfl) ?_
            refine lv_dup C.1 C.2.1 dX2_seeWhoIsPresent_53 rfl ?_
            refine g2 C hw 1 (by omega) rfl 6 (by decide) mw_249 (svi (x := M2 1006) rfl) dX2_seeWhoIsPresent_54 ?_
            refine lv_iconst (v := II 1) C.1 C.2.1 dX2_seeWhoIsPresent_57 rfl ?_
            refine x_iadd C dX2_seeWhoIsPresent_58 ?_
            refine p2 C hw hS 1 (by omega) rfl 6 (by decide) mw_249 rfl (x := (M2 1006) + 1) ⟨by have := g_M2 1006; omega, by have := g_M2 1006; omega⟩ (svi st_s) (tyX2_ok 6 (by decide)) rfl rfl dX2_seeWhoIsPresent_59 (fun H locs hw hS => ?_)
            have hw : Wo g (stM M2 1006 ((M2 1006) + 1)) H := hw
            refine lv_aload_n C.1 C.2.1 dX2_seeWhoIsPresent_62 rfl (lv_at hl 1 rfl) ?_
            refine lv_dup C.1 C.2.1 dX2_seeWhoIsPresent_63 rfl ?_
            refine g2 C hw 1 (by omega) rfl 7 (by decide) mw_250 (svi (x := M2 1007) (st_n (by decide))) dX2_seeWhoIsPresent_64 ?_
            have J81 : ∀ (z : Int), (z = (if v i 0 = 5 then 1 else 0)) → ∀ (H : Heap) (locs : List Loc) (ls : Array Slot), Wo g (stM M2 1006 ((M2 1006) + 1)) H → va_S (ar g) s.heap H locs → lv_has ls 5 [(0, .ref (gA g 1)), (1, .int (II ho)), (2, .int (II (h : Int))), (3, .int (II (i : Int))), (4, .ref (gA g (4 + i)))] → W p l e (rmm 1 21) s m args below meth c H locs 0 0 QQ (F0 m 81 ls [.int (II z), .int (II (M2 1007)), .ref (gA g 1)]) := by
              intro z hz H locs ls hw hS hl
              have hz01 : z = 0 ∨ z = 1 := by rw [hz]; split <;> omega
              refine x_iadd C dX2_seeWhoIsPresent_81 ?_
              refine p2 C hw hS 1 (by omega) rfl 7 (by decide) mw_250 rfl (x := (M2 1007) + z) ⟨by have := g_M2 1007; omega, by have := g_M2 1007; omega⟩ (svi st_s) (tyX2_ok 7 (by decide)) rfl rfl dX2_seeWhoIsPresent_82 (fun H locs hw hS => ?_)
              have hw : Wo g (stM (stM M2 1006 ((M2 1006) + 1)) 1007 ((M2 1007) + z)) H := hw
              exact J85 (stM (stM M2 1006 ((M2 1006) + 1)) 1007 ((M2 1007) + z)) (⟨(st_n (by decide)).trans (st_s.trans (cnt1 e1 (by simp [c40, inH, h46b]))), st_s.trans (cnt2 e2 (by rw [hz]; simp [c40, inH, h46b]))⟩) (stF (stF h3 (by omega)) (by omega)) _ _ _ hw hS (lv_sub hl [0, 1, 2, 3, 4] rfl)
            refine lv_aload C.1 C.2.1 dX2_seeWhoIsPresent_67 (lv_at hl 0 rfl) ?_
            refine gn3 C hw (4 + i) (by omega) (kd_p (by omega)) 0 (by decide) mn_162 (svi (x := v i 0) ((st_n (by omega)).trans (hB2.2.1 i (by omega) 0 (by decide)))) dX2_seeWhoIsPresent_69 ?_
            refine lv_iconst (v := II 5) C.1 C.2.1 dX2_seeWhoIsPresent_72 rfl ?_
            refine x_icmp_ne (tgt := 80) C ⟨by omega, by omega⟩ ⟨by decide, by decide⟩ dX2_seeWhoIsPresent_73 (by decide) (fun c73 => ?_) (fun c73 => ?_)
            · refine lv_iconst (v := II 0) C.1 C.2.1 dX2_seeWhoIsPresent_80 rfl ?_
              exact J81 0 (by first | rw [if_pos (by omega)] | rw [if_neg (by omega)]) _ _ _ hw hS (lv_sub hl [1, 2, 3, 4, 0] rfl)
            · refine lv_iconst (v := II 1) C.1 C.2.1 dX2_seeWhoIsPresent_76 rfl ?_
              refine lv_goto (tgt := 81) C.1 C.2.1 dX2_seeWhoIsPresent_77 (by decide) ?_
              exact J81 1 (by first | rw [if_pos (by omega)] | rw [if_neg (by omega)]) _ _ _ hw hS (lv_sub hl [1, 2, 3, 4, 0] rfl)
  exact L12 _ 0 (stM (stM M 1006 0) 1007 0) (Nat.lt_succ_self _) (by omega) (⟨(st_n (by decide)).trans st_s, st_s⟩) (stF (stF (fun _ _ => rfl) (by omega)) (by omega)) _ _ _ hw hS (lv_sub hl [1, 2, 3, 0] rfl)

theorem c_X6_worthE (l : Launch) (g : Gm) (M : Nat → Int) (hF : LvF g) (t : Nat) (ht : t < 6) (q : Nat) (hq : q < 3) (E : Ev) (hT : TxC M t E) (z0 : Int) (hz0 : M 27000 = z0) (z1 : Int) (hz1 : M 27001 = z1) (z2 : Int) (hz2 : M 27002 = z2) (z3 : Int) (hz3 : M 27003 = z3) (z4 : Int) (hz4 : M 27004 = z4) (z5 : Int) (hz5 : M 27005 = z5) : CI l ({ cls := "RatedBySighs$Texts", name := "worth", desc := "(II)I" } : Jvm.MethodName) cX6_worth 8 .int (rmm 1 22) g M [.ref (gA g 12), .int (II (t : Int)), .int (II (q : Int))] (fun r M' => r = E q z0 z1 z2 z3 z4 z5 ∧ (∀ m, ¬ (m / 1000 = 28) → M' m = M m)) := by
  obtain ⟨a, h1, h2, h3, h4⟩ := hT
  subst hz0 hz1 hz2 hz3 hz4 hz5
  have e0 := h2 0 (by decide)
  have e1 := h2 1 (by decide)
  have e2 := h2 2 (by decide)
  refine c_X6_worth l g M hF t ht q hq (a q) (a (q + 1)) ⟨h1 q (by omega), h1 (q + 1) (by omega), h2 q hq, ?_⟩ _ (h4 q hq (fun k => M (27000 + k)))
  rcases (show q = 0 ∨ q = 1 ∨ q = 2 by omega) with rfl | rfl | rfl <;> simp only [Nat.zero_add, Nat.reduceAdd] at * <;> omega

def ph (h m : Nat) : Prop := m = 1005 ∨ m / 1000 = 27 ∨ m / 1000 = 28 ∨ m / 1000 = 31 + h ∨ m / 1000 = 38 + h ∨ m = 44000 + h
theorem othr_p {v : Nat → Nat → Int} {n p h : Nat} {ho : Int} (hp : p < n) (hh : v p 2 = ho) (hi : inH v p h = true) : presS v ho h n - 1 = othr v n p h := by
  subst hh
  unfold presS othr
  rw [cnt_pt hp (P := fun q => decide (v q 2 = v p 2) && inH v q h) (by simp [hi])]
theorem fool_p {v : Nat → Nat → Int} {n p h : Nat} {ho z : Int} (hp : p < n) (hh : v p 2 = ho) (hi : inH v p h = true) (hz : z = if v p 0 = 5 then 1 else 0) : foolP v ho h n - z = fool v n p h := by
  subst hh
  unfold foolP fool
  by_cases h5 : v p 0 = 5
  · rw [cnt_pt hp (P := fun q => (decide (v q 2 = v p 2) && inH v q h) && decide (v q 0 = 5)) (by simp [hi, h5]), hz, if_pos h5]
  · rw [cnt_pf (P := fun q => (decide (v q 2 = v p 2) && inH v q h) && decide (v q 0 = 5)) (by simp [h5]), hz, if_neg h5]
    omega
theorem fool_in (v : Nat → Nat → Int) (n p h : Nat) : 0 ≤ fool v n p h ∧ fool v n p h ≤ n := cnt_in _ _
theorem swayK_in {k num x f : Int} (h1 : -9 ≤ x ∧ x ≤ 9) (h2 : 0 ≤ f ∧ f ≤ 8) (h3 : 0 ≤ num ∧ num ≤ 9) : -100 ≤ swayK k num x f ∧ swayK k num x f ≤ 100 := by
  unfold swayK
  (repeat' split) <;> omega
theorem swayA_in {v : Nat → Nat → Int} {n : Nat} {E : Ev} {p h : Nat} {mo : Int} (hv : PI v n) (hn : n ≤ 8) (hp : p < n) : -100 ≤ swayA v n E p h mo ∧ swayA v n E p h mo ≤ 100 := by
  unfold swayA
  split
  · have := fool_in v n p h
    exact swayK_in (bnd_in (by decide)) (by omega) (hv p hp).2.1
  · omega
theorem sm_z {f : Nat → Int} {i : Nat} {x : Int} (h : x = sm f i) (h0 : f i = 0) : x = sm f (i + 1) := by rw [sm, h0, h]; omega

set_option maxHeartbeats 4000000 in
set_option maxRecDepth 100000 in
theorem c_X2_passHour (l : Launch) (g : Gm) (M : Nat → Int) (hF : LvF g) (n : Nat) (v : Nat → Nat → Int) (nt : Int) (t : Nat) (E : Ev) (hB : BV M n v nt t E) (ho : Int) (hho : rg ho) (h : Nat) (hh : h < 6) (hpr : M 1006 = presS v ho h n ∧ M 1007 = foolP v ho h n) (hmo : ∀ j, j < n → v j 2 = ho → M (1000 * (30 + h) + j) = moodA v n E j h) (hpb : 0 ≤ M 1005 ∧ M 1005 ≤ 3000 * (h : Int)) : CV l ({ cls := "RatedBySighs$Evening", name := "passHour", desc := "(II)V" } : Jvm.MethodName) cX2_passHour 8 (rmm 2 49) g M [.ref (gA g 1), .int (II ho), .int (II (h : Int))] (fun M' => (∀ j, j < n → v j 2 = ho → M' (1000 * (30 + (h + 1)) + j) = moodA v n E j (h + 1)) ∧ (∀ j, j < n → v j 2 = ho → M' (1000 * (38 + h) + j) = sighA v n nt E j h) ∧ (M' (44000 + h) = reedS v n nt E ho h) ∧ (M' 1005 = M 1005 + payS v n nt E ho h) ∧ (∀ m, ¬ ph h m → M' m = M m)) := by
  refine c_start (by decide) (Nat.le_of_ble_eq_true rfl) (fun p e s m below meth c ls C hr hlk hml hw hS hl => ?_)
  have hl : lv_has ls 8 [(0, .ref (gA g 1)), (1, .int (II ho)), (2, .int (II (h : Int)))] := hl
  generalize ([.ref (gA g 1), .int (II ho), .int (II (h : Int))] : List Value).toArray = args at C ⊢
  generalize hQQ : MQ below (postV g (fun M' => (∀ j, j < n → v j 2 = ho → M' (1000 * (30 + (h + 1)) + j) = moodA v n E j (h + 1)) ∧ (∀ j, j < n → v j 2 = ho → M' (1000 * (38 + h) + j) = sighA v n nt E j h) ∧ (M' (44000 + h) = reedS v n nt E ho h) ∧ (M' 1005 = M 1005 + payS v n nt E ho h) ∧ (∀ m, ¬ ph h m → M' m = M m))) args s 0 0 (ar g) = QQ
  have g_M := hw.rg
  have hN : gN g = 84 := hF.1
  obtain ⟨⟨hn1, hn2⟩, hBv, hPI, hBnt, hBt, hTx⟩ := id hB
  refine lv_aload_n C.1 C.2.1 dX2_passHour_0 rfl (lv_at hl 0 rfl) ?_
  refine g2 C hw 1 (by omega) rfl 4 (by decide) mw_246 (svr (hF.2 _)) dX2_passHour_1 ?_
  refine lv_iload_n C.1 C.2.1 dX2_passHour_4 rfl (lv_at hl 2 rfl) ?_
  refine lv_iconst (v := II 0) C.1 C.2.1 dX2_passHour_5 rfl ?_
  refine x_iastore (L := 6) C hw hS 44 (by omega) rfl rfl (by omega) (by omega) (by decide) (x := 0) ⟨by decide, by decide⟩ dX2_passHour_6 (fun H locs hw hS => ?_)
  have hw : Wo g (stM M (44000 + h) 0) H := hw
  refine lv_iconst (v := II 0) C.1 C.2.1 dX2_passHour_7 rfl ?_
  refine lv_istore_n (lv' := [(3, .int (II 0)), (0, .ref (gA g 1)), (1, .int (II ho)), (2, .int (II (h : Int)))]) C.1 C.2.1 dX2_passHour_8 rfl hl (by decide) rfl (fun ls hl => ?_)
  have L9 : ∀ (f1 : Nat) (i : Nat) (M2 : Nat → Int), (n - i) < f1 → (i ≤ n) → (∀ j, j < i → v j 2 = ho → M2 (1000 * (30 + (h + 1)) + j) = moodA v n E j (h + 1)) → (∀ j, j < i → v j 2 = ho → M2 (1000 * (38 + h) + j) = sighA v n nt E j h) → (M2 (44000 + h) = sm (reed1 v n nt E ho h) (i)) → (M2 1005 = M 1005 + sm (pay1 v n nt E ho h) (i)) → (∀ m, ¬ ph h m → M2 m = M m) → ∀ (H : Heap) (locs : List Loc) (ls : Array Slot), Wo g M2 H → va_S (ar g) s.heap H locs → lv_has ls 8 [(0, .ref (gA g 1)), (1, .int (II ho)), (2, .int (II (h : Int))), (3, .int (II (i : Int)))] → W p l e (rmm 2 49) s m args below meth c H locs 0 0 QQ (F0 m 9 ls []) := by
    intro f1
    induction f1 with
    | zero => intro i M2 hmu; exact absurd hmu (Nat.not_lt_zero _)
    | succ f1 ih =>
      intro i M2 hmu h1 ha hb hc hd hf H locs ls hw hS hl
      have ih9 := ih
      have g_M2 := hw.rg
      have hB2 : BV M2 n v nt t E := hB.fr (fun m hm => hf m (by unfold scr at hm; unfold ph; omega))
      have he6 : M2 1006 = presS v ho h n := (hf _ (by unfold ph; omega)).trans hpr.1
      have he7 : M2 1007 = foolP v ho h n := (hf _ (by unfold ph; omega)).trans hpr.2
      have hp1 : 0 ≤ presS v ho h n ∧ presS v ho h n ≤ n := cnt_in _ _
      have hp2 : 0 ≤ foolP v ho h n ∧ foolP v ho h n ≤ n := cnt_in _ _
      have hs1 := sm_in (reed1_in v n nt E ho h) i
      have hs2 := sm_in (pay1_in v n nt E ho h) i
      refine lv_iload_n C.1 C.2.1 dX2_passHour_9 rfl (lv_at hl 3 rfl) ?_
      refine lv_aload_n C.1 C.2.1 dX2_passHour_10 rfl (lv_at hl 0 rfl) ?_
      refine g2 C hw 1 (by omega) rfl 0 (by decide) mw_238 (svr (hF.2 _)) dX2_passHour_11 ?_
      refine gn1 C hw 2 (by omega) rfl 1 (by decide) mn_190 (svi (x := (n : Int)) hB2.1.1) dX2_passHour_14 ?_
      refine x_icmp_ge (tgt := 293) C ⟨by omega, by omega⟩ ⟨by have := g_M2 2001; have := hB2.1.1; omega, by have := g_M2 2001; have := hB2.1.1; omega⟩ dX2_passHour_17 (by decide) (fun c17 => ?_) (fun c17 => ?_)
      · subst hQQ; exact x_return C hr hlk hw hS (by have e : i = n := (by omega); subst e; exact ⟨ha, hb, hc, hd, hf⟩) dX2_passHour_293
      · have hq := hPI i (by omega)
        have hmi := moodA_in (E := E) hPI (show i < n by omega) h
        refine lv_aload_n C.1 C.2.1 dX2_passHour_20 rfl (lv_at hl 0 rfl) ?_
        refine g2 C hw 1 (by omega) rfl 0 (by decide) mw_238 (svr (hF.2 _)) dX2_passHour_21 ?_
        refine gn1 C hw 2 (by omega) rfl 0 (by decide) mn_188 (svr (hF.2 _)) dX2_passHour_24 ?_
        refine lv_iload_n C.1 C.2.1 dX2_passHour_27 rfl (lv_at hl 3 rfl) ?_
        refine x_aaload (L := 8) C hw 3 (by omega) 11 rfl (by decide) rfl (by omega) (by omega) (by decide) (rP hF i (by omega)) dX2_passHour_28 ?_
        refine lv_astore (lv' := [(4, .ref (gA g (4 + i))), (0, .ref (gA g 1)), (1, .int (II ho)), (2, .int (II (h : Int))), (3, .int (II (i : Int)))]) C.1 C.2.1 dX2_passHour_29 hl (by decide) rfl (fun ls hl => ?_)
        have J287 : ∀  (M5 : Nat → Int), (∀ j, j < i + 1 → v j 2 = ho → M5 (1000 * (30 + (h + 1)) + j) = moodA v n E j (h + 1)) → (∀ j, j < i + 1 → v j 2 = ho → M5 (1000 * (38 + h) + j) = sighA v n nt E j h) → (M5 (44000 + h) = sm (reed1 v n nt E ho h) (i + 1)) → (M5 1005 = M 1005 + sm (pay1 v n nt E ho h) (i + 1)) → (∀ m, ¬ ph h m → M5 m = M m) → ∀ (H : Heap) (locs : List Loc) (ls : Array Slot), Wo g M5 H → va_S (ar g) s.heap H locs → lv_has ls 8 [(0, .ref (gA g 1)), (1, .int (II ho)), (2, .int (II (h : Int))), (3, .int (II (i : Int))), (4, .ref (gA g (4 + i)))] → W p l e (rmm 2 49) s m args below meth c H locs 0 0 QQ (F0 m 287 ls []) := by
          intro  M5 ha5 hb5 hc5 hd5 hf5 H locs ls hw hS hl
          have g_M5 := hw.rg
          refine lv_iinc (v := II ((i : Int) + 1)) (lv' := [(3, .int (II ((i : Int) + 1))), (0, .ref (gA g 1)), (1, .int (II ho)), (2, .int (II (h : Int))), (4, .ref (gA g (4 + i)))]) C.1 C.2.1 dX2_passHour_287 hl (k := 3) rfl (II_add _ _) (by decide) rfl (fun ls hl => ?_)
          refine lv_goto (tgt := 9) C.1 C.2.1 dX2_passHour_290 (by decide) ?_
          exact ih9  (i + 1) M5 (by omega) (by omega) ha5 hb5 hc5 hd5 hf5 _ _ _ hw hS (lv_sub hl [1, 2, 3, 0] rfl)
        refine lv_aload C.1 C.2.1 dX2_passHour_31 (lv_at hl 0 rfl) ?_
        refine gn3 C hw (4 + i) (by omega) (kd_p (by omega)) 2 (by decide) mn_168 (svi (x := v i 2) (hB2.2.1 i (by omega) 2 (by decide))) dX2_passHour_33 ?_
        refine lv_iload_n C.1 C.2.1 dX2_passHour_36 rfl (lv_at hl 2 rfl) ?_
        refine x_icmp_eq (tgt := 43) C ⟨by have := g_M2 (1000 * (4 + i) + 2); have := (hB2.2.1 i (by omega) 2 (by decide)); omega, by have := g_M2 (1000 * (4 + i) + 2); have := (hB2.2.1 i (by omega) 2 (by decide)); omega⟩ hho dX2_passHour_37 (by decide) (fun c37 => ?_) (fun c37 => ?_)
        · have hm2 : M2 (1000 * (30 + h) + i) = moodA v n E i h := (hf _ (by unfold ph; omega)).trans (hmo i (by omega) c37)
          refine lv_iconst (v := II 1) C.1 C.2.1 dX2_passHour_43 rfl ?_
          refine lv_istore (lv' := [(5, .int (II 1)), (4, .ref (gA g (4 + i))), (0, .ref (gA g 1)), (1, .int (II ho)), (2, .int (II (h : Int))), (3, .int (II (i : Int)))]) C.1 C.2.1 dX2_passHour_44 hl (by decide) rfl (fun ls hl => ?_)
          refine lv_aload_n C.1 C.2.1 dX2_passHour_46 rfl (lv_at hl 2 rfl) ?_
          refine g2 C hw 1 (by omega) rfl 3 (by decide) mw_244 (svr (hF.2 _)) dX2_passHour_47 ?_
          refine lv_iload_n C.1 C.2.1 dX2_passHour_50 rfl (lv_at hl 4 rfl) ?_
          refine x_aaload (L := 6) C hw 37 (by omega) 13 rfl (by decide) rfl (by omega) (by omega) (by decide) (rG hF h (by omega)) dX2_passHour_51 ?_
          refine lv_iload_n C.1 C.2.1 dX2_passHour_52 rfl (lv_at hl 5 rfl) ?_
          refine lv_iconst (v := II 0) C.1 C.2.1 dX2_passHour_53 rfl ?_
          refine x_iastore (L := 8) C hw hS (38 + h) (by omega) (kd_g (by omega)) (ln_g (by omega)) (by omega) (by omega) (by decide) (x := 0) ⟨by decide, by decide⟩ dX2_passHour_54 (fun H locs hw hS => ?_)
          have hw : Wo g (stM M2 (1000 * (38 + h) + i) 0) H := hw
          have J206 : ∀ (sw : Int) (M4 : Nat → Int), (sw = swayA v n E i h (moodA v n E i h)) → (M4 (1000 * (38 + h) + i) = sighA v n nt E i h) → (∀ m, ¬ (m / 1000 = 27 ∨ m / 1000 = 28 ∨ m = 1000 * (38 + h) + i) → M4 m = M2 m) → ∀ (H : Heap) (locs : List Loc) (ls : Array Slot), Wo g M4 H → va_S (ar g) s.heap H locs → lv_has ls 8 [(0, .ref (gA g 1)), (1, .int (II ho)), (2, .int (II (h : Int))), (3, .int (II (i : Int))), (4, .ref (gA g (4 + i))), (5, .int (II sw))] → W p l e (rmm 2 49) s m args below meth c H locs 0 0 QQ (F0 m 206 ls []) := by
            intro sw M4 hsw hs4 hf4 H locs ls hw hS hl
            have g_M4 := hw.rg
            have hsb := swayA_in (E := E) (h := h) (mo := moodA v n E i h) hPI hn2 (show i < n by omega)
            have hB4 : BV M4 n v nt t E := hB2.fr (fun m hm => hf4 m (by unfold scr at hm; omega))
            have hm4 : M4 (1000 * (30 + h) + i) = moodA v n E i h := (hf4 _ (by omega)).trans hm2
            have hc4 : M4 (44000 + h) = sm (reed1 v n nt E ho h) i := (hf4 _ (by omega)).trans hc
            have hd4 : M4 1005 = M 1005 + sm (pay1 v n nt E ho h) i := (hf4 _ (by omega)).trans hd
            have hsi := sighA_in v n nt E i h
            refine lv_aload_n C.1 C.2.1 dX2_passHour_206 rfl (lv_at hl 0 rfl) ?_
            refine g2 C hw 1 (by omega) rfl 2 (by decide) mw_242 (svr (hF.2 _)) dX2_passHour_207 ?_
            refine lv_iload_n C.1 C.2.1 dX2_passHour_210 rfl (lv_at hl 2 rfl) ?_
            refine lv_iconst (v := II 1) C.1 C.2.1 dX2_passHour_211 rfl ?_
            refine x_iadd C dX2_passHour_212 ?_
            refine x_aaload (L := 7) C hw 29 (by omega) 13 rfl (by decide) rfl (by omega) (by omega) (by decide) ((congrArg (fun z => gR g (29000 + z)) (by omega)).trans (rM hF (h + 1) (by omega))) dX2_passHour_213 ?_
            refine lv_iload_n C.1 C.2.1 dX2_passHour_214 rfl (lv_at hl 3 rfl) ?_
            refine lv_aload_n C.1 C.2.1 dX2_passHour_215 rfl (lv_at hl 0 rfl) ?_
            refine g2 C hw 1 (by omega) rfl 2 (by decide) mw_242 (svr (hF.2 _)) dX2_passHour_216 ?_
            refine lv_iload_n C.1 C.2.1 dX2_passHour_219 rfl (lv_at hl 2 rfl) ?_
            refine x_aaload (L := 7) C hw 29 (by omega) 13 rfl (by decide) rfl (by omega) (by omega) (by decide) (rM hF h (by omega)) dX2_passHour_220 ?_
            refine lv_iload_n C.1 C.2.1 dX2_passHour_221 rfl (lv_at hl 3 rfl) ?_
            refine x_iaload (L := 8) C hw (30 + h) (by omega) (kd_m (by omega)) (ln_m (by omega)) (by omega) (by omega) (by decide) (x := moodA v n E i h) hm4 dX2_passHour_222 ?_
            refine lv_iload C.1 C.2.1 dX2_passHour_223 (lv_at hl 5 rfl) ?_
            refine x_iadd C dX2_passHour_225 ?_
            refine lv_bipush (v := II (-20)) C.1 C.2.1 dX2_passHour_226 (by decide) ?_
            refine lv_bipush (v := II 20) C.1 C.2.1 dX2_passHour_228 (by decide) ?_
            refine x_ci (x_runSN (n := 3) C hw hS hml hl.1 (c_X7_bounded l g M4 ((moodA v n E i h) + sw) ⟨by have := g_M4 (1000 * (30 + h) + i); have := hm4; omega, by have := g_M4 (1000 * (30 + h) + i); have := hm4; omega⟩ (-20) ⟨by decide, by decide⟩ 20 ⟨by decide, by decide⟩ (by first | assumption | omega | exact ⟨by omega, by omega⟩ | decide)) mn_575 mw_576 mw_117 mw_577 rfl rfl (by decide +kernel) ⟨Nat.le_of_ble_eq_true rfl, Nat.le_of_ble_eq_true rfl⟩ rfl rfl (Nat.le_of_ble_eq_true rfl) dX2_passHour_230 ⟨Nat.zero_le _, Nat.zero_le _⟩) hS (fun r230 M230 H locs hr230 hp hw hS => ?_)
            obtain ⟨em230, er230⟩ := hp
            have hw : Wo g M4 H := em230 ▸ hw
            rw [er230] at hr230 ⊢
            have hb230 := bnd_in (v := moodA v n E i h + sw) (lo := -20) (hi := 20) (by decide)
            refine x_iastore (L := 8) C hw hS (30 + (h + 1)) (by omega) (kd_m (by omega)) (ln_m (by omega)) (by omega) (by omega) (by decide) (x := bnd ((moodA v n E i h) + sw) (-20) 20) hr230 dX2_passHour_233 (fun H locs hw hS => ?_)
            have hw : Wo g (stM M4 (1000 * (30 + (h + 1)) + i) (bnd ((moodA v n E i h) + sw) (-20) 20)) H := hw
            refine lv_aload_n C.1 C.2.1 dX2_passHour_234 rfl (lv_at hl 0 rfl) ?_
            refine g2 C hw 1 (by omega) rfl 4 (by decide) mw_246 (svr (hF.2 _)) dX2_passHour_235 ?_
            refine lv_iload_n C.1 C.2.1 dX2_passHour_238 rfl (lv_at hl 2 rfl) ?_
            refine lv_dup2_11 C.1 C.2.1 dX2_passHour_239 rfl rfl ?_
            refine x_iaload (L := 6) C hw 44 (by omega) rfl rfl (by omega) (by omega) (by decide) (x := sm (reed1 v n nt E ho h) i) ((st_n (by omega)).trans hc4) dX2_passHour_240 ?_
            refine lv_aload_n C.1 C.2.1 dX2_passHour_241 rfl (lv_at hl 0 rfl) ?_
            refine g2 C hw 1 (by omega) rfl 3 (by decide) mw_244 (svr (hF.2 _)) dX2_passHour_242 ?_
            refine lv_iload_n C.1 C.2.1 dX2_passHour_245 rfl (lv_at hl 2 rfl) ?_
            refine x_aaload (L := 6) C hw 37 (by omega) 13 rfl (by decide) rfl (by omega) (by omega) (by decide) (rG hF h (by omega)) dX2_passHour_246 ?_
            refine lv_iload_n C.1 C.2.1 dX2_passHour_247 rfl (lv_at hl 3 rfl) ?_
            refine x_iaload (L := 8) C hw (38 + h) (by omega) (kd_g (by omega)) (ln_g (by omega)) (by omega) (by omega) (by decide) (x := sighA v n nt E i h) ((st_n (by omega)).trans hs4) dX2_passHour_248 ?_
            refine x_iadd C dX2_passHour_249 ?_
            refine x_iastore (L := 6) C hw hS 44 (by omega) rfl rfl (by omega) (by omega) (by decide) (x := (sm (reed1 v n nt E ho h) i) + (sighA v n nt E i h)) ⟨by omega, by omega⟩ dX2_passHour_250 (fun H locs hw hS => ?_)
            have hw : Wo g (stM (stM M4 (1000 * (30 + (h + 1)) + i) (bnd ((moodA v n E i h) + sw) (-20) 20)) (44000 + h) ((sm (reed1 v n nt E ho h) i) + (sighA v n nt E i h))) H := hw
            refine lv_aload_n C.1 C.2.1 dX2_passHour_251 rfl (lv_at hl 0 rfl) ?_
            refine lv_dup C.1 C.2.1 dX2_passHour_252 rfl ?_
            refine g2 C hw 1 (by omega) rfl 5 (by decide) mw_248 (svi (x := (M 1005 + sm (pay1 v n nt E ho h) i)) ((st_n (by omega)).trans ((st_n (by omega)).trans hd4))) dX2_passHour_253 ?_
            have J283 : ∀ (z : Int), (z = (if exB (v i 0) (v i 1) nt = true then 0 else sighA v n nt E i h)) → ∀ (H : Heap) (locs : List Loc) (ls : Array Slot), Wo g (stM (stM M4 (1000 * (30 + (h + 1)) + i) (bnd ((moodA v n E i h) + sw) (-20) 20)) (44000 + h) ((sm (reed1 v n nt E ho h) i) + (sighA v n nt E i h))) H → va_S (ar g) s.heap H locs → lv_has ls 8 [(0, .ref (gA g 1)), (1, .int (II ho)), (2, .int (II (h : Int))), (3, .int (II (i : Int))), (4, .ref (gA g (4 + i))), (5, .int (II sw))] → W p l e (rmm 2 49) s m args below meth c H locs 0 0 QQ (F0 m 283 ls [.int (II z), .int (II (M 1005 + sm (pay1 v n nt E ho h) i)), .ref (gA g 1)]) := by
              intro z hz H locs ls hw hS hl
              have hz01 : 0 ≤ z ∧ z ≤ 297 := by rw [hz]; split <;> omega
              refine x_iadd C dX2_passHour_283 ?_
              refine p2 C hw hS 1 (by omega) rfl 5 (by decide) mw_248 rfl (x := (M 1005 + sm (pay1 v n nt E ho h) i) + z) ⟨by omega, by omega⟩ (svi st_s) (tyX2_ok 5 (by decide)) rfl rfl dX2_passHour_284 (fun H locs hw hS => ?_)
              have hw : Wo g (stM (stM (stM M4 (1000 * (30 + (h + 1)) + i) (bnd ((moodA v n E i h) + sw) (-20) 20)) (44000 + h) ((sm (reed1 v n nt E ho h) i) + (sighA v n nt E i h))) 1005 ((M 1005 + sm (pay1 v n nt E ho h) i) + z)) H := hw
              exact J287 (stM (stM (stM M4 (1000 * (30 + (h + 1)) + i) (bnd ((moodA v n E i h) + sw) (-20) 20)) (44000 + h) ((sm (reed1 v n nt E ho h) i) + (sighA v n nt E i h))) 1005 ((M 1005 + sm (pay1 v n nt E ho h) i) + z)) (fun j hj hv => by
      by_cases e : j = i
      · subst e; exact (st_n (by omega)).trans ((st_n (by omega)).trans (st_s.trans (by rw [moodA, hsw])))
      · exact (st_n (by omega)).trans ((st_n (by omega)).trans ((st_n (by omega)).trans ((hf4 _ (by omega)).trans (ha j (by omega) hv))))) (fun j hj hv => by
      by_cases e : j = i
      · subst e; exact (st_n (by omega)).trans ((st_n (by omega)).trans ((st_n (by omega)).trans hs4))
      · exact (st_n (by omega)).trans ((st_n (by omega)).trans ((st_n (by omega)).trans ((hf4 _ (by omega)).trans (hb j (by omega) hv))))) ((st_n (by omega)).trans (st_s.trans (by rw [sm, reed1, if_pos c37]))) (st_s.trans (by rw [sm, pay1, if_pos c37, ← hz]; omega)) (stF (stF (stF (fun m hm => (hf4 m (by unfold ph at hm; omega)).trans (hf m hm)) (by unfold ph; omega)) (by unfold ph; omega)) (by unfold ph; omega)) _ _ _ hw hS (lv_sub hl [0, 1, 2, 3, 4] rfl)
            refine lv_aload C.1 C.2.1 dX2_passHour_256 (lv_at hl 4 rfl) ?_
            refine lv_aload_n C.1 C.2.1 dX2_passHour_258 rfl (lv_at hl 0 rfl) ?_
            refine g2 C hw 1 (by omega) rfl 0 (by decide) mw_238 (svr (hF.2 _)) dX2_passHour_259 ?_
            refine gn1 C hw 2 (by omega) rfl 2 (by decide) mn_194 (svi (x := nt) ((st_n (by omega)).trans ((st_n (by omega)).trans hB4.2.2.2.1.1))) dX2_passHour_262 ?_
            refine x_ci (x_runVN (n := 1) C hw hS hml hl.1 (4 + i) 3 (by omega) (kd_p (by omega)) (by decide) rfl (c_X3_isExempt l g (stM (stM M4 (1000 * (30 + (h + 1)) + i) (bnd ((moodA v n E i h) + sw) (-20) 20)) (44000 + h) ((sm (reed1 v n nt E ho h) i) + (sighA v n nt E i h))) (4 + i) (by omega) (kd_p (by omega)) (v i 0) ((st_n (by omega)).trans ((st_n (by omega)).trans (hB4.2.1 i (by omega) 0 (by decide)))) (v i 1) ((st_n (by omega)).trans ((st_n (by omega)).trans (hB4.2.1 i (by omega) 1 (by decide)))) nt (by first | assumption | omega | exact ⟨by omega, by omega⟩ | decide) (by first | assumption | omega | exact ⟨by omega, by omega⟩ | decide)) mn_596 mw_546 mw_20 mw_120 mw_547 rfl rfl (by decide +kernel) ⟨Nat.le_of_ble_eq_true rfl, Nat.le_of_ble_eq_true rfl⟩ rfl rfl (Nat.le_of_ble_eq_true rfl) dX2_passHour_265 ⟨Nat.zero_le _, Nat.zero_le _⟩) hS (fun r265 M265 H locs hr265 hp hw hS => ?_)
            rcases hp with ⟨em265, (⟨er265, h265b⟩ | ⟨er265, h265b⟩)⟩
            · have hw : Wo g (stM (stM M4 (1000 * (30 + (h + 1)) + i) (bnd ((moodA v n E i h) + sw) (-20) 20)) (44000 + h) ((sm (reed1 v n nt E ho h) i) + (sighA v n nt E i h))) H := em265 ▸ hw
              rw [er265]
              refine x_if_eq (tgt := 275) C ⟨by decide, by decide⟩ dX2_passHour_268 (by decide) (fun h => absurd h (by decide)) (fun _ => ?_)
              refine lv_iconst (v := II 0) C.1 C.2.1 dX2_passHour_271 rfl ?_
              refine lv_goto (tgt := 283) C.1 C.2.1 dX2_passHour_272 (by decide) ?_
              exact J283 0 (by first | (rw [if_pos (exB_t h265b)]; done) | (rw [if_neg (by rw [exB_f h265b]; decide)]; done)) _ _ _ hw hS (lv_sub hl [0, 1, 2, 3, 4, 5] rfl)
            · have hw : Wo g (stM (stM M4 (1000 * (30 + (h + 1)) + i) (bnd ((moodA v n E i h) + sw) (-20) 20)) (44000 + h) ((sm (reed1 v n nt E ho h) i) + (sighA v n nt E i h))) H := em265 ▸ hw
              rw [er265]
              refine x_if_eq (tgt := 275) C ⟨by decide, by decide⟩ dX2_passHour_268 (by decide) (fun _ => ?_) (fun h => absurd h (by decide))
              refine lv_aload_n C.1 C.2.1 dX2_passHour_275 rfl (lv_at hl 0 rfl) ?_
              refine g2 C hw 1 (by omega) rfl 3 (by decide) mw_244 (svr (hF.2 _)) dX2_passHour_276 ?_
              refine lv_iload_n C.1 C.2.1 dX2_passHour_279 rfl (lv_at hl 2 rfl) ?_
              refine x_aaload (L := 6) C hw 37 (by omega) 13 rfl (by decide) rfl (by omega) (by omega) (by decide) (rG hF h (by omega)) dX2_passHour_280 ?_
              refine lv_iload_n C.1 C.2.1 dX2_passHour_281 rfl (lv_at hl 3 rfl) ?_
              refine x_iaload (L := 8) C hw (38 + h) (by omega) (kd_g (by omega)) (ln_g (by omega)) (by omega) (by omega) (by decide) (x := sighA v n nt E i h) ((st_n (by omega)).trans ((st_n (by omega)).trans hs4)) dX2_passHour_282 ?_
              exact J283 (sighA v n nt E i h) (by first | (rw [if_pos (exB_t h265b)]; done) | (rw [if_neg (by rw [exB_f h265b]; decide)]; done)) _ _ _ hw hS (lv_sub hl [0, 1, 2, 3, 4, 5] rfl)
          refine lv_aload C.1 C.2.1 dX2_passHour_55 (lv_at hl 1 rfl) ?_
          refine lv_iload_n C.1 C.2.1 dX2_passHour_57 rfl (lv_at hl 4 rfl) ?_
          refine x_ci (x_runVN (n := 1) C hw hS hml hl.1 (4 + i) 3 (by omega) (kd_p (by omega)) (by decide) rfl (c_X3_isOut l g (stM M2 (1000 * (38 + h) + i) 0) (4 + i) (by omega) (kd_p (by omega)) (v i 4) ((st_n (by omega)).trans (hB2.2.1 i (by omega) 4 (by decide))) h (by first | assumption | omega | exact ⟨by omega, by omega⟩ | decide) (by first | assumption | omega | exact ⟨by omega, by omega⟩ | decide)) mn_556 mw_558 mw_23 mw_120 mw_559 rfl rfl (by decide +kernel) ⟨Nat.le_of_ble_eq_true rfl, Nat.le_of_ble_eq_true rfl⟩ rfl rfl (Nat.le_of_ble_eq_true rfl) dX2_passHour_58 ⟨Nat.zero_le _, Nat.zero_le _⟩) hS (fun r58 M58 H locs hr58 hp hw hS => ?_)
          rcases hp with ⟨em58, (⟨er58, h58b⟩ | ⟨er58, h58b⟩)⟩
          · have hw : Wo g (stM M2 (1000 * (38 + h) + i) 0) H := em58 ▸ hw
            rw [er58]
            refine x_if_ne (tgt := 206) C ⟨by decide, by decide⟩ dX2_passHour_61 (by decide) (fun _ => ?_) (fun h => absurd h (by decide))
            exact J206 1 (stM M2 (1000 * (38 + h) + i) 0) (by unfold swayA inH; rw [h58b]; rfl) (st_s.trans (by unfold sighA inH; rw [h58b]; rfl)) (stF (fun _ _ => rfl) (by omega)) _ _ _ hw hS (lv_sub hl [2, 3, 4, 5, 1, 0] rfl)
          · have hw : Wo g (stM M2 (1000 * (38 + h) + i) 0) H := em58 ▸ hw
            rw [er58]
            refine x_if_ne (tgt := 206) C ⟨by decide, by decide⟩ dX2_passHour_61 (by decide) (fun h => absurd h (by decide)) (fun _ => ?_)
            have hin : inH v i h = true := by unfold inH; rw [h58b]; rfl
            refine lv_aload_n C.1 C.2.1 dX2_passHour_64 rfl (lv_at hl 2 rfl) ?_
            refine g2 C hw 1 (by omega) rfl 7 (by decide) mw_250 (svi (x := foolP v ho h n) ((st_n (by omega)).trans he7)) dX2_passHour_65 ?_
            have J82 : ∀ (z : Int), (z = (if v i 0 = 5 then 1 else 0)) → ∀ (H : Heap) (locs : List Loc) (ls : Array Slot), Wo g (stM M2 (1000 * (38 + h) + i) 0) H → va_S (ar g) s.heap H locs → lv_has ls 8 [(0, .ref (gA g 1)), (1, .int (II ho)), (2, .int (II (h : Int))), (3, .int (II (i : Int))), (4, .ref (gA g (4 + i))), (5, .int (II 1))] → W p l e (rmm 2 49) s m args below meth c H locs 0 0 QQ (F0 m 82 ls [.int (II z), .int (II (foolP v ho h n))]) := by
              intro z hz H locs ls hw hS hl
              have hz01 : z = 0 ∨ z = 1 := by rw [hz]; split <;> omega
              refine x_isub C dX2_passHour_82 ?_
              refine lv_istore (lv' := [(6, .int (II ((foolP v ho h n) - z))), (0, .ref (gA g 1)), (1, .int (II ho)), (2, .int (II (h : Int))), (3, .int (II (i : Int))), (4, .ref (gA g (4 + i))), (5, .int (II 1))]) C.1 C.2.1 dX2_passHour_83 hl (by decide) rfl (fun ls hl => ?_)
              have ef : foolP v ho h n - z = fool v n i h := fool_p (by omega) c37 hin hz
              have eo : presS v ho h n - 1 = othr v n i h := othr_p (by omega) c37 hin
              rw [ef] at hl
              have hfi := fool_in v n i h
              have hoi : 0 ≤ othr v n i h ∧ othr v n i h ≤ n := cnt_in _ _
              refine lv_aload_n C.1 C.2.1 dX2_passHour_85 rfl (lv_at hl 1 rfl) ?_
              refine g2 C hw 1 (by omega) rfl 1 (by decide) mw_240 (svr (hF.2 _)) dX2_passHour_86 ?_
              refine lv_aload_n C.1 C.2.1 dX2_passHour_89 rfl (lv_at hl 1 rfl) ?_
              refine g2 C hw 1 (by omega) rfl 2 (by decide) mw_242 (svr (hF.2 _)) dX2_passHour_90 ?_
              refine lv_iload_n C.1 C.2.1 dX2_passHour_93 rfl (lv_at hl 3 rfl) ?_
              refine x_aaload (L := 7) C hw 29 (by omega) 13 rfl (by decide) rfl (by omega) (by omega) (by decide) (rM hF h (by omega)) dX2_passHour_94 ?_
              refine lv_iload_n C.1 C.2.1 dX2_passHour_95 rfl (lv_at hl 4 rfl) ?_
              refine x_iaload (L := 8) C hw (30 + h) (by omega) (kd_m (by omega)) (ln_m (by omega)) (by omega) (by omega) (by decide) (x := moodA v n E i h) ((st_n (by omega)).trans hm2) dX2_passHour_96 ?_
              refine lv_iload_n C.1 C.2.1 dX2_passHour_97 rfl (lv_at hl 3 rfl) ?_
              refine lv_aload C.1 C.2.1 dX2_passHour_98 (lv_at hl 5 rfl) ?_
              refine gn3 C hw (4 + i) (by omega) (kd_p (by omega)) 1 (by decide) mn_165 (svi (x := v i 1) ((st_n (by omega)).trans (hB2.2.1 i (by omega) 1 (by decide)))) dX2_passHour_100 ?_
              refine lv_aload_n C.1 C.2.1 dX2_passHour_103 rfl (lv_at hl 1 rfl) ?_
              refine g2 C hw 1 (by omega) rfl 6 (by decide) mw_249 (svi (x := presS v ho h n) ((st_n (by omega)).trans he6)) dX2_passHour_104 ?_
              refine lv_iconst (v := II 1) C.1 C.2.1 dX2_passHour_107 rfl ?_
              refine x_isub C dX2_passHour_108 ?_
              rw [eo]
              refine lv_iload_n C.1 C.2.1 dX2_passHour_109 rfl (lv_at hl 2 rfl) ?_
              refine x_top (b := v i 2) (by rw [c37]) ?_
              refine lv_iload C.1 C.2.1 dX2_passHour_110 (lv_at hl 0 rfl) ?_
              refine x_cv (x_runVN (n := 6) C hw hS hml hl.1 12 6 (by omega) rfl (by decide) rfl (c_X6_mean l g (stM M2 (1000 * (38 + h) + i) 0) hF (moodA v n E i h) ⟨by omega, by omega⟩ (h : Int) ⟨by omega, by omega⟩ (v i 1) ⟨by omega, by omega⟩ (othr v n i h) ⟨by omega, by omega⟩ (v i 2) ⟨by omega, by omega⟩ (fool v n i h) ⟨by omega, by omega⟩) mn_564 mw_566 mw_25 mw_121 mw_567 rfl rfl (by decide +kernel) ⟨Nat.le_of_ble_eq_true rfl, Nat.le_of_ble_eq_true rfl⟩ rfl rfl (Nat.le_of_ble_eq_true rfl) dX2_passHour_112 ⟨Nat.zero_le _, Nat.zero_le _⟩) hS (fun M112 H locs hp hw hS => ?_)
              have em112 := hp
              have hw : Wo g (stM (stM (stM (stM (stM (stM (stM M2 (1000 * (38 + h) + i) 0) 27000 (moodA v n E i h)) 27001 (h : Int)) 27002 (v i 1)) 27003 (othr v n i h)) 27004 (v i 2)) 27005 (fool v n i h)) H := em112 ▸ hw
              refine lv_aload_n C.1 C.2.1 dX2_passHour_115 rfl (lv_at hl 1 rfl) ?_
              refine g2 C hw 1 (by omega) rfl 1 (by decide) mw_240 (svr (hF.2 _)) dX2_passHour_116 ?_
              refine lv_aload_n C.1 C.2.1 dX2_passHour_119 rfl (lv_at hl 1 rfl) ?_
              refine g2 C hw 1 (by omega) rfl 0 (by decide) mw_238 (svr (hF.2 _)) dX2_passHour_120 ?_
              refine gn1 C hw 2 (by omega) rfl 4 (by decide) mn_198 (svi (x := (t : Int)) ((st_n (by decide)).trans ((st_n (by decide)).trans ((st_n (by decide)).trans ((st_n (by decide)).trans ((st_n (by decide)).trans ((st_n (by decide)).trans ((st_n (by omega)).trans hB2.2.2.2.2.1.1)))))))) dX2_passHour_123 ?_
              refine lv_iconst (v := II 0) C.1 C.2.1 dX2_passHour_126 rfl ?_
              refine x_ci (x_runVN (n := 2) C hw hS hml hl.1 12 6 (by omega) rfl (by decide) rfl (c_X6_worthE l g (stM (stM (stM (stM (stM (stM (stM M2 (1000 * (38 + h) + i) 0) 27000 (moodA v n E i h)) 27001 (h : Int)) 27002 (v i 1)) 27003 (othr v n i h)) 27004 (v i 2)) 27005 (fool v n i h)) hF t (by first | assumption | omega | exact ⟨by omega, by omega⟩ | decide) 0 (by first | assumption | omega | exact ⟨by omega, by omega⟩ | decide) E (hB2.2.2.2.2.2.fr (fun m hm => by rw [st_n (by omega), st_n (by omega), st_n (by omega), st_n (by omega), st_n (by omega), st_n (by omega), st_n (by omega)])) (moodA v n E i h) ((st_n (by decide)).trans ((st_n (by decide)).trans ((st_n (by decide)).trans ((st_n (by decide)).trans ((st_n (by decide)).trans st_s))))) (h : Int) ((st_n (by decide)).trans ((st_n (by decide)).trans ((st_n (by decide)).trans ((st_n (by decide)).trans st_s)))) (v i 1) ((st_n (by decide)).trans ((st_n (by decide)).trans ((st_n (by decide)).trans st_s))) (othr v n i h) ((st_n (by decide)).trans ((st_n (by decide)).trans st_s)) (v i 2) ((st_n (by decide)).trans st_s) (fool v n i h) st_s) mn_568 mw_570 mw_26 mw_121 mw_571 rfl rfl (by decide +kernel) ⟨Nat.le_of_ble_eq_true rfl, Nat.le_of_ble_eq_true rfl⟩ rfl rfl (Nat.le_of_ble_eq_true rfl) dX2_passHour_127 ⟨Nat.zero_le _, Nat.zero_le _⟩) hS (fun r127 M127 H locs hr127 hp hw hS => ?_)
              obtain ⟨er127, h127f⟩ := hp
              have g_M127 := hw.rg
              rw [er127] at hr127 ⊢
              have hB127 : BV M127 n v nt t E := hB2.fr (fun m hm => by rw [h127f m (by unfold scr at hm; omega), st_n (by unfold scr at hm; omega), st_n (by unfold scr at hm; omega), st_n (by unfold scr at hm; omega), st_n (by unfold scr at hm; omega), st_n (by unfold scr at hm; omega), st_n (by unfold scr at hm; omega), st_n (by unfold scr at hm; omega)])
              have hm127 : M127 (1000 * (30 + h) + i) = moodA v n E i h := by rw [h127f _ (by omega), st_n (by omega), st_n (by omega), st_n (by omega), st_n (by omega), st_n (by omega), st_n (by omega), st_n (by omega)]; exact hm2
              have hz127 : M127 27000 = moodA v n E i h ∧ M127 27001 = (h : Int) ∧ M127 27002 = v i 1 ∧ M127 27003 = othr v n i h ∧ M127 27004 = v i 2 ∧ M127 27005 = fool v n i h := ⟨(h127f _ (by omega)).trans (by simp [stM]), (h127f _ (by omega)).trans (by simp [stM]), (h127f _ (by omega)).trans (by simp [stM]), (h127f _ (by omega)).trans (by simp [stM]), (h127f _ (by omega)).trans (by simp [stM]), (h127f _ (by omega)).trans (by simp [stM])⟩
              refine lv_iconst (v := II 0) C.1 C.2.1 dX2_passHour_130 rfl ?_
              refine lv_bipush (v := II 99) C.1 C.2.1 dX2_passHour_131 (by decide) ?_
              refine x_ci (x_runSN (n := 3) C hw hS hml hl.1 (c_X7_bounded l g M127 (E 0 (moodA v n E i h) (h : Int) (v i 1) (othr v n i h) (v i 2) (fool v n i h)) hr127 0 ⟨by decide, by decide⟩ 99 ⟨by decide, by decide⟩ (by first | assumption | omega | exact ⟨by omega, by omega⟩ | decide)) mn_575 mw_576 mw_117 mw_577 rfl rfl (by decide +kernel) ⟨Nat.le_of_ble_eq_true rfl, Nat.le_of_ble_eq_true rfl⟩ rfl rfl (Nat.le_of_ble_eq_true rfl) dX2_passHour_133 ⟨Nat.zero_le _, Nat.zero_le _⟩) hS (fun r133 M133 H locs hr133 hp hw hS => ?_)
              obtain ⟨em133, er133⟩ := hp
              have hw : Wo g M127 H := em133 ▸ hw
              rw [er133] at hr133 ⊢
              have hb133 := bnd_in (v := E 0 (moodA v n E i h) h (v i 1) (othr v n i h) (v i 2) (fool v n i h)) (lo := 0) (hi := 99) (by decide)
              refine lv_istore (lv' := [(7, .int (II (bnd (E 0 (moodA v n E i h) (h : Int) (v i 1) (othr v n i h) (v i 2) (fool v n i h)) 0 99))), (6, .int (II (fool v n i h))), (0, .ref (gA g 1)), (1, .int (II ho)), (2, .int (II (h : Int))), (3, .int (II (i : Int))), (4, .ref (gA g (4 + i))), (5, .int (II 1))]) C.1 C.2.1 dX2_passHour_136 hl (by decide) rfl (fun ls hl => ?_)
              refine lv_aload_n C.1 C.2.1 dX2_passHour_138 rfl (lv_at hl 2 rfl) ?_
              refine g2 C hw 1 (by omega) rfl 3 (by decide) mw_244 (svr (hF.2 _)) dX2_passHour_139 ?_
              refine lv_iload_n C.1 C.2.1 dX2_passHour_142 rfl (lv_at hl 4 rfl) ?_
              refine x_aaload (L := 6) C hw 37 (by omega) 13 rfl (by decide) rfl (by omega) (by omega) (by decide) (rG hF h (by omega)) dX2_passHour_143 ?_
              refine lv_iload_n C.1 C.2.1 dX2_passHour_144 rfl (lv_at hl 5 rfl) ?_
              refine lv_aload C.1 C.2.1 dX2_passHour_145 (lv_at hl 6 rfl) ?_
              refine lv_iload C.1 C.2.1 dX2_passHour_147 (lv_at hl 0 rfl) ?_
              refine lv_aload_n C.1 C.2.1 dX2_passHour_149 rfl (lv_at hl 2 rfl) ?_
              refine g2 C hw 1 (by omega) rfl 2 (by decide) mw_242 (svr (hF.2 _)) dX2_passHour_150 ?_
              refine lv_iload_n C.1 C.2.1 dX2_passHour_153 rfl (lv_at hl 4 rfl) ?_
              refine x_aaload (L := 7) C hw 29 (by omega) 13 rfl (by decide) rfl (by omega) (by omega) (by decide) (rM hF h (by omega)) dX2_passHour_154 ?_
              refine lv_iload_n C.1 C.2.1 dX2_passHour_155 rfl (lv_at hl 5 rfl) ?_
              refine x_iaload (L := 8) C hw (30 + h) (by omega) (kd_m (by omega)) (ln_m (by omega)) (by omega) (by omega) (by decide) (x := moodA v n E i h) hm127 dX2_passHour_156 ?_
              refine lv_aload_n C.1 C.2.1 dX2_passHour_157 rfl (lv_at hl 2 rfl) ?_
              refine g2 C hw 1 (by omega) rfl 0 (by decide) mw_238 (svr (hF.2 _)) dX2_passHour_158 ?_
              refine gn1 C hw 2 (by omega) rfl 2 (by decide) mn_194 (svi (x := nt) hB127.2.2.2.1.1) dX2_passHour_161 ?_
              refine x_ci (x_runVN (n := 3) C hw hS hml hl.1 (4 + i) 3 (by omega) (kd_p (by omega)) (by decide) rfl (c_X3_sighsBy l g M127 (4 + i) (by omega) (kd_p (by omega)) (v i 0) (hB127.2.1 i (by omega) 0 (by decide)) (v i 1) (hB127.2.1 i (by omega) 1 (by decide)) (bnd (E 0 (moodA v n E i h) (h : Int) (v i 1) (othr v n i h) (v i 2) (fool v n i h)) 0 99) (by first | assumption | omega | exact ⟨by omega, by omega⟩ | decide) (moodA v n E i h) ⟨by have := g_M127 (1000 * (30 + h) + i); have := hm127; omega, by have := g_M127 (1000 * (30 + h) + i); have := hm127; omega⟩ nt ⟨by have := g_M127 2002; have := hB127.2.2.2.1.1; omega, by have := g_M127 2002; have := hB127.2.2.2.1.1; omega⟩ (by first | assumption | omega | exact ⟨by omega, by omega⟩ | decide)) mn_584 mw_586 mw_27 mw_120 mw_587 rfl rfl (by decide +kernel) ⟨Nat.le_of_ble_eq_true rfl, Nat.le_of_ble_eq_true rfl⟩ rfl rfl (Nat.le_of_ble_eq_true rfl) dX2_passHour_164 ⟨Nat.zero_le _, Nat.zero_le _⟩) hS (fun r164 M164 H locs hr164 hp hw hS => ?_)
              obtain ⟨em164, er164⟩ := hp
              have hw : Wo g M127 H := em164 ▸ hw
              rw [er164] at hr164 ⊢
              refine lv_iconst (v := II 0) C.1 C.2.1 dX2_passHour_167 rfl ?_
              refine lv_sipush (v := II 999) C.1 C.2.1 dX2_passHour_168 (by decide) ?_
              refine x_ci (x_runSN (n := 3) C hw hS hml hl.1 (c_X7_bounded l g M127 (sighK (v i 0) (v i 1) nt (bnd (E 0 (moodA v n E i h) (h : Int) (v i 1) (othr v n i h) (v i 2) (fool v n i h)) 0 99) (moodA v n E i h)) hr164 0 ⟨by decide, by decide⟩ 999 ⟨by decide, by decide⟩ (by first | assumption | omega | exact ⟨by omega, by omega⟩ | decide)) mn_575 mw_576 mw_117 mw_577 rfl rfl (by decide +kernel) ⟨Nat.le_of_ble_eq_true rfl, Nat.le_of_ble_eq_true rfl⟩ rfl rfl (Nat.le_of_ble_eq_true rfl) dX2_passHour_171 ⟨Nat.zero_le _, Nat.zero_le _⟩) hS (fun r171 M171 H locs hr171 hp hw hS => ?_)
              obtain ⟨em171, er171⟩ := hp
              have hw : Wo g M127 H := em171 ▸ hw
              rw [er171] at hr171 ⊢
              have hb171 := bnd_in (v := sighK (v i 0) (v i 1) nt (bnd (E 0 (moodA v n E i h) h (v i 1) (othr v n i h) (v i 2) (fool v n i h)) 0 99) (moodA v n E i h)) (lo := 0) (hi := 999) (by decide)
              refine x_iastore (L := 8) C hw hS (38 + h) (by omega) (kd_g (by omega)) (ln_g (by omega)) (by omega) (by omega) (by decide) (x := bnd (sighK (v i 0) (v i 1) nt (bnd (E 0 (moodA v n E i h) (h : Int) (v i 1) (othr v n i h) (v i 2) (fool v n i h)) 0 99) (moodA v n E i h)) 0 999) hr171 dX2_passHour_174 (fun H locs hw hS => ?_)
              have hw : Wo g (stM M127 (1000 * (38 + h) + i) (bnd (sighK (v i 0) (v i 1) nt (bnd (E 0 (moodA v n E i h) (h : Int) (v i 1) (othr v n i h) (v i 2) (fool v n i h)) 0 99) (moodA v n E i h)) 0 999)) H := hw
              refine lv_aload C.1 C.2.1 dX2_passHour_175 (lv_at hl 6 rfl) ?_
              refine lv_aload_n C.1 C.2.1 dX2_passHour_177 rfl (lv_at hl 2 rfl) ?_
              refine g2 C hw 1 (by omega) rfl 1 (by decide) mw_240 (svr (hF.2 _)) dX2_passHour_178 ?_
              refine lv_aload_n C.1 C.2.1 dX2_passHour_181 rfl (lv_at hl 2 rfl) ?_
              refine g2 C hw 1 (by omega) rfl 0 (by decide) mw_238 (svr (hF.2 _)) dX2_passHour_182 ?_
              refine gn1 C hw 2 (by omega) rfl 4 (by decide) mn_198 (svi (x := (t : Int)) ((st_n (by omega)).trans hB127.2.2.2.2.1.1)) dX2_passHour_185 ?_
              refine lv_iconst (v := II 1) C.1 C.2.1 dX2_passHour_188 rfl ?_
              refine x_ci (x_runVN (n := 2) C hw hS hml hl.1 12 6 (by omega) rfl (by decide) rfl (c_X6_worthE l g (stM M127 (1000 * (38 + h) + i) (bnd (sighK (v i 0) (v i 1) nt (bnd (E 0 (moodA v n E i h) (h : Int) (v i 1) (othr v n i h) (v i 2) (fool v n i h)) 0 99) (moodA v n E i h)) 0 999)) hF t (by first | assumption | omega | exact ⟨by omega, by omega⟩ | decide) 1 (by first | assumption | omega | exact ⟨by omega, by omega⟩ | decide) E (hB127.2.2.2.2.2.fr (fun m hm => by rw [st_n (by omega)])) (moodA v n E i h) ((st_n (by omega)).trans hz127.1) (h : Int) ((st_n (by omega)).trans hz127.2.1) (v i 1) ((st_n (by omega)).trans hz127.2.2.1) (othr v n i h) ((st_n (by omega)).trans hz127.2.2.2.1) (v i 2) ((st_n (by omega)).trans hz127.2.2.2.2.1) (fool v n i h) ((st_n (by omega)).trans hz127.2.2.2.2.2)) mn_568 mw_570 mw_26 mw_121 mw_571 rfl rfl (by decide +kernel) ⟨Nat.le_of_ble_eq_true rfl, Nat.le_of_ble_eq_true rfl⟩ rfl rfl (Nat.le_of_ble_eq_true rfl) dX2_passHour_189 ⟨Nat.zero_le _, Nat.zero_le _⟩) hS (fun r189 M189 H locs hr189 hp hw hS => ?_)
              obtain ⟨er189, h189f⟩ := hp
              have g_M189 := hw.rg
              rw [er189] at hr189 ⊢
              have hB189 : BV M189 n v nt t E := hB127.fr (fun m hm => by rw [h189f m (by unfold scr at hm; omega), st_n (by unfold scr at hm; omega)])
              refine lv_bipush (v := II (-9)) C.1 C.2.1 dX2_passHour_192 (by decide) ?_
              refine lv_bipush (v := II 9) C.1 C.2.1 dX2_passHour_194 (by decide) ?_
              refine x_ci (x_runSN (n := 3) C hw hS hml hl.1 (c_X7_bounded l g M189 (E 1 (moodA v n E i h) (h : Int) (v i 1) (othr v n i h) (v i 2) (fool v n i h)) hr189 (-9) ⟨by decide, by decide⟩ 9 ⟨by decide, by decide⟩ (by first | assumption | omega | exact ⟨by omega, by omega⟩ | decide)) mn_575 mw_576 mw_117 mw_577 rfl rfl (by decide +kernel) ⟨Nat.le_of_ble_eq_true rfl, Nat.le_of_ble_eq_true rfl⟩ rfl rfl (Nat.le_of_ble_eq_true rfl) dX2_passHour_196 ⟨Nat.zero_le _, Nat.zero_le _⟩) hS (fun r196 M196 H locs hr196 hp hw hS => ?_)
              obtain ⟨em196, er196⟩ := hp
              have hw : Wo g M189 H := em196 ▸ hw
              rw [er196] at hr196 ⊢
              have hb196 := bnd_in (v := E 1 (moodA v n E i h) h (v i 1) (othr v n i h) (v i 2) (fool v n i h)) (lo := -9) (hi := 9) (by decide)
              refine lv_iload C.1 C.2.1 dX2_passHour_199 (lv_at hl 1 rfl) ?_
              refine x_ci (x_runVN (n := 2) C hw hS hml hl.1 (4 + i) 3 (by omega) (kd_p (by omega)) (by decide) rfl (c_X3_swaysBy l g M189 (4 + i) (by omega) (kd_p (by omega)) (v i 0) (hB189.2.1 i (by omega) 0 (by decide)) (v i 1) (hB189.2.1 i (by omega) 1 (by decide)) (bnd (E 1 (moodA v n E i h) (h : Int) (v i 1) (othr v n i h) (v i 2) (fool v n i h)) (-9) 9) (by first | assumption | omega | exact ⟨by omega, by omega⟩ | decide) (fool v n i h) (by first | assumption | omega | exact ⟨by omega, by omega⟩ | decide) (by first | assumption | omega | exact ⟨by omega, by omega⟩ | decide)) mn_592 mw_594 mw_29 mw_120 mw_595 rfl rfl (by decide +kernel) ⟨Nat.le_of_ble_eq_true rfl, Nat.le_of_ble_eq_true rfl⟩ rfl rfl (Nat.le_of_ble_eq_true rfl) dX2_passHour_201 ⟨Nat.zero_le _, Nat.zero_le _⟩) hS (fun r201 M201 H locs hr201 hp hw hS => ?_)
              obtain ⟨em201, er201⟩ := hp
              have hw : Wo g M189 H := em201 ▸ hw
              rw [er201] at hr201 ⊢
              refine lv_istore (lv' := [(5, .int (II (swayK (v i 0) (v i 1) (bnd (E 1 (moodA v n E i h) (h : Int) (v i 1) (othr v n i h) (v i 2) (fool v n i h)) (-9) 9) (fool v n i h)))), (7, .int (II (bnd (E 0 (moodA v n E i h) (h : Int) (v i 1) (othr v n i h) (v i 2) (fool v n i h)) 0 99))), (6, .int (II (fool v n i h))), (0, .ref (gA g 1)), (1, .int (II ho)), (2, .int (II (h : Int))), (3, .int (II (i : Int))), (4, .ref (gA g (4 + i)))]) C.1 C.2.1 dX2_passHour_204 hl (by decide) rfl (fun ls hl => ?_)
              exact J206 (swayK (v i 0) (v i 1) (bnd (E 1 (moodA v n E i h) (h : Int) (v i 1) (othr v n i h) (v i 2) (fool v n i h)) (-9) 9) (fool v n i h)) M189 (by unfold swayA; rw [if_pos hin]) ((h189f _ (by omega)).trans (st_s.trans (by unfold sighA; rw [if_pos hin]; unfold bnd; have := sighK_in (k := v i 0) (num := v i 1) (nt := nt) (mo := moodA v n E i h) (bnd_in (v := E 0 (moodA v n E i h) h (v i 1) (othr v n i h) (v i 2) (fool v n i h)) (lo := 0) (hi := 99) (by decide)); unfold bnd at this; rw [if_neg (by omega), if_neg (by omega)]))) (fun m hm => (h189f m (by omega)).trans ((st_n (by omega)).trans ((h127f m (by omega)).trans (by rw [st_n (by omega), st_n (by omega), st_n (by omega), st_n (by omega), st_n (by omega), st_n (by omega), st_n (by omega)])))) _ _ _ hw hS (lv_sub hl [3, 4, 5, 6, 7, 0] rfl)
            refine lv_aload C.1 C.2.1 dX2_passHour_68 (lv_at hl 1 rfl) ?_
            refine gn3 C hw (4 + i) (by omega) (kd_p (by omega)) 0 (by decide) mn_162 (svi (x := v i 0) ((st_n (by omega)).trans (hB2.2.1 i (by omega) 0 (by decide)))) dX2_passHour_70 ?_
            refine lv_iconst (v := II 5) C.1 C.2.1 dX2_passHour_73 rfl ?_
            refine x_icmp_ne (tgt := 81) C ⟨by omega, by omega⟩ ⟨by decide, by decide⟩ dX2_passHour_74 (by decide) (fun c74 => ?_) (fun c74 => ?_)
            · refine lv_iconst (v := II 0) C.1 C.2.1 dX2_passHour_81 rfl ?_
              exact J82 0 (by first | rw [if_pos (by omega)] | rw [if_neg (by omega)]) _ _ _ hw hS (lv_sub hl [2, 3, 4, 5, 1, 0] rfl)
            · refine lv_iconst (v := II 1) C.1 C.2.1 dX2_passHour_77 rfl ?_
              refine lv_goto (tgt := 82) C.1 C.2.1 dX2_passHour_78 (by decide) ?_
              exact J82 1 (by first | rw [if_pos (by omega)] | rw [if_neg (by omega)]) _ _ _ hw hS (lv_sub hl [2, 3, 4, 5, 1, 0] rfl)
        · refine lv_goto (tgt := 287) C.1 C.2.1 dX2_passHour_40 (by decide) ?_
          exact J287 M2 (fun j hj hv => ha j (by have : j ≠ i := (fun e => c37 (by rw [← e]; exact hv)); omega) hv) (fun j hj hv => hb j (by have : j ≠ i := (fun e => c37 (by rw [← e]; exact hv)); omega) hv) (sm_z hc (if_neg c37)) (by rw [hd, sm, pay1, if_neg c37]; omega) hf _ _ _ hw hS (lv_sub hl [1, 2, 3, 4, 0] rfl)
  exact L9 _ 0 (stM M (44000 + h) 0) (Nat.lt_succ_self _) (by omega) (fun _ h => absurd h (Nat.not_lt_zero _)) (fun _ h => absurd h (Nat.not_lt_zero _)) st_s ((st_n (by omega)).trans (by simp [sm])) (stF (fun _ _ => rfl) (by unfold ph; omega)) _ _ _ hw hS (lv_sub hl [1, 2, 3, 0] rfl)
