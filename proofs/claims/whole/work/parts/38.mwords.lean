def MS (M : Nat → Int) (b : Nat → Int) (n f i k : Nat) : Prop := (TM M b n f ∧ i ≤ n) ∧ (M 70021 = mT b n i ∧ M 70022 = ((tS b n i : Nat) : Int) ∧ (mT b n i ≠ 4 → M 70020 = ((tE b n i : Nat) : Int)) ∧ (mT b n i = 2 → M 70023 = tV b n i) ∧ (mT b n i = 3 → M 70023 = b (tS b n i))) ∧ M 70024 = (k : Int) ∧ M 70025 = 0
def MF (M : Nat → Int) (q k : Nat) : Prop := M 70025 = 1 ∧ M 70026 = (q : Int) ∧ M 70024 = (k : Int)
def MX (M M' : Nat → Int) : Prop := ∀ m, ¬ (70020 ≤ m ∧ m ≤ 70026) → M' m = M m
theorem MX.rfl' {M : Nat → Int} : MX M M := fun _ _ => rfl
theorem MX.tr {M M1 M2 : Nat → Int} (h : MX M M1) (h2 : MX M1 M2) : MX M M2 := fun m hm => (h2 m hm).trans (h m hm)
theorem MX.st {M M1 : Nat → Int} {k : Nat} {x : Int} (h : MX M M1) (hk : 70020 ≤ k ∧ k ≤ 70026) : MX M (stM M1 k x) := fun m hm => (st_n (by omega)).trans (h m hm)
theorem NM.mx {M M' : Nat → Int} {b : Nat → Int} {n i : Nat} (h : NM M M' b n i) : MX M M' := fun m hm => h.2 m (by omega)
theorem MS.next {M M' : Nat → Int} {b : Nat → Int} {n f i k : Nat} (h : MS M b n f i k) (hx : NM M M' b n (tE b n i)) : MS M' b n f (tE b n i) k :=
  ⟨⟨h.1.1.fr (fun m hm => hx.2 m (by omega)), (tE_in h.1.2).2.1⟩, hx.1, (hx.2 _ (by omega)).trans h.2.2.1, (hx.2 _ (by omega)).trans h.2.2.2⟩
theorem MS.op {M : Nat → Int} {b : Nat → Int} {n f i k j : Nat} {x : Int} (h : MS M b n f i k) (hx : x = (j : Int)) : MS (stM M 70024 x) b n f i j := by
  obtain ⟨⟨h1, h2⟩, ⟨g1, g2, g3, g4, g5⟩, h5, h6⟩ := h
  exact ⟨⟨h1.fr (fun m hm => st_n (by omega)), h2⟩, ⟨(st_n (by omega)).trans g1, (st_n (by omega)).trans g2, fun q => (st_n (by omega)).trans (g3 q), fun q => (st_n (by omega)).trans (g4 q), fun q => (st_n (by omega)).trans (g5 q)⟩, st_s.trans hx, (st_n (by omega)).trans h6⟩
theorem MF.op {M : Nat → Int} {q k j : Nat} {x : Int} (h : MF M q k) (hx : x = (j : Int)) : MF (stM M 70024 x) q j := ⟨(st_n (by omega)).trans h.1, (st_n (by omega)).trans h.2.1, st_s.trans hx⟩
theorem mT_in {b : Nat → Int} {n i : Nat} : mT b n i = 0 ∧ tK b n i = 7 ∨ mT b n i = 1 ∧ tK b n i = wdT b (tS b n i) (tE b n i) ∧ ltB (b (tS b n i)) = true ∧ ¬ n ≤ tS b n i ∨ mT b n i = 2 ∧ tK b n i = 0 ∨ mT b n i = 3 ∧ tK b n i = sgT (b (tS b n i)) ∧ tK b n i ≠ 8 ∨ mT b n i = 4 ∧ tK b n i = 8 := by
  unfold mT tK
  by_cases h2 : n ≤ tS b n i
  · rw [if_pos h2, if_pos h2]; exact Or.inl ⟨rfl, rfl⟩
  · rw [if_neg h2, if_neg h2]
    by_cases h3 : ltB (b (tS b n i)) = true
    · rw [if_pos h3, if_pos h3]; exact Or.inr (Or.inl ⟨rfl, rfl, h3, h2⟩)
    · rw [if_neg h3, if_neg h3]
      by_cases h4 : dgB (b (tS b n i)) = true
      · rw [if_pos h4, if_pos h4]
        by_cases h5 : 4 < tE b n i - tS b n i
        · rw [if_pos h5, if_pos h5]; exact Or.inr (Or.inr (Or.inr (Or.inr ⟨rfl, rfl⟩)))
        · rw [if_neg h5, if_neg h5]; exact Or.inr (Or.inr (Or.inl ⟨rfl, rfl⟩))
      · rw [if_neg h4, if_neg h4]
        by_cases h5 : sgT (b (tS b n i)) = 8
        · rw [if_pos h5]; exact Or.inr (Or.inr (Or.inr (Or.inr ⟨rfl, h5⟩)))
        · rw [if_neg h5]; exact Or.inr (Or.inr (Or.inr (Or.inl ⟨rfl, rfl, h5⟩)))
theorem wdT_in {b : Nat → Int} {s e : Nat} : (1 ≤ wdT b s e ∧ wdT b s e ≤ 3) ∨ (-10 ≤ wdT b s e ∧ wdT b s e ≤ -1) ∨ wdT b s e = 8 := by unfold wdT; (repeat' split) <;> omega
theorem sgT_in {x : Int} : (4 ≤ sgT x ∧ sgT x ≤ 6) ∨ (-15 ≤ sgT x ∧ sgT x ≤ -11) ∨ sgT x = 8 := by unfold sgT; (repeat' split) <;> omega
theorem sgT_inj {x y : Int} (h : sgT x = sgT y) (h8 : sgT y ≠ 8) : x = y := by
  unfold sgT at h h8
  (repeat' split at h) <;> (repeat' split at h8) <;> omega
theorem sgn_iff {b : Nat → Int} {n i : Nat} {x tk : Int} (h : sgT x = tk) (h8 : tk ≠ 8) : tK b n i = tk ↔ (mT b n i = 3 ∧ b (tS b n i) = x) := by
  have hs := sgT_in (x := x)
  rcases mT_in (b := b) (n := n) (i := i) with ⟨a, c⟩ | ⟨a, c, -⟩ | ⟨a, c⟩ | ⟨a, c, d⟩ | ⟨a, c⟩
  · rw [a, c]; constructor <;> intro q <;> omega
  · have := wdT_in (b := b) (s := tS b n i) (e := tE b n i)
    rw [a, c]; constructor <;> intro q <;> omega
  · rw [a, c]; constructor <;> intro q <;> omega
  · rw [a, c]
    constructor
    · intro q; exact ⟨rfl, sgT_inj (q.trans h.symm) (by rw [h]; exact h8)⟩
    · rintro ⟨-, q⟩; rw [q, h]
  · rw [a, c]; constructor <;> intro q <;> omega
def lqP (b : Nat → Int) (s e j : Nat) (x : Int) : Prop := (s + j < e ∧ b (s + j) = x) ∨ (¬ s + j < e ∧ x = 0)
theorem spw_iff {L : List Int} {b : Nat → Int} {s e : Nat} : spw L b s e = true ↔ (e - s = L.length ∧ ∀ j, j < L.length → b (s + j) = L.getD j 0) := by
  unfold spw
  rw [Bool.and_eq_true, decide_eq_true_eq, eqL_iff]
theorem getD_0 {L : List Int} {j : Nat} (h : L.length ≤ j) : L.getD j 0 = 0 := by simp [List.getD, List.getElem?_eq_none h]
theorem wq_yes {L : List Int} {b : Nat → Int} {s e : Nat} (hse : s ≤ e) (hlet : ∀ j, s ≤ j → j < e → 97 ≤ b j) (hL : L.length ≤ 7 ∧ ∀ j, j < L.length → L.getD j 0 ≠ 0) (hz : ∀ j, j < 8 → lqP b s e j (L.getD j 0)) : spw L b s e = true := by
  have h1 : ∀ j, j < L.length → s + j < e ∧ b (s + j) = L.getD j 0 := fun j hj => by
    rcases hz j (by omega) with h | h
    · exact h
    · exact absurd h.2 (hL.2 j hj)
  refine spw_iff.mpr ⟨?_, fun j hj => (h1 j hj).2⟩
  have h2 : ¬ s + L.length < e := by
    intro q
    rcases hz L.length (by omega) with h | h
    · have := hlet (s + L.length) (by omega) q
      rw [getD_0 (Nat.le_refl _)] at h
      omega
    · exact h.1 q
  by_cases h0 : L.length = 0
  · omega
  · have := h1 (L.length - 1) (by omega)
    omega
theorem wq_no {L : List Int} {b : Nat → Int} {s e j : Nat} (h : ¬ lqP b s e j (L.getD j 0)) : spw L b s e = false := by
  cases hq : spw L b s e with
  | false => rfl
  | true =>
    exfalso
    obtain ⟨h1, h2⟩ := spw_iff.mp hq
    apply h
    by_cases hj : j < L.length
    · exact Or.inl ⟨by omega, h2 j hj⟩
    · exact Or.inr ⟨by omega, getD_0 (by omega)⟩
theorem wq_long {L : List Int} {b : Nat → Int} {s e : Nat} (hL : L.length ≤ 7) (h : ¬ e ≤ s + 8) : spw L b s e = false := by
  cases hq : spw L b s e with
  | false => rfl
  | true => exfalso; have := (spw_iff.mp hq).1; omega
def wdO (L : List Int) (tk : Int) : Prop := ((1 ≤ tk ∧ tk ≤ 3) ∨ (-10 ≤ tk ∧ tk ≤ -1)) ∧ ∀ (b : Nat → Int) (s e : Nat), wdT b s e = tk ↔ spw L b s e = true
theorem wrd_iff {b : Nat → Int} {n i : Nat} {L : List Int} {tk : Int} (h : wdO L tk) : tK b n i = tk ↔ (mT b n i = 1 ∧ spw L b (tS b n i) (tE b n i) = true) := by
  have h0 := h.1
  rcases mT_in (b := b) (n := n) (i := i) with ⟨a, c⟩ | ⟨a, c, -⟩ | ⟨a, c⟩ | ⟨a, c, d⟩ | ⟨a, c⟩
  · rw [a, c]; constructor <;> intro q <;> omega
  · rw [a, c, h.2]; exact ⟨fun q => ⟨rfl, q⟩, fun q => q.2⟩
  · rw [a, c]; constructor <;> intro q <;> omega
  · have := sgT_in (x := b (tS b n i))
    rw [a, c]; constructor <;> intro q <;> omega
  · rw [a, c]; constructor <;> intro q <;> omega
theorem let_of {b : Nat → Int} {n i : Nat} (h : mT b n i = 1) : ∀ j, tS b n i ≤ j → j < tE b n i → 97 ≤ b j := by
  rcases mT_in (b := b) (n := n) (i := i) with ⟨a, c⟩ | ⟨a, c, d, e⟩ | ⟨a, c⟩ | ⟨a, c, d⟩ | ⟨a, c⟩
  all_goals first | (intro j h1 h2; omega) | skip
  intro j h1 h2
  have eE : tE b n i = sk ltB b n (tS b n i) := by unfold tE; rw [if_neg e, if_pos d]
  rw [eE] at h2
  have := skF_P _ _ j h1 h2
  simp only [ltB, decide_eq_true_eq] at this
  exact this.1
theorem wd_sighs : wdO [115, 105, 103, 104, 115] (1) := by
  refine ⟨by omega, fun b s e => ⟨fun h => ?_, fun h => ?_⟩⟩
  · by_cases hq : spw [115, 105, 103, 104, 115] b s e = true
    · exact hq
    · exfalso
      revert h
      unfold wdT
      rw [Bool.not_eq_true] at hq
      rw [hq]
      simp only [if_neg (show ¬ (false = true) by decide)]
      (repeat' split) <;> first | decide | (intro h; contradiction) | (intro h; omega)
  · simp [spw, eqL] at h
    simp [wdT, spw, eqL, h]
theorem wd_moods : wdO [109, 111, 111, 100, 115] (2) := by
  refine ⟨by omega, fun b s e => ⟨fun h => ?_, fun h => ?_⟩⟩
  · by_cases hq : spw [109, 111, 111, 100, 115] b s e = true
    · exact hq
    · exfalso
      revert h
      unfold wdT
      rw [Bool.not_eq_true] at hq
      rw [hq]
      simp only [if_neg (show ¬ (false = true) by decide)]
      (repeat' split) <;> first | decide | (intro h; contradiction) | (intro h; omega)
  · simp [spw, eqL] at h
    simp [wdT, spw, eqL, h]
theorem wd_pays : wdO [112, 97, 121, 115] (3) := by
  refine ⟨by omega, fun b s e => ⟨fun h => ?_, fun h => ?_⟩⟩
  · by_cases hq : spw [112, 97, 121, 115] b s e = true
    · exact hq
    · exfalso
      revert h
      unfold wdT
      rw [Bool.not_eq_true] at hq
      rw [hq]
      simp only [if_neg (show ¬ (false = true) by decide)]
      (repeat' split) <;> first | decide | (intro h; contradiction) | (intro h; omega)
  · simp [spw, eqL] at h
    simp [wdT, spw, eqL, h]
theorem wd_or : wdO [111, 114] (-9) := by
  refine ⟨by omega, fun b s e => ⟨fun h => ?_, fun h => ?_⟩⟩
  · by_cases hq : spw [111, 114] b s e = true
    · exact hq
    · exfalso
      revert h
      unfold wdT
      rw [Bool.not_eq_true] at hq
      rw [hq]
      simp only [if_neg (show ¬ (false = true) by decide)]
      (repeat' split) <;> first | decide | (intro h; contradiction) | (intro h; omega)
  · simp [spw, eqL] at h
    simp [wdT, spw, eqL, h]
theorem wd_and : wdO [97, 110, 100] (-10) := by
  refine ⟨by omega, fun b s e => ⟨fun h => ?_, fun h => ?_⟩⟩
  · by_cases hq : spw [97, 110, 100] b s e = true
    · exact hq
    · exfalso
      revert h
      unfold wdT
      rw [Bool.not_eq_true] at hq
      rw [hq]
      simp only [if_neg (show ¬ (false = true) by decide)]
      (repeat' split) <;> first | decide | (intro h; contradiction) | (intro h; omega)
  · simp [spw, eqL] at h
    simp [wdT, spw, eqL, h]
theorem wd_not : wdO [110, 111, 116] (-8) := by
  refine ⟨by omega, fun b s e => ⟨fun h => ?_, fun h => ?_⟩⟩
  · by_cases hq : spw [110, 111, 116] b s e = true
    · exact hq
    · exfalso
      revert h
      unfold wdT
      rw [Bool.not_eq_true] at hq
      rw [hq]
      simp only [if_neg (show ¬ (false = true) by decide)]
      (repeat' split) <;> first | decide | (intro h; contradiction) | (intro h; omega)
  · simp [spw, eqL] at h
    simp [wdT, spw, eqL, h]
theorem wd_mood : wdO [109, 111, 111, 100] (-1) := by
  refine ⟨by omega, fun b s e => ⟨fun h => ?_, fun h => ?_⟩⟩
  · by_cases hq : spw [109, 111, 111, 100] b s e = true
    · exact hq
    · exfalso
      revert h
      unfold wdT
      rw [Bool.not_eq_true] at hq
      rw [hq]
      simp only [if_neg (show ¬ (false = true) by decide)]
      (repeat' split) <;> first | decide | (intro h; contradiction) | (intro h; omega)
  · simp [spw, eqL] at h
    simp [wdT, spw, eqL, h]
theorem wd_hour : wdO [104, 111, 117, 114] (-2) := by
  refine ⟨by omega, fun b s e => ⟨fun h => ?_, fun h => ?_⟩⟩
  · by_cases hq : spw [104, 111, 117, 114] b s e = true
    · exact hq
    · exfalso
      revert h
      unfold wdT
      rw [Bool.not_eq_true] at hq
      rw [hq]
      simp only [if_neg (show ¬ (false = true) by decide)]
      (repeat' split) <;> first | decide | (intro h; contradiction) | (intro h; omega)
  · simp [spw, eqL] at h
    simp [wdT, spw, eqL, h]
theorem wd_number : wdO [110, 117, 109, 98, 101, 114] (-3) := by
  refine ⟨by omega, fun b s e => ⟨fun h => ?_, fun h => ?_⟩⟩
  · by_cases hq : spw [110, 117, 109, 98, 101, 114] b s e = true
    · exact hq
    · exfalso
      revert h
      unfold wdT
      rw [Bool.not_eq_true] at hq
      rw [hq]
      simp only [if_neg (show ¬ (false = true) by decide)]
      (repeat' split) <;> first | decide | (intro h; contradiction) | (intro h; omega)
  · simp [spw, eqL] at h
    simp [wdT, spw, eqL, h]
theorem wd_others : wdO [111, 116, 104, 101, 114, 115] (-4) := by
  refine ⟨by omega, fun b s e => ⟨fun h => ?_, fun h => ?_⟩⟩
  · by_cases hq : spw [111, 116, 104, 101, 114, 115] b s e = true
    · exact hq
    · exfalso
      revert h
      unfold wdT
      rw [Bool.not_eq_true] at hq
      rw [hq]
      simp only [if_neg (show ¬ (false = true) by decide)]
      (repeat' split) <;> first | decide | (intro h; contradiction) | (intro h; omega)
  · simp [spw, eqL] at h
    simp [wdT, spw, eqL, h]
theorem wd_house : wdO [104, 111, 117, 115, 101] (-5) := by
  refine ⟨by omega, fun b s e => ⟨fun h => ?_, fun h => ?_⟩⟩
  · by_cases hq : spw [104, 111, 117, 115, 101] b s e = true
    · exact hq
    · exfalso
      revert h
      unfold wdT
      rw [Bool.not_eq_true] at hq
      rw [hq]
      simp only [if_neg (show ¬ (false = true) by decide)]
      (repeat' split) <;> first | decide | (intro h; contradiction) | (intro h; omega)
  · simp [spw, eqL] at h
    simp [wdT, spw, eqL, h]
theorem wd_fools : wdO [102, 111, 111, 108, 115] (-6) := by
  refine ⟨by omega, fun b s e => ⟨fun h => ?_, fun h => ?_⟩⟩
  · by_cases hq : spw [102, 111, 111, 108, 115] b s e = true
    · exact hq
    · exfalso
      revert h
      unfold wdT
      rw [Bool.not_eq_true] at hq
      rw [hq]
      simp only [if_neg (show ¬ (false = true) by decide)]
      (repeat' split) <;> first | decide | (intro h; contradiction) | (intro h; omega)
  · simp [spw, eqL] at h
    simp [wdT, spw, eqL, h]
set_option maxHeartbeats 4000000 in
set_option maxRecDepth 100000 in
theorem c_X8_fail0 (l : Launch) (g : Gm) (M : Nat → Int) (hF : LvF g) (st : Nat) (hta : M 70022 = (st : Int)) (hbad : M 70025 = 0) : CV l ({ cls := "RatedBySighsModel", name := "fail", desc := "()V" } : Jvm.MethodName) cX8_fail 1 (rmm 0 0) g M [.ref (gA g 70)] (fun M' => M' = stM (stM M 70025 1) 70026 (st : Int)) := by
  refine c_start (by decide) (Nat.le_of_ble_eq_true rfl) (fun p e s m below meth c ls C hr hlk hml hw hS hl => ?_)
  have hl : lv_has ls 1 [(0, .ref (gA g 70))] := hl
  have g_M := hw.rg
  have hN : gN g = 84 := hF.1
  have gst := g_M 70022
  rw [hta] at gst
  refine lv_aload_n C.1 C.2.1 dX8_fail_0 rfl (lv_at hl 0 rfl) ?_
  refine g8 C hw 70 (by omega) rfl 25 (by decide) mw_849 (svi (x := 0) hbad) dX8_fail_1 ?_
  refine x_if_ne (tgt := 20) C ⟨by decide, by decide⟩ dX8_fail_4 (by decide) (fun h => absurd h (by decide)) (fun _ => ?_)
  refine lv_aload_n C.1 C.2.1 dX8_fail_7 rfl (lv_at hl 0 rfl) ?_
  refine lv_iconst (v := II 1) C.1 C.2.1 dX8_fail_8 rfl ?_
  refine p8 C hw hS 70 (by omega) rfl 25 (by decide) mw_849 rfl (x := 1) ⟨by decide, by decide⟩ (svi st_s) (tyX8_ok 25 (by decide)) (by decide) (by decide) dX8_fail_9 (fun H locs hw hS => ?_)
  have hw : Wo g (stM M 70025 1) H := hw
  refine lv_aload_n C.1 C.2.1 dX8_fail_12 rfl (lv_at hl 0 rfl) ?_
  refine lv_aload_n C.1 C.2.1 dX8_fail_13 rfl (lv_at hl 0 rfl) ?_
  refine g8 C hw 70 (by omega) rfl 22 (by decide) mw_846 (svi (x := (st : Int)) ((st_n (by decide)).trans hta)) dX8_fail_14 ?_
  refine p8 C hw hS 70 (by omega) rfl 26 (by decide) mw_850 rfl (x := (st : Int)) ⟨by omega, by omega⟩ (svi st_s) (tyX8_ok 26 (by decide)) rfl rfl dX8_fail_17 (fun H locs hw hS => ?_)
  have hw : Wo g (stM (stM M 70025 1) 70026 (st : Int)) H := hw
  exact x_return C hr hlk hw hS rfl dX8_fail_20

set_option maxHeartbeats 4000000 in
set_option maxRecDepth 100000 in
theorem c_X8_fail1 (l : Launch) (g : Gm) (M : Nat → Int) (hF : LvF g) (hbad : M 70025 = 1) : CV l ({ cls := "RatedBySighsModel", name := "fail", desc := "()V" } : Jvm.MethodName) cX8_fail 1 (rmm 0 0) g M [.ref (gA g 70)] (fun M' => M' = M) := by
  refine c_start (by decide) (Nat.le_of_ble_eq_true rfl) (fun p e s m below meth c ls C hr hlk hml hw hS hl => ?_)
  have hl : lv_has ls 1 [(0, .ref (gA g 70))] := hl
  have g_M := hw.rg
  have hN : gN g = 84 := hF.1
  refine lv_aload_n C.1 C.2.1 dX8_fail_0 rfl (lv_at hl 0 rfl) ?_
  refine g8 C hw 70 (by omega) rfl 25 (by decide) mw_849 (svi (x := 1) hbad) dX8_fail_1 ?_
  refine x_if_ne (tgt := 20) C ⟨by decide, by decide⟩ dX8_fail_4 (by decide) (fun _ => ?_) (fun h => absurd h (by decide))
  exact x_return C hr hlk hw hS rfl dX8_fail_20

set_option maxHeartbeats 4000000 in
set_option maxRecDepth 100000 in
theorem c_X8_isSign0 (l : Launch) (g : Gm) (M : Nat → Int) (hF : LvF g) (b : Nat → Int) (n : Nat) (f : Nat) (i : Nat) (k : Nat) (hs : MS M b n f i k) (x : Int) (gx : rg x) (tk : Int) (htk : sgT x = tk ∧ tk ≠ 8) : CI l ({ cls := "RatedBySighsModel", name := "isSign", desc := "(I)Z" } : Jvm.MethodName) cX8_isSign 2 .boolean (rmm 0 0) g M [.ref (gA g 70), .int (II x)] (fun r M' => M' = M ∧ ((r = 1 ∧ (tK b n i = tk)) ∨ (r = 0 ∧ (tK b n i ≠ tk)))) := by
  refine c_start (by decide) (Nat.le_of_ble_eq_true rfl) (fun p e s m below meth c ls C hr hlk hml hw hS hl => ?_)
  have hl : lv_has ls 2 [(0, .ref (gA g 70)), (1, .int (II x))] := hl
  have g_M := hw.rg
  have hN : gN g = 84 := hF.1
  have hiff := sgn_iff (b := b) (n := n) (i := i) htk.1 htk.2
  have hi3 := mT_in (b := b) (n := n) (i := i)
  refine lv_aload_n C.1 C.2.1 dX8_isSign_0 rfl (lv_at hl 0 rfl) ?_
  refine g8 C hw 70 (by omega) rfl 25 (by decide) mw_849 (svi (x := 0) hs.2.2.2) dX8_isSign_1 ?_
  refine x_if_ne (tgt := 29) C ⟨by decide, by decide⟩ dX8_isSign_4 (by decide) (fun h => absurd h (by decide)) (fun _ => ?_)
  refine lv_aload_n C.1 C.2.1 dX8_isSign_7 rfl (lv_at hl 0 rfl) ?_
  refine g8 C hw 70 (by omega) rfl 21 (by decide) mw_845 (svi (x := mT b n i) hs.2.1.1) dX8_isSign_8 ?_
  refine lv_iconst (v := II 3) C.1 C.2.1 dX8_isSign_11 rfl ?_
  refine x_icmp_ne (tgt := 29) C ⟨by have := g_M 70021; have := hs.2.1.1; omega, by have := g_M 70021; have := hs.2.1.1; omega⟩ ⟨by decide, by decide⟩ dX8_isSign_12 (by decide) (fun c12 => ?_) (fun c12 => ?_)
  · refine lv_iconst (v := II 0) C.1 C.2.1 dX8_isSign_29 rfl ?_
    exact x_ireturn C hr hlk hw hS ⟨by decide, by decide⟩ (by decide) ⟨rfl, Or.inr ⟨rfl, fun q => by have := hiff.mp q; omega⟩⟩ dX8_isSign_30
  · refine lv_aload_n C.1 C.2.1 dX8_isSign_15 rfl (lv_at hl 0 rfl) ?_
    refine g8 C hw 70 (by omega) rfl 23 (by decide) mw_847 (svl (x := b (tS b n i)) (hs.2.1.2.2.2.2 (by omega))) dX8_isSign_16 ?_
    refine lv_iload_n C.1 C.2.1 dX8_isSign_19 rfl (lv_at hl 1 rfl) ?_
    refine x_i2l C gx dX8_isSign_20 ?_
    refine x_lcmp C ⟨by have := g_M 70023; have := (hs.2.1.2.2.2.2 (by omega)); omega, by have := g_M 70023; have := (hs.2.1.2.2.2.2 (by omega)); omega⟩ gx dX8_isSign_21 ?_
    refine x_if_ne (tgt := 29) C (cmpI_rg _ _) dX8_isSign_22 (by decide) (fun c22 => ?_) (fun c22 => ?_)
    · have c22 := (not_congr cmpI_eq).mp (by omega)
      refine lv_iconst (v := II 0) C.1 C.2.1 dX8_isSign_29 rfl ?_
      exact x_ireturn C hr hlk hw hS ⟨by decide, by decide⟩ (by decide) ⟨rfl, Or.inr ⟨rfl, fun q => by have := hiff.mp q; omega⟩⟩ dX8_isSign_30
    · have c22 := cmpI_eq.mp (by omega)
      refine lv_iconst (v := II 1) C.1 C.2.1 dX8_isSign_25 rfl ?_
      refine lv_goto (tgt := 30) C.1 C.2.1 dX8_isSign_26 (by decide) ?_
      exact x_ireturn C hr hlk hw hS ⟨by decide, by decide⟩ (by decide) ⟨rfl, Or.inl ⟨rfl, hiff.mpr ⟨by omega, by omega⟩⟩⟩ dX8_isSign_30

set_option maxHeartbeats 4000000 in
set_option maxRecDepth 100000 in
theorem c_X8_isSign1 (l : Launch) (g : Gm) (M : Nat → Int) (hF : LvF g) (hbad : M 70025 = 1) (x : Int) (gx : rg x) : CI l ({ cls := "RatedBySighsModel", name := "isSign", desc := "(I)Z" } : Jvm.MethodName) cX8_isSign 2 .boolean (rmm 0 0) g M [.ref (gA g 70), .int (II x)] (fun r M' => M' = M ∧ r = 0) := by
  refine c_start (by decide) (Nat.le_of_ble_eq_true rfl) (fun p e s m below meth c ls C hr hlk hml hw hS hl => ?_)
  have hl : lv_has ls 2 [(0, .ref (gA g 70)), (1, .int (II x))] := hl
  have g_M := hw.rg
  have hN : gN g = 84 := hF.1
  refine lv_aload_n C.1 C.2.1 dX8_isSign_0 rfl (lv_at hl 0 rfl) ?_
  refine g8 C hw 70 (by omega) rfl 25 (by decide) mw_849 (svi (x := 1) hbad) dX8_isSign_1 ?_
  refine x_if_ne (tgt := 29) C ⟨by decide, by decide⟩ dX8_isSign_4 (by decide) (fun _ => ?_) (fun h => absurd h (by decide))
  refine lv_iconst (v := II 0) C.1 C.2.1 dX8_isSign_29 rfl ?_
  exact x_ireturn C hr hlk hw hS ⟨by decide, by decide⟩ (by decide) ⟨rfl, rfl⟩ dX8_isSign_30

set_option maxHeartbeats 4000000 in
set_option maxRecDepth 100000 in
theorem c_X8_isLetter (l : Launch) (g : Gm) (M : Nat → Int) (hF : LvF g) (b : Nat → Int) (n : Nat) (f : Nat) (hb : TM M b n f) (s0 : Nat) (e0 : Nat) (hse : s0 ≤ e0 ∧ e0 ≤ n) (ha : M 70020 = (e0 : Int)) (hs : M 70022 = (s0 : Int)) (j : Nat) (hj : j < 8) (x : Int) (gx : rg x) : CI l ({ cls := "RatedBySighsModel", name := "isLetter", desc := "(II)Z" } : Jvm.MethodName) cX8_isLetter 3 .boolean (rmm 1 21) g M [.ref (gA g 70), .int (II (j : Int)), .int (II x)] (fun r M' => M' = M ∧ ((r = 1 ∧ (lqP b s0 e0 j x)) ∨ (r = 0 ∧ (¬ lqP b s0 e0 j x)))) := by
  refine c_start (by decide) (Nat.le_of_ble_eq_true rfl) (fun p e s m below meth c ls C hr hlk hml hw hS hl => ?_)
  have hl : lv_has ls 3 [(0, .ref (gA g 70)), (1, .int (II (j : Int))), (2, .int (II x))] := hl
  have g_M := hw.rg
  have hN : gN g = 84 := hF.1
  have hn1 := hb.2.2.1
  have hbx := bA_in (i := s0 + j) hb
  refine lv_aload_n C.1 C.2.1 dX8_isLetter_0 rfl (lv_at hl 0 rfl) ?_
  refine g8 C hw 70 (by omega) rfl 22 (by decide) mw_846 (svi (x := (s0 : Int)) hs) dX8_isLetter_1 ?_
  refine lv_iload_n C.1 C.2.1 dX8_isLetter_4 rfl (lv_at hl 1 rfl) ?_
  refine x_iadd C dX8_isLetter_5 ?_
  refine lv_aload_n C.1 C.2.1 dX8_isLetter_6 rfl (lv_at hl 0 rfl) ?_
  refine g8 C hw 70 (by omega) rfl 20 (by decide) mw_844 (svi (x := (e0 : Int)) ha) dX8_isLetter_7 ?_
  refine x_icmp_ge (tgt := 35) C ⟨by have := g_M 70022; have := hs; omega, by have := g_M 70022; have := hs; omega⟩ ⟨by have := g_M 70020; have := ha; omega, by have := g_M 70020; have := ha; omega⟩ dX8_isLetter_10 (by decide) (fun c10 => ?_) (fun c10 => ?_)
  · refine lv_iload_n C.1 C.2.1 dX8_isLetter_35 rfl (lv_at hl 2 rfl) ?_
    refine x_if_ne (tgt := 43) C gx dX8_isLetter_36 (by decide) (fun c36 => ?_) (fun c36 => ?_)
    · refine lv_iconst (v := II 0) C.1 C.2.1 dX8_isLetter_43 rfl ?_
      exact x_ireturn C hr hlk hw hS ⟨by decide, by decide⟩ (by decide) ⟨rfl, Or.inr ⟨rfl, by unfold lqP; have h9 := hbx.2.2.2; omega⟩⟩ dX8_isLetter_44
    · refine lv_iconst (v := II 1) C.1 C.2.1 dX8_isLetter_39 rfl ?_
      refine lv_goto (tgt := 44) C.1 C.2.1 dX8_isLetter_40 (by decide) ?_
      exact x_ireturn C hr hlk hw hS ⟨by decide, by decide⟩ (by decide) ⟨rfl, Or.inl ⟨rfl, by unfold lqP; have h9 := hbx.2.2.2; omega⟩⟩ dX8_isLetter_44
  · refine lv_aload_n C.1 C.2.1 dX8_isLetter_13 rfl (lv_at hl 0 rfl) ?_
    refine lv_aload_n C.1 C.2.1 dX8_isLetter_14 rfl (lv_at hl 0 rfl) ?_
    refine g8 C hw 70 (by omega) rfl 22 (by decide) mw_846 (svi (x := (s0 : Int)) hs) dX8_isLetter_15 ?_
    refine lv_iload_n C.1 C.2.1 dX8_isLetter_18 rfl (lv_at hl 1 rfl) ?_
    refine x_iadd C dX8_isLetter_19 ?_
    refine x_ci (x_runV (n := 1) C hw hS hml hl.1 70 8 (by omega) rfl (by decide) rfl (c_X8_byteAt l g M hF b n f hb (s0 + j) (by omega)) mw_1007 mw_1009 mw_61 mw_130 mw_1010 rfl rfl (by decide +kernel) ⟨Nat.le_of_ble_eq_true rfl, Nat.le_of_ble_eq_true rfl⟩ rfl rfl (Nat.le_of_ble_eq_true rfl) dX8_isLetter_20 ⟨Nat.zero_le _, Nat.zero_le _⟩) hS (fun r20 M20 H locs hr20 hp hw hS => ?_)
    obtain ⟨em20, er20⟩ := hp
    have hw : Wo g M H := em20 ▸ hw
    rw [er20] at hr20 ⊢
    refine lv_iload_n C.1 C.2.1 dX8_isLetter_23 rfl (lv_at hl 2 rfl) ?_
    refine x_icmp_ne (tgt := 31) C hr20 gx dX8_isLetter_24 (by decide) (fun c24 => ?_) (fun c24 => ?_)
    · refine lv_iconst (v := II 0) C.1 C.2.1 dX8_isLetter_31 rfl ?_
      refine lv_goto (tgt := 44) C.1 C.2.1 dX8_isLetter_32 (by decide) ?_
      exact x_ireturn C hr hlk hw hS ⟨by decide, by decide⟩ (by decide) ⟨rfl, Or.inr ⟨rfl, by unfold lqP; have h9 := hbx.2.2.2; omega⟩⟩ dX8_isLetter_44
    · refine lv_iconst (v := II 1) C.1 C.2.1 dX8_isLetter_27 rfl ?_
      refine lv_goto (tgt := 44) C.1 C.2.1 dX8_isLetter_28 (by decide) ?_
      exact x_ireturn C hr hlk hw hS ⟨by decide, by decide⟩ (by decide) ⟨rfl, Or.inl ⟨rfl, by unfold lqP; have h9 := hbx.2.2.2; omega⟩⟩ dX8_isLetter_44

set_option maxHeartbeats 4000000 in
set_option maxRecDepth 100000 in
theorem c_X8_isWord0 (l : Launch) (g : Gm) (M : Nat → Int) (hF : LvF g) (b : Nat → Int) (n : Nat) (f : Nat) (i : Nat) (k : Nat) (hs : MS M b n f i k) (L : List Int) (tk : Int) (a0 : Int) (ga0 : rg a0) (a1 : Int) (ga1 : rg a1) (a2 : Int) (ga2 : rg a2) (a3 : Int) (ga3 : rg a3) (a4 : Int) (ga4 : rg a4) (a5 : Int) (ga5 : rg a5) (a6 : Int) (ga6 : rg a6) (a7 : Int) (ga7 : rg a7) (hL : L.length ≤ 7 ∧ (∀ j, j < L.length → L.getD j 0 ≠ 0) ∧ L.getD 0 0 = a0 ∧ L.getD 1 0 = a1 ∧ L.getD 2 0 = a2 ∧ L.getD 3 0 = a3 ∧ L.getD 4 0 = a4 ∧ L.getD 5 0 = a5 ∧ L.getD 6 0 = a6 ∧ L.getD 7 0 = a7) (hwo : wdO L tk) : CI l ({ cls := "RatedBySighsModel", name := "isWord", desc := "(IIIIIIII)Z" } : Jvm.MethodName) cX8_isWord 9 .boolean (rmm 2 43) g M [.ref (gA g 70), .int (II a0), .int (II a1), .int (II a2), .int (II a3), .int (II a4), .int (II a5), .int (II a6), .int (II a7)] (fun r M' => M' = M ∧ ((r = 1 ∧ (tK b n i = tk)) ∨ (r = 0 ∧ (tK b n i ≠ tk)))) := by
  refine c_start (by decide) (Nat.le_of_ble_eq_true rfl) (fun p e s m below meth c ls C hr hlk hml hw hS hl => ?_)
  have hl : lv_has ls 9 [(0, .ref (gA g 70)), (1, .int (II a0)), (2, .int (II a1)), (3, .int (II a2)), (4, .int (II a3)), (5, .int (II a4)), (6, .int (II a5)), (7, .int (II a6)), (8, .int (II a7))] := hl
  have g_M := hw.rg
  have hN : gN g = 84 := hF.1
  have hiff := wrd_iff (b := b) (n := n) (i := i) hwo
  have hi3 := mT_in (b := b) (n := n) (i := i)
  have hse := tE_in (b := b) hs.1.2
  have hn1 := hs.1.1.2.2.1
  refine lv_aload_n C.1 C.2.1 dX8_isWord_0 rfl (lv_at hl 0 rfl) ?_
  refine g8 C hw 70 (by omega) rfl 25 (by decide) mw_849 (svi (x := 0) hs.2.2.2) dX8_isWord_1 ?_
  refine x_if_ne (tgt := 112) C ⟨by decide, by decide⟩ dX8_isWord_4 (by decide) (fun h => absurd h (by decide)) (fun _ => ?_)
  refine lv_aload_n C.1 C.2.1 dX8_isWord_7 rfl (lv_at hl 0 rfl) ?_
  refine g8 C hw 70 (by omega) rfl 21 (by decide) mw_845 (svi (x := mT b n i) hs.2.1.1) dX8_isWord_8 ?_
  refine lv_iconst (v := II 1) C.1 C.2.1 dX8_isWord_11 rfl ?_
  refine x_icmp_ne (tgt := 112) C ⟨by have := g_M 70021; have := hs.2.1.1; omega, by have := g_M 70021; have := hs.2.1.1; omega⟩ ⟨by decide, by decide⟩ dX8_isWord_12 (by decide) (fun c12 => ?_) (fun c12 => ?_)
  · refine lv_iconst (v := II 0) C.1 C.2.1 dX8_isWord_112 rfl ?_
    exact x_ireturn C hr hlk hw hS ⟨by decide, by decide⟩ (by decide) ⟨rfl, Or.inr ⟨rfl, fun q => by
      have hq := hiff.mp q
      first
      | (exfalso; omega)
      | (have h9 := wq_long (b := b) (s := tS b n i) (e := tE b n i) hL.1 (by omega); rw [h9] at hq; exact absurd hq.2 (by decide))
      | (have h9 := wq_no (L := L) (j := 0) (by rw [hL.2.2.1]; exact h32b); rw [h9] at hq; exact absurd hq.2 (by decide))
      | (have h9 := wq_no (L := L) (j := 1) (by rw [hL.2.2.2.1]; exact h41b); rw [h9] at hq; exact absurd hq.2 (by decide))
      | (have h9 := wq_no (L := L) (j := 2) (by rw [hL.2.2.2.2.1]; exact h50b); rw [h9] at hq; exact absurd hq.2 (by decide))
      | (have h9 := wq_no (L := L) (j := 3) (by rw [hL.2.2.2.2.2.1]; exact h60b); rw [h9] at hq; exact absurd hq.2 (by decide))
      | (have h9 := wq_no (L := L) (j := 4) (by rw [hL.2.2.2.2.2.2.1]; exact h70b); rw [h9] at hq; exact absurd hq.2 (by decide))
      | (have h9 := wq_no (L := L) (j := 5) (by rw [hL.2.2.2.2.2.2.2.1]; exact h80b); rw [h9] at hq; exact absurd hq.2 (by decide))
      | (have h9 := wq_no (L := L) (j := 6) (by rw [hL.2.2.2.2.2.2.2.2.1]; exact h91b); rw [h9] at hq; exact absurd hq.2 (by decide))
      | (have h9 := wq_no (L := L) (j := 7) (by rw [hL.2.2.2.2.2.2.2.2.2]; exact h102b); rw [h9] at hq; exact absurd hq.2 (by decide))⟩⟩ dX8_isWord_113
  · refine lv_aload_n C.1 C.2.1 dX8_isWord_15 rfl (lv_at hl 0 rfl) ?_
    refine g8 C hw 70 (by omega) rfl 20 (by decide) mw_844 (svi (x := ((tE b n i : Nat) : Int)) (hs.2.1.2.2.1 (by omega))) dX8_isWord_16 ?_
    refine lv_aload_n C.1 C.2.1 dX8_isWord_19 rfl (lv_at hl 0 rfl) ?_
    refine g8 C hw 70 (by omega) rfl 22 (by decide) mw_846 (svi (x := ((tS b n i : Nat) : Int)) hs.2.1.2.1) dX8_isWord_20 ?_
    refine lv_bipush (v := II 8) C.1 C.2.1 dX8_isWord_23 (by decide) ?_
    refine x_iadd C dX8_isWord_25 ?_
    refine x_icmp_gt (tgt := 112) C ⟨by have := g_M 70020; have := (hs.2.1.2.2.1 (by omega)); omega, by have := g_M 70020; have := (hs.2.1.2.2.1 (by omega)); omega⟩ ⟨by have := g_M 70022; have := hs.2.1.2.1; omega, by have := g_M 70022; have := hs.2.1.2.1; omega⟩ dX8_isWord_26 (by decide) (fun c26 => ?_) (fun c26 => ?_)
    · refine lv_iconst (v := II 0) C.1 C.2.1 dX8_isWord_112 rfl ?_
      exact x_ireturn C hr hlk hw hS ⟨by decide, by decide⟩ (by decide) ⟨rfl, Or.inr ⟨rfl, fun q => by
      have hq := hiff.mp q
      first
      | (exfalso; omega)
      | (have h9 := wq_long (b := b) (s := tS b n i) (e := tE b n i) hL.1 (by omega); rw [h9] at hq; exact absurd hq.2 (by decide))
      | (have h9 := wq_no (L := L) (j := 0) (by rw [hL.2.2.1]; exact h32b); rw [h9] at hq; exact absurd hq.2 (by decide))
      | (have h9 := wq_no (L := L) (j := 1) (by rw [hL.2.2.2.1]; exact h41b); rw [h9] at hq; exact absurd hq.2 (by decide))
      | (have h9 := wq_no (L := L) (j := 2) (by rw [hL.2.2.2.2.1]; exact h50b); rw [h9] at hq; exact absurd hq.2 (by decide))
      | (have h9 := wq_no (L := L) (j := 3) (by rw [hL.2.2.2.2.2.1]; exact h60b); rw [h9] at hq; exact absurd hq.2 (by decide))
      | (have h9 := wq_no (L := L) (j := 4) (by rw [hL.2.2.2.2.2.2.1]; exact h70b); rw [h9] at hq; exact absurd hq.2 (by decide))
      | (have h9 := wq_no (L := L) (j := 5) (by rw [hL.2.2.2.2.2.2.2.1]; exact h80b); rw [h9] at hq; exact absurd hq.2 (by decide))
      | (have h9 := wq_no (L := L) (j := 6) (by rw [hL.2.2.2.2.2.2.2.2.1]; exact h91b); rw [h9] at hq; exact absurd hq.2 (by decide))
      | (have h9 := wq_no (L := L) (j := 7) (by rw [hL.2.2.2.2.2.2.2.2.2]; exact h102b); rw [h9] at hq; exact absurd hq.2 (by decide))⟩⟩ dX8_isWord_113
    · refine lv_aload_n C.1 C.2.1 dX8_isWord_29 rfl (lv_at hl 0 rfl) ?_
      refine lv_iconst (v := II 0) C.1 C.2.1 dX8_isWord_30 rfl ?_
      refine lv_iload_n C.1 C.2.1 dX8_isWord_31 rfl (lv_at hl 1 rfl) ?_
      refine x_ci (x_runV (n := 2) C hw hS hml hl.1 70 8 (by omega) rfl (by decide) rfl (c_X8_isLetter l g M hF b n f hs.1.1 (tS b n i) (tE b n i) ⟨hse.1, hse.2.1⟩ (hs.2.1.2.2.1 (by omega)) hs.2.1.2.1 0 (by first | assumption | omega | exact ⟨by omega, by omega⟩ | decide) a0 ga0) mw_1019 mw_1021 mw_63 mw_130 mw_1022 rfl rfl (by decide +kernel) ⟨Nat.le_of_ble_eq_true rfl, Nat.le_of_ble_eq_true rfl⟩ rfl rfl (Nat.le_of_ble_eq_true rfl) dX8_isWord_32 ⟨Nat.zero_le _, Nat.zero_le _⟩) hS (fun r32 M32 H locs hr32 hp hw hS => ?_)
      rcases hp with ⟨em32, (⟨er32, h32b⟩ | ⟨er32, h32b⟩)⟩
      · have hw : Wo g M H := em32 ▸ hw
        rw [er32]
        refine x_if_eq (tgt := 112) C ⟨by decide, by decide⟩ dX8_isWord_35 (by decide) (fun h => absurd h (by decide)) (fun _ => ?_)
        refine lv_aload_n C.1 C.2.1 dX8_isWord_38 rfl (lv_at hl 0 rfl) ?_
        refine lv_iconst (v := II 1) C.1 C.2.1 dX8_isWord_39 rfl ?_
        refine lv_iload_n C.1 C.2.1 dX8_isWord_40 rfl (lv_at hl 2 rfl) ?_
        refine x_ci (x_runV (n := 2) C hw hS hml hl.1 70 8 (by omega) rfl (by decide) rfl (c_X8_isLetter l g M hF b n f hs.1.1 (tS b n i) (tE b n i) ⟨hse.1, hse.2.1⟩ (hs.2.1.2.2.1 (by omega)) hs.2.1.2.1 1 (by first | assumption | omega | exact ⟨by omega, by omega⟩ | decide) a1 ga1) mw_1019 mw_1021 mw_63 mw_130 mw_1022 rfl rfl (by decide +kernel) ⟨Nat.le_of_ble_eq_true rfl, Nat.le_of_ble_eq_true rfl⟩ rfl rfl (Nat.le_of_ble_eq_true rfl) dX8_isWord_41 ⟨Nat.zero_le _, Nat.zero_le _⟩) hS (fun r41 M41 H locs hr41 hp hw hS => ?_)
        rcases hp with ⟨em41, (⟨er41, h41b⟩ | ⟨er41, h41b⟩)⟩
        · have hw : Wo g M H := em41 ▸ hw
          rw [er41]
          refine x_if_eq (tgt := 112) C ⟨by decide, by decide⟩ dX8_isWord_44 (by decide) (fun h => absurd h (by decide)) (fun _ => ?_)
          refine lv_aload_n C.1 C.2.1 dX8_isWord_47 rfl (lv_at hl 0 rfl) ?_
          refine lv_iconst (v := II 2) C.1 C.2.1 dX8_isWord_48 rfl ?_
          refine lv_iload_n C.1 C.2.1 dX8_isWord_49 rfl (lv_at hl 3 rfl) ?_
          refine x_ci (x_runV (n := 2) C hw hS hml hl.1 70 8 (by omega) rfl (by decide) rfl (c_X8_isLetter l g M hF b n f hs.1.1 (tS b n i) (tE b n i) ⟨hse.1, hse.2.1⟩ (hs.2.1.2.2.1 (by omega)) hs.2.1.2.1 2 (by first | assumption | omega | exact ⟨by omega, by omega⟩ | decide) a2 ga2) mw_1019 mw_1021 mw_63 mw_130 mw_1022 rfl rfl (by decide +kernel) ⟨Nat.le_of_ble_eq_true rfl, Nat.le_of_ble_eq_true rfl⟩ rfl rfl (Nat.le_of_ble_eq_true rfl) dX8_isWord_50 ⟨Nat.zero_le _, Nat.zero_le _⟩) hS (fun r50 M50 H locs hr50 hp hw hS => ?_)
          rcases hp with ⟨em50, (⟨er50, h50b⟩ | ⟨er50, h50b⟩)⟩
          · have hw : Wo g M H := em50 ▸ hw
            rw [er50]
            refine x_if_eq (tgt := 112) C ⟨by decide, by decide⟩ dX8_isWord_53 (by decide) (fun h => absurd h (by decide)) (fun _ => ?_)
            refine lv_aload_n C.1 C.2.1 dX8_isWord_56 rfl (lv_at hl 0 rfl) ?_
            refine lv_iconst (v := II 3) C.1 C.2.1 dX8_isWord_57 rfl ?_
            refine lv_iload C.1 C.2.1 dX8_isWord_58 (lv_at hl 4 rfl) ?_
            refine x_ci (x_runV (n := 2) C hw hS hml hl.1 70 8 (by omega) rfl (by decide) rfl (c_X8_isLetter l g M hF b n f hs.1.1 (tS b n i) (tE b n i) ⟨hse.1, hse.2.1⟩ (hs.2.1.2.2.1 (by omega)) hs.2.1.2.1 3 (by first | assumption | omega | exact ⟨by omega, by omega⟩ | decide) a3 ga3) mw_1019 mw_1021 mw_63 mw_130 mw_1022 rfl rfl (by decide +kernel) ⟨Nat.le_of_ble_eq_true rfl, Nat.le_of_ble_eq_true rfl⟩ rfl rfl (Nat.le_of_ble_eq_true rfl) dX8_isWord_60 ⟨Nat.zero_le _, Nat.zero_le _⟩) hS (fun r60 M60 H locs hr60 hp hw hS => ?_)
            rcases hp with ⟨em60, (⟨er60, h60b⟩ | ⟨er60, h60b⟩)⟩
            · have hw : Wo g M H := em60 ▸ hw
              rw [er60]
              refine x_if_eq (tgt := 112) C ⟨by decide, by decide⟩ dX8_isWord_63 (by decide) (fun h => absurd h (by decide)) (fun _ => ?_)
              refine lv_aload_n C.1 C.2.1 dX8_isWord_66 rfl (lv_at hl 0 rfl) ?_
              refine lv_iconst (v := II 4) C.1 C.2.1 dX8_isWord_67 rfl ?_
              refine lv_iload C.1 C.2.1 dX8_isWord_68 (lv_at hl 5 rfl) ?_
              refine x_ci (x_runV (n := 2) C hw hS hml hl.1 70 8 (by omega) rfl (by decide) rfl (c_X8_isLetter l g M hF b n f hs.1.1 (tS b n i) (tE b n i) ⟨hse.1, hse.2.1⟩ (hs.2.1.2.2.1 (by omega)) hs.2.1.2.1 4 (by first | assumption | omega | exact ⟨by omega, by omega⟩ | decide) a4 ga4) mw_1019 mw_1021 mw_63 mw_130 mw_1022 rfl rfl (by decide +kernel) ⟨Nat.le_of_ble_eq_true rfl, Nat.le_of_ble_eq_true rfl⟩ rfl rfl (Nat.le_of_ble_eq_true rfl) dX8_isWord_70 ⟨Nat.zero_le _, Nat.zero_le _⟩) hS (fun r70 M70 H locs hr70 hp hw hS => ?_)
              rcases hp with ⟨em70, (⟨er70, h70b⟩ | ⟨er70, h70b⟩)⟩
              · have hw : Wo g M H := em70 ▸ hw
                rw [er70]
                refine x_if_eq (tgt := 112) C ⟨by decide, by decide⟩ dX8_isWord_73 (by decide) (fun h => absurd h (by decide)) (fun _ => ?_)
                refine lv_aload_n C.1 C.2.1 dX8_isWord_76 rfl (lv_at hl 0 rfl) ?_
                refine lv_iconst (v := II 5) C.1 C.2.1 dX8_isWord_77 rfl ?_
                refine lv_iload C.1 C.2.1 dX8_isWord_78 (lv_at hl 6 rfl) ?_
                refine x_ci (x_runV (n := 2) C hw hS hml hl.1 70 8 (by omega) rfl (by decide) rfl (c_X8_isLetter l g M hF b n f hs.1.1 (tS b n i) (tE b n i) ⟨hse.1, hse.2.1⟩ (hs.2.1.2.2.1 (by omega)) hs.2.1.2.1 5 (by first | assumption | omega | exact ⟨by omega, by omega⟩ | decide) a5 ga5) mw_1019 mw_1021 mw_63 mw_130 mw_1022 rfl rfl (by decide +kernel) ⟨Nat.le_of_ble_eq_true rfl, Nat.le_of_ble_eq_true rfl⟩ rfl rfl (Nat.le_of_ble_eq_true rfl) dX8_isWord_80 ⟨Nat.zero_le _, Nat.zero_le _⟩) hS (fun r80 M80 H locs hr80 hp hw hS => ?_)
                rcases hp with ⟨em80, (⟨er80, h80b⟩ | ⟨er80, h80b⟩)⟩
                · have hw : Wo g M H := em80 ▸ hw
                  rw [er80]
                  refine x_if_eq (tgt := 112) C ⟨by decide, by decide⟩ dX8_isWord_83 (by decide) (fun h => absurd h (by decide)) (fun _ => ?_)
                  refine lv_aload_n C.1 C.2.1 dX8_isWord_86 rfl (lv_at hl 0 rfl) ?_
                  refine lv_bipush (v := II 6) C.1 C.2.1 dX8_isWord_87 (by decide) ?_
                  refine lv_iload C.1 C.2.1 dX8_isWord_89 (lv_at hl 7 rfl) ?_
                  refine x_ci (x_runV (n := 2) C hw hS hml hl.1 70 8 (by omega) rfl (by decide) rfl (c_X8_isLetter l g M hF b n f hs.1.1 (tS b n i) (tE b n i) ⟨hse.1, hse.2.1⟩ (hs.2.1.2.2.1 (by omega)) hs.2.1.2.1 6 (by first | assumption | omega | exact ⟨by omega, by omega⟩ | decide) a6 ga6) mw_1019 mw_1021 mw_63 mw_130 mw_1022 rfl rfl (by decide +kernel) ⟨Nat.le_of_ble_eq_true rfl, Nat.le_of_ble_eq_true rfl⟩ rfl rfl (Nat.le_of_ble_eq_true rfl) dX8_isWord_91 ⟨Nat.zero_le _, Nat.zero_le _⟩) hS (fun r91 M91 H locs hr91 hp hw hS => ?_)
                  rcases hp with ⟨em91, (⟨er91, h91b⟩ | ⟨er91, h91b⟩)⟩
                  · have hw : Wo g M H := em91 ▸ hw
                    rw [er91]
                    refine x_if_eq (tgt := 112) C ⟨by decide, by decide⟩ dX8_isWord_94 (by decide) (fun h => absurd h (by decide)) (fun _ => ?_)
                    refine lv_aload_n C.1 C.2.1 dX8_isWord_97 rfl (lv_at hl 0 rfl) ?_
                    refine lv_bipush (v := II 7) C.1 C.2.1 dX8_isWord_98 (by decide) ?_
                    refine lv_iload C.1 C.2.1 dX8_isWord_100 (lv_at hl 8 rfl) ?_
                    refine x_ci (x_runV (n := 2) C hw hS hml hl.1 70 8 (by omega) rfl (by decide) rfl (c_X8_isLetter l g M hF b n f hs.1.1 (tS b n i) (tE b n i) ⟨hse.1, hse.2.1⟩ (hs.2.1.2.2.1 (by omega)) hs.2.1.2.1 7 (by first | assumption | omega | exact ⟨by omega, by omega⟩ | decide) a7 ga7) mw_1019 mw_1021 mw_63 mw_130 mw_1022 rfl rfl (by decide +kernel) ⟨Nat.le_of_ble_eq_true rfl, Nat.le_of_ble_eq_true rfl⟩ rfl rfl (Nat.le_of_ble_eq_true rfl) dX8_isWord_102 ⟨Nat.zero_le _, Nat.zero_le _⟩) hS (fun r102 M102 H locs hr102 hp hw hS => ?_)
                    rcases hp with ⟨em102, (⟨er102, h102b⟩ | ⟨er102, h102b⟩)⟩
                    · have hw : Wo g M H := em102 ▸ hw
                      rw [er102]
                      refine x_if_eq (tgt := 112) C ⟨by decide, by decide⟩ dX8_isWord_105 (by decide) (fun h => absurd h (by decide)) (fun _ => ?_)
                      refine lv_iconst (v := II 1) C.1 C.2.1 dX8_isWord_108 rfl ?_
                      refine lv_goto (tgt := 113) C.1 C.2.1 dX8_isWord_109 (by decide) ?_
                      exact x_ireturn C hr hlk hw hS ⟨by decide, by decide⟩ (by decide) ⟨rfl, Or.inl ⟨rfl, hiff.mpr ⟨by omega, wq_yes hse.1 (let_of (by omega)) ⟨hL.1, hL.2.1⟩ (fun j hj => by
      rcases (show j = 0 ∨ j = 1 ∨ j = 2 ∨ j = 3 ∨ j = 4 ∨ j = 5 ∨ j = 6 ∨ j = 7 by omega) with rfl | rfl | rfl | rfl | rfl | rfl | rfl | rfl
      · rw [hL.2.2.1]; exact h32b
      · rw [hL.2.2.2.1]; exact h41b
      · rw [hL.2.2.2.2.1]; exact h50b
      · rw [hL.2.2.2.2.2.1]; exact h60b
      · rw [hL.2.2.2.2.2.2.1]; exact h70b
      · rw [hL.2.2.2.2.2.2.2.1]; exact h80b
      · rw [hL.2.2.2.2.2.2.2.2.1]; exact h91b
      · rw [hL.2.2.2.2.2.2.2.2.2]; exact h102b)⟩⟩⟩ dX8_isWord_113
                    · have hw : Wo g M H := em102 ▸ hw
                      rw [er102]
                      refine x_if_eq (tgt := 112) C ⟨by decide, by decide⟩ dX8_isWord_105 (by decide) (fun _ => ?_) (fun h => absurd h (by decide))
                      refine lv_iconst (v := II 0) C.1 C.2.1 dX8_isWord_112 rfl ?_
                      exact x_ireturn C hr hlk hw hS ⟨by decide, by decide⟩ (by decide) ⟨rfl, Or.inr ⟨rfl, fun q => by
      have hq := hiff.mp q
      first
      | (exfalso; omega)
      | (have h9 := wq_long (b := b) (s := tS b n i) (e := tE b n i) hL.1 (by omega); rw [h9] at hq; exact absurd hq.2 (by decide))
      | (have h9 := wq_no (L := L) (j := 0) (by rw [hL.2.2.1]; exact h32b); rw [h9] at hq; exact absurd hq.2 (by decide))
      | (have h9 := wq_no (L := L) (j := 1) (by rw [hL.2.2.2.1]; exact h41b); rw [h9] at hq; exact absurd hq.2 (by decide))
      | (have h9 := wq_no (L := L) (j := 2) (by rw [hL.2.2.2.2.1]; exact h50b); rw [h9] at hq; exact absurd hq.2 (by decide))
      | (have h9 := wq_no (L := L) (j := 3) (by rw [hL.2.2.2.2.2.1]; exact h60b); rw [h9] at hq; exact absurd hq.2 (by decide))
      | (have h9 := wq_no (L := L) (j := 4) (by rw [hL.2.2.2.2.2.2.1]; exact h70b); rw [h9] at hq; exact absurd hq.2 (by decide))
      | (have h9 := wq_no (L := L) (j := 5) (by rw [hL.2.2.2.2.2.2.2.1]; exact h80b); rw [h9] at hq; exact absurd hq.2 (by decide))
      | (have h9 := wq_no (L := L) (j := 6) (by rw [hL.2.2.2.2.2.2.2.2.1]; exact h91b); rw [h9] at hq; exact absurd hq.2 (by decide))
      | (have h9 := wq_no (L := L) (j := 7) (by rw [hL.2.2.2.2.2.2.2.2.2]; exact h102b); rw [h9] at hq; exact absurd hq.2 (by decide))⟩⟩ dX8_isWord_113
                  · have hw : Wo g M H := em91 ▸ hw
                    rw [er91]
                    refine x_if_eq (tgt := 112) C ⟨by decide, by decide⟩ dX8_isWord_94 (by decide) (fun _ => ?_) (fun h => absurd h (by decide))
                    refine lv_iconst (v := II 0) C.1 C.2.1 dX8_isWord_112 rfl ?_
                    exact x_ireturn C hr hlk hw hS ⟨by decide, by decide⟩ (by decide) ⟨rfl, Or.inr ⟨rfl, fun q => by
      have hq := hiff.mp q
      first
      | (exfalso; omega)
      | (have h9 := wq_long (b := b) (s := tS b n i) (e := tE b n i) hL.1 (by omega); rw [h9] at hq; exact absurd hq.2 (by decide))
      | (have h9 := wq_no (L := L) (j := 0) (by rw [hL.2.2.1]; exact h32b); rw [h9] at hq; exact absurd hq.2 (by decide))
      | (have h9 := wq_no (L := L) (j := 1) (by rw [hL.2.2.2.1]; exact h41b); rw [h9] at hq; exact absurd hq.2 (by decide))
      | (have h9 := wq_no (L := L) (j := 2) (by rw [hL.2.2.2.2.1]; exact h50b); rw [h9] at hq; exact absurd hq.2 (by decide))
      | (have h9 := wq_no (L := L) (j := 3) (by rw [hL.2.2.2.2.2.1]; exact h60b); rw [h9] at hq; exact absurd hq.2 (by decide))
      | (have h9 := wq_no (L := L) (j := 4) (by rw [hL.2.2.2.2.2.2.1]; exact h70b); rw [h9] at hq; exact absurd hq.2 (by decide))
      | (have h9 := wq_no (L := L) (j := 5) (by rw [hL.2.2.2.2.2.2.2.1]; exact h80b); rw [h9] at hq; exact absurd hq.2 (by decide))
      | (have h9 := wq_no (L := L) (j := 6) (by rw [hL.2.2.2.2.2.2.2.2.1]; exact h91b); rw [h9] at hq; exact absurd hq.2 (by decide))
      | (have h9 := wq_no (L := L) (j := 7) (by rw [hL.2.2.2.2.2.2.2.2.2]; exact h102b); rw [h9] at hq; exact absurd hq.2 (by decide))⟩⟩ dX8_isWord_113
                · have hw : Wo g M H := em80 ▸ hw
                  rw [er80]
                  refine x_if_eq (tgt := 112) C ⟨by decide, by decide⟩ dX8_isWord_83 (by decide) (fun _ => ?_) (fun h => absurd h (by decide))
                  refine lv_iconst (v := II 0) C.1 C.2.1 dX8_isWord_112 rfl ?_
                  exact x_ireturn C hr hlk hw hS ⟨by decide, by decide⟩ (by decide) ⟨rfl, Or.inr ⟨rfl, fun q => by
      have hq := hiff.mp q
      first
      | (exfalso; omega)
      | (have h9 := wq_long (b := b) (s := tS b n i) (e := tE b n i) hL.1 (by omega); rw [h9] at hq; exact absurd hq.2 (by decide))
      | (have h9 := wq_no (L := L) (j := 0) (by rw [hL.2.2.1]; exact h32b); rw [h9] at hq; exact absurd hq.2 (by decide))
      | (have h9 := wq_no (L := L) (j := 1) (by rw [hL.2.2.2.1]; exact h41b); rw [h9] at hq; exact absurd hq.2 (by decide))
      | (have h9 := wq_no (L := L) (j := 2) (by rw [hL.2.2.2.2.1]; exact h50b); rw [h9] at hq; exact absurd hq.2 (by decide))
      | (have h9 := wq_no (L := L) (j := 3) (by rw [hL.2.2.2.2.2.1]; exact h60b); rw [h9] at hq; exact absurd hq.2 (by decide))
      | (have h9 := wq_no (L := L) (j := 4) (by rw [hL.2.2.2.2.2.2.1]; exact h70b); rw [h9] at hq; exact absurd hq.2 (by decide))
      | (have h9 := wq_no (L := L) (j := 5) (by rw [hL.2.2.2.2.2.2.2.1]; exact h80b); rw [h9] at hq; exact absurd hq.2 (by decide))
      | (have h9 := wq_no (L := L) (j := 6) (by rw [hL.2.2.2.2.2.2.2.2.1]; exact h91b); rw [h9] at hq; exact absurd hq.2 (by decide))
      | (have h9 := wq_no (L := L) (j := 7) (by rw [hL.2.2.2.2.2.2.2.2.2]; exact h102b); rw [h9] at hq; exact absurd hq.2 (by decide))⟩⟩ dX8_isWord_113
              · have hw : Wo g M H := em70 ▸ hw
                rw [er70]
                refine x_if_eq (tgt := 112) C ⟨by decide, by decide⟩ dX8_isWord_73 (by decide) (fun _ => ?_) (fun h => absurd h (by decide))
                refine lv_iconst (v := II 0) C.1 C.2.1 dX8_isWord_112 rfl ?_
                exact x_ireturn C hr hlk hw hS ⟨by decide, by decide⟩ (by decide) ⟨rfl, Or.inr ⟨rfl, fun q => by
      have hq := hiff.mp q
      first
      | (exfalso; omega)
      | (have h9 := wq_long (b := b) (s := tS b n i) (e := tE b n i) hL.1 (by omega); rw [h9] at hq; exact absurd hq.2 (by decide))
      | (have h9 := wq_no (L := L) (j := 0) (by rw [hL.2.2.1]; exact h32b); rw [h9] at hq; exact absurd hq.2 (by decide))
      | (have h9 := wq_no (L := L) (j := 1) (by rw [hL.2.2.2.1]; exact h41b); rw [h9] at hq; exact absurd hq.2 (by decide))
      | (have h9 := wq_no (L := L) (j := 2) (by rw [hL.2.2.2.2.1]; exact h50b); rw [h9] at hq; exact absurd hq.2 (by decide))
      | (have h9 := wq_no (L := L) (j := 3) (by rw [hL.2.2.2.2.2.1]; exact h60b); rw [h9] at hq; exact absurd hq.2 (by decide))
      | (have h9 := wq_no (L := L) (j := 4) (by rw [hL.2.2.2.2.2.2.1]; exact h70b); rw [h9] at hq; exact absurd hq.2 (by decide))
      | (have h9 := wq_no (L := L) (j := 5) (by rw [hL.2.2.2.2.2.2.2.1]; exact h80b); rw [h9] at hq; exact absurd hq.2 (by decide))
      | (have h9 := wq_no (L := L) (j := 6) (by rw [hL.2.2.2.2.2.2.2.2.1]; exact h91b); rw [h9] at hq; exact absurd hq.2 (by decide))
      | (have h9 := wq_no (L := L) (j := 7) (by rw [hL.2.2.2.2.2.2.2.2.2]; exact h102b); rw [h9] at hq; exact absurd hq.2 (by decide))⟩⟩ dX8_isWord_113
            · have hw : Wo g M H := em60 ▸ hw
              rw [er60]
              refine x_if_eq (tgt := 112) C ⟨by decide, by decide⟩ dX8_isWord_63 (by decide) (fun _ => ?_) (fun h => absurd h (by decide))
              refine lv_iconst (v := II 0) C.1 C.2.1 dX8_isWord_112 rfl ?_
              exact x_ireturn C hr hlk hw hS ⟨by decide, by decide⟩ (by decide) ⟨rfl, Or.inr ⟨rfl, fun q => by
      have hq := hiff.mp q
      first
      | (exfalso; omega)
      | (have h9 := wq_long (b := b) (s := tS b n i) (e := tE b n i) hL.1 (by omega); rw [h9] at hq; exact absurd hq.2 (by decide))
      | (have h9 := wq_no (L := L) (j := 0) (by rw [hL.2.2.1]; exact h32b); rw [h9] at hq; exact absurd hq.2 (by decide))
      | (have h9 := wq_no (L := L) (j := 1) (by rw [hL.2.2.2.1]; exact h41b); rw [h9] at hq; exact absurd hq.2 (by decide))
      | (have h9 := wq_no (L := L) (j := 2) (by rw [hL.2.2.2.2.1]; exact h50b); rw [h9] at hq; exact absurd hq.2 (by decide))
      | (have h9 := wq_no (L := L) (j := 3) (by rw [hL.2.2.2.2.2.1]; exact h60b); rw [h9] at hq; exact absurd hq.2 (by decide))
      | (have h9 := wq_no (L := L) (j := 4) (by rw [hL.2.2.2.2.2.2.1]; exact h70b); rw [h9] at hq; exact absurd hq.2 (by decide))
      | (have h9 := wq_no (L := L) (j := 5) (by rw [hL.2.2.2.2.2.2.2.1]; exact h80b); rw [h9] at hq; exact absurd hq.2 (by decide))
      | (have h9 := wq_no (L := L) (j := 6) (by rw [hL.2.2.2.2.2.2.2.2.1]; exact h91b); rw [h9] at hq; exact absurd hq.2 (by decide))
      | (have h9 := wq_no (L := L) (j := 7) (by rw [hL.2.2.2.2.2.2.2.2.2]; exact h102b); rw [h9] at hq; exact absurd hq.2 (by decide))⟩⟩ dX8_isWord_113
          · have hw : Wo g M H := em50 ▸ hw
            rw [er50]
            refine x_if_eq (tgt := 112) C ⟨by decide, by decide⟩ dX8_isWord_53 (by decide) (fun _ => ?_) (fun h => absurd h (by decide))
            refine lv_iconst (v := II 0) C.1 C.2.1 dX8_isWord_112 rfl ?_
            exact x_ireturn C hr hlk hw hS ⟨by decide, by decide⟩ (by decide) ⟨rfl, Or.inr ⟨rfl, fun q => by
      have hq := hiff.mp q
      first
      | (exfalso; omega)
      | (have h9 := wq_long (b := b) (s := tS b n i) (e := tE b n i) hL.1 (by omega); rw [h9] at hq; exact absurd hq.2 (by decide))
      | (have h9 := wq_no (L := L) (j := 0) (by rw [hL.2.2.1]; exact h32b); rw [h9] at hq; exact absurd hq.2 (by decide))
      | (have h9 := wq_no (L := L) (j := 1) (by rw [hL.2.2.2.1]; exact h41b); rw [h9] at hq; exact absurd hq.2 (by decide))
      | (have h9 := wq_no (L := L) (j := 2) (by rw [hL.2.2.2.2.1]; exact h50b); rw [h9] at hq; exact absurd hq.2 (by decide))
      | (have h9 := wq_no (L := L) (j := 3) (by rw [hL.2.2.2.2.2.1]; exact h60b); rw [h9] at hq; exact absurd hq.2 (by decide))
      | (have h9 := wq_no (L := L) (j := 4) (by rw [hL.2.2.2.2.2.2.1]; exact h70b); rw [h9] at hq; exact absurd hq.2 (by decide))
      | (have h9 := wq_no (L := L) (j := 5) (by rw [hL.2.2.2.2.2.2.2.1]; exact h80b); rw [h9] at hq; exact absurd hq.2 (by decide))
      | (have h9 := wq_no (L := L) (j := 6) (by rw [hL.2.2.2.2.2.2.2.2.1]; exact h91b); rw [h9] at hq; exact absurd hq.2 (by decide))
      | (have h9 := wq_no (L := L) (j := 7) (by rw [hL.2.2.2.2.2.2.2.2.2]; exact h102b); rw [h9] at hq; exact absurd hq.2 (by decide))⟩⟩ dX8_isWord_113
        · have hw : Wo g M H := em41 ▸ hw
          rw [er41]
          refine x_if_eq (tgt := 112) C ⟨by decide, by decide⟩ dX8_isWord_44 (by decide) (fun _ => ?_) (fun h => absurd h (by decide))
          refine lv_iconst (v := II 0) C.1 C.2.1 dX8_isWord_112 rfl ?_
          exact x_ireturn C hr hlk hw hS ⟨by decide, by decide⟩ (by decide) ⟨rfl, Or.inr ⟨rfl, fun q => by
      have hq := hiff.mp q
      first
      | (exfalso; omega)
      | (have h9 := wq_long (b := b) (s := tS b n i) (e := tE b n i) hL.1 (by omega); rw [h9] at hq; exact absurd hq.2 (by decide))
      | (have h9 := wq_no (L := L) (j := 0) (by rw [hL.2.2.1]; exact h32b); rw [h9] at hq; exact absurd hq.2 (by decide))
      | (have h9 := wq_no (L := L) (j := 1) (by rw [hL.2.2.2.1]; exact h41b); rw [h9] at hq; exact absurd hq.2 (by decide))
      | (have h9 := wq_no (L := L) (j := 2) (by rw [hL.2.2.2.2.1]; exact h50b); rw [h9] at hq; exact absurd hq.2 (by decide))
      | (have h9 := wq_no (L := L) (j := 3) (by rw [hL.2.2.2.2.2.1]; exact h60b); rw [h9] at hq; exact absurd hq.2 (by decide))
      | (have h9 := wq_no (L := L) (j := 4) (by rw [hL.2.2.2.2.2.2.1]; exact h70b); rw [h9] at hq; exact absurd hq.2 (by decide))
      | (have h9 := wq_no (L := L) (j := 5) (by rw [hL.2.2.2.2.2.2.2.1]; exact h80b); rw [h9] at hq; exact absurd hq.2 (by decide))
      | (have h9 := wq_no (L := L) (j := 6) (by rw [hL.2.2.2.2.2.2.2.2.1]; exact h91b); rw [h9] at hq; exact absurd hq.2 (by decide))
      | (have h9 := wq_no (L := L) (j := 7) (by rw [hL.2.2.2.2.2.2.2.2.2]; exact h102b); rw [h9] at hq; exact absurd hq.2 (by decide))⟩⟩ dX8_isWord_113
      · have hw : Wo g M H := em32 ▸ hw
        rw [er32]
        refine x_if_eq (tgt := 112) C ⟨by decide, by decide⟩ dX8_isWord_35 (by decide) (fun _ => ?_) (fun h => absurd h (by decide))
        refine lv_iconst (v := II 0) C.1 C.2.1 dX8_isWord_112 rfl ?_
        exact x_ireturn C hr hlk hw hS ⟨by decide, by decide⟩ (by decide) ⟨rfl, Or.inr ⟨rfl, fun q => by
      have hq := hiff.mp q
      first
      | (exfalso; omega)
      | (have h9 := wq_long (b := b) (s := tS b n i) (e := tE b n i) hL.1 (by omega); rw [h9] at hq; exact absurd hq.2 (by decide))
      | (have h9 := wq_no (L := L) (j := 0) (by rw [hL.2.2.1]; exact h32b); rw [h9] at hq; exact absurd hq.2 (by decide))
      | (have h9 := wq_no (L := L) (j := 1) (by rw [hL.2.2.2.1]; exact h41b); rw [h9] at hq; exact absurd hq.2 (by decide))
      | (have h9 := wq_no (L := L) (j := 2) (by rw [hL.2.2.2.2.1]; exact h50b); rw [h9] at hq; exact absurd hq.2 (by decide))
      | (have h9 := wq_no (L := L) (j := 3) (by rw [hL.2.2.2.2.2.1]; exact h60b); rw [h9] at hq; exact absurd hq.2 (by decide))
      | (have h9 := wq_no (L := L) (j := 4) (by rw [hL.2.2.2.2.2.2.1]; exact h70b); rw [h9] at hq; exact absurd hq.2 (by decide))
      | (have h9 := wq_no (L := L) (j := 5) (by rw [hL.2.2.2.2.2.2.2.1]; exact h80b); rw [h9] at hq; exact absurd hq.2 (by decide))
      | (have h9 := wq_no (L := L) (j := 6) (by rw [hL.2.2.2.2.2.2.2.2.1]; exact h91b); rw [h9] at hq; exact absurd hq.2 (by decide))
      | (have h9 := wq_no (L := L) (j := 7) (by rw [hL.2.2.2.2.2.2.2.2.2]; exact h102b); rw [h9] at hq; exact absurd hq.2 (by decide))⟩⟩ dX8_isWord_113

set_option maxHeartbeats 4000000 in
set_option maxRecDepth 100000 in
theorem c_X8_isWord1 (l : Launch) (g : Gm) (M : Nat → Int) (hF : LvF g) (hbad : M 70025 = 1) (a0 : Int) (ga0 : rg a0) (a1 : Int) (ga1 : rg a1) (a2 : Int) (ga2 : rg a2) (a3 : Int) (ga3 : rg a3) (a4 : Int) (ga4 : rg a4) (a5 : Int) (ga5 : rg a5) (a6 : Int) (ga6 : rg a6) (a7 : Int) (ga7 : rg a7) : CI l ({ cls := "RatedBySighsModel", name := "isWord", desc := "(IIIIIIII)Z" } : Jvm.MethodName) cX8_isWord 9 .boolean (rmm 0 0) g M [.ref (gA g 70), .int (II a0), .int (II a1), .int (II a2), .int (II a3), .int (II a4), .int (II a5), .int (II a6), .int (II a7)] (fun r M' => M' = M ∧ r = 0) := by
  refine c_start (by decide) (Nat.le_of_ble_eq_true rfl) (fun p e s m below meth c ls C hr hlk hml hw hS hl => ?_)
  have hl : lv_has ls 9 [(0, .ref (gA g 70)), (1, .int (II a0)), (2, .int (II a1)), (3, .int (II a2)), (4, .int (II a3)), (5, .int (II a4)), (6, .int (II a5)), (7, .int (II a6)), (8, .int (II a7))] := hl
  have g_M := hw.rg
  have hN : gN g = 84 := hF.1
  refine lv_aload_n C.1 C.2.1 dX8_isWord_0 rfl (lv_at hl 0 rfl) ?_
  refine g8 C hw 70 (by omega) rfl 25 (by decide) mw_849 (svi (x := 1) hbad) dX8_isWord_1 ?_
  refine x_if_ne (tgt := 112) C ⟨by decide, by decide⟩ dX8_isWord_4 (by decide) (fun _ => ?_) (fun h => absurd h (by decide))
  refine lv_iconst (v := II 0) C.1 C.2.1 dX8_isWord_112 rfl ?_
  exact x_ireturn C hr hlk hw hS ⟨by decide, by decide⟩ (by decide) ⟨rfl, rfl⟩ dX8_isWord_113
