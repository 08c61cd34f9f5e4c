/-! THE STATE of the model -/
def RowM (M : Nat → Int) (a : Nat) (v : Nat → Nat → Int) (q : Nat) : Prop := M (a + 4 * q) = v q 1 ∧ M (a + (4 * q + 1)) = v q 2 ∧ M (a + (4 * q + 2)) = v q 3 ∧ M (a + (4 * q + 3)) = v q 4
def BorM (M : Nat → Int) (b : Bor) : Prop := (M 70011 = (b.1 : Int) ∧ M 70007 = b.2.2.1 ∧ M 70008 = b.2.2.2.1 ∧ M 70004 = (b.2.2.2.2 : Int)) ∧ ∀ q, q < b.1 → M (74000 + q) = b.2.1 q 0 ∧ RowM M 75000 b.2.1 q
def TxtM (M : Nat → Int) (X : Txt) : Prop := M 70003 = (X.1 : Int) ∧ (∀ t, t < X.1 → TxM M t (X.2.1 t)) ∧ M 70006 = (X.2.2.1 : Int) ∧ ∀ i, i < X.2.2.1 → M (73000 + i) = X.2.2.2 i
def ImgM (M : Nat → Int) (I : Option Bor) : Prop := match I with
  | none => M 70034 = -1
  | some b => (M 70034 = (b.1 : Int) ∧ M 70035 = b.2.2.1 ∧ M 70036 = b.2.2.2.1 ∧ M 70037 = (b.2.2.2.2 : Int)) ∧ ∀ q, q < b.1 → RowM M 79000 b.2.1 q
def ShtM (M : Nat → Int) (Sh : Sht) : Prop := ∀ i, i < 4 → (Sh.1 i = -1 ∧ M (80000 + i) = 0) ∨ (Sh.1 i ≠ -1 ∧ M (80000 + i) = 1 ∧ M (81000 + i) = Sh.1 i ∧ M (82000 + i) = Sh.2.1 i ∧ ∀ j : Nat, (j : Int) < Sh.2.1 i → M (83000 + (40 * i + j)) = Sh.2.2 i j)
def RepM (M : Nat → Int) (b : Bor) (X : Txt) (I : Option Bor) (Sh : Sht) : Prop := BorM M b ∧ TxtM M X ∧ ImgM M I ∧ ShtM M Sh ∧ M 70027 = -1
/-- what the model may write without a trace -/
def sc4 (m : Nat) : Prop := scm m ∨ m = 70030 ∨ m = 70031 ∨ m / 1000 = 78
theorem RowM.fr {M M' : Nat → Int} {a q : Nat} {v : Nat → Nat → Int} (h : RowM M a v q) (hf : ∀ m, a + 4 * q ≤ m ∧ m ≤ a + 4 * q + 3 → M' m = M m) : RowM M' a v q :=
  ⟨(hf _ (by omega)).trans h.1, (hf _ (by omega)).trans h.2.1, (hf _ (by omega)).trans h.2.2.1, (hf _ (by omega)).trans h.2.2.2⟩
theorem BorM.fr {M M' : Nat → Int} {b : Bor} (h : BorM M b) (hb : b.1 ≤ 8) (hf : ∀ m, m = 70011 ∨ m = 70007 ∨ m = 70008 ∨ m = 70004 ∨ m / 1000 = 74 ∨ m / 1000 = 75 → M' m = M m) : BorM M' b :=
  ⟨⟨(hf _ (by omega)).trans h.1.1, (hf _ (by omega)).trans h.1.2.1, (hf _ (by omega)).trans h.1.2.2.1, (hf _ (by omega)).trans h.1.2.2.2⟩, fun q hq => ⟨(hf _ (by omega)).trans (h.2 q hq).1, (h.2 q hq).2.fr (fun m hm => hf m (by omega))⟩⟩
theorem TxtM.fr {M M' : Nat → Int} {X : Txt} (h : TxtM M X) (hx : X.1 ≤ 6 ∧ X.2.2.1 ≤ 160) (hf : ∀ m, m = 70003 ∨ m = 70006 ∨ m / 1000 = 71 ∨ m / 1000 = 72 ∨ m / 1000 = 73 → M' m = M m) : TxtM M' X :=
  ⟨(hf _ (by omega)).trans h.1, fun t ht => (h.2.1 t ht).fr (fun m hm => hf m (by omega)), (hf _ (by omega)).trans h.2.2.1, fun i hi => (hf _ (by omega)).trans (h.2.2.2 i hi)⟩
theorem ImgM.fr {M M' : Nat → Int} {I : Option Bor} (h : ImgM M I) (hx : ∀ b, I = some b → b.1 ≤ 8) (hf : ∀ m, (70034 ≤ m ∧ m ≤ 70037) ∨ m / 1000 = 79 → M' m = M m) : ImgM M' I := by
  cases I with
  | none => exact (hf _ (by omega)).trans h
  | some b =>
    have hb := hx b rfl
    exact ⟨⟨(hf _ (by omega)).trans h.1.1, (hf _ (by omega)).trans h.1.2.1, (hf _ (by omega)).trans h.1.2.2.1, (hf _ (by omega)).trans h.1.2.2.2⟩, fun q hq => (h.2 q hq).fr (fun m hm => hf m (by omega))⟩
theorem ShtM.fr {M M' : Nat → Int} {Sh : Sht} (h : ShtM M Sh) (hx : ∀ i, i < 4 → Sh.2.1 i ≤ 40) (hf : ∀ m, 80 ≤ m / 1000 ∧ m / 1000 ≤ 83 → M' m = M m) : ShtM M' Sh := by
  intro i hi
  have := hx i hi
  rcases h i hi with ⟨h1, h2⟩ | ⟨h1, h2, h3, h4, h5⟩
  · exact Or.inl ⟨h1, (hf _ (by omega)).trans h2⟩
  · exact Or.inr ⟨h1, (hf _ (by omega)).trans h2, (hf _ (by omega)).trans h3, (hf _ (by omega)).trans h4, fun j hj => (hf _ (by omega)).trans (h5 j hj)⟩
theorem RepM.fr {M M' : Nat → Int} {b : Bor} {X : Txt} {I : Option Bor} {Sh : Sht} (h : RepM M b X I Sh) (hA : InvA b X I Sh) (hf : ∀ m, ¬ sc4 m → 70000 ≤ m → M' m = M m) : RepM M' b X I Sh :=
  ⟨h.1.fr hA.1.1 (fun m hm => hf m (by unfold sc4 scm; omega) (by omega)), h.2.1.fr ⟨hA.2.1.2, hA.2.2.1.1⟩ (fun m hm => hf m (by unfold sc4 scm; omega) (by omega)), h.2.2.1.fr hA.im (fun m hm => hf m (by unfold sc4 scm; omega) (by omega)), h.2.2.2.1.fr hA.sz (fun m hm => hf m (by unfold sc4 scm; omega) (by omega)), (hf _ (by unfold sc4 scm; omega) (by omega)).trans h.2.2.2.2⟩
theorem RepM.mb {M : Nat → Int} {n : Nat} {v : Nat → Nat → Int} {nt pd : Int} {t : Nat} {X : Txt} {I : Option Bor} {Sh : Sht} (h : RepM M (n, v, nt, pd, t) X I Sh) (hA : InvA (n, v, nt, pd, t) X I Sh) : MB M n v nt t (X.2.1 t) (-1) := by
  obtain ⟨⟨⟨a1, a2, a3, a4⟩, a5⟩, ⟨x1, x2, x3⟩, -, -, g⟩ := h
  obtain ⟨⟨i1, i2, i3, i4, i5, i6⟩, i7, -⟩ := hA
  dsimp only at a1 a2 a3 a4 a5 i1 i2 i3 i4 i5 i6
  refine ⟨⟨a1, i1⟩, ⟨fun q hq _ => ⟨(a5 q hq).1, (a5 q hq).2.1, (a5 q hq).2.2.1, (a5 q hq).2.2.2.1, (a5 q hq).2.2.2.2, i3 q hq⟩, fun q hq hg => absurd hg (by omega), fun q hq => ?_⟩, i2, ⟨a2, i4⟩, ⟨a4, by omega⟩, x2 t i6, ⟨g, by decide, by decide⟩⟩
  rw [(a5 q hq).2.2.2.1]
  exact (i2 q hq).2.2.2.1
theorem RepM.b2 {M M' : Nat → Int} {b b' : Bor} {X : Txt} {I : Option Bor} {Sh : Sht} (h : RepM M b X I Sh) (hA : InvA b X I Sh) (hb : BorM M' b') (hf : ∀ m, ¬ (sc4 m ∨ m = 70004 ∨ m = 70007 ∨ m = 70008 ∨ m = 70011 ∨ m / 1000 = 74 ∨ m / 1000 = 75) → M' m = M m) : RepM M' b' X I Sh :=
  ⟨hb, h.2.1.fr ⟨hA.2.1.2, hA.2.2.1.1⟩ (fun m hm => hf m (by unfold sc4 scm; omega)), h.2.2.1.fr hA.im (fun m hm => hf m (by unfold sc4 scm; omega)), h.2.2.2.1.fr hA.sz (fun m hm => hf m (by unfold sc4 scm; omega)), (hf _ (by unfold sc4 scm; omega)).trans h.2.2.2.2⟩
theorem RepM.x2 {M M' : Nat → Int} {b : Bor} {X X' : Txt} {I : Option Bor} {Sh : Sht} (h : RepM M b X I Sh) (hA : InvA b X I Sh) (hb : TxtM M' X') (hf : ∀ m, ¬ (sc4 m ∨ m = 70003 ∨ m = 70006 ∨ m / 1000 = 71 ∨ m / 1000 = 72 ∨ m / 1000 = 73) → M' m = M m) : RepM M' b X' I Sh :=
  ⟨h.1.fr hA.1.1 (fun m hm => hf m (by unfold sc4 scm; omega)), hb, h.2.2.1.fr hA.im (fun m hm => hf m (by unfold sc4 scm; omega)), h.2.2.2.1.fr hA.sz (fun m hm => hf m (by unfold sc4 scm; omega)), (hf _ (by unfold sc4 scm; omega)).trans h.2.2.2.2⟩
theorem RepM.s2 {M M' : Nat → Int} {b : Bor} {X : Txt} {I : Option Bor} {Sh Sh' : Sht} (h : RepM M b X I Sh) (hA : InvA b X I Sh) (hb : ShtM M' Sh') (hf : ∀ m, ¬ (sc4 m ∨ (80 ≤ m / 1000 ∧ m / 1000 ≤ 83)) → M' m = M m) : RepM M' b X I Sh' :=
  ⟨h.1.fr hA.1.1 (fun m hm => hf m (by unfold sc4 scm; omega)), h.2.1.fr ⟨hA.2.1.2, hA.2.2.1.1⟩ (fun m hm => hf m (by unfold sc4 scm; omega)), h.2.2.1.fr hA.im (fun m hm => hf m (by unfold sc4 scm; omega)), hb, (hf _ (by unfold sc4 scm; omega)).trans h.2.2.2.2⟩
/-- where f of one q stands -/
def psP (f q ps : Nat) : Prop := (f = 0 ∧ ps = 74000 + q) ∨ (1 ≤ f ∧ f ≤ 4 ∧ ps = 74999 + 4 * q + f)
theorem bor_at {M : Nat → Int} {b : Bor} (h : BorM M b) {q f ps : Nat} (hq : q < b.1) (hp : psP f q ps) : M ps = b.2.1 q f := by
  have h1 := h.2 q hq
  unfold psP at hp
  rcases hp with ⟨rfl, rfl⟩ | ⟨hp1, hp2, hp3⟩
  · exact h1.1
  · rcases (show f = 1 ∨ f = 2 ∨ f = 3 ∨ f = 4 by omega) with rfl | rfl | rfl | rfl
    · rw [show ps = 75000 + 4 * q by omega]; exact h1.2.1
    · rw [show ps = 75000 + (4 * q + 1) by omega]; exact h1.2.2.1
    · rw [show ps = 75000 + (4 * q + 2) by omega]; exact h1.2.2.2.1
    · rw [show ps = 75000 + (4 * q + 3) by omega]; exact h1.2.2.2.2
theorem bor_of {M : Nat → Int} {n : Nat} {v : Nat → Nat → Int} (h : ∀ q, q < n → ∀ f ps, psP f q ps → M ps = v q f) : ∀ q, q < n → M (74000 + q) = v q 0 ∧ RowM M 75000 v q :=
  fun q hq => ⟨h q hq 0 _ (Or.inl ⟨rfl, rfl⟩), h q hq 1 _ (Or.inr (by omega)), h q hq 2 _ (Or.inr (by omega)), h q hq 3 _ (Or.inr (by omega)), h q hq 4 _ (Or.inr (by omega))⟩
theorem mb_at {M : Nat → Int} {n : Nat} {v : Nat → Nat → Int} {nt : Int} {t : Nat} {E : Ev} (h : MB M n v nt t E (-1)) {q f ps : Nat} (hq : q < n) (hp : psP f q ps) : M ps = v q f := by
  have h1 := h.2.1.1 q hq (by omega)
  unfold psP at hp
  rcases hp with ⟨rfl, rfl⟩ | ⟨hp1, hp2, hp3⟩
  · exact h1.1
  · rcases (show f = 1 ∨ f = 2 ∨ f = 3 ∨ f = 4 by omega) with rfl | rfl | rfl | rfl
    · rw [show ps = 75000 + 4 * q by omega]; exact h1.2.1
    · rw [show ps = 75000 + (4 * q + 1) by omega]; exact h1.2.2.1
    · rw [show ps = 75000 + (4 * q + 2) by omega]; exact h1.2.2.2.1
    · rw [show ps = 75000 + (4 * q + 3) by omega]; exact h1.2.2.2.2.1
/-- the evening's premises, from rows place by place -/
theorem MB.of {M M' : Nat → Int} {n : Nat} {v v' : Nat → Nat → Int} {nt : Int} {t : Nat} {E : Ev} (h : MB M n v nt t E (-1)) (hr : ∀ q, q < n → ∀ f ps, psP f q ps → M' ps = v' q f) (hf : ∀ m, ¬ (sc4 m ∨ m / 1000 = 74 ∨ m / 1000 = 75) → M' m = M m) (hP : PI v' n) (h2 : ∀ q, q < n → 0 ≤ v' q 2) : MB M' n v' nt t E (-1) := by
  obtain ⟨⟨h1, hn⟩, -, -, ⟨h5, h6⟩, ⟨h7, h8⟩, h9, ⟨ha, hb⟩⟩ := h
  have hrr := bor_of hr
  refine ⟨⟨(hf _ (by unfold sc4 scm; omega)).trans h1, hn⟩, ⟨fun q hq _ => ⟨(hrr q hq).1, (hrr q hq).2.1, (hrr q hq).2.2.1, (hrr q hq).2.2.2.1, (hrr q hq).2.2.2.2, h2 q hq⟩, fun q hq hg => absurd hg (by omega), fun q hq => ?_⟩, hP, ⟨(hf _ (by unfold sc4 scm; omega)).trans h5, h6⟩, ⟨(hf _ (by unfold sc4 scm; omega)).trans h7, h8⟩, h9.fr (fun m hm => hf m (by unfold sc4 scm; omega)), ⟨(hf _ (by unfold sc4 scm; omega)).trans ha, hb⟩⟩
  rw [(hrr q hq).2.2.2.1]
  exact (hP q hq).2.2.2.1
theorem MB.up {M M' : Nat → Int} {n : Nat} {v : Nat → Nat → Int} {nt : Int} {t : Nat} {E : Ev} (h : MB M n v nt t E (-1)) {q f ps : Nat} {x : Int} (hp : psP f q ps) (hf : ∀ m, ¬ (sc4 m ∨ m = ps) → M' m = M m) (hx : M' ps = x) (hP : PI (upv v q f x) n) (h2 : f = 2 → 0 ≤ x) (hq : q < 8) : MB M' n (upv v q f x) nt t E (-1) := by
  have hn := h.1.2
  refine h.of (fun q' hq' f' ps' hp' => ?_) (fun m hm => hf m (fun z => hm (z.elim Or.inl (fun y => Or.inr (by unfold psP at hp; omega))))) hP (fun q' hq' => ?_)
  · by_cases e : q' = q ∧ f' = f
    · obtain ⟨rfl, rfl⟩ := e
      have e2 : ps' = ps := by unfold psP at hp hp'; omega
      rw [e2, hx, upv_s]
    · rw [upv_n e, hf ps' (by unfold psP at hp hp'; unfold sc4 scm; omega)]
      exact mb_at h hq' hp'
  · by_cases e : q' = q ∧ 2 = f
    · obtain ⟨rfl, rfl⟩ := e; rw [upv_s]; exact h2 rfl
    · rw [upv_n e]; exact (h.2.1.1 q' hq' (by omega)).2.2.2.2.2
theorem MB.gone {M M' : Nat → Int} {n : Nat} {v : Nat → Nat → Int} {nt : Int} {t : Nat} {E : Ev} (h : MB M n v nt t E (-1)) {q : Nat} (hq : q < n) (hf : ∀ m, ¬ (sc4 m ∨ m = 70027) → M' m = M m) (hg : M' 70027 = (q : Int)) : MB M' n (upv v q 2 (-1)) nt t E (q : Int) := by
  obtain ⟨⟨h1, hn⟩, ⟨r1, r2, r3⟩, hP, ⟨h5, h6⟩, ⟨h7, h8⟩, h9, ⟨ha, hb⟩⟩ := h
  refine ⟨⟨(hf _ (by unfold sc4 scm; omega)).trans h1, hn⟩, ⟨fun p hp hne => ?_, fun p hp he => ?_, fun p hp => ?_⟩, hP.up (by omega), ⟨(hf _ (by unfold sc4 scm; omega)).trans h5, h6⟩, ⟨(hf _ (by unfold sc4 scm; omega)).trans h7, h8⟩, h9.fr (fun m hm => hf m (by unfold sc4 scm; omega)), ⟨hg, by omega, by omega⟩⟩
  · have := r1 p hp (by omega)
    rw [hf (74000 + p) (by unfold sc4 scm; omega), hf (75000 + 4 * p) (by unfold sc4 scm; omega), hf (75000 + (4 * p + 1)) (by unfold sc4 scm; omega), hf (75000 + (4 * p + 2)) (by unfold sc4 scm; omega), hf (75000 + (4 * p + 3)) (by unfold sc4 scm; omega)]
    rw [upv_n (by omega), upv_n (by omega), upv_n (by omega), upv_n (by omega), upv_n (by omega)]
    exact this
  · rw [show p = q by omega, upv_s]
  · rw [hf (75000 + (4 * p + 2)) (by unfold sc4 scm; omega)]; exact r3 p hp
theorem BorM.up {M M' : Nat → Int} {n : Nat} {v : Nat → Nat → Int} {nt pd : Int} {t : Nat} (h : BorM M (n, v, nt, pd, t)) {q f ps : Nat} {x : Int} (hp : psP f q ps) (hn : n ≤ 8) (hq : q < 8) (hf : ∀ m, ¬ (sc4 m ∨ m = ps) → M' m = M m) (hx : M' ps = x) : BorM M' (n, upv v q f x, nt, pd, t) := by
  have hps : ps / 1000 = 74 ∨ ps / 1000 = 75 := by unfold psP at hp; omega
  refine ⟨⟨(hf _ (by unfold sc4 scm; omega)).trans h.1.1, (hf _ (by unfold sc4 scm; omega)).trans h.1.2.1, (hf _ (by unfold sc4 scm; omega)).trans h.1.2.2.1, (hf _ (by unfold sc4 scm; omega)).trans h.1.2.2.2⟩, bor_of (fun q' hq' f' ps' hp' => ?_)⟩
  have hq9 : q' < n := hq'
  show M' ps' = upv v q f x q' f'
  by_cases e : q' = q ∧ f' = f
  · obtain ⟨rfl, rfl⟩ := e
    have e2 : ps' = ps := by unfold psP at hp hp'; omega
    rw [e2, hx, upv_s]
  · rw [upv_n e, hf ps' (by unfold psP at hp hp'; unfold sc4 scm; omega)]
    exact bor_at h hq' hp'
set_option maxHeartbeats 4000000 in
set_option maxRecDepth 100000 in
theorem c_X8_isOne (l : Launch) (g : Gm) (M : Nat → Int) (hF : LvF g) (n : Nat) (hn : M 70011 = (n : Int) ∧ n ≤ 8) (pq : Int) (gp : rg pq) : CI l ({ cls := "RatedBySighsModel", name := "isOne", desc := "(I)Z" } : Jvm.MethodName) cX8_isOne 2 .boolean (rmm 1 25) g M [.ref (gA g 70), .int (II pq)] (fun r M' => M' = M ∧ ((r = 1 ∧ (0 ≤ pq ∧ pq < n)) ∨ (r = 0 ∧ (¬ (0 ≤ pq ∧ pq < n))))) := by
  refine c_start (by decide) (Nat.le_of_ble_eq_true rfl) (fun p e s m below meth c ls C hr hlk hml hw hS hl => ?_)
  have hl : lv_has ls 2 [(0, .ref (gA g 70)), (1, .int (II pq))] := hl
  have g_M := hw.rg
  have hN : gN g = 84 := hF.1
  refine lv_iload_n C.1 C.2.1 dX8_isOne_0 rfl (lv_at hl 1 rfl) ?_
  refine x_i2l C gp dX8_isOne_1 ?_
  refine lv_lconst (v := LL 0) C.1 C.2.1 dX8_isOne_2 (by decide) ?_
  refine lv_aload_n C.1 C.2.1 dX8_isOne_3 rfl (lv_at hl 0 rfl) ?_
  refine g8 C hw 70 (by omega) rfl 11 (by decide) mw_835 (svi (x := (n : Int)) hn.1) dX8_isOne_4 ?_
  refine lv_iconst (v := II 1) C.1 C.2.1 dX8_isOne_7 rfl ?_
  refine x_isub C dX8_isOne_8 ?_
  refine x_i2l C ⟨by have := g_M 70011; have := hn.1; omega, by have := g_M 70011; have := hn.1; omega⟩ dX8_isOne_9 ?_
  refine x_ci (x_runS (n := 3) C hw hS hml hl.1 (c_X8_in l g M pq gp 0 ⟨by decide, by decide⟩ ((n : Int) - 1) ⟨by omega, by omega⟩) mw_957 mw_958 mw_130 mw_959 rfl rfl (by decide +kernel) ⟨Nat.le_of_ble_eq_true rfl, Nat.le_of_ble_eq_true rfl⟩ rfl rfl (Nat.le_of_ble_eq_true rfl) dX8_isOne_10 ⟨Nat.zero_le _, Nat.zero_le _⟩) hS (fun r10 M10 H locs hr10 hp hw hS => ?_)
  rcases hp with ⟨em10, (⟨er10, h10b⟩ | ⟨er10, h10b⟩)⟩
  · have hw : Wo g M H := em10 ▸ hw
    rw [er10]
    exact x_ireturn C hr hlk hw hS ⟨by decide, by decide⟩ (by decide) ⟨rfl, Or.inl ⟨rfl, by omega⟩⟩ dX8_isOne_13
  · have hw : Wo g M H := em10 ▸ hw
    rw [er10]
    exact x_ireturn C hr hlk hw hS ⟨by decide, by decide⟩ (by decide) ⟨rfl, Or.inr ⟨rfl, by omega⟩⟩ dX8_isOne_13

set_option maxHeartbeats 4000000 in
set_option maxRecDepth 100000 in
theorem c_X8_isHouse (l : Launch) (g : Gm) (M : Nat → Int) (pq : Int) (gp : rg pq) : CI l ({ cls := "RatedBySighsModel", name := "isHouse", desc := "(I)Z" } : Jvm.MethodName) cX8_isHouse 1 .boolean (rmm 1 25) g M [.int (II pq)] (fun r M' => M' = M ∧ ((r = 1 ∧ (0 ≤ pq ∧ pq ≤ 4)) ∨ (r = 0 ∧ (¬ (0 ≤ pq ∧ pq ≤ 4))))) := by
  refine c_start (by decide) (Nat.le_of_ble_eq_true rfl) (fun p e s m below meth c ls C hr hlk hml hw hS hl => ?_)
  have hl : lv_has ls 1 [(0, .int (II pq))] := hl
  have g_M := hw.rg
  refine lv_iload_n C.1 C.2.1 dX8_isHouse_0 rfl (lv_at hl 0 rfl) ?_
  refine x_i2l C gp dX8_isHouse_1 ?_
  refine lv_lconst (v := LL 0) C.1 C.2.1 dX8_isHouse_2 (by decide) ?_
  refine lv_ldc2 C.1 C.2.1 C.2.2.1 (C.2.2.2.1 _ mw_956) dX8_isHouse_3 ?_
  rw [show (4 : Int64) = LL 4 from by decide]
  refine x_ci (x_runS (n := 3) C hw hS hml hl.1 (c_X8_in l g M pq gp 0 ⟨by decide, by decide⟩ 4 ⟨by decide, by decide⟩) mw_957 mw_958 mw_130 mw_959 rfl rfl (by decide +kernel) ⟨Nat.le_of_ble_eq_true rfl, Nat.le_of_ble_eq_true rfl⟩ rfl rfl (Nat.le_of_ble_eq_true rfl) dX8_isHouse_6 ⟨Nat.zero_le _, Nat.zero_le _⟩) hS (fun r6 M6 H locs hr6 hp hw hS => ?_)
  rcases hp with ⟨em6, (⟨er6, h6b⟩ | ⟨er6, h6b⟩)⟩
  · have hw : Wo g M H := em6 ▸ hw
    rw [er6]
    exact x_ireturn C hr hlk hw hS ⟨by decide, by decide⟩ (by decide) ⟨rfl, Or.inl ⟨rfl, by omega⟩⟩ dX8_isHouse_9
  · have hw : Wo g M H := em6 ▸ hw
    rw [er6]
    exact x_ireturn C hr hlk hw hS ⟨by decide, by decide⟩ (by decide) ⟨rfl, Or.inr ⟨rfl, by omega⟩⟩ dX8_isHouse_9

set_option maxHeartbeats 4000000 in
set_option maxRecDepth 100000 in
theorem c_X8_isSheet (l : Launch) (g : Gm) (M : Nat → Int) (pq : Int) (gp : rg pq) : CI l ({ cls := "RatedBySighsModel", name := "isSheet", desc := "(I)Z" } : Jvm.MethodName) cX8_isSheet 1 .boolean (rmm 1 25) g M [.int (II pq)] (fun r M' => M' = M ∧ ((r = 1 ∧ (0 ≤ pq ∧ pq < 4)) ∨ (r = 0 ∧ (¬ (0 ≤ pq ∧ pq < 4))))) := by
  refine c_start (by decide) (Nat.le_of_ble_eq_true rfl) (fun p e s m below meth c ls C hr hlk hml hw hS hl => ?_)
  have hl : lv_has ls 1 [(0, .int (II pq))] := hl
  have g_M := hw.rg
  refine lv_iload_n C.1 C.2.1 dX8_isSheet_0 rfl (lv_at hl 0 rfl) ?_
  refine x_i2l C gp dX8_isSheet_1 ?_
  refine lv_lconst (v := LL 0) C.1 C.2.1 dX8_isSheet_2 (by decide) ?_
  refine lv_ldc2 C.1 C.2.1 C.2.2.1 (C.2.2.2.1 _ mw_1304) dX8_isSheet_3 ?_
  rw [show (3 : Int64) = LL 3 from by decide]
  refine x_ci (x_runS (n := 3) C hw hS hml hl.1 (c_X8_in l g M pq gp 0 ⟨by decide, by decide⟩ 3 ⟨by decide, by decide⟩) mw_957 mw_958 mw_130 mw_959 rfl rfl (by decide +kernel) ⟨Nat.le_of_ble_eq_true rfl, Nat.le_of_ble_eq_true rfl⟩ rfl rfl (Nat.le_of_ble_eq_true rfl) dX8_isSheet_6 ⟨Nat.zero_le _, Nat.zero_le _⟩) hS (fun r6 M6 H locs hr6 hp hw hS => ?_)
  rcases hp with ⟨em6, (⟨er6, h6b⟩ | ⟨er6, h6b⟩)⟩
  · have hw : Wo g M H := em6 ▸ hw
    rw [er6]
    exact x_ireturn C hr hlk hw hS ⟨by decide, by decide⟩ (by decide) ⟨rfl, Or.inl ⟨rfl, by omega⟩⟩ dX8_isSheet_9
  · have hw : Wo g M H := em6 ▸ hw
    rw [er6]
    exact x_ireturn C hr hlk hw hS ⟨by decide, by decide⟩ (by decide) ⟨rfl, Or.inr ⟨rfl, by omega⟩⟩ dX8_isSheet_9

set_option maxHeartbeats 4000000 in
set_option maxRecDepth 100000 in
theorem c_X8_leastOf (l : Launch) (g : Gm) (M : Nat → Int) (w : Nat) (hw0 : w < 6) : CI l ({ cls := "RatedBySighsModel", name := "leastOf", desc := "(I)I" } : Jvm.MethodName) cX8_leastOf 1 .int (rmm 0 0) g M [.int (II (w : Int))] (fun r M' => M' = M ∧ r = loT w) := by
  refine c_start (by decide) (Nat.le_of_ble_eq_true rfl) (fun p e s m below meth c ls C hr hlk hml hw hS hl => ?_)
  have hl : lv_has ls 1 [(0, .int (II (w : Int)))] := hl
  have g_M := hw.rg
  refine lv_iload_n C.1 C.2.1 dX8_leastOf_0 rfl (lv_at hl 0 rfl) ?_
  refine lv_iconst (v := II 3) C.1 C.2.1 dX8_leastOf_1 rfl ?_
  refine x_icmp_ne (tgt := 10) C ⟨by omega, by omega⟩ ⟨by decide, by decide⟩ dX8_leastOf_2 (by decide) (fun c2 => ?_) (fun c2 => ?_)
  · refine lv_iconst (v := II 0) C.1 C.2.1 dX8_leastOf_10 rfl ?_
    exact x_ireturn C hr hlk hw hS ⟨by decide, by decide⟩ rfl ⟨rfl, ((by decide : ∀ w, w < 6 → w ≠ 3 → loT w = 0) w hw0 (by omega)).symm⟩ dX8_leastOf_11
  · refine lv_bipush (v := II (-20)) C.1 C.2.1 dX8_leastOf_5 (by decide) ?_
    refine lv_goto (tgt := 11) C.1 C.2.1 dX8_leastOf_7 (by decide) ?_
    exact x_ireturn C hr hlk hw hS ⟨by decide, by decide⟩ rfl ⟨rfl, by rw [show w = 3 by omega]; rfl⟩ dX8_leastOf_11

set_option maxHeartbeats 4000000 in
set_option maxRecDepth 100000 in
theorem c_X8_mostOf (l : Launch) (g : Gm) (M : Nat → Int) (w : Nat) (hw0 : w < 5) : CI l ({ cls := "RatedBySighsModel", name := "mostOf", desc := "(I)I" } : Jvm.MethodName) cX8_mostOf 1 .int (rmm 0 0) g M [.int (II (w : Int))] (fun r M' => M' = M ∧ r = hiT w) := by
  refine c_start (by decide) (Nat.le_of_ble_eq_true rfl) (fun p e s m below meth c ls C hr hlk hml hw hS hl => ?_)
  have hl : lv_has ls 1 [(0, .int (II (w : Int)))] := hl
  have g_M := hw.rg
  refine lv_iload_n C.1 C.2.1 dX8_mostOf_0 rfl (lv_at hl 0 rfl) ?_
  refine x_if_ne (tgt := 10) C ⟨by omega, by omega⟩ dX8_mostOf_1 (by decide) (fun c1 => ?_) (fun c1 => ?_)
  · refine lv_iload_n C.1 C.2.1 dX8_mostOf_10 rfl (lv_at hl 0 rfl) ?_
    refine lv_iconst (v := II 1) C.1 C.2.1 dX8_mostOf_11 rfl ?_
    refine x_icmp_ne (tgt := 20) C ⟨by omega, by omega⟩ ⟨by decide, by decide⟩ dX8_mostOf_12 (by decide) (fun c12 => ?_) (fun c12 => ?_)
    · refine lv_iload_n C.1 C.2.1 dX8_mostOf_20 rfl (lv_at hl 0 rfl) ?_
      refine lv_iconst (v := II 2) C.1 C.2.1 dX8_mostOf_21 rfl ?_
      refine x_icmp_ne (tgt := 29) C ⟨by omega, by omega⟩ ⟨by decide, by decide⟩ dX8_mostOf_22 (by decide) (fun c22 => ?_) (fun c22 => ?_)
      · refine lv_iload_n C.1 C.2.1 dX8_mostOf_29 rfl (lv_at hl 0 rfl) ?_
        refine lv_iconst (v := II 3) C.1 C.2.1 dX8_mostOf_30 rfl ?_
        refine x_icmp_ne (tgt := 39) C ⟨by omega, by omega⟩ ⟨by decide, by decide⟩ dX8_mostOf_31 (by decide) (fun c31 => ?_) (fun c31 => ?_)
        · refine lv_bipush (v := II 63) C.1 C.2.1 dX8_mostOf_39 (by decide) ?_
          exact x_ireturn C hr hlk hw hS ⟨by decide, by decide⟩ rfl ⟨rfl, by rw [show w = 4 by omega]; rfl⟩ dX8_mostOf_41
        · refine lv_bipush (v := II 20) C.1 C.2.1 dX8_mostOf_34 (by decide) ?_
          refine lv_goto (tgt := 41) C.1 C.2.1 dX8_mostOf_36 (by decide) ?_
          exact x_ireturn C hr hlk hw hS ⟨by decide, by decide⟩ rfl ⟨rfl, by rw [show w = 3 by omega]; rfl⟩ dX8_mostOf_41
      · refine lv_iconst (v := II 4) C.1 C.2.1 dX8_mostOf_25 rfl ?_
        refine lv_goto (tgt := 41) C.1 C.2.1 dX8_mostOf_26 (by decide) ?_
        exact x_ireturn C hr hlk hw hS ⟨by decide, by decide⟩ rfl ⟨rfl, by rw [show w = 2 by omega]; rfl⟩ dX8_mostOf_41
    · refine lv_bipush (v := II 9) C.1 C.2.1 dX8_mostOf_15 (by decide) ?_
      refine lv_goto (tgt := 41) C.1 C.2.1 dX8_mostOf_17 (by decide) ?_
      exact x_ireturn C hr hlk hw hS ⟨by decide, by decide⟩ rfl ⟨rfl, by rw [show w = 1 by omega]; rfl⟩ dX8_mostOf_41
  · refine lv_sipush (v := II 999) C.1 C.2.1 dX8_mostOf_4 (by decide) ?_
    refine lv_goto (tgt := 41) C.1 C.2.1 dX8_mostOf_7 (by decide) ?_
    exact x_ireturn C hr hlk hw hS ⟨by decide, by decide⟩ rfl ⟨rfl, by rw [show w = 0 by omega]; rfl⟩ dX8_mostOf_41

set_option maxHeartbeats 4000000 in
set_option maxRecDepth 100000 in
theorem c_X8_lays0 (l : Launch) (g : Gm) (M : Nat → Int) (hF : LvF g) (q : Int) (gq : rg q) (x : Int) (gx : rg x) : CV l ({ cls := "RatedBySighsModel", name := "lays", desc := "(III)V" } : Jvm.MethodName) cX8_lays 4 (rmm 0 0) g M [.ref (gA g 70), .int (II 0), .int (II q), .int (II x)] (fun M' => M' = stM M 70007 x) := by
  refine c_start (by decide) (Nat.le_of_ble_eq_true rfl) (fun p e s m below meth c ls C hr hlk hml hw hS hl => ?_)
  have hl : lv_has ls 4 [(0, .ref (gA g 70)), (1, .int (II 0)), (2, .int (II q)), (3, .int (II x))] := hl
  have g_M := hw.rg
  have hN : gN g = 84 := hF.1
  refine lv_iload_n C.1 C.2.1 dX8_lays_0 rfl (lv_at hl 1 rfl) ?_
  refine x_if_ne (tgt := 12) C ⟨by decide, by decide⟩ dX8_lays_1 (by decide) (fun h => absurd h (by decide)) (fun _ => ?_)
  refine lv_aload_n C.1 C.2.1 dX8_lays_4 rfl (lv_at hl 0 rfl) ?_
  refine lv_iload_n C.1 C.2.1 dX8_lays_5 rfl (lv_at hl 3 rfl) ?_
  refine p8 C hw hS 70 (by omega) rfl 7 (by decide) mw_831 rfl (x := x) gx (svi st_s) (tyX8_ok 7 (by decide)) rfl rfl dX8_lays_6 (fun H locs hw hS => ?_)
  have hw : Wo g (stM M 70007 x) H := hw
  refine lv_goto (tgt := 53) C.1 C.2.1 dX8_lays_9 (by decide) ?_
  exact x_return C hr hlk hw hS rfl dX8_lays_53

set_option maxHeartbeats 4000000 in
set_option maxRecDepth 100000 in
theorem c_X8_laysN (l : Launch) (g : Gm) (M : Nat → Int) (hF : LvF g) (w : Nat) (hw0 : 1 ≤ w ∧ w ≤ 5) (q : Nat) (hq : q < 8) (f : Nat) (ps : Nat) (hp : psP f q ps ∧ (w = f ∨ (w = 5 ∧ f = 0))) (x : Int) (gx : rg x) : CV l ({ cls := "RatedBySighsModel", name := "lays", desc := "(III)V" } : Jvm.MethodName) cX8_lays 4 (rmm 0 0) g M [.ref (gA g 70), .int (II (w : Int)), .int (II (q : Int)), .int (II x)] (fun M' => M' = stM M ps x) := by
  refine c_start (by decide) (Nat.le_of_ble_eq_true rfl) (fun p e s m below meth c ls C hr hlk hml hw hS hl => ?_)
  have hl : lv_has ls 4 [(0, .ref (gA g 70)), (1, .int (II (w : Int))), (2, .int (II (q : Int))), (3, .int (II x))] := hl
  have g_M := hw.rg
  have hN : gN g = 84 := hF.1
  obtain ⟨hp1, hp2⟩ := hp
  unfold psP at hp1
  refine lv_iload_n C.1 C.2.1 dX8_lays_0 rfl (lv_at hl 1 rfl) ?_
  refine x_if_ne (tgt := 12) C ⟨by omega, by omega⟩ dX8_lays_1 (by decide) (fun c1 => ?_) (fun c1 => by exfalso; omega)
  refine lv_iload_n C.1 C.2.1 dX8_lays_12 rfl (lv_at hl 1 rfl) ?_
  refine lv_iconst (v := II 5) C.1 C.2.1 dX8_lays_13 rfl ?_
  refine x_icmp_ge (tgt := 33) C ⟨by omega, by omega⟩ ⟨by decide, by decide⟩ dX8_lays_14 (by decide) (fun c14 => ?_) (fun c14 => ?_)
  · refine lv_iload_n C.1 C.2.1 dX8_lays_33 rfl (lv_at hl 1 rfl) ?_
    refine lv_iconst (v := II 5) C.1 C.2.1 dX8_lays_34 rfl ?_
    refine x_icmp_ne (tgt := 48) C ⟨by omega, by omega⟩ ⟨by decide, by decide⟩ dX8_lays_35 (by decide) (fun c35 => by exfalso; omega) (fun c35 => ?_)
    refine lv_aload_n C.1 C.2.1 dX8_lays_38 rfl (lv_at hl 0 rfl) ?_
    refine g8 C hw 70 (by omega) rfl 9 (by decide) mw_833 (svr (hF.2 _)) dX8_lays_39 ?_
    refine lv_iload_n C.1 C.2.1 dX8_lays_42 rfl (lv_at hl 2 rfl) ?_
    refine lv_iload_n C.1 C.2.1 dX8_lays_43 rfl (lv_at hl 3 rfl) ?_
    refine x_iastore (L := 8) C hw hS 74 (by omega) rfl rfl (by omega) (by omega) (by decide) (x := x) gx dX8_lays_44 (fun H locs hw hS => ?_)
    have hw : Wo g (stM M (74000 + q) x) H := hw
    refine lv_goto (tgt := 53) C.1 C.2.1 dX8_lays_45 (by decide) ?_
    exact x_return C hr hlk hw hS (by first | (rw [show ps = 75000 + (4 * q + (w - 1)) by omega]; done) | (rw [show ps = 74000 + q by omega]; done)) dX8_lays_53
  · refine lv_aload_n C.1 C.2.1 dX8_lays_17 rfl (lv_at hl 0 rfl) ?_
    refine g8 C hw 70 (by omega) rfl 10 (by decide) mw_834 (svr (hF.2 _)) dX8_lays_18 ?_
    refine lv_iconst (v := II 4) C.1 C.2.1 dX8_lays_21 rfl ?_
    refine lv_iload_n C.1 C.2.1 dX8_lays_22 rfl (lv_at hl 2 rfl) ?_
    refine x_imul C dX8_lays_23 ?_
    refine lv_iload_n C.1 C.2.1 dX8_lays_24 rfl (lv_at hl 1 rfl) ?_
    refine x_iadd C dX8_lays_25 ?_
    refine lv_iconst (v := II 1) C.1 C.2.1 dX8_lays_26 rfl ?_
    refine x_isub C dX8_lays_27 ?_
    refine lv_iload_n C.1 C.2.1 dX8_lays_28 rfl (lv_at hl 3 rfl) ?_
    refine x_iastore (L := 32) C hw hS 75 (by omega) rfl rfl (by omega) (by omega) (by decide) (x := x) gx dX8_lays_29 (fun H locs hw hS => ?_)
    have hw : Wo g (stM M (75000 + (4 * q + (w - 1))) x) H := by rw [show 1000 * 75 + (((4 * (q : Int)) + (w : Int)) - 1).toNat = 75000 + (4 * q + (w - 1)) from by omega] at hw; exact hw
    refine lv_goto (tgt := 53) C.1 C.2.1 dX8_lays_30 (by decide) ?_
    exact x_return C hr hlk hw hS (by first | (rw [show ps = 75000 + (4 * q + (w - 1)) by omega]; done) | (rw [show ps = 74000 + q by omega]; done)) dX8_lays_53

set_option maxHeartbeats 4000000 in
set_option maxRecDepth 100000 in
theorem c_X8_lays6 (l : Launch) (g : Gm) (M : Nat → Int) (hF : LvF g) (q : Int) (gq : rg q) (x : Int) (gx : rg x) : CV l ({ cls := "RatedBySighsModel", name := "lays", desc := "(III)V" } : Jvm.MethodName) cX8_lays 4 (rmm 0 0) g M [.ref (gA g 70), .int (II 6), .int (II q), .int (II x)] (fun M' => M' = stM M 70004 x) := by
  refine c_start (by decide) (Nat.le_of_ble_eq_true rfl) (fun p e s m below meth c ls C hr hlk hml hw hS hl => ?_)
  have hl : lv_has ls 4 [(0, .ref (gA g 70)), (1, .int (II 6)), (2, .int (II q)), (3, .int (II x))] := hl
  have g_M := hw.rg
  have hN : gN g = 84 := hF.1
  refine lv_iload_n C.1 C.2.1 dX8_lays_0 rfl (lv_at hl 1 rfl) ?_
  refine x_if_ne (tgt := 12) C ⟨by decide, by decide⟩ dX8_lays_1 (by decide) (fun _ => ?_) (fun h => absurd h (by decide))
  refine lv_iload_n C.1 C.2.1 dX8_lays_12 rfl (lv_at hl 1 rfl) ?_
  refine lv_iconst (v := II 5) C.1 C.2.1 dX8_lays_13 rfl ?_
  refine x_icmp_ge (tgt := 33) C ⟨by decide, by decide⟩ ⟨by decide, by decide⟩ dX8_lays_14 (by decide) (fun _ => ?_) (fun h => absurd h (by decide))
  refine lv_iload_n C.1 C.2.1 dX8_lays_33 rfl (lv_at hl 1 rfl) ?_
  refine lv_iconst (v := II 5) C.1 C.2.1 dX8_lays_34 rfl ?_
  refine x_icmp_ne (tgt := 48) C ⟨by decide, by decide⟩ ⟨by decide, by decide⟩ dX8_lays_35 (by decide) (fun _ => ?_) (fun h => absurd h (by decide))
  refine lv_aload_n C.1 C.2.1 dX8_lays_48 rfl (lv_at hl 0 rfl) ?_
  refine lv_iload_n C.1 C.2.1 dX8_lays_49 rfl (lv_at hl 3 rfl) ?_
  refine p8 C hw hS 70 (by omega) rfl 4 (by decide) mw_828 rfl (x := x) gx (svi st_s) (tyX8_ok 4 (by decide)) rfl rfl dX8_lays_50 (fun H locs hw hS => ?_)
  have hw : Wo g (stM M 70004 x) H := hw
  exact x_return C hr hlk hw hS rfl dX8_lays_53

set_option maxHeartbeats 4000000 in
set_option maxRecDepth 100000 in
theorem c_X8_reed (l : Launch) (g : Gm) (M : Nat → Int) (hF : LvF g) (n : Nat) (v : Nat → Nat → Int) (nt : Int) (pd : Int) (t : Nat) (X : Txt) (I : Option Bor) (Sh : Sht) (hR : RepM M (n, v, nt, pd, t) X I Sh) (hA : InvA (n, v, nt, pd, t) X I Sh) (ho : Int) (gz_ho : rg ho) (h : Int) (gz_h : rg h) : CI l ({ cls := "RatedBySighsModel", name := "reed", desc := "(II)I" } : Jvm.MethodName) cX8_reed 3 .int (rmm 44 978) g M [.ref (gA g 70), .int (II ho), .int (II h)] (fun r M' => r = r_reed v n nt (X.2.1 t) ho h ∧ (RepM M' (n, v, nt, pd, t) X I Sh) ∧ (∀ m, m < 70000 → M' m = M m)) := by
  refine c_start (by decide) (Nat.le_of_ble_eq_true rfl) (fun p e s m below meth c ls C hr hlk hml hw hS hl => ?_)
  have hl : lv_has ls 3 [(0, .ref (gA g 70)), (1, .int (II ho)), (2, .int (II h))] := hl
  have g_M := hw.rg
  have hN : gN g = 84 := hF.1
  have hM : MB M n v nt t (X.2.1 t) (-1) := hR.mb hA
  have hn2 : n ≤ 8 := hM.1.2
  have hnt := hM.2.2.2.1.2
  have hpd : 0 ≤ pd ∧ pd ≤ 999999999 := hA.1.2.2.2.2.1
  have htc := hA.2.1
  have hts := hA.2.2.1.1
  have ht9 : t < X.1 := hA.1.2.2.2.2.2
  refine lv_iload_n C.1 C.2.1 dX8_reed_0 rfl (lv_at hl 1 rfl) ?_
  refine x_ci (x_runS (n := 1) C hw hS hml hl.1 (c_X8_isHouse l g M ho gz_ho) mw_1210 mw_1211 mw_130 mw_1212 rfl rfl (by decide +kernel) ⟨Nat.le_of_ble_eq_true rfl, Nat.le_of_ble_eq_true rfl⟩ rfl rfl (Nat.le_of_ble_eq_true rfl) dX8_reed_1 ⟨Nat.zero_le _, Nat.zero_le _⟩) hS (fun r1 M1 H locs hr1 hp hw hS => ?_)
  rcases hp with ⟨em1, (⟨er1, h1b⟩ | ⟨er1, h1b⟩)⟩
  · have hw : Wo g M H := em1 ▸ hw
    rw [er1]
    refine x_if_eq (tgt := 19) C ⟨by decide, by decide⟩ dX8_reed_4 (by decide) (fun h => absurd h (by decide)) (fun _ => ?_)
    have hle : 0 ≤ ho ∧ ho ≤ 4 := h1b
    refine lv_iload_n C.1 C.2.1 dX8_reed_7 rfl (lv_at hl 2 rfl) ?_
    refine x_i2l C gz_h dX8_reed_8 ?_
    refine lv_lconst (v := LL 0) C.1 C.2.1 dX8_reed_9 (by decide) ?_
    refine lv_ldc2 C.1 C.2.1 C.2.2.1 (C.2.2.2.1 _ mw_1208) dX8_reed_10 ?_
    rw [show (5 : Int64) = LL 5 from by decide]
    refine x_ci (x_runS (n := 3) C hw hS hml hl.1 (c_X8_in l g M h gz_h 0 ⟨by decide, by decide⟩ 5 ⟨by decide, by decide⟩) mw_957 mw_958 mw_130 mw_959 rfl rfl (by decide +kernel) ⟨Nat.le_of_ble_eq_true rfl, Nat.le_of_ble_eq_true rfl⟩ rfl rfl (Nat.le_of_ble_eq_true rfl) dX8_reed_13 ⟨Nat.zero_le _, Nat.zero_le _⟩) hS (fun r13 M13 H locs hr13 hp hw hS => ?_)
    rcases hp with ⟨em13, (⟨er13, h13b⟩ | ⟨er13, h13b⟩)⟩
    · have hw : Wo g M H := em13 ▸ hw
      rw [er13]
      refine x_if_ne (tgt := 22) C ⟨by decide, by decide⟩ dX8_reed_16 (by decide) (fun _ => ?_) (fun h => absurd h (by decide))
      have hle2 : 0 ≤ h ∧ h ≤ 5 := h13b
      obtain ⟨i, rfl⟩ : ∃ i : Nat, h = (i : Int) := ⟨h.toNat, by omega⟩
      refine lv_aload_n C.1 C.2.1 dX8_reed_22 rfl (lv_at hl 0 rfl) ?_
      refine x_cv (x_runV (n := 0) C hw hS hml hl.1 70 8 (by omega) rfl (by decide) rfl (c_X8_gathers l g M hF n v nt t (X.2.1 t) (-1) hM) mw_979 mw_981 mw_54 mw_130 mw_982 rfl rfl (by decide +kernel) ⟨Nat.le_of_ble_eq_true rfl, Nat.le_of_ble_eq_true rfl⟩ rfl rfl (Nat.le_of_ble_eq_true rfl) dX8_reed_23 ⟨Nat.zero_le _, Nat.zero_le _⟩) hS (fun M23 H locs hp hw hS => ?_)
      obtain ⟨h23a, h23f⟩ := hp
      have g_M23 := hw.rg
      refine lv_aload_n C.1 C.2.1 dX8_reed_26 rfl (lv_at hl 0 rfl) ?_
      refine lv_iload_n C.1 C.2.1 dX8_reed_27 rfl (lv_at hl 1 rfl) ?_
      refine lv_iload_n C.1 C.2.1 dX8_reed_28 rfl (lv_at hl 2 rfl) ?_
      refine x_ci (x_runV (n := 2) C hw hS hml hl.1 70 8 (by omega) rfl (by decide) rfl (c_X8_reedOf l g M23 hF n v nt t (X.2.1 t) (hM.fr h23f) (fun p hp hg h hh => (h23a p hp hg h hh).2) ho gz_ho i (by first | assumption | omega | exact ⟨by omega, by omega⟩ | decide)) mw_1231 mw_1233 mw_108 mw_130 mw_1234 rfl rfl (by decide +kernel) ⟨Nat.le_of_ble_eq_true rfl, Nat.le_of_ble_eq_true rfl⟩ rfl rfl (Nat.le_of_ble_eq_true rfl) dX8_reed_29 ⟨Nat.zero_le _, Nat.zero_le _⟩) hS (fun r29 M29 H locs hr29 hp hw hS => ?_)
      obtain ⟨em29, er29⟩ := hp
      have hw : Wo g M23 H := em29 ▸ hw
      rw [er29] at hr29 ⊢
      exact x_ireturn C hr hlk hw hS hr29 rfl ⟨(by unfold r_reed; rw [if_pos (by omega)]; rfl), (hR.fr hA (fun m hm _ => h23f m (fun z => hm (Or.inl z)))), (fun m hm => h23f m (by unfold scm; omega))⟩ dX8_reed_32
    · have hw : Wo g M H := em13 ▸ hw
      rw [er13]
      refine x_if_ne (tgt := 22) C ⟨by decide, by decide⟩ dX8_reed_16 (by decide) (fun h => absurd h (by decide)) (fun _ => ?_)
      try (have hle : ¬ (0 ≤ ho ∧ ho ≤ 4) := h1b)
      refine lv_bipush (v := II (-2)) C.1 C.2.1 dX8_reed_19 (by decide) ?_
      exact x_ireturn C hr hlk hw hS ⟨by decide, by decide⟩ rfl ⟨(by unfold r_reed; (repeat' split) <;> first | rfl | omega), hR, (fun _ _ => rfl)⟩ dX8_reed_21
  · have hw : Wo g M H := em1 ▸ hw
    rw [er1]
    refine x_if_eq (tgt := 19) C ⟨by decide, by decide⟩ dX8_reed_4 (by decide) (fun _ => ?_) (fun h => absurd h (by decide))
    try (have hle : ¬ (0 ≤ ho ∧ ho ≤ 4) := h1b)
    refine lv_bipush (v := II (-2)) C.1 C.2.1 dX8_reed_19 (by decide) ?_
    exact x_ireturn C hr hlk hw hS ⟨by decide, by decide⟩ rfl ⟨(by unfold r_reed; (repeat' split) <;> first | rfl | omega), hR, (fun _ _ => rfl)⟩ dX8_reed_21

set_option maxHeartbeats 4000000 in
set_option maxRecDepth 100000 in
theorem c_X8_due (l : Launch) (g : Gm) (M : Nat → Int) (hF : LvF g) (n : Nat) (v : Nat → Nat → Int) (nt : Int) (pd : Int) (t : Nat) (X : Txt) (I : Option Bor) (Sh : Sht) (hR : RepM M (n, v, nt, pd, t) X I Sh) (hA : InvA (n, v, nt, pd, t) X I Sh) (h : Int) (gz_h : rg h) : CI l ({ cls := "RatedBySighsModel", name := "due", desc := "(I)I" } : Jvm.MethodName) cX8_due 2 .int (rmm 45 1000) g M [.ref (gA g 70), .int (II h)] (fun r M' => r = r_due v n nt (X.2.1 t) h ∧ (RepM M' (n, v, nt, pd, t) X I Sh) ∧ (∀ m, m < 70000 → M' m = M m)) := by
  refine c_start (by decide) (Nat.le_of_ble_eq_true rfl) (fun p e s m below meth c ls C hr hlk hml hw hS hl => ?_)
  have hl : lv_has ls 2 [(0, .ref (gA g 70)), (1, .int (II h))] := hl
  have g_M := hw.rg
  have hN : gN g = 84 := hF.1
  have hM : MB M n v nt t (X.2.1 t) (-1) := hR.mb hA
  have hn2 : n ≤ 8 := hM.1.2
  have hnt := hM.2.2.2.1.2
  have hpd : 0 ≤ pd ∧ pd ≤ 999999999 := hA.1.2.2.2.2.1
  have htc := hA.2.1
  have hts := hA.2.2.1.1
  have ht9 : t < X.1 := hA.1.2.2.2.2.2
  refine lv_iload_n C.1 C.2.1 dX8_due_0 rfl (lv_at hl 1 rfl) ?_
  refine lv_iconst (v := II (-1)) C.1 C.2.1 dX8_due_1 rfl ?_
  refine x_icmp_ne (tgt := 10) C gz_h ⟨by decide, by decide⟩ dX8_due_2 (by decide) (fun c2 => ?_) (fun c2 => ?_)
  · refine lv_iload_n C.1 C.2.1 dX8_due_10 rfl (lv_at hl 1 rfl) ?_
    refine x_ci (x_runS (n := 1) C hw hS hml hl.1 (c_X8_isHouse l g M h gz_h) mw_1210 mw_1211 mw_130 mw_1212 rfl rfl (by decide +kernel) ⟨Nat.le_of_ble_eq_true rfl, Nat.le_of_ble_eq_true rfl⟩ rfl rfl (Nat.le_of_ble_eq_true rfl) dX8_due_11 ⟨Nat.zero_le _, Nat.zero_le _⟩) hS (fun r11 M11 H locs hr11 hp hw hS => ?_)
    rcases hp with ⟨em11, (⟨er11, h11b⟩ | ⟨er11, h11b⟩)⟩
    · have hw : Wo g M H := em11 ▸ hw
      rw [er11]
      refine x_if_ne (tgt := 20) C ⟨by decide, by decide⟩ dX8_due_14 (by decide) (fun _ => ?_) (fun h => absurd h (by decide))
      have hle : 0 ≤ h ∧ h ≤ 4 := h11b
      refine lv_aload_n C.1 C.2.1 dX8_due_20 rfl (lv_at hl 0 rfl) ?_
      refine x_cv (x_runV (n := 0) C hw hS hml hl.1 70 8 (by omega) rfl (by decide) rfl (c_X8_gathers l g M hF n v nt t (X.2.1 t) (-1) hM) mw_979 mw_981 mw_54 mw_130 mw_982 rfl rfl (by decide +kernel) ⟨Nat.le_of_ble_eq_true rfl, Nat.le_of_ble_eq_true rfl⟩ rfl rfl (Nat.le_of_ble_eq_true rfl) dX8_due_21 ⟨Nat.zero_le _, Nat.zero_le _⟩) hS (fun M21 H locs hp hw hS => ?_)
      obtain ⟨h21a, h21f⟩ := hp
      have g_M21 := hw.rg
      refine lv_aload_n C.1 C.2.1 dX8_due_24 rfl (lv_at hl 0 rfl) ?_
      refine lv_iload_n C.1 C.2.1 dX8_due_25 rfl (lv_at hl 1 rfl) ?_
      refine x_ci (x_runV (n := 1) C hw hS hml hl.1 70 8 (by omega) rfl (by decide) rfl (c_X8_dueOf l g M21 hF n v nt t (X.2.1 t) (-1) (hM.fr h21f) (fun p hp hg h hh => (h21a p hp hg h hh).2) h (by first | assumption | omega | exact ⟨by omega, by omega⟩ | decide)) mw_1243 mw_1245 mw_110 mw_130 mw_1246 rfl rfl (by decide +kernel) ⟨Nat.le_of_ble_eq_true rfl, Nat.le_of_ble_eq_true rfl⟩ rfl rfl (Nat.le_of_ble_eq_true rfl) dX8_due_26 ⟨Nat.zero_le _, Nat.zero_le _⟩) hS (fun r26 M26 H locs hr26 hp hw hS => ?_)
      obtain ⟨er26, h26f⟩ := hp
      have g_M26 := hw.rg
      rw [er26] at hr26 ⊢
      exact x_ireturn C hr hlk hw hS hr26 rfl ⟨(by unfold r_due; (repeat' split) <;> first | rfl | omega), (hR.fr hA (fun m hm _ => (h26f m (fun z => hm (Or.inl (Or.inl z)))).trans (h21f m (fun z => hm (Or.inl z))))), (fun m hm => (h26f m (by omega)).trans (h21f m (by unfold scm; omega)))⟩ dX8_due_29
    · have hw : Wo g M H := em11 ▸ hw
      rw [er11]
      refine x_if_ne (tgt := 20) C ⟨by decide, by decide⟩ dX8_due_14 (by decide) (fun h => absurd h (by decide)) (fun _ => ?_)
      have hle : ¬ (0 ≤ h ∧ h ≤ 4) := h11b
      refine lv_bipush (v := II (-2)) C.1 C.2.1 dX8_due_17 (by decide) ?_
      exact x_ireturn C hr hlk hw hS ⟨by decide, by decide⟩ rfl ⟨(by unfold r_due; (repeat' split) <;> first | rfl | omega), hR, (fun _ _ => rfl)⟩ dX8_due_19
  · refine lv_aload_n C.1 C.2.1 dX8_due_5 rfl (lv_at hl 0 rfl) ?_
    refine x_ci (x_runV (n := 0) C hw hS hml hl.1 70 8 (by omega) rfl (by decide) rfl (c_X8_allDue l g M hF n v nt t (X.2.1 t) (-1) hM) mw_1239 mw_1241 mw_109 mw_130 mw_1242 rfl rfl (by decide +kernel) ⟨Nat.le_of_ble_eq_true rfl, Nat.le_of_ble_eq_true rfl⟩ rfl rfl (Nat.le_of_ble_eq_true rfl) dX8_due_6 ⟨Nat.zero_le _, Nat.zero_le _⟩) hS (fun r6 M6 H locs hr6 hp hw hS => ?_)
    obtain ⟨er6, h6f⟩ := hp
    have g_M6 := hw.rg
    rw [er6] at hr6 ⊢
    exact x_ireturn C hr hlk hw hS hr6 rfl ⟨(by unfold r_due; (repeat' split) <;> first | rfl | omega), (hR.fr hA (fun m hm _ => h6f m (fun z => hm (Or.inl z)))), (fun m hm => h6f m (by unfold scm; omega))⟩ dX8_due_9

set_option maxHeartbeats 4000000 in
set_option maxRecDepth 100000 in
theorem c_X8_night (l : Launch) (g : Gm) (M : Nat → Int) (hF : LvF g) (n : Nat) (v : Nat → Nat → Int) (nt : Int) (pd : Int) (t : Nat) (X : Txt) (I : Option Bor) (Sh : Sht) (hR : RepM M (n, v, nt, pd, t) X I Sh) (hA : InvA (n, v, nt, pd, t) X I Sh) : CI l ({ cls := "RatedBySighsModel", name := "night", desc := "()I" } : Jvm.MethodName) cX8_night 2 .int (rmm 45 1000) g M [.ref (gA g 70)] (fun r M' => r = r_night v n nt (X.2.1 t) ∧ (RepM M' (n, v, nt_night nt, pd_night v n nt (X.2.1 t) pd, t) X I Sh) ∧ (∀ m, m < 70000 → M' m = M m)) := by
  refine c_start (by decide) (Nat.le_of_ble_eq_true rfl) (fun p e s m below meth c ls C hr hlk hml hw hS hl => ?_)
  have hl : lv_has ls 2 [(0, .ref (gA g 70))] := hl
  have g_M := hw.rg
  have hN : gN g = 84 := hF.1
  have hM : MB M n v nt t (X.2.1 t) (-1) := hR.mb hA
  have hn2 : n ≤ 8 := hM.1.2
  have hnt := hM.2.2.2.1.2
  have hpd : 0 ≤ pd ∧ pd ≤ 999999999 := hA.1.2.2.2.2.1
  have htc := hA.2.1
  have hts := hA.2.2.1.1
  have ht9 : t < X.1 := hA.1.2.2.2.2.2
  refine lv_aload_n C.1 C.2.1 dX8_night_0 rfl (lv_at hl 0 rfl) ?_
  refine g8 C hw 70 (by omega) rfl 7 (by decide) mw_831 (svi (x := nt) hM.2.2.2.1.1) dX8_night_1 ?_
  refine lv_sipush (v := II 999) C.1 C.2.1 dX8_night_4 (by decide) ?_
  refine x_icmp_ne (tgt := 13) C ⟨by have := g_M 70007; have := hM.2.2.2.1.1; omega, by have := g_M 70007; have := hM.2.2.2.1.1; omega⟩ ⟨by decide, by decide⟩ dX8_night_7 (by decide) (fun c7 => ?_) (fun c7 => ?_)
  · have ha1 := allS_in v n nt (X.2.1 t)
    refine lv_aload_n C.1 C.2.1 dX8_night_13 rfl (lv_at hl 0 rfl) ?_
    refine x_ci (x_runV (n := 0) C hw hS hml hl.1 70 8 (by omega) rfl (by decide) rfl (c_X8_allDue l g M hF n v nt t (X.2.1 t) (-1) hM) mw_1239 mw_1241 mw_109 mw_130 mw_1242 rfl rfl (by decide +kernel) ⟨Nat.le_of_ble_eq_true rfl, Nat.le_of_ble_eq_true rfl⟩ rfl rfl (Nat.le_of_ble_eq_true rfl) dX8_night_14 ⟨Nat.zero_le _, Nat.zero_le _⟩) hS (fun r14 M14 H locs hr14 hp hw hS => ?_)
    obtain ⟨er14, h14f⟩ := hp
    have g_M14 := hw.rg
    rw [er14] at hr14 ⊢
    have e8 : M14 70008 = pd := (h14f _ (by unfold scm; omega)).trans hR.1.1.2.2.1
    have e7 : M14 70007 = nt := (h14f _ (by unfold scm; omega)).trans hR.1.1.2.1
    refine lv_istore_n (lv' := [(1, .int (II (allS v n nt (X.2.1 t)))), (0, .ref (gA g 70))]) C.1 C.2.1 dX8_night_17 rfl hl (by decide) rfl (fun ls hl => ?_)
    refine lv_aload_n C.1 C.2.1 dX8_night_18 rfl (lv_at hl 1 rfl) ?_
    refine lv_aload_n C.1 C.2.1 dX8_night_19 rfl (lv_at hl 1 rfl) ?_
    refine g8 C hw 70 (by omega) rfl 8 (by decide) mw_832 (svi (x := pd) e8) dX8_night_20 ?_
    refine lv_iload_n C.1 C.2.1 dX8_night_23 rfl (lv_at hl 0 rfl) ?_
    refine x_iadd C dX8_night_24 ?_
    refine lv_iconst (v := II 0) C.1 C.2.1 dX8_night_25 rfl ?_
    refine lv_ldcw C.1 C.2.1 C.2.2.1 (C.2.2.2.1 _ mw_1251) dX8_night_26 ?_
    rw [show (999999999 : Int32) = II 999999999 from by decide]
    refine x_ci (x_runS (n := 3) C hw hS hml hl.1 (c_X8_within l g M14 (pd + (allS v n nt (X.2.1 t))) ⟨by have := g_M14 70008; have := e8; omega, by have := g_M14 70008; have := e8; omega⟩ 0 ⟨by decide, by decide⟩ 999999999 ⟨by decide, by decide⟩) mw_1189 mw_1190 mw_130 mw_1191 rfl rfl (by decide +kernel) ⟨Nat.le_of_ble_eq_true rfl, Nat.le_of_ble_eq_true rfl⟩ rfl rfl (Nat.le_of_ble_eq_true rfl) dX8_night_29 ⟨Nat.zero_le _, Nat.zero_le _⟩) hS (fun r29 M29 H locs hr29 hp hw hS => ?_)
    obtain ⟨em29, er29⟩ := hp
    have hw : Wo g M14 H := em29 ▸ hw
    rw [er29] at hr29 ⊢
    have hb29 := bnd_in (v := pd + allS v n nt (X.2.1 t)) (lo := 0) (hi := 999999999) (by decide)
    refine p8 C hw hS 70 (by omega) rfl 8 (by decide) mw_832 rfl (x := bnd (pd + (allS v n nt (X.2.1 t))) 0 999999999) hr29 (svi st_s) (tyX8_ok 8 (by decide)) rfl rfl dX8_night_32 (fun H locs hw hS => ?_)
    have hw : Wo g (stM M14 70008 (bnd (pd + (allS v n nt (X.2.1 t))) 0 999999999)) H := hw
    refine lv_aload_n C.1 C.2.1 dX8_night_35 rfl (lv_at hl 1 rfl) ?_
    refine lv_dup C.1 C.2.1 dX8_night_36 rfl ?_
    refine g8 C hw 70 (by omega) rfl 7 (by decide) mw_831 (svi (x := nt) ((st_n (by decide)).trans e7)) dX8_night_37 ?_
    refine lv_iconst (v := II 1) C.1 C.2.1 dX8_night_40 rfl ?_
    refine x_iadd C dX8_night_41 ?_
    refine p8 C hw hS 70 (by omega) rfl 7 (by decide) mw_831 rfl (x := nt + 1) ⟨by omega, by omega⟩ (svi st_s) (tyX8_ok 7 (by decide)) rfl rfl dX8_night_42 (fun H locs hw hS => ?_)
    have hw : Wo g (stM (stM M14 70008 (bnd (pd + (allS v n nt (X.2.1 t))) 0 999999999)) 70007 (nt + 1)) H := hw
    refine lv_iload_n C.1 C.2.1 dX8_night_45 rfl (lv_at hl 0 rfl) ?_
    exact x_ireturn C hr hlk hw hS hr14 rfl (by
    have e : ¬ nt = 999 := by omega
    unfold r_night nt_night pd_night
    rw [if_neg e, if_neg e, if_neg e]
    refine ⟨rfl, hR.b2 hA ⟨⟨?_, st_s, (st_n (by decide)).trans st_s, ?_⟩, fun q hq => ?_⟩ (fun m hm => ?_), fun m hm => ?_⟩
    · rw [st_n (by decide), st_n (by decide), h14f _ (by unfold scm; omega)]; exact hR.1.1.1
    · rw [st_n (by decide), st_n (by decide), h14f _ (by unfold scm; omega)]; exact hR.1.1.2.2.2
    · have hq9 : q < n := hq
      have hr := hR.1.2 q hq
      exact ⟨by rw [st_n (by omega), st_n (by omega), h14f _ (by unfold scm; omega)]; exact hr.1, hr.2.fr (fun m hm => by rw [st_n (by omega), st_n (by omega), h14f _ (by unfold scm; omega)])⟩
    · rw [st_n (fun z => hm (by omega)), st_n (fun z => hm (by omega))]; exact h14f m (fun z => hm (Or.inl (Or.inl z)))
    · rw [st_n (by omega), st_n (by omega)]; exact h14f m (by unfold scm; omega)) dX8_night_46
  · refine lv_bipush (v := II (-3)) C.1 C.2.1 dX8_night_10 (by decide) ?_
    exact x_ireturn C hr hlk hw hS ⟨by decide, by decide⟩ rfl (by have e : nt = 999 := (by omega); unfold r_night nt_night pd_night; rw [if_pos e, if_pos e, if_pos e]; exact ⟨rfl, hR, fun _ _ => rfl⟩) dX8_night_12

set_option maxHeartbeats 4000000 in
set_option maxRecDepth 100000 in
theorem c_X8_cost (l : Launch) (g : Gm) (M : Nat → Int) (hF : LvF g) (n : Nat) (v : Nat → Nat → Int) (nt : Int) (pd : Int) (t : Nat) (X : Txt) (I : Option Bor) (Sh : Sht) (hR : RepM M (n, v, nt, pd, t) X I Sh) (hA : InvA (n, v, nt, pd, t) X I Sh) (q : Int) (gz_q : rg q) : CI l ({ cls := "RatedBySighsModel", name := "cost", desc := "(I)I" } : Jvm.MethodName) cX8_cost 4 .int (rmm 45 1000) g M [.ref (gA g 70), .int (II q)] (fun r M' => r = r_cost v n nt (X.2.1 t) q ∧ (RepM M' (n, v, nt, pd, t) X I Sh) ∧ (∀ m, m < 70000 → M' m = M m)) := by
  refine c_start (by decide) (Nat.le_of_ble_eq_true rfl) (fun p e s m below meth c ls C hr hlk hml hw hS hl => ?_)
  have hl : lv_has ls 4 [(0, .ref (gA g 70)), (1, .int (II q))] := hl
  have g_M := hw.rg
  have hN : gN g = 84 := hF.1
  have hM : MB M n v nt t (X.2.1 t) (-1) := hR.mb hA
  have hn2 : n ≤ 8 := hM.1.2
  have hnt := hM.2.2.2.1.2
  have hpd : 0 ≤ pd ∧ pd ≤ 999999999 := hA.1.2.2.2.2.1
  have htc := hA.2.1
  have hts := hA.2.2.1.1
  have ht9 : t < X.1 := hA.1.2.2.2.2.2
  refine lv_aload_n C.1 C.2.1 dX8_cost_0 rfl (lv_at hl 0 rfl) ?_
  refine lv_iload_n C.1 C.2.1 dX8_cost_1 rfl (lv_at hl 1 rfl) ?_
  refine x_ci (x_runV (n := 1) C hw hS hml hl.1 70 8 (by omega) rfl (by decide) rfl (c_X8_isOne l g M hF n hM.1 q gz_q) mw_960 mw_962 mw_53 mw_130 mw_963 rfl rfl (by decide +kernel) ⟨Nat.le_of_ble_eq_true rfl, Nat.le_of_ble_eq_true rfl⟩ rfl rfl (Nat.le_of_ble_eq_true rfl) dX8_cost_2 ⟨Nat.zero_le _, Nat.zero_le _⟩) hS (fun r2 M2 H locs hr2 hp hw hS => ?_)
  rcases hp with ⟨em2, (⟨er2, h2b⟩ | ⟨er2, h2b⟩)⟩
  · have hw : Wo g M H := em2 ▸ hw
    rw [er2]
    refine x_if_ne (tgt := 12) C ⟨by decide, by decide⟩ dX8_cost_5 (by decide) (fun _ => ?_) (fun h => absurd h (by decide))
    have hqn : 0 ≤ q ∧ q < n := h2b
    obtain ⟨i, rfl⟩ : ∃ i : Nat, q = (i : Int) := ⟨q.toNat, by omega⟩
    have ha1 := allS_in v n nt (X.2.1 t)
    have ha2 := allS_in (upv v i 2 (-1)) n nt (X.2.1 t)
    refine lv_aload_n C.1 C.2.1 dX8_cost_12 rfl (lv_at hl 0 rfl) ?_
    refine x_ci (x_runV (n := 0) C hw hS hml hl.1 70 8 (by omega) rfl (by decide) rfl (c_X8_allDue l g M hF n v nt t (X.2.1 t) (-1) hM) mw_1239 mw_1241 mw_109 mw_130 mw_1242 rfl rfl (by decide +kernel) ⟨Nat.le_of_ble_eq_true rfl, Nat.le_of_ble_eq_true rfl⟩ rfl rfl (Nat.le_of_ble_eq_true rfl) dX8_cost_13 ⟨Nat.zero_le _, Nat.zero_le _⟩) hS (fun r13 M13 H locs hr13 hp hw hS => ?_)
    obtain ⟨er13, h13f⟩ := hp
    have g_M13 := hw.rg
    rw [er13] at hr13 ⊢
    refine lv_istore_n (lv' := [(2, .int (II (allS v n nt (X.2.1 t)))), (0, .ref (gA g 70)), (1, .int (II (i : Int)))]) C.1 C.2.1 dX8_cost_16 rfl hl (by decide) rfl (fun ls hl => ?_)
    refine lv_aload_n C.1 C.2.1 dX8_cost_17 rfl (lv_at hl 1 rfl) ?_
    refine lv_iload_n C.1 C.2.1 dX8_cost_18 rfl (lv_at hl 2 rfl) ?_
    refine p8 C hw hS 70 (by omega) rfl 27 (by decide) mw_851 rfl (x := (i : Int)) ⟨by omega, by omega⟩ (svi st_s) (tyX8_ok 27 (by decide)) rfl rfl dX8_cost_19 (fun H locs hw hS => ?_)
    have hw : Wo g (stM M13 70027 (i : Int)) H := hw
    refine lv_aload_n C.1 C.2.1 dX8_cost_22 rfl (lv_at hl 1 rfl) ?_
    refine x_ci (x_runV (n := 0) C hw hS hml hl.1 70 8 (by omega) rfl (by decide) rfl (c_X8_allDue l g (stM M13 70027 (i : Int)) hF n (upv v i 2 (-1)) nt t (X.2.1 t) (i : Int) (hM.gone (by omega) (fun m hm => by rw [st_n (fun z => hm (Or.inr z))]; exact h13f m (fun z => hm (Or.inl (Or.inl z)))) st_s)) mw_1239 mw_1241 mw_109 mw_130 mw_1242 rfl rfl (by decide +kernel) ⟨Nat.le_of_ble_eq_true rfl, Nat.le_of_ble_eq_true rfl⟩ rfl rfl (Nat.le_of_ble_eq_true rfl) dX8_cost_23 ⟨Nat.zero_le _, Nat.zero_le _⟩) hS (fun r23 M23 H locs hr23 hp hw hS => ?_)
    obtain ⟨er23, h23f⟩ := hp
    have g_M23 := hw.rg
    rw [er23] at hr23 ⊢
    refine lv_istore_n (lv' := [(3, .int (II (allS (upv v i 2 (-1)) n nt (X.2.1 t)))), (2, .int (II (allS v n nt (X.2.1 t)))), (0, .ref (gA g 70)), (1, .int (II (i : Int)))]) C.1 C.2.1 dX8_cost_26 rfl hl (by decide) rfl (fun ls hl => ?_)
    refine lv_aload_n C.1 C.2.1 dX8_cost_27 rfl (lv_at hl 2 rfl) ?_
    refine lv_iconst (v := II (-1)) C.1 C.2.1 dX8_cost_28 rfl ?_
    refine p8 C hw hS 70 (by omega) rfl 27 (by decide) mw_851 rfl (x := (-1)) ⟨by decide, by decide⟩ (svi st_s) (tyX8_ok 27 (by decide)) rfl rfl dX8_cost_29 (fun H locs hw hS => ?_)
    have hw : Wo g (stM M23 70027 (-1)) H := hw
    refine lv_iload_n C.1 C.2.1 dX8_cost_32 rfl (lv_at hl 1 rfl) ?_
    refine lv_iload_n C.1 C.2.1 dX8_cost_33 rfl (lv_at hl 0 rfl) ?_
    refine x_isub C dX8_cost_34 ?_
    exact x_ireturn C hr hlk hw hS ⟨by omega, by omega⟩ rfl ⟨(by unfold r_cost; rw [if_pos (by omega)]; rfl), (hR.fr hA (fun m hm _ => by
        by_cases e : m = 70027
        · subst e; rw [st_s]; exact hR.2.2.2.2.symm
        · rw [st_n e, h23f m (fun z => hm (Or.inl z)), st_n e]; exact h13f m (fun z => hm (Or.inl z)))), (fun m hm => by rw [st_n (by omega), h23f m (by unfold scm; omega), st_n (by omega)]; exact h13f m (by unfold scm; omega))⟩ dX8_cost_35
  · have hw : Wo g M H := em2 ▸ hw
    rw [er2]
    refine x_if_ne (tgt := 12) C ⟨by decide, by decide⟩ dX8_cost_5 (by decide) (fun h => absurd h (by decide)) (fun _ => ?_)
    refine lv_ldcw C.1 C.2.1 C.2.2.1 (C.2.2.2.1 _ mw_1260) dX8_cost_8 ?_
    rw [show (-100000 : Int32) = II (-100000) from by decide]
    exact x_ireturn C hr hlk hw hS ⟨by decide, by decide⟩ rfl ⟨(by unfold r_cost; rw [if_neg h2b]), hR, (fun _ _ => rfl)⟩ dX8_cost_11

set_option maxHeartbeats 4000000 in
set_option maxRecDepth 100000 in
theorem c_X8_feed (l : Launch) (g : Gm) (M : Nat → Int) (hF : LvF g) (n : Nat) (v : Nat → Nat → Int) (nt : Int) (pd : Int) (t : Nat) (X : Txt) (I : Option Bor) (Sh : Sht) (hR : RepM M (n, v, nt, pd, t) X I Sh) (hA : InvA (n, v, nt, pd, t) X I Sh) (x : Int) (gz_x : rg x) : CI l ({ cls := "RatedBySighsModel", name := "feed", desc := "(I)I" } : Jvm.MethodName) cX8_feed 2 .int (rmm 1 25) g M [.ref (gA g 70), .int (II x)] (fun r M' => r = r_feed X x ∧ (RepM M' (n, v, nt, pd, t) (x_feed X x) I Sh) ∧ (∀ m, m < 70000 → M' m = M m)) := by
  refine c_start (by decide) (Nat.le_of_ble_eq_true rfl) (fun p e s m below meth c ls C hr hlk hml hw hS hl => ?_)
  have hl : lv_has ls 2 [(0, .ref (gA g 70)), (1, .int (II x))] := hl
  have g_M := hw.rg
  have hN : gN g = 84 := hF.1
  have hM : MB M n v nt t (X.2.1 t) (-1) := hR.mb hA
  have hn2 : n ≤ 8 := hM.1.2
  have hnt := hM.2.2.2.1.2
  have hpd : 0 ≤ pd ∧ pd ≤ 999999999 := hA.1.2.2.2.2.1
  have htc := hA.2.1
  have hts := hA.2.2.1.1
  have ht9 : t < X.1 := hA.1.2.2.2.2.2
  refine lv_iload_n C.1 C.2.1 dX8_feed_0 rfl (lv_at hl 1 rfl) ?_
  refine x_i2l C gz_x dX8_feed_1 ?_
  refine lv_lconst (v := LL 0) C.1 C.2.1 dX8_feed_2 (by decide) ?_
  refine lv_ldc2 C.1 C.2.1 C.2.2.1 (C.2.2.2.1 _ mw_1218) dX8_feed_3 ?_
  rw [show (255 : Int64) = LL 255 from by decide]
  refine x_ci (x_runS (n := 3) C hw hS hml hl.1 (c_X8_in l g M x gz_x 0 ⟨by decide, by decide⟩ 255 ⟨by decide, by decide⟩) mw_957 mw_958 mw_130 mw_959 rfl rfl (by decide +kernel) ⟨Nat.le_of_ble_eq_true rfl, Nat.le_of_ble_eq_true rfl⟩ rfl rfl (Nat.le_of_ble_eq_true rfl) dX8_feed_6 ⟨Nat.zero_le _, Nat.zero_le _⟩) hS (fun r6 M6 H locs hr6 hp hw hS => ?_)
  rcases hp with ⟨em6, (⟨er6, h6b⟩ | ⟨er6, h6b⟩)⟩
  · have hw : Wo g M H := em6 ▸ hw
    rw [er6]
    refine x_if_ne (tgt := 15) C ⟨by decide, by decide⟩ dX8_feed_9 (by decide) (fun _ => ?_) (fun h => absurd h (by decide))
    have hle0 : 0 ≤ x ∧ x ≤ 255 := h6b
    refine lv_aload_n C.1 C.2.1 dX8_feed_15 rfl (lv_at hl 0 rfl) ?_
    refine g8 C hw 70 (by omega) rfl 6 (by decide) mw_830 (svi (x := (X.2.2.1 : Int)) hR.2.1.2.2.1) dX8_feed_16 ?_
    refine lv_sipush (v := II 160) C.1 C.2.1 dX8_feed_19 (by decide) ?_
    refine x_icmp_ne (tgt := 28) C ⟨by have := g_M 70006; have := hR.2.1.2.2.1; omega, by have := g_M 70006; have := hR.2.1.2.2.1; omega⟩ ⟨by decide, by decide⟩ dX8_feed_22 (by decide) (fun c22 => ?_) (fun c22 => ?_)
    · refine lv_aload_n C.1 C.2.1 dX8_feed_28 rfl (lv_at hl 0 rfl) ?_
      refine g8 C hw 70 (by omega) rfl 5 (by decide) mw_829 (svr (hF.2 _)) dX8_feed_29 ?_
      refine lv_aload_n C.1 C.2.1 dX8_feed_32 rfl (lv_at hl 0 rfl) ?_
      refine g8 C hw 70 (by omega) rfl 6 (by decide) mw_830 (svi (x := (X.2.2.1 : Int)) hR.2.1.2.2.1) dX8_feed_33 ?_
      refine lv_iload_n C.1 C.2.1 dX8_feed_36 rfl (lv_at hl 1 rfl) ?_
      refine x_iastore (L := 160) C hw hS 73 (by omega) rfl rfl (by omega) (by omega) (by decide) (x := x) gz_x dX8_feed_37 (fun H locs hw hS => ?_)
      have hw : Wo g (stM M (73000 + X.2.2.1) x) H := hw
      refine lv_aload_n C.1 C.2.1 dX8_feed_38 rfl (lv_at hl 0 rfl) ?_
      refine lv_dup C.1 C.2.1 dX8_feed_39 rfl ?_
      refine g8 C hw 70 (by omega) rfl 6 (by decide) mw_830 (svi (x := (X.2.2.1 : Int)) ((st_n (by omega)).trans hR.2.1.2.2.1)) dX8_feed_40 ?_
      refine lv_iconst (v := II 1) C.1 C.2.1 dX8_feed_43 rfl ?_
      refine x_iadd C dX8_feed_44 ?_
      refine p8 C hw hS 70 (by omega) rfl 6 (by decide) mw_830 rfl (x := (X.2.2.1 : Int) + 1) ⟨by omega, by omega⟩ (svi st_s) (tyX8_ok 6 (by decide)) rfl rfl dX8_feed_45 (fun H locs hw hS => ?_)
      have hw : Wo g (stM (stM M (73000 + X.2.2.1) x) 70006 ((X.2.2.1 : Int) + 1)) H := hw
      refine lv_aload_n C.1 C.2.1 dX8_feed_48 rfl (lv_at hl 0 rfl) ?_
      refine g8 C hw 70 (by omega) rfl 6 (by decide) mw_830 (svi (x := (X.2.2.1 : Int) + 1) st_s) dX8_feed_49 ?_
      exact x_ireturn C hr hlk hw hS ⟨by omega, by omega⟩ rfl (by
    have hle : 0 ≤ x ∧ x ≤ 255 := h6b
    unfold r_feed x_feed
    rw [if_neg (fun z => z hle), if_neg (by omega), if_pos (by omega)]
    refine ⟨rfl, hR.x2 hA ⟨?_, fun t ht => (hR.2.1.2.1 t ht).fr (fun m hm => ?_), st_s, fun i hi => ?_⟩ (fun m hm => ?_), fun m hm => ?_⟩
    · rw [st_n (by omega), st_n (by omega)]; exact hR.2.1.1
    · have ht8 : t < X.1 := ht
      rw [st_n (by omega), st_n (by omega)]
    · have hi9 : i < X.2.2.1 + 1 := hi
      rw [st_n (by omega)]
      show _ = up1 X.2.2.2 X.2.2.1 x i
      unfold up1
      by_cases e : i = X.2.2.1
      · rw [e, st_s, if_pos rfl]
      · rw [st_n (by omega), if_neg e]; exact hR.2.1.2.2.2 i (by omega)
    · rw [st_n (fun z => hm (by omega)), st_n (fun z => hm (by omega))]
    · rw [st_n (by omega), st_n (by omega)]) dX8_feed_52
    · refine lv_bipush (v := II (-4)) C.1 C.2.1 dX8_feed_25 (by decide) ?_
      exact x_ireturn C hr hlk hw hS ⟨by decide, by decide⟩ rfl (by have hle : 0 ≤ x ∧ x ≤ 255 := h6b; unfold r_feed x_feed; rw [if_neg (fun z => z hle), if_pos (by omega), if_neg (by omega)]; exact ⟨rfl, hR, fun _ _ => rfl⟩) dX8_feed_27
  · have hw : Wo g M H := em6 ▸ hw
    rw [er6]
    refine x_if_ne (tgt := 15) C ⟨by decide, by decide⟩ dX8_feed_9 (by decide) (fun h => absurd h (by decide)) (fun _ => ?_)
    refine lv_bipush (v := II (-2)) C.1 C.2.1 dX8_feed_12 (by decide) ?_
    exact x_ireturn C hr hlk hw hS ⟨by decide, by decide⟩ rfl (by unfold r_feed x_feed; rw [if_pos h6b, if_neg (fun z => h6b ⟨z.1, z.2.1⟩)]; exact ⟨rfl, hR, fun _ _ => rfl⟩) dX8_feed_14

set_option maxHeartbeats 4000000 in
set_option maxRecDepth 100000 in
theorem c_X8_force (l : Launch) (g : Gm) (M : Nat → Int) (hF : LvF g) (n : Nat) (v : Nat → Nat → Int) (nt : Int) (pd : Int) (t : Nat) (X : Txt) (I : Option Bor) (Sh : Sht) (hR : RepM M (n, v, nt, pd, t) X I Sh) (hA : InvA (n, v, nt, pd, t) X I Sh) (x : Int) (gz_x : rg x) : CI l ({ cls := "RatedBySighsModel", name := "force", desc := "(I)I" } : Jvm.MethodName) cX8_force 3 .int (rmm 1 25) g M [.ref (gA g 70), .int (II x)] (fun r M' => r = r_force X t x ∧ (RepM M' (n, v, nt, pd, t_force X t x) X I Sh) ∧ (∀ m, m < 70000 → M' m = M m)) := by
  refine c_start (by decide) (Nat.le_of_ble_eq_true rfl) (fun p e s m below meth c ls C hr hlk hml hw hS hl => ?_)
  have hl : lv_has ls 3 [(0, .ref (gA g 70)), (1, .int (II x))] := hl
  have g_M := hw.rg
  have hN : gN g = 84 := hF.1
  have hM : MB M n v nt t (X.2.1 t) (-1) := hR.mb hA
  have hn2 : n ≤ 8 := hM.1.2
  have hnt := hM.2.2.2.1.2
  have hpd : 0 ≤ pd ∧ pd ≤ 999999999 := hA.1.2.2.2.2.1
  have htc := hA.2.1
  have hts := hA.2.2.1.1
  have ht9 : t < X.1 := hA.1.2.2.2.2.2
  refine lv_iload_n C.1 C.2.1 dX8_force_0 rfl (lv_at hl 1 rfl) ?_
  refine x_i2l C gz_x dX8_force_1 ?_
  refine lv_lconst (v := LL 0) C.1 C.2.1 dX8_force_2 (by decide) ?_
  refine lv_aload_n C.1 C.2.1 dX8_force_3 rfl (lv_at hl 0 rfl) ?_
  refine g8 C hw 70 (by omega) rfl 3 (by decide) mw_827 (svi (x := (X.1 : Int)) hR.2.1.1) dX8_force_4 ?_
  refine lv_iconst (v := II 1) C.1 C.2.1 dX8_force_7 rfl ?_
  refine x_isub C dX8_force_8 ?_
  refine x_i2l C ⟨by have := g_M 70003; have := hR.2.1.1; omega, by have := g_M 70003; have := hR.2.1.1; omega⟩ dX8_force_9 ?_
  refine x_ci (x_runS (n := 3) C hw hS hml hl.1 (c_X8_in l g M x gz_x 0 ⟨by decide, by decide⟩ ((X.1 : Int) - 1) ⟨by omega, by omega⟩) mw_957 mw_958 mw_130 mw_959 rfl rfl (by decide +kernel) ⟨Nat.le_of_ble_eq_true rfl, Nat.le_of_ble_eq_true rfl⟩ rfl rfl (Nat.le_of_ble_eq_true rfl) dX8_force_10 ⟨Nat.zero_le _, Nat.zero_le _⟩) hS (fun r10 M10 H locs hr10 hp hw hS => ?_)
  rcases hp with ⟨em10, (⟨er10, h10b⟩ | ⟨er10, h10b⟩)⟩
  · have hw : Wo g M H := em10 ▸ hw
    rw [er10]
    refine x_if_ne (tgt := 19) C ⟨by decide, by decide⟩ dX8_force_13 (by decide) (fun _ => ?_) (fun h => absurd h (by decide))
    refine lv_aload_n C.1 C.2.1 dX8_force_19 rfl (lv_at hl 0 rfl) ?_
    refine g8 C hw 70 (by omega) rfl 4 (by decide) mw_828 (svi (x := (t : Int)) hM.2.2.2.2.1.1) dX8_force_20 ?_
    refine lv_istore_n (lv' := [(2, .int (II (t : Int))), (0, .ref (gA g 70)), (1, .int (II x))]) C.1 C.2.1 dX8_force_23 rfl hl (by decide) rfl (fun ls hl => ?_)
    refine lv_aload_n C.1 C.2.1 dX8_force_24 rfl (lv_at hl 1 rfl) ?_
    refine lv_iload_n C.1 C.2.1 dX8_force_25 rfl (lv_at hl 2 rfl) ?_
    refine p8 C hw hS 70 (by omega) rfl 4 (by decide) mw_828 rfl (x := x) gz_x (svi st_s) (tyX8_ok 4 (by decide)) rfl rfl dX8_force_26 (fun H locs hw hS => ?_)
    have hw : Wo g (stM M 70004 x) H := hw
    refine lv_iload_n C.1 C.2.1 dX8_force_29 rfl (lv_at hl 0 rfl) ?_
    exact x_ireturn C hr hlk hw hS ⟨by have := g_M 70004; have := hM.2.2.2.2.1.1; omega, by have := g_M 70004; have := hM.2.2.2.2.1.1; omega⟩ rfl (by
    have hle : 0 ≤ x ∧ x ≤ (X.1 : Int) - 1 := h10b
    unfold r_force t_force
    rw [if_pos (by omega), if_pos (by omega)]
    refine ⟨rfl, hR.b2 hA ⟨⟨(st_n (by decide)).trans hR.1.1.1, (st_n (by decide)).trans hR.1.1.2.1, (st_n (by decide)).trans hR.1.1.2.2.1, st_s.trans (by show x = ((x.toNat : Nat) : Int); omega)⟩, fun q hq => ?_⟩ (fun m hm => st_n (fun z => hm (by omega))), fun m hm => st_n (by omega)⟩
    have hq9 : q < n := hq
    exact ⟨(st_n (by omega)).trans (hR.1.2 q hq).1, (hR.1.2 q hq).2.fr (fun m hm => st_n (by omega))⟩) dX8_force_30
  · have hw : Wo g M H := em10 ▸ hw
    rw [er10]
    refine x_if_ne (tgt := 19) C ⟨by decide, by decide⟩ dX8_force_13 (by decide) (fun h => absurd h (by decide)) (fun _ => ?_)
    refine lv_bipush (v := II (-2)) C.1 C.2.1 dX8_force_16 (by decide) ?_
    exact x_ireturn C hr hlk hw hS ⟨by decide, by decide⟩ rfl (by unfold r_force t_force; rw [if_neg (by omega), if_neg (by omega)]; exact ⟨rfl, hR, fun _ _ => rfl⟩) dX8_force_18

set_option maxHeartbeats 4000000 in
set_option maxRecDepth 100000 in
theorem c_X8_tenant (l : Launch) (g : Gm) (M : Nat → Int) (hF : LvF g) (n : Nat) (v : Nat → Nat → Int) (nt : Int) (pd : Int) (t : Nat) (X : Txt) (I : Option Bor) (Sh : Sht) (hR : RepM M (n, v, nt, pd, t) X I Sh) (hA : InvA (n, v, nt, pd, t) X I Sh) (k : Int) (gz_k : rg k) (z : Int) (gz_z : rg z) (h : Int) (gz_h : rg h) : CI l ({ cls := "RatedBySighsModel", name := "tenant", desc := "(III)I" } : Jvm.MethodName) cX8_tenant 4 .int (rmm 2 45) g M [.ref (gA g 70), .int (II k), .int (II z), .int (II h)] (fun r M' => r = r_ten n k z h ∧ (RepM M' (n_ten n k z h, v_ten v n k z h, nt, pd, t) X I Sh) ∧ (∀ m, m < 70000 → M' m = M m)) := by
  refine c_start (by decide) (Nat.le_of_ble_eq_true rfl) (fun p e s m below meth c ls C hr hlk hml hw hS hl => ?_)
  have hl : lv_has ls 4 [(0, .ref (gA g 70)), (1, .int (II k)), (2, .int (II z)), (3, .int (II h))] := hl
  have g_M := hw.rg
  have hN : gN g = 84 := hF.1
  have hM : MB M n v nt t (X.2.1 t) (-1) := hR.mb hA
  have hn2 : n ≤ 8 := hM.1.2
  have hnt := hM.2.2.2.1.2
  have hpd : 0 ≤ pd ∧ pd ≤ 999999999 := hA.1.2.2.2.2.1
  have htc := hA.2.1
  have hts := hA.2.2.1.1
  have ht9 : t < X.1 := hA.1.2.2.2.2.2
  refine lv_iload_n C.1 C.2.1 dX8_tenant_0 rfl (lv_at hl 1 rfl) ?_
  refine x_i2l C gz_k dX8_tenant_1 ?_
  refine lv_lconst (v := LL 0) C.1 C.2.1 dX8_tenant_2 (by decide) ?_
  refine lv_ldc2 C.1 C.2.1 C.2.2.1 (C.2.2.2.1 _ mw_1208) dX8_tenant_3 ?_
  rw [show (5 : Int64) = LL 5 from by decide]
  refine x_ci (x_runS (n := 3) C hw hS hml hl.1 (c_X8_in l g M k gz_k 0 ⟨by decide, by decide⟩ 5 ⟨by decide, by decide⟩) mw_957 mw_958 mw_130 mw_959 rfl rfl (by decide +kernel) ⟨Nat.le_of_ble_eq_true rfl, Nat.le_of_ble_eq_true rfl⟩ rfl rfl (Nat.le_of_ble_eq_true rfl) dX8_tenant_6 ⟨Nat.zero_le _, Nat.zero_le _⟩) hS (fun r6 M6 H locs hr6 hp hw hS => ?_)
  rcases hp with ⟨em6, (⟨er6, h6b⟩ | ⟨er6, h6b⟩)⟩
  · have hw : Wo g M H := em6 ▸ hw
    rw [er6]
    refine x_if_eq (tgt := 31) C ⟨by decide, by decide⟩ dX8_tenant_9 (by decide) (fun h => absurd h (by decide)) (fun _ => ?_)
    refine lv_iload_n C.1 C.2.1 dX8_tenant_12 rfl (lv_at hl 2 rfl) ?_
    refine x_i2l C gz_z dX8_tenant_13 ?_
    refine lv_lconst (v := LL 0) C.1 C.2.1 dX8_tenant_14 (by decide) ?_
    refine lv_ldc2 C.1 C.2.1 C.2.2.1 (C.2.2.2.1 _ mw_1209) dX8_tenant_15 ?_
    rw [show (9 : Int64) = LL 9 from by decide]
    refine x_ci (x_runS (n := 3) C hw hS hml hl.1 (c_X8_in l g M z gz_z 0 ⟨by decide, by decide⟩ 9 ⟨by decide, by decide⟩) mw_957 mw_958 mw_130 mw_959 rfl rfl (by decide +kernel) ⟨Nat.le_of_ble_eq_true rfl, Nat.le_of_ble_eq_true rfl⟩ rfl rfl (Nat.le_of_ble_eq_true rfl) dX8_tenant_18 ⟨Nat.zero_le _, Nat.zero_le _⟩) hS (fun r18 M18 H locs hr18 hp hw hS => ?_)
    rcases hp with ⟨em18, (⟨er18, h18b⟩ | ⟨er18, h18b⟩)⟩
    · have hw : Wo g M H := em18 ▸ hw
      rw [er18]
      refine x_if_eq (tgt := 31) C ⟨by decide, by decide⟩ dX8_tenant_21 (by decide) (fun h => absurd h (by decide)) (fun _ => ?_)
      refine lv_iload_n C.1 C.2.1 dX8_tenant_24 rfl (lv_at hl 3 rfl) ?_
      refine x_ci (x_runS (n := 1) C hw hS hml hl.1 (c_X8_isHouse l g M h gz_h) mw_1210 mw_1211 mw_130 mw_1212 rfl rfl (by decide +kernel) ⟨Nat.le_of_ble_eq_true rfl, Nat.le_of_ble_eq_true rfl⟩ rfl rfl (Nat.le_of_ble_eq_true rfl) dX8_tenant_25 ⟨Nat.zero_le _, Nat.zero_le _⟩) hS (fun r25 M25 H locs hr25 hp hw hS => ?_)
      rcases hp with ⟨em25, (⟨er25, h25b⟩ | ⟨er25, h25b⟩)⟩
      · have hw : Wo g M H := em25 ▸ hw
        rw [er25]
        refine x_if_ne (tgt := 34) C ⟨by decide, by decide⟩ dX8_tenant_28 (by decide) (fun _ => ?_) (fun h => absurd h (by decide))
        have hk5 : 0 ≤ k ∧ k ≤ 5 := h6b
        have hz5 : 0 ≤ z ∧ z ≤ 9 := h18b
        have hh5 : 0 ≤ h ∧ h ≤ 4 := h25b
        have eT : okT k z h = true := decide_eq_true ⟨hk5, hz5, hh5⟩
        refine lv_aload_n C.1 C.2.1 dX8_tenant_34 rfl (lv_at hl 0 rfl) ?_
        refine g8 C hw 70 (by omega) rfl 11 (by decide) mw_835 (svi (x := (n : Int)) hM.1.1) dX8_tenant_35 ?_
        refine lv_bipush (v := II 8) C.1 C.2.1 dX8_tenant_38 (by decide) ?_
        refine x_icmp_ne (tgt := 46) C ⟨by have := g_M 70011; have := hM.1.1; omega, by have := g_M 70011; have := hM.1.1; omega⟩ ⟨by decide, by decide⟩ dX8_tenant_40 (by decide) (fun c40 => ?_) (fun c40 => ?_)
        · refine lv_aload_n C.1 C.2.1 dX8_tenant_46 rfl (lv_at hl 0 rfl) ?_
          refine g8 C hw 70 (by omega) rfl 9 (by decide) mw_833 (svr (hF.2 _)) dX8_tenant_47 ?_
          refine lv_aload_n C.1 C.2.1 dX8_tenant_50 rfl (lv_at hl 0 rfl) ?_
          refine g8 C hw 70 (by omega) rfl 11 (by decide) mw_835 (svi (x := (n : Int)) hM.1.1) dX8_tenant_51 ?_
          refine lv_iload_n C.1 C.2.1 dX8_tenant_54 rfl (lv_at hl 1 rfl) ?_
          refine x_iastore (L := 8) C hw hS 74 (by omega) rfl rfl (by omega) (by omega) (by decide) (x := k) gz_k dX8_tenant_55 (fun H locs hw hS => ?_)
          have hw : Wo g (stM M (74000 + n) k) H := hw
          refine lv_aload_n C.1 C.2.1 dX8_tenant_56 rfl (lv_at hl 0 rfl) ?_
          refine g8 C hw 70 (by omega) rfl 10 (by decide) mw_834 (svr (hF.2 _)) dX8_tenant_57 ?_
          refine lv_iconst (v := II 4) C.1 C.2.1 dX8_tenant_60 rfl ?_
          refine lv_aload_n C.1 C.2.1 dX8_tenant_61 rfl (lv_at hl 0 rfl) ?_
          refine g8 C hw 70 (by omega) rfl 11 (by decide) mw_835 (svi (x := (n : Int)) ((st_n (by omega)).trans hM.1.1)) dX8_tenant_62 ?_
          refine x_imul C dX8_tenant_65 ?_
          refine lv_iload_n C.1 C.2.1 dX8_tenant_66 rfl (lv_at hl 2 rfl) ?_
          refine x_iastore (L := 32) C hw hS 75 (by omega) rfl rfl (by omega) (by omega) (by decide) (x := z) gz_z dX8_tenant_67 (fun H locs hw hS => ?_)
          have hw : Wo g (stM (stM M (74000 + n) k) (75000 + (4 * n)) z) H := by rw [show 1000 * 75 + (4 * (n : Int)).toNat = 75000 + (4 * n) from by omega] at hw; exact hw
          refine lv_aload_n C.1 C.2.1 dX8_tenant_68 rfl (lv_at hl 0 rfl) ?_
          refine g8 C hw 70 (by omega) rfl 10 (by decide) mw_834 (svr (hF.2 _)) dX8_tenant_69 ?_
          refine lv_iconst (v := II 4) C.1 C.2.1 dX8_tenant_72 rfl ?_
          refine lv_aload_n C.1 C.2.1 dX8_tenant_73 rfl (lv_at hl 0 rfl) ?_
          refine g8 C hw 70 (by omega) rfl 11 (by decide) mw_835 (svi (x := (n : Int)) ((st_n (by omega)).trans ((st_n (by omega)).trans hM.1.1))) dX8_tenant_74 ?_
          refine x_imul C dX8_tenant_77 ?_
          refine lv_iconst (v := II 1) C.1 C.2.1 dX8_tenant_78 rfl ?_
          refine x_iadd C dX8_tenant_79 ?_
          refine lv_iload_n C.1 C.2.1 dX8_tenant_80 rfl (lv_at hl 3 rfl) ?_
          refine x_iastore (L := 32) C hw hS 75 (by omega) rfl rfl (by omega) (by omega) (by decide) (x := h) gz_h dX8_tenant_81 (fun H locs hw hS => ?_)
          have hw : Wo g (stM (stM (stM M (74000 + n) k) (75000 + (4 * n)) z) (75000 + ((4 * n) + 1)) h) H := by rw [show 1000 * 75 + ((4 * (n : Int)) + 1).toNat = 75000 + ((4 * n) + 1) from by omega] at hw; exact hw
          refine lv_aload_n C.1 C.2.1 dX8_tenant_82 rfl (lv_at hl 0 rfl) ?_
          refine g8 C hw 70 (by omega) rfl 10 (by decide) mw_834 (svr (hF.2 _)) dX8_tenant_83 ?_
          refine lv_iconst (v := II 4) C.1 C.2.1 dX8_tenant_86 rfl ?_
          refine lv_aload_n C.1 C.2.1 dX8_tenant_87 rfl (lv_at hl 0 rfl) ?_
          refine g8 C hw 70 (by omega) rfl 11 (by decide) mw_835 (svi (x := (n : Int)) ((st_n (by omega)).trans ((st_n (by omega)).trans ((st_n (by omega)).trans hM.1.1)))) dX8_tenant_88 ?_
          refine x_imul C dX8_tenant_91 ?_
          refine lv_iconst (v := II 2) C.1 C.2.1 dX8_tenant_92 rfl ?_
          refine x_iadd C dX8_tenant_93 ?_
          refine lv_iconst (v := II 0) C.1 C.2.1 dX8_tenant_94 rfl ?_
          refine x_iastore (L := 32) C hw hS 75 (by omega) rfl rfl (by omega) (by omega) (by decide) (x := 0) ⟨by decide, by decide⟩ dX8_tenant_95 (fun H locs hw hS => ?_)
          have hw : Wo g (stM (stM (stM (stM M (74000 + n) k) (75000 + (4 * n)) z) (75000 + ((4 * n) + 1)) h) (75000 + ((4 * n) + 2)) 0) H := by rw [show 1000 * 75 + ((4 * (n : Int)) + 2).toNat = 75000 + ((4 * n) + 2) from by omega] at hw; exact hw
          refine lv_aload_n C.1 C.2.1 dX8_tenant_96 rfl (lv_at hl 0 rfl) ?_
          refine g8 C hw 70 (by omega) rfl 10 (by decide) mw_834 (svr (hF.2 _)) dX8_tenant_97 ?_
          refine lv_iconst (v := II 4) C.1 C.2.1 dX8_tenant_100 rfl ?_
          refine lv_aload_n C.1 C.2.1 dX8_tenant_101 rfl (lv_at hl 0 rfl) ?_
          refine g8 C hw 70 (by omega) rfl 11 (by decide) mw_835 (svi (x := (n : Int)) ((st_n (by omega)).trans ((st_n (by omega)).trans ((st_n (by omega)).trans ((st_n (by omega)).trans hM.1.1))))) dX8_tenant_102 ?_
          refine x_imul C dX8_tenant_105 ?_
          refine lv_iconst (v := II 3) C.1 C.2.1 dX8_tenant_106 rfl ?_
          refine x_iadd C dX8_tenant_107 ?_
          refine lv_iconst (v := II 0) C.1 C.2.1 dX8_tenant_108 rfl ?_
          refine x_iastore (L := 32) C hw hS 75 (by omega) rfl rfl (by omega) (by omega) (by decide) (x := 0) ⟨by decide, by decide⟩ dX8_tenant_109 (fun H locs hw hS => ?_)
          have hw : Wo g (stM (stM (stM (stM (stM M (74000 + n) k) (75000 + (4 * n)) z) (75000 + ((4 * n) + 1)) h) (75000 + ((4 * n) + 2)) 0) (75000 + ((4 * n) + 3)) 0) H := by rw [show 1000 * 75 + ((4 * (n : Int)) + 3).toNat = 75000 + ((4 * n) + 3) from by omega] at hw; exact hw
          refine lv_aload_n C.1 C.2.1 dX8_tenant_110 rfl (lv_at hl 0 rfl) ?_
          refine lv_dup C.1 C.2.1 dX8_tenant_111 rfl ?_
          refine g8 C hw 70 (by omega) rfl 11 (by decide) mw_835 (svi (x := (n : Int)) ((st_n (by omega)).trans ((st_n (by omega)).trans ((st_n (by omega)).trans ((st_n (by omega)).trans ((st_n (by omega)).trans hM.1.1)))))) dX8_tenant_112 ?_
          refine lv_iconst (v := II 1) C.1 C.2.1 dX8_tenant_115 rfl ?_
          refine x_iadd C dX8_tenant_116 ?_
          refine p8 C hw hS 70 (by omega) rfl 11 (by decide) mw_835 rfl (x := (n : Int) + 1) ⟨by omega, by omega⟩ (svi st_s) (tyX8_ok 11 (by decide)) rfl rfl dX8_tenant_117 (fun H locs hw hS => ?_)
          have hw : Wo g (stM (stM (stM (stM (stM (stM M (74000 + n) k) (75000 + (4 * n)) z) (75000 + ((4 * n) + 1)) h) (75000 + ((4 * n) + 2)) 0) (75000 + ((4 * n) + 3)) 0) 70011 ((n : Int) + 1)) H := hw
          refine lv_aload_n C.1 C.2.1 dX8_tenant_120 rfl (lv_at hl 0 rfl) ?_
          refine g8 C hw 70 (by omega) rfl 11 (by decide) mw_835 (svi (x := (n : Int) + 1) st_s) dX8_tenant_121 ?_
          refine lv_iconst (v := II 1) C.1 C.2.1 dX8_tenant_124 rfl ?_
          refine x_isub C dX8_tenant_125 ?_
          exact x_ireturn C hr hlk hw hS ⟨by omega, by omega⟩ rfl (by
    have e2 : ¬ n = 8 := by omega
    have e3 : decide (n ≠ 8) = true := decide_eq_true e2
    unfold r_ten n_ten v_ten
    rw [eT, e3, if_pos rfl, if_neg e2]
    refine ⟨by show (n : Int) + 1 - 1 = n; omega, hR.b2 hA ⟨⟨st_s, ?_, ?_, ?_⟩, bor_of (fun q hq f ps hp => ?_)⟩ (fun m hm => ?_), fun m hm => ?_⟩
    · rw [st_n (by omega), st_n (by omega), st_n (by omega), st_n (by omega), st_n (by omega), st_n (by omega)]; exact hR.1.1.2.1
    · rw [st_n (by omega), st_n (by omega), st_n (by omega), st_n (by omega), st_n (by omega), st_n (by omega)]; exact hR.1.1.2.2.1
    · rw [st_n (by omega), st_n (by omega), st_n (by omega), st_n (by omega), st_n (by omega), st_n (by omega)]; exact hR.1.1.2.2.2
    · have hq9 : q < n + 1 := hq
      show _ = newP v n k z h q f
      unfold newP
      by_cases e : q = n
      · subst e
        rw [if_pos rfl]
        unfold psP at hp
        rcases (show f = 0 ∨ f = 1 ∨ f = 2 ∨ f = 3 ∨ f = 4 by omega) with rfl | rfl | rfl | rfl | rfl
        · rw [show ps = 74000 + q by omega, st_n (by omega), st_n (by omega), st_n (by omega), st_n (by omega), st_n (by omega), st_s]; rfl
        · rw [show ps = 75000 + 4 * q by omega, st_n (by omega), st_n (by omega), st_n (by omega), st_n (by omega), st_s]; rfl
        · rw [show ps = 75000 + (4 * q + 1) by omega, st_n (by omega), st_n (by omega), st_n (by omega), st_s]; rfl
        · rw [show ps = 75000 + (4 * q + 2) by omega, st_n (by omega), st_n (by omega), st_s]; rfl
        · rw [show ps = 75000 + (4 * q + 3) by omega, st_n (by omega), st_s]; rfl
      · rw [if_neg e]
        refine Eq.trans ?_ (bor_at hR.1 (show q < n by omega) hp)
        unfold psP at hp
        rw [st_n (by omega), st_n (by omega), st_n (by omega), st_n (by omega), st_n (by omega), st_n (by omega)]
    · rw [st_n (fun z => hm (by omega)), st_n (fun z => hm (by omega)), st_n (fun z => hm (by omega)), st_n (fun z => hm (by omega)), st_n (fun z => hm (by omega)), st_n (fun z => hm (by omega))]
    · rw [st_n (by omega), st_n (by omega), st_n (by omega), st_n (by omega), st_n (by omega), st_n (by omega)]) dX8_tenant_126
        · refine lv_bipush (v := II (-4)) C.1 C.2.1 dX8_tenant_43 (by decide) ?_
          exact x_ireturn C hr hlk hw hS ⟨by decide, by decide⟩ rfl (by have e2 : n = 8 := (by omega); have e3 : decide (n ≠ 8) = false := decide_eq_false (by omega); unfold r_ten n_ten v_ten; rw [eT, e3, if_pos rfl, if_pos e2]; exact ⟨rfl, hR, fun _ _ => rfl⟩) dX8_tenant_45
      · have hw : Wo g M H := em25 ▸ hw
        rw [er25]
        refine x_if_ne (tgt := 34) C ⟨by decide, by decide⟩ dX8_tenant_28 (by decide) (fun h => absurd h (by decide)) (fun _ => ?_)
        refine lv_bipush (v := II (-2)) C.1 C.2.1 dX8_tenant_31 (by decide) ?_
        exact x_ireturn C hr hlk hw hS ⟨by decide, by decide⟩ rfl (by have e : okT k z h = false := decide_eq_false (fun y => by first | exact h25b y.2.2 | exact h18b y.2.1 | exact h6b y.1); unfold r_ten n_ten v_ten; rw [e]; exact ⟨rfl, hR, fun _ _ => rfl⟩) dX8_tenant_33
    · have hw : Wo g M H := em18 ▸ hw
      rw [er18]
      refine x_if_eq (tgt := 31) C ⟨by decide, by decide⟩ dX8_tenant_21 (by decide) (fun _ => ?_) (fun h => absurd h (by decide))
      refine lv_bipush (v := II (-2)) C.1 C.2.1 dX8_tenant_31 (by decide) ?_
      exact x_ireturn C hr hlk hw hS ⟨by decide, by decide⟩ rfl (by have e : okT k z h = false := decide_eq_false (fun y => by first | exact h25b y.2.2 | exact h18b y.2.1 | exact h6b y.1); unfold r_ten n_ten v_ten; rw [e]; exact ⟨rfl, hR, fun _ _ => rfl⟩) dX8_tenant_33
  · have hw : Wo g M H := em6 ▸ hw
    rw [er6]
    refine x_if_eq (tgt := 31) C ⟨by decide, by decide⟩ dX8_tenant_9 (by decide) (fun _ => ?_) (fun h => absurd h (by decide))
    refine lv_bipush (v := II (-2)) C.1 C.2.1 dX8_tenant_31 (by decide) ?_
    exact x_ireturn C hr hlk hw hS ⟨by decide, by decide⟩ rfl (by have e : okT k z h = false := decide_eq_false (fun y => by first | exact h25b y.2.2 | exact h18b y.2.1 | exact h6b y.1); unfold r_ten n_ten v_ten; rw [e]; exact ⟨rfl, hR, fun _ _ => rfl⟩) dX8_tenant_33
