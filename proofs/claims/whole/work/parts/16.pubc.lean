/-! THE STATE in thought: the borough (n, v, night, paid, rule), the texts (how many, what they say, tape's size, tape), the image, the sheets (sort, size, item) -/
abbrev Bor : Type := Nat × (Nat → Nat → Int) × Int × Int × Nat
abbrev Txt : Type := Nat × (Nat → Ev) × Nat × (Nat → Int)
abbrev Sht : Type := (Nat → Int) × (Nat → Int) × (Nat → Nat → Int)
def BorC (M : Nat → Int) (p q : Nat) (b : Bor) : Prop := M (1000 * p + 1) = (b.1 : Int) ∧ M (1000 * p + 2) = b.2.2.1 ∧ M (1000 * p + 3) = b.2.2.2.1 ∧ M (1000 * p + 4) = (b.2.2.2.2 : Int) ∧ ∀ i, i < b.1 → ∀ f, f < 5 → M (1000 * (q + i) + f) = b.2.1 i f
def TxtC (M : Nat → Int) (X : Txt) : Prop := M 12004 = (X.1 : Int) ∧ (∀ t, t < X.1 → TxC M t (X.2.1 t)) ∧ M 45001 = (X.2.2.1 : Int) ∧ ∀ i, i < X.2.2.1 → M (46000 + i) = X.2.2.2 i
def ImgC (M : Nat → Int) (I : Option Bor) : Prop := match I with
  | none => M 5 = 0
  | some b => M 5 = 1 ∧ BorC M 49 51 b
def ShtC (M : Nat → Int) (Sh : Sht) : Prop := ∀ i, i < 4 → M (1000 * (62 + 2 * i) + 1) = Sh.1 i ∧ M (1000 * (62 + 2 * i) + 2) = Sh.2.1 i ∧ ∀ j : Nat, (j : Int) < Sh.2.1 i → M (1000 * (63 + 2 * i) + j) = Sh.2.2 i j
def RepC (M : Nat → Int) (b : Bor) (X : Txt) (I : Option Bor) (Sh : Sht) : Prop := BorC M 2 4 b ∧ TxtC M X ∧ ImgC M I ∧ ShtC M Sh
def BorI (b : Bor) (tc : Nat) : Prop := b.1 ≤ 8 ∧ PI b.2.1 b.1 ∧ (∀ q, q < b.1 → 0 ≤ b.2.1 q 2) ∧ (0 ≤ b.2.2.1 ∧ b.2.2.1 ≤ 999) ∧ (0 ≤ b.2.2.2.1 ∧ b.2.2.2.1 ≤ 999999999) ∧ b.2.2.2.2 < tc
def InvA (b : Bor) (X : Txt) (I : Option Bor) (Sh : Sht) : Prop := BorI b X.1 ∧ (1 ≤ X.1 ∧ X.1 ≤ 6) ∧ (X.2.2.1 ≤ 160 ∧ ∀ i, i < X.2.2.1 → 0 ≤ X.2.2.2 i ∧ X.2.2.2 i ≤ 255) ∧ (∀ b2, I = some b2 → BorI b2 X.1 ∧ b2.1 ≤ b.1 ∧ ∀ q, q < b2.1 → b2.2.1 q 0 = b.2.1 q 0) ∧ ∀ i, i < 4 → (Sh.1 i = -1 ∧ Sh.2.1 i = 0) ∨ ((0 ≤ Sh.1 i ∧ Sh.1 i ≤ 2) ∧ (0 ≤ Sh.2.1 i ∧ Sh.2.1 i ≤ 40))
/-- what the class may write without a trace -/
def sc3 (m : Nat) : Prop := scr m ∨ m / 1000 = 59 ∨ m / 1000 = 61
theorem BorC.fr {M M' : Nat → Int} {p q : Nat} {b : Bor} (h : BorC M p q b) (hb : b.1 ≤ 8) (hf : ∀ m, m / 1000 = p ∨ (q ≤ m / 1000 ∧ m / 1000 < q + 8) → M' m = M m) : BorC M' p q b :=
  ⟨(hf _ (by omega)).trans h.1, (hf _ (by omega)).trans h.2.1, (hf _ (by omega)).trans h.2.2.1, (hf _ (by omega)).trans h.2.2.2.1, fun i hi f hf' => (hf _ (by omega)).trans (h.2.2.2.2 i hi f hf')⟩
theorem TxtC.fr {M M' : Nat → Int} {X : Txt} (h : TxtC M X) (hx : X.1 ≤ 6 ∧ X.2.2.1 ≤ 160) (hf : ∀ m, m = 12004 ∨ (14 ≤ m / 1000 ∧ m / 1000 ≤ 26) ∨ m = 45001 ∨ m / 1000 = 46 → M' m = M m) : TxtC M' X :=
  ⟨(hf _ (by omega)).trans h.1, fun t ht => (h.2.1 t ht).fr (fun m hm => hf m (by omega)), (hf _ (by omega)).trans h.2.2.1, fun i hi => (hf _ (by omega)).trans (h.2.2.2 i hi)⟩
theorem ImgC.fr {M M' : Nat → Int} {I : Option Bor} (h : ImgC M I) (hx : ∀ b, I = some b → b.1 ≤ 8) (hf : ∀ m, m = 5 ∨ (49 ≤ m / 1000 ∧ m / 1000 ≤ 58) → M' m = M m) : ImgC M' I := by
  cases I with
  | none => exact (hf 5 (by omega)).trans h
  | some b => exact ⟨(hf 5 (by omega)).trans h.1, h.2.fr (hx b rfl) (fun m hm => hf m (by omega))⟩
theorem ShtC.fr {M M' : Nat → Int} {Sh : Sht} (h : ShtC M Sh) (hx : ∀ i, i < 4 → Sh.2.1 i ≤ 40) (hf : ∀ m, (62 ≤ m / 1000 ∧ m / 1000 ≤ 69) → M' m = M m) : ShtC M' Sh := by
  intro i hi
  have := hx i hi
  exact ⟨(hf _ (by omega)).trans (h i hi).1, (hf _ (by omega)).trans (h i hi).2.1, fun j hj => (hf _ (by omega)).trans ((h i hi).2.2 j hj)⟩
theorem InvA.im {b : Bor} {X : Txt} {I : Option Bor} {Sh : Sht} (h : InvA b X I Sh) : ∀ b2, I = some b2 → b2.1 ≤ 8 := fun b2 e => (h.2.2.2.1 b2 e).1.1
theorem InvA.sz {b : Bor} {X : Txt} {I : Option Bor} {Sh : Sht} (h : InvA b X I Sh) : ∀ i, i < 4 → Sh.2.1 i ≤ 40 := fun i hi => by have := h.2.2.2.2 i hi; omega
theorem RepC.fr {M M' : Nat → Int} {b : Bor} {X : Txt} {I : Option Bor} {Sh : Sht} (h : RepC M b X I Sh) (hA : InvA b X I Sh) (hf : ∀ m, ¬ sc3 m → M' m = M m) : RepC M' b X I Sh :=
  ⟨h.1.fr hA.1.1 (fun m hm => hf m (by unfold sc3 scr; omega)), h.2.1.fr ⟨hA.2.1.2, hA.2.2.1.1⟩ (fun m hm => hf m (by unfold sc3 scr; omega)), h.2.2.1.fr hA.im (fun m hm => hf m (by unfold sc3 scr; omega)), h.2.2.2.fr hA.sz (fun m hm => hf m (by unfold sc3 scr; omega))⟩
theorem RepC.bv {M : Nat → Int} {n : Nat} {v : Nat → Nat → Int} {nt pd : Int} {t : Nat} {X : Txt} {I : Option Bor} {Sh : Sht} (h : RepC M (n, v, nt, pd, t) X I Sh) (hA : InvA (n, v, nt, pd, t) X I Sh) : BV M n v nt t (X.2.1 t) :=
  ⟨⟨h.1.1, hA.1.1⟩, h.1.2.2.2.2, hA.1.2.1, ⟨h.1.2.1, hA.1.2.2.2.1⟩, ⟨h.1.2.2.2.1, Nat.lt_of_lt_of_le hA.1.2.2.2.2.2 hA.2.1.2⟩, h.2.1.2.1 t hA.1.2.2.2.2.2⟩
theorem cnt_c {P Q : Nat → Bool} {n : Nat} (h : ∀ q, q < n → P q = Q q) : cnt P n = cnt Q n := by
  induction n with
  | zero => rfl
  | succ n ih => rw [cnt, cnt, ih (fun q hq => h q (by omega)), h n (by omega)]
/-! what each call answers -/
def r_best (b : Int × Int) (w : Int) : Int := if w = 0 then b.1 else if w = 1 then b.2 else -2
def r_due (v : Nat → Nat → Int) (n : Nat) (nt : Int) (E : Ev) (h : Int) : Int := if h = -1 then allS v n nt E else if 0 ≤ h ∧ h ≤ 4 then dueS v n nt E h else -2
def r_reed (v : Nat → Nat → Int) (n : Nat) (nt : Int) (E : Ev) (ho h : Int) : Int := if (0 ≤ ho ∧ ho ≤ 4) ∧ (0 ≤ h ∧ h < 6) then reedS v n nt E ho h.toNat else -2
def r_cost (v : Nat → Nat → Int) (n : Nat) (nt : Int) (E : Ev) (q : Int) : Int := if 0 ≤ q ∧ q < n then allS v n nt E - allS (upv v q.toNat 2 (-1)) n nt E else -100000
def r_told (v : Nat → Nat → Int) (n : Nat) (nt : Int) (E : Ev) (q w : Int) : Int := if w = 0 then nt else if ¬ (0 ≤ q ∧ q < n) then -100 else if 1 ≤ w ∧ w ≤ 4 then v q.toNat w.toNat else if w = 5 then v q.toNat 0 else if w = 6 then (if exB (v q.toNat 0) (v q.toNat 1) nt then 1 else 0) else if 10 ≤ w ∧ w ≤ 15 then moodA v n E q.toNat (w - 10).toNat else if 20 ≤ w ∧ w ≤ 25 then sighA v n nt E q.toNat (w - 20).toNat else -100
def r_count (b : Bor) (X : Txt) (w : Int) : Int := if w = 0 then b.1 else if w = 1 then cnt (fun q => decide (b.2.1 q 0 = 5)) b.1 else if w = 2 then b.2.2.1 else if w = 3 then b.2.2.2.1 else if w = 4 then X.1 else if w = 5 then X.2.2.1 else if w = 6 then b.2.2.2.2 else -2
def r_taken (v : Nat → Nat → Int) (n : Nat) (q k : Int) : Int := if ¬ (0 ≤ k ∧ k ≤ 5) then -2 else if ¬ (0 ≤ q ∧ q < n) then -11 else if v q.toNat 0 = k ∨ k = 0 ∨ (v q.toNat 0 = 3 ∧ k = 1) ∨ (v q.toNat 0 = 4 ∧ k = 2) then v q.toNat 1 else -13
set_option maxHeartbeats 4000000 in
set_option maxRecDepth 100000 in
theorem c_X7_due (l : Launch) (g : Gm) (M : Nat → Int) (hF : LvF g) (n : Nat) (v : Nat → Nat → Int) (nt : Int) (pd : Int) (t : Nat) (X : Txt) (I : Option Bor) (Sh : Sht) (hR : RepC M (n, v, nt, pd, t) X I Sh) (hA : InvA (n, v, nt, pd, t) X I Sh) (h : Int) (gz_h : rg h) : CI l ({ cls := "RatedBySighs", name := "due", desc := "(I)I" } : Jvm.MethodName) cX7_due 2 .int (rmm 5 121) g M [.ref (gA g 0), .int (II h)] (fun r M' => r = r_due v n nt (X.2.1 t) h ∧ (RepC M' (n, v, nt, pd, t) X I Sh) ∧ (∀ m, 70000 ≤ m → M' m = M m)) := by
  refine c_start (by decide) (Nat.le_of_ble_eq_true rfl) (fun p e s m below meth c ls C hr hlk hml hw hS hl => ?_)
  have hl : lv_has ls 2 [(0, .ref (gA g 0)), (1, .int (II h))] := hl
  have g_M := hw.rg
  have hN : gN g = 84 := hF.1
  have hB : BV M n v nt t (X.2.1 t) := hR.bv hA
  have hn2 : n ≤ 8 := hB.1.2
  have hnt := hB.2.2.2.1.2
  have hpd : 0 ≤ pd ∧ pd ≤ 999999999 := hA.1.2.2.2.2.1
  refine lv_iload_n C.1 C.2.1 dX7_due_0 rfl (lv_at hl 1 rfl) ?_
  refine lv_iconst (v := II (-1)) C.1 C.2.1 dX7_due_1 rfl ?_
  refine x_icmp_ne (tgt := 13) C gz_h ⟨by decide, by decide⟩ dX7_due_2 (by decide) (fun c2 => ?_) (fun c2 => ?_)
  · refine lv_iconst (v := II 2) C.1 C.2.1 dX7_due_13 rfl ?_
    refine lv_iload_n C.1 C.2.1 dX7_due_14 rfl (lv_at hl 1 rfl) ?_
    refine x_ci (x_runS (n := 2) C hw hS hml hl.1 (c_X7_mayBe l g M 2 (by first | assumption | omega | exact ⟨by omega, by omega⟩ | decide) h gz_h) mw_513 mw_514 mw_117 mw_515 rfl rfl (by decide +kernel) ⟨Nat.le_of_ble_eq_true rfl, Nat.le_of_ble_eq_true rfl⟩ rfl rfl (Nat.le_of_ble_eq_true rfl) dX7_due_15 ⟨Nat.zero_le _, Nat.zero_le _⟩) hS (fun r15 M15 H locs hr15 hp hw hS => ?_)
    rcases hp with ⟨em15, (⟨er15, h15b⟩ | ⟨er15, h15b⟩)⟩
    · have hw : Wo g M H := em15 ▸ hw
      rw [er15]
      refine x_if_eq (tgt := 32) C ⟨by decide, by decide⟩ dX7_due_18 (by decide) (fun h => absurd h (by decide)) (fun _ => ?_)
      have hle : 0 ≤ h ∧ h ≤ 4 := h15b
      refine lv_aload_n C.1 C.2.1 dX7_due_21 rfl (lv_at hl 0 rfl) ?_
      refine g7 C hw 0 (by omega) rfl 0 (by decide) mw_480 (svr (hF.2 _)) dX7_due_22 ?_
      refine lv_iload_n C.1 C.2.1 dX7_due_25 rfl (lv_at hl 1 rfl) ?_
      refine x_ci (x_runVN (n := 1) C hw hS hml hl.1 1 2 (by omega) rfl (by decide) rfl (c_X2_play l g M hF n v nt t (X.2.1 t) hB h gz_h) mn_548 mw_550 mw_21 mw_118 mw_551 rfl rfl (by decide +kernel) ⟨Nat.le_of_ble_eq_true rfl, Nat.le_of_ble_eq_true rfl⟩ rfl rfl (Nat.le_of_ble_eq_true rfl) dX7_due_26 ⟨Nat.zero_le _, Nat.zero_le _⟩) hS (fun r26 M26 H locs hr26 hp hw hS => ?_)
      obtain ⟨er26, h26a, h26b, h26c, h26f⟩ := hp
      have g_M26 := hw.rg
      rw [er26] at hr26 ⊢
      refine lv_goto (tgt := 34) C.1 C.2.1 dX7_due_29 (by decide) ?_
      exact x_ireturn C hr hlk hw hS hr26 rfl ⟨(by unfold r_due; (repeat' split) <;> first | rfl | omega), (hR.fr hA (fun m hm => h26f m (fun z => hm (Or.inl z)))), (fun m hm => h26f m (by unfold scr; omega))⟩ dX7_due_34
    · have hw : Wo g M H := em15 ▸ hw
      rw [er15]
      refine x_if_eq (tgt := 32) C ⟨by decide, by decide⟩ dX7_due_18 (by decide) (fun _ => ?_) (fun h => absurd h (by decide))
      have hle : ¬ (0 ≤ h ∧ h ≤ 4) := h15b
      refine lv_bipush (v := II (-2)) C.1 C.2.1 dX7_due_32 (by decide) ?_
      exact x_ireturn C hr hlk hw hS ⟨by decide, by decide⟩ rfl ⟨(by unfold r_due; (repeat' split) <;> first | rfl | omega), hR, (fun _ _ => rfl)⟩ dX7_due_34
  · refine lv_aload_n C.1 C.2.1 dX7_due_5 rfl (lv_at hl 0 rfl) ?_
    refine g7 C hw 0 (by omega) rfl 0 (by decide) mw_480 (svr (hF.2 _)) dX7_due_6 ?_
    refine x_ci (x_runVN (n := 0) C hw hS hml hl.1 1 2 (by omega) rfl (by decide) rfl (c_X2_playAll l g M hF n v nt t (X.2.1 t) hB) mn_617 mw_619 mw_30 mw_118 mw_620 rfl rfl (by decide +kernel) ⟨Nat.le_of_ble_eq_true rfl, Nat.le_of_ble_eq_true rfl⟩ rfl rfl (Nat.le_of_ble_eq_true rfl) dX7_due_9 ⟨Nat.zero_le _, Nat.zero_le _⟩) hS (fun r9 M9 H locs hr9 hp hw hS => ?_)
    obtain ⟨er9, h9f⟩ := hp
    have g_M9 := hw.rg
    rw [er9] at hr9 ⊢
    exact x_ireturn C hr hlk hw hS hr9 rfl ⟨(by unfold r_due; (repeat' split) <;> first | rfl | omega), (hR.fr hA (fun m hm => h9f m (fun z => hm (Or.inl z)))), (fun m hm => h9f m (by unfold scr; omega))⟩ dX7_due_12

set_option maxHeartbeats 4000000 in
set_option maxRecDepth 100000 in
theorem c_X7_reed (l : Launch) (g : Gm) (M : Nat → Int) (hF : LvF g) (n : Nat) (v : Nat → Nat → Int) (nt : Int) (pd : Int) (t : Nat) (X : Txt) (I : Option Bor) (Sh : Sht) (hR : RepC M (n, v, nt, pd, t) X I Sh) (hA : InvA (n, v, nt, pd, t) X I Sh) (ho : Int) (gz_ho : rg ho) (h : Int) (gz_h : rg h) : CI l ({ cls := "RatedBySighs", name := "reed", desc := "(II)I" } : Jvm.MethodName) cX7_reed 3 .int (rmm 4 99) g M [.ref (gA g 0), .int (II ho), .int (II h)] (fun r M' => r = r_reed v n nt (X.2.1 t) ho h ∧ (RepC M' (n, v, nt, pd, t) X I Sh) ∧ (∀ m, 70000 ≤ m → M' m = M m)) := by
  refine c_start (by decide) (Nat.le_of_ble_eq_true rfl) (fun p e s m below meth c ls C hr hlk hml hw hS hl => ?_)
  have hl : lv_has ls 3 [(0, .ref (gA g 0)), (1, .int (II ho)), (2, .int (II h))] := hl
  have g_M := hw.rg
  have hN : gN g = 84 := hF.1
  have hB : BV M n v nt t (X.2.1 t) := hR.bv hA
  have hn2 : n ≤ 8 := hB.1.2
  have hnt := hB.2.2.2.1.2
  have hpd : 0 ≤ pd ∧ pd ≤ 999999999 := hA.1.2.2.2.2.1
  refine lv_iconst (v := II 2) C.1 C.2.1 dX7_reed_0 rfl ?_
  refine lv_iload_n C.1 C.2.1 dX7_reed_1 rfl (lv_at hl 1 rfl) ?_
  refine x_ci (x_runS (n := 2) C hw hS hml hl.1 (c_X7_mayBe l g M 2 (by first | assumption | omega | exact ⟨by omega, by omega⟩ | decide) ho gz_ho) mw_513 mw_514 mw_117 mw_515 rfl rfl (by decide +kernel) ⟨Nat.le_of_ble_eq_true rfl, Nat.le_of_ble_eq_true rfl⟩ rfl rfl (Nat.le_of_ble_eq_true rfl) dX7_reed_2 ⟨Nat.zero_le _, Nat.zero_le _⟩) hS (fun r2 M2 H locs hr2 hp hw hS => ?_)
  rcases hp with ⟨em2, (⟨er2, h2b⟩ | ⟨er2, h2b⟩)⟩
  · have hw : Wo g M H := em2 ▸ hw
    rw [er2]
    refine x_if_eq (tgt := 18) C ⟨by decide, by decide⟩ dX7_reed_5 (by decide) (fun h => absurd h (by decide)) (fun _ => ?_)
    have hle : 0 ≤ ho ∧ ho ≤ 4 := h2b
    refine lv_iload_n C.1 C.2.1 dX7_reed_8 rfl (lv_at hl 2 rfl) ?_
    refine x_if_lt (tgt := 18) C gz_h dX7_reed_9 (by decide) (fun c9 => ?_) (fun c9 => ?_)
    · try (have hle : ¬ (0 ≤ ho ∧ ho ≤ 4) := h2b)
      refine lv_bipush (v := II (-2)) C.1 C.2.1 dX7_reed_18 (by decide) ?_
      exact x_ireturn C hr hlk hw hS ⟨by decide, by decide⟩ rfl ⟨(by unfold r_reed; (repeat' split) <;> first | rfl | omega), hR, (fun _ _ => rfl)⟩ dX7_reed_20
    · refine lv_iload_n C.1 C.2.1 dX7_reed_12 rfl (lv_at hl 2 rfl) ?_
      refine lv_bipush (v := II 6) C.1 C.2.1 dX7_reed_13 (by decide) ?_
      refine x_icmp_lt (tgt := 21) C gz_h ⟨by decide, by decide⟩ dX7_reed_15 (by decide) (fun c15 => ?_) (fun c15 => ?_)
      · obtain ⟨i, rfl⟩ : ∃ i : Nat, h = (i : Int) := ⟨h.toNat, by omega⟩
        refine lv_aload_n C.1 C.2.1 dX7_reed_21 rfl (lv_at hl 0 rfl) ?_
        refine g7 C hw 0 (by omega) rfl 0 (by decide) mw_480 (svr (hF.2 _)) dX7_reed_22 ?_
        refine lv_iload_n C.1 C.2.1 dX7_reed_25 rfl (lv_at hl 1 rfl) ?_
        refine x_ci (x_runVN (n := 1) C hw hS hml hl.1 1 2 (by omega) rfl (by decide) rfl (c_X2_play l g M hF n v nt t (X.2.1 t) hB ho gz_ho) mn_548 mw_550 mw_21 mw_118 mw_551 rfl rfl (by decide +kernel) ⟨Nat.le_of_ble_eq_true rfl, Nat.le_of_ble_eq_true rfl⟩ rfl rfl (Nat.le_of_ble_eq_true rfl) dX7_reed_26 ⟨Nat.zero_le _, Nat.zero_le _⟩) hS (fun r26 M26 H locs hr26 hp hw hS => ?_)
        obtain ⟨er26, h26a, h26b, h26c, h26f⟩ := hp
        have g_M26 := hw.rg
        rw [er26] at hr26 ⊢
        refine lv_pop C.1 C.2.1 dX7_reed_29 rfl ?_
        refine lv_aload_n C.1 C.2.1 dX7_reed_30 rfl (lv_at hl 0 rfl) ?_
        refine g7 C hw 0 (by omega) rfl 0 (by decide) mw_480 (svr (hF.2 _)) dX7_reed_31 ?_
        refine gn2 C hw 1 (by omega) rfl 4 (by decide) mn_247 (svr (hF.2 _)) dX7_reed_34 ?_
        refine lv_iload_n C.1 C.2.1 dX7_reed_37 rfl (lv_at hl 2 rfl) ?_
        refine x_iaload (L := 6) C hw 44 (by omega) rfl rfl (by omega) (by omega) (by decide) (x := M26 (44000 + i)) rfl dX7_reed_38 ?_
        exact x_ireturn C hr hlk hw hS (g_M26 _) rfl ⟨(by unfold r_reed; rw [if_pos (by omega)]; exact h26c i (by omega)), (hR.fr hA (fun m hm => h26f m (fun z => hm (Or.inl z)))), (fun m hm => h26f m (by unfold scr; omega))⟩ dX7_reed_39
      · try (have hle : ¬ (0 ≤ ho ∧ ho ≤ 4) := h2b)
        refine lv_bipush (v := II (-2)) C.1 C.2.1 dX7_reed_18 (by decide) ?_
        exact x_ireturn C hr hlk hw hS ⟨by decide, by decide⟩ rfl ⟨(by unfold r_reed; (repeat' split) <;> first | rfl | omega), hR, (fun _ _ => rfl)⟩ dX7_reed_20
  · have hw : Wo g M H := em2 ▸ hw
    rw [er2]
    refine x_if_eq (tgt := 18) C ⟨by decide, by decide⟩ dX7_reed_5 (by decide) (fun _ => ?_) (fun h => absurd h (by decide))
    try (have hle : ¬ (0 ≤ ho ∧ ho ≤ 4) := h2b)
    refine lv_bipush (v := II (-2)) C.1 C.2.1 dX7_reed_18 (by decide) ?_
    exact x_ireturn C hr hlk hw hS ⟨by decide, by decide⟩ rfl ⟨(by unfold r_reed; (repeat' split) <;> first | rfl | omega), hR, (fun _ _ => rfl)⟩ dX7_reed_20

set_option maxHeartbeats 4000000 in
set_option maxRecDepth 100000 in
theorem c_X7_told (l : Launch) (g : Gm) (M : Nat → Int) (hF : LvF g) (n : Nat) (v : Nat → Nat → Int) (nt : Int) (pd : Int) (t : Nat) (X : Txt) (I : Option Bor) (Sh : Sht) (hR : RepC M (n, v, nt, pd, t) X I Sh) (hA : InvA (n, v, nt, pd, t) X I Sh) (q : Int) (gz_q : rg q) (w : Int) (gz_w : rg w) : CI l ({ cls := "RatedBySighs", name := "told", desc := "(II)I" } : Jvm.MethodName) cX7_told 4 .int (rmm 4 99) g M [.ref (gA g 0), .int (II q), .int (II w)] (fun r M' => r = r_told v n nt (X.2.1 t) q w ∧ (RepC M' (n, v, nt, pd, t) X I Sh) ∧ (∀ m, 70000 ≤ m → M' m = M m)) := by
  refine c_start (by decide) (Nat.le_of_ble_eq_true rfl) (fun p e s m below meth c ls C hr hlk hml hw hS hl => ?_)
  have hl : lv_has ls 4 [(0, .ref (gA g 0)), (1, .int (II q)), (2, .int (II w))] := hl
  have g_M := hw.rg
  have hN : gN g = 84 := hF.1
  have hB : BV M n v nt t (X.2.1 t) := hR.bv hA
  have hn2 : n ≤ 8 := hB.1.2
  have hnt := hB.2.2.2.1.2
  have hpd : 0 ≤ pd ∧ pd ≤ 999999999 := hA.1.2.2.2.2.1
  refine lv_iload_n C.1 C.2.1 dX7_told_0 rfl (lv_at hl 2 rfl) ?_
  refine x_if_ne (tgt := 12) C gz_w dX7_told_1 (by decide) (fun c1 => ?_) (fun c1 => ?_)
  · refine lv_aload_n C.1 C.2.1 dX7_told_12 rfl (lv_at hl 0 rfl) ?_
    refine g7 C hw 0 (by omega) rfl 1 (by decide) mw_481 (svr (hF.2 _)) dX7_told_13 ?_
    refine lv_iload_n C.1 C.2.1 dX7_told_16 rfl (lv_at hl 1 rfl) ?_
    refine x_ci (x_runVN (n := 1) C hw hS hml hl.1 2 1 (by omega) rfl (by decide) rfl (c_X1_has l g M hF q gz_q) mn_520 mw_522 mw_16 mw_119 mw_523 rfl rfl (by decide +kernel) ⟨Nat.le_of_ble_eq_true rfl, Nat.le_of_ble_eq_true rfl⟩ rfl rfl (Nat.le_of_ble_eq_true rfl) dX7_told_17 ⟨Nat.zero_le _, Nat.zero_le _⟩) hS (fun r17 M17 H locs hr17 hp hw hS => ?_)
    rcases hp with ⟨em17, (⟨er17, h17b⟩ | ⟨er17, h17b⟩)⟩
    · have hw : Wo g M H := em17 ▸ hw
      rw [er17]
      refine x_if_ne (tgt := 26) C ⟨by decide, by decide⟩ dX7_told_20 (by decide) (fun _ => ?_) (fun h => absurd h (by decide))
      have hqn : 0 ≤ q ∧ q < n := by rw [← hB.1.1]; exact h17b
      obtain ⟨i, rfl⟩ : ∃ i : Nat, q = (i : Int) := ⟨q.toNat, by omega⟩
      have hq0 := hB.2.2.1 i (by omega)
      refine lv_aload_n C.1 C.2.1 dX7_told_26 rfl (lv_at hl 0 rfl) ?_
      refine g7 C hw 0 (by omega) rfl 1 (by decide) mw_481 (svr (hF.2 _)) dX7_told_27 ?_
      refine gn1 C hw 2 (by omega) rfl 0 (by decide) mn_187 (svr (hF.2 _)) dX7_told_30 ?_
      refine lv_iload_n C.1 C.2.1 dX7_told_33 rfl (lv_at hl 1 rfl) ?_
      refine x_aaload (L := 8) C hw 3 (by omega) 11 rfl (by decide) rfl (by omega) (by omega) (by decide) (rP hF i (by omega)) dX7_told_34 ?_
      refine lv_astore_n (lv' := [(3, .ref (gA g (4 + i))), (0, .ref (gA g 0)), (1, .int (II (i : Int))), (2, .int (II w))]) C.1 C.2.1 dX7_told_35 rfl hl (by decide) rfl (fun ls hl => ?_)
      refine lv_iload_n C.1 C.2.1 dX7_told_36 rfl (lv_at hl 3 rfl) ?_
      refine lv_iconst (v := II 1) C.1 C.2.1 dX7_told_37 rfl ?_
      refine x_icmp_lt (tgt := 52) C gz_w ⟨by decide, by decide⟩ dX7_told_38 (by decide) (fun c38 => ?_) (fun c38 => ?_)
      · refine lv_iload_n C.1 C.2.1 dX7_told_52 rfl (lv_at hl 3 rfl) ?_
        refine lv_bipush (v := II 6) C.1 C.2.1 dX7_told_53 (by decide) ?_
        refine x_icmp_ne (tgt := 78) C gz_w ⟨by decide, by decide⟩ dX7_told_55 (by decide) (fun c55 => ?_) (fun c55 => ?_)
        · refine lv_iload_n C.1 C.2.1 dX7_told_78 rfl (lv_at hl 3 rfl) ?_
          refine lv_bipush (v := II 10) C.1 C.2.1 dX7_told_79 (by decide) ?_
          refine x_icmp_lt (tgt := 117) C gz_w ⟨by decide, by decide⟩ dX7_told_81 (by decide) (fun c81 => ?_) (fun c81 => ?_)
          · refine lv_iload_n C.1 C.2.1 dX7_told_117 rfl (lv_at hl 3 rfl) ?_
            refine lv_bipush (v := II 20) C.1 C.2.1 dX7_told_118 (by decide) ?_
            refine x_icmp_lt (tgt := 156) C gz_w ⟨by decide, by decide⟩ dX7_told_120 (by decide) (fun c120 => ?_) (fun c120 => ?_)
            · refine lv_bipush (v := II (-100)) C.1 C.2.1 dX7_told_156 (by decide) ?_
              exact x_ireturn C hr hlk hw hS ⟨by decide, by decide⟩ rfl ⟨(by unfold r_told; (repeat' split) <;> first | rfl | omega), hR, (fun _ _ => rfl)⟩ dX7_told_158
            · refine lv_iload_n C.1 C.2.1 dX7_told_123 rfl (lv_at hl 3 rfl) ?_
              refine lv_bipush (v := II 26) C.1 C.2.1 dX7_told_124 (by decide) ?_
              refine x_icmp_ge (tgt := 156) C gz_w ⟨by decide, by decide⟩ dX7_told_126 (by decide) (fun c126 => ?_) (fun c126 => ?_)
              · refine lv_bipush (v := II (-100)) C.1 C.2.1 dX7_told_156 (by decide) ?_
                exact x_ireturn C hr hlk hw hS ⟨by decide, by decide⟩ rfl ⟨(by unfold r_told; (repeat' split) <;> first | rfl | omega), hR, (fun _ _ => rfl)⟩ dX7_told_158
              · refine lv_aload_n C.1 C.2.1 dX7_told_129 rfl (lv_at hl 1 rfl) ?_
                refine g7 C hw 0 (by omega) rfl 0 (by decide) mw_480 (svr (hF.2 _)) dX7_told_130 ?_
                refine lv_aload_n C.1 C.2.1 dX7_told_133 rfl (lv_at hl 0 rfl) ?_
                refine gn3 C hw (4 + i) (by omega) (kd_p (by omega)) 2 (by decide) mn_169 (svi (x := v i 2) (hB.2.1 i (by omega) 2 (by decide))) dX7_told_134 ?_
                refine x_ci (x_runVN (n := 1) C hw hS hml hl.1 1 2 (by omega) rfl (by decide) rfl (c_X2_play l g M hF n v nt t (X.2.1 t) hB (v i 2) ⟨by omega, by omega⟩) mn_548 mw_550 mw_21 mw_118 mw_551 rfl rfl (by decide +kernel) ⟨Nat.le_of_ble_eq_true rfl, Nat.le_of_ble_eq_true rfl⟩ rfl rfl (Nat.le_of_ble_eq_true rfl) dX7_told_137 ⟨Nat.zero_le _, Nat.zero_le _⟩) hS (fun r137 M137 H locs hr137 hp hw hS => ?_)
                obtain ⟨er137, h137a, h137b, h137c, h137f⟩ := hp
                have g_M137 := hw.rg
                rw [er137] at hr137 ⊢
                refine lv_pop C.1 C.2.1 dX7_told_140 rfl ?_
                refine lv_aload_n C.1 C.2.1 dX7_told_141 rfl (lv_at hl 1 rfl) ?_
                refine g7 C hw 0 (by omega) rfl 0 (by decide) mw_480 (svr (hF.2 _)) dX7_told_142 ?_
                refine gn2 C hw 1 (by omega) rfl 3 (by decide) mn_245 (svr (hF.2 _)) dX7_told_145 ?_
                refine lv_iload_n C.1 C.2.1 dX7_told_148 rfl (lv_at hl 3 rfl) ?_
                refine lv_bipush (v := II 20) C.1 C.2.1 dX7_told_149 (by decide) ?_
                refine x_isub C dX7_told_151 ?_
                refine x_aaload (L := 6) C hw 37 (by omega) 13 rfl (by decide) rfl (by omega) (by omega) (by decide) ((congrArg (fun z => gR g (37000 + z)) (by omega)).trans (rG hF ((w - 20).toNat) (by omega))) dX7_told_152 ?_
                refine lv_iload_n C.1 C.2.1 dX7_told_153 rfl (lv_at hl 2 rfl) ?_
                refine x_iaload (L := 8) C hw (38 + ((w - 20).toNat)) (by omega) (kd_g (by omega)) (ln_g (by omega)) (by omega) (by omega) (by decide) (x := M137 (1000 * (38 + ((w - 20).toNat)) + i)) rfl dX7_told_154 ?_
                exact x_ireturn C hr hlk hw hS (g_M137 _) rfl ⟨(by rw [r_told, if_neg (by omega), if_neg (by omega), if_neg (by omega), if_neg (by omega), if_neg (by omega), if_neg (by omega), if_pos (by omega)]; exact h137b _ (by omega) i (by omega) rfl), (hR.fr hA (fun m hm => h137f m (fun z => hm (Or.inl z)))), (fun m hm => h137f m (by unfold scr; omega))⟩ dX7_told_155
          · refine lv_iload_n C.1 C.2.1 dX7_told_84 rfl (lv_at hl 3 rfl) ?_
            refine lv_bipush (v := II 16) C.1 C.2.1 dX7_told_85 (by decide) ?_
            refine x_icmp_ge (tgt := 117) C gz_w ⟨by decide, by decide⟩ dX7_told_87 (by decide) (fun c87 => ?_) (fun c87 => ?_)
            · refine lv_iload_n C.1 C.2.1 dX7_told_117 rfl (lv_at hl 3 rfl) ?_
              refine lv_bipush (v := II 20) C.1 C.2.1 dX7_told_118 (by decide) ?_
              refine x_icmp_lt (tgt := 156) C gz_w ⟨by decide, by decide⟩ dX7_told_120 (by decide) (fun c120 => ?_) (fun c120 => ?_)
              · refine lv_bipush (v := II (-100)) C.1 C.2.1 dX7_told_156 (by decide) ?_
                exact x_ireturn C hr hlk hw hS ⟨by decide, by decide⟩ rfl ⟨(by unfold r_told; (repeat' split) <;> first | rfl | omega), hR, (fun _ _ => rfl)⟩ dX7_told_158
              · refine lv_iload_n C.1 C.2.1 dX7_told_123 rfl (lv_at hl 3 rfl) ?_
                refine lv_bipush (v := II 26) C.1 C.2.1 dX7_told_124 (by decide) ?_
                refine x_icmp_ge (tgt := 156) C gz_w ⟨by decide, by decide⟩ dX7_told_126 (by decide) (fun c126 => ?_) (fun c126 => ?_)
                · refine lv_bipush (v := II (-100)) C.1 C.2.1 dX7_told_156 (by decide) ?_
                  exact x_ireturn C hr hlk hw hS ⟨by decide, by decide⟩ rfl ⟨(by unfold r_told; (repeat' split) <;> first | rfl | omega), hR, (fun _ _ => rfl)⟩ dX7_told_158
                · refine lv_aload_n C.1 C.2.1 dX7_told_129 rfl (lv_at hl 1 rfl) ?_
                  refine g7 C hw 0 (by omega) rfl 0 (by decide) mw_480 (svr (hF.2 _)) dX7_told_130 ?_
                  refine lv_aload_n C.1 C.2.1 dX7_told_133 rfl (lv_at hl 0 rfl) ?_
                  refine gn3 C hw (4 + i) (by omega) (kd_p (by omega)) 2 (by decide) mn_169 (svi (x := v i 2) (hB.2.1 i (by omega) 2 (by decide))) dX7_told_134 ?_
                  refine x_ci (x_runVN (n := 1) C hw hS hml hl.1 1 2 (by omega) rfl (by decide) rfl (c_X2_play l g M hF n v nt t (X.2.1 t) hB (v i 2) ⟨by omega, by omega⟩) mn_548 mw_550 mw_21 mw_118 mw_551 rfl rfl (by decide +kernel) ⟨Nat.le_of_ble_eq_true rfl, Nat.le_of_ble_eq_true rfl⟩ rfl rfl (Nat.le_of_ble_eq_true rfl) dX7_told_137 ⟨Nat.zero_le _, Nat.zero_le _⟩) hS (fun r137 M137 H locs hr137 hp hw hS => ?_)
                  obtain ⟨er137, h137a, h137b, h137c, h137f⟩ := hp
                  have g_M137 := hw.rg
                  rw [er137] at hr137 ⊢
                  refine lv_pop C.1 C.2.1 dX7_told_140 rfl ?_
                  refine lv_aload_n C.1 C.2.1 dX7_told_141 rfl (lv_at hl 1 rfl) ?_
                  refine g7 C hw 0 (by omega) rfl 0 (by decide) mw_480 (svr (hF.2 _)) dX7_told_142 ?_
                  refine gn2 C hw 1 (by omega) rfl 3 (by decide) mn_245 (svr (hF.2 _)) dX7_told_145 ?_
                  refine lv_iload_n C.1 C.2.1 dX7_told_148 rfl (lv_at hl 3 rfl) ?_
                  refine lv_bipush (v := II 20) C.1 C.2.1 dX7_told_149 (by decide) ?_
                  refine x_isub C dX7_told_151 ?_
                  refine x_aaload (L := 6) C hw 37 (by omega) 13 rfl (by decide) rfl (by omega) (by omega) (by decide) ((congrArg (fun z => gR g (37000 + z)) (by omega)).trans (rG hF ((w - 20).toNat) (by omega))) dX7_told_152 ?_
                  refine lv_iload_n C.1 C.2.1 dX7_told_153 rfl (lv_at hl 2 rfl) ?_
                  refine x_iaload (L := 8) C hw (38 + ((w - 20).toNat)) (by omega) (kd_g (by omega)) (ln_g (by omega)) (by omega) (by omega) (by decide) (x := M137 (1000 * (38 + ((w - 20).toNat)) + i)) rfl dX7_told_154 ?_
                  exact x_ireturn C hr hlk hw hS (g_M137 _) rfl ⟨(by rw [r_told, if_neg (by omega), if_neg (by omega), if_neg (by omega), if_neg (by omega), if_neg (by omega), if_neg (by omega), if_pos (by omega)]; exact h137b _ (by omega) i (by omega) rfl), (hR.fr hA (fun m hm => h137f m (fun z => hm (Or.inl z)))), (fun m hm => h137f m (by unfold scr; omega))⟩ dX7_told_155
            · refine lv_aload_n C.1 C.2.1 dX7_told_90 rfl (lv_at hl 1 rfl) ?_
              refine g7 C hw 0 (by omega) rfl 0 (by decide) mw_480 (svr (hF.2 _)) dX7_told_91 ?_
              refine lv_aload_n C.1 C.2.1 dX7_told_94 rfl (lv_at hl 0 rfl) ?_
              refine gn3 C hw (4 + i) (by omega) (kd_p (by omega)) 2 (by decide) mn_169 (svi (x := v i 2) (hB.2.1 i (by omega) 2 (by decide))) dX7_told_95 ?_
              refine x_ci (x_runVN (n := 1) C hw hS hml hl.1 1 2 (by omega) rfl (by decide) rfl (c_X2_play l g M hF n v nt t (X.2.1 t) hB (v i 2) ⟨by omega, by omega⟩) mn_548 mw_550 mw_21 mw_118 mw_551 rfl rfl (by decide +kernel) ⟨Nat.le_of_ble_eq_true rfl, Nat.le_of_ble_eq_true rfl⟩ rfl rfl (Nat.le_of_ble_eq_true rfl) dX7_told_98 ⟨Nat.zero_le _, Nat.zero_le _⟩) hS (fun r98 M98 H locs hr98 hp hw hS => ?_)
              obtain ⟨er98, h98a, h98b, h98c, h98f⟩ := hp
              have g_M98 := hw.rg
              rw [er98] at hr98 ⊢
              refine lv_pop C.1 C.2.1 dX7_told_101 rfl ?_
              refine lv_aload_n C.1 C.2.1 dX7_told_102 rfl (lv_at hl 1 rfl) ?_
              refine g7 C hw 0 (by omega) rfl 0 (by decide) mw_480 (svr (hF.2 _)) dX7_told_103 ?_
              refine gn2 C hw 1 (by omega) rfl 2 (by decide) mn_243 (svr (hF.2 _)) dX7_told_106 ?_
              refine lv_iload_n C.1 C.2.1 dX7_told_109 rfl (lv_at hl 3 rfl) ?_
              refine lv_bipush (v := II 10) C.1 C.2.1 dX7_told_110 (by decide) ?_
              refine x_isub C dX7_told_112 ?_
              refine x_aaload (L := 7) C hw 29 (by omega) 13 rfl (by decide) rfl (by omega) (by omega) (by decide) ((congrArg (fun z => gR g (29000 + z)) (by omega)).trans (rM hF ((w - 10).toNat) (by omega))) dX7_told_113 ?_
              refine lv_iload_n C.1 C.2.1 dX7_told_114 rfl (lv_at hl 2 rfl) ?_
              refine x_iaload (L := 8) C hw (30 + ((w - 10).toNat)) (by omega) (kd_m (by omega)) (ln_m (by omega)) (by omega) (by omega) (by decide) (x := M98 (1000 * (30 + ((w - 10).toNat)) + i)) rfl dX7_told_115 ?_
              exact x_ireturn C hr hlk hw hS (g_M98 _) rfl ⟨(by rw [r_told, if_neg (by omega), if_neg (by omega), if_neg (by omega), if_neg (by omega), if_neg (by omega), if_pos (by omega)]; exact h98a _ (by omega) i (by omega) rfl), (hR.fr hA (fun m hm => h98f m (fun z => hm (Or.inl z)))), (fun m hm => h98f m (by unfold scr; omega))⟩ dX7_told_116
        · refine lv_aload_n C.1 C.2.1 dX7_told_58 rfl (lv_at hl 0 rfl) ?_
          refine lv_aload_n C.1 C.2.1 dX7_told_59 rfl (lv_at hl 1 rfl) ?_
          refine g7 C hw 0 (by omega) rfl 1 (by decide) mw_481 (svr (hF.2 _)) dX7_told_60 ?_
          refine gn1 C hw 2 (by omega) rfl 2 (by decide) mn_193 (svi (x := nt) hB.2.2.2.1.1) dX7_told_63 ?_
          refine x_ci (x_runVN (n := 1) C hw hS hml hl.1 (4 + i) 3 (by omega) (kd_p (by omega)) (by decide) rfl (c_X3_isExempt l g M (4 + i) (by omega) (kd_p (by omega)) (v i 0) (hB.2.1 i (by omega) 0 (by decide)) (v i 1) (hB.2.1 i (by omega) 1 (by decide)) nt (by first | assumption | omega | exact ⟨by omega, by omega⟩ | decide) (by first | assumption | omega | exact ⟨by omega, by omega⟩ | decide)) mn_544 mw_546 mw_20 mw_120 mw_547 rfl rfl (by decide +kernel) ⟨Nat.le_of_ble_eq_true rfl, Nat.le_of_ble_eq_true rfl⟩ rfl rfl (Nat.le_of_ble_eq_true rfl) dX7_told_66 ⟨Nat.zero_le _, Nat.zero_le _⟩) hS (fun r66 M66 H locs hr66 hp hw hS => ?_)
          rcases hp with ⟨em66, (⟨er66, h66b⟩ | ⟨er66, h66b⟩)⟩
          · have hw : Wo g M H := em66 ▸ hw
            rw [er66]
            refine x_if_eq (tgt := 76) C ⟨by decide, by decide⟩ dX7_told_69 (by decide) (fun h => absurd h (by decide)) (fun _ => ?_)
            refine lv_iconst (v := II 1) C.1 C.2.1 dX7_told_72 rfl ?_
            refine lv_goto (tgt := 77) C.1 C.2.1 dX7_told_73 (by decide) ?_
            exact x_ireturn C hr hlk hw hS ⟨by decide, by decide⟩ rfl ⟨(by first | (exfalso; omega) | (rw [r_told, if_neg (by omega), if_neg (by omega), if_neg (by omega), if_neg (by omega), if_pos (by omega)]; first | exact (if_pos (exB_t h66b)).symm | exact (if_neg (fun z => absurd (z.symm.trans (exB_f h66b)) (by decide))).symm)), hR, (fun _ _ => rfl)⟩ dX7_told_77
          · have hw : Wo g M H := em66 ▸ hw
            rw [er66]
            refine x_if_eq (tgt := 76) C ⟨by decide, by decide⟩ dX7_told_69 (by decide) (fun _ => ?_) (fun h => absurd h (by decide))
            refine lv_iconst (v := II 0) C.1 C.2.1 dX7_told_76 rfl ?_
            exact x_ireturn C hr hlk hw hS ⟨by decide, by decide⟩ rfl ⟨(by first | (exfalso; omega) | (rw [r_told, if_neg (by omega), if_neg (by omega), if_neg (by omega), if_neg (by omega), if_pos (by omega)]; first | exact (if_pos (exB_t h66b)).symm | exact (if_neg (fun z => absurd (z.symm.trans (exB_f h66b)) (by decide))).symm)), hR, (fun _ _ => rfl)⟩ dX7_told_77
      · refine lv_iload_n C.1 C.2.1 dX7_told_41 rfl (lv_at hl 3 rfl) ?_
        refine lv_iconst (v := II 5) C.1 C.2.1 dX7_told_42 rfl ?_
        refine x_icmp_gt (tgt := 52) C gz_w ⟨by decide, by decide⟩ dX7_told_43 (by decide) (fun c43 => ?_) (fun c43 => ?_)
        · refine lv_iload_n C.1 C.2.1 dX7_told_52 rfl (lv_at hl 3 rfl) ?_
          refine lv_bipush (v := II 6) C.1 C.2.1 dX7_told_53 (by decide) ?_
          refine x_icmp_ne (tgt := 78) C gz_w ⟨by decide, by decide⟩ dX7_told_55 (by decide) (fun c55 => ?_) (fun c55 => ?_)
          · refine lv_iload_n C.1 C.2.1 dX7_told_78 rfl (lv_at hl 3 rfl) ?_
            refine lv_bipush (v := II 10) C.1 C.2.1 dX7_told_79 (by decide) ?_
            refine x_icmp_lt (tgt := 117) C gz_w ⟨by decide, by decide⟩ dX7_told_81 (by decide) (fun c81 => ?_) (fun c81 => ?_)
            · refine lv_iload_n C.1 C.2.1 dX7_told_117 rfl (lv_at hl 3 rfl) ?_
              refine lv_bipush (v := II 20) C.1 C.2.1 dX7_told_118 (by decide) ?_
              refine x_icmp_lt (tgt := 156) C gz_w ⟨by decide, by decide⟩ dX7_told_120 (by decide) (fun c120 => ?_) (fun c120 => ?_)
              · refine lv_bipush (v := II (-100)) C.1 C.2.1 dX7_told_156 (by decide) ?_
                exact x_ireturn C hr hlk hw hS ⟨by decide, by decide⟩ rfl ⟨(by unfold r_told; (repeat' split) <;> first | rfl | omega), hR, (fun _ _ => rfl)⟩ dX7_told_158
              · refine lv_iload_n C.1 C.2.1 dX7_told_123 rfl (lv_at hl 3 rfl) ?_
                refine lv_bipush (v := II 26) C.1 C.2.1 dX7_told_124 (by decide) ?_
                refine x_icmp_ge (tgt := 156) C gz_w ⟨by decide, by decide⟩ dX7_told_126 (by decide) (fun c126 => ?_) (fun c126 => ?_)
                · refine lv_bipush (v := II (-100)) C.1 C.2.1 dX7_told_156 (by decide) ?_
                  exact x_ireturn C hr hlk hw hS ⟨by decide, by decide⟩ rfl ⟨(by unfold r_told; (repeat' split) <;> first | rfl | omega), hR, (fun _ _ => rfl)⟩ dX7_told_158
                · refine lv_aload_n C.1 C.2.1 dX7_told_129 rfl (lv_at hl 1 rfl) ?_
                  refine g7 C hw 0 (by omega) rfl 0 (by decide) mw_480 (svr (hF.2 _)) dX7_told_130 ?_
                  refine lv_aload_n C.1 C.2.1 dX7_told_133 rfl (lv_at hl 0 rfl) ?_
                  refine gn3 C hw (4 + i) (by omega) (kd_p (by omega)) 2 (by decide) mn_169 (svi (x := v i 2) (hB.2.1 i (by omega) 2 (by decide))) dX7_told_134 ?_
                  refine x_ci (x_runVN (n := 1) C hw hS hml hl.1 1 2 (by omega) rfl (by decide) rfl (c_X2_play l g M hF n v nt t (X.2.1 t) hB (v i 2) ⟨by omega, by omega⟩) mn_548 mw_550 mw_21 mw_118 mw_551 rfl rfl (by decide +kernel) ⟨Nat.le_of_ble_eq_true rfl, Nat.le_of_ble_eq_true rfl⟩ rfl rfl (Nat.le_of_ble_eq_true rfl) dX7_told_137 ⟨Nat.zero_le _, Nat.zero_le _⟩) hS (fun r137 M137 H locs hr137 hp hw hS => ?_)
                  obtain ⟨er137, h137a, h137b, h137c, h137f⟩ := hp
                  have g_M137 := hw.rg
                  rw [er137] at hr137 ⊢
                  refine lv_pop C.1 C.2.1 dX7_told_140 rfl ?_
                  refine lv_aload_n C.1 C.2.1 dX7_told_141 rfl (lv_at hl 1 rfl) ?_
                  refine g7 C hw 0 (by omega) rfl 0 (by decide) mw_480 (svr (hF.2 _)) dX7_told_142 ?_
                  refine gn2 C hw 1 (by omega) rfl 3 (by decide) mn_245 (svr (hF.2 _)) dX7_told_145 ?_
                  refine lv_iload_n C.1 C.2.1 dX7_told_148 rfl (lv_at hl 3 rfl) ?_
                  refine lv_bipush (v := II 20) C.1 C.2.1 dX7_told_149 (by decide) ?_
                  refine x_isub C dX7_told_151 ?_
                  refine x_aaload (L := 6) C hw 37 (by omega) 13 rfl (by decide) rfl (by omega) (by omega) (by decide) ((congrArg (fun z => gR g (37000 + z)) (by omega)).trans (rG hF ((w - 20).toNat) (by omega))) dX7_told_152 ?_
                  refine lv_iload_n C.1 C.2.1 dX7_told_153 rfl (lv_at hl 2 rfl) ?_
                  refine x_iaload (L := 8) C hw (38 + ((w - 20).toNat)) (by omega) (kd_g (by omega)) (ln_g (by omega)) (by omega) (by omega) (by decide) (x := M137 (1000 * (38 + ((w - 20).toNat)) + i)) rfl dX7_told_154 ?_
                  exact x_ireturn C hr hlk hw hS (g_M137 _) rfl ⟨(by rw [r_told, if_neg (by omega), if_neg (by omega), if_neg (by omega), if_neg (by omega), if_neg (by omega), if_neg (by omega), if_pos (by omega)]; exact h137b _ (by omega) i (by omega) rfl), (hR.fr hA (fun m hm => h137f m (fun z => hm (Or.inl z)))), (fun m hm => h137f m (by unfold scr; omega))⟩ dX7_told_155
            · refine lv_iload_n C.1 C.2.1 dX7_told_84 rfl (lv_at hl 3 rfl) ?_
              refine lv_bipush (v := II 16) C.1 C.2.1 dX7_told_85 (by decide) ?_
              refine x_icmp_ge (tgt := 117) C gz_w ⟨by decide, by decide⟩ dX7_told_87 (by decide) (fun c87 => ?_) (fun c87 => ?_)
              · refine lv_iload_n C.1 C.2.1 dX7_told_117 rfl (lv_at hl 3 rfl) ?_
                refine lv_bipush (v := II 20) C.1 C.2.1 dX7_told_118 (by decide) ?_
                refine x_icmp_lt (tgt := 156) C gz_w ⟨by decide, by decide⟩ dX7_told_120 (by decide) (fun c120 => ?_) (fun c120 => ?_)
                · refine lv_bipush (v := II (-100)) C.1 C.2.1 dX7_told_156 (by decide) ?_
                  exact x_ireturn C hr hlk hw hS ⟨by decide, by decide⟩ rfl ⟨(by unfold r_told; (repeat' split) <;> first | rfl | omega), hR, (fun _ _ => rfl)⟩ dX7_told_158
                · refine lv_iload_n C.1 C.2.1 dX7_told_123 rfl (lv_at hl 3 rfl) ?_
                  refine lv_bipush (v := II 26) C.1 C.2.1 dX7_told_124 (by decide) ?_
                  refine x_icmp_ge (tgt := 156) C gz_w ⟨by decide, by decide⟩ dX7_told_126 (by decide) (fun c126 => ?_) (fun c126 => ?_)
                  · refine lv_bipush (v := II (-100)) C.1 C.2.1 dX7_told_156 (by decide) ?_
                    exact x_ireturn C hr hlk hw hS ⟨by decide, by decide⟩ rfl ⟨(by unfold r_told; (repeat' split) <;> first | rfl | omega), hR, (fun _ _ => rfl)⟩ dX7_told_158
                  · refine lv_aload_n C.1 C.2.1 dX7_told_129 rfl (lv_at hl 1 rfl) ?_
                    refine g7 C hw 0 (by omega) rfl 0 (by decide) mw_480 (svr (hF.2 _)) dX7_told_130 ?_
                    refine lv_aload_n C.1 C.2.1 dX7_told_133 rfl (lv_at hl 0 rfl) ?_
                    refine gn3 C hw (4 + i) (by omega) (kd_p (by omega)) 2 (by decide) mn_169 (svi (x := v i 2) (hB.2.1 i (by omega) 2 (by decide))) dX7_told_134 ?_
                    refine x_ci (x_runVN (n := 1) C hw hS hml hl.1 1 2 (by omega) rfl (by decide) rfl (c_X2_play l g M hF n v nt t (X.2.1 t) hB (v i 2) ⟨by omega, by omega⟩) mn_548 mw_550 mw_21 mw_118 mw_551 rfl rfl (by decide +kernel) ⟨Nat.le_of_ble_eq_true rfl, Nat.le_of_ble_eq_true rfl⟩ rfl rfl (Nat.le_of_ble_eq_true rfl) dX7_told_137 ⟨Nat.zero_le _, Nat.zero_le _⟩) hS (fun r137 M137 H locs hr137 hp hw hS => ?_)
                    obtain ⟨er137, h137a, h137b, h137c, h137f⟩ := hp
                    have g_M137 := hw.rg
                    rw [er137] at hr137 ⊢
                    refine lv_pop C.1 C.2.1 dX7_told_140 rfl ?_
                    refine lv_aload_n C.1 C.2.1 dX7_told_141 rfl (lv_at hl 1 rfl) ?_
                    refine g7 C hw 0 (by omega) rfl 0 (by decide) mw_480 (svr (hF.2 _)) dX7_told_142 ?_
                    refine gn2 C hw 1 (by omega) rfl 3 (by decide) mn_245 (svr (hF.2 _)) dX7_told_145 ?_
                    refine lv_iload_n C.1 C.2.1 dX7_told_148 rfl (lv_at hl 3 rfl) ?_
                    refine lv_bipush (v := II 20) C.1 C.2.1 dX7_told_149 (by decide) ?_
                    refine x_isub C dX7_told_151 ?_
                    refine x_aaload (L := 6) C hw 37 (by omega) 13 rfl (by decide) rfl (by omega) (by omega) (by decide) ((congrArg (fun z => gR g (37000 + z)) (by omega)).trans (rG hF ((w - 20).toNat) (by omega))) dX7_told_152 ?_
                    refine lv_iload_n C.1 C.2.1 dX7_told_153 rfl (lv_at hl 2 rfl) ?_
                    refine x_iaload (L := 8) C hw (38 + ((w - 20).toNat)) (by omega) (kd_g (by omega)) (ln_g (by omega)) (by omega) (by omega) (by decide) (x := M137 (1000 * (38 + ((w - 20).toNat)) + i)) rfl dX7_told_154 ?_
                    exact x_ireturn C hr hlk hw hS (g_M137 _) rfl ⟨(by rw [r_told, if_neg (by omega), if_neg (by omega), if_neg (by omega), if_neg (by omega), if_neg (by omega), if_neg (by omega), if_pos (by omega)]; exact h137b _ (by omega) i (by omega) rfl), (hR.fr hA (fun m hm => h137f m (fun z => hm (Or.inl z)))), (fun m hm => h137f m (by unfold scr; omega))⟩ dX7_told_155
              · refine lv_aload_n C.1 C.2.1 dX7_told_90 rfl (lv_at hl 1 rfl) ?_
                refine g7 C hw 0 (by omega) rfl 0 (by decide) mw_480 (svr (hF.2 _)) dX7_told_91 ?_
                refine lv_aload_n C.1 C.2.1 dX7_told_94 rfl (lv_at hl 0 rfl) ?_
                refine gn3 C hw (4 + i) (by omega) (kd_p (by omega)) 2 (by decide) mn_169 (svi (x := v i 2) (hB.2.1 i (by omega) 2 (by decide))) dX7_told_95 ?_
                refine x_ci (x_runVN (n := 1) C hw hS hml hl.1 1 2 (by omega) rfl (by decide) rfl (c_X2_play l g M hF n v nt t (X.2.1 t) hB (v i 2) ⟨by omega, by omega⟩) mn_548 mw_550 mw_21 mw_118 mw_551 rfl rfl (by decide +kernel) ⟨Nat.le_of_ble_eq_true rfl, Nat.le_of_ble_eq_true rfl⟩ rfl rfl (Nat.le_of_ble_eq_true rfl) dX7_told_98 ⟨Nat.zero_le _, Nat.zero_le _⟩) hS (fun r98 M98 H locs hr98 hp hw hS => ?_)
                obtain ⟨er98, h98a, h98b, h98c, h98f⟩ := hp
                have g_M98 := hw.rg
                rw [er98] at hr98 ⊢
                refine lv_pop C.1 C.2.1 dX7_told_101 rfl ?_
                refine lv_aload_n C.1 C.2.1 dX7_told_102 rfl (lv_at hl 1 rfl) ?_
                refine g7 C hw 0 (by omega) rfl 0 (by decide) mw_480 (svr (hF.2 _)) dX7_told_103 ?_
                refine gn2 C hw 1 (by omega) rfl 2 (by decide) mn_243 (svr (hF.2 _)) dX7_told_106 ?_
                refine lv_iload_n C.1 C.2.1 dX7_told_109 rfl (lv_at hl 3 rfl) ?_
                refine lv_bipush (v := II 10) C.1 C.2.1 dX7_told_110 (by decide) ?_
                refine x_isub C dX7_told_112 ?_
                refine x_aaload (L := 7) C hw 29 (by omega) 13 rfl (by decide) rfl (by omega) (by omega) (by decide) ((congrArg (fun z => gR g (29000 + z)) (by omega)).trans (rM hF ((w - 10).toNat) (by omega))) dX7_told_113 ?_
                refine lv_iload_n C.1 C.2.1 dX7_told_114 rfl (lv_at hl 2 rfl) ?_
                refine x_iaload (L := 8) C hw (30 + ((w - 10).toNat)) (by omega) (kd_m (by omega)) (ln_m (by omega)) (by omega) (by omega) (by decide) (x := M98 (1000 * (30 + ((w - 10).toNat)) + i)) rfl dX7_told_115 ?_
                exact x_ireturn C hr hlk hw hS (g_M98 _) rfl ⟨(by rw [r_told, if_neg (by omega), if_neg (by omega), if_neg (by omega), if_neg (by omega), if_neg (by omega), if_pos (by omega)]; exact h98a _ (by omega) i (by omega) rfl), (hR.fr hA (fun m hm => h98f m (fun z => hm (Or.inl z)))), (fun m hm => h98f m (by unfold scr; omega))⟩ dX7_told_116
          · refine lv_aload_n C.1 C.2.1 dX7_told_58 rfl (lv_at hl 0 rfl) ?_
            refine lv_aload_n C.1 C.2.1 dX7_told_59 rfl (lv_at hl 1 rfl) ?_
            refine g7 C hw 0 (by omega) rfl 1 (by decide) mw_481 (svr (hF.2 _)) dX7_told_60 ?_
            refine gn1 C hw 2 (by omega) rfl 2 (by decide) mn_193 (svi (x := nt) hB.2.2.2.1.1) dX7_told_63 ?_
            refine x_ci (x_runVN (n := 1) C hw hS hml hl.1 (4 + i) 3 (by omega) (kd_p (by omega)) (by decide) rfl (c_X3_isExempt l g M (4 + i) (by omega) (kd_p (by omega)) (v i 0) (hB.2.1 i (by omega) 0 (by decide)) (v i 1) (hB.2.1 i (by omega) 1 (by decide)) nt (by first | assumption | omega | exact ⟨by omega, by omega⟩ | decide) (by first | assumption | omega | exact ⟨by omega, by omega⟩ | decide)) mn_544 mw_546 mw_20 mw_120 mw_547 rfl rfl (by decide +kernel) ⟨Nat.le_of_ble_eq_true rfl, Nat.le_of_ble_eq_true rfl⟩ rfl rfl (Nat.le_of_ble_eq_true rfl) dX7_told_66 ⟨Nat.zero_le _, Nat.zero_le _⟩) hS (fun r66 M66 H locs hr66 hp hw hS => ?_)
            rcases hp with ⟨em66, (⟨er66, h66b⟩ | ⟨er66, h66b⟩)⟩
            · have hw : Wo g M H := em66 ▸ hw
              rw [er66]
              refine x_if_eq (tgt := 76) C ⟨by decide, by decide⟩ dX7_told_69 (by decide) (fun h => absurd h (by decide)) (fun _ => ?_)
              refine lv_iconst (v := II 1) C.1 C.2.1 dX7_told_72 rfl ?_
              refine lv_goto (tgt := 77) C.1 C.2.1 dX7_told_73 (by decide) ?_
              exact x_ireturn C hr hlk hw hS ⟨by decide, by decide⟩ rfl ⟨(by first | (exfalso; omega) | (rw [r_told, if_neg (by omega), if_neg (by omega), if_neg (by omega), if_neg (by omega), if_pos (by omega)]; first | exact (if_pos (exB_t h66b)).symm | exact (if_neg (fun z => absurd (z.symm.trans (exB_f h66b)) (by decide))).symm)), hR, (fun _ _ => rfl)⟩ dX7_told_77
            · have hw : Wo g M H := em66 ▸ hw
              rw [er66]
              refine x_if_eq (tgt := 76) C ⟨by decide, by decide⟩ dX7_told_69 (by decide) (fun _ => ?_) (fun h => absurd h (by decide))
              refine lv_iconst (v := II 0) C.1 C.2.1 dX7_told_76 rfl ?_
              exact x_ireturn C hr hlk hw hS ⟨by decide, by decide⟩ rfl ⟨(by first | (exfalso; omega) | (rw [r_told, if_neg (by omega), if_neg (by omega), if_neg (by omega), if_neg (by omega), if_pos (by omega)]; first | exact (if_pos (exB_t h66b)).symm | exact (if_neg (fun z => absurd (z.symm.trans (exB_f h66b)) (by decide))).symm)), hR, (fun _ _ => rfl)⟩ dX7_told_77
        · refine lv_aload_n C.1 C.2.1 dX7_told_46 rfl (lv_at hl 0 rfl) ?_
          refine lv_iload_n C.1 C.2.1 dX7_told_47 rfl (lv_at hl 3 rfl) ?_
          refine x_ci (x_runVN (n := 1) C hw hS hml hl.1 (4 + i) 3 (by omega) (kd_p (by omega)) (by decide) rfl (c_X3_part l g M (4 + i) (by omega) (kd_p (by omega)) w gz_w) mn_524 mw_526 mw_17 mw_120 mw_527 rfl rfl (by decide +kernel) ⟨Nat.le_of_ble_eq_true rfl, Nat.le_of_ble_eq_true rfl⟩ rfl rfl (Nat.le_of_ble_eq_true rfl) dX7_told_48 ⟨Nat.zero_le _, Nat.zero_le _⟩) hS (fun r48 M48 H locs hr48 hp hw hS => ?_)
          obtain ⟨em48, er48⟩ := hp
          have hw : Wo g M H := em48 ▸ hw
          rw [er48] at hr48 ⊢
          exact x_ireturn C hr hlk hw hS hr48 rfl ⟨(by rw [hB.2.1 i (by omega) (slotK w) (by unfold slotK; (repeat' split) <;> omega)]; unfold r_told slotK; (repeat' split) <;> first | rfl | omega | (exfalso; omega) | (congr 1; omega)), hR, (fun _ _ => rfl)⟩ dX7_told_51
    · have hw : Wo g M H := em17 ▸ hw
      rw [er17]
      refine x_if_ne (tgt := 26) C ⟨by decide, by decide⟩ dX7_told_20 (by decide) (fun h => absurd h (by decide)) (fun _ => ?_)
      refine lv_bipush (v := II (-100)) C.1 C.2.1 dX7_told_23 (by decide) ?_
      exact x_ireturn C hr hlk hw hS ⟨by decide, by decide⟩ rfl ⟨(by unfold r_told; rw [if_neg (by omega), if_pos (by rw [← hB.1.1]; omega)]), hR, (fun _ _ => rfl)⟩ dX7_told_25
  · refine lv_aload_n C.1 C.2.1 dX7_told_4 rfl (lv_at hl 0 rfl) ?_
    refine g7 C hw 0 (by omega) rfl 1 (by decide) mw_481 (svr (hF.2 _)) dX7_told_5 ?_
    refine gn1 C hw 2 (by omega) rfl 2 (by decide) mn_193 (svi (x := nt) hB.2.2.2.1.1) dX7_told_8 ?_
    exact x_ireturn C hr hlk hw hS ⟨by have := g_M 2002; have := hB.2.2.2.1.1; omega, by have := g_M 2002; have := hB.2.2.2.1.1; omega⟩ rfl ⟨(by unfold r_told; (repeat' split) <;> first | rfl | omega), hR, (fun _ _ => rfl)⟩ dX7_told_11

set_option maxHeartbeats 4000000 in
set_option maxRecDepth 100000 in
theorem c_X7_cost (l : Launch) (g : Gm) (M : Nat → Int) (hF : LvF g) (n : Nat) (v : Nat → Nat → Int) (nt : Int) (pd : Int) (t : Nat) (X : Txt) (I : Option Bor) (Sh : Sht) (hR : RepC M (n, v, nt, pd, t) X I Sh) (hA : InvA (n, v, nt, pd, t) X I Sh) (q : Int) (gz_q : rg q) : CI l ({ cls := "RatedBySighs", name := "cost", desc := "(I)I" } : Jvm.MethodName) cX7_cost 2 .int (rmm 6 147) g M [.ref (gA g 0), .int (II q)] (fun r M' => r = r_cost v n nt (X.2.1 t) q ∧ (RepC M' (n, v, nt, pd, t) X I Sh) ∧ (∀ m, 70000 ≤ m → M' m = M m)) := by
  refine c_start (by decide) (Nat.le_of_ble_eq_true rfl) (fun p e s m below meth c ls C hr hlk hml hw hS hl => ?_)
  have hl : lv_has ls 2 [(0, .ref (gA g 0)), (1, .int (II q))] := hl
  have g_M := hw.rg
  have hN : gN g = 84 := hF.1
  have hB : BV M n v nt t (X.2.1 t) := hR.bv hA
  have hn2 : n ≤ 8 := hB.1.2
  have hnt := hB.2.2.2.1.2
  have hpd : 0 ≤ pd ∧ pd ≤ 999999999 := hA.1.2.2.2.2.1
  refine lv_aload_n C.1 C.2.1 dX7_cost_0 rfl (lv_at hl 0 rfl) ?_
  refine g7 C hw 0 (by omega) rfl 1 (by decide) mw_481 (svr (hF.2 _)) dX7_cost_1 ?_
  refine lv_iload_n C.1 C.2.1 dX7_cost_4 rfl (lv_at hl 1 rfl) ?_
  refine x_ci (x_runVN (n := 1) C hw hS hml hl.1 2 1 (by omega) rfl (by decide) rfl (c_X1_has l g M hF q gz_q) mn_520 mw_522 mw_16 mw_119 mw_523 rfl rfl (by decide +kernel) ⟨Nat.le_of_ble_eq_true rfl, Nat.le_of_ble_eq_true rfl⟩ rfl rfl (Nat.le_of_ble_eq_true rfl) dX7_cost_5 ⟨Nat.zero_le _, Nat.zero_le _⟩) hS (fun r5 M5 H locs hr5 hp hw hS => ?_)
  rcases hp with ⟨em5, (⟨er5, h5b⟩ | ⟨er5, h5b⟩)⟩
  · have hw : Wo g M H := em5 ▸ hw
    rw [er5]
    refine x_if_ne (tgt := 14) C ⟨by decide, by decide⟩ dX7_cost_8 (by decide) (fun _ => ?_) (fun h => absurd h (by decide))
    have hqn : 0 ≤ q ∧ q < n := by rw [← hB.1.1]; exact h5b
    obtain ⟨i, rfl⟩ : ∃ i : Nat, q = (i : Int) := ⟨q.toNat, by omega⟩
    have ha1 := allS_in v n nt (X.2.1 t)
    have ha2 := allS_in (upv v i 2 (-1)) n nt (X.2.1 t)
    refine lv_aload_n C.1 C.2.1 dX7_cost_14 rfl (lv_at hl 0 rfl) ?_
    refine g7 C hw 0 (by omega) rfl 0 (by decide) mw_480 (svr (hF.2 _)) dX7_cost_15 ?_
    refine x_ci (x_runVN (n := 0) C hw hS hml hl.1 1 2 (by omega) rfl (by decide) rfl (c_X2_playAll l g M hF n v nt t (X.2.1 t) hB) mn_617 mw_619 mw_30 mw_118 mw_620 rfl rfl (by decide +kernel) ⟨Nat.le_of_ble_eq_true rfl, Nat.le_of_ble_eq_true rfl⟩ rfl rfl (Nat.le_of_ble_eq_true rfl) dX7_cost_18 ⟨Nat.zero_le _, Nat.zero_le _⟩) hS (fun r18 M18 H locs hr18 hp hw hS => ?_)
    obtain ⟨er18, h18f⟩ := hp
    have g_M18 := hw.rg
    rw [er18] at hr18 ⊢
    refine lv_aload_n C.1 C.2.1 dX7_cost_21 rfl (lv_at hl 0 rfl) ?_
    refine lv_iload_n C.1 C.2.1 dX7_cost_22 rfl (lv_at hl 1 rfl) ?_
    refine lv_iconst (v := II 2) C.1 C.2.1 dX7_cost_23 rfl ?_
    refine lv_iconst (v := II (-1)) C.1 C.2.1 dX7_cost_24 rfl ?_
    refine x_ci (x_runV (n := 3) C hw hS hml hl.1 0 7 (by omega) rfl (by decide) rfl (c_X7_allIf l g M18 hF n v nt t (X.2.1 t) (hB.fr h18f) i (by first | assumption | omega | exact ⟨by omega, by omega⟩ | decide) 2 ⟨by decide, by decide⟩ 2 ⟨by decide, by decide⟩ (-1) ⟨by decide, by decide⟩ (PI.up hB.2.2.1 (by omega))) mw_639 mw_641 mw_31 mw_117 mw_642 rfl rfl (by decide +kernel) ⟨Nat.le_of_ble_eq_true rfl, Nat.le_of_ble_eq_true rfl⟩ rfl rfl (Nat.le_of_ble_eq_true rfl) dX7_cost_25 ⟨Nat.zero_le _, Nat.zero_le _⟩) hS (fun r25 M25 H locs hr25 hp hw hS => ?_)
    obtain ⟨er25, h25f⟩ := hp
    have g_M25 := hw.rg
    rw [er25] at hr25 ⊢
    refine x_isub C dX7_cost_28 ?_
    exact x_ireturn C hr hlk hw hS ⟨by omega, by omega⟩ rfl ⟨(by unfold r_cost; rw [if_pos (by omega)]; rfl), (hR.fr hA (fun m hm => (h25f m (fun z => hm (Or.inl z))).trans (h18f m (fun z => hm (Or.inl z))))), (fun m hm => (h25f m (by unfold scr; omega)).trans (h18f m (by unfold scr; omega)))⟩ dX7_cost_29
  · have hw : Wo g M H := em5 ▸ hw
    rw [er5]
    refine x_if_ne (tgt := 14) C ⟨by decide, by decide⟩ dX7_cost_8 (by decide) (fun h => absurd h (by decide)) (fun _ => ?_)
    refine lv_ldc C.1 C.2.1 C.2.2.1 (C.2.2.2.1 _ mw_638) dX7_cost_11 ?_
    rw [show (-100000 : Int32) = II (-100000) from by decide]
    exact x_ireturn C hr hlk hw hS ⟨by decide, by decide⟩ rfl ⟨(by unfold r_cost; rw [if_neg (by rw [← hB.1.1]; exact h5b)]), hR, (fun _ _ => rfl)⟩ dX7_cost_13

set_option maxHeartbeats 4000000 in
set_option maxRecDepth 100000 in
theorem c_X7_cheer (l : Launch) (g : Gm) (M : Nat → Int) (hF : LvF g) (n : Nat) (v : Nat → Nat → Int) (nt : Int) (pd : Int) (t : Nat) (X : Txt) (I : Option Bor) (Sh : Sht) (hR : RepC M (n, v, nt, pd, t) X I Sh) (hA : InvA (n, v, nt, pd, t) X I Sh) (w : Int) (gz_w : rg w) : CI l ({ cls := "RatedBySighs", name := "cheer", desc := "(I)I" } : Jvm.MethodName) cX7_cheer 2 .int (rmm 7 171) g M [.ref (gA g 0), .int (II w)] (fun r M' => r = r_best (mvA v n nt (X.2.1 t) true n) w ∧ (RepC M' (n, v, nt, pd, t) X I Sh) ∧ (∀ m, 70000 ≤ m → M' m = M m)) := by
  refine c_start (by decide) (Nat.le_of_ble_eq_true rfl) (fun p e s m below meth c ls C hr hlk hml hw hS hl => ?_)
  have hl : lv_has ls 2 [(0, .ref (gA g 0)), (1, .int (II w))] := hl
  have g_M := hw.rg
  have hN : gN g = 84 := hF.1
  have hB : BV M n v nt t (X.2.1 t) := hR.bv hA
  have hn2 : n ≤ 8 := hB.1.2
  have hnt := hB.2.2.2.1.2
  have hpd : 0 ≤ pd ∧ pd ≤ 999999999 := hA.1.2.2.2.2.1
  refine lv_iload_n C.1 C.2.1 dX7_cheer_0 rfl (lv_at hl 1 rfl) ?_
  refine x_ci (x_runS (n := 1) C hw hS hml hl.1 (c_X7_isZeroOrOne l g M w gz_w) mw_631 mw_632 mw_117 mw_633 rfl rfl (by decide +kernel) ⟨Nat.le_of_ble_eq_true rfl, Nat.le_of_ble_eq_true rfl⟩ rfl rfl (Nat.le_of_ble_eq_true rfl) dX7_cheer_1 ⟨Nat.zero_le _, Nat.zero_le _⟩) hS (fun r1 M1 H locs hr1 hp hw hS => ?_)
  rcases hp with ⟨em1, (⟨er1, h1b⟩ | ⟨er1, h1b⟩)⟩
  · have hw : Wo g M H := em1 ▸ hw
    rw [er1]
    refine x_if_eq (tgt := 16) C ⟨by decide, by decide⟩ dX7_cheer_4 (by decide) (fun h => absurd h (by decide)) (fun _ => ?_)
    refine lv_aload_n C.1 C.2.1 dX7_cheer_7 rfl (lv_at hl 0 rfl) ?_
    refine lv_iload_n C.1 C.2.1 dX7_cheer_8 rfl (lv_at hl 1 rfl) ?_
    refine lv_iconst (v := II 1) C.1 C.2.1 dX7_cheer_9 rfl ?_
    refine x_ci (x_runV (n := 2) C hw hS hml hl.1 0 7 (by omega) rfl (by decide) rfl (c_X7_bestMove l g M hF n v nt t (X.2.1 t) hB w gz_w true 1 (by decide)) mw_647 mw_649 mw_32 mw_117 mw_650 rfl rfl (by decide +kernel) ⟨Nat.le_of_ble_eq_true rfl, Nat.le_of_ble_eq_true rfl⟩ rfl rfl (Nat.le_of_ble_eq_true rfl) dX7_cheer_10 ⟨Nat.zero_le _, Nat.zero_le _⟩) hS (fun r10 M10 H locs hr10 hp hw hS => ?_)
    obtain ⟨er10, h10f⟩ := hp
    have g_M10 := hw.rg
    rw [er10] at hr10 ⊢
    refine lv_goto (tgt := 18) C.1 C.2.1 dX7_cheer_13 (by decide) ?_
    exact x_ireturn C hr hlk hw hS hr10 rfl ⟨(by unfold r_best; (repeat' split) <;> first | rfl | omega), (hR.fr hA (fun m hm => h10f m (fun z => hm (z.elim Or.inl (fun y => Or.inr (Or.inl y)))))), (fun m hm => h10f m (by unfold scr; omega))⟩ dX7_cheer_18
  · have hw : Wo g M H := em1 ▸ hw
    rw [er1]
    refine x_if_eq (tgt := 16) C ⟨by decide, by decide⟩ dX7_cheer_4 (by decide) (fun _ => ?_) (fun h => absurd h (by decide))
    refine lv_bipush (v := II (-2)) C.1 C.2.1 dX7_cheer_16 (by decide) ?_
    exact x_ireturn C hr hlk hw hS ⟨by decide, by decide⟩ rfl ⟨(by unfold r_best; (repeat' split) <;> first | rfl | omega), hR, (fun _ _ => rfl)⟩ dX7_cheer_18

set_option maxHeartbeats 4000000 in
set_option maxRecDepth 100000 in
theorem c_X7_move (l : Launch) (g : Gm) (M : Nat → Int) (hF : LvF g) (n : Nat) (v : Nat → Nat → Int) (nt : Int) (pd : Int) (t : Nat) (X : Txt) (I : Option Bor) (Sh : Sht) (hR : RepC M (n, v, nt, pd, t) X I Sh) (hA : InvA (n, v, nt, pd, t) X I Sh) (w : Int) (gz_w : rg w) : CI l ({ cls := "RatedBySighs", name := "move", desc := "(I)I" } : Jvm.MethodName) cX7_move 2 .int (rmm 7 171) g M [.ref (gA g 0), .int (II w)] (fun r M' => r = r_best (mvA v n nt (X.2.1 t) false n) w ∧ (RepC M' (n, v, nt, pd, t) X I Sh) ∧ (∀ m, 70000 ≤ m → M' m = M m)) := by
  refine c_start (by decide) (Nat.le_of_ble_eq_true rfl) (fun p e s m below meth c ls C hr hlk hml hw hS hl => ?_)
  have hl : lv_has ls 2 [(0, .ref (gA g 0)), (1, .int (II w))] := hl
  have g_M := hw.rg
  have hN : gN g = 84 := hF.1
  have hB : BV M n v nt t (X.2.1 t) := hR.bv hA
  have hn2 : n ≤ 8 := hB.1.2
  have hnt := hB.2.2.2.1.2
  have hpd : 0 ≤ pd ∧ pd ≤ 999999999 := hA.1.2.2.2.2.1
  refine lv_iload_n C.1 C.2.1 dX7_move_0 rfl (lv_at hl 1 rfl) ?_
  refine x_ci (x_runS (n := 1) C hw hS hml hl.1 (c_X7_isZeroOrOne l g M w gz_w) mw_631 mw_632 mw_117 mw_633 rfl rfl (by decide +kernel) ⟨Nat.le_of_ble_eq_true rfl, Nat.le_of_ble_eq_true rfl⟩ rfl rfl (Nat.le_of_ble_eq_true rfl) dX7_move_1 ⟨Nat.zero_le _, Nat.zero_le _⟩) hS (fun r1 M1 H locs hr1 hp hw hS => ?_)
  rcases hp with ⟨em1, (⟨er1, h1b⟩ | ⟨er1, h1b⟩)⟩
  · have hw : Wo g M H := em1 ▸ hw
    rw [er1]
    refine x_if_eq (tgt := 16) C ⟨by decide, by decide⟩ dX7_move_4 (by decide) (fun h => absurd h (by decide)) (fun _ => ?_)
    refine lv_aload_n C.1 C.2.1 dX7_move_7 rfl (lv_at hl 0 rfl) ?_
    refine lv_iload_n C.1 C.2.1 dX7_move_8 rfl (lv_at hl 1 rfl) ?_
    refine lv_iconst (v := II 0) C.1 C.2.1 dX7_move_9 rfl ?_
    refine x_ci (x_runV (n := 2) C hw hS hml hl.1 0 7 (by omega) rfl (by decide) rfl (c_X7_bestMove l g M hF n v nt t (X.2.1 t) hB w gz_w false 0 (by decide)) mw_647 mw_649 mw_32 mw_117 mw_650 rfl rfl (by decide +kernel) ⟨Nat.le_of_ble_eq_true rfl, Nat.le_of_ble_eq_true rfl⟩ rfl rfl (Nat.le_of_ble_eq_true rfl) dX7_move_10 ⟨Nat.zero_le _, Nat.zero_le _⟩) hS (fun r10 M10 H locs hr10 hp hw hS => ?_)
    obtain ⟨er10, h10f⟩ := hp
    have g_M10 := hw.rg
    rw [er10] at hr10 ⊢
    refine lv_goto (tgt := 18) C.1 C.2.1 dX7_move_13 (by decide) ?_
    exact x_ireturn C hr hlk hw hS hr10 rfl ⟨(by unfold r_best; (repeat' split) <;> first | rfl | omega), (hR.fr hA (fun m hm => h10f m (fun z => hm (z.elim Or.inl (fun y => Or.inr (Or.inl y)))))), (fun m hm => h10f m (by unfold scr; omega))⟩ dX7_move_18
  · have hw : Wo g M H := em1 ▸ hw
    rw [er1]
    refine x_if_eq (tgt := 16) C ⟨by decide, by decide⟩ dX7_move_4 (by decide) (fun _ => ?_) (fun h => absurd h (by decide))
    refine lv_bipush (v := II (-2)) C.1 C.2.1 dX7_move_16 (by decide) ?_
    exact x_ireturn C hr hlk hw hS ⟨by decide, by decide⟩ rfl ⟨(by unfold r_best; (repeat' split) <;> first | rfl | omega), hR, (fun _ _ => rfl)⟩ dX7_move_18

set_option maxHeartbeats 4000000 in
set_option maxRecDepth 100000 in
theorem c_X7_count (l : Launch) (g : Gm) (M : Nat → Int) (hF : LvF g) (n : Nat) (v : Nat → Nat → Int) (nt : Int) (pd : Int) (t : Nat) (X : Txt) (I : Option Bor) (Sh : Sht) (hR : RepC M (n, v, nt, pd, t) X I Sh) (hA : InvA (n, v, nt, pd, t) X I Sh) (w : Int) (gz_w : rg w) : CI l ({ cls := "RatedBySighs", name := "count", desc := "(I)I" } : Jvm.MethodName) cX7_count 2 .int (rmm 1 22) g M [.ref (gA g 0), .int (II w)] (fun r M' => r = r_count (n, v, nt, pd, t) X w ∧ (RepC M' (n, v, nt, pd, t) X I Sh) ∧ (∀ m, 70000 ≤ m → M' m = M m)) := by
  refine c_start (by decide) (Nat.le_of_ble_eq_true rfl) (fun p e s m below meth c ls C hr hlk hml hw hS hl => ?_)
  have hl : lv_has ls 2 [(0, .ref (gA g 0)), (1, .int (II w))] := hl
  have g_M := hw.rg
  have hN : gN g = 84 := hF.1
  have hB : BV M n v nt t (X.2.1 t) := hR.bv hA
  have hn2 : n ≤ 8 := hB.1.2
  have hnt := hB.2.2.2.1.2
  have hpd : 0 ≤ pd ∧ pd ≤ 999999999 := hA.1.2.2.2.2.1
  refine lv_iload_n C.1 C.2.1 dX7_count_0 rfl (lv_at hl 1 rfl) ?_
  by_cases c1_0 : w = 0
  · refine x_tabIn (tgt := 44) C gz_w dX7_count_1 (by omega) (by omega) (by rw [c1_0]; rfl) (by decide) ?_
    refine lv_aload_n C.1 C.2.1 dX7_count_44 rfl (lv_at hl 0 rfl) ?_
    refine g7 C hw 0 (by omega) rfl 1 (by decide) mw_481 (svr (hF.2 _)) dX7_count_45 ?_
    refine gn1 C hw 2 (by omega) rfl 1 (by decide) mn_191 (svi (x := (n : Int)) hB.1.1) dX7_count_48 ?_
    exact x_ireturn C hr hlk hw hS ⟨by have := g_M 2001; have := hB.1.1; omega, by have := g_M 2001; have := hB.1.1; omega⟩ rfl ⟨(by unfold r_count; (repeat' split) <;> first | rfl | omega), hR, (fun _ _ => rfl)⟩ dX7_count_51
  by_cases c1_1 : w = 1
  · refine x_tabIn (tgt := 52) C gz_w dX7_count_1 (by omega) (by omega) (by rw [c1_1]; rfl) (by decide) ?_
    refine lv_aload_n C.1 C.2.1 dX7_count_52 rfl (lv_at hl 0 rfl) ?_
    refine g7 C hw 0 (by omega) rfl 1 (by decide) mw_481 (svr (hF.2 _)) dX7_count_53 ?_
    refine x_ci (x_runVN (n := 0) C hw hS hml hl.1 2 1 (by omega) rfl (by decide) rfl (c_X1_howManyFools l g M hF n hB.1) mn_777 mw_779 mw_50 mw_119 mw_780 rfl rfl (by decide +kernel) ⟨Nat.le_of_ble_eq_true rfl, Nat.le_of_ble_eq_true rfl⟩ rfl rfl (Nat.le_of_ble_eq_true rfl) dX7_count_56 ⟨Nat.zero_le _, Nat.zero_le _⟩) hS (fun r56 M56 H locs hr56 hp hw hS => ?_)
    obtain ⟨em56, er56⟩ := hp
    have hw : Wo g M H := em56 ▸ hw
    rw [er56] at hr56 ⊢
    exact x_ireturn C hr hlk hw hS hr56 rfl ⟨(by rw [r_count, if_neg (by omega), if_pos (by omega)]; exact cnt_c (fun q hq => by rw [hB.2.1 q hq 0 (by decide)])), hR, (fun _ _ => rfl)⟩ dX7_count_59
  by_cases c1_2 : w = 2
  · refine x_tabIn (tgt := 60) C gz_w dX7_count_1 (by omega) (by omega) (by rw [c1_2]; rfl) (by decide) ?_
    refine lv_aload_n C.1 C.2.1 dX7_count_60 rfl (lv_at hl 0 rfl) ?_
    refine g7 C hw 0 (by omega) rfl 1 (by decide) mw_481 (svr (hF.2 _)) dX7_count_61 ?_
    refine gn1 C hw 2 (by omega) rfl 2 (by decide) mn_193 (svi (x := nt) hB.2.2.2.1.1) dX7_count_64 ?_
    exact x_ireturn C hr hlk hw hS ⟨by have := g_M 2002; have := hB.2.2.2.1.1; omega, by have := g_M 2002; have := hB.2.2.2.1.1; omega⟩ rfl ⟨(by unfold r_count; (repeat' split) <;> first | rfl | omega), hR, (fun _ _ => rfl)⟩ dX7_count_67
  by_cases c1_3 : w = 3
  · refine x_tabIn (tgt := 68) C gz_w dX7_count_1 (by omega) (by omega) (by rw [c1_3]; rfl) (by decide) ?_
    refine lv_aload_n C.1 C.2.1 dX7_count_68 rfl (lv_at hl 0 rfl) ?_
    refine g7 C hw 0 (by omega) rfl 1 (by decide) mw_481 (svr (hF.2 _)) dX7_count_69 ?_
    refine gn1 C hw 2 (by omega) rfl 3 (by decide) mn_196 (svi (x := pd) hR.1.2.2.1) dX7_count_72 ?_
    exact x_ireturn C hr hlk hw hS ⟨by have := g_M 2003; have := hR.1.2.2.1; omega, by have := g_M 2003; have := hR.1.2.2.1; omega⟩ rfl ⟨(by unfold r_count; (repeat' split) <;> first | rfl | omega), hR, (fun _ _ => rfl)⟩ dX7_count_75
  by_cases c1_4 : w = 4
  · refine x_tabIn (tgt := 76) C gz_w dX7_count_1 (by omega) (by omega) (by rw [c1_4]; rfl) (by decide) ?_
    refine lv_aload_n C.1 C.2.1 dX7_count_76 rfl (lv_at hl 0 rfl) ?_
    refine g7 C hw 0 (by omega) rfl 2 (by decide) mw_482 (svr (hF.2 _)) dX7_count_77 ?_
    refine gn6 C hw 12 (by omega) rfl 4 (by decide) mn_224 (svi (x := (X.1 : Int)) hR.2.1.1) dX7_count_80 ?_
    exact x_ireturn C hr hlk hw hS ⟨by have := g_M 12004; have := hR.2.1.1; omega, by have := g_M 12004; have := hR.2.1.1; omega⟩ rfl ⟨(by unfold r_count; (repeat' split) <;> first | rfl | omega), hR, (fun _ _ => rfl)⟩ dX7_count_83
  by_cases c1_5 : w = 5
  · refine x_tabIn (tgt := 84) C gz_w dX7_count_1 (by omega) (by omega) (by rw [c1_5]; rfl) (by decide) ?_
    refine lv_aload_n C.1 C.2.1 dX7_count_84 rfl (lv_at hl 0 rfl) ?_
    refine g7 C hw 0 (by omega) rfl 3 (by decide) mw_483 (svr (hF.2 _)) dX7_count_85 ?_
    refine gn4 C hw 45 (by omega) rfl 1 (by decide) mn_276 (svi (x := (X.2.2.1 : Int)) hR.2.1.2.2.1) dX7_count_88 ?_
    exact x_ireturn C hr hlk hw hS ⟨by have := g_M 45001; have := hR.2.1.2.2.1; omega, by have := g_M 45001; have := hR.2.1.2.2.1; omega⟩ rfl ⟨(by unfold r_count; (repeat' split) <;> first | rfl | omega), hR, (fun _ _ => rfl)⟩ dX7_count_91
  by_cases c1_6 : w = 6
  · refine x_tabIn (tgt := 92) C gz_w dX7_count_1 (by omega) (by omega) (by rw [c1_6]; rfl) (by decide) ?_
    refine lv_aload_n C.1 C.2.1 dX7_count_92 rfl (lv_at hl 0 rfl) ?_
    refine g7 C hw 0 (by omega) rfl 1 (by decide) mw_481 (svr (hF.2 _)) dX7_count_93 ?_
    refine gn1 C hw 2 (by omega) rfl 4 (by decide) mn_199 (svi (x := (t : Int)) hB.2.2.2.2.1.1) dX7_count_96 ?_
    exact x_ireturn C hr hlk hw hS ⟨by have := g_M 2004; have := hB.2.2.2.2.1.1; omega, by have := g_M 2004; have := hB.2.2.2.2.1.1; omega⟩ rfl ⟨(by unfold r_count; (repeat' split) <;> first | rfl | omega), hR, (fun _ _ => rfl)⟩ dX7_count_99
  refine x_tabOut (tgt := 100) C gz_w dX7_count_1 (by omega) (by decide) ?_
  refine lv_bipush (v := II (-2)) C.1 C.2.1 dX7_count_100 (by decide) ?_
  exact x_ireturn C hr hlk hw hS ⟨by decide, by decide⟩ rfl ⟨(by unfold r_count; (repeat' split) <;> first | rfl | omega), hR, (fun _ _ => rfl)⟩ dX7_count_102

set_option maxHeartbeats 4000000 in
set_option maxRecDepth 100000 in
theorem c_X7_taken (l : Launch) (g : Gm) (M : Nat → Int) (hF : LvF g) (n : Nat) (v : Nat → Nat → Int) (nt : Int) (pd : Int) (t : Nat) (X : Txt) (I : Option Bor) (Sh : Sht) (hR : RepC M (n, v, nt, pd, t) X I Sh) (hA : InvA (n, v, nt, pd, t) X I Sh) (q : Int) (gz_q : rg q) (k : Int) (gz_k : rg k) : CI l ({ cls := "RatedBySighs", name := "taken", desc := "(II)I" } : Jvm.MethodName) cX7_taken 3 .int (rmm 1 23) g M [.ref (gA g 0), .int (II q), .int (II k)] (fun r M' => r = r_taken v n q k ∧ (RepC M' (n, v, nt, pd, t) X I Sh) ∧ (∀ m, 70000 ≤ m → M' m = M m)) := by
  refine c_start (by decide) (Nat.le_of_ble_eq_true rfl) (fun p e s m below meth c ls C hr hlk hml hw hS hl => ?_)
  have hl : lv_has ls 3 [(0, .ref (gA g 0)), (1, .int (II q)), (2, .int (II k))] := hl
  have g_M := hw.rg
  have hN : gN g = 84 := hF.1
  have hB : BV M n v nt t (X.2.1 t) := hR.bv hA
  have hn2 : n ≤ 8 := hB.1.2
  have hnt := hB.2.2.2.1.2
  have hpd : 0 ≤ pd ∧ pd ≤ 999999999 := hA.1.2.2.2.2.1
  refine lv_iconst (v := II 5) C.1 C.2.1 dX7_taken_0 rfl ?_
  refine lv_iload_n C.1 C.2.1 dX7_taken_1 rfl (lv_at hl 2 rfl) ?_
  refine x_ci (x_runS (n := 2) C hw hS hml hl.1 (c_X7_mayBe l g M 5 (by first | assumption | omega | exact ⟨by omega, by omega⟩ | decide) k gz_k) mw_513 mw_514 mw_117 mw_515 rfl rfl (by decide +kernel) ⟨Nat.le_of_ble_eq_true rfl, Nat.le_of_ble_eq_true rfl⟩ rfl rfl (Nat.le_of_ble_eq_true rfl) dX7_taken_2 ⟨Nat.zero_le _, Nat.zero_le _⟩) hS (fun r2 M2 H locs hr2 hp hw hS => ?_)
  rcases hp with ⟨em2, (⟨er2, h2b⟩ | ⟨er2, h2b⟩)⟩
  · have hw : Wo g M H := em2 ▸ hw
    rw [er2]
    refine x_if_ne (tgt := 11) C ⟨by decide, by decide⟩ dX7_taken_5 (by decide) (fun _ => ?_) (fun h => absurd h (by decide))
    have hk5 : 0 ≤ k ∧ k ≤ 5 := h2b
    refine lv_aload_n C.1 C.2.1 dX7_taken_11 rfl (lv_at hl 0 rfl) ?_
    refine g7 C hw 0 (by omega) rfl 1 (by decide) mw_481 (svr (hF.2 _)) dX7_taken_12 ?_
    refine lv_iload_n C.1 C.2.1 dX7_taken_15 rfl (lv_at hl 1 rfl) ?_
    refine x_ci (x_runVN (n := 1) C hw hS hml hl.1 2 1 (by omega) rfl (by decide) rfl (c_X1_has l g M hF q gz_q) mn_520 mw_522 mw_16 mw_119 mw_523 rfl rfl (by decide +kernel) ⟨Nat.le_of_ble_eq_true rfl, Nat.le_of_ble_eq_true rfl⟩ rfl rfl (Nat.le_of_ble_eq_true rfl) dX7_taken_16 ⟨Nat.zero_le _, Nat.zero_le _⟩) hS (fun r16 M16 H locs hr16 hp hw hS => ?_)
    rcases hp with ⟨em16, (⟨er16, h16b⟩ | ⟨er16, h16b⟩)⟩
    · have hw : Wo g M H := em16 ▸ hw
      rw [er16]
      refine x_if_ne (tgt := 25) C ⟨by decide, by decide⟩ dX7_taken_19 (by decide) (fun _ => ?_) (fun h => absurd h (by decide))
      have hqn : 0 ≤ q ∧ q < n := by rw [← hB.1.1]; exact h16b
      obtain ⟨i, rfl⟩ : ∃ i : Nat, q = (i : Int) := ⟨q.toNat, by omega⟩
      have hq0 := hB.2.2.1 i (by omega)
      refine lv_aload_n C.1 C.2.1 dX7_taken_25 rfl (lv_at hl 0 rfl) ?_
      refine g7 C hw 0 (by omega) rfl 1 (by decide) mw_481 (svr (hF.2 _)) dX7_taken_26 ?_
      refine gn1 C hw 2 (by omega) rfl 0 (by decide) mn_187 (svr (hF.2 _)) dX7_taken_29 ?_
      refine lv_iload_n C.1 C.2.1 dX7_taken_32 rfl (lv_at hl 1 rfl) ?_
      refine x_aaload (L := 8) C hw 3 (by omega) 11 rfl (by decide) rfl (by omega) (by omega) (by decide) (rP hF i (by omega)) dX7_taken_33 ?_
      refine gn3 C hw (4 + i) (by omega) (kd_p (by omega)) 0 (by decide) mn_163 (svi (x := v i 0) (hB.2.1 i (by omega) 0 (by decide))) dX7_taken_34 ?_
      refine lv_iload_n C.1 C.2.1 dX7_taken_37 rfl (lv_at hl 2 rfl) ?_
      refine x_ci (x_runS (n := 2) C hw hS hml hl.1 (c_X7_isUnder l g M (v i 0) (by first | assumption | omega | exact ⟨by omega, by omega⟩ | decide) k (by first | assumption | omega | exact ⟨by omega, by omega⟩ | decide)) mw_810 mw_811 mw_117 mw_812 rfl rfl (by decide +kernel) ⟨Nat.le_of_ble_eq_true rfl, Nat.le_of_ble_eq_true rfl⟩ rfl rfl (Nat.le_of_ble_eq_true rfl) dX7_taken_38 ⟨Nat.zero_le _, Nat.zero_le _⟩) hS (fun r38 M38 H locs hr38 hp hw hS => ?_)
      rcases hp with ⟨em38, (⟨er38, h38b⟩ | ⟨er38, h38b⟩)⟩
      · have hw : Wo g M H := em38 ▸ hw
        rw [er38]
        refine x_if_eq (tgt := 59) C ⟨by decide, by decide⟩ dX7_taken_41 (by decide) (fun h => absurd h (by decide)) (fun _ => ?_)
        refine lv_aload_n C.1 C.2.1 dX7_taken_44 rfl (lv_at hl 0 rfl) ?_
        refine g7 C hw 0 (by omega) rfl 1 (by decide) mw_481 (svr (hF.2 _)) dX7_taken_45 ?_
        refine gn1 C hw 2 (by omega) rfl 0 (by decide) mn_187 (svr (hF.2 _)) dX7_taken_48 ?_
        refine lv_iload_n C.1 C.2.1 dX7_taken_51 rfl (lv_at hl 1 rfl) ?_
        refine x_aaload (L := 8) C hw 3 (by omega) 11 rfl (by decide) rfl (by omega) (by omega) (by decide) (rP hF i (by omega)) dX7_taken_52 ?_
        refine gn3 C hw (4 + i) (by omega) (kd_p (by omega)) 1 (by decide) mn_166 (svi (x := v i 1) (hB.2.1 i (by omega) 1 (by decide))) dX7_taken_53 ?_
        refine lv_goto (tgt := 61) C.1 C.2.1 dX7_taken_56 (by decide) ?_
        exact x_ireturn C hr hlk hw hS ⟨by have := g_M (1000 * (4 + i) + 1); have := (hB.2.1 i (by omega) 1 (by decide)); omega, by have := g_M (1000 * (4 + i) + 1); have := (hB.2.1 i (by omega) 1 (by decide)); omega⟩ rfl ⟨(by rw [r_taken, if_neg (by omega), if_neg (by omega)]; first | exact (if_pos h38b).symm | exact (if_neg h38b).symm), hR, (fun _ _ => rfl)⟩ dX7_taken_61
      · have hw : Wo g M H := em38 ▸ hw
        rw [er38]
        refine x_if_eq (tgt := 59) C ⟨by decide, by decide⟩ dX7_taken_41 (by decide) (fun _ => ?_) (fun h => absurd h (by decide))
        refine lv_bipush (v := II (-13)) C.1 C.2.1 dX7_taken_59 (by decide) ?_
        exact x_ireturn C hr hlk hw hS ⟨by decide, by decide⟩ rfl ⟨(by rw [r_taken, if_neg (by omega), if_neg (by omega)]; first | exact (if_pos h38b).symm | exact (if_neg h38b).symm), hR, (fun _ _ => rfl)⟩ dX7_taken_61
    · have hw : Wo g M H := em16 ▸ hw
      rw [er16]
      refine x_if_ne (tgt := 25) C ⟨by decide, by decide⟩ dX7_taken_19 (by decide) (fun h => absurd h (by decide)) (fun _ => ?_)
      refine lv_bipush (v := II (-11)) C.1 C.2.1 dX7_taken_22 (by decide) ?_
      exact x_ireturn C hr hlk hw hS ⟨by decide, by decide⟩ rfl ⟨(by rw [r_taken, if_neg (fun z => z h2b), if_pos (by rw [← hB.1.1]; exact h16b)]), hR, (fun _ _ => rfl)⟩ dX7_taken_24
  · have hw : Wo g M H := em2 ▸ hw
    rw [er2]
    refine x_if_ne (tgt := 11) C ⟨by decide, by decide⟩ dX7_taken_5 (by decide) (fun h => absurd h (by decide)) (fun _ => ?_)
    refine lv_bipush (v := II (-2)) C.1 C.2.1 dX7_taken_8 (by decide) ?_
    exact x_ireturn C hr hlk hw hS ⟨by decide, by decide⟩ rfl ⟨(by rw [r_taken]; exact (if_pos h2b).symm), hR, (fun _ _ => rfl)⟩ dX7_taken_10
