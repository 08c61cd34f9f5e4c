/-! far memory does not matter -/
theorem RepC.far {M M' : Nat → Int} {b : Bor} {X : Txt} {I : Option Bor} {Sh : Sht} (h : RepC M b X I Sh) (hA : InvA b X I Sh) (hf : ∀ m, m < 70000 → M' m = M m) : RepC M' b X I Sh :=
  ⟨h.1.fr hA.1.1 (fun m hm => hf m (by omega)), h.2.1.fr ⟨hA.2.1.2, hA.2.2.1.1⟩ (fun m hm => hf m (by omega)), h.2.2.1.fr hA.im (fun m hm => hf m (by omega)), h.2.2.2.fr hA.sz (fun m hm => hf m (by omega))⟩
theorem RepM.far {M M' : Nat → Int} {b : Bor} {X : Txt} {I : Option Bor} {Sh : Sht} (h : RepM M b X I Sh) (hA : InvA b X I Sh) (hf : ∀ m, 70000 ≤ m → M' m = M m) : RepM M' b X I Sh := h.fr hA (fun m _ hm => hf m hm)
/-! each step keeps the state in its bounds -/
section INV
variable {n : Nat} {v : Nat → Nat → Int} {nt pd : Int} {t : Nat} {X : Txt} {I : Option Bor} {Sh : Sht}
theorem InvA.night (h : InvA (n, v, nt, pd, t) X I Sh) : InvA (n, v, nt_night nt, pd_night v n nt (X.2.1 t) pd, t) X I Sh := by
  obtain ⟨⟨h1, h2, h3, h4, h5, h6⟩, h7, h8, h9, h10⟩ := h
  dsimp only at h1 h2 h3 h4 h5 h6
  refine ⟨⟨h1, h2, h3, ?_, ?_, h6⟩, h7, h8, h9, h10⟩
  · show 0 ≤ nt_night nt ∧ nt_night nt ≤ 999
    unfold nt_night
    split <;> omega
  · show 0 ≤ pd_night v n nt (X.2.1 t) pd ∧ pd_night v n nt (X.2.1 t) pd ≤ 999999999
    unfold pd_night
    split
    · exact h5
    · unfold bnd
      (repeat' split) <;> omega
theorem InvA.set (h : InvA (n, v, nt, pd, t) X I Sh) (w q x : Int) : InvA (n, v_set v n w q x, nt_set n nt w q x, pd, t) X I Sh := by
  obtain ⟨⟨h1, h2, h3, h4, h5, h6⟩, h7, h8, h9, h10⟩ := h
  dsimp only at h1 h2 h3 h4 h5 h6
  have key : okS n w q x = true → (w = 0 → 0 ≤ x ∧ x ≤ 999) ∧ (w ≠ 0 → okF w.toNat x ∧ 1 ≤ w.toNat ∧ (w.toNat = 2 → 0 ≤ x)) := by
    intro hk
    unfold okS at hk
    simp only [decide_eq_true_eq] at hk
    obtain ⟨hw, -, hx⟩ := hk
    rcases (show w = 0 ∨ w = 1 ∨ w = 2 ∨ w = 3 ∨ w = 4 by omega) with rfl | rfl | rfl | rfl | rfl
    · have hx : (0 : Int) ≤ x ∧ x ≤ 999 := hx
      exact ⟨fun _ => hx, fun e => absurd rfl e⟩
    · have hx : (0 : Int) ≤ x ∧ x ≤ 9 := hx
      refine ⟨fun e => absurd e (by decide), fun _ => ?_⟩
      show okF 1 x ∧ 1 ≤ 1 ∧ (1 = 2 → 0 ≤ x)
      unfold okF
      omega
    · have hx : (0 : Int) ≤ x ∧ x ≤ 4 := hx
      refine ⟨fun e => absurd e (by decide), fun _ => ?_⟩
      show okF 2 x ∧ 1 ≤ 2 ∧ (2 = 2 → 0 ≤ x)
      unfold okF
      omega
    · have hx : (-20 : Int) ≤ x ∧ x ≤ 20 := hx
      refine ⟨fun e => absurd e (by decide), fun _ => ?_⟩
      show okF 3 x ∧ 1 ≤ 3 ∧ (3 = 2 → 0 ≤ x)
      unfold okF
      omega
    · have hx : (0 : Int) ≤ x ∧ x ≤ 63 := hx
      refine ⟨fun e => absurd e (by decide), fun _ => ?_⟩
      show okF 4 x ∧ 1 ≤ 4 ∧ (4 = 2 → 0 ≤ x)
      unfold okF
      omega
  have hnt : 0 ≤ nt_set n nt w q x ∧ nt_set n nt w q x ≤ 999 := by
    unfold nt_set
    split
    · rename_i hc
      simp only [Bool.and_eq_true, decide_eq_true_eq] at hc
      exact (key hc.1).1 hc.2
    · exact h4
  by_cases hc : (okS n w q x && decide (w ≠ 0)) = true
  · have e : v_set v n w q x = upv v q.toNat w.toNat x := if_pos hc
    rw [e]
    simp only [Bool.and_eq_true, decide_eq_true_eq] at hc
    obtain ⟨k1, k2, k3⟩ := (key hc.1).2 hc.2
    refine ⟨⟨h1, h2.okF k1, fun p hp => ?_, hnt, h5, h6⟩, h7, h8, fun b2 e2 => ⟨(h9 b2 e2).1, (h9 b2 e2).2.1, fun p hp => ?_⟩, h10⟩
    · show 0 ≤ upv v q.toNat w.toNat x p 2
      unfold upv
      split
      · rename_i hh; exact k3 hh.2.symm
      · exact h3 p hp
    · show b2.2.1 p 0 = upv v q.toNat w.toNat x p 0
      unfold upv
      rw [if_neg (by omega)]
      exact (h9 b2 e2).2.2 p hp
  · have e : v_set v n w q x = v := if_neg hc
    rw [e]
    exact ⟨⟨h1, h2, h3, hnt, h5, h6⟩, h7, h8, h9, h10⟩
theorem InvA.force (h : InvA (n, v, nt, pd, t) X I Sh) (x : Int) : InvA (n, v, nt, pd, t_force X t x) X I Sh := by
  obtain ⟨⟨h1, h2, h3, h4, h5, h6⟩, h7, h8, h9, h10⟩ := h
  refine ⟨⟨h1, h2, h3, h4, h5, ?_⟩, h7, h8, h9, h10⟩
  show t_force X t x < X.1
  unfold t_force
  split
  · omega
  · exact h6
theorem InvA.row {b : Bor} (h : InvA b X I Sh) {i : Nat} {so z : Int} (f : Nat → Int) (hs : (so = -1 ∧ z = 0) ∨ ((0 ≤ so ∧ so ≤ 2) ∧ 0 ≤ z ∧ z ≤ 40)) : InvA b X I (s_row Sh i so z f) := by
  refine ⟨h.1, h.2.1, h.2.2.1, h.2.2.2.1, fun k hk => ?_⟩
  have := h.2.2.2.2 k hk
  unfold s_row up1
  dsimp only
  by_cases e : k = i
  · rw [if_pos e, if_pos e]; exact hs
  · rw [if_neg e, if_neg e]; exact this
theorem InvA.items {b : Bor} (h : InvA b X I Sh) (F : Nat → Nat → Int) : InvA b X I (Sh.1, Sh.2.1, F) := ⟨h.1, h.2.1, h.2.2.1, h.2.2.2.1, h.2.2.2.2⟩
theorem InvA.sheet {b : Bor} (h : InvA b X I Sh) (s0 so z : Int) : InvA b X I (s_sheet Sh s0 so z) := by
  unfold s_sheet
  split
  · rename_i hc
    simp only [Bool.and_eq_true, okSh, decide_eq_true_eq] at hc
    refine h.row _ ?_
    split
    · exact Or.inl ⟨by assumption, rfl⟩
    · exact Or.inr ⟨by omega, by omega⟩
  · exact h
theorem InvA.cell {b : Bor} (h : InvA b X I Sh) (s0 i0 x : Int) : InvA b X I (s_cell Sh s0 i0 x) := by
  unfold s_cell
  split
  · exact h.items _
  · exact h
theorem InvA.copy {b : Bor} (h : InvA b X I Sh) (s0 i0 o0 j0 z : Int) : InvA b X I (s_copy Sh s0 i0 o0 j0 z) := by
  unfold s_copy
  split
  · exact h.items _
  · exact h
theorem InvA.film {b : Bor} (h : InvA b X I Sh) (E : Ev) (s0 ho : Int) : InvA b X I (s_film Sh v n nt E s0 ho) := by
  unfold s_film
  split
  · exact h.row _ (Or.inr ⟨by decide, by decide⟩)
  · exact h
theorem InvA.image {b : Bor} (h : InvA b X I Sh) : InvA b X (some b) Sh := ⟨h.1, h.2.1, h.2.2.1, fun b2 e => (by cases e; exact ⟨h.1, Nat.le_refl _, fun _ _ => rfl⟩), h.2.2.2.2⟩
theorem InvA.back {b : Bor} (h : InvA b X I Sh) : InvA (b_back I b) X I Sh := by
  cases I with
  | none => exact h
  | some b2 => exact ⟨(h.2.2.2.1 b2 rfl).1, h.2.1, h.2.2.1, fun b3 e => (by cases e; exact ⟨(h.2.2.2.1 b2 rfl).1, Nat.le_refl _, fun _ _ => rfl⟩), h.2.2.2.2⟩
theorem InvA.tnR (w : Nat → Int) (sz fr : Int) : ∀ (r i : Nat) (c : Int) (n : Nat) (v : Nat → Nat → Int), InvA (n, v, nt, pd, t) X I Sh → InvA ((tnR w sz fr r i c n v).2.1, (tnR w sz fr r i c n v).2.2, nt, pd, t) X I Sh
  | 0, _, _, _, _, h => h
  | r + 1, i, c, n, v, h => by
    rw [Pilot.CRatedBySighsLaw_law_r8849_cb9955.tnR]
    split
    · exact InvA.tnR w sz fr r (i + 1) _ _ _ (h.ten _ _ _)
    · exact h
theorem InvA.tens (h : InvA (n, v, nt, pd, t) X I Sh) (s0 so fr z : Int) : InvA ((s_tens n v Sh s0 so fr z).2.1, (s_tens n v Sh s0 so fr z).2.2, nt, pd, t) X I Sh := by
  unfold s_tens
  split
  · exact h
  · split
    · exact h
    · split
      · exact h
      · exact InvA.tnR _ _ _ _ _ _ _ _ h
theorem InvA.feed {b : Bor} (h : InvA b X I Sh) (x : Int) : InvA b (x_feed X x) I Sh := by
  unfold x_feed
  split
  · rename_i hc
    refine ⟨h.1, h.2.1, ⟨by have := h.2.2.1.1; show X.2.2.1 + 1 ≤ 160; omega, fun i hi => ?_⟩, h.2.2.2.1, h.2.2.2.2⟩
    show 0 ≤ up1 X.2.2.2 X.2.2.1 x i ∧ up1 X.2.2.2 X.2.2.1 x i ≤ 255
    unfold up1
    split
    · omega
    · have hi2 : i < X.2.2.1 + 1 := hi
      exact h.2.2.1.2 i (by omega)
  · exact h
theorem BorI.mono {b : Bor} {a c : Nat} (h : BorI b a) (hc : a ≤ c) : BorI b c := ⟨h.1, h.2.1, h.2.2.1, h.2.2.2.1, h.2.2.2.2.1, Nat.lt_of_lt_of_le h.2.2.2.2.2 hc⟩
theorem InvA.text {b : Bor} (h : InvA b X I Sh) : InvA b (x_text X) I Sh := by
  unfold x_text
  split
  · exact h
  · rename_i h6
    have hx := h.2.1
    split
    · exact ⟨h.1, h.2.1, ⟨Nat.zero_le _, fun i hi => absurd hi (Nat.not_lt_zero _)⟩, h.2.2.2.1, h.2.2.2.2⟩
    · refine ⟨h.1.mono (Nat.le_succ _), ⟨by show 1 ≤ X.1 + 1; omega, by show X.1 + 1 ≤ 6; omega⟩, ⟨Nat.zero_le _, fun i hi => absurd hi (Nat.not_lt_zero _)⟩, fun b2 e => ⟨(h.2.2.2.1 b2 e).1.mono (Nat.le_succ _), (h.2.2.2.1 b2 e).2⟩, h.2.2.2.2⟩
end INV
