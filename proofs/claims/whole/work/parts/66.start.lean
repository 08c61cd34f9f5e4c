theorem arr_of_kind {s : State} {cA comp : ClassId} {kA : Class} {ty : FieldType} (h1 : s.vm.classes[cA]? = some kA) (h2 : kA.kind = .array comp ty) : ArrOfT s cA ty := fun n z => ⟨fun k h => (by cases h), kA, h1, comp, h2⟩
theorem start_AO {C : String} {s : State} (h : va_AO C s) : ∃ cA, ArrOfT s cA (.object C) ∧ va_RA s cA (.object C) := by
  obtain ⟨comp, c, k, h1, -, h3, h4, h5⟩ := Cond.arrayOver_spec h
  exact ⟨c, arr_of_kind h3 h4, k, comp, h3, h4, h1, h5⟩
theorem start_AA {t : FieldType} {s : State} (h : va_Nw (Cond.arrayOver (.array t)) s) : ∃ cA, ArrOfT s cA (.array t) ∧ va_RA s cA (.array t) := by
  unfold va_Nw Cond.before Cond.holds at h
  simp only [Cond.value, beq_iff_eq, Option.bind_eq_some_iff, Option.map_eq_some_iff] at h
  obtain ⟨a, h1, c, h2, k, h3, h4⟩ := h
  cases hk : k.kind with
  | array comp ty =>
    rw [hk] at h4
    simp only [Bool.and_eq_true, decide_eq_true_eq] at h4
    obtain ⟨rfl, h5⟩ := h4
    exact ⟨c, arr_of_kind h3 hk, h5⟩
  | _ => rw [hk] at h4; simp at h4
theorem start_K {s : State} {args : Array Value} (hts : ∀ w ∈ tT, w.before args s = true) (hAO : AOs s) : ∃ (D : va_G) (ca : Nat → ClassId), va_K D vwCl (tyl ca) s := by
  obtain ⟨c0, i0, h0⟩ := u_known (T := TX0) (N := 2) hts inT0 (hts _ mw_309)
  obtain ⟨c1, i1, h1⟩ := u_known (T := TX1) (N := 5) hts inT1 (hts _ mw_148)
  obtain ⟨c2, i2, h2⟩ := u_known (T := TX2) (N := 8) hts inT2 (hts _ mw_142)
  obtain ⟨c3, i3, h3⟩ := u_known (T := TX3) (N := 5) hts inT3 (hts _ mw_155)
  obtain ⟨c4, i4, h4⟩ := u_known (T := TX4) (N := 9) hts inT4 (hts _ mw_269)
  obtain ⟨c5, i5, h5⟩ := u_known (T := TX5) (N := 3) hts inT5 (hts _ mw_323)
  obtain ⟨c6, i6, h6⟩ := u_known (T := TX6) (N := 5) hts inT6 (hts _ mw_212)
  obtain ⟨c7, i7, h7⟩ := u_known (T := TX7) (N := 9) hts inT7 (hts _ mw_134)
  obtain ⟨c8, i8, h8⟩ := u_known (T := TX8) (N := 42) hts inT8 (hts _ mw_816)
  obtain ⟨a9, b9, d9⟩ : ∃ cA, ArrOfT s cA .int ∧ va_RA s cA .int := by
    obtain ⟨c, k, comp, e1, e2, e3⟩ := Cond.arrayClass_spec (hts _ mw_236)
    exact ⟨c, arr_of_kind e2 e3, e1⟩
  obtain ⟨a10, b10, d10⟩ : ∃ cA, ArrOfT s cA .boolean ∧ va_RA s cA .boolean := by
    obtain ⟨c, k, comp, e1, e2, e3⟩ := Cond.arrayClass_spec (hts _ mw_951)
    exact ⟨c, arr_of_kind e2 e3, e1⟩
  obtain ⟨a11, b11, d11⟩ := start_AO hAO.1
  obtain ⟨a12, b12, d12⟩ := start_AO hAO.2.1
  obtain ⟨a13, b13, d13⟩ := start_AA hAO.2.2
  refine ⟨(fun c => [c0, c1, c2, c3, c4, c5, c6, c7, c8].getD c c0, fun c => [i0, i1, i2, i3, i4, i5, i6, i7, i8].getD c i0), fun c => [a9, a10, a11, a12, a13].getD (c - 9) a9, fun c q hq => ?_, fun k q hq => ?_⟩
  · have hc : c < 9 := (List.getElem?_eq_some_iff.mp hq).1
    rcases (show c = 0 ∨ c = 1 ∨ c = 2 ∨ c = 3 ∨ c = 4 ∨ c = 5 ∨ c = 6 ∨ c = 7 ∨ c = 8 by omega) with rfl | rfl | rfl | rfl | rfl | rfl | rfl | rfl | rfl
    · cases hq; exact h0
    · cases hq; exact h1
    · cases hq; exact h2
    · cases hq; exact h3
    · cases hq; exact h4
    · cases hq; exact h5
    · cases hq; exact h6
    · cases hq; exact h7
    · cases hq; exact h8
  · have hk : k < 5 := (List.getElem?_eq_some_iff.mp hq).1
    rcases (show k = 0 ∨ k = 1 ∨ k = 2 ∨ k = 3 ∨ k = 4 by omega) with rfl | rfl | rfl | rfl | rfl
    · cases hq; exact ⟨b9, d9⟩
    · cases hq; exact ⟨b10, d10⟩
    · cases hq; exact ⟨b11, d11⟩
    · cases hq; exact ⟨b12, d12⟩
    · cases hq; exact ⟨b13, d13⟩
