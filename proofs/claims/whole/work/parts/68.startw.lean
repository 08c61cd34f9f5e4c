def GN : Cond := Jvm.Cond.and given_1 narrow_1
def tmS (i : Nat) : Term := Term.string (sown.getD i "") (sidx.getD i 0)
set_option maxRecDepth 1000000
theorem en_ex : ∀ i, i < 13 → Cond.exactly (tmS i) "java/lang/String" ∈ flatC GN := by decide +kernel
theorem en_co : ∀ i, i < 13 → Cond.eq (.field (tmS i) "java/lang/String" "coder" "B") (.int 0) ∈ flatC GN := by decide +kernel
theorem en_ar : ∀ i, i < 13 → Cond.arrayOf (.field (tmS i) "java/lang/String" "value" "[B") .byte ∈ flatC GN := by decide +kernel
theorem en_le : ∀ i, i < 13 → Cond.eq (.length (.field (tmS i) "java/lang/String" "value" "[B")) (.int (Int32.ofNat (slen.getD i 0))) ∈ flatC GN := by decide +kernel
theorem en_el : ∀ i, i < 13 → ∀ j, j < slen.getD i 0 → Cond.eq (.elem (.field (tmS i) "java/lang/String" "value" "[B") (.int (Int32.ofNat j))) (.int ((sbyt.getD i []).getD j 0)) ∈ flatC GN := by decide +kernel
theorem en_ne_1 : ∀ j, j < 1 → Cond.not (Cond.eq (tmS 1) (tmS j)) ∈ flatC GN ∨ Cond.not (Cond.eq (tmS j) (tmS 1)) ∈ flatC GN := by decide +kernel
theorem en_ne_2 : ∀ j, j < 2 → Cond.not (Cond.eq (tmS 2) (tmS j)) ∈ flatC GN ∨ Cond.not (Cond.eq (tmS j) (tmS 2)) ∈ flatC GN := by decide +kernel
theorem en_ne_3 : ∀ j, j < 3 → Cond.not (Cond.eq (tmS 3) (tmS j)) ∈ flatC GN ∨ Cond.not (Cond.eq (tmS j) (tmS 3)) ∈ flatC GN := by decide +kernel
theorem en_ne_4 : ∀ j, j < 4 → Cond.not (Cond.eq (tmS 4) (tmS j)) ∈ flatC GN ∨ Cond.not (Cond.eq (tmS j) (tmS 4)) ∈ flatC GN := by decide +kernel
theorem en_ne_5 : ∀ j, j < 5 → Cond.not (Cond.eq (tmS 5) (tmS j)) ∈ flatC GN ∨ Cond.not (Cond.eq (tmS j) (tmS 5)) ∈ flatC GN := by decide +kernel
theorem en_ne_6 : ∀ j, j < 6 → Cond.not (Cond.eq (tmS 6) (tmS j)) ∈ flatC GN ∨ Cond.not (Cond.eq (tmS j) (tmS 6)) ∈ flatC GN := by decide +kernel
theorem en_ne_7 : ∀ j, j < 7 → Cond.not (Cond.eq (tmS 7) (tmS j)) ∈ flatC GN ∨ Cond.not (Cond.eq (tmS j) (tmS 7)) ∈ flatC GN := by decide +kernel
theorem en_ne_8 : ∀ j, j < 8 → Cond.not (Cond.eq (tmS 8) (tmS j)) ∈ flatC GN ∨ Cond.not (Cond.eq (tmS j) (tmS 8)) ∈ flatC GN := by decide +kernel
theorem en_ne_9 : ∀ j, j < 9 → Cond.not (Cond.eq (tmS 9) (tmS j)) ∈ flatC GN ∨ Cond.not (Cond.eq (tmS j) (tmS 9)) ∈ flatC GN := by decide +kernel
theorem en_ne_10 : ∀ j, j < 10 → Cond.not (Cond.eq (tmS 10) (tmS j)) ∈ flatC GN ∨ Cond.not (Cond.eq (tmS j) (tmS 10)) ∈ flatC GN := by decide +kernel
theorem en_ne_11 : ∀ j, j < 11 → Cond.not (Cond.eq (tmS 11) (tmS j)) ∈ flatC GN ∨ Cond.not (Cond.eq (tmS j) (tmS 11)) ∈ flatC GN := by decide +kernel
theorem en_ne_12 : ∀ j, j < 12 → Cond.not (Cond.eq (tmS 12) (tmS j)) ∈ flatC GN ∨ Cond.not (Cond.eq (tmS j) (tmS 12)) ∈ flatC GN := by decide +kernel
theorem en_lt : ∀ i, i < 13 → ∀ j, j < i → Cond.not (Cond.eq (tmS i) (tmS j)) ∈ flatC GN ∨ Cond.not (Cond.eq (tmS j) (tmS i)) ∈ flatC GN := fun i hi j hj => by
  rcases (show i = 0 ∨ i = 1 ∨ i = 2 ∨ i = 3 ∨ i = 4 ∨ i = 5 ∨ i = 6 ∨ i = 7 ∨ i = 8 ∨ i = 9 ∨ i = 10 ∨ i = 11 ∨ i = 12 by omega) with rfl | rfl | rfl | rfl | rfl | rfl | rfl | rfl | rfl | rfl | rfl | rfl | rfl
  · omega
  · exact en_ne_1 j hj
  · exact en_ne_2 j hj
  · exact en_ne_3 j hj
  · exact en_ne_4 j hj
  · exact en_ne_5 j hj
  · exact en_ne_6 j hj
  · exact en_ne_7 j hj
  · exact en_ne_8 j hj
  · exact en_ne_9 j hj
  · exact en_ne_10 j hj
  · exact en_ne_11 j hj
  · exact en_ne_12 j hj
theorem en_ne : ∀ i, i < 13 → ∀ j, j < 13 → i ≠ j → Cond.not (Cond.eq (tmS i) (tmS j)) ∈ flatC GN ∨ Cond.not (Cond.eq (tmS j) (tmS i)) ∈ flatC GN := fun i hi j hj hij => by
  rcases Nat.lt_or_ge j i with h | h
  · exact en_lt i hi j h
  · exact (en_lt j hj i (by omega)).symm
def tmZ (i : Nat) : Term := Term.static "RatedBySighs" (snT.getD i "") "[I"
theorem en_za : ∀ i, i < 3 → Cond.arrayOf (tmZ i) .int ∈ flatC GN := by decide +kernel
theorem en_zl : ∀ i, i < 3 → Cond.eq (.length (tmZ i)) (.int 6) ∈ flatC GN := by decide +kernel
theorem en_ze : ∀ i, i < 3 → ∀ j, j < 6 → Cond.eq (.elem (tmZ i) (.int (Int32.ofNat j))) (.int (II ((stT.getD i []).getD j 0))) ∈ flatC GN := by decide +kernel
theorem en_zw : ∀ i, i < 3 → Cond.laysStatic "RatedBySighs" (snT.getD i "") "[I" ∈ lw_tbl := by decide +kernel
theorem en_cw : Cond.laysStatic "java/lang/String" "COMPACT_STRINGS" "Z" ∈ lw_tbl ∧ Cond.laysStatic "jdk/internal/util/Preconditions" "SIOOBE_FORMATTER" "Ljava/util/function/BiFunction;" ∈ lw_tbl := by decide +kernel
theorem en_c : Cond.eq (.static "java/lang/String" "COMPACT_STRINGS" "Z") (.int 1) ∈ flatC GN ∧ Cond.isRef (.static "jdk/internal/util/Preconditions" "SIOOBE_FORMATTER" "Ljava/util/function/BiFunction;") ∈ flatC GN := by decide +kernel
theorem en_sr : ∀ i, i < 13 → Cond.stringRef (sown.getD i "") (sidx.getD i 0) (stxt.getD i "") ∈ lw_tbl := by decide +kernel
theorem start_En {s : State} {b : Nat} (hts : ∀ w ∈ lw_tbl, w.before #[Value.ref b] s = true) (hgv : GN.before #[Value.ref b] s = true) (D : va_G) (ca : Nat → ClassId) : ∃ X : Nat → Nat, En (D, ca, s.heap.size, 0, (fun _ => 0), (fun _ => none), X) s := by
  have hfl := flat_of_before GN hgv
  have htT : ∀ w ∈ tT, w.before #[Value.ref b] s = true := fun w hw => hts w (List.mem_filter.mp hw).1
  have hAr : ∀ a : Nat, a < s.heap.size → ¬ (fun q => s.heap.size ≤ q) a := fun a h h2 => by
    have h2 : s.heap.size ≤ a := h2
    omega
  obtain ⟨adK, adV, hKS, hKe⟩ := vk_Sof (A := fun q => s.heap.size ≤ q) (N := 13) (tm := tmS) (len := slen) (byt := sbyt) (by decide) (fun i hi => hfl _ (en_ex i hi)) (fun i hi => hfl _ (en_co i hi)) (fun i hi => hfl _ (en_ar i hi)) (fun i hi => hfl _ (en_le i hi)) (fun i hi j hj => hfl _ (en_el i hi j hj)) (fun i j hi hj hij => (en_ne i hi j hj hij).elim (fun h => Or.inl (hfl _ h)) (fun h => Or.inr (hfl _ h))) hAr
  have hst : ∀ i, i < 3 → ∃ t : Nat, (tmZ i).eval #[Value.ref b] s none [] s = some (.ref t) ∧ va_T .int t 6 (fun j => .int (II ((stT.getD i []).getD j 0))) (fun q => s.heap.size ≤ q) s s.heap := fun i hi =>
    va_Tof (N := 6) (by decide) (hfl _ (en_za i hi)) (va_eqt (hfl _ (en_zl i hi))) (fun j hj => va_eqt (hfl _ (en_ze i hi j hj))) hAr
  obtain ⟨z0, e0, t0⟩ := hst 0 (by decide)
  obtain ⟨z1, e1, t1⟩ := hst 1 (by decide)
  obtain ⟨z2, e2, t2⟩ := hst 2 (by decide)
  refine ⟨fun n => if n = 0 then z0 else if n = 1 then z1 else if n = 2 then z2 else if n < 200 then adK (n - 100) else adV (n - 200), fun w hw => ?_, fun i hi => ?_, ⟨?_, ?_⟩, fun i hi => ?_, ?_⟩
  · have hn := (List.mem_filter.mp hw).2
    have h := hts w (List.mem_filter.mp hw).1
    cases w <;> first | exact va_Nw.of rfl h | (simp [isNestW] at hn; done)
  · rcases (show i = 0 ∨ i = 1 ∨ i = 2 by omega) with rfl | rfl | rfl
    · exact ⟨va_Zof (hts _ (en_zw 0 hi)) (htT _ mw_117) e0 hAr, t0⟩
    · exact ⟨va_Zof (hts _ (en_zw 1 hi)) (htT _ mw_117) e1 hAr, t1⟩
    · exact ⟨va_Zof (hts _ (en_zw 2 hi)) (htT _ mw_117) e2 hAr, t2⟩
  · exact va_Zof (hts _ en_cw.1) (htT _ mw_125) (va_eqt (hfl _ en_c.1)) hAr
  · have a1 : ∀ i, i < 13 → (fun i => (fun n => if n = 0 then z0 else if n = 1 then z1 else if n = 2 then z2 else if n < 200 then adK (n - 100) else adV (n - 200)) (100 + i)) i = adK i := fun i hi => by
      show (if 100 + i = 0 then z0 else _) = _
      rw [if_neg (by omega), if_neg (by omega), if_neg (by omega), if_pos (by omega)]
      congr 1; omega
    have a2 : ∀ i, i < 13 → (fun i => (fun n => if n = 0 then z0 else if n = 1 then z1 else if n = 2 then z2 else if n < 200 then adK (n - 100) else adV (n - 200)) (200 + i)) i = adV i := fun i hi => by
      show (if 200 + i = 0 then z0 else _) = _
      rw [if_neg (by omega), if_neg (by omega), if_neg (by omega), if_neg (by omega)]
      congr 1; omega
    refine ⟨fun i hi => ?_, fun i j hi hj h => hKS.2 i j hi hj (((a1 i hi).symm.trans h).trans (a1 j hj))⟩
    have h := hKS.1 i hi
    rw [← a1 i hi, ← a2 i hi] at h
    exact h
  · have h := vk_R.of (hts _ (en_sr i hi)) (hKe i hi)
    have a1 : (if 100 + i = 0 then z0 else if 100 + i = 1 then z1 else if 100 + i = 2 then z2 else if 100 + i < 200 then adK (100 + i - 100) else adV (100 + i - 200)) = adK i := by
      rw [if_neg (by omega), if_neg (by omega), if_neg (by omega), if_pos (by omega)]
      congr 1; omega
    rw [← a1] at h
    exact h
  · exact va_Zqof (hts _ en_cw.2) (htT _ mw_127) (hfl _ en_c.2) hAr
