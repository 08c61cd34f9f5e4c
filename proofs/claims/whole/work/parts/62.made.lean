theorem rhoM_n {ρ : Nat → Option Nat} {n : Nat} (h : n < 70000 ∨ 84000 ≤ n) : rhoM ρ n = ρ n := by
  unfold rhoM
  rw [stR_n (by omega), stR_n (by omega), stR_n (by omega), stR_n (by omega), stR_n (by omega), stR_n (by omega), stR_n (by omega), stR_n (by omega), stR_n (by omega), stR_n (by omega), stR_n (by omega), stR_n (by omega), stR_n (by omega)]
theorem rho_all (n : Nat) : rhoM (rhoS (rho7 (fun _ => none)) 4) n = R0 n := by
  by_cases hn : n < 70000
  · rw [rhoM_n (Or.inl hn), rho7_all n hn]
  by_cases e26 : n = 70001
  · subst e26; decide +kernel
  by_cases e27 : n = 70002
  · subst e27; decide +kernel
  by_cases e28 : n = 70005
  · subst e28; decide +kernel
  by_cases e29 : n = 70009
  · subst e29; decide +kernel
  by_cases e30 : n = 70010
  · subst e30; decide +kernel
  by_cases e31 : n = 70028
  · subst e31; decide +kernel
  by_cases e32 : n = 70029
  · subst e32; decide +kernel
  by_cases e33 : n = 70032
  · subst e33; decide +kernel
  by_cases e34 : n = 70033
  · subst e34; decide +kernel
  by_cases e35 : n = 70038
  · subst e35; decide +kernel
  by_cases e36 : n = 70039
  · subst e36; decide +kernel
  by_cases e37 : n = 70040
  · subst e37; decide +kernel
  by_cases e38 : n = 70041
  · subst e38; decide +kernel
  rw [R0_none (by intro q hq; simp only [rtab, List.mem_cons, List.not_mem_nil, or_false] at hq; (repeat (rcases hq with rfl | hq; · (try simp only); omega)); (try (subst hq; (try simp only); omega)))]
  unfold rhoM
  rw [stR_n (by omega), stR_n (by omega), stR_n (by omega), stR_n (by omega), stR_n (by omega), stR_n (by omega), stR_n (by omega), stR_n (by omega), stR_n (by omega), stR_n (by omega), stR_n (by omega), stR_n (by omega), stR_n (by omega)]
  simp only [rhoS]
  rw [stR_n (by omega), stR_n (by omega), stR_n (by omega), stR_n (by omega), stR_n (by omega), stR_n (by omega), stR_n (by omega), stR_n (by omega)]
  unfold rho7
  rw [stR_n (by omega), stR_n (by omega), stR_n (by omega), stR_n (by omega), rhoB_n (by omega) (by omega) 8 (by omega), stR_n (by omega), stR_n (by omega), stR_n (by omega), stR_n (by omega), stR_n (by omega), stR_n (by omega), stR_n (by omega)]
  unfold rhoE
  rw [stR_n (by omega), stR_n (by omega), mulR_n (by omega), stR_n (by omega), mulR_n (by omega), stR_n (by omega)]
  unfold rhoT
  rw [stR_n (by omega), stR_n (by omega), stR_n (by omega), mulR_n (by omega), stR_n (by omega), mulR_n (by omega)]
  rw [stR_n (by omega), rhoB_n (by omega) (by omega) 8 (by omega)]
theorem LvF.made {g : Gm} (hR : Rr g (rhoM (rhoS (rho7 (fun _ => none)) 4))) (hN : gN g = 84) : LvF g := ⟨hN, fun n => by rw [hR.1, rho_all]⟩
/-- the first state of both -/
def X0f : Txt := (1, (fun _ => evC [5, -1, -14] [0] [-1]), 0, fun _ => 0)
def b0f : Bor := (0, (fun _ _ => 0), 0, 0, 0)
def Sh0f : Sht := ((fun _ => -1), (fun _ => 0), fun _ _ => 0)
theorem inv0f : InvA b0f X0f none Sh0f := by
  refine ⟨⟨by decide, fun q hq => absurd hq (Nat.not_lt_zero _), fun q hq => absurd hq (Nat.not_lt_zero _), ⟨by decide, by decide⟩, ⟨by decide, by decide⟩, by decide⟩, ⟨by decide, by decide⟩, ⟨by decide, fun i hi => absurd hi (Nat.not_lt_zero _)⟩, fun b2 e => (by cases e), fun i hi => ?_⟩
  exact Or.inl ⟨rfl, rfl⟩
theorem rep0C {M M7 M' : Nat → Int} (hz : ∀ m, M m = 0) (h : TxtC M7 (1, (fun _ => evC [5, -1, -14] [0] [-1]), 0, fun i => sb 0 i) ∧ ∀ m, ¬ ((12000 ≤ m ∧ m < 27000) ∨ (45000 ≤ m ∧ m < 49000)) → M7 m = mS (stM (stM M (1000 * 45 + 3) 7) (1000 * 59 + 0) (-1)) 4 m) (hM : ∀ m, m < 70000 → M' m = M7 m) : RepC M' b0f X0f none Sh0f := by
  have h0 : ∀ m, m < 12000 ∨ (49000 ≤ m ∧ m < 59000) → M' m = 0 := fun m hm => by
    rw [hM m (by omega), h.2 m (by omega), mS_n (by omega) 4 (by decide), st_n (by omega), st_n (by omega), hz]
  refine ⟨⟨h0 _ (by omega), h0 _ (by omega), h0 _ (by omega), h0 _ (by omega), fun i hi => absurd hi (Nat.not_lt_zero _)⟩, ?_, h0 5 (by omega), fun i hi => ⟨?_, ?_, fun j hj => ?_⟩⟩
  · have hT : TxtC M' (1, (fun _ => evC [5, -1, -14] [0] [-1]), 0, fun i => sb 0 i) := h.1.fr ⟨by decide, by decide⟩ (fun m hm => hM m (by omega))
    exact ⟨hT.1, hT.2.1, hT.2.2.1, fun i hi => absurd hi (Nat.not_lt_zero _)⟩
  · rw [hM _ (by omega), h.2 _ (by omega)]
    show _ = (-1 : Int)
    rcases (show i = 0 ∨ i = 1 ∨ i = 2 ∨ i = 3 by omega) with rfl | rfl | rfl | rfl
    · simp only [mS]; rw [st_n (by omega), st_n (by omega), st_n (by omega), st_e (by omega)]
    · simp only [mS]; rw [st_n (by omega), st_n (by omega), st_e (by omega)]
    · simp only [mS]; rw [st_n (by omega), st_e (by omega)]
    · simp only [mS]; rw [st_e (by omega)]
  · rw [hM _ (by omega), h.2 _ (by omega), mS_n (by omega) 4 (by decide), st_n (by omega), st_n (by omega), hz]; rfl
  · exact absurd hj (by show ¬ (j : Int) < 0; omega)
theorem rep0M {M7 M' : Nat → Int} (hz : ∀ m, 70000 ≤ m → M7 m = 0) (h : TxB M' 0 sM 40 ∧ M' 70003 = 1 ∧ ∀ m, ¬ ((71000 ≤ m ∧ m < 72001) ∨ m = 70003) → M' m = (stM (stM M7 (1000 * 70 + 27) (-1)) (1000 * 70 + 34) (-1)) m) : RepM M' b0f X0f none Sh0f := by
  obtain ⟨h1, h2, h3⟩ := h
  have h0 : ∀ m, 70000 ≤ m → ¬ ((71000 ≤ m ∧ m < 72001) ∨ m = 70003 ∨ m = 70027 ∨ m = 70034) → M' m = 0 := fun m hm hn => by
    rw [h3 m (by omega), st_n (by omega), st_n (by omega), hz m hm]
  refine ⟨⟨⟨h0 _ (by omega) (by omega), h0 _ (by omega) (by omega), h0 _ (by omega) (by omega), h0 _ (by omega) (by omega)⟩, fun q hq => absurd hq (Nat.not_lt_zero _)⟩, ⟨h2, fun t ht => ?_, h0 _ (by omega) (by omega), fun i hi => absurd hi (Nat.not_lt_zero _)⟩, ?_, fun i hi => Or.inl ⟨rfl, h0 _ (by omega) (by omega)⟩, ?_⟩
  · have e : t = 0 := by have : t < 1 := ht; omega
    subst e
    exact ⟨sM, 40, _, _, _, h1, firstM_eq, rfl⟩
  · show M' 70034 = -1
    rw [h3 _ (by omega)]; first | (rw [st_e (by omega)]; done) | (rw [st_n (by omega), st_e (by omega)]; done)
  · rw [h3 _ (by omega)]; first | (rw [st_e (by omega)]; done) | (rw [st_n (by omega), st_e (by omega)]; done)
