/-- the references of an array of arrays at place k, its N rows behind it -/
def mulR (ρ : Nat → Option Nat) (k N : Nat) : Nat → Option Nat := fun n => if 1000 * k ≤ n ∧ n < 1000 * k + N then some (k + 1 + (n - 1000 * k)) else ρ n
theorem mulR_s {ρ : Nat → Option Nat} {k N n i : Nat} (h : n = 1000 * k + i) (hi : i < N) : mulR ρ k N n = some (k + 1 + i) := by
  unfold mulR
  rw [if_pos (by omega)]
  congr 1
  omega
theorem mulR_n {ρ : Nat → Option Nat} {k N n : Nat} (h : ¬ (1000 * k ≤ n ∧ n < 1000 * k + N)) : mulR ρ k N n = ρ n := if_neg h
def gMul (g : Gm) (h N : Nat) : Gm := (gD g, gC g, gB g, gN g + 1 + N, (fun k => if k < gN g then gA g k else h + (k - gN g)), (fun n => if 1000 * gN g ≤ n ∧ n < 1000 * gN g + N then some (h + 1 + (n - 1000 * gN g)) else gR g n), gX g)
theorem gMul_X {g : Gm} {h N : Nat} : GX g (gMul g h N) := ⟨rfl, rfl, rfl, rfl, by show _ ≤ gN g + 1 + N; omega, fun k hk => if_pos hk⟩
theorem gMul_R {g : Gm} {h N : Nat} {ρ : Nat → Option Nat} (hR : Rr g ρ) : Rr (gMul g h N) (mulR ρ (gN g) N) := by
  refine ⟨fun n => ?_, fun n q e => ?_⟩
  · show (if 1000 * gN g ≤ n ∧ n < 1000 * gN g + N then some (h + 1 + (n - 1000 * gN g)) else gR g n) = (mulR ρ (gN g) N n).map (gA (gMul g h N))
    unfold mulR
    by_cases e : 1000 * gN g ≤ n ∧ n < 1000 * gN g + N
    · rw [if_pos e, if_pos e]
      show _ = some (if _ then _ else _)
      rw [if_neg (by omega)]
      congr 1
      omega
    · rw [if_neg e, if_neg e, hR.1]
      cases e2 : ρ n with
      | none => rfl
      | some q => exact congrArg some (gMul_X.A (hR.2 n q e2))
  · show q < gN g + 1 + N
    unfold mulR at e
    split at e
    · have := Option.some.inj e; omega
    · have := hR.2 n q e; omega
theorem wsl_inv {g : Gm} {M : Nat → Int} {i : Nat} {q : Nat × va_E} (h : (wsl g M)[i]? = some q) : i < gN g ∧ q = (gA g i, cellE (gC g) (gR g) M i) := by
  have hi : i < gN g := by
    have := (List.getElem?_eq_some_iff.mp h).1
    simpa [wsl] using this
  rw [wsl_get hi] at h
  exact ⟨hi, (Option.some.inj h).symm⟩
theorem cellE_cR {ca : Nat → ClassId} {R R' : Nat → Option Nat} {M : Nat → Int} {i : Nat} (h : ∀ j, j < 1000 → R (1000 * i + j) = R' (1000 * i + j)) : cellE ca R M i = cellE ca R' M i := by
  have h1 : ∀ ci, objs R M ci i = objs R' M ci i := fun ci => by
    unfold objs
    apply List.map_congr_left
    intro j hj
    have hj := List.mem_range.mp hj
    have := tg_le ci
    unfold sv
    rw [h j (by omega)]
  have h2 : arR R i = arR R' i := by
    funext j
    unfold arR
    by_cases hj : j < 1000
    · rw [if_pos hj, if_pos hj, h j hj]
    · rw [if_neg hj, if_neg hj]
  unfold cellE
  rw [h1, h2]
section PM
variable {p : Program} {l : Launch} {e : Env} {Rm : Room} {s : State} {m : MethodId} {args : Array Value} {below : List Frame} {meth : Method} {c : Code} {H : Heap} {locs : List Loc} {cells slots : Nat} {Q : State → Prop}
variable {cc : ByteArray} {own : String} {pc : Nat} {ls : Array Slot} {rest : List Value} {g : Gm} {M : Nat → Int} {ρ : Nat → Option Nat}
theorem y_mna (C : Cx g p c m s args cc own) (hw : Wo g M H) (hS : va_S (ar g) s.heap H locs) (hR : Rr g ρ) {k : Nat} (hN : gN g = k) (hkd : kd k = 13) {N K : Nat} (hL : ln k = N) (hN2 : N < 1000) (hin : ∀ i, i < N → kd (k + 1 + i) = 9 ∧ ln (k + 1 + i) = K) (hK2 : K < 1000) (hF : Fr M ρ k) (hAO : va_Nw (Cond.arrayOver (.array .int)) s) {idx : Nat} (m1 : Cond.classLink own idx "[[I" ∈ tT) (m2 : Cond.arrayClass .int ∈ tT) (hcells : cells + 1 + N ≤ Rm.cells) (hslots : slots + N + N * K ≤ Rm.slots) (hdg : decode cc pc = .ok (.multianewarray idx 2, 4))
    (kk : ∀ (g' : Gm) (H1 : Heap), GX g g' → gN g' = k + 1 + N → Rr g' (mulR ρ k N) → Cx g' p c m s args cc own → Wo g' M H1 → va_S (ar g') s.heap H1 locs → W p l e Rm s m args below meth c H1 locs (cells + 1 + N) (slots + N + N * K) Q (F0 m (pc + 4) ls (.ref (gA g' k) :: rest))) : W p l e Rm s m args below meth c H locs cells slots Q (F0 m pc ls (.int (II (K : Int)) :: .int (II (N : Int)) :: rest)) := by
  have hnn : ∀ x : Nat, x < 1000 → ¬ II (x : Int) < 0 := fun x hx h => by have := (II_lt (a := (x : Int)) (b := 0) ⟨by omega, by omega⟩ rg0).mp h; omega
  have hcl : ∀ x : Nat, x < 1000 → (II (x : Int)).toNatClampNeg = x := fun x hx => by rw [II_cl ⟨by omega, by omega⟩]; omega
  intro T hT Xs
  obtain ⟨cA, cy, F, fA, fC, f1, hold, f2, hrow, X', step⟩ := z_mna Xs C.1 (own := own) (idx := idx) C.2.2.1 (C.2.2.2.1 _ m1) (show (Cond.arrayOver (.array .int)).before args s = true from hAO) (C.2.2.2.1 _ m2) (pc := pc) (ls := ls) (rest := rest) (N := N) (K := K) (by rw [C.2.1]; exact hdg) (hnn N hN2) (hnn K hK2) (hcl N hN2) (hcl K hK2) hN2 hK2 (by omega) (by omega)
  have ecA : cA = gC g 13 := by
    have h2 := (C.2.2.2.2.1.2 4 (gC g 13, .array .int) rfl).2
    exact Option.some.inj (fA.symm.trans h2)
  have ecy : cy = gC g 9 := by
    have h2 := (C.2.2.2.2.1.2 0 (gC g 9, .int) rfl).2
    exact Option.some.inj (fC.symm.trans h2)
  subst ecA
  subst ecy
  rw [hT] at f1 hold f2 hrow
  have hlt : ∀ i, i < gN g → gA g i < H.size := fun i hi => (hw.1 i _ (wsl_get hi)).lt
  have hSz : s.heap.size ≤ H.size := hS.1
  have gA1 : ∀ i, i < gN g → gA (gMul g H.size N) i = gA g i := fun i hi => if_pos hi
  have gA2 : ∀ i, ¬ i < gN g → gA (gMul g H.size N) i = H.size + (i - gN g) := fun i hi => if_neg hi
  have hW : Wo (gMul g H.size N) M F.heap := by
    refine ⟨fun i q hq => ?_, ⟨fun i j a b hi hj hab => ?_, fun i q hq => ?_⟩, hw.2.2⟩
    · obtain ⟨hi, rfl⟩ := wsl_inv hq
      have hi2 : i < gN g + 1 + N := hi
      by_cases h1 : i < gN g
      · have hz := (hw.1 i _ (wsl_get h1)).kept (hold _ (hlt i h1))
        rw [gA1 i h1]
        have e : cellE (gC (gMul g H.size N)) (gR (gMul g H.size N)) M i = cellE (gC g) (gR g) M i := by
          refine cellE_cR (fun j hj => ?_)
          exact if_neg (by omega)
        rw [e]
        exact hz
      · rw [gA2 i h1]
        by_cases h2 : i = gN g
        · subst h2
          have e : cellE (gC (gMul g H.size N)) (gR (gMul g H.size N)) M (gN g) = .inl (gC g 13, N, .inr (.inr (.inr (.inr (fun j => if j < N then some (H.size + 1 + j) else none))))) := by
            unfold cellE
            rw [hN, hkd, if_neg (by decide), if_neg (by decide), hL]
            have ea : arR (gR (gMul g H.size N)) k = fun j => if j < N then some (H.size + 1 + j) else none := by
              funext j
              unfold arR
              by_cases hj : j < 1000
              · rw [if_pos hj]
                show (if 1000 * gN g ≤ 1000 * k + j ∧ 1000 * k + j < 1000 * gN g + N then some (H.size + 1 + (1000 * k + j - 1000 * gN g)) else gR g (1000 * k + j)) = _
                rw [hN]
                by_cases hjn : j < N
                · rw [if_pos (by omega), if_pos hjn]; congr 1; omega
                · rw [if_neg (by omega), if_neg hjn, hR.1, (hF _ (by omega)).2]; rfl
              · rw [if_neg hj, if_neg (by omega)]
            rw [ea]
            rfl
          rw [e, Nat.sub_self, Nat.add_zero]
          show F.heap[H.size]? = some (vp_cell _ _)
          rw [f2, vp_cell_q]
          congr 2
          funext j
          unfold mnO
          by_cases hj : j < N
          · rw [if_pos hj, if_pos hj]; rfl
          · rw [if_neg hj, if_neg hj]; rfl
        · obtain ⟨j, rfl⟩ : ∃ j, i = k + 1 + j := ⟨i - k - 1, by omega⟩
          have hj : j < N := by omega
          have e : cellE (gC (gMul g H.size N)) (gR (gMul g H.size N)) M (k + 1 + j) = .inl (gC g 9, K, .inl (fun _ => 0)) := by
            unfold cellE
            rw [(hin j hj).1, if_neg (by decide), if_pos (by decide), (hin j hj).2]
            have ea : arI M (k + 1 + j) = fun _ => 0 := by
              funext x
              unfold arI
              by_cases hx : x < 1000
              · rw [if_pos hx, (hF _ (by omega)).1]; rfl
              · rw [if_neg hx]
            rw [ea]
            rfl
          rw [e, show H.size + (k + 1 + j - gN g) = H.size + 1 + j by omega]
          show F.heap[H.size + 1 + j]? = some (vp_cell _ _)
          rw [hrow j hj]
          rfl
    · obtain ⟨hi, rfl⟩ := wsl_inv hi
      obtain ⟨hj, rfl⟩ := wsl_inv hj
      have hab : gA (gMul g H.size N) i = gA (gMul g H.size N) j := hab
      by_cases h1 : i < gN g <;> by_cases h2 : j < gN g
      · rw [gA1 i h1, gA1 j h2] at hab
        exact hw.2.1.1 i j _ _ (wsl_get h1) (wsl_get h2) hab
      · rw [gA1 i h1, gA2 j h2] at hab
        have := hlt i h1
        omega
      · rw [gA2 i h1, gA1 j h2] at hab
        have := hlt j h2
        omega
      · rw [gA2 i h1, gA2 j h2] at hab
        omega
    · obtain ⟨hi, rfl⟩ := wsl_inv hq
      show ar g (gA (gMul g H.size N) i)
      by_cases h1 : i < gN g
      · rw [gA1 i h1]
        exact hw.2.1.2 i _ (wsl_get h1)
      · rw [gA2 i h1]
        exact C.fresh _ (by omega)
  have hS1 : va_S (ar g) s.heap F.heap locs := ⟨by omega, fun x h1 h2 => (hold x (Nat.lt_of_lt_of_le h1 hS.1)).trans (hS.2.1 x h1 h2), hS.2.2⟩
  have hR1 : Rr (gMul g H.size N) (mulR ρ k N) := by rw [← hN]; exact gMul_R hR
  have ha : gA (gMul g H.size N) k = H.size := by rw [gA2 k (by omega)]; omega
  have hq := kk (gMul g H.size N) F.heap gMul_X (by show gN g + 1 + N = _; rw [hN]) hR1 (gMul_X.cx C) hW (by rw [gMul_X.ar]; exact hS1)
  rw [ha] at hq
  obtain ⟨t, a1, b1⟩ := hq F rfl X'
  rw [← hT] at a1
  exact ⟨t, step t a1, b1⟩
end PM
