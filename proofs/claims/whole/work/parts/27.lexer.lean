/-- the tape -/
def TP (M : Nat → Int) (b : Nat → Int) (n : Nat) : Prop := M 45001 = (n : Int) ∧ n ≤ 160 ∧ ∀ i, i < n → M (46000 + i) = b i
theorem TP.fr {M M' : Nat → Int} {b : Nat → Int} {n : Nat} (h : TP M b n) (hf : ∀ m, m = 45001 ∨ (46000 ≤ m ∧ m < 47000) → M' m = M m) : TP M' b n :=
  ⟨(hf _ (by omega)).trans h.1, h.2.1, fun i hi => by have := h.2.1; exact (hf _ (by omega)).trans (h.2.2 i hi)⟩
theorem wr_id {x : Int} (h : -2147483648 ≤ x ∧ x ≤ 2147483647) : wr x = x := II_toInt h
theorem vlD_lt {b : Nat → Int} {s : Nat} : ∀ {k : Nat}, (∀ j, j < k → dgB (b (s + j)) = true) → vlD b s k < 10 ^ k
  | 0, _ => by simp [vlD]
  | k + 1, h => by
    have h1 := vlD_lt (k := k) (fun j hj => h j (by omega))
    have h2 := h k (by omega)
    simp only [dgB, decide_eq_true_eq] at h2
    rw [vlD, Int.pow_succ]
    omega
theorem vlD_4 {b : Nat → Int} {s k : Nat} (h : ∀ j, j < k → dgB (b (s + j)) = true) (h4 : k ≤ 4) : 0 ≤ vlD b s k ∧ vlD b s k ≤ 9999 := by
  have h1 := vlD_lt h
  have h2 := vlD_pos h
  rcases (show k = 0 ∨ k = 1 ∨ k = 2 ∨ k = 3 ∨ k = 4 by omega) with rfl | rfl | rfl | rfl | rfl <;> omega
theorem eqL_iff : ∀ (L : List Int) (b : Nat → Int) (s : Nat), eqL L b s = true ↔ ∀ j, j < L.length → b (s + j) = L.getD j 0
  | [], b, s => ⟨fun _ j hj => absurd hj (Nat.not_lt_zero _), fun _ => rfl⟩
  | x :: L, b, s => by
    rw [eqL, Bool.and_eq_true, decide_eq_true_eq, eqL_iff L b (s + 1)]
    constructor
    · rintro ⟨h1, h2⟩ j hj
      cases j with
      | zero => exact h1
      | succ j => have := h2 j (by simpa using hj); rw [show s + (j + 1) = s + 1 + j by omega]; exact this
    · intro h
      refine ⟨h 0 (by simp), fun j hj => ?_⟩
      have := h (j + 1) (by simpa using hj)
      rw [show s + 1 + j = s + (j + 1) by omega]; exact this
theorem sp_iff {w : Nat} {L : List Int} {b : Nat → Int} {s e : Nat} (h1 : L.length = sl w) (h2 : ∀ j, j < sl w → sb w j = L.getD j 0) : spw L b s e = true ↔ (e - s = sl w ∧ ∀ j, j < sl w → sb w j = b (s + j)) := by
  unfold spw
  rw [Bool.and_eq_true, decide_eq_true_eq, eqL_iff, h1]
  constructor
  · rintro ⟨g1, g2⟩; exact ⟨g1, fun j hj => (h2 j hj).trans (g2 j hj).symm⟩
  · rintro ⟨g1, g2⟩; exact ⟨g1, fun j hj => (g2 j hj).symm.trans (h2 j hj)⟩
theorem sp_no {w : Nat} {L : List Int} {b : Nat → Int} {s e : Nat} (h1 : L.length = sl w) (h2 : ∀ j, j < sl w → sb w j = L.getD j 0) (h : ¬ (e - s = sl w ∧ ∀ j, j < sl w → sb w j = b (s + j))) : spw L b s e = false := by
  cases hq : spw L b s e with
  | false => rfl
  | true => exact absurd ((sp_iff h1 h2).mp hq) h
theorem sb_1 : ∀ j, j < sl 1 → sb 1 j = ([115, 105, 103, 104, 115] : List Int).getD j 0 := by decide +kernel
theorem sb_2 : ∀ j, j < sl 2 → sb 2 j = ([109, 111, 111, 100, 115] : List Int).getD j 0 := by decide +kernel
theorem sb_3 : ∀ j, j < sl 3 → sb 3 j = ([112, 97, 121, 115] : List Int).getD j 0 := by decide +kernel
theorem sb_4 : ∀ j, j < sl 4 → sb 4 j = ([111, 114] : List Int).getD j 0 := by decide +kernel
theorem sb_5 : ∀ j, j < sl 5 → sb 5 j = ([97, 110, 100] : List Int).getD j 0 := by decide +kernel
theorem sb_6 : ∀ j, j < sl 6 → sb 6 j = ([110, 111, 116] : List Int).getD j 0 := by decide +kernel
theorem sb_7 : ∀ j, j < sl 7 → sb 7 j = ([109, 111, 111, 100] : List Int).getD j 0 := by decide +kernel
theorem sb_8 : ∀ j, j < sl 8 → sb 8 j = ([104, 111, 117, 114] : List Int).getD j 0 := by decide +kernel
theorem sb_9 : ∀ j, j < sl 9 → sb 9 j = ([110, 117, 109, 98, 101, 114] : List Int).getD j 0 := by decide +kernel
theorem sb_10 : ∀ j, j < sl 10 → sb 10 j = ([111, 116, 104, 101, 114, 115] : List Int).getD j 0 := by decide +kernel
theorem sb_11 : ∀ j, j < sl 11 → sb 11 j = ([104, 111, 117, 115, 101] : List Int).getD j 0 := by decide +kernel
theorem sb_12 : ∀ j, j < sl 12 → sb 12 j = ([102, 111, 111, 108, 115] : List Int).getD j 0 := by decide +kernel
set_option maxHeartbeats 4000000 in
set_option maxRecDepth 100000 in
theorem c_X4_isLetter (l : Launch) (g : Gm) (M : Nat → Int) (x : Int) (gx : rg x) : CI l ({ cls := "RatedBySighs$Reader", name := "isLetter", desc := "(I)Z" } : Jvm.MethodName) cX4_isLetter 1 .boolean (rmm 0 0) g M [.int (II x)] (fun r M' => M' = M ∧ ((r = 1 ∧ (ltB x = true)) ∨ (r = 0 ∧ (ltB x = false)))) := by
  refine c_start (by decide) (Nat.le_of_ble_eq_true rfl) (fun p e s m below meth c ls C hr hlk hml hw hS hl => ?_)
  have hl : lv_has ls 1 [(0, .int (II x))] := hl
  have g_M := hw.rg
  refine lv_iload_n C.1 C.2.1 dX4_isLetter_0 rfl (lv_at hl 0 rfl) ?_
  refine lv_bipush (v := II 97) C.1 C.2.1 dX4_isLetter_1 (by decide) ?_
  refine x_icmp_lt (tgt := 16) C gx ⟨by decide, by decide⟩ dX4_isLetter_3 (by decide) (fun c3 => ?_) (fun c3 => ?_)
  · refine lv_iconst (v := II 0) C.1 C.2.1 dX4_isLetter_16 rfl ?_
    exact x_ireturn C hr hlk hw hS ⟨by decide, by decide⟩ (by decide) (by refine ⟨rfl, ?_⟩; first | exact Or.inl ⟨rfl, decide_eq_true (by omega)⟩ | exact Or.inr ⟨rfl, decide_eq_false (by omega)⟩) dX4_isLetter_17
  · refine lv_iload_n C.1 C.2.1 dX4_isLetter_6 rfl (lv_at hl 0 rfl) ?_
    refine lv_bipush (v := II 122) C.1 C.2.1 dX4_isLetter_7 (by decide) ?_
    refine x_icmp_gt (tgt := 16) C gx ⟨by decide, by decide⟩ dX4_isLetter_9 (by decide) (fun c9 => ?_) (fun c9 => ?_)
    · refine lv_iconst (v := II 0) C.1 C.2.1 dX4_isLetter_16 rfl ?_
      exact x_ireturn C hr hlk hw hS ⟨by decide, by decide⟩ (by decide) (by refine ⟨rfl, ?_⟩; first | exact Or.inl ⟨rfl, decide_eq_true (by omega)⟩ | exact Or.inr ⟨rfl, decide_eq_false (by omega)⟩) dX4_isLetter_17
    · refine lv_iconst (v := II 1) C.1 C.2.1 dX4_isLetter_12 rfl ?_
      refine lv_goto (tgt := 17) C.1 C.2.1 dX4_isLetter_13 (by decide) ?_
      exact x_ireturn C hr hlk hw hS ⟨by decide, by decide⟩ (by decide) (by refine ⟨rfl, ?_⟩; first | exact Or.inl ⟨rfl, decide_eq_true (by omega)⟩ | exact Or.inr ⟨rfl, decide_eq_false (by omega)⟩) dX4_isLetter_17

set_option maxHeartbeats 4000000 in
set_option maxRecDepth 100000 in
theorem c_X4_isDigit (l : Launch) (g : Gm) (M : Nat → Int) (x : Int) (gx : rg x) : CI l ({ cls := "RatedBySighs$Reader", name := "isDigit", desc := "(I)Z" } : Jvm.MethodName) cX4_isDigit 1 .boolean (rmm 0 0) g M [.int (II x)] (fun r M' => M' = M ∧ ((r = 1 ∧ (dgB x = true)) ∨ (r = 0 ∧ (dgB x = false)))) := by
  refine c_start (by decide) (Nat.le_of_ble_eq_true rfl) (fun p e s m below meth c ls C hr hlk hml hw hS hl => ?_)
  have hl : lv_has ls 1 [(0, .int (II x))] := hl
  have g_M := hw.rg
  refine lv_iload_n C.1 C.2.1 dX4_isDigit_0 rfl (lv_at hl 0 rfl) ?_
  refine lv_bipush (v := II 48) C.1 C.2.1 dX4_isDigit_1 (by decide) ?_
  refine x_icmp_lt (tgt := 16) C gx ⟨by decide, by decide⟩ dX4_isDigit_3 (by decide) (fun c3 => ?_) (fun c3 => ?_)
  · refine lv_iconst (v := II 0) C.1 C.2.1 dX4_isDigit_16 rfl ?_
    exact x_ireturn C hr hlk hw hS ⟨by decide, by decide⟩ (by decide) (by refine ⟨rfl, ?_⟩; first | exact Or.inl ⟨rfl, decide_eq_true (by omega)⟩ | exact Or.inr ⟨rfl, decide_eq_false (by omega)⟩) dX4_isDigit_17
  · refine lv_iload_n C.1 C.2.1 dX4_isDigit_6 rfl (lv_at hl 0 rfl) ?_
    refine lv_bipush (v := II 57) C.1 C.2.1 dX4_isDigit_7 (by decide) ?_
    refine x_icmp_gt (tgt := 16) C gx ⟨by decide, by decide⟩ dX4_isDigit_9 (by decide) (fun c9 => ?_) (fun c9 => ?_)
    · refine lv_iconst (v := II 0) C.1 C.2.1 dX4_isDigit_16 rfl ?_
      exact x_ireturn C hr hlk hw hS ⟨by decide, by decide⟩ (by decide) (by refine ⟨rfl, ?_⟩; first | exact Or.inl ⟨rfl, decide_eq_true (by omega)⟩ | exact Or.inr ⟨rfl, decide_eq_false (by omega)⟩) dX4_isDigit_17
    · refine lv_iconst (v := II 1) C.1 C.2.1 dX4_isDigit_12 rfl ?_
      refine lv_goto (tgt := 17) C.1 C.2.1 dX4_isDigit_13 (by decide) ?_
      exact x_ireturn C hr hlk hw hS ⟨by decide, by decide⟩ (by decide) (by refine ⟨rfl, ?_⟩; first | exact Or.inl ⟨rfl, decide_eq_true (by omega)⟩ | exact Or.inr ⟨rfl, decide_eq_false (by omega)⟩) dX4_isDigit_17

set_option maxHeartbeats 4000000 in
set_option maxRecDepth 100000 in
theorem c_X4_signToken (l : Launch) (g : Gm) (M : Nat → Int) (x : Int) (gx : rg x) : CI l ({ cls := "RatedBySighs$Reader", name := "signToken", desc := "(I)I" } : Jvm.MethodName) cX4_signToken 1 .int (rmm 0 0) g M [.int (II x)] (fun r M' => M' = M ∧ r = sgT x) := by
  refine c_start (by decide) (Nat.le_of_ble_eq_true rfl) (fun p e s m below meth c ls C hr hlk hml hw hS hl => ?_)
  have hl : lv_has ls 1 [(0, .int (II x))] := hl
  have g_M := hw.rg
  refine lv_iload_n C.1 C.2.1 dX4_signToken_0 rfl (lv_at hl 0 rfl) ?_
  by_cases c1_40 : x = 40
  · refine x_tabIn (tgt := 104) C gx dX4_signToken_1 (by omega) (by omega) (by rw [c1_40]; rfl) (by decide) ?_
    refine lv_iconst (v := II 4) C.1 C.2.1 dX4_signToken_104 rfl ?_
    exact x_ireturn C hr hlk hw hS ⟨by decide, by decide⟩ rfl ⟨rfl, by unfold sgT; (repeat' split) <;> first | rfl | omega⟩ dX4_signToken_105
  by_cases c1_41 : x = 41
  · refine x_tabIn (tgt := 106) C gx dX4_signToken_1 (by omega) (by omega) (by rw [c1_41]; rfl) (by decide) ?_
    refine lv_iconst (v := II 5) C.1 C.2.1 dX4_signToken_106 rfl ?_
    exact x_ireturn C hr hlk hw hS ⟨by decide, by decide⟩ rfl ⟨rfl, by unfold sgT; (repeat' split) <;> first | rfl | omega⟩ dX4_signToken_107
  by_cases c1_42 : x = 42
  · refine x_tabIn (tgt := 117) C gx dX4_signToken_1 (by omega) (by omega) (by rw [c1_42]; rfl) (by decide) ?_
    refine lv_bipush (v := II (-15)) C.1 C.2.1 dX4_signToken_117 (by decide) ?_
    exact x_ireturn C hr hlk hw hS ⟨by decide, by decide⟩ rfl ⟨rfl, by unfold sgT; (repeat' split) <;> first | rfl | omega⟩ dX4_signToken_119
  by_cases c1_43 : x = 43
  · refine x_tabIn (tgt := 111) C gx dX4_signToken_1 (by omega) (by omega) (by rw [c1_43]; rfl) (by decide) ?_
    refine lv_bipush (v := II (-13)) C.1 C.2.1 dX4_signToken_111 (by decide) ?_
    exact x_ireturn C hr hlk hw hS ⟨by decide, by decide⟩ rfl ⟨rfl, by unfold sgT; (repeat' split) <;> first | rfl | omega⟩ dX4_signToken_113
  by_cases c1_44 : x = 44
  · refine x_tabIn (tgt := 126) C gx dX4_signToken_1 (by omega) (by omega) (by rw [c1_44]; rfl) (by decide) ?_
    refine lv_bipush (v := II 8) C.1 C.2.1 dX4_signToken_126 (by decide) ?_
    exact x_ireturn C hr hlk hw hS ⟨by decide, by decide⟩ rfl ⟨rfl, by unfold sgT; (repeat' split) <;> first | rfl | omega⟩ dX4_signToken_128
  by_cases c1_45 : x = 45
  · refine x_tabIn (tgt := 114) C gx dX4_signToken_1 (by omega) (by omega) (by rw [c1_45]; rfl) (by decide) ?_
    refine lv_bipush (v := II (-14)) C.1 C.2.1 dX4_signToken_114 (by decide) ?_
    exact x_ireturn C hr hlk hw hS ⟨by decide, by decide⟩ rfl ⟨rfl, by unfold sgT; (repeat' split) <;> first | rfl | omega⟩ dX4_signToken_116
  by_cases c1_46 : x = 46
  · refine x_tabIn (tgt := 126) C gx dX4_signToken_1 (by omega) (by omega) (by rw [c1_46]; rfl) (by decide) ?_
    refine lv_bipush (v := II 8) C.1 C.2.1 dX4_signToken_126 (by decide) ?_
    exact x_ireturn C hr hlk hw hS ⟨by decide, by decide⟩ rfl ⟨rfl, by unfold sgT; (repeat' split) <;> first | rfl | omega⟩ dX4_signToken_128
  by_cases c1_47 : x = 47
  · refine x_tabIn (tgt := 126) C gx dX4_signToken_1 (by omega) (by omega) (by rw [c1_47]; rfl) (by decide) ?_
    refine lv_bipush (v := II 8) C.1 C.2.1 dX4_signToken_126 (by decide) ?_
    exact x_ireturn C hr hlk hw hS ⟨by decide, by decide⟩ rfl ⟨rfl, by unfold sgT; (repeat' split) <;> first | rfl | omega⟩ dX4_signToken_128
  by_cases c1_48 : x = 48
  · refine x_tabIn (tgt := 126) C gx dX4_signToken_1 (by omega) (by omega) (by rw [c1_48]; rfl) (by decide) ?_
    refine lv_bipush (v := II 8) C.1 C.2.1 dX4_signToken_126 (by decide) ?_
    exact x_ireturn C hr hlk hw hS ⟨by decide, by decide⟩ rfl ⟨rfl, by unfold sgT; (repeat' split) <;> first | rfl | omega⟩ dX4_signToken_128
  by_cases c1_49 : x = 49
  · refine x_tabIn (tgt := 126) C gx dX4_signToken_1 (by omega) (by omega) (by rw [c1_49]; rfl) (by decide) ?_
    refine lv_bipush (v := II 8) C.1 C.2.1 dX4_signToken_126 (by decide) ?_
    exact x_ireturn C hr hlk hw hS ⟨by decide, by decide⟩ rfl ⟨rfl, by unfold sgT; (repeat' split) <;> first | rfl | omega⟩ dX4_signToken_128
  by_cases c1_50 : x = 50
  · refine x_tabIn (tgt := 126) C gx dX4_signToken_1 (by omega) (by omega) (by rw [c1_50]; rfl) (by decide) ?_
    refine lv_bipush (v := II 8) C.1 C.2.1 dX4_signToken_126 (by decide) ?_
    exact x_ireturn C hr hlk hw hS ⟨by decide, by decide⟩ rfl ⟨rfl, by unfold sgT; (repeat' split) <;> first | rfl | omega⟩ dX4_signToken_128
  by_cases c1_51 : x = 51
  · refine x_tabIn (tgt := 126) C gx dX4_signToken_1 (by omega) (by omega) (by rw [c1_51]; rfl) (by decide) ?_
    refine lv_bipush (v := II 8) C.1 C.2.1 dX4_signToken_126 (by decide) ?_
    exact x_ireturn C hr hlk hw hS ⟨by decide, by decide⟩ rfl ⟨rfl, by unfold sgT; (repeat' split) <;> first | rfl | omega⟩ dX4_signToken_128
  by_cases c1_52 : x = 52
  · refine x_tabIn (tgt := 126) C gx dX4_signToken_1 (by omega) (by omega) (by rw [c1_52]; rfl) (by decide) ?_
    refine lv_bipush (v := II 8) C.1 C.2.1 dX4_signToken_126 (by decide) ?_
    exact x_ireturn C hr hlk hw hS ⟨by decide, by decide⟩ rfl ⟨rfl, by unfold sgT; (repeat' split) <;> first | rfl | omega⟩ dX4_signToken_128
  by_cases c1_53 : x = 53
  · refine x_tabIn (tgt := 126) C gx dX4_signToken_1 (by omega) (by omega) (by rw [c1_53]; rfl) (by decide) ?_
    refine lv_bipush (v := II 8) C.1 C.2.1 dX4_signToken_126 (by decide) ?_
    exact x_ireturn C hr hlk hw hS ⟨by decide, by decide⟩ rfl ⟨rfl, by unfold sgT; (repeat' split) <;> first | rfl | omega⟩ dX4_signToken_128
  by_cases c1_54 : x = 54
  · refine x_tabIn (tgt := 126) C gx dX4_signToken_1 (by omega) (by omega) (by rw [c1_54]; rfl) (by decide) ?_
    refine lv_bipush (v := II 8) C.1 C.2.1 dX4_signToken_126 (by decide) ?_
    exact x_ireturn C hr hlk hw hS ⟨by decide, by decide⟩ rfl ⟨rfl, by unfold sgT; (repeat' split) <;> first | rfl | omega⟩ dX4_signToken_128
  by_cases c1_55 : x = 55
  · refine x_tabIn (tgt := 126) C gx dX4_signToken_1 (by omega) (by omega) (by rw [c1_55]; rfl) (by decide) ?_
    refine lv_bipush (v := II 8) C.1 C.2.1 dX4_signToken_126 (by decide) ?_
    exact x_ireturn C hr hlk hw hS ⟨by decide, by decide⟩ rfl ⟨rfl, by unfold sgT; (repeat' split) <;> first | rfl | omega⟩ dX4_signToken_128
  by_cases c1_56 : x = 56
  · refine x_tabIn (tgt := 126) C gx dX4_signToken_1 (by omega) (by omega) (by rw [c1_56]; rfl) (by decide) ?_
    refine lv_bipush (v := II 8) C.1 C.2.1 dX4_signToken_126 (by decide) ?_
    exact x_ireturn C hr hlk hw hS ⟨by decide, by decide⟩ rfl ⟨rfl, by unfold sgT; (repeat' split) <;> first | rfl | omega⟩ dX4_signToken_128
  by_cases c1_57 : x = 57
  · refine x_tabIn (tgt := 126) C gx dX4_signToken_1 (by omega) (by omega) (by rw [c1_57]; rfl) (by decide) ?_
    refine lv_bipush (v := II 8) C.1 C.2.1 dX4_signToken_126 (by decide) ?_
    exact x_ireturn C hr hlk hw hS ⟨by decide, by decide⟩ rfl ⟨rfl, by unfold sgT; (repeat' split) <;> first | rfl | omega⟩ dX4_signToken_128
  by_cases c1_58 : x = 58
  · refine x_tabIn (tgt := 126) C gx dX4_signToken_1 (by omega) (by omega) (by rw [c1_58]; rfl) (by decide) ?_
    refine lv_bipush (v := II 8) C.1 C.2.1 dX4_signToken_126 (by decide) ?_
    exact x_ireturn C hr hlk hw hS ⟨by decide, by decide⟩ rfl ⟨rfl, by unfold sgT; (repeat' split) <;> first | rfl | omega⟩ dX4_signToken_128
  by_cases c1_59 : x = 59
  · refine x_tabIn (tgt := 108) C gx dX4_signToken_1 (by omega) (by omega) (by rw [c1_59]; rfl) (by decide) ?_
    refine lv_bipush (v := II 6) C.1 C.2.1 dX4_signToken_108 (by decide) ?_
    exact x_ireturn C hr hlk hw hS ⟨by decide, by decide⟩ rfl ⟨rfl, by unfold sgT; (repeat' split) <;> first | rfl | omega⟩ dX4_signToken_110
  by_cases c1_60 : x = 60
  · refine x_tabIn (tgt := 120) C gx dX4_signToken_1 (by omega) (by omega) (by rw [c1_60]; rfl) (by decide) ?_
    refine lv_bipush (v := II (-11)) C.1 C.2.1 dX4_signToken_120 (by decide) ?_
    exact x_ireturn C hr hlk hw hS ⟨by decide, by decide⟩ rfl ⟨rfl, by unfold sgT; (repeat' split) <;> first | rfl | omega⟩ dX4_signToken_122
  by_cases c1_61 : x = 61
  · refine x_tabIn (tgt := 123) C gx dX4_signToken_1 (by omega) (by omega) (by rw [c1_61]; rfl) (by decide) ?_
    refine lv_bipush (v := II (-12)) C.1 C.2.1 dX4_signToken_123 (by decide) ?_
    exact x_ireturn C hr hlk hw hS ⟨by decide, by decide⟩ rfl ⟨rfl, by unfold sgT; (repeat' split) <;> first | rfl | omega⟩ dX4_signToken_125
  refine x_tabOut (tgt := 126) C gx dX4_signToken_1 (by omega) (by decide) ?_
  refine lv_bipush (v := II 8) C.1 C.2.1 dX4_signToken_126 (by decide) ?_
  exact x_ireturn C hr hlk hw hS ⟨by decide, by decide⟩ rfl ⟨rfl, by unfold sgT; (repeat' split) <;> first | rfl | omega⟩ dX4_signToken_128

set_option maxHeartbeats 4000000 in
set_option maxRecDepth 100000 in
theorem c_X4_numberToken (l : Launch) (g : Gm) (M : Nat → Int) (hT : LvR g) (b : Nat → Int) (n : Nat) (hb : TP M b n) (i : Nat) (hi : i ≤ n) (ha : M 45002 = (i : Int)) (hs : M 45004 = (i : Int)) : CI l ({ cls := "RatedBySighs$Reader", name := "numberToken", desc := "()I" } : Jvm.MethodName) cX4_numberToken 1 .int (rmm 1 20) g M [.ref (gA g 45)] (fun r M' => r = (if 4 < sk dgB b n i - i then 8 else 0) ∧ (M' 45002 = ((sk dgB b n i : Nat) : Int)) ∧ (sk dgB b n i - i ≤ 4 → M' 45005 = vlD b i (sk dgB b n i - i)) ∧ (∀ m, ¬ (m = 45002 ∨ m = 45005) → M' m = M m)) := by
  refine c_start (by decide) (Nat.le_of_ble_eq_true rfl) (fun p e s m below meth c ls C hr hlk hml hw hS hl => ?_)
  have hl : lv_has ls 1 [(0, .ref (gA g 45))] := hl
  generalize ([.ref (gA g 45)] : List Value).toArray = args at C ⊢
  generalize hQQ : MQ below (postI g (fun r M' => r = (if 4 < sk dgB b n i - i then 8 else 0) ∧ (M' 45002 = ((sk dgB b n i : Nat) : Int)) ∧ (sk dgB b n i - i ≤ 4 → M' 45005 = vlD b i (sk dgB b n i - i)) ∧ (∀ m, ¬ (m = 45002 ∨ m = 45005) → M' m = M m))) args s 0 0 (ar g) = QQ
  have g_M := hw.rg
  have hN : 49 ≤ gN g := hT.1
  have hn := hb.2.1
  refine lv_aload_n C.1 C.2.1 dX4_numberToken_0 rfl (lv_at hl 0 rfl) ?_
  refine lv_iconst (v := II 0) C.1 C.2.1 dX4_numberToken_1 rfl ?_
  refine p4 C hw hS 45 (by omega) rfl 5 (by decide) mw_281 rfl (x := 0) ⟨by decide, by decide⟩ (svi st_s) (tyX4_ok 5 (by decide)) rfl rfl dX4_numberToken_2 (fun H locs hw hS => ?_)
  have hw : Wo g (stM M 45005 0) H := hw
  have L5 : ∀ (f1 : Nat) (k : Nat) (M2 : Nat → Int), (n - (i + k)) < f1 → (i + k ≤ n) → (M2 45002 = ((i + k : Nat) : Int)) → (sk dgB b n (i + k) = sk dgB b n i) → (∀ j, j < k → dgB (b (i + j)) = true) → (k ≤ 4 → M2 45005 = vlD b i k) → (∀ m, ¬ (m = 45002 ∨ m = 45005) → M2 m = M m) → ∀ (H : Heap) (locs : List Loc) (ls : Array Slot), Wo g M2 H → va_S (ar g) s.heap H locs → lv_has ls 1 [(0, .ref (gA g 45))] → W p l e (rmm 1 20) s m args below meth c H locs 0 0 QQ (F0 m 5 ls []) := by
    intro f1
    induction f1 with
    | zero => intro k M2 hmu; exact absurd hmu (Nat.not_lt_zero _)
    | succ f1 ih =>
      intro k M2 hmu h1 hat hsk hdg hvl hfr H locs ls hw hS hl
      have ih5 := ih
      have g_M2 := hw.rg
      refine lv_aload_n C.1 C.2.1 dX4_numberToken_5 rfl (lv_at hl 0 rfl) ?_
      refine g4 C hw 45 (by omega) rfl 2 (by decide) mw_277 (svi (x := ((i + k : Nat) : Int)) hat) dX4_numberToken_6 ?_
      refine lv_aload_n C.1 C.2.1 dX4_numberToken_9 rfl (lv_at hl 0 rfl) ?_
      refine g4 C hw 45 (by omega) rfl 1 (by decide) mw_275 (svi (x := (n : Int)) ((hfr _ (by omega)).trans hb.1)) dX4_numberToken_10 ?_
      refine x_icmp_ge (tgt := 68) C ⟨by have := g_M2 45002; have := hat; omega, by have := g_M2 45002; have := hat; omega⟩ ⟨by have := g_M2 45001; have := ((hfr _ (by omega)).trans hb.1); omega, by have := g_M2 45001; have := ((hfr _ (by omega)).trans hb.1); omega⟩ dX4_numberToken_13 (by decide) (fun c13 => ?_) (fun c13 => ?_)
      · have hend : sk dgB b n i = i + k := by
          rw [← hsk]
          first
          | exact sk_e (fun q => by have := q.1; omega)
          | exact sk_e (fun q => by rw [h25b] at q; exact absurd q.2 (by decide))
        have hd9 : sk dgB b n i - i = k := by omega
        refine lv_aload_n C.1 C.2.1 dX4_numberToken_68 rfl (lv_at hl 0 rfl) ?_
        refine g4 C hw 45 (by omega) rfl 2 (by decide) mw_277 (svi (x := ((i + k : Nat) : Int)) hat) dX4_numberToken_69 ?_
        refine lv_aload_n C.1 C.2.1 dX4_numberToken_72 rfl (lv_at hl 0 rfl) ?_
        refine g4 C hw 45 (by omega) rfl 4 (by decide) mw_279 (svi (x := (i : Int)) ((hfr _ (by omega)).trans hs)) dX4_numberToken_73 ?_
        refine x_isub C dX4_numberToken_76 ?_
        refine lv_iconst (v := II 4) C.1 C.2.1 dX4_numberToken_77 rfl ?_
        refine x_icmp_le (tgt := 86) C ⟨by have := g_M2 45002; have := hat; have := g_M2 45004; have := ((hfr _ (by omega)).trans hs); omega, by have := g_M2 45002; have := hat; have := g_M2 45004; have := ((hfr _ (by omega)).trans hs); omega⟩ ⟨by decide, by decide⟩ dX4_numberToken_78 (by decide) (fun c78 => ?_) (fun c78 => ?_)
        · refine lv_iconst (v := II 0) C.1 C.2.1 dX4_numberToken_86 rfl ?_
          subst hQQ; exact x_ireturn C hr hlk hw hS ⟨by decide, by decide⟩ rfl (by rw [hd9]; refine ⟨?_, by rw [hend]; exact hat, fun h4 => hvl (by omega), hfr⟩; first | (rw [if_pos (by omega)]; done) | (rw [if_neg (by omega)]; done)) dX4_numberToken_87
        · refine lv_bipush (v := II 8) C.1 C.2.1 dX4_numberToken_81 (by decide) ?_
          refine lv_goto (tgt := 87) C.1 C.2.1 dX4_numberToken_83 (by decide) ?_
          subst hQQ; exact x_ireturn C hr hlk hw hS ⟨by decide, by decide⟩ rfl (by rw [hd9]; refine ⟨?_, by rw [hend]; exact hat, fun h4 => hvl (by omega), hfr⟩; first | (rw [if_pos (by omega)]; done) | (rw [if_neg (by omega)]; done)) dX4_numberToken_87
      · refine lv_aload_n C.1 C.2.1 dX4_numberToken_16 rfl (lv_at hl 0 rfl) ?_
        refine g4 C hw 45 (by omega) rfl 0 (by decide) mw_274 (svr hT.2.1) dX4_numberToken_17 ?_
        refine lv_aload_n C.1 C.2.1 dX4_numberToken_20 rfl (lv_at hl 0 rfl) ?_
        refine g4 C hw 45 (by omega) rfl 2 (by decide) mw_277 (svi (x := ((i + k : Nat) : Int)) hat) dX4_numberToken_21 ?_
        refine x_iaload (L := 160) C hw 46 (by omega) rfl rfl (by omega) (by omega) (by decide) (x := b (i + k)) ((hfr (46000 + (i + k)) (by omega)).trans (hb.2.2 (i + k) (by omega))) dX4_numberToken_24 ?_
        refine x_ci (x_runS (n := 1) C hw hS hml hl.1 (c_X4_isDigit l g M2 (b (i + k)) ⟨by have := g_M2 (46000 + (i + k : Nat)); have := ((hfr (46000 + (i + k)) (by omega)).trans (hb.2.2 (i + k) (by omega))); omega, by have := g_M2 (46000 + (i + k : Nat)); have := ((hfr (46000 + (i + k)) (by omega)).trans (hb.2.2 (i + k) (by omega))); omega⟩) mw_427 mw_428 mw_122 mw_429 rfl rfl (by decide +kernel) ⟨Nat.le_of_ble_eq_true rfl, Nat.le_of_ble_eq_true rfl⟩ rfl rfl (Nat.le_of_ble_eq_true rfl) dX4_numberToken_25 ⟨Nat.zero_le _, Nat.zero_le _⟩) hS (fun r25 M25 H locs hr25 hp hw hS => ?_)
        rcases hp with ⟨em25, (⟨er25, h25b⟩ | ⟨er25, h25b⟩)⟩
        · have hw : Wo g M2 H := em25 ▸ hw
          rw [er25]
          refine x_if_eq (tgt := 68) C ⟨by decide, by decide⟩ dX4_numberToken_28 (by decide) (fun h => absurd h (by decide)) (fun _ => ?_)
          refine lv_aload_n C.1 C.2.1 dX4_numberToken_31 rfl (lv_at hl 0 rfl) ?_
          refine lv_bipush (v := II 10) C.1 C.2.1 dX4_numberToken_32 (by decide) ?_
          refine lv_aload_n C.1 C.2.1 dX4_numberToken_34 rfl (lv_at hl 0 rfl) ?_
          refine g4 C hw 45 (by omega) rfl 5 (by decide) mw_281 (svi (x := M2 45005) rfl) dX4_numberToken_35 ?_
          refine x_imul C dX4_numberToken_38 ?_
          refine lv_aload_n C.1 C.2.1 dX4_numberToken_39 rfl (lv_at hl 0 rfl) ?_
          refine g4 C hw 45 (by omega) rfl 0 (by decide) mw_274 (svr hT.2.1) dX4_numberToken_40 ?_
          refine lv_aload_n C.1 C.2.1 dX4_numberToken_43 rfl (lv_at hl 0 rfl) ?_
          refine g4 C hw 45 (by omega) rfl 2 (by decide) mw_277 (svi (x := ((i + k : Nat) : Int)) hat) dX4_numberToken_44 ?_
          refine x_iaload (L := 160) C hw 46 (by omega) rfl rfl (by omega) (by omega) (by decide) (x := b (i + k)) ((hfr (46000 + (i + k)) (by omega)).trans (hb.2.2 (i + k) (by omega))) dX4_numberToken_47 ?_
          refine lv_bipush (v := II 48) C.1 C.2.1 dX4_numberToken_48 (by decide) ?_
          refine x_isub C dX4_numberToken_50 ?_
          refine x_iadd C dX4_numberToken_51 ?_
          refine x_top (b := wr ((10 * (M2 45005)) + ((b (i + k)) - 48))) (II_self _).symm ?_
          refine p4 C hw hS 45 (by omega) rfl 5 (by decide) mw_281 rfl (x := wr ((10 * (M2 45005)) + ((b (i + k)) - 48))) (rg_toInt _) (svi st_s) (tyX4_ok 5 (by decide)) rfl rfl dX4_numberToken_52 (fun H locs hw hS => ?_)
          have hw : Wo g (stM M2 45005 (wr ((10 * (M2 45005)) + ((b (i + k)) - 48)))) H := hw
          refine lv_aload_n C.1 C.2.1 dX4_numberToken_55 rfl (lv_at hl 0 rfl) ?_
          refine lv_dup C.1 C.2.1 dX4_numberToken_56 rfl ?_
          refine g4 C hw 45 (by omega) rfl 2 (by decide) mw_277 (svi (x := ((i + k : Nat) : Int)) ((st_n (by decide)).trans hat)) dX4_numberToken_57 ?_
          refine lv_iconst (v := II 1) C.1 C.2.1 dX4_numberToken_60 rfl ?_
          refine x_iadd C dX4_numberToken_61 ?_
          refine p4 C hw hS 45 (by omega) rfl 2 (by decide) mw_277 rfl (x := ((i + k : Nat) : Int) + 1) ⟨by omega, by omega⟩ (svi st_s) (tyX4_ok 2 (by decide)) rfl rfl dX4_numberToken_62 (fun H locs hw hS => ?_)
          have hw : Wo g (stM (stM M2 45005 (wr ((10 * (M2 45005)) + ((b (i + k)) - 48)))) 45002 (((i + k : Nat) : Int) + 1)) H := hw
          refine lv_goto (tgt := 5) C.1 C.2.1 dX4_numberToken_65 (by decide) ?_
          exact ih5  (k + 1) (stM (stM M2 45005 (wr ((10 * (M2 45005)) + ((b (i + k)) - 48)))) 45002 (((i + k : Nat) : Int) + 1)) (by omega) (by omega) (by rw [st_s]; omega) (by rw [← hsk, show i + (k + 1) = i + k + 1 by omega]; exact (sk_s (by omega) h25b).symm) (fun j hj => by by_cases e : j = k <;> first | (rw [e]; exact h25b) | exact hdg j (by omega)) (fun h4 => by
      have hv1 := vlD_4 hdg (by omega)
      have hv2 := h25b
      simp only [dgB, decide_eq_true_eq] at hv2
      rw [st_n (by decide), st_s, hvl (by omega), vlD]
      exact wr_id ⟨by omega, by omega⟩) (fun m q1 => by rw [st_n (fun z => q1 (Or.inl z)), st_n (fun z => q1 (Or.inr z))]; exact hfr m q1) _ _ _ hw hS (lv_sub hl [0] rfl)
        · have hw : Wo g M2 H := em25 ▸ hw
          rw [er25]
          refine x_if_eq (tgt := 68) C ⟨by decide, by decide⟩ dX4_numberToken_28 (by decide) (fun _ => ?_) (fun h => absurd h (by decide))
          have hend : sk dgB b n i = i + k := by
            rw [← hsk]
            first
            | exact sk_e (fun q => by have := q.1; omega)
            | exact sk_e (fun q => by rw [h25b] at q; exact absurd q.2 (by decide))
          have hd9 : sk dgB b n i - i = k := by omega
          refine lv_aload_n C.1 C.2.1 dX4_numberToken_68 rfl (lv_at hl 0 rfl) ?_
          refine g4 C hw 45 (by omega) rfl 2 (by decide) mw_277 (svi (x := ((i + k : Nat) : Int)) hat) dX4_numberToken_69 ?_
          refine lv_aload_n C.1 C.2.1 dX4_numberToken_72 rfl (lv_at hl 0 rfl) ?_
          refine g4 C hw 45 (by omega) rfl 4 (by decide) mw_279 (svi (x := (i : Int)) ((hfr _ (by omega)).trans hs)) dX4_numberToken_73 ?_
          refine x_isub C dX4_numberToken_76 ?_
          refine lv_iconst (v := II 4) C.1 C.2.1 dX4_numberToken_77 rfl ?_
          refine x_icmp_le (tgt := 86) C ⟨by have := g_M2 45002; have := hat; have := g_M2 45004; have := ((hfr _ (by omega)).trans hs); omega, by have := g_M2 45002; have := hat; have := g_M2 45004; have := ((hfr _ (by omega)).trans hs); omega⟩ ⟨by decide, by decide⟩ dX4_numberToken_78 (by decide) (fun c78 => ?_) (fun c78 => ?_)
          · refine lv_iconst (v := II 0) C.1 C.2.1 dX4_numberToken_86 rfl ?_
            subst hQQ; exact x_ireturn C hr hlk hw hS ⟨by decide, by decide⟩ rfl (by rw [hd9]; refine ⟨?_, by rw [hend]; exact hat, fun h4 => hvl (by omega), hfr⟩; first | (rw [if_pos (by omega)]; done) | (rw [if_neg (by omega)]; done)) dX4_numberToken_87
          · refine lv_bipush (v := II 8) C.1 C.2.1 dX4_numberToken_81 (by decide) ?_
            refine lv_goto (tgt := 87) C.1 C.2.1 dX4_numberToken_83 (by decide) ?_
            subst hQQ; exact x_ireturn C hr hlk hw hS ⟨by decide, by decide⟩ rfl (by rw [hd9]; refine ⟨?_, by rw [hend]; exact hat, fun h4 => hvl (by omega), hfr⟩; first | (rw [if_pos (by omega)]; done) | (rw [if_neg (by omega)]; done)) dX4_numberToken_87
  exact L5 _ 0 (stM M 45005 0) (Nat.lt_succ_self _) (by omega) (by rw [st_n (by decide)]; exact ha) rfl (fun _ h => absurd h (Nat.not_lt_zero _)) (fun _ => st_s) (fun m h1 => st_n (fun z => h1 (Or.inr z))) _ _ _ hw hS (lv_sub hl [0] rfl)

set_option maxHeartbeats 4000000 in
set_option maxRecDepth 100000 in
theorem c_X4_spells (l : Launch) (g : Gm) (M : Nat → Int) (hT : LvR g) (b : Nat → Int) (n : Nat) (hb : TP M b n) (w : Nat) (hw9 : w < 13) (s0 : Nat) (e0 : Nat) (hse : s0 ≤ e0 ∧ e0 ≤ n) (ha : M 45002 = (e0 : Int)) (hs : M 45004 = (s0 : Int)) : CI l ({ cls := "RatedBySighs$Reader", name := "spells", desc := "(Ljava/lang/String;)Z" } : Jvm.MethodName) cX4_spells 3 .boolean (rmm 4 85) g M [.ref (gA g 45), .ref (gX g (100 + w))] (fun r M' => M' = M ∧ ((r = 1 ∧ (e0 - s0 = sl w ∧ ∀ j, j < sl w → sb w j = b (s0 + j))) ∨ (r = 0 ∧ (¬ (e0 - s0 = sl w ∧ ∀ j, j < sl w → sb w j = b (s0 + j)))))) := by
  refine c_start (by decide) (Nat.le_of_ble_eq_true rfl) (fun p e s m below meth c ls C hr hlk hml hw hS hl => ?_)
  have hl : lv_has ls 3 [(0, .ref (gA g 45)), (1, .ref (gX g (100 + w)))] := hl
  generalize ([.ref (gA g 45), .ref (gX g (100 + w))] : List Value).toArray = args at C ⊢
  generalize hQQ : MQ below (postI g (fun r M' => M' = M ∧ ((r = 1 ∧ (e0 - s0 = sl w ∧ ∀ j, j < sl w → sb w j = b (s0 + j))) ∨ (r = 0 ∧ (¬ (e0 - s0 = sl w ∧ ∀ j, j < sl w → sb w j = b (s0 + j))))))) args s 0 0 (ar g) = QQ
  have g_M := hw.rg
  have hN : 49 ≤ gN g := hT.1
  have hn := hb.2.1
  have h38 := sl_in w hw9
  refine lv_aload_n C.1 C.2.1 dX4_spells_0 rfl (lv_at hl 1 rfl) ?_
  refine x_ci (x_runVs (n := 0) C hw hS hml hl.1 w (by omega) (c_J0_length l g M w (by first | assumption | omega | exact ⟨by omega, by omega⟩ | decide)) mw_414 mw_343 mw_344 mw_125 mw_345 rfl rfl (by decide +kernel) ⟨Nat.le_of_ble_eq_true rfl, Nat.le_of_ble_eq_true rfl⟩ rfl rfl (Nat.le_of_ble_eq_true rfl) dX4_spells_1 ⟨Nat.zero_le _, Nat.zero_le _⟩) hS (fun r1 M1 H locs hr1 hp hw hS => ?_)
  obtain ⟨em1, er1⟩ := hp
  have hw : Wo g M H := em1 ▸ hw
  rw [er1] at hr1 ⊢
  refine lv_aload_n C.1 C.2.1 dX4_spells_4 rfl (lv_at hl 0 rfl) ?_
  refine g4 C hw 45 (by omega) rfl 2 (by decide) mw_277 (svi (x := (e0 : Int)) ha) dX4_spells_5 ?_
  refine lv_aload_n C.1 C.2.1 dX4_spells_8 rfl (lv_at hl 0 rfl) ?_
  refine g4 C hw 45 (by omega) rfl 4 (by decide) mw_279 (svi (x := (s0 : Int)) hs) dX4_spells_9 ?_
  refine x_isub C dX4_spells_12 ?_
  refine x_icmp_eq (tgt := 18) C hr1 ⟨by have := g_M 45002; have := ha; have := g_M 45004; have := hs; omega, by have := g_M 45002; have := ha; have := g_M 45004; have := hs; omega⟩ dX4_spells_13 (by decide) (fun c13 => ?_) (fun c13 => ?_)
  · refine lv_iconst (v := II 0) C.1 C.2.1 dX4_spells_18 rfl ?_
    refine lv_istore_n (lv' := [(2, .int (II 0)), (0, .ref (gA g 45)), (1, .ref (gX g (100 + w)))]) C.1 C.2.1 dX4_spells_19 rfl hl (by decide) rfl (fun ls hl => ?_)
    have L20 : ∀ (f1 : Nat) (j : Nat), (sl w - j) < f1 → (j ≤ sl w) → (∀ x, x < j → sb w x = b (s0 + x)) → ∀ (H : Heap) (locs : List Loc) (ls : Array Slot), Wo g M H → va_S (ar g) s.heap H locs → lv_has ls 3 [(0, .ref (gA g 45)), (1, .ref (gX g (100 + w))), (2, .int (II (j : Int)))] → W p l e (rmm 4 85) s m args below meth c H locs 0 0 QQ (F0 m 20 ls []) := by
      intro f1
      induction f1 with
      | zero => intro j hmu; exact absurd hmu (Nat.not_lt_zero _)
      | succ f1 ih =>
        intro j hmu h1 h2 H locs ls hw hS hl
        have ih20 := ih
        refine lv_iload_n C.1 C.2.1 dX4_spells_20 rfl (lv_at hl 2 rfl) ?_
        refine lv_aload_n C.1 C.2.1 dX4_spells_21 rfl (lv_at hl 1 rfl) ?_
        refine x_ci (x_runVs (n := 0) C hw hS hml hl.1 w (by omega) (c_J0_length l g M w (by first | assumption | omega | exact ⟨by omega, by omega⟩ | decide)) mw_414 mw_343 mw_344 mw_125 mw_345 rfl rfl (by decide +kernel) ⟨Nat.le_of_ble_eq_true rfl, Nat.le_of_ble_eq_true rfl⟩ rfl rfl (Nat.le_of_ble_eq_true rfl) dX4_spells_22 ⟨Nat.zero_le _, Nat.zero_le _⟩) hS (fun r22 M22 H locs hr22 hp hw hS => ?_)
        obtain ⟨em22, er22⟩ := hp
        have hw : Wo g M H := em22 ▸ hw
        rw [er22] at hr22 ⊢
        refine x_icmp_ge (tgt := 55) C ⟨by omega, by omega⟩ hr22 dX4_spells_25 (by decide) (fun c25 => ?_) (fun c25 => ?_)
        · refine lv_iconst (v := II 1) C.1 C.2.1 dX4_spells_55 rfl ?_
          subst hQQ; exact x_ireturn C hr hlk hw hS ⟨by decide, by decide⟩ (by decide) ⟨rfl, Or.inl ⟨rfl, by omega, fun x hx => h2 x (by omega)⟩⟩ dX4_spells_56
        · have hsb := sb_in w hw9 j (by omega)
          refine lv_aload_n C.1 C.2.1 dX4_spells_28 rfl (lv_at hl 1 rfl) ?_
          refine lv_iload_n C.1 C.2.1 dX4_spells_29 rfl (lv_at hl 2 rfl) ?_
          refine x_ci (x_runVs (n := 1) C hw hS hml hl.1 w (by omega) (c_J0_charAt l g M w (by first | assumption | omega | exact ⟨by omega, by omega⟩ | decide) j (by first | assumption | omega | exact ⟨by omega, by omega⟩ | decide)) mw_415 mw_353 mw_354 mw_125 mw_355 rfl rfl (by decide +kernel) ⟨Nat.le_of_ble_eq_true rfl, Nat.le_of_ble_eq_true rfl⟩ rfl rfl (Nat.le_of_ble_eq_true rfl) dX4_spells_30 ⟨Nat.zero_le _, Nat.zero_le _⟩) hS (fun r30 M30 H locs hr30 hp hw hS => ?_)
          obtain ⟨em30, er30⟩ := hp
          have hw : Wo g M H := em30 ▸ hw
          rw [er30] at hr30 ⊢
          refine lv_aload_n C.1 C.2.1 dX4_spells_33 rfl (lv_at hl 0 rfl) ?_
          refine g4 C hw 45 (by omega) rfl 0 (by decide) mw_274 (svr hT.2.1) dX4_spells_34 ?_
          refine lv_aload_n C.1 C.2.1 dX4_spells_37 rfl (lv_at hl 0 rfl) ?_
          refine g4 C hw 45 (by omega) rfl 4 (by decide) mw_279 (svi (x := (s0 : Int)) hs) dX4_spells_38 ?_
          refine lv_iload_n C.1 C.2.1 dX4_spells_41 rfl (lv_at hl 2 rfl) ?_
          refine x_iadd C dX4_spells_42 ?_
          refine x_iaload (L := 160) C hw 46 (by omega) rfl rfl (by omega) (by omega) (by decide) (x := b (s0 + j)) ((congrArg (fun z => M (1000 * 46 + z)) (by omega)).trans (hb.2.2 (s0 + j) (by omega))) dX4_spells_43 ?_
          refine x_icmp_eq (tgt := 49) C hr30 ⟨by have := g_M (46000 + (s0 + j)); have := (hb.2.2 (s0 + j) (by omega)); omega, by have := g_M (46000 + (s0 + j)); have := (hb.2.2 (s0 + j) (by omega)); omega⟩ dX4_spells_44 (by decide) (fun c44 => ?_) (fun c44 => ?_)
          · refine lv_iinc (v := II ((j : Int) + 1)) (lv' := [(2, .int (II ((j : Int) + 1))), (0, .ref (gA g 45)), (1, .ref (gX g (100 + w)))]) C.1 C.2.1 dX4_spells_49 hl (k := 2) rfl (II_add _ _) (by decide) rfl (fun ls hl => ?_)
            refine lv_goto (tgt := 20) C.1 C.2.1 dX4_spells_52 (by decide) ?_
            exact ih20  (j + 1) (by omega) (by omega) (fun x hx => by by_cases e : x = j <;> first | (rw [e]; exact c44) | exact h2 x (by omega)) _ _ _ hw hS (lv_sub hl [1, 2, 0] rfl)
          · refine lv_iconst (v := II 0) C.1 C.2.1 dX4_spells_47 rfl ?_
            subst hQQ; exact x_ireturn C hr hlk hw hS ⟨by decide, by decide⟩ (by decide) ⟨rfl, Or.inr ⟨rfl, fun q => c44 (q.2 j (by omega))⟩⟩ dX4_spells_48
    exact L20 _ 0 (Nat.lt_succ_self _) (by omega) (fun _ h => absurd h (Nat.not_lt_zero _)) _ _ _ hw hS (lv_sub hl [1, 2, 0] rfl)
  · refine lv_iconst (v := II 0) C.1 C.2.1 dX4_spells_16 rfl ?_
    subst hQQ; exact x_ireturn C hr hlk hw hS ⟨by decide, by decide⟩ (by decide) ⟨rfl, Or.inr ⟨rfl, fun q => by have := q.1; omega⟩⟩ dX4_spells_17

set_option maxHeartbeats 4000000 in
set_option maxRecDepth 100000 in
theorem c_X4_wordToken (l : Launch) (g : Gm) (M : Nat → Int) (hT : LvR g) (b : Nat → Int) (n : Nat) (hb : TP M b n) (i : Nat) (hi : i ≤ n) (ha : M 45002 = (i : Int)) (hs : M 45004 = (i : Int)) : CI l ({ cls := "RatedBySighs$Reader", name := "wordToken", desc := "()I" } : Jvm.MethodName) cX4_wordToken 1 .int (rmm 5 107) g M [.ref (gA g 45)] (fun r M' => r = wdT b i (sk ltB b n i) ∧ (M' 45002 = ((sk ltB b n i : Nat) : Int)) ∧ (∀ m, m ≠ 45002 → M' m = M m)) := by
  refine c_start (by decide) (Nat.le_of_ble_eq_true rfl) (fun p e s m below meth c ls C hr hlk hml hw hS hl => ?_)
  have hl : lv_has ls 1 [(0, .ref (gA g 45))] := hl
  generalize ([.ref (gA g 45)] : List Value).toArray = args at C ⊢
  generalize hQQ : MQ below (postI g (fun r M' => r = wdT b i (sk ltB b n i) ∧ (M' 45002 = ((sk ltB b n i : Nat) : Int)) ∧ (∀ m, m ≠ 45002 → M' m = M m))) args s 0 0 (ar g) = QQ
  have g_M := hw.rg
  have hN : 49 ≤ gN g := hT.1
  have hn := hb.2.1
  have L0 : ∀ (f1 : Nat) (k : Nat) (M2 : Nat → Int), (n - (i + k)) < f1 → (i + k ≤ n) → (M2 45002 = ((i + k : Nat) : Int)) → (sk ltB b n (i + k) = sk ltB b n i) → (∀ m, m ≠ 45002 → M2 m = M m) → ∀ (H : Heap) (locs : List Loc) (ls : Array Slot), Wo g M2 H → va_S (ar g) s.heap H locs → lv_has ls 1 [(0, .ref (gA g 45))] → W p l e (rmm 5 107) s m args below meth c H locs 0 0 QQ (F0 m 0 ls []) := by
    intro f1
    induction f1 with
    | zero => intro k M2 hmu; exact absurd hmu (Nat.not_lt_zero _)
    | succ f1 ih =>
      intro k M2 hmu h1 hat hsk hfr H locs ls hw hS hl
      have ih0 := ih
      have g_M2 := hw.rg
      refine lv_aload_n C.1 C.2.1 dX4_wordToken_0 rfl (lv_at hl 0 rfl) ?_
      refine g4 C hw 45 (by omega) rfl 2 (by decide) mw_277 (svi (x := ((i + k : Nat) : Int)) hat) dX4_wordToken_1 ?_
      refine lv_aload_n C.1 C.2.1 dX4_wordToken_4 rfl (lv_at hl 0 rfl) ?_
      refine g4 C hw 45 (by omega) rfl 1 (by decide) mw_275 (svi (x := (n : Int)) ((hfr _ (by omega)).trans hb.1)) dX4_wordToken_5 ?_
      refine x_icmp_ge (tgt := 39) C ⟨by have := g_M2 45002; have := hat; omega, by have := g_M2 45002; have := hat; omega⟩ ⟨by have := g_M2 45001; have := ((hfr _ (by omega)).trans hb.1); omega, by have := g_M2 45001; have := ((hfr _ (by omega)).trans hb.1); omega⟩ dX4_wordToken_8 (by decide) (fun c8 => ?_) (fun c8 => ?_)
      · have hend : sk ltB b n i = i + k := by
          rw [← hsk]
          first
          | exact sk_e (fun q => by have := q.1; omega)
          | exact sk_e (fun q => by rw [h20b] at q; exact absurd q.2 (by decide))
        refine lv_aload_n C.1 C.2.1 dX4_wordToken_39 rfl (lv_at hl 0 rfl) ?_
        refine x_ldcS C 1 (by decide) rfl rfl dX4_wordToken_40 ?_
        refine x_ci (x_runV (n := 1) C hw hS hml hl.1 45 4 (by omega) rfl (by decide) rfl (c_X4_spells l g M2 hT b n (hb.fr (fun m hm => hfr m (by omega))) 1 (by first | assumption | omega | exact ⟨by omega, by omega⟩ | decide) i (i + k) ⟨by omega, by omega⟩ hat ((hfr _ (by decide)).trans hs)) mw_410 mw_412 mw_4 mw_122 mw_413 rfl rfl (by decide +kernel) ⟨Nat.le_of_ble_eq_true rfl, Nat.le_of_ble_eq_true rfl⟩ rfl rfl (Nat.le_of_ble_eq_true rfl) dX4_wordToken_42 ⟨Nat.zero_le _, Nat.zero_le _⟩) hS (fun r42 M42 H locs hr42 hp hw hS => ?_)
        rcases hp with ⟨em42, (⟨er42, h42b⟩ | ⟨er42, h42b⟩)⟩
        · have hw : Wo g M2 H := em42 ▸ hw
          rw [er42]
          have k45 : spw [115, 105, 103, 104, 115] b i (i + k) = true := (sp_iff (by decide) sb_1).mpr h42b
          refine x_if_eq (tgt := 50) C ⟨by decide, by decide⟩ dX4_wordToken_45 (by decide) (fun h => absurd h (by decide)) (fun _ => ?_)
          refine lv_iconst (v := II 1) C.1 C.2.1 dX4_wordToken_48 rfl ?_
          subst hQQ; exact x_ireturn C hr hlk hw hS ⟨by decide, by decide⟩ rfl (by rw [hend]; refine ⟨?_, hat, hfr⟩; simp [wdT, k45]) dX4_wordToken_49
        · have hw : Wo g M2 H := em42 ▸ hw
          rw [er42]
          have k45 : spw [115, 105, 103, 104, 115] b i (i + k) = false := sp_no (by decide) sb_1 h42b
          refine x_if_eq (tgt := 50) C ⟨by decide, by decide⟩ dX4_wordToken_45 (by decide) (fun _ => ?_) (fun h => absurd h (by decide))
          refine lv_aload_n C.1 C.2.1 dX4_wordToken_50 rfl (lv_at hl 0 rfl) ?_
          refine x_ldcS C 2 (by decide) rfl rfl dX4_wordToken_51 ?_
          refine x_ci (x_runV (n := 1) C hw hS hml hl.1 45 4 (by omega) rfl (by decide) rfl (c_X4_spells l g M2 hT b n (hb.fr (fun m hm => hfr m (by omega))) 2 (by first | assumption | omega | exact ⟨by omega, by omega⟩ | decide) i (i + k) ⟨by omega, by omega⟩ hat ((hfr _ (by decide)).trans hs)) mw_410 mw_412 mw_4 mw_122 mw_413 rfl rfl (by decide +kernel) ⟨Nat.le_of_ble_eq_true rfl, Nat.le_of_ble_eq_true rfl⟩ rfl rfl (Nat.le_of_ble_eq_true rfl) dX4_wordToken_53 ⟨Nat.zero_le _, Nat.zero_le _⟩) hS (fun r53 M53 H locs hr53 hp hw hS => ?_)
          rcases hp with ⟨em53, (⟨er53, h53b⟩ | ⟨er53, h53b⟩)⟩
          · have hw : Wo g M2 H := em53 ▸ hw
            rw [er53]
            have k56 : spw [109, 111, 111, 100, 115] b i (i + k) = true := (sp_iff (by decide) sb_2).mpr h53b
            refine x_if_eq (tgt := 61) C ⟨by decide, by decide⟩ dX4_wordToken_56 (by decide) (fun h => absurd h (by decide)) (fun _ => ?_)
            refine lv_iconst (v := II 2) C.1 C.2.1 dX4_wordToken_59 rfl ?_
            subst hQQ; exact x_ireturn C hr hlk hw hS ⟨by decide, by decide⟩ rfl (by rw [hend]; refine ⟨?_, hat, hfr⟩; simp [wdT, k45, k56]) dX4_wordToken_60
          · have hw : Wo g M2 H := em53 ▸ hw
            rw [er53]
            have k56 : spw [109, 111, 111, 100, 115] b i (i + k) = false := sp_no (by decide) sb_2 h53b
            refine x_if_eq (tgt := 61) C ⟨by decide, by decide⟩ dX4_wordToken_56 (by decide) (fun _ => ?_) (fun h => absurd h (by decide))
            refine lv_aload_n C.1 C.2.1 dX4_wordToken_61 rfl (lv_at hl 0 rfl) ?_
            refine x_ldcS C 3 (by decide) rfl rfl dX4_wordToken_62 ?_
            refine x_ci (x_runV (n := 1) C hw hS hml hl.1 45 4 (by omega) rfl (by decide) rfl (c_X4_spells l g M2 hT b n (hb.fr (fun m hm => hfr m (by omega))) 3 (by first | assumption | omega | exact ⟨by omega, by omega⟩ | decide) i (i + k) ⟨by omega, by omega⟩ hat ((hfr _ (by decide)).trans hs)) mw_410 mw_412 mw_4 mw_122 mw_413 rfl rfl (by decide +kernel) ⟨Nat.le_of_ble_eq_true rfl, Nat.le_of_ble_eq_true rfl⟩ rfl rfl (Nat.le_of_ble_eq_true rfl) dX4_wordToken_64 ⟨Nat.zero_le _, Nat.zero_le _⟩) hS (fun r64 M64 H locs hr64 hp hw hS => ?_)
            rcases hp with ⟨em64, (⟨er64, h64b⟩ | ⟨er64, h64b⟩)⟩
            · have hw : Wo g M2 H := em64 ▸ hw
              rw [er64]
              have k67 : spw [112, 97, 121, 115] b i (i + k) = true := (sp_iff (by decide) sb_3).mpr h64b
              refine x_if_eq (tgt := 72) C ⟨by decide, by decide⟩ dX4_wordToken_67 (by decide) (fun h => absurd h (by decide)) (fun _ => ?_)
              refine lv_iconst (v := II 3) C.1 C.2.1 dX4_wordToken_70 rfl ?_
              subst hQQ; exact x_ireturn C hr hlk hw hS ⟨by decide, by decide⟩ rfl (by rw [hend]; refine ⟨?_, hat, hfr⟩; simp [wdT, k45, k56, k67]) dX4_wordToken_71
            · have hw : Wo g M2 H := em64 ▸ hw
              rw [er64]
              have k67 : spw [112, 97, 121, 115] b i (i + k) = false := sp_no (by decide) sb_3 h64b
              refine x_if_eq (tgt := 72) C ⟨by decide, by decide⟩ dX4_wordToken_67 (by decide) (fun _ => ?_) (fun h => absurd h (by decide))
              refine lv_aload_n C.1 C.2.1 dX4_wordToken_72 rfl (lv_at hl 0 rfl) ?_
              refine x_ldcS C 4 (by decide) rfl rfl dX4_wordToken_73 ?_
              refine x_ci (x_runV (n := 1) C hw hS hml hl.1 45 4 (by omega) rfl (by decide) rfl (c_X4_spells l g M2 hT b n (hb.fr (fun m hm => hfr m (by omega))) 4 (by first | assumption | omega | exact ⟨by omega, by omega⟩ | decide) i (i + k) ⟨by omega, by omega⟩ hat ((hfr _ (by decide)).trans hs)) mw_410 mw_412 mw_4 mw_122 mw_413 rfl rfl (by decide +kernel) ⟨Nat.le_of_ble_eq_true rfl, Nat.le_of_ble_eq_true rfl⟩ rfl rfl (Nat.le_of_ble_eq_true rfl) dX4_wordToken_75 ⟨Nat.zero_le _, Nat.zero_le _⟩) hS (fun r75 M75 H locs hr75 hp hw hS => ?_)
              rcases hp with ⟨em75, (⟨er75, h75b⟩ | ⟨er75, h75b⟩)⟩
              · have hw : Wo g M2 H := em75 ▸ hw
                rw [er75]
                have k78 : spw [111, 114] b i (i + k) = true := (sp_iff (by decide) sb_4).mpr h75b
                refine x_if_eq (tgt := 84) C ⟨by decide, by decide⟩ dX4_wordToken_78 (by decide) (fun h => absurd h (by decide)) (fun _ => ?_)
                refine lv_bipush (v := II (-9)) C.1 C.2.1 dX4_wordToken_81 (by decide) ?_
                subst hQQ; exact x_ireturn C hr hlk hw hS ⟨by decide, by decide⟩ rfl (by rw [hend]; refine ⟨?_, hat, hfr⟩; simp [wdT, k45, k56, k67, k78]) dX4_wordToken_83
              · have hw : Wo g M2 H := em75 ▸ hw
                rw [er75]
                have k78 : spw [111, 114] b i (i + k) = false := sp_no (by decide) sb_4 h75b
                refine x_if_eq (tgt := 84) C ⟨by decide, by decide⟩ dX4_wordToken_78 (by decide) (fun _ => ?_) (fun h => absurd h (by decide))
                refine lv_aload_n C.1 C.2.1 dX4_wordToken_84 rfl (lv_at hl 0 rfl) ?_
                refine x_ldcS C 5 (by decide) rfl rfl dX4_wordToken_85 ?_
                refine x_ci (x_runV (n := 1) C hw hS hml hl.1 45 4 (by omega) rfl (by decide) rfl (c_X4_spells l g M2 hT b n (hb.fr (fun m hm => hfr m (by omega))) 5 (by first | assumption | omega | exact ⟨by omega, by omega⟩ | decide) i (i + k) ⟨by omega, by omega⟩ hat ((hfr _ (by decide)).trans hs)) mw_410 mw_412 mw_4 mw_122 mw_413 rfl rfl (by decide +kernel) ⟨Nat.le_of_ble_eq_true rfl, Nat.le_of_ble_eq_true rfl⟩ rfl rfl (Nat.le_of_ble_eq_true rfl) dX4_wordToken_87 ⟨Nat.zero_le _, Nat.zero_le _⟩) hS (fun r87 M87 H locs hr87 hp hw hS => ?_)
                rcases hp with ⟨em87, (⟨er87, h87b⟩ | ⟨er87, h87b⟩)⟩
                · have hw : Wo g M2 H := em87 ▸ hw
                  rw [er87]
                  have k90 : spw [97, 110, 100] b i (i + k) = true := (sp_iff (by decide) sb_5).mpr h87b
                  refine x_if_eq (tgt := 96) C ⟨by decide, by decide⟩ dX4_wordToken_90 (by decide) (fun h => absurd h (by decide)) (fun _ => ?_)
                  refine lv_bipush (v := II (-10)) C.1 C.2.1 dX4_wordToken_93 (by decide) ?_
                  subst hQQ; exact x_ireturn C hr hlk hw hS ⟨by decide, by decide⟩ rfl (by rw [hend]; refine ⟨?_, hat, hfr⟩; simp [wdT, k45, k56, k67, k78, k90]) dX4_wordToken_95
                · have hw : Wo g M2 H := em87 ▸ hw
                  rw [er87]
                  have k90 : spw [97, 110, 100] b i (i + k) = false := sp_no (by decide) sb_5 h87b
                  refine x_if_eq (tgt := 96) C ⟨by decide, by decide⟩ dX4_wordToken_90 (by decide) (fun _ => ?_) (fun h => absurd h (by decide))
                  refine lv_aload_n C.1 C.2.1 dX4_wordToken_96 rfl (lv_at hl 0 rfl) ?_
                  refine x_ldcS C 6 (by decide) rfl rfl dX4_wordToken_97 ?_
                  refine x_ci (x_runV (n := 1) C hw hS hml hl.1 45 4 (by omega) rfl (by decide) rfl (c_X4_spells l g M2 hT b n (hb.fr (fun m hm => hfr m (by omega))) 6 (by first | assumption | omega | exact ⟨by omega, by omega⟩ | decide) i (i + k) ⟨by omega, by omega⟩ hat ((hfr _ (by decide)).trans hs)) mw_410 mw_412 mw_4 mw_122 mw_413 rfl rfl (by decide +kernel) ⟨Nat.le_of_ble_eq_true rfl, Nat.le_of_ble_eq_true rfl⟩ rfl rfl (Nat.le_of_ble_eq_true rfl) dX4_wordToken_99 ⟨Nat.zero_le _, Nat.zero_le _⟩) hS (fun r99 M99 H locs hr99 hp hw hS => ?_)
                  rcases hp with ⟨em99, (⟨er99, h99b⟩ | ⟨er99, h99b⟩)⟩
                  · have hw : Wo g M2 H := em99 ▸ hw
                    rw [er99]
                    have k102 : spw [110, 111, 116] b i (i + k) = true := (sp_iff (by decide) sb_6).mpr h99b
                    refine x_if_eq (tgt := 108) C ⟨by decide, by decide⟩ dX4_wordToken_102 (by decide) (fun h => absurd h (by decide)) (fun _ => ?_)
                    refine lv_bipush (v := II (-8)) C.1 C.2.1 dX4_wordToken_105 (by decide) ?_
                    subst hQQ; exact x_ireturn C hr hlk hw hS ⟨by decide, by decide⟩ rfl (by rw [hend]; refine ⟨?_, hat, hfr⟩; simp [wdT, k45, k56, k67, k78, k90, k102]) dX4_wordToken_107
                  · have hw : Wo g M2 H := em99 ▸ hw
                    rw [er99]
                    have k102 : spw [110, 111, 116] b i (i + k) = false := sp_no (by decide) sb_6 h99b
                    refine x_if_eq (tgt := 108) C ⟨by decide, by decide⟩ dX4_wordToken_102 (by decide) (fun _ => ?_) (fun h => absurd h (by decide))
                    refine lv_aload_n C.1 C.2.1 dX4_wordToken_108 rfl (lv_at hl 0 rfl) ?_
                    refine x_ldcS C 7 (by decide) rfl rfl dX4_wordToken_109 ?_
                    refine x_ci (x_runV (n := 1) C hw hS hml hl.1 45 4 (by omega) rfl (by decide) rfl (c_X4_spells l g M2 hT b n (hb.fr (fun m hm => hfr m (by omega))) 7 (by first | assumption | omega | exact ⟨by omega, by omega⟩ | decide) i (i + k) ⟨by omega, by omega⟩ hat ((hfr _ (by decide)).trans hs)) mw_410 mw_412 mw_4 mw_122 mw_413 rfl rfl (by decide +kernel) ⟨Nat.le_of_ble_eq_true rfl, Nat.le_of_ble_eq_true rfl⟩ rfl rfl (Nat.le_of_ble_eq_true rfl) dX4_wordToken_111 ⟨Nat.zero_le _, Nat.zero_le _⟩) hS (fun r111 M111 H locs hr111 hp hw hS => ?_)
                    rcases hp with ⟨em111, (⟨er111, h111b⟩ | ⟨er111, h111b⟩)⟩
                    · have hw : Wo g M2 H := em111 ▸ hw
                      rw [er111]
                      have k114 : spw [109, 111, 111, 100] b i (i + k) = true := (sp_iff (by decide) sb_7).mpr h111b
                      refine x_if_eq (tgt := 119) C ⟨by decide, by decide⟩ dX4_wordToken_114 (by decide) (fun h => absurd h (by decide)) (fun _ => ?_)
                      refine lv_iconst (v := II (-1)) C.1 C.2.1 dX4_wordToken_117 rfl ?_
                      subst hQQ; exact x_ireturn C hr hlk hw hS ⟨by decide, by decide⟩ rfl (by rw [hend]; refine ⟨?_, hat, hfr⟩; simp [wdT, k45, k56, k67, k78, k90, k102, k114]) dX4_wordToken_118
                    · have hw : Wo g M2 H := em111 ▸ hw
                      rw [er111]
                      have k114 : spw [109, 111, 111, 100] b i (i + k) = false := sp_no (by decide) sb_7 h111b
                      refine x_if_eq (tgt := 119) C ⟨by decide, by decide⟩ dX4_wordToken_114 (by decide) (fun _ => ?_) (fun h => absurd h (by decide))
                      refine lv_aload_n C.1 C.2.1 dX4_wordToken_119 rfl (lv_at hl 0 rfl) ?_
                      refine x_ldcS C 8 (by decide) rfl rfl dX4_wordToken_120 ?_
                      refine x_ci (x_runV (n := 1) C hw hS hml hl.1 45 4 (by omega) rfl (by decide) rfl (c_X4_spells l g M2 hT b n (hb.fr (fun m hm => hfr m (by omega))) 8 (by first | assumption | omega | exact ⟨by omega, by omega⟩ | decide) i (i + k) ⟨by omega, by omega⟩ hat ((hfr _ (by decide)).trans hs)) mw_410 mw_412 mw_4 mw_122 mw_413 rfl rfl (by decide +kernel) ⟨Nat.le_of_ble_eq_true rfl, Nat.le_of_ble_eq_true rfl⟩ rfl rfl (Nat.le_of_ble_eq_true rfl) dX4_wordToken_122 ⟨Nat.zero_le _, Nat.zero_le _⟩) hS (fun r122 M122 H locs hr122 hp hw hS => ?_)
                      rcases hp with ⟨em122, (⟨er122, h122b⟩ | ⟨er122, h122b⟩)⟩
                      · have hw : Wo g M2 H := em122 ▸ hw
                        rw [er122]
                        have k125 : spw [104, 111, 117, 114] b i (i + k) = true := (sp_iff (by decide) sb_8).mpr h122b
                        refine x_if_eq (tgt := 131) C ⟨by decide, by decide⟩ dX4_wordToken_125 (by decide) (fun h => absurd h (by decide)) (fun _ => ?_)
                        refine lv_bipush (v := II (-2)) C.1 C.2.1 dX4_wordToken_128 (by decide) ?_
                        subst hQQ; exact x_ireturn C hr hlk hw hS ⟨by decide, by decide⟩ rfl (by rw [hend]; refine ⟨?_, hat, hfr⟩; simp [wdT, k45, k56, k67, k78, k90, k102, k114, k125]) dX4_wordToken_130
                      · have hw : Wo g M2 H := em122 ▸ hw
                        rw [er122]
                        have k125 : spw [104, 111, 117, 114] b i (i + k) = false := sp_no (by decide) sb_8 h122b
                        refine x_if_eq (tgt := 131) C ⟨by decide, by decide⟩ dX4_wordToken_125 (by decide) (fun _ => ?_) (fun h => absurd h (by decide))
                        refine lv_aload_n C.1 C.2.1 dX4_wordToken_131 rfl (lv_at hl 0 rfl) ?_
                        refine x_ldcS C 9 (by decide) rfl rfl dX4_wordToken_132 ?_
                        refine x_ci (x_runV (n := 1) C hw hS hml hl.1 45 4 (by omega) rfl (by decide) rfl (c_X4_spells l g M2 hT b n (hb.fr (fun m hm => hfr m (by omega))) 9 (by first | assumption | omega | exact ⟨by omega, by omega⟩ | decide) i (i + k) ⟨by omega, by omega⟩ hat ((hfr _ (by decide)).trans hs)) mw_410 mw_412 mw_4 mw_122 mw_413 rfl rfl (by decide +kernel) ⟨Nat.le_of_ble_eq_true rfl, Nat.le_of_ble_eq_true rfl⟩ rfl rfl (Nat.le_of_ble_eq_true rfl) dX4_wordToken_134 ⟨Nat.zero_le _, Nat.zero_le _⟩) hS (fun r134 M134 H locs hr134 hp hw hS => ?_)
                        rcases hp with ⟨em134, (⟨er134, h134b⟩ | ⟨er134, h134b⟩)⟩
                        · have hw : Wo g M2 H := em134 ▸ hw
                          rw [er134]
                          have k137 : spw [110, 117, 109, 98, 101, 114] b i (i + k) = true := (sp_iff (by decide) sb_9).mpr h134b
                          refine x_if_eq (tgt := 143) C ⟨by decide, by decide⟩ dX4_wordToken_137 (by decide) (fun h => absurd h (by decide)) (fun _ => ?_)
                          refine lv_bipush (v := II (-3)) C.1 C.2.1 dX4_wordToken_140 (by decide) ?_
                          subst hQQ; exact x_ireturn C hr hlk hw hS ⟨by decide, by decide⟩ rfl (by rw [hend]; refine ⟨?_, hat, hfr⟩; simp [wdT, k45, k56, k67, k78, k90, k102, k114, k125, k137]) dX4_wordToken_142
                        · have hw : Wo g M2 H := em134 ▸ hw
                          rw [er134]
                          have k137 : spw [110, 117, 109, 98, 101, 114] b i (i + k) = false := sp_no (by decide) sb_9 h134b
                          refine x_if_eq (tgt := 143) C ⟨by decide, by decide⟩ dX4_wordToken_137 (by decide) (fun _ => ?_) (fun h => absurd h (by decide))
                          refine lv_aload_n C.1 C.2.1 dX4_wordToken_143 rfl (lv_at hl 0 rfl) ?_
                          refine x_ldcS C 10 (by decide) rfl rfl dX4_wordToken_144 ?_
                          refine x_ci (x_runV (n := 1) C hw hS hml hl.1 45 4 (by omega) rfl (by decide) rfl (c_X4_spells l g M2 hT b n (hb.fr (fun m hm => hfr m (by omega))) 10 (by first | assumption | omega | exact ⟨by omega, by omega⟩ | decide) i (i + k) ⟨by omega, by omega⟩ hat ((hfr _ (by decide)).trans hs)) mw_410 mw_412 mw_4 mw_122 mw_413 rfl rfl (by decide +kernel) ⟨Nat.le_of_ble_eq_true rfl, Nat.le_of_ble_eq_true rfl⟩ rfl rfl (Nat.le_of_ble_eq_true rfl) dX4_wordToken_146 ⟨Nat.zero_le _, Nat.zero_le _⟩) hS (fun r146 M146 H locs hr146 hp hw hS => ?_)
                          rcases hp with ⟨em146, (⟨er146, h146b⟩ | ⟨er146, h146b⟩)⟩
                          · have hw : Wo g M2 H := em146 ▸ hw
                            rw [er146]
                            have k149 : spw [111, 116, 104, 101, 114, 115] b i (i + k) = true := (sp_iff (by decide) sb_10).mpr h146b
                            refine x_if_eq (tgt := 155) C ⟨by decide, by decide⟩ dX4_wordToken_149 (by decide) (fun h => absurd h (by decide)) (fun _ => ?_)
                            refine lv_bipush (v := II (-4)) C.1 C.2.1 dX4_wordToken_152 (by decide) ?_
                            subst hQQ; exact x_ireturn C hr hlk hw hS ⟨by decide, by decide⟩ rfl (by rw [hend]; refine ⟨?_, hat, hfr⟩; simp [wdT, k45, k56, k67, k78, k90, k102, k114, k125, k137, k149]) dX4_wordToken_154
                          · have hw : Wo g M2 H := em146 ▸ hw
                            rw [er146]
                            have k149 : spw [111, 116, 104, 101, 114, 115] b i (i + k) = false := sp_no (by decide) sb_10 h146b
                            refine x_if_eq (tgt := 155) C ⟨by decide, by decide⟩ dX4_wordToken_149 (by decide) (fun _ => ?_) (fun h => absurd h (by decide))
                            refine lv_aload_n C.1 C.2.1 dX4_wordToken_155 rfl (lv_at hl 0 rfl) ?_
                            refine x_ldcS C 11 (by decide) rfl rfl dX4_wordToken_156 ?_
                            refine x_ci (x_runV (n := 1) C hw hS hml hl.1 45 4 (by omega) rfl (by decide) rfl (c_X4_spells l g M2 hT b n (hb.fr (fun m hm => hfr m (by omega))) 11 (by first | assumption | omega | exact ⟨by omega, by omega⟩ | decide) i (i + k) ⟨by omega, by omega⟩ hat ((hfr _ (by decide)).trans hs)) mw_410 mw_412 mw_4 mw_122 mw_413 rfl rfl (by decide +kernel) ⟨Nat.le_of_ble_eq_true rfl, Nat.le_of_ble_eq_true rfl⟩ rfl rfl (Nat.le_of_ble_eq_true rfl) dX4_wordToken_158 ⟨Nat.zero_le _, Nat.zero_le _⟩) hS (fun r158 M158 H locs hr158 hp hw hS => ?_)
                            rcases hp with ⟨em158, (⟨er158, h158b⟩ | ⟨er158, h158b⟩)⟩
                            · have hw : Wo g M2 H := em158 ▸ hw
                              rw [er158]
                              have k161 : spw [104, 111, 117, 115, 101] b i (i + k) = true := (sp_iff (by decide) sb_11).mpr h158b
                              refine x_if_eq (tgt := 167) C ⟨by decide, by decide⟩ dX4_wordToken_161 (by decide) (fun h => absurd h (by decide)) (fun _ => ?_)
                              refine lv_bipush (v := II (-5)) C.1 C.2.1 dX4_wordToken_164 (by decide) ?_
                              subst hQQ; exact x_ireturn C hr hlk hw hS ⟨by decide, by decide⟩ rfl (by rw [hend]; refine ⟨?_, hat, hfr⟩; simp [wdT, k45, k56, k67, k78, k90, k102, k114, k125, k137, k149, k161]) dX4_wordToken_166
                            · have hw : Wo g M2 H := em158 ▸ hw
                              rw [er158]
                              have k161 : spw [104, 111, 117, 115, 101] b i (i + k) = false := sp_no (by decide) sb_11 h158b
                              refine x_if_eq (tgt := 167) C ⟨by decide, by decide⟩ dX4_wordToken_161 (by decide) (fun _ => ?_) (fun h => absurd h (by decide))
                              refine lv_aload_n C.1 C.2.1 dX4_wordToken_167 rfl (lv_at hl 0 rfl) ?_
                              refine x_ldcS C 12 (by decide) rfl rfl dX4_wordToken_168 ?_
                              refine x_ci (x_runV (n := 1) C hw hS hml hl.1 45 4 (by omega) rfl (by decide) rfl (c_X4_spells l g M2 hT b n (hb.fr (fun m hm => hfr m (by omega))) 12 (by first | assumption | omega | exact ⟨by omega, by omega⟩ | decide) i (i + k) ⟨by omega, by omega⟩ hat ((hfr _ (by decide)).trans hs)) mw_410 mw_412 mw_4 mw_122 mw_413 rfl rfl (by decide +kernel) ⟨Nat.le_of_ble_eq_true rfl, Nat.le_of_ble_eq_true rfl⟩ rfl rfl (Nat.le_of_ble_eq_true rfl) dX4_wordToken_170 ⟨Nat.zero_le _, Nat.zero_le _⟩) hS (fun r170 M170 H locs hr170 hp hw hS => ?_)
                              rcases hp with ⟨em170, (⟨er170, h170b⟩ | ⟨er170, h170b⟩)⟩
                              · have hw : Wo g M2 H := em170 ▸ hw
                                rw [er170]
                                have k173 : spw [102, 111, 111, 108, 115] b i (i + k) = true := (sp_iff (by decide) sb_12).mpr h170b
                                refine x_if_eq (tgt := 179) C ⟨by decide, by decide⟩ dX4_wordToken_173 (by decide) (fun h => absurd h (by decide)) (fun _ => ?_)
                                refine lv_bipush (v := II (-6)) C.1 C.2.1 dX4_wordToken_176 (by decide) ?_
                                subst hQQ; exact x_ireturn C hr hlk hw hS ⟨by decide, by decide⟩ rfl (by rw [hend]; refine ⟨?_, hat, hfr⟩; simp [wdT, k45, k56, k67, k78, k90, k102, k114, k125, k137, k149, k161, k173]) dX4_wordToken_178
                              · have hw : Wo g M2 H := em170 ▸ hw
                                rw [er170]
                                have k173 : spw [102, 111, 111, 108, 115] b i (i + k) = false := sp_no (by decide) sb_12 h170b
                                refine x_if_eq (tgt := 179) C ⟨by decide, by decide⟩ dX4_wordToken_173 (by decide) (fun _ => ?_) (fun h => absurd h (by decide))
                                refine lv_bipush (v := II 8) C.1 C.2.1 dX4_wordToken_179 (by decide) ?_
                                subst hQQ; exact x_ireturn C hr hlk hw hS ⟨by decide, by decide⟩ rfl (by rw [hend]; refine ⟨?_, hat, hfr⟩; simp [wdT, k45, k56, k67, k78, k90, k102, k114, k125, k137, k149, k161, k173]) dX4_wordToken_181
      · refine lv_aload_n C.1 C.2.1 dX4_wordToken_11 rfl (lv_at hl 0 rfl) ?_
        refine g4 C hw 45 (by omega) rfl 0 (by decide) mw_274 (svr hT.2.1) dX4_wordToken_12 ?_
        refine lv_aload_n C.1 C.2.1 dX4_wordToken_15 rfl (lv_at hl 0 rfl) ?_
        refine g4 C hw 45 (by omega) rfl 2 (by decide) mw_277 (svi (x := ((i + k : Nat) : Int)) hat) dX4_wordToken_16 ?_
        refine x_iaload (L := 160) C hw 46 (by omega) rfl rfl (by omega) (by omega) (by decide) (x := b (i + k)) ((hfr (46000 + (i + k)) (by omega)).trans (hb.2.2 (i + k) (by omega))) dX4_wordToken_19 ?_
        refine x_ci (x_runS (n := 1) C hw hS hml hl.1 (c_X4_isLetter l g M2 (b (i + k)) ⟨by have := g_M2 (46000 + (i + k : Nat)); have := ((hfr (46000 + (i + k)) (by omega)).trans (hb.2.2 (i + k) (by omega))); omega, by have := g_M2 (46000 + (i + k : Nat)); have := ((hfr (46000 + (i + k)) (by omega)).trans (hb.2.2 (i + k) (by omega))); omega⟩) mw_402 mw_403 mw_122 mw_404 rfl rfl (by decide +kernel) ⟨Nat.le_of_ble_eq_true rfl, Nat.le_of_ble_eq_true rfl⟩ rfl rfl (Nat.le_of_ble_eq_true rfl) dX4_wordToken_20 ⟨Nat.zero_le _, Nat.zero_le _⟩) hS (fun r20 M20 H locs hr20 hp hw hS => ?_)
        rcases hp with ⟨em20, (⟨er20, h20b⟩ | ⟨er20, h20b⟩)⟩
        · have hw : Wo g M2 H := em20 ▸ hw
          rw [er20]
          refine x_if_eq (tgt := 39) C ⟨by decide, by decide⟩ dX4_wordToken_23 (by decide) (fun h => absurd h (by decide)) (fun _ => ?_)
          refine lv_aload_n C.1 C.2.1 dX4_wordToken_26 rfl (lv_at hl 0 rfl) ?_
          refine lv_dup C.1 C.2.1 dX4_wordToken_27 rfl ?_
          refine g4 C hw 45 (by omega) rfl 2 (by decide) mw_277 (svi (x := ((i + k : Nat) : Int)) hat) dX4_wordToken_28 ?_
          refine lv_iconst (v := II 1) C.1 C.2.1 dX4_wordToken_31 rfl ?_
          refine x_iadd C dX4_wordToken_32 ?_
          refine p4 C hw hS 45 (by omega) rfl 2 (by decide) mw_277 rfl (x := ((i + k : Nat) : Int) + 1) ⟨by have := g_M2 45002; have := hat; omega, by have := g_M2 45002; have := hat; omega⟩ (svi st_s) (tyX4_ok 2 (by decide)) rfl rfl dX4_wordToken_33 (fun H locs hw hS => ?_)
          have hw : Wo g (stM M2 45002 (((i + k : Nat) : Int) + 1)) H := hw
          refine lv_goto (tgt := 0) C.1 C.2.1 dX4_wordToken_36 (by decide) ?_
          exact ih0  (k + 1) (stM M2 45002 (((i + k : Nat) : Int) + 1)) (by omega) (by omega) (by rw [st_s]; omega) (by rw [← hsk, show i + (k + 1) = i + k + 1 by omega]; exact (sk_s (by omega) h20b).symm) (fun m q1 => by rw [st_n q1]; exact hfr m q1) _ _ _ hw hS (lv_sub hl [0] rfl)
        · have hw : Wo g M2 H := em20 ▸ hw
          rw [er20]
          refine x_if_eq (tgt := 39) C ⟨by decide, by decide⟩ dX4_wordToken_23 (by decide) (fun _ => ?_) (fun h => absurd h (by decide))
          have hend : sk ltB b n i = i + k := by
            rw [← hsk]
            first
            | exact sk_e (fun q => by have := q.1; omega)
            | exact sk_e (fun q => by rw [h20b] at q; exact absurd q.2 (by decide))
          refine lv_aload_n C.1 C.2.1 dX4_wordToken_39 rfl (lv_at hl 0 rfl) ?_
          refine x_ldcS C 1 (by decide) rfl rfl dX4_wordToken_40 ?_
          refine x_ci (x_runV (n := 1) C hw hS hml hl.1 45 4 (by omega) rfl (by decide) rfl (c_X4_spells l g M2 hT b n (hb.fr (fun m hm => hfr m (by omega))) 1 (by first | assumption | omega | exact ⟨by omega, by omega⟩ | decide) i (i + k) ⟨by omega, by omega⟩ hat ((hfr _ (by decide)).trans hs)) mw_410 mw_412 mw_4 mw_122 mw_413 rfl rfl (by decide +kernel) ⟨Nat.le_of_ble_eq_true rfl, Nat.le_of_ble_eq_true rfl⟩ rfl rfl (Nat.le_of_ble_eq_true rfl) dX4_wordToken_42 ⟨Nat.zero_le _, Nat.zero_le _⟩) hS (fun r42 M42 H locs hr42 hp hw hS => ?_)
          rcases hp with ⟨em42, (⟨er42, h42b⟩ | ⟨er42, h42b⟩)⟩
          · have hw : Wo g M2 H := em42 ▸ hw
            rw [er42]
            have k45 : spw [115, 105, 103, 104, 115] b i (i + k) = true := (sp_iff (by decide) sb_1).mpr h42b
            refine x_if_eq (tgt := 50) C ⟨by decide, by decide⟩ dX4_wordToken_45 (by decide) (fun h => absurd h (by decide)) (fun _ => ?_)
            refine lv_iconst (v := II 1) C.1 C.2.1 dX4_wordToken_48 rfl ?_
            subst hQQ; exact x_ireturn C hr hlk hw hS ⟨by decide, by decide⟩ rfl (by rw [hend]; refine ⟨?_, hat, hfr⟩; simp [wdT, k45]) dX4_wordToken_49
          · have hw : Wo g M2 H := em42 ▸ hw
            rw [er42]
            have k45 : spw [115, 105, 103, 104, 115] b i (i + k) = false := sp_no (by decide) sb_1 h42b
            refine x_if_eq (tgt := 50) C ⟨by decide, by decide⟩ dX4_wordToken_45 (by decide) (fun _ => ?_) (fun h => absurd h (by decide))
            refine lv_aload_n C.1 C.2.1 dX4_wordToken_50 rfl (lv_at hl 0 rfl) ?_
            refine x_ldcS C 2 (by decide) rfl rfl dX4_wordToken_51 ?_
            refine x_ci (x_runV (n := 1) C hw hS hml hl.1 45 4 (by omega) rfl (by decide) rfl (c_X4_spells l g M2 hT b n (hb.fr (fun m hm => hfr m (by omega))) 2 (by first | assumption | omega | exact ⟨by omega, by omega⟩ | decide) i (i + k) ⟨by omega, by omega⟩ hat ((hfr _ (by decide)).trans hs)) mw_410 mw_412 mw_4 mw_122 mw_413 rfl rfl (by decide +kernel) ⟨Nat.le_of_ble_eq_true rfl, Nat.le_of_ble_eq_true rfl⟩ rfl rfl (Nat.le_of_ble_eq_true rfl) dX4_wordToken_53 ⟨Nat.zero_le _, Nat.zero_le _⟩) hS (fun r53 M53 H locs hr53 hp hw hS => ?_)
            rcases hp with ⟨em53, (⟨er53, h53b⟩ | ⟨er53, h53b⟩)⟩
            · have hw : Wo g M2 H := em53 ▸ hw
              rw [er53]
              have k56 : spw [109, 111, 111, 100, 115] b i (i + k) = true := (sp_iff (by decide) sb_2).mpr h53b
              refine x_if_eq (tgt := 61) C ⟨by decide, by decide⟩ dX4_wordToken_56 (by decide) (fun h => absurd h (by decide)) (fun _ => ?_)
              refine lv_iconst (v := II 2) C.1 C.2.1 dX4_wordToken_59 rfl ?_
              subst hQQ; exact x_ireturn C hr hlk hw hS ⟨by decide, by decide⟩ rfl (by rw [hend]; refine ⟨?_, hat, hfr⟩; simp [wdT, k45, k56]) dX4_wordToken_60
            · have hw : Wo g M2 H := em53 ▸ hw
              rw [er53]
              have k56 : spw [109, 111, 111, 100, 115] b i (i + k) = false := sp_no (by decide) sb_2 h53b
              refine x_if_eq (tgt := 61) C ⟨by decide, by decide⟩ dX4_wordToken_56 (by decide) (fun _ => ?_) (fun h => absurd h (by decide))
              refine lv_aload_n C.1 C.2.1 dX4_wordToken_61 rfl (lv_at hl 0 rfl) ?_
              refine x_ldcS C 3 (by decide) rfl rfl dX4_wordToken_62 ?_
              refine x_ci (x_runV (n := 1) C hw hS hml hl.1 45 4 (by omega) rfl (by decide) rfl (c_X4_spells l g M2 hT b n (hb.fr (fun m hm => hfr m (by omega))) 3 (by first | assumption | omega | exact ⟨by omega, by omega⟩ | decide) i (i + k) ⟨by omega, by omega⟩ hat ((hfr _ (by decide)).trans hs)) mw_410 mw_412 mw_4 mw_122 mw_413 rfl rfl (by decide +kernel) ⟨Nat.le_of_ble_eq_true rfl, Nat.le_of_ble_eq_true rfl⟩ rfl rfl (Nat.le_of_ble_eq_true rfl) dX4_wordToken_64 ⟨Nat.zero_le _, Nat.zero_le _⟩) hS (fun r64 M64 H locs hr64 hp hw hS => ?_)
              rcases hp with ⟨em64, (⟨er64, h64b⟩ | ⟨er64, h64b⟩)⟩
              · have hw : Wo g M2 H := em64 ▸ hw
                rw [er64]
                have k67 : spw [112, 97, 121, 115] b i (i + k) = true := (sp_iff (by decide) sb_3).mpr h64b
                refine x_if_eq (tgt := 72) C ⟨by decide, by decide⟩ dX4_wordToken_67 (by decide) (fun h => absurd h (by decide)) (fun _ => ?_)
                refine lv_iconst (v := II 3) C.1 C.2.1 dX4_wordToken_70 rfl ?_
                subst hQQ; exact x_ireturn C hr hlk hw hS ⟨by decide, by decide⟩ rfl (by rw [hend]; refine ⟨?_, hat, hfr⟩; simp [wdT, k45, k56, k67]) dX4_wordToken_71
              · have hw : Wo g M2 H := em64 ▸ hw
                rw [er64]
                have k67 : spw [112, 97, 121, 115] b i (i + k) = false := sp_no (by decide) sb_3 h64b
                refine x_if_eq (tgt := 72) C ⟨by decide, by decide⟩ dX4_wordToken_67 (by decide) (fun _ => ?_) (fun h => absurd h (by decide))
                refine lv_aload_n C.1 C.2.1 dX4_wordToken_72 rfl (lv_at hl 0 rfl) ?_
                refine x_ldcS C 4 (by decide) rfl rfl dX4_wordToken_73 ?_
                refine x_ci (x_runV (n := 1) C hw hS hml hl.1 45 4 (by omega) rfl (by decide) rfl (c_X4_spells l g M2 hT b n (hb.fr (fun m hm => hfr m (by omega))) 4 (by first | assumption | omega | exact ⟨by omega, by omega⟩ | decide) i (i + k) ⟨by omega, by omega⟩ hat ((hfr _ (by decide)).trans hs)) mw_410 mw_412 mw_4 mw_122 mw_413 rfl rfl (by decide +kernel) ⟨Nat.le_of_ble_eq_true rfl, Nat.le_of_ble_eq_true rfl⟩ rfl rfl (Nat.le_of_ble_eq_true rfl) dX4_wordToken_75 ⟨Nat.zero_le _, Nat.zero_le _⟩) hS (fun r75 M75 H locs hr75 hp hw hS => ?_)
                rcases hp with ⟨em75, (⟨er75, h75b⟩ | ⟨er75, h75b⟩)⟩
                · have hw : Wo g M2 H := em75 ▸ hw
                  rw [er75]
                  have k78 : spw [111, 114] b i (i + k) = true := (sp_iff (by decide) sb_4).mpr h75b
                  refine x_if_eq (tgt := 84) C ⟨by decide, by decide⟩ dX4_wordToken_78 (by decide) (fun h => absurd h (by decide)) (fun _ => ?_)
                  refine lv_bipush (v := II (-9)) C.1 C.2.1 dX4_wordToken_81 (by decide) ?_
                  subst hQQ; exact x_ireturn C hr hlk hw hS ⟨by decide, by decide⟩ rfl (by rw [hend]; refine ⟨?_, hat, hfr⟩; simp [wdT, k45, k56, k67, k78]) dX4_wordToken_83
                · have hw : Wo g M2 H := em75 ▸ hw
                  rw [er75]
                  have k78 : spw [111, 114] b i (i + k) = false := sp_no (by decide) sb_4 h75b
                  refine x_if_eq (tgt := 84) C ⟨by decide, by decide⟩ dX4_wordToken_78 (by decide) (fun _ => ?_) (fun h => absurd h (by decide))
                  refine lv_aload_n C.1 C.2.1 dX4_wordToken_84 rfl (lv_at hl 0 rfl) ?_
                  refine x_ldcS C 5 (by decide) rfl rfl dX4_wordToken_85 ?_
                  refine x_ci (x_runV (n := 1) C hw hS hml hl.1 45 4 (by omega) rfl (by decide) rfl (c_X4_spells l g M2 hT b n (hb.fr (fun m hm => hfr m (by omega))) 5 (by first | assumption | omega | exact ⟨by omega, by omega⟩ | decide) i (i + k) ⟨by omega, by omega⟩ hat ((hfr _ (by decide)).trans hs)) mw_410 mw_412 mw_4 mw_122 mw_413 rfl rfl (by decide +kernel) ⟨Nat.le_of_ble_eq_true rfl, Nat.le_of_ble_eq_true rfl⟩ rfl rfl (Nat.le_of_ble_eq_true rfl) dX4_wordToken_87 ⟨Nat.zero_le _, Nat.zero_le _⟩) hS (fun r87 M87 H locs hr87 hp hw hS => ?_)
                  rcases hp with ⟨em87, (⟨er87, h87b⟩ | ⟨er87, h87b⟩)⟩
                  · have hw : Wo g M2 H := em87 ▸ hw
                    rw [er87]
                    have k90 : spw [97, 110, 100] b i (i + k) = true := (sp_iff (by decide) sb_5).mpr h87b
                    refine x_if_eq (tgt := 96) C ⟨by decide, by decide⟩ dX4_wordToken_90 (by decide) (fun h => absurd h (by decide)) (fun _ => ?_)
                    refine lv_bipush (v := II (-10)) C.1 C.2.1 dX4_wordToken_93 (by decide) ?_
                    subst hQQ; exact x_ireturn C hr hlk hw hS ⟨by decide, by decide⟩ rfl (by rw [hend]; refine ⟨?_, hat, hfr⟩; simp [wdT, k45, k56, k67, k78, k90]) dX4_wordToken_95
                  · have hw : Wo g M2 H := em87 ▸ hw
                    rw [er87]
                    have k90 : spw [97, 110, 100] b i (i + k) = false := sp_no (by decide) sb_5 h87b
                    refine x_if_eq (tgt := 96) C ⟨by decide, by decide⟩ dX4_wordToken_90 (by decide) (fun _ => ?_) (fun h => absurd h (by decide))
                    refine lv_aload_n C.1 C.2.1 dX4_wordToken_96 rfl (lv_at hl 0 rfl) ?_
                    refine x_ldcS C 6 (by decide) rfl rfl dX4_wordToken_97 ?_
                    refine x_ci (x_runV (n := 1) C hw hS hml hl.1 45 4 (by omega) rfl (by decide) rfl (c_X4_spells l g M2 hT b n (hb.fr (fun m hm => hfr m (by omega))) 6 (by first | assumption | omega | exact ⟨by omega, by omega⟩ | decide) i (i + k) ⟨by omega, by omega⟩ hat ((hfr _ (by decide)).trans hs)) mw_410 mw_412 mw_4 mw_122 mw_413 rfl rfl (by decide +kernel) ⟨Nat.le_of_ble_eq_true rfl, Nat.le_of_ble_eq_true rfl⟩ rfl rfl (Nat.le_of_ble_eq_true rfl) dX4_wordToken_99 ⟨Nat.zero_le _, Nat.zero_le _⟩) hS (fun r99 M99 H locs hr99 hp hw hS => ?_)
                    rcases hp with ⟨em99, (⟨er99, h99b⟩ | ⟨er99, h99b⟩)⟩
                    · have hw : Wo g M2 H := em99 ▸ hw
                      rw [er99]
                      have k102 : spw [110, 111, 116] b i (i + k) = true := (sp_iff (by decide) sb_6).mpr h99b
                      refine x_if_eq (tgt := 108) C ⟨by decide, by decide⟩ dX4_wordToken_102 (by decide) (fun h => absurd h (by decide)) (fun _ => ?_)
                      refine lv_bipush (v := II (-8)) C.1 C.2.1 dX4_wordToken_105 (by decide) ?_
                      subst hQQ; exact x_ireturn C hr hlk hw hS ⟨by decide, by decide⟩ rfl (by rw [hend]; refine ⟨?_, hat, hfr⟩; simp [wdT, k45, k56, k67, k78, k90, k102]) dX4_wordToken_107
                    · have hw : Wo g M2 H := em99 ▸ hw
                      rw [er99]
                      have k102 : spw [110, 111, 116] b i (i + k) = false := sp_no (by decide) sb_6 h99b
                      refine x_if_eq (tgt := 108) C ⟨by decide, by decide⟩ dX4_wordToken_102 (by decide) (fun _ => ?_) (fun h => absurd h (by decide))
                      refine lv_aload_n C.1 C.2.1 dX4_wordToken_108 rfl (lv_at hl 0 rfl) ?_
                      refine x_ldcS C 7 (by decide) rfl rfl dX4_wordToken_109 ?_
                      refine x_ci (x_runV (n := 1) C hw hS hml hl.1 45 4 (by omega) rfl (by decide) rfl (c_X4_spells l g M2 hT b n (hb.fr (fun m hm => hfr m (by omega))) 7 (by first | assumption | omega | exact ⟨by omega, by omega⟩ | decide) i (i + k) ⟨by omega, by omega⟩ hat ((hfr _ (by decide)).trans hs)) mw_410 mw_412 mw_4 mw_122 mw_413 rfl rfl (by decide +kernel) ⟨Nat.le_of_ble_eq_true rfl, Nat.le_of_ble_eq_true rfl⟩ rfl rfl (Nat.le_of_ble_eq_true rfl) dX4_wordToken_111 ⟨Nat.zero_le _, Nat.zero_le _⟩) hS (fun r111 M111 H locs hr111 hp hw hS => ?_)
                      rcases hp with ⟨em111, (⟨er111, h111b⟩ | ⟨er111, h111b⟩)⟩
                      · have hw : Wo g M2 H := em111 ▸ hw
                        rw [er111]
                        have k114 : spw [109, 111, 111, 100] b i (i + k) = true := (sp_iff (by decide) sb_7).mpr h111b
                        refine x_if_eq (tgt := 119) C ⟨by decide, by decide⟩ dX4_wordToken_114 (by decide) (fun h => absurd h (by decide)) (fun _ => ?_)
                        refine lv_iconst (v := II (-1)) C.1 C.2.1 dX4_wordToken_117 rfl ?_
                        subst hQQ; exact x_ireturn C hr hlk hw hS ⟨by decide, by decide⟩ rfl (by rw [hend]; refine ⟨?_, hat, hfr⟩; simp [wdT, k45, k56, k67, k78, k90, k102, k114]) dX4_wordToken_118
                      · have hw : Wo g M2 H := em111 ▸ hw
                        rw [er111]
                        have k114 : spw [109, 111, 111, 100] b i (i + k) = false := sp_no (by decide) sb_7 h111b
                        refine x_if_eq (tgt := 119) C ⟨by decide, by decide⟩ dX4_wordToken_114 (by decide) (fun _ => ?_) (fun h => absurd h (by decide))
                        refine lv_aload_n C.1 C.2.1 dX4_wordToken_119 rfl (lv_at hl 0 rfl) ?_
                        refine x_ldcS C 8 (by decide) rfl rfl dX4_wordToken_120 ?_
                        refine x_ci (x_runV (n := 1) C hw hS hml hl.1 45 4 (by omega) rfl (by decide) rfl (c_X4_spells l g M2 hT b n (hb.fr (fun m hm => hfr m (by omega))) 8 (by first | assumption | omega | exact ⟨by omega, by omega⟩ | decide) i (i + k) ⟨by omega, by omega⟩ hat ((hfr _ (by decide)).trans hs)) mw_410 mw_412 mw_4 mw_122 mw_413 rfl rfl (by decide +kernel) ⟨Nat.le_of_ble_eq_true rfl, Nat.le_of_ble_eq_true rfl⟩ rfl rfl (Nat.le_of_ble_eq_true rfl) dX4_wordToken_122 ⟨Nat.zero_le _, Nat.zero_le _⟩) hS (fun r122 M122 H locs hr122 hp hw hS => ?_)
                        rcases hp with ⟨em122, (⟨er122, h122b⟩ | ⟨er122, h122b⟩)⟩
                        · have hw : Wo g M2 H := em122 ▸ hw
                          rw [er122]
                          have k125 : spw [104, 111, 117, 114] b i (i + k) = true := (sp_iff (by decide) sb_8).mpr h122b
                          refine x_if_eq (tgt := 131) C ⟨by decide, by decide⟩ dX4_wordToken_125 (by decide) (fun h => absurd h (by decide)) (fun _ => ?_)
                          refine lv_bipush (v := II (-2)) C.1 C.2.1 dX4_wordToken_128 (by decide) ?_
                          subst hQQ; exact x_ireturn C hr hlk hw hS ⟨by decide, by decide⟩ rfl (by rw [hend]; refine ⟨?_, hat, hfr⟩; simp [wdT, k45, k56, k67, k78, k90, k102, k114, k125]) dX4_wordToken_130
                        · have hw : Wo g M2 H := em122 ▸ hw
                          rw [er122]
                          have k125 : spw [104, 111, 117, 114] b i (i + k) = false := sp_no (by decide) sb_8 h122b
                          refine x_if_eq (tgt := 131) C ⟨by decide, by decide⟩ dX4_wordToken_125 (by decide) (fun _ => ?_) (fun h => absurd h (by decide))
                          refine lv_aload_n C.1 C.2.1 dX4_wordToken_131 rfl (lv_at hl 0 rfl) ?_
                          refine x_ldcS C 9 (by decide) rfl rfl dX4_wordToken_132 ?_
                          refine x_ci (x_runV (n := 1) C hw hS hml hl.1 45 4 (by omega) rfl (by decide) rfl (c_X4_spells l g M2 hT b n (hb.fr (fun m hm => hfr m (by omega))) 9 (by first | assumption | omega | exact ⟨by omega, by omega⟩ | decide) i (i + k) ⟨by omega, by omega⟩ hat ((hfr _ (by decide)).trans hs)) mw_410 mw_412 mw_4 mw_122 mw_413 rfl rfl (by decide +kernel) ⟨Nat.le_of_ble_eq_true rfl, Nat.le_of_ble_eq_true rfl⟩ rfl rfl (Nat.le_of_ble_eq_true rfl) dX4_wordToken_134 ⟨Nat.zero_le _, Nat.zero_le _⟩) hS (fun r134 M134 H locs hr134 hp hw hS => ?_)
                          rcases hp with ⟨em134, (⟨er134, h134b⟩ | ⟨er134, h134b⟩)⟩
                          · have hw : Wo g M2 H := em134 ▸ hw
                            rw [er134]
                            have k137 : spw [110, 117, 109, 98, 101, 114] b i (i + k) = true := (sp_iff (by decide) sb_9).mpr h134b
                            refine x_if_eq (tgt := 143) C ⟨by decide, by decide⟩ dX4_wordToken_137 (by decide) (fun h => absurd h (by decide)) (fun _ => ?_)
                            refine lv_bipush (v := II (-3)) C.1 C.2.1 dX4_wordToken_140 (by decide) ?_
                            subst hQQ; exact x_ireturn C hr hlk hw hS ⟨by decide, by decide⟩ rfl (by rw [hend]; refine ⟨?_, hat, hfr⟩; simp [wdT, k45, k56, k67, k78, k90, k102, k114, k125, k137]) dX4_wordToken_142
                          · have hw : Wo g M2 H := em134 ▸ hw
                            rw [er134]
                            have k137 : spw [110, 117, 109, 98, 101, 114] b i (i + k) = false := sp_no (by decide) sb_9 h134b
                            refine x_if_eq (tgt := 143) C ⟨by decide, by decide⟩ dX4_wordToken_137 (by decide) (fun _ => ?_) (fun h => absurd h (by decide))
                            refine lv_aload_n C.1 C.2.1 dX4_wordToken_143 rfl (lv_at hl 0 rfl) ?_
                            refine x_ldcS C 10 (by decide) rfl rfl dX4_wordToken_144 ?_
                            refine x_ci (x_runV (n := 1) C hw hS hml hl.1 45 4 (by omega) rfl (by decide) rfl (c_X4_spells l g M2 hT b n (hb.fr (fun m hm => hfr m (by omega))) 10 (by first | assumption | omega | exact ⟨by omega, by omega⟩ | decide) i (i + k) ⟨by omega, by omega⟩ hat ((hfr _ (by decide)).trans hs)) mw_410 mw_412 mw_4 mw_122 mw_413 rfl rfl (by decide +kernel) ⟨Nat.le_of_ble_eq_true rfl, Nat.le_of_ble_eq_true rfl⟩ rfl rfl (Nat.le_of_ble_eq_true rfl) dX4_wordToken_146 ⟨Nat.zero_le _, Nat.zero_le _⟩) hS (fun r146 M146 H locs hr146 hp hw hS => ?_)
                            rcases hp with ⟨em146, (⟨er146, h146b⟩ | ⟨er146, h146b⟩)⟩
                            · have hw : Wo g M2 H := em146 ▸ hw
                              rw [er146]
                              have k149 : spw [111, 116, 104, 101, 114, 115] b i (i + k) = true := (sp_iff (by decide) sb_10).mpr h146b
                              refine x_if_eq (tgt := 155) C ⟨by decide, by decide⟩ dX4_wordToken_149 (by decide) (fun h => absurd h (by decide)) (fun _ => ?_)
                              refine lv_bipush (v := II (-4)) C.1 C.2.1 dX4_wordToken_152 (by decide) ?_
                              subst hQQ; exact x_ireturn C hr hlk hw hS ⟨by decide, by decide⟩ rfl (by rw [hend]; refine ⟨?_, hat, hfr⟩; simp [wdT, k45, k56, k67, k78, k90, k102, k114, k125, k137, k149]) dX4_wordToken_154
                            · have hw : Wo g M2 H := em146 ▸ hw
                              rw [er146]
                              have k149 : spw [111, 116, 104, 101, 114, 115] b i (i + k) = false := sp_no (by decide) sb_10 h146b
                              refine x_if_eq (tgt := 155) C ⟨by decide, by decide⟩ dX4_wordToken_149 (by decide) (fun _ => ?_) (fun h => absurd h (by decide))
                              refine lv_aload_n C.1 C.2.1 dX4_wordToken_155 rfl (lv_at hl 0 rfl) ?_
                              refine x_ldcS C 11 (by decide) rfl rfl dX4_wordToken_156 ?_
                              refine x_ci (x_runV (n := 1) C hw hS hml hl.1 45 4 (by omega) rfl (by decide) rfl (c_X4_spells l g M2 hT b n (hb.fr (fun m hm => hfr m (by omega))) 11 (by first | assumption | omega | exact ⟨by omega, by omega⟩ | decide) i (i + k) ⟨by omega, by omega⟩ hat ((hfr _ (by decide)).trans hs)) mw_410 mw_412 mw_4 mw_122 mw_413 rfl rfl (by decide +kernel) ⟨Nat.le_of_ble_eq_true rfl, Nat.le_of_ble_eq_true rfl⟩ rfl rfl (Nat.le_of_ble_eq_true rfl) dX4_wordToken_158 ⟨Nat.zero_le _, Nat.zero_le _⟩) hS (fun r158 M158 H locs hr158 hp hw hS => ?_)
                              rcases hp with ⟨em158, (⟨er158, h158b⟩ | ⟨er158, h158b⟩)⟩
                              · have hw : Wo g M2 H := em158 ▸ hw
                                rw [er158]
                                have k161 : spw [104, 111, 117, 115, 101] b i (i + k) = true := (sp_iff (by decide) sb_11).mpr h158b
                                refine x_if_eq (tgt := 167) C ⟨by decide, by decide⟩ dX4_wordToken_161 (by decide) (fun h => absurd h (by decide)) (fun _ => ?_)
                                refine lv_bipush (v := II (-5)) C.1 C.2.1 dX4_wordToken_164 (by decide) ?_
                                subst hQQ; exact x_ireturn C hr hlk hw hS ⟨by decide, by decide⟩ rfl (by rw [hend]; refine ⟨?_, hat, hfr⟩; simp [wdT, k45, k56, k67, k78, k90, k102, k114, k125, k137, k149, k161]) dX4_wordToken_166
                              · have hw : Wo g M2 H := em158 ▸ hw
                                rw [er158]
                                have k161 : spw [104, 111, 117, 115, 101] b i (i + k) = false := sp_no (by decide) sb_11 h158b
                                refine x_if_eq (tgt := 167) C ⟨by decide, by decide⟩ dX4_wordToken_161 (by decide) (fun _ => ?_) (fun h => absurd h (by decide))
                                refine lv_aload_n C.1 C.2.1 dX4_wordToken_167 rfl (lv_at hl 0 rfl) ?_
                                refine x_ldcS C 12 (by decide) rfl rfl dX4_wordToken_168 ?_
                                refine x_ci (x_runV (n := 1) C hw hS hml hl.1 45 4 (by omega) rfl (by decide) rfl (c_X4_spells l g M2 hT b n (hb.fr (fun m hm => hfr m (by omega))) 12 (by first | assumption | omega | exact ⟨by omega, by omega⟩ | decide) i (i + k) ⟨by omega, by omega⟩ hat ((hfr _ (by decide)).trans hs)) mw_410 mw_412 mw_4 mw_122 mw_413 rfl rfl (by decide +kernel) ⟨Nat.le_of_ble_eq_true rfl, Nat.le_of_ble_eq_true rfl⟩ rfl rfl (Nat.le_of_ble_eq_true rfl) dX4_wordToken_170 ⟨Nat.zero_le _, Nat.zero_le _⟩) hS (fun r170 M170 H locs hr170 hp hw hS => ?_)
                                rcases hp with ⟨em170, (⟨er170, h170b⟩ | ⟨er170, h170b⟩)⟩
                                · have hw : Wo g M2 H := em170 ▸ hw
                                  rw [er170]
                                  have k173 : spw [102, 111, 111, 108, 115] b i (i + k) = true := (sp_iff (by decide) sb_12).mpr h170b
                                  refine x_if_eq (tgt := 179) C ⟨by decide, by decide⟩ dX4_wordToken_173 (by decide) (fun h => absurd h (by decide)) (fun _ => ?_)
                                  refine lv_bipush (v := II (-6)) C.1 C.2.1 dX4_wordToken_176 (by decide) ?_
                                  subst hQQ; exact x_ireturn C hr hlk hw hS ⟨by decide, by decide⟩ rfl (by rw [hend]; refine ⟨?_, hat, hfr⟩; simp [wdT, k45, k56, k67, k78, k90, k102, k114, k125, k137, k149, k161, k173]) dX4_wordToken_178
                                · have hw : Wo g M2 H := em170 ▸ hw
                                  rw [er170]
                                  have k173 : spw [102, 111, 111, 108, 115] b i (i + k) = false := sp_no (by decide) sb_12 h170b
                                  refine x_if_eq (tgt := 179) C ⟨by decide, by decide⟩ dX4_wordToken_173 (by decide) (fun _ => ?_) (fun h => absurd h (by decide))
                                  refine lv_bipush (v := II 8) C.1 C.2.1 dX4_wordToken_179 (by decide) ?_
                                  subst hQQ; exact x_ireturn C hr hlk hw hS ⟨by decide, by decide⟩ rfl (by rw [hend]; refine ⟨?_, hat, hfr⟩; simp [wdT, k45, k56, k67, k78, k90, k102, k114, k125, k137, k149, k161, k173]) dX4_wordToken_181
  exact L0 _ 0 M (Nat.lt_succ_self _) (by omega) ha rfl (fun _ _ => rfl) _ _ _ hw hS (lv_sub hl [0] rfl)
