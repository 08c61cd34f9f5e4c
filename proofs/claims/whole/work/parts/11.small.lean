def w8 (a : Int) : Int := (II a).toInt8.toInt32.toInt
def w16 (a : Int) : Int := (II a).toInt16.toInt32.toInt
def loT (w : Nat) : Int := (stT.getD 0 []).getD w 0
def hiT (w : Nat) : Int := (stT.getD 1 []).getD w 0
theorem lo_rg : ∀ w, w < 6 → (-2147483648 ≤ loT w ∧ loT w ≤ 2147483647) := by decide
theorem hi_rg : ∀ w, w < 6 → (-2147483648 ≤ hiT w ∧ hiT w ≤ 2147483647) := by decide
/-- of which kinds one is: oneself, or above -/
def undr (a k : Int) : Prop := a = k ∨ k = 0 ∨ (a = 3 ∧ k = 1) ∨ (a = 4 ∧ k = 2)
theorem stA {M : Nat → Int} {b i : Nat} {f : Nat → Int} {v : Int} (h : ∀ j, j < i → M (b + j) = f j) (hv : v = f i) : ∀ j, j < i + 1 → stM M (b + i) v (b + j) = f j := by
  intro j hj
  by_cases e : j = i
  · subst e; rw [st_s]; exact hv
  · rw [st_n (by omega)]; exact h j (by omega)
theorem stF {M M0 : Nat → Int} {P : Nat → Prop} {m : Nat} {v : Int} (h : ∀ n, ¬ P n → M n = M0 n) (hm : P m) : ∀ n, ¬ P n → stM M m v n = M0 n := by
  intro n hn
  have e : n ≠ m := fun e => hn (by rw [e]; exact hm)
  rw [st_n e]
  exact h n hn
/-- how many of those before n -/
def cnt (P : Nat → Bool) : Nat → Int
  | 0 => 0
  | n + 1 => cnt P n + (if P n then 1 else 0)
theorem cnt_in (P : Nat → Bool) : ∀ n : Nat, 0 ≤ cnt P n ∧ cnt P n ≤ n
  | 0 => ⟨Int.le_refl 0, Int.le_refl 0⟩
  | n + 1 => by
    have h := cnt_in P n
    unfold cnt
    split <;> omega
theorem cnt_t {P : Nat → Bool} {n : Nat} (h : P n = true) : cnt P n + 1 = cnt P (n + 1) := by rw [cnt, h]; rfl
theorem cnt_f {P : Nat → Bool} {n : Nat} (h : P n = false) : cnt P n = cnt P (n + 1) := by rw [cnt, h]; simp
/-- what a row of a sort keeps -/
def putV (so v : Int) : Int := if so = 0 then w8 v else if so = 1 then w16 v else v
set_option maxHeartbeats 4000000 in
set_option maxRecDepth 100000 in
theorem c_X7_mayBeN (l : Launch) (g : Gm) (M : Nat → Int) (w : Int) (hw0 : w < 0) (hwr : rg w) (v : Int) (hv : rg v) : CI l ({ cls := "RatedBySighs", name := "mayBe", desc := "(II)Z" } : Jvm.MethodName) cX7_mayBe 2 .boolean (rmm 0 0) g M [.int (II w), .int (II v)] (fun r M' => M' = M ∧ r = 0) := by
  refine c_start (by decide) (Nat.le_of_ble_eq_true rfl) (fun p e s m below meth c ls C hr hlk hml hw hS hl => ?_)
  have hl : lv_has ls 2 [(0, .int (II w)), (1, .int (II v))] := hl
  have g_M := hw.rg
  refine lv_iload_n C.1 C.2.1 dX7_mayBe_0 rfl (lv_at hl 0 rfl) ?_
  refine x_if_lt (tgt := 31) C hwr dX7_mayBe_1 (by decide) (fun c1 => ?_) (fun c1 => by exfalso; omega)
  refine lv_iconst (v := II 0) C.1 C.2.1 dX7_mayBe_31 rfl ?_
  exact x_ireturn C hr hlk hw hS ⟨by decide, by decide⟩ (by decide) ⟨rfl, rfl⟩ dX7_mayBe_32

set_option maxHeartbeats 4000000 in
set_option maxRecDepth 100000 in
theorem c_X7_mayBe (l : Launch) (g : Gm) (M : Nat → Int) (w : Nat) (hw0 : w < 6) (v : Int) (hv : rg v) : CI l ({ cls := "RatedBySighs", name := "mayBe", desc := "(II)Z" } : Jvm.MethodName) cX7_mayBe 2 .boolean (rmm 0 0) g M [.int (II (w : Int)), .int (II v)] (fun r M' => M' = M ∧ ((r = 1 ∧ (loT w ≤ v ∧ v ≤ hiT w)) ∨ (r = 0 ∧ (¬ (loT w ≤ v ∧ v ≤ hiT w))))) := by
  refine c_start (by decide) (Nat.le_of_ble_eq_true rfl) (fun p e s m below meth c ls C hr hlk hml hw hS hl => ?_)
  have hl : lv_has ls 2 [(0, .int (II (w : Int))), (1, .int (II v))] := hl
  have g_M := hw.rg
  refine lv_iload_n C.1 C.2.1 dX7_mayBe_0 rfl (lv_at hl 0 rfl) ?_
  refine x_if_lt (tgt := 31) C ⟨by omega, by omega⟩ dX7_mayBe_1 (by decide) (fun c1 => by exfalso; omega) (fun c1 => ?_)
  refine lv_iload_n C.1 C.2.1 dX7_mayBe_4 rfl (lv_at hl 0 rfl) ?_
  refine lv_iconst (v := II 5) C.1 C.2.1 dX7_mayBe_5 rfl ?_
  refine x_icmp_gt (tgt := 31) C ⟨by omega, by omega⟩ ⟨by decide, by decide⟩ dX7_mayBe_6 (by decide) (fun c6 => by exfalso; omega) (fun c6 => ?_)
  refine lv_iload_n C.1 C.2.1 dX7_mayBe_9 rfl (lv_at hl 1 rfl) ?_
  refine x_gets C hS 0 (by decide) mw_516 dX7_mayBe_10 ?_
  refine lv_iload_n C.1 C.2.1 dX7_mayBe_13 rfl (lv_at hl 0 rfl) ?_
  refine x_sald C hS 0 (by decide) (by omega) (by omega) (x := loT w) rfl dX7_mayBe_14 ?_
  refine x_icmp_lt (tgt := 31) C hv (lo_rg w hw0) dX7_mayBe_15 (by decide) (fun c15 => ?_) (fun c15 => ?_)
  · refine lv_iconst (v := II 0) C.1 C.2.1 dX7_mayBe_31 rfl ?_
    exact x_ireturn C hr hlk hw hS ⟨by decide, by decide⟩ (by decide) (by refine ⟨rfl, ?_⟩; first | exact Or.inl ⟨rfl, by omega⟩ | exact Or.inr (⟨rfl, by omega⟩)) dX7_mayBe_32
  · refine lv_iload_n C.1 C.2.1 dX7_mayBe_18 rfl (lv_at hl 1 rfl) ?_
    refine x_gets C hS 1 (by decide) mw_518 dX7_mayBe_19 ?_
    refine lv_iload_n C.1 C.2.1 dX7_mayBe_22 rfl (lv_at hl 0 rfl) ?_
    refine x_sald C hS 1 (by decide) (by omega) (by omega) (x := hiT w) rfl dX7_mayBe_23 ?_
    refine x_icmp_gt (tgt := 31) C hv (hi_rg w hw0) dX7_mayBe_24 (by decide) (fun c24 => ?_) (fun c24 => ?_)
    · refine lv_iconst (v := II 0) C.1 C.2.1 dX7_mayBe_31 rfl ?_
      exact x_ireturn C hr hlk hw hS ⟨by decide, by decide⟩ (by decide) (by refine ⟨rfl, ?_⟩; first | exact Or.inl ⟨rfl, by omega⟩ | exact Or.inr (⟨rfl, by omega⟩)) dX7_mayBe_32
    · refine lv_iconst (v := II 1) C.1 C.2.1 dX7_mayBe_27 rfl ?_
      refine lv_goto (tgt := 32) C.1 C.2.1 dX7_mayBe_28 (by decide) ?_
      exact x_ireturn C hr hlk hw hS ⟨by decide, by decide⟩ (by decide) (by refine ⟨rfl, ?_⟩; first | exact Or.inl ⟨rfl, by omega⟩ | exact Or.inr (⟨rfl, by omega⟩)) dX7_mayBe_32

set_option maxHeartbeats 4000000 in
set_option maxRecDepth 100000 in
theorem c_X7_isUnder (l : Launch) (g : Gm) (M : Nat → Int) (a : Int) (ha : 0 ≤ a ∧ a ≤ 5) (k : Int) (hk0 : 0 ≤ k ∧ k ≤ 5) : CI l ({ cls := "RatedBySighs", name := "isUnder", desc := "(II)Z" } : Jvm.MethodName) cX7_isUnder 4 .boolean (rmm 0 0) g M [.int (II a), .int (II k)] (fun r M' => M' = M ∧ ((r = 1 ∧ (undr a k)) ∨ (r = 0 ∧ (¬ (undr a k))))) := by
  refine c_start (by decide) (Nat.le_of_ble_eq_true rfl) (fun p e s m below meth c ls C hr hlk hml hw hS hl => ?_)
  have hl : lv_has ls 4 [(0, .int (II a)), (1, .int (II k))] := hl
  have g_M := hw.rg
  rcases (show a = 0 ∨ a = 1 ∨ a = 2 ∨ a = 3 ∨ a = 4 ∨ a = 5 from (by omega)) with rfl | rfl | rfl | rfl | rfl | rfl
  · refine lv_iload_n C.1 C.2.1 dX7_isUnder_0 rfl (lv_at hl 0 rfl) ?_
    refine lv_istore_n (lv' := [(2, .int (II 0)), (0, .int (II 0)), (1, .int (II k))]) C.1 C.2.1 dX7_isUnder_1 rfl hl (by decide) rfl (fun ls hl => ?_)
    refine lv_iconst (v := II 0) C.1 C.2.1 dX7_isUnder_2 rfl ?_
    refine lv_istore_n (lv' := [(3, .int (II 0)), (2, .int (II 0)), (0, .int (II 0)), (1, .int (II k))]) C.1 C.2.1 dX7_isUnder_3 rfl hl (by decide) rfl (fun ls hl => ?_)
    refine lv_iload_n C.1 C.2.1 dX7_isUnder_4 rfl (lv_at hl 0 rfl) ?_
    refine lv_bipush (v := II 6) C.1 C.2.1 dX7_isUnder_5 (by decide) ?_
    refine x_icmp_ge (tgt := 34) C ⟨by decide, by decide⟩ ⟨by decide, by decide⟩ dX7_isUnder_7 (by decide) (fun h => absurd h (by decide)) (fun _ => ?_)
    refine lv_iload_n C.1 C.2.1 dX7_isUnder_10 rfl (lv_at hl 1 rfl) ?_
    refine lv_iconst (v := II (-1)) C.1 C.2.1 dX7_isUnder_11 rfl ?_
    refine x_icmp_eq (tgt := 34) C ⟨by decide, by decide⟩ ⟨by decide, by decide⟩ dX7_isUnder_12 (by decide) (fun h => absurd h (by decide)) (fun _ => ?_)
    refine lv_iload_n C.1 C.2.1 dX7_isUnder_15 rfl (lv_at hl 1 rfl) ?_
    refine lv_iload_n C.1 C.2.1 dX7_isUnder_16 rfl (lv_at hl 3 rfl) ?_
    refine x_icmp_ne (tgt := 22) C ⟨by decide, by decide⟩ ⟨by omega, by omega⟩ dX7_isUnder_17 (by decide) (fun c17 => ?_) (fun c17 => ?_)
    · refine x_gets C hS 2 (by decide) mw_813 dX7_isUnder_22 ?_
      refine lv_iload_n C.1 C.2.1 dX7_isUnder_25 rfl (lv_at hl 1 rfl) ?_
      refine x_sald C hS 2 (by decide) (by decide) (by decide) (x := (-1)) (by decide) dX7_isUnder_26 ?_
      refine lv_istore_n (lv' := [(2, .int (II (-1))), (3, .int (II 0)), (0, .int (II 0)), (1, .int (II k))]) C.1 C.2.1 dX7_isUnder_27 rfl hl (by decide) rfl (fun ls hl => ?_)
      refine lv_iinc (v := II 1) (lv' := [(3, .int (II 1)), (2, .int (II (-1))), (0, .int (II 0)), (1, .int (II k))]) C.1 C.2.1 dX7_isUnder_28 hl (k := 1) rfl rfl (by decide) rfl (fun ls hl => ?_)
      refine lv_goto (tgt := 4) C.1 C.2.1 dX7_isUnder_31 (by decide) ?_
      refine lv_iload_n C.1 C.2.1 dX7_isUnder_4 rfl (lv_at hl 0 rfl) ?_
      refine lv_bipush (v := II 6) C.1 C.2.1 dX7_isUnder_5 (by decide) ?_
      refine x_icmp_ge (tgt := 34) C ⟨by decide, by decide⟩ ⟨by decide, by decide⟩ dX7_isUnder_7 (by decide) (fun h => absurd h (by decide)) (fun _ => ?_)
      refine lv_iload_n C.1 C.2.1 dX7_isUnder_10 rfl (lv_at hl 1 rfl) ?_
      refine lv_iconst (v := II (-1)) C.1 C.2.1 dX7_isUnder_11 rfl ?_
      refine x_icmp_eq (tgt := 34) C ⟨by decide, by decide⟩ ⟨by decide, by decide⟩ dX7_isUnder_12 (by decide) (fun _ => ?_) (fun h => absurd h (by decide))
      refine lv_iconst (v := II 0) C.1 C.2.1 dX7_isUnder_34 rfl ?_
      exact x_ireturn C hr hlk hw hS ⟨by decide, by decide⟩ (by decide) (by unfold undr; refine ⟨rfl, ?_⟩; first | exact Or.inl ⟨rfl, by omega⟩ | exact Or.inr ⟨rfl, by omega⟩) dX7_isUnder_35
    · refine lv_iconst (v := II 1) C.1 C.2.1 dX7_isUnder_20 rfl ?_
      exact x_ireturn C hr hlk hw hS ⟨by decide, by decide⟩ (by decide) (by unfold undr; refine ⟨rfl, ?_⟩; first | exact Or.inl ⟨rfl, by omega⟩ | exact Or.inr ⟨rfl, by omega⟩) dX7_isUnder_21
  · refine lv_iload_n C.1 C.2.1 dX7_isUnder_0 rfl (lv_at hl 0 rfl) ?_
    refine lv_istore_n (lv' := [(2, .int (II 1)), (0, .int (II 1)), (1, .int (II k))]) C.1 C.2.1 dX7_isUnder_1 rfl hl (by decide) rfl (fun ls hl => ?_)
    refine lv_iconst (v := II 0) C.1 C.2.1 dX7_isUnder_2 rfl ?_
    refine lv_istore_n (lv' := [(3, .int (II 0)), (2, .int (II 1)), (0, .int (II 1)), (1, .int (II k))]) C.1 C.2.1 dX7_isUnder_3 rfl hl (by decide) rfl (fun ls hl => ?_)
    refine lv_iload_n C.1 C.2.1 dX7_isUnder_4 rfl (lv_at hl 0 rfl) ?_
    refine lv_bipush (v := II 6) C.1 C.2.1 dX7_isUnder_5 (by decide) ?_
    refine x_icmp_ge (tgt := 34) C ⟨by decide, by decide⟩ ⟨by decide, by decide⟩ dX7_isUnder_7 (by decide) (fun h => absurd h (by decide)) (fun _ => ?_)
    refine lv_iload_n C.1 C.2.1 dX7_isUnder_10 rfl (lv_at hl 1 rfl) ?_
    refine lv_iconst (v := II (-1)) C.1 C.2.1 dX7_isUnder_11 rfl ?_
    refine x_icmp_eq (tgt := 34) C ⟨by decide, by decide⟩ ⟨by decide, by decide⟩ dX7_isUnder_12 (by decide) (fun h => absurd h (by decide)) (fun _ => ?_)
    refine lv_iload_n C.1 C.2.1 dX7_isUnder_15 rfl (lv_at hl 1 rfl) ?_
    refine lv_iload_n C.1 C.2.1 dX7_isUnder_16 rfl (lv_at hl 3 rfl) ?_
    refine x_icmp_ne (tgt := 22) C ⟨by decide, by decide⟩ ⟨by omega, by omega⟩ dX7_isUnder_17 (by decide) (fun c17 => ?_) (fun c17 => ?_)
    · refine x_gets C hS 2 (by decide) mw_813 dX7_isUnder_22 ?_
      refine lv_iload_n C.1 C.2.1 dX7_isUnder_25 rfl (lv_at hl 1 rfl) ?_
      refine x_sald C hS 2 (by decide) (by decide) (by decide) (x := 0) (by decide) dX7_isUnder_26 ?_
      refine lv_istore_n (lv' := [(2, .int (II 0)), (3, .int (II 0)), (0, .int (II 1)), (1, .int (II k))]) C.1 C.2.1 dX7_isUnder_27 rfl hl (by decide) rfl (fun ls hl => ?_)
      refine lv_iinc (v := II 1) (lv' := [(3, .int (II 1)), (2, .int (II 0)), (0, .int (II 1)), (1, .int (II k))]) C.1 C.2.1 dX7_isUnder_28 hl (k := 1) rfl rfl (by decide) rfl (fun ls hl => ?_)
      refine lv_goto (tgt := 4) C.1 C.2.1 dX7_isUnder_31 (by decide) ?_
      refine lv_iload_n C.1 C.2.1 dX7_isUnder_4 rfl (lv_at hl 0 rfl) ?_
      refine lv_bipush (v := II 6) C.1 C.2.1 dX7_isUnder_5 (by decide) ?_
      refine x_icmp_ge (tgt := 34) C ⟨by decide, by decide⟩ ⟨by decide, by decide⟩ dX7_isUnder_7 (by decide) (fun h => absurd h (by decide)) (fun _ => ?_)
      refine lv_iload_n C.1 C.2.1 dX7_isUnder_10 rfl (lv_at hl 1 rfl) ?_
      refine lv_iconst (v := II (-1)) C.1 C.2.1 dX7_isUnder_11 rfl ?_
      refine x_icmp_eq (tgt := 34) C ⟨by decide, by decide⟩ ⟨by decide, by decide⟩ dX7_isUnder_12 (by decide) (fun h => absurd h (by decide)) (fun _ => ?_)
      refine lv_iload_n C.1 C.2.1 dX7_isUnder_15 rfl (lv_at hl 1 rfl) ?_
      refine lv_iload_n C.1 C.2.1 dX7_isUnder_16 rfl (lv_at hl 3 rfl) ?_
      refine x_icmp_ne (tgt := 22) C ⟨by decide, by decide⟩ ⟨by omega, by omega⟩ dX7_isUnder_17 (by decide) (fun c17 => ?_) (fun c17 => ?_)
      · refine x_gets C hS 2 (by decide) mw_813 dX7_isUnder_22 ?_
        refine lv_iload_n C.1 C.2.1 dX7_isUnder_25 rfl (lv_at hl 1 rfl) ?_
        refine x_sald C hS 2 (by decide) (by decide) (by decide) (x := (-1)) (by decide) dX7_isUnder_26 ?_
        refine lv_istore_n (lv' := [(2, .int (II (-1))), (3, .int (II 1)), (0, .int (II 1)), (1, .int (II k))]) C.1 C.2.1 dX7_isUnder_27 rfl hl (by decide) rfl (fun ls hl => ?_)
        refine lv_iinc (v := II 2) (lv' := [(3, .int (II 2)), (2, .int (II (-1))), (0, .int (II 1)), (1, .int (II k))]) C.1 C.2.1 dX7_isUnder_28 hl (k := 1) rfl rfl (by decide) rfl (fun ls hl => ?_)
        refine lv_goto (tgt := 4) C.1 C.2.1 dX7_isUnder_31 (by decide) ?_
        refine lv_iload_n C.1 C.2.1 dX7_isUnder_4 rfl (lv_at hl 0 rfl) ?_
        refine lv_bipush (v := II 6) C.1 C.2.1 dX7_isUnder_5 (by decide) ?_
        refine x_icmp_ge (tgt := 34) C ⟨by decide, by decide⟩ ⟨by decide, by decide⟩ dX7_isUnder_7 (by decide) (fun h => absurd h (by decide)) (fun _ => ?_)
        refine lv_iload_n C.1 C.2.1 dX7_isUnder_10 rfl (lv_at hl 1 rfl) ?_
        refine lv_iconst (v := II (-1)) C.1 C.2.1 dX7_isUnder_11 rfl ?_
        refine x_icmp_eq (tgt := 34) C ⟨by decide, by decide⟩ ⟨by decide, by decide⟩ dX7_isUnder_12 (by decide) (fun _ => ?_) (fun h => absurd h (by decide))
        refine lv_iconst (v := II 0) C.1 C.2.1 dX7_isUnder_34 rfl ?_
        exact x_ireturn C hr hlk hw hS ⟨by decide, by decide⟩ (by decide) (by unfold undr; refine ⟨rfl, ?_⟩; first | exact Or.inl ⟨rfl, by omega⟩ | exact Or.inr ⟨rfl, by omega⟩) dX7_isUnder_35
      · refine lv_iconst (v := II 1) C.1 C.2.1 dX7_isUnder_20 rfl ?_
        exact x_ireturn C hr hlk hw hS ⟨by decide, by decide⟩ (by decide) (by unfold undr; refine ⟨rfl, ?_⟩; first | exact Or.inl ⟨rfl, by omega⟩ | exact Or.inr ⟨rfl, by omega⟩) dX7_isUnder_21
    · refine lv_iconst (v := II 1) C.1 C.2.1 dX7_isUnder_20 rfl ?_
      exact x_ireturn C hr hlk hw hS ⟨by decide, by decide⟩ (by decide) (by unfold undr; refine ⟨rfl, ?_⟩; first | exact Or.inl ⟨rfl, by omega⟩ | exact Or.inr ⟨rfl, by omega⟩) dX7_isUnder_21
  · refine lv_iload_n C.1 C.2.1 dX7_isUnder_0 rfl (lv_at hl 0 rfl) ?_
    refine lv_istore_n (lv' := [(2, .int (II 2)), (0, .int (II 2)), (1, .int (II k))]) C.1 C.2.1 dX7_isUnder_1 rfl hl (by decide) rfl (fun ls hl => ?_)
    refine lv_iconst (v := II 0) C.1 C.2.1 dX7_isUnder_2 rfl ?_
    refine lv_istore_n (lv' := [(3, .int (II 0)), (2, .int (II 2)), (0, .int (II 2)), (1, .int (II k))]) C.1 C.2.1 dX7_isUnder_3 rfl hl (by decide) rfl (fun ls hl => ?_)
    refine lv_iload_n C.1 C.2.1 dX7_isUnder_4 rfl (lv_at hl 0 rfl) ?_
    refine lv_bipush (v := II 6) C.1 C.2.1 dX7_isUnder_5 (by decide) ?_
    refine x_icmp_ge (tgt := 34) C ⟨by decide, by decide⟩ ⟨by decide, by decide⟩ dX7_isUnder_7 (by decide) (fun h => absurd h (by decide)) (fun _ => ?_)
    refine lv_iload_n C.1 C.2.1 dX7_isUnder_10 rfl (lv_at hl 1 rfl) ?_
    refine lv_iconst (v := II (-1)) C.1 C.2.1 dX7_isUnder_11 rfl ?_
    refine x_icmp_eq (tgt := 34) C ⟨by decide, by decide⟩ ⟨by decide, by decide⟩ dX7_isUnder_12 (by decide) (fun h => absurd h (by decide)) (fun _ => ?_)
    refine lv_iload_n C.1 C.2.1 dX7_isUnder_15 rfl (lv_at hl 1 rfl) ?_
    refine lv_iload_n C.1 C.2.1 dX7_isUnder_16 rfl (lv_at hl 3 rfl) ?_
    refine x_icmp_ne (tgt := 22) C ⟨by decide, by decide⟩ ⟨by omega, by omega⟩ dX7_isUnder_17 (by decide) (fun c17 => ?_) (fun c17 => ?_)
    · refine x_gets C hS 2 (by decide) mw_813 dX7_isUnder_22 ?_
      refine lv_iload_n C.1 C.2.1 dX7_isUnder_25 rfl (lv_at hl 1 rfl) ?_
      refine x_sald C hS 2 (by decide) (by decide) (by decide) (x := 0) (by decide) dX7_isUnder_26 ?_
      refine lv_istore_n (lv' := [(2, .int (II 0)), (3, .int (II 0)), (0, .int (II 2)), (1, .int (II k))]) C.1 C.2.1 dX7_isUnder_27 rfl hl (by decide) rfl (fun ls hl => ?_)
      refine lv_iinc (v := II 1) (lv' := [(3, .int (II 1)), (2, .int (II 0)), (0, .int (II 2)), (1, .int (II k))]) C.1 C.2.1 dX7_isUnder_28 hl (k := 1) rfl rfl (by decide) rfl (fun ls hl => ?_)
      refine lv_goto (tgt := 4) C.1 C.2.1 dX7_isUnder_31 (by decide) ?_
      refine lv_iload_n C.1 C.2.1 dX7_isUnder_4 rfl (lv_at hl 0 rfl) ?_
      refine lv_bipush (v := II 6) C.1 C.2.1 dX7_isUnder_5 (by decide) ?_
      refine x_icmp_ge (tgt := 34) C ⟨by decide, by decide⟩ ⟨by decide, by decide⟩ dX7_isUnder_7 (by decide) (fun h => absurd h (by decide)) (fun _ => ?_)
      refine lv_iload_n C.1 C.2.1 dX7_isUnder_10 rfl (lv_at hl 1 rfl) ?_
      refine lv_iconst (v := II (-1)) C.1 C.2.1 dX7_isUnder_11 rfl ?_
      refine x_icmp_eq (tgt := 34) C ⟨by decide, by decide⟩ ⟨by decide, by decide⟩ dX7_isUnder_12 (by decide) (fun h => absurd h (by decide)) (fun _ => ?_)
      refine lv_iload_n C.1 C.2.1 dX7_isUnder_15 rfl (lv_at hl 1 rfl) ?_
      refine lv_iload_n C.1 C.2.1 dX7_isUnder_16 rfl (lv_at hl 3 rfl) ?_
      refine x_icmp_ne (tgt := 22) C ⟨by decide, by decide⟩ ⟨by omega, by omega⟩ dX7_isUnder_17 (by decide) (fun c17 => ?_) (fun c17 => ?_)
      · refine x_gets C hS 2 (by decide) mw_813 dX7_isUnder_22 ?_
        refine lv_iload_n C.1 C.2.1 dX7_isUnder_25 rfl (lv_at hl 1 rfl) ?_
        refine x_sald C hS 2 (by decide) (by decide) (by decide) (x := (-1)) (by decide) dX7_isUnder_26 ?_
        refine lv_istore_n (lv' := [(2, .int (II (-1))), (3, .int (II 1)), (0, .int (II 2)), (1, .int (II k))]) C.1 C.2.1 dX7_isUnder_27 rfl hl (by decide) rfl (fun ls hl => ?_)
        refine lv_iinc (v := II 2) (lv' := [(3, .int (II 2)), (2, .int (II (-1))), (0, .int (II 2)), (1, .int (II k))]) C.1 C.2.1 dX7_isUnder_28 hl (k := 1) rfl rfl (by decide) rfl (fun ls hl => ?_)
        refine lv_goto (tgt := 4) C.1 C.2.1 dX7_isUnder_31 (by decide) ?_
        refine lv_iload_n C.1 C.2.1 dX7_isUnder_4 rfl (lv_at hl 0 rfl) ?_
        refine lv_bipush (v := II 6) C.1 C.2.1 dX7_isUnder_5 (by decide) ?_
        refine x_icmp_ge (tgt := 34) C ⟨by decide, by decide⟩ ⟨by decide, by decide⟩ dX7_isUnder_7 (by decide) (fun h => absurd h (by decide)) (fun _ => ?_)
        refine lv_iload_n C.1 C.2.1 dX7_isUnder_10 rfl (lv_at hl 1 rfl) ?_
        refine lv_iconst (v := II (-1)) C.1 C.2.1 dX7_isUnder_11 rfl ?_
        refine x_icmp_eq (tgt := 34) C ⟨by decide, by decide⟩ ⟨by decide, by decide⟩ dX7_isUnder_12 (by decide) (fun _ => ?_) (fun h => absurd h (by decide))
        refine lv_iconst (v := II 0) C.1 C.2.1 dX7_isUnder_34 rfl ?_
        exact x_ireturn C hr hlk hw hS ⟨by decide, by decide⟩ (by decide) (by unfold undr; refine ⟨rfl, ?_⟩; first | exact Or.inl ⟨rfl, by omega⟩ | exact Or.inr ⟨rfl, by omega⟩) dX7_isUnder_35
      · refine lv_iconst (v := II 1) C.1 C.2.1 dX7_isUnder_20 rfl ?_
        exact x_ireturn C hr hlk hw hS ⟨by decide, by decide⟩ (by decide) (by unfold undr; refine ⟨rfl, ?_⟩; first | exact Or.inl ⟨rfl, by omega⟩ | exact Or.inr ⟨rfl, by omega⟩) dX7_isUnder_21
    · refine lv_iconst (v := II 1) C.1 C.2.1 dX7_isUnder_20 rfl ?_
      exact x_ireturn C hr hlk hw hS ⟨by decide, by decide⟩ (by decide) (by unfold undr; refine ⟨rfl, ?_⟩; first | exact Or.inl ⟨rfl, by omega⟩ | exact Or.inr ⟨rfl, by omega⟩) dX7_isUnder_21
  · refine lv_iload_n C.1 C.2.1 dX7_isUnder_0 rfl (lv_at hl 0 rfl) ?_
    refine lv_istore_n (lv' := [(2, .int (II 3)), (0, .int (II 3)), (1, .int (II k))]) C.1 C.2.1 dX7_isUnder_1 rfl hl (by decide) rfl (fun ls hl => ?_)
    refine lv_iconst (v := II 0) C.1 C.2.1 dX7_isUnder_2 rfl ?_
    refine lv_istore_n (lv' := [(3, .int (II 0)), (2, .int (II 3)), (0, .int (II 3)), (1, .int (II k))]) C.1 C.2.1 dX7_isUnder_3 rfl hl (by decide) rfl (fun ls hl => ?_)
    refine lv_iload_n C.1 C.2.1 dX7_isUnder_4 rfl (lv_at hl 0 rfl) ?_
    refine lv_bipush (v := II 6) C.1 C.2.1 dX7_isUnder_5 (by decide) ?_
    refine x_icmp_ge (tgt := 34) C ⟨by decide, by decide⟩ ⟨by decide, by decide⟩ dX7_isUnder_7 (by decide) (fun h => absurd h (by decide)) (fun _ => ?_)
    refine lv_iload_n C.1 C.2.1 dX7_isUnder_10 rfl (lv_at hl 1 rfl) ?_
    refine lv_iconst (v := II (-1)) C.1 C.2.1 dX7_isUnder_11 rfl ?_
    refine x_icmp_eq (tgt := 34) C ⟨by decide, by decide⟩ ⟨by decide, by decide⟩ dX7_isUnder_12 (by decide) (fun h => absurd h (by decide)) (fun _ => ?_)
    refine lv_iload_n C.1 C.2.1 dX7_isUnder_15 rfl (lv_at hl 1 rfl) ?_
    refine lv_iload_n C.1 C.2.1 dX7_isUnder_16 rfl (lv_at hl 3 rfl) ?_
    refine x_icmp_ne (tgt := 22) C ⟨by decide, by decide⟩ ⟨by omega, by omega⟩ dX7_isUnder_17 (by decide) (fun c17 => ?_) (fun c17 => ?_)
    · refine x_gets C hS 2 (by decide) mw_813 dX7_isUnder_22 ?_
      refine lv_iload_n C.1 C.2.1 dX7_isUnder_25 rfl (lv_at hl 1 rfl) ?_
      refine x_sald C hS 2 (by decide) (by decide) (by decide) (x := 1) (by decide) dX7_isUnder_26 ?_
      refine lv_istore_n (lv' := [(2, .int (II 1)), (3, .int (II 0)), (0, .int (II 3)), (1, .int (II k))]) C.1 C.2.1 dX7_isUnder_27 rfl hl (by decide) rfl (fun ls hl => ?_)
      refine lv_iinc (v := II 1) (lv' := [(3, .int (II 1)), (2, .int (II 1)), (0, .int (II 3)), (1, .int (II k))]) C.1 C.2.1 dX7_isUnder_28 hl (k := 1) rfl rfl (by decide) rfl (fun ls hl => ?_)
      refine lv_goto (tgt := 4) C.1 C.2.1 dX7_isUnder_31 (by decide) ?_
      refine lv_iload_n C.1 C.2.1 dX7_isUnder_4 rfl (lv_at hl 0 rfl) ?_
      refine lv_bipush (v := II 6) C.1 C.2.1 dX7_isUnder_5 (by decide) ?_
      refine x_icmp_ge (tgt := 34) C ⟨by decide, by decide⟩ ⟨by decide, by decide⟩ dX7_isUnder_7 (by decide) (fun h => absurd h (by decide)) (fun _ => ?_)
      refine lv_iload_n C.1 C.2.1 dX7_isUnder_10 rfl (lv_at hl 1 rfl) ?_
      refine lv_iconst (v := II (-1)) C.1 C.2.1 dX7_isUnder_11 rfl ?_
      refine x_icmp_eq (tgt := 34) C ⟨by decide, by decide⟩ ⟨by decide, by decide⟩ dX7_isUnder_12 (by decide) (fun h => absurd h (by decide)) (fun _ => ?_)
      refine lv_iload_n C.1 C.2.1 dX7_isUnder_15 rfl (lv_at hl 1 rfl) ?_
      refine lv_iload_n C.1 C.2.1 dX7_isUnder_16 rfl (lv_at hl 3 rfl) ?_
      refine x_icmp_ne (tgt := 22) C ⟨by decide, by decide⟩ ⟨by omega, by omega⟩ dX7_isUnder_17 (by decide) (fun c17 => ?_) (fun c17 => ?_)
      · refine x_gets C hS 2 (by decide) mw_813 dX7_isUnder_22 ?_
        refine lv_iload_n C.1 C.2.1 dX7_isUnder_25 rfl (lv_at hl 1 rfl) ?_
        refine x_sald C hS 2 (by decide) (by decide) (by decide) (x := 0) (by decide) dX7_isUnder_26 ?_
        refine lv_istore_n (lv' := [(2, .int (II 0)), (3, .int (II 1)), (0, .int (II 3)), (1, .int (II k))]) C.1 C.2.1 dX7_isUnder_27 rfl hl (by decide) rfl (fun ls hl => ?_)
        refine lv_iinc (v := II 2) (lv' := [(3, .int (II 2)), (2, .int (II 0)), (0, .int (II 3)), (1, .int (II k))]) C.1 C.2.1 dX7_isUnder_28 hl (k := 1) rfl rfl (by decide) rfl (fun ls hl => ?_)
        refine lv_goto (tgt := 4) C.1 C.2.1 dX7_isUnder_31 (by decide) ?_
        refine lv_iload_n C.1 C.2.1 dX7_isUnder_4 rfl (lv_at hl 0 rfl) ?_
        refine lv_bipush (v := II 6) C.1 C.2.1 dX7_isUnder_5 (by decide) ?_
        refine x_icmp_ge (tgt := 34) C ⟨by decide, by decide⟩ ⟨by decide, by decide⟩ dX7_isUnder_7 (by decide) (fun h => absurd h (by decide)) (fun _ => ?_)
        refine lv_iload_n C.1 C.2.1 dX7_isUnder_10 rfl (lv_at hl 1 rfl) ?_
        refine lv_iconst (v := II (-1)) C.1 C.2.1 dX7_isUnder_11 rfl ?_
        refine x_icmp_eq (tgt := 34) C ⟨by decide, by decide⟩ ⟨by decide, by decide⟩ dX7_isUnder_12 (by decide) (fun h => absurd h (by decide)) (fun _ => ?_)
        refine lv_iload_n C.1 C.2.1 dX7_isUnder_15 rfl (lv_at hl 1 rfl) ?_
        refine lv_iload_n C.1 C.2.1 dX7_isUnder_16 rfl (lv_at hl 3 rfl) ?_
        refine x_icmp_ne (tgt := 22) C ⟨by decide, by decide⟩ ⟨by omega, by omega⟩ dX7_isUnder_17 (by decide) (fun c17 => ?_) (fun c17 => ?_)
        · refine x_gets C hS 2 (by decide) mw_813 dX7_isUnder_22 ?_
          refine lv_iload_n C.1 C.2.1 dX7_isUnder_25 rfl (lv_at hl 1 rfl) ?_
          refine x_sald C hS 2 (by decide) (by decide) (by decide) (x := (-1)) (by decide) dX7_isUnder_26 ?_
          refine lv_istore_n (lv' := [(2, .int (II (-1))), (3, .int (II 2)), (0, .int (II 3)), (1, .int (II k))]) C.1 C.2.1 dX7_isUnder_27 rfl hl (by decide) rfl (fun ls hl => ?_)
          refine lv_iinc (v := II 3) (lv' := [(3, .int (II 3)), (2, .int (II (-1))), (0, .int (II 3)), (1, .int (II k))]) C.1 C.2.1 dX7_isUnder_28 hl (k := 1) rfl rfl (by decide) rfl (fun ls hl => ?_)
          refine lv_goto (tgt := 4) C.1 C.2.1 dX7_isUnder_31 (by decide) ?_
          refine lv_iload_n C.1 C.2.1 dX7_isUnder_4 rfl (lv_at hl 0 rfl) ?_
          refine lv_bipush (v := II 6) C.1 C.2.1 dX7_isUnder_5 (by decide) ?_
          refine x_icmp_ge (tgt := 34) C ⟨by decide, by decide⟩ ⟨by decide, by decide⟩ dX7_isUnder_7 (by decide) (fun h => absurd h (by decide)) (fun _ => ?_)
          refine lv_iload_n C.1 C.2.1 dX7_isUnder_10 rfl (lv_at hl 1 rfl) ?_
          refine lv_iconst (v := II (-1)) C.1 C.2.1 dX7_isUnder_11 rfl ?_
          refine x_icmp_eq (tgt := 34) C ⟨by decide, by decide⟩ ⟨by decide, by decide⟩ dX7_isUnder_12 (by decide) (fun _ => ?_) (fun h => absurd h (by decide))
          refine lv_iconst (v := II 0) C.1 C.2.1 dX7_isUnder_34 rfl ?_
          exact x_ireturn C hr hlk hw hS ⟨by decide, by decide⟩ (by decide) (by unfold undr; refine ⟨rfl, ?_⟩; first | exact Or.inl ⟨rfl, by omega⟩ | exact Or.inr ⟨rfl, by omega⟩) dX7_isUnder_35
        · refine lv_iconst (v := II 1) C.1 C.2.1 dX7_isUnder_20 rfl ?_
          exact x_ireturn C hr hlk hw hS ⟨by decide, by decide⟩ (by decide) (by unfold undr; refine ⟨rfl, ?_⟩; first | exact Or.inl ⟨rfl, by omega⟩ | exact Or.inr ⟨rfl, by omega⟩) dX7_isUnder_21
      · refine lv_iconst (v := II 1) C.1 C.2.1 dX7_isUnder_20 rfl ?_
        exact x_ireturn C hr hlk hw hS ⟨by decide, by decide⟩ (by decide) (by unfold undr; refine ⟨rfl, ?_⟩; first | exact Or.inl ⟨rfl, by omega⟩ | exact Or.inr ⟨rfl, by omega⟩) dX7_isUnder_21
    · refine lv_iconst (v := II 1) C.1 C.2.1 dX7_isUnder_20 rfl ?_
      exact x_ireturn C hr hlk hw hS ⟨by decide, by decide⟩ (by decide) (by unfold undr; refine ⟨rfl, ?_⟩; first | exact Or.inl ⟨rfl, by omega⟩ | exact Or.inr ⟨rfl, by omega⟩) dX7_isUnder_21
  · refine lv_iload_n C.1 C.2.1 dX7_isUnder_0 rfl (lv_at hl 0 rfl) ?_
    refine lv_istore_n (lv' := [(2, .int (II 4)), (0, .int (II 4)), (1, .int (II k))]) C.1 C.2.1 dX7_isUnder_1 rfl hl (by decide) rfl (fun ls hl => ?_)
    refine lv_iconst (v := II 0) C.1 C.2.1 dX7_isUnder_2 rfl ?_
    refine lv_istore_n (lv' := [(3, .int (II 0)), (2, .int (II 4)), (0, .int (II 4)), (1, .int (II k))]) C.1 C.2.1 dX7_isUnder_3 rfl hl (by decide) rfl (fun ls hl => ?_)
    refine lv_iload_n C.1 C.2.1 dX7_isUnder_4 rfl (lv_at hl 0 rfl) ?_
    refine lv_bipush (v := II 6) C.1 C.2.1 dX7_isUnder_5 (by decide) ?_
    refine x_icmp_ge (tgt := 34) C ⟨by decide, by decide⟩ ⟨by decide, by decide⟩ dX7_isUnder_7 (by decide) (fun h => absurd h (by decide)) (fun _ => ?_)
    refine lv_iload_n C.1 C.2.1 dX7_isUnder_10 rfl (lv_at hl 1 rfl) ?_
    refine lv_iconst (v := II (-1)) C.1 C.2.1 dX7_isUnder_11 rfl ?_
    refine x_icmp_eq (tgt := 34) C ⟨by decide, by decide⟩ ⟨by decide, by decide⟩ dX7_isUnder_12 (by decide) (fun h => absurd h (by decide)) (fun _ => ?_)
    refine lv_iload_n C.1 C.2.1 dX7_isUnder_15 rfl (lv_at hl 1 rfl) ?_
    refine lv_iload_n C.1 C.2.1 dX7_isUnder_16 rfl (lv_at hl 3 rfl) ?_
    refine x_icmp_ne (tgt := 22) C ⟨by decide, by decide⟩ ⟨by omega, by omega⟩ dX7_isUnder_17 (by decide) (fun c17 => ?_) (fun c17 => ?_)
    · refine x_gets C hS 2 (by decide) mw_813 dX7_isUnder_22 ?_
      refine lv_iload_n C.1 C.2.1 dX7_isUnder_25 rfl (lv_at hl 1 rfl) ?_
      refine x_sald C hS 2 (by decide) (by decide) (by decide) (x := 2) (by decide) dX7_isUnder_26 ?_
      refine lv_istore_n (lv' := [(2, .int (II 2)), (3, .int (II 0)), (0, .int (II 4)), (1, .int (II k))]) C.1 C.2.1 dX7_isUnder_27 rfl hl (by decide) rfl (fun ls hl => ?_)
      refine lv_iinc (v := II 1) (lv' := [(3, .int (II 1)), (2, .int (II 2)), (0, .int (II 4)), (1, .int (II k))]) C.1 C.2.1 dX7_isUnder_28 hl (k := 1) rfl rfl (by decide) rfl (fun ls hl => ?_)
      refine lv_goto (tgt := 4) C.1 C.2.1 dX7_isUnder_31 (by decide) ?_
      refine lv_iload_n C.1 C.2.1 dX7_isUnder_4 rfl (lv_at hl 0 rfl) ?_
      refine lv_bipush (v := II 6) C.1 C.2.1 dX7_isUnder_5 (by decide) ?_
      refine x_icmp_ge (tgt := 34) C ⟨by decide, by decide⟩ ⟨by decide, by decide⟩ dX7_isUnder_7 (by decide) (fun h => absurd h (by decide)) (fun _ => ?_)
      refine lv_iload_n C.1 C.2.1 dX7_isUnder_10 rfl (lv_at hl 1 rfl) ?_
      refine lv_iconst (v := II (-1)) C.1 C.2.1 dX7_isUnder_11 rfl ?_
      refine x_icmp_eq (tgt := 34) C ⟨by decide, by decide⟩ ⟨by decide, by decide⟩ dX7_isUnder_12 (by decide) (fun h => absurd h (by decide)) (fun _ => ?_)
      refine lv_iload_n C.1 C.2.1 dX7_isUnder_15 rfl (lv_at hl 1 rfl) ?_
      refine lv_iload_n C.1 C.2.1 dX7_isUnder_16 rfl (lv_at hl 3 rfl) ?_
      refine x_icmp_ne (tgt := 22) C ⟨by decide, by decide⟩ ⟨by omega, by omega⟩ dX7_isUnder_17 (by decide) (fun c17 => ?_) (fun c17 => ?_)
      · refine x_gets C hS 2 (by decide) mw_813 dX7_isUnder_22 ?_
        refine lv_iload_n C.1 C.2.1 dX7_isUnder_25 rfl (lv_at hl 1 rfl) ?_
        refine x_sald C hS 2 (by decide) (by decide) (by decide) (x := 0) (by decide) dX7_isUnder_26 ?_
        refine lv_istore_n (lv' := [(2, .int (II 0)), (3, .int (II 1)), (0, .int (II 4)), (1, .int (II k))]) C.1 C.2.1 dX7_isUnder_27 rfl hl (by decide) rfl (fun ls hl => ?_)
        refine lv_iinc (v := II 2) (lv' := [(3, .int (II 2)), (2, .int (II 0)), (0, .int (II 4)), (1, .int (II k))]) C.1 C.2.1 dX7_isUnder_28 hl (k := 1) rfl rfl (by decide) rfl (fun ls hl => ?_)
        refine lv_goto (tgt := 4) C.1 C.2.1 dX7_isUnder_31 (by decide) ?_
        refine lv_iload_n C.1 C.2.1 dX7_isUnder_4 rfl (lv_at hl 0 rfl) ?_
        refine lv_bipush (v := II 6) C.1 C.2.1 dX7_isUnder_5 (by decide) ?_
        refine x_icmp_ge (tgt := 34) C ⟨by decide, by decide⟩ ⟨by decide, by decide⟩ dX7_isUnder_7 (by decide) (fun h => absurd h (by decide)) (fun _ => ?_)
        refine lv_iload_n C.1 C.2.1 dX7_isUnder_10 rfl (lv_at hl 1 rfl) ?_
        refine lv_iconst (v := II (-1)) C.1 C.2.1 dX7_isUnder_11 rfl ?_
        refine x_icmp_eq (tgt := 34) C ⟨by decide, by decide⟩ ⟨by decide, by decide⟩ dX7_isUnder_12 (by decide) (fun h => absurd h (by decide)) (fun _ => ?_)
        refine lv_iload_n C.1 C.2.1 dX7_isUnder_15 rfl (lv_at hl 1 rfl) ?_
        refine lv_iload_n C.1 C.2.1 dX7_isUnder_16 rfl (lv_at hl 3 rfl) ?_
        refine x_icmp_ne (tgt := 22) C ⟨by decide, by decide⟩ ⟨by omega, by omega⟩ dX7_isUnder_17 (by decide) (fun c17 => ?_) (fun c17 => ?_)
        · refine x_gets C hS 2 (by decide) mw_813 dX7_isUnder_22 ?_
          refine lv_iload_n C.1 C.2.1 dX7_isUnder_25 rfl (lv_at hl 1 rfl) ?_
          refine x_sald C hS 2 (by decide) (by decide) (by decide) (x := (-1)) (by decide) dX7_isUnder_26 ?_
          refine lv_istore_n (lv' := [(2, .int (II (-1))), (3, .int (II 2)), (0, .int (II 4)), (1, .int (II k))]) C.1 C.2.1 dX7_isUnder_27 rfl hl (by decide) rfl (fun ls hl => ?_)
          refine lv_iinc (v := II 3) (lv' := [(3, .int (II 3)), (2, .int (II (-1))), (0, .int (II 4)), (1, .int (II k))]) C.1 C.2.1 dX7_isUnder_28 hl (k := 1) rfl rfl (by decide) rfl (fun ls hl => ?_)
          refine lv_goto (tgt := 4) C.1 C.2.1 dX7_isUnder_31 (by decide) ?_
          refine lv_iload_n C.1 C.2.1 dX7_isUnder_4 rfl (lv_at hl 0 rfl) ?_
          refine lv_bipush (v := II 6) C.1 C.2.1 dX7_isUnder_5 (by decide) ?_
          refine x_icmp_ge (tgt := 34) C ⟨by decide, by decide⟩ ⟨by decide, by decide⟩ dX7_isUnder_7 (by decide) (fun h => absurd h (by decide)) (fun _ => ?_)
          refine lv_iload_n C.1 C.2.1 dX7_isUnder_10 rfl (lv_at hl 1 rfl) ?_
          refine lv_iconst (v := II (-1)) C.1 C.2.1 dX7_isUnder_11 rfl ?_
          refine x_icmp_eq (tgt := 34) C ⟨by decide, by decide⟩ ⟨by decide, by decide⟩ dX7_isUnder_12 (by decide) (fun _ => ?_) (fun h => absurd h (by decide))
          refine lv_iconst (v := II 0) C.1 C.2.1 dX7_isUnder_34 rfl ?_
          exact x_ireturn C hr hlk hw hS ⟨by decide, by decide⟩ (by decide) (by unfold undr; refine ⟨rfl, ?_⟩; first | exact Or.inl ⟨rfl, by omega⟩ | exact Or.inr ⟨rfl, by omega⟩) dX7_isUnder_35
        · refine lv_iconst (v := II 1) C.1 C.2.1 dX7_isUnder_20 rfl ?_
          exact x_ireturn C hr hlk hw hS ⟨by decide, by decide⟩ (by decide) (by unfold undr; refine ⟨rfl, ?_⟩; first | exact Or.inl ⟨rfl, by omega⟩ | exact Or.inr ⟨rfl, by omega⟩) dX7_isUnder_21
      · refine lv_iconst (v := II 1) C.1 C.2.1 dX7_isUnder_20 rfl ?_
        exact x_ireturn C hr hlk hw hS ⟨by decide, by decide⟩ (by decide) (by unfold undr; refine ⟨rfl, ?_⟩; first | exact Or.inl ⟨rfl, by omega⟩ | exact Or.inr ⟨rfl, by omega⟩) dX7_isUnder_21
    · refine lv_iconst (v := II 1) C.1 C.2.1 dX7_isUnder_20 rfl ?_
      exact x_ireturn C hr hlk hw hS ⟨by decide, by decide⟩ (by decide) (by unfold undr; refine ⟨rfl, ?_⟩; first | exact Or.inl ⟨rfl, by omega⟩ | exact Or.inr ⟨rfl, by omega⟩) dX7_isUnder_21
  · refine lv_iload_n C.1 C.2.1 dX7_isUnder_0 rfl (lv_at hl 0 rfl) ?_
    refine lv_istore_n (lv' := [(2, .int (II 5)), (0, .int (II 5)), (1, .int (II k))]) C.1 C.2.1 dX7_isUnder_1 rfl hl (by decide) rfl (fun ls hl => ?_)
    refine lv_iconst (v := II 0) C.1 C.2.1 dX7_isUnder_2 rfl ?_
    refine lv_istore_n (lv' := [(3, .int (II 0)), (2, .int (II 5)), (0, .int (II 5)), (1, .int (II k))]) C.1 C.2.1 dX7_isUnder_3 rfl hl (by decide) rfl (fun ls hl => ?_)
    refine lv_iload_n C.1 C.2.1 dX7_isUnder_4 rfl (lv_at hl 0 rfl) ?_
    refine lv_bipush (v := II 6) C.1 C.2.1 dX7_isUnder_5 (by decide) ?_
    refine x_icmp_ge (tgt := 34) C ⟨by decide, by decide⟩ ⟨by decide, by decide⟩ dX7_isUnder_7 (by decide) (fun h => absurd h (by decide)) (fun _ => ?_)
    refine lv_iload_n C.1 C.2.1 dX7_isUnder_10 rfl (lv_at hl 1 rfl) ?_
    refine lv_iconst (v := II (-1)) C.1 C.2.1 dX7_isUnder_11 rfl ?_
    refine x_icmp_eq (tgt := 34) C ⟨by decide, by decide⟩ ⟨by decide, by decide⟩ dX7_isUnder_12 (by decide) (fun h => absurd h (by decide)) (fun _ => ?_)
    refine lv_iload_n C.1 C.2.1 dX7_isUnder_15 rfl (lv_at hl 1 rfl) ?_
    refine lv_iload_n C.1 C.2.1 dX7_isUnder_16 rfl (lv_at hl 3 rfl) ?_
    refine x_icmp_ne (tgt := 22) C ⟨by decide, by decide⟩ ⟨by omega, by omega⟩ dX7_isUnder_17 (by decide) (fun c17 => ?_) (fun c17 => ?_)
    · refine x_gets C hS 2 (by decide) mw_813 dX7_isUnder_22 ?_
      refine lv_iload_n C.1 C.2.1 dX7_isUnder_25 rfl (lv_at hl 1 rfl) ?_
      refine x_sald C hS 2 (by decide) (by decide) (by decide) (x := 0) (by decide) dX7_isUnder_26 ?_
      refine lv_istore_n (lv' := [(2, .int (II 0)), (3, .int (II 0)), (0, .int (II 5)), (1, .int (II k))]) C.1 C.2.1 dX7_isUnder_27 rfl hl (by decide) rfl (fun ls hl => ?_)
      refine lv_iinc (v := II 1) (lv' := [(3, .int (II 1)), (2, .int (II 0)), (0, .int (II 5)), (1, .int (II k))]) C.1 C.2.1 dX7_isUnder_28 hl (k := 1) rfl rfl (by decide) rfl (fun ls hl => ?_)
      refine lv_goto (tgt := 4) C.1 C.2.1 dX7_isUnder_31 (by decide) ?_
      refine lv_iload_n C.1 C.2.1 dX7_isUnder_4 rfl (lv_at hl 0 rfl) ?_
      refine lv_bipush (v := II 6) C.1 C.2.1 dX7_isUnder_5 (by decide) ?_
      refine x_icmp_ge (tgt := 34) C ⟨by decide, by decide⟩ ⟨by decide, by decide⟩ dX7_isUnder_7 (by decide) (fun h => absurd h (by decide)) (fun _ => ?_)
      refine lv_iload_n C.1 C.2.1 dX7_isUnder_10 rfl (lv_at hl 1 rfl) ?_
      refine lv_iconst (v := II (-1)) C.1 C.2.1 dX7_isUnder_11 rfl ?_
      refine x_icmp_eq (tgt := 34) C ⟨by decide, by decide⟩ ⟨by decide, by decide⟩ dX7_isUnder_12 (by decide) (fun h => absurd h (by decide)) (fun _ => ?_)
      refine lv_iload_n C.1 C.2.1 dX7_isUnder_15 rfl (lv_at hl 1 rfl) ?_
      refine lv_iload_n C.1 C.2.1 dX7_isUnder_16 rfl (lv_at hl 3 rfl) ?_
      refine x_icmp_ne (tgt := 22) C ⟨by decide, by decide⟩ ⟨by omega, by omega⟩ dX7_isUnder_17 (by decide) (fun c17 => ?_) (fun c17 => ?_)
      · refine x_gets C hS 2 (by decide) mw_813 dX7_isUnder_22 ?_
        refine lv_iload_n C.1 C.2.1 dX7_isUnder_25 rfl (lv_at hl 1 rfl) ?_
        refine x_sald C hS 2 (by decide) (by decide) (by decide) (x := (-1)) (by decide) dX7_isUnder_26 ?_
        refine lv_istore_n (lv' := [(2, .int (II (-1))), (3, .int (II 1)), (0, .int (II 5)), (1, .int (II k))]) C.1 C.2.1 dX7_isUnder_27 rfl hl (by decide) rfl (fun ls hl => ?_)
        refine lv_iinc (v := II 2) (lv' := [(3, .int (II 2)), (2, .int (II (-1))), (0, .int (II 5)), (1, .int (II k))]) C.1 C.2.1 dX7_isUnder_28 hl (k := 1) rfl rfl (by decide) rfl (fun ls hl => ?_)
        refine lv_goto (tgt := 4) C.1 C.2.1 dX7_isUnder_31 (by decide) ?_
        refine lv_iload_n C.1 C.2.1 dX7_isUnder_4 rfl (lv_at hl 0 rfl) ?_
        refine lv_bipush (v := II 6) C.1 C.2.1 dX7_isUnder_5 (by decide) ?_
        refine x_icmp_ge (tgt := 34) C ⟨by decide, by decide⟩ ⟨by decide, by decide⟩ dX7_isUnder_7 (by decide) (fun h => absurd h (by decide)) (fun _ => ?_)
        refine lv_iload_n C.1 C.2.1 dX7_isUnder_10 rfl (lv_at hl 1 rfl) ?_
        refine lv_iconst (v := II (-1)) C.1 C.2.1 dX7_isUnder_11 rfl ?_
        refine x_icmp_eq (tgt := 34) C ⟨by decide, by decide⟩ ⟨by decide, by decide⟩ dX7_isUnder_12 (by decide) (fun _ => ?_) (fun h => absurd h (by decide))
        refine lv_iconst (v := II 0) C.1 C.2.1 dX7_isUnder_34 rfl ?_
        exact x_ireturn C hr hlk hw hS ⟨by decide, by decide⟩ (by decide) (by unfold undr; refine ⟨rfl, ?_⟩; first | exact Or.inl ⟨rfl, by omega⟩ | exact Or.inr ⟨rfl, by omega⟩) dX7_isUnder_35
      · refine lv_iconst (v := II 1) C.1 C.2.1 dX7_isUnder_20 rfl ?_
        exact x_ireturn C hr hlk hw hS ⟨by decide, by decide⟩ (by decide) (by unfold undr; refine ⟨rfl, ?_⟩; first | exact Or.inl ⟨rfl, by omega⟩ | exact Or.inr ⟨rfl, by omega⟩) dX7_isUnder_21
    · refine lv_iconst (v := II 1) C.1 C.2.1 dX7_isUnder_20 rfl ?_
      exact x_ireturn C hr hlk hw hS ⟨by decide, by decide⟩ (by decide) (by unfold undr; refine ⟨rfl, ?_⟩; first | exact Or.inl ⟨rfl, by omega⟩ | exact Or.inr ⟨rfl, by omega⟩) dX7_isUnder_21

set_option maxHeartbeats 4000000 in
set_option maxRecDepth 100000 in
theorem c_X7_commonDivisor (l : Launch) (g : Gm) (M : Nat → Int) (a : Nat) (ha : a ≤ 20) (b : Nat) (hb : b ≤ 20 ∧ 1 ≤ b) : CI l ({ cls := "RatedBySighs", name := "commonDivisor", desc := "(II)I" } : Jvm.MethodName) cX7_commonDivisor 6 .int (rmm 1 21) g M [.int (II (a : Int)), .int (II (b : Int))] (fun r M' => M' = M ∧ r = ((Nat.gcd a b : Nat) : Int)) := by
  refine c_start (by decide) (Nat.le_of_ble_eq_true rfl) (fun p e s m below meth c ls C hr hlk hml hw hS hl => ?_)
  have hl : lv_has ls 6 [(0, .int (II (a : Int))), (1, .int (II (b : Int)))] := hl
  generalize ([.int (II (a : Int)), .int (II (b : Int))] : List Value).toArray = args at C ⊢
  generalize hQQ : MQ below (postI g (fun r M' => M' = M ∧ r = ((Nat.gcd a b : Nat) : Int))) args s 0 0 (ar g) = QQ
  have g_M := hw.rg
  refine lv_iload_n C.1 C.2.1 dX7_commonDivisor_0 rfl (lv_at hl 0 rfl) ?_
  refine lv_istore_n (lv' := [(2, .int (II (a : Int))), (0, .int (II (a : Int))), (1, .int (II (b : Int)))]) C.1 C.2.1 dX7_commonDivisor_1 rfl hl (by decide) rfl (fun ls hl => ?_)
  refine lv_iload_n C.1 C.2.1 dX7_commonDivisor_2 rfl (lv_at hl 2 rfl) ?_
  refine lv_istore_n (lv' := [(3, .int (II (b : Int))), (2, .int (II (a : Int))), (0, .int (II (a : Int))), (1, .int (II (b : Int)))]) C.1 C.2.1 dX7_commonDivisor_3 rfl hl (by decide) rfl (fun ls hl => ?_)
  refine lv_iconst (v := II 0) C.1 C.2.1 dX7_commonDivisor_4 rfl ?_
  refine lv_istore (lv' := [(4, .int (II 0)), (3, .int (II (b : Int))), (2, .int (II (a : Int))), (0, .int (II (a : Int))), (1, .int (II (b : Int)))]) C.1 C.2.1 dX7_commonDivisor_5 hl (by decide) rfl (fun ls hl => ?_)
  have L7 : ∀ (f1 : Nat) (i : Nat) (x : Nat) (y : Nat), (20 - i) < f1 → (Nat.gcd x y = Nat.gcd a b) → (x ≤ 20 ∧ y + i ≤ 20) → ∀ (H : Heap) (locs : List Loc) (ls : Array Slot), Wo g M H → va_S (ar g) s.heap H locs → lv_has ls 6 [(0, .int (II (a : Int))), (1, .int (II (b : Int))), (2, .int (II (x : Int))), (3, .int (II (y : Int))), (4, .int (II (i : Int)))] → W p l e (rmm 1 21) s m args below meth c H locs 0 0 QQ (F0 m 7 ls []) := by
    intro f1
    induction f1 with
    | zero => intro i x y hmu; exact absurd hmu (Nat.not_lt_zero _)
    | succ f1 ih =>
      intro i x y hmu h1 h2 H locs ls hw hS hl
      have ih7 := ih
      refine lv_iload C.1 C.2.1 dX7_commonDivisor_7 (lv_at hl 4 rfl) ?_
      refine lv_bipush (v := II 20) C.1 C.2.1 dX7_commonDivisor_9 (by decide) ?_
      refine x_icmp_ge (tgt := 34) C ⟨by omega, by omega⟩ ⟨by decide, by decide⟩ dX7_commonDivisor_11 (by decide) (fun c11 => ?_) (fun c11 => ?_)
      · refine lv_iconst (v := II 1) C.1 C.2.1 dX7_commonDivisor_34 rfl ?_
        refine lv_iload_n C.1 C.2.1 dX7_commonDivisor_35 rfl (lv_at hl 2 rfl) ?_
        refine x_max C ⟨by decide, by decide⟩ ⟨by omega, by omega⟩ (hml.trans hl.1.symm) mw_581 mw_582 mw_131 mw_583 (Nat.le_of_ble_eq_true rfl) (Nat.le_of_ble_eq_true rfl) (Nat.zero_le _) (Nat.zero_le _) dX7_commonDivisor_36 ?_
        subst hQQ; exact x_ireturn C hr hlk hw hS ⟨by omega, by omega⟩ rfl ⟨rfl, by have hy : y = 0 := (by omega); subst hy; rw [Nat.gcd_zero_right] at h1; rw [← h1]; have := Nat.gcd_pos_of_pos_right a (show 0 < b by omega); split <;> omega⟩ dX7_commonDivisor_39
      · refine lv_iload_n C.1 C.2.1 dX7_commonDivisor_14 rfl (lv_at hl 3 rfl) ?_
        refine x_if_eq (tgt := 34) C ⟨by omega, by omega⟩ dX7_commonDivisor_15 (by decide) (fun c15 => ?_) (fun c15 => ?_)
        · refine lv_iconst (v := II 1) C.1 C.2.1 dX7_commonDivisor_34 rfl ?_
          refine lv_iload_n C.1 C.2.1 dX7_commonDivisor_35 rfl (lv_at hl 2 rfl) ?_
          refine x_max C ⟨by decide, by decide⟩ ⟨by omega, by omega⟩ (hml.trans hl.1.symm) mw_581 mw_582 mw_131 mw_583 (Nat.le_of_ble_eq_true rfl) (Nat.le_of_ble_eq_true rfl) (Nat.zero_le _) (Nat.zero_le _) dX7_commonDivisor_36 ?_
          subst hQQ; exact x_ireturn C hr hlk hw hS ⟨by omega, by omega⟩ rfl ⟨rfl, by have hy : y = 0 := (by omega); subst hy; rw [Nat.gcd_zero_right] at h1; rw [← h1]; have := Nat.gcd_pos_of_pos_right a (show 0 < b by omega); split <;> omega⟩ dX7_commonDivisor_39
        · refine lv_iload_n C.1 C.2.1 dX7_commonDivisor_18 rfl (lv_at hl 2 rfl) ?_
          refine lv_iload_n C.1 C.2.1 dX7_commonDivisor_19 rfl (lv_at hl 3 rfl) ?_
          refine x_irem C (by omega) ⟨by omega, by omega⟩ (by omega) ⟨by omega, by omega⟩ dX7_commonDivisor_20 ?_
          refine lv_istore (lv' := [(5, .int (II ((x : Int) % (y : Int)))), (0, .int (II (a : Int))), (1, .int (II (b : Int))), (2, .int (II (x : Int))), (3, .int (II (y : Int))), (4, .int (II (i : Int)))]) C.1 C.2.1 dX7_commonDivisor_21 hl (by decide) rfl (fun ls hl => ?_)
          refine lv_iload_n C.1 C.2.1 dX7_commonDivisor_23 rfl (lv_at hl 4 rfl) ?_
          refine lv_istore_n (lv' := [(2, .int (II (y : Int))), (5, .int (II ((x : Int) % (y : Int)))), (0, .int (II (a : Int))), (1, .int (II (b : Int))), (3, .int (II (y : Int))), (4, .int (II (i : Int)))]) C.1 C.2.1 dX7_commonDivisor_24 rfl hl (by decide) rfl (fun ls hl => ?_)
          refine lv_iload C.1 C.2.1 dX7_commonDivisor_25 (lv_at hl 1 rfl) ?_
          refine lv_istore_n (lv' := [(3, .int (II ((x : Int) % (y : Int)))), (2, .int (II (y : Int))), (5, .int (II ((x : Int) % (y : Int)))), (0, .int (II (a : Int))), (1, .int (II (b : Int))), (4, .int (II (i : Int)))]) C.1 C.2.1 dX7_commonDivisor_27 rfl hl (by decide) rfl (fun ls hl => ?_)
          refine lv_iinc (v := II ((i : Int) + 1)) (lv' := [(4, .int (II ((i : Int) + 1))), (3, .int (II ((x : Int) % (y : Int)))), (2, .int (II (y : Int))), (5, .int (II ((x : Int) % (y : Int)))), (0, .int (II (a : Int))), (1, .int (II (b : Int)))]) C.1 C.2.1 dX7_commonDivisor_28 hl (k := 5) rfl (II_add _ _) (by decide) rfl (fun ls hl => ?_)
          refine lv_goto (tgt := 7) C.1 C.2.1 dX7_commonDivisor_31 (by decide) ?_
          exact ih7  (i + 1) y (x % y) (by omega) (by rw [← h1, Nat.gcd_comm y, ← Nat.gcd_rec, Nat.gcd_comm]) (by have := Nat.mod_lt x (show 0 < y by omega); omega) _ _ _ hw hS (lv_sub hl [4, 5, 2, 1, 0] rfl)
  exact L7 _ 0 a b (Nat.lt_succ_self _) rfl (by omega) _ _ _ hw hS (lv_sub hl [3, 4, 2, 1, 0] rfl)

set_option maxHeartbeats 4000000 in
set_option maxRecDepth 100000 in
theorem c_X1_has (l : Launch) (g : Gm) (M : Nat → Int) (hF : LvF g) (i : Int) (hi : rg i) : CI l ({ cls := "RatedBySighs$Borough", name := "has", desc := "(I)Z" } : Jvm.MethodName) cX1_has 2 .boolean (rmm 0 0) g M [.ref (gA g 2), .int (II i)] (fun r M' => M' = M ∧ ((r = 1 ∧ (0 ≤ i ∧ i < M 2001)) ∨ (r = 0 ∧ (¬ (0 ≤ i ∧ i < M 2001))))) := by
  refine c_start (by decide) (Nat.le_of_ble_eq_true rfl) (fun p e s m below meth c ls C hr hlk hml hw hS hl => ?_)
  have hl : lv_has ls 2 [(0, .ref (gA g 2)), (1, .int (II i))] := hl
  have g_M := hw.rg
  have hN : gN g = 84 := hF.1
  refine lv_iload_n C.1 C.2.1 dX1_has_0 rfl (lv_at hl 1 rfl) ?_
  refine x_if_lt (tgt := 16) C hi dX1_has_1 (by decide) (fun c1 => ?_) (fun c1 => ?_)
  · refine lv_iconst (v := II 0) C.1 C.2.1 dX1_has_16 rfl ?_
    exact x_ireturn C hr hlk hw hS ⟨by decide, by decide⟩ (by decide) (by refine ⟨rfl, ?_⟩; first | exact Or.inl ⟨rfl, by omega⟩ | exact Or.inr (⟨rfl, by omega⟩)) dX1_has_17
  · refine lv_iload_n C.1 C.2.1 dX1_has_4 rfl (lv_at hl 1 rfl) ?_
    refine lv_aload_n C.1 C.2.1 dX1_has_5 rfl (lv_at hl 0 rfl) ?_
    refine g1 C hw 2 (by omega) rfl 1 (by decide) mw_189 (svi (x := M 2001) rfl) dX1_has_6 ?_
    refine x_icmp_ge (tgt := 16) C hi (g_M _) dX1_has_9 (by decide) (fun c9 => ?_) (fun c9 => ?_)
    · refine lv_iconst (v := II 0) C.1 C.2.1 dX1_has_16 rfl ?_
      exact x_ireturn C hr hlk hw hS ⟨by decide, by decide⟩ (by decide) (by refine ⟨rfl, ?_⟩; first | exact Or.inl ⟨rfl, by omega⟩ | exact Or.inr (⟨rfl, by omega⟩)) dX1_has_17
    · refine lv_iconst (v := II 1) C.1 C.2.1 dX1_has_12 rfl ?_
      refine lv_goto (tgt := 17) C.1 C.2.1 dX1_has_13 (by decide) ?_
      exact x_ireturn C hr hlk hw hS ⟨by decide, by decide⟩ (by decide) (by refine ⟨rfl, ?_⟩; first | exact Or.inl ⟨rfl, by omega⟩ | exact Or.inr (⟨rfl, by omega⟩)) dX1_has_17

set_option maxHeartbeats 4000000 in
set_option maxRecDepth 100000 in
theorem c_X1_howManyFools (l : Launch) (g : Gm) (M : Nat → Int) (hF : LvF g) (n : Nat) (hn : M 2001 = (n : Int) ∧ n ≤ 8) : CI l ({ cls := "RatedBySighs$Borough", name := "howManyFools", desc := "()I" } : Jvm.MethodName) cX1_howManyFools 3 .int (rmm 0 0) g M [.ref (gA g 2)] (fun r M' => M' = M ∧ r = cnt (fun q => decide (M (1000 * (4 + q) + 0) = 5)) n) := by
  refine c_start (by decide) (Nat.le_of_ble_eq_true rfl) (fun p e s m below meth c ls C hr hlk hml hw hS hl => ?_)
  have hl : lv_has ls 3 [(0, .ref (gA g 2))] := hl
  generalize ([.ref (gA g 2)] : List Value).toArray = args at C ⊢
  generalize hQQ : MQ below (postI g (fun r M' => M' = M ∧ r = cnt (fun q => decide (M (1000 * (4 + q) + 0) = 5)) n)) args s 0 0 (ar g) = QQ
  have g_M := hw.rg
  have hN : gN g = 84 := hF.1
  refine lv_iconst (v := II 0) C.1 C.2.1 dX1_howManyFools_0 rfl ?_
  refine lv_istore_n (lv' := [(1, .int (II 0)), (0, .ref (gA g 2))]) C.1 C.2.1 dX1_howManyFools_1 rfl hl (by decide) rfl (fun ls hl => ?_)
  refine lv_iconst (v := II 0) C.1 C.2.1 dX1_howManyFools_2 rfl ?_
  refine lv_istore_n (lv' := [(2, .int (II 0)), (1, .int (II 0)), (0, .ref (gA g 2))]) C.1 C.2.1 dX1_howManyFools_3 rfl hl (by decide) rfl (fun ls hl => ?_)
  have L4 : ∀ (f1 : Nat) (i : Nat), (n - i) < f1 → (i ≤ n) → ∀ (H : Heap) (locs : List Loc) (ls : Array Slot), Wo g M H → va_S (ar g) s.heap H locs → lv_has ls 3 [(0, .ref (gA g 2)), (1, .int (II (cnt (fun q => decide (M (1000 * (4 + q) + 0) = 5)) i))), (2, .int (II (i : Int)))] → W p l e (rmm 0 0) s m args below meth c H locs 0 0 QQ (F0 m 4 ls []) := by
    intro f1
    induction f1 with
    | zero => intro i hmu; exact absurd hmu (Nat.not_lt_zero _)
    | succ f1 ih =>
      intro i hmu hi H locs ls hw hS hl
      have ih4 := ih
      have hci := cnt_in (fun q => decide (M (1000 * (4 + q) + 0) = 5)) i
      refine lv_iload_n C.1 C.2.1 dX1_howManyFools_4 rfl (lv_at hl 2 rfl) ?_
      refine lv_aload_n C.1 C.2.1 dX1_howManyFools_5 rfl (lv_at hl 0 rfl) ?_
      refine g1 C hw 2 (by omega) rfl 1 (by decide) mw_189 (svi (x := M 2001) rfl) dX1_howManyFools_6 ?_
      refine x_icmp_ge (tgt := 34) C ⟨by omega, by omega⟩ (g_M _) dX1_howManyFools_9 (by decide) (fun c9 => ?_) (fun c9 => ?_)
      · refine lv_iload_n C.1 C.2.1 dX1_howManyFools_34 rfl (lv_at hl 1 rfl) ?_
        subst hQQ; exact x_ireturn C hr hlk hw hS ⟨by omega, by omega⟩ rfl ⟨rfl, by rw [show i = n by omega]⟩ dX1_howManyFools_35
      · have J28 : ∀ (z : Int), (z = cnt (fun q => decide (M (1000 * (4 + q) + 0) = 5)) (i + 1)) → ∀ (H : Heap) (locs : List Loc) (ls : Array Slot), Wo g M H → va_S (ar g) s.heap H locs → lv_has ls 3 [(0, .ref (gA g 2)), (1, .int (II z)), (2, .int (II (i : Int)))] → W p l e (rmm 0 0) s m args below meth c H locs 0 0 QQ (F0 m 28 ls []) := by
          intro z hz H locs ls hw hS hl
          subst hz
          refine lv_iinc (v := II ((i : Int) + 1)) (lv' := [(2, .int (II ((i : Int) + 1))), (0, .ref (gA g 2)), (1, .int (II (cnt (fun q => decide (M (1000 * (4 + q) + 0) = 5)) (i + 1))))]) C.1 C.2.1 dX1_howManyFools_28 hl (k := 2) rfl (II_add _ _) (by decide) rfl (fun ls hl => ?_)
          refine lv_goto (tgt := 4) C.1 C.2.1 dX1_howManyFools_31 (by decide) ?_
          exact ih4  (i + 1) (by omega) (by omega) _ _ _ hw hS (lv_sub hl [1, 2, 0] rfl)
        refine lv_aload_n C.1 C.2.1 dX1_howManyFools_12 rfl (lv_at hl 0 rfl) ?_
        refine g1 C hw 2 (by omega) rfl 0 (by decide) mw_186 (svr (hF.2 _)) dX1_howManyFools_13 ?_
        refine lv_iload_n C.1 C.2.1 dX1_howManyFools_16 rfl (lv_at hl 2 rfl) ?_
        refine x_aaload (L := 8) C hw 3 (by omega) 11 rfl (by decide) rfl (by omega) (by omega) (by decide) (rP hF i (by omega)) dX1_howManyFools_17 ?_
        refine gn3 C hw (4 + i) (by omega) (kd_p (by omega)) 0 (by decide) mn_161 (svi (x := M (1000 * (4 + i) + 0)) rfl) dX1_howManyFools_18 ?_
        refine lv_iconst (v := II 5) C.1 C.2.1 dX1_howManyFools_21 rfl ?_
        refine x_icmp_ne (tgt := 28) C (g_M _) ⟨by decide, by decide⟩ dX1_howManyFools_22 (by decide) (fun c22 => ?_) (fun c22 => ?_)
        · exact J28 (cnt (fun q => decide (M (1000 * (4 + q) + 0) = 5)) i) (by first | exact cnt_f (decide_eq_false c22) | exact cnt_t (decide_eq_true c22)) _ _ _ hw hS (lv_sub hl [0, 1, 2] rfl)
        · refine lv_iinc (v := II (cnt (fun q => decide (M (1000 * (4 + q) + 0) = 5)) i + 1)) (lv' := [(1, .int (II (cnt (fun q => decide (M (1000 * (4 + q) + 0) = 5)) i + 1))), (0, .ref (gA g 2)), (2, .int (II (i : Int)))]) C.1 C.2.1 dX1_howManyFools_25 hl (k := 1) rfl (II_add _ _) (by decide) rfl (fun ls hl => ?_)
          exact J28 (cnt (fun q => decide (M (1000 * (4 + q) + 0) = 5)) i + 1) (by first | exact cnt_f (decide_eq_false c22) | exact cnt_t (decide_eq_true c22)) _ _ _ hw hS (lv_sub hl [1, 0, 2] rfl)
  exact L4 _ 0 (Nat.lt_succ_self _) (by omega) _ _ _ hw hS (lv_sub hl [2, 1, 0] rfl)

set_option maxHeartbeats 4000000 in
set_option maxRecDepth 100000 in
theorem c_X3_becomeLike (l : Launch) (g : Gm) (M : Nat → Int) (k : Nat) (hk : k < gN g) (hkd : kd k = 3) (k2 : Nat) (hk2 : k2 < gN g) (hkd2 : kd k2 = 3) : CV l ({ cls := "RatedBySighs$Person", name := "becomeLike", desc := "(LRatedBySighs$Person;)V" } : Jvm.MethodName) cX3_becomeLike 2 (rmm 0 0) g M [.ref (gA g k), .ref (gA g k2)] (fun M' => M' = stM (stM (stM (stM (stM M (1000 * k + 0) (M (1000 * k2 + 0))) (1000 * k + 1) (M (1000 * k2 + 1))) (1000 * k + 2) (M (1000 * k2 + 2))) (1000 * k + 3) (M (1000 * k2 + 3))) (1000 * k + 4) (M (1000 * k2 + 4))) := by
  refine c_start (by decide) (Nat.le_of_ble_eq_true rfl) (fun p e s m below meth c ls C hr hlk hml hw hS hl => ?_)
  have hl : lv_has ls 2 [(0, .ref (gA g k)), (1, .ref (gA g k2))] := hl
  have g_M := hw.rg
  have hg := hw.2.2
  refine lv_aload_n C.1 C.2.1 dX3_becomeLike_0 rfl (lv_at hl 0 rfl) ?_
  refine lv_aload_n C.1 C.2.1 dX3_becomeLike_1 rfl (lv_at hl 1 rfl) ?_
  refine g3 C hw k2 hk2 hkd2 0 (by decide) mw_160 (svi (x := M (1000 * k2 + 0)) rfl) dX3_becomeLike_2 ?_
  refine p3 C hw hS k hk hkd 0 (by decide) mw_160 rfl (x := M (1000 * k2 + 0)) (g_M _) (svi st_s) (tyX3_ok 0 (by decide)) rfl rfl dX3_becomeLike_5 (fun H locs hw hS => ?_)
  have hw : Wo g (stM M (1000 * k + 0) (M (1000 * k2 + 0))) H := hw
  refine lv_aload_n C.1 C.2.1 dX3_becomeLike_8 rfl (lv_at hl 0 rfl) ?_
  refine lv_aload_n C.1 C.2.1 dX3_becomeLike_9 rfl (lv_at hl 1 rfl) ?_
  refine g3 C hw k2 hk2 hkd2 1 (by decide) mw_164 (svi (x := M (1000 * k2 + 1)) (st_n (by omega))) dX3_becomeLike_10 ?_
  refine p3 C hw hS k hk hkd 1 (by decide) mw_164 rfl (x := M (1000 * k2 + 1)) (g_M _) (svi st_s) (tyX3_ok 1 (by decide)) rfl rfl dX3_becomeLike_13 (fun H locs hw hS => ?_)
  have hw : Wo g (stM (stM M (1000 * k + 0) (M (1000 * k2 + 0))) (1000 * k + 1) (M (1000 * k2 + 1))) H := hw
  refine lv_aload_n C.1 C.2.1 dX3_becomeLike_16 rfl (lv_at hl 0 rfl) ?_
  refine lv_aload_n C.1 C.2.1 dX3_becomeLike_17 rfl (lv_at hl 1 rfl) ?_
  refine g3 C hw k2 hk2 hkd2 2 (by decide) mw_167 (svi (x := M (1000 * k2 + 2)) ((st_n (by omega)).trans (st_n (by omega)))) dX3_becomeLike_18 ?_
  refine p3 C hw hS k hk hkd 2 (by decide) mw_167 rfl (x := M (1000 * k2 + 2)) (g_M _) (svi st_s) (tyX3_ok 2 (by decide)) rfl rfl dX3_becomeLike_21 (fun H locs hw hS => ?_)
  have hw : Wo g (stM (stM (stM M (1000 * k + 0) (M (1000 * k2 + 0))) (1000 * k + 1) (M (1000 * k2 + 1))) (1000 * k + 2) (M (1000 * k2 + 2))) H := hw
  refine lv_aload_n C.1 C.2.1 dX3_becomeLike_24 rfl (lv_at hl 0 rfl) ?_
  refine lv_aload_n C.1 C.2.1 dX3_becomeLike_25 rfl (lv_at hl 1 rfl) ?_
  refine g3 C hw k2 hk2 hkd2 3 (by decide) mw_170 (svi (x := M (1000 * k2 + 3)) ((st_n (by omega)).trans ((st_n (by omega)).trans (st_n (by omega))))) dX3_becomeLike_26 ?_
  refine p3 C hw hS k hk hkd 3 (by decide) mw_170 rfl (x := M (1000 * k2 + 3)) (g_M _) (svi st_s) (tyX3_ok 3 (by decide)) rfl rfl dX3_becomeLike_29 (fun H locs hw hS => ?_)
  have hw : Wo g (stM (stM (stM (stM M (1000 * k + 0) (M (1000 * k2 + 0))) (1000 * k + 1) (M (1000 * k2 + 1))) (1000 * k + 2) (M (1000 * k2 + 2))) (1000 * k + 3) (M (1000 * k2 + 3))) H := hw
  refine lv_aload_n C.1 C.2.1 dX3_becomeLike_32 rfl (lv_at hl 0 rfl) ?_
  refine lv_aload_n C.1 C.2.1 dX3_becomeLike_33 rfl (lv_at hl 1 rfl) ?_
  refine g3 C hw k2 hk2 hkd2 4 (by decide) mw_173 (svi (x := M (1000 * k2 + 4)) ((st_n (by omega)).trans ((st_n (by omega)).trans ((st_n (by omega)).trans (st_n (by omega)))))) dX3_becomeLike_34 ?_
  refine p3 C hw hS k hk hkd 4 (by decide) mw_173 rfl (x := M (1000 * k2 + 4)) (g_M _) (svi st_s) (tyX3_ok 4 (by decide)) rfl rfl dX3_becomeLike_37 (fun H locs hw hS => ?_)
  have hw : Wo g (stM (stM (stM (stM (stM M (1000 * k + 0) (M (1000 * k2 + 0))) (1000 * k + 1) (M (1000 * k2 + 1))) (1000 * k + 2) (M (1000 * k2 + 2))) (1000 * k + 3) (M (1000 * k2 + 3))) (1000 * k + 4) (M (1000 * k2 + 4))) H := hw
  exact x_return C hr hlk hw hS rfl dX3_becomeLike_40

set_option maxHeartbeats 4000000 in
set_option maxRecDepth 100000 in
theorem c_X5_isMissing (l : Launch) (g : Gm) (M : Nat → Int) (hF : LvF g) (i : Nat) (hi : i < 4) : CI l ({ cls := "RatedBySighs$Sheet", name := "isMissing", desc := "()Z" } : Jvm.MethodName) cX5_isMissing 1 .boolean (rmm 0 0) g M [.ref (gA g (62 + 2 * i))] (fun r M' => M' = M ∧ ((r = 1 ∧ (M (1000 * (62 + 2 * i) + 1) = -1)) ∨ (r = 0 ∧ (¬ (M (1000 * (62 + 2 * i) + 1) = -1))))) := by
  refine c_start (by decide) (Nat.le_of_ble_eq_true rfl) (fun p e s m below meth c ls C hr hlk hml hw hS hl => ?_)
  have hl : lv_has ls 1 [(0, .ref (gA g (62 + 2 * i)))] := hl
  have g_M := hw.rg
  have hN : gN g = 84 := hF.1
  refine lv_aload_n C.1 C.2.1 dX5_isMissing_0 rfl (lv_at hl 0 rfl) ?_
  refine g5 C hw (62 + 2 * i) (by omega) (kd_h (by omega)) 1 (by decide) mw_330 (svi (x := M (1000 * (62 + 2 * i) + 1)) rfl) dX5_isMissing_1 ?_
  refine lv_iconst (v := II (-1)) C.1 C.2.1 dX5_isMissing_4 rfl ?_
  refine x_icmp_ne (tgt := 12) C (g_M _) ⟨by decide, by decide⟩ dX5_isMissing_5 (by decide) (fun c5 => ?_) (fun c5 => ?_)
  · refine lv_iconst (v := II 0) C.1 C.2.1 dX5_isMissing_12 rfl ?_
    exact x_ireturn C hr hlk hw hS ⟨by decide, by decide⟩ (by decide) (by refine ⟨rfl, ?_⟩; first | exact Or.inl ⟨rfl, by omega⟩ | exact Or.inr (⟨rfl, by omega⟩)) dX5_isMissing_13
  · refine lv_iconst (v := II 1) C.1 C.2.1 dX5_isMissing_8 rfl ?_
    refine lv_goto (tgt := 13) C.1 C.2.1 dX5_isMissing_9 (by decide) ?_
    exact x_ireturn C hr hlk hw hS ⟨by decide, by decide⟩ (by decide) (by refine ⟨rfl, ?_⟩; first | exact Or.inl ⟨rfl, by omega⟩ | exact Or.inr (⟨rfl, by omega⟩)) dX5_isMissing_13

set_option maxHeartbeats 4000000 in
set_option maxRecDepth 100000 in
theorem c_X5_holds (l : Launch) (g : Gm) (M : Nat → Int) (hF : LvF g) (i : Nat) (hi : i < 4) (f : Int) (hf : rg f) (q : Int) (hq : rg q) (hz : 0 ≤ M (1000 * (62 + 2 * i) + 2) ∧ M (1000 * (62 + 2 * i) + 2) ≤ 40) : CI l ({ cls := "RatedBySighs$Sheet", name := "holds", desc := "(II)Z" } : Jvm.MethodName) cX5_holds 3 .boolean (rmm 0 0) g M [.ref (gA g (62 + 2 * i)), .int (II f), .int (II q)] (fun r M' => M' = M ∧ ((r = 1 ∧ (0 ≤ q ∧ 0 ≤ f ∧ f + q ≤ M (1000 * (62 + 2 * i) + 2))) ∨ (r = 0 ∧ (¬ (0 ≤ q ∧ 0 ≤ f ∧ f + q ≤ M (1000 * (62 + 2 * i) + 2)))))) := by
  refine c_start (by decide) (Nat.le_of_ble_eq_true rfl) (fun p e s m below meth c ls C hr hlk hml hw hS hl => ?_)
  have hl : lv_has ls 3 [(0, .ref (gA g (62 + 2 * i))), (1, .int (II f)), (2, .int (II q))] := hl
  have g_M := hw.rg
  have hN : gN g = 84 := hF.1
  refine lv_iload_n C.1 C.2.1 dX5_holds_0 rfl (lv_at hl 2 rfl) ?_
  refine x_if_lt (tgt := 30) C hq dX5_holds_1 (by decide) (fun c1 => ?_) (fun c1 => ?_)
  · refine lv_iconst (v := II 0) C.1 C.2.1 dX5_holds_30 rfl ?_
    exact x_ireturn C hr hlk hw hS ⟨by decide, by decide⟩ (by decide) (by refine ⟨rfl, ?_⟩; first | exact Or.inl ⟨rfl, by omega⟩ | exact Or.inr (⟨rfl, by omega⟩)) dX5_holds_31
  · refine lv_iload_n C.1 C.2.1 dX5_holds_4 rfl (lv_at hl 1 rfl) ?_
    refine x_if_lt (tgt := 30) C hf dX5_holds_5 (by decide) (fun c5 => ?_) (fun c5 => ?_)
    · refine lv_iconst (v := II 0) C.1 C.2.1 dX5_holds_30 rfl ?_
      exact x_ireturn C hr hlk hw hS ⟨by decide, by decide⟩ (by decide) (by refine ⟨rfl, ?_⟩; first | exact Or.inl ⟨rfl, by omega⟩ | exact Or.inr (⟨rfl, by omega⟩)) dX5_holds_31
    · refine lv_iload_n C.1 C.2.1 dX5_holds_8 rfl (lv_at hl 2 rfl) ?_
      refine lv_aload_n C.1 C.2.1 dX5_holds_9 rfl (lv_at hl 0 rfl) ?_
      refine g5 C hw (62 + 2 * i) (by omega) (kd_h (by omega)) 2 (by decide) mw_332 (svi (x := M (1000 * (62 + 2 * i) + 2)) rfl) dX5_holds_10 ?_
      refine x_icmp_gt (tgt := 30) C hq (g_M _) dX5_holds_13 (by decide) (fun c13 => ?_) (fun c13 => ?_)
      · refine lv_iconst (v := II 0) C.1 C.2.1 dX5_holds_30 rfl ?_
        exact x_ireturn C hr hlk hw hS ⟨by decide, by decide⟩ (by decide) (by refine ⟨rfl, ?_⟩; first | exact Or.inl ⟨rfl, by omega⟩ | exact Or.inr (⟨rfl, by omega⟩)) dX5_holds_31
      · refine lv_iload_n C.1 C.2.1 dX5_holds_16 rfl (lv_at hl 1 rfl) ?_
        refine lv_aload_n C.1 C.2.1 dX5_holds_17 rfl (lv_at hl 0 rfl) ?_
        refine g5 C hw (62 + 2 * i) (by omega) (kd_h (by omega)) 2 (by decide) mw_332 (svi (x := M (1000 * (62 + 2 * i) + 2)) rfl) dX5_holds_18 ?_
        refine lv_iload_n C.1 C.2.1 dX5_holds_21 rfl (lv_at hl 2 rfl) ?_
        refine x_isub C dX5_holds_22 ?_
        refine x_icmp_gt (tgt := 30) C hf ⟨by have := g_M (1000 * (62 + 2 * i) + 2); omega, by have := g_M (1000 * (62 + 2 * i) + 2); omega⟩ dX5_holds_23 (by decide) (fun c23 => ?_) (fun c23 => ?_)
        · refine lv_iconst (v := II 0) C.1 C.2.1 dX5_holds_30 rfl ?_
          exact x_ireturn C hr hlk hw hS ⟨by decide, by decide⟩ (by decide) (by refine ⟨rfl, ?_⟩; first | exact Or.inl ⟨rfl, by omega⟩ | exact Or.inr (⟨rfl, by omega⟩)) dX5_holds_31
        · refine lv_iconst (v := II 1) C.1 C.2.1 dX5_holds_26 rfl ?_
          refine lv_goto (tgt := 31) C.1 C.2.1 dX5_holds_27 (by decide) ?_
          exact x_ireturn C hr hlk hw hS ⟨by decide, by decide⟩ (by decide) (by refine ⟨rfl, ?_⟩; first | exact Or.inl ⟨rfl, by omega⟩ | exact Or.inr (⟨rfl, by omega⟩)) dX5_holds_31

set_option maxHeartbeats 4000000 in
set_option maxRecDepth 100000 in
theorem c_X5_put (l : Launch) (g : Gm) (M : Nat → Int) (hF : LvF g) (i : Nat) (hi : i < 4) (j : Nat) (hj : j < 40) (v : Int) (hv : rg v) : CV l ({ cls := "RatedBySighs$Sheet", name := "put", desc := "(II)V" } : Jvm.MethodName) cX5_put 3 (rmm 0 0) g M [.ref (gA g (62 + 2 * i)), .int (II (j : Int)), .int (II v)] (fun M' => M' = stM M (1000 * (63 + 2 * i) + j) (putV (M (1000 * (62 + 2 * i) + 1)) v)) := by
  refine c_start (by decide) (Nat.le_of_ble_eq_true rfl) (fun p e s m below meth c ls C hr hlk hml hw hS hl => ?_)
  have hl : lv_has ls 3 [(0, .ref (gA g (62 + 2 * i))), (1, .int (II (j : Int))), (2, .int (II v))] := hl
  have g_M := hw.rg
  have hN : gN g = 84 := hF.1
  refine lv_aload_n C.1 C.2.1 dX5_put_0 rfl (lv_at hl 0 rfl) ?_
  refine g5 C hw (62 + 2 * i) (by omega) (kd_h (by omega)) 1 (by decide) mw_330 (svi (x := M (1000 * (62 + 2 * i) + 1)) rfl) dX5_put_1 ?_
  refine x_if_ne (tgt := 18) C (g_M _) dX5_put_4 (by decide) (fun c4 => ?_) (fun c4 => ?_)
  · refine lv_aload_n C.1 C.2.1 dX5_put_18 rfl (lv_at hl 0 rfl) ?_
    refine g5 C hw (62 + 2 * i) (by omega) (kd_h (by omega)) 1 (by decide) mw_330 (svi (x := M (1000 * (62 + 2 * i) + 1)) rfl) dX5_put_19 ?_
    refine lv_iconst (v := II 1) C.1 C.2.1 dX5_put_22 rfl ?_
    refine x_icmp_ne (tgt := 37) C (g_M _) ⟨by decide, by decide⟩ dX5_put_23 (by decide) (fun c23 => ?_) (fun c23 => ?_)
    · refine lv_aload_n C.1 C.2.1 dX5_put_37 rfl (lv_at hl 0 rfl) ?_
      refine g5 C hw (62 + 2 * i) (by omega) (kd_h (by omega)) 0 (by decide) mw_328 (svr (rRow hF _ (by omega))) dX5_put_38 ?_
      refine lv_iload_n C.1 C.2.1 dX5_put_41 rfl (lv_at hl 1 rfl) ?_
      refine lv_iload_n C.1 C.2.1 dX5_put_42 rfl (lv_at hl 2 rfl) ?_
      refine x_iastore (L := 40) C hw hS (63 + 2 * i) (by omega) (kd_r (by omega)) (ln_r (by omega)) (by omega) (by omega) (by decide) (x := v) hv dX5_put_43 (fun H locs hw hS => ?_)
      have hw : Wo g (stM M (1000 * (63 + 2 * i) + j) v) H := hw
      exact x_return C hr hlk hw hS (by unfold putV; (repeat' split) <;> first | rfl | omega) dX5_put_44
    · refine lv_aload_n C.1 C.2.1 dX5_put_26 rfl (lv_at hl 0 rfl) ?_
      refine g5 C hw (62 + 2 * i) (by omega) (kd_h (by omega)) 0 (by decide) mw_328 (svr (rRow hF _ (by omega))) dX5_put_27 ?_
      refine lv_iload_n C.1 C.2.1 dX5_put_30 rfl (lv_at hl 1 rfl) ?_
      refine lv_iload_n C.1 C.2.1 dX5_put_31 rfl (lv_at hl 2 rfl) ?_
      refine lv_i2s (v := II (w16 v)) C.1 C.2.1 dX5_put_32 (II_self _).symm ?_
      refine x_iastore (L := 40) C hw hS (63 + 2 * i) (by omega) (kd_r (by omega)) (ln_r (by omega)) (by omega) (by omega) (by decide) (x := w16 v) (rg_toInt _) dX5_put_33 (fun H locs hw hS => ?_)
      have hw : Wo g (stM M (1000 * (63 + 2 * i) + j) (w16 v)) H := hw
      refine lv_goto (tgt := 44) C.1 C.2.1 dX5_put_34 (by decide) ?_
      exact x_return C hr hlk hw hS (by unfold putV; (repeat' split) <;> first | rfl | omega) dX5_put_44
  · refine lv_aload_n C.1 C.2.1 dX5_put_7 rfl (lv_at hl 0 rfl) ?_
    refine g5 C hw (62 + 2 * i) (by omega) (kd_h (by omega)) 0 (by decide) mw_328 (svr (rRow hF _ (by omega))) dX5_put_8 ?_
    refine lv_iload_n C.1 C.2.1 dX5_put_11 rfl (lv_at hl 1 rfl) ?_
    refine lv_iload_n C.1 C.2.1 dX5_put_12 rfl (lv_at hl 2 rfl) ?_
    refine lv_i2b (v := II (w8 v)) C.1 C.2.1 dX5_put_13 (II_self _).symm ?_
    refine x_iastore (L := 40) C hw hS (63 + 2 * i) (by omega) (kd_r (by omega)) (ln_r (by omega)) (by omega) (by omega) (by decide) (x := w8 v) (rg_toInt _) dX5_put_14 (fun H locs hw hS => ?_)
    have hw : Wo g (stM M (1000 * (63 + 2 * i) + j) (w8 v)) H := hw
    refine lv_goto (tgt := 44) C.1 C.2.1 dX5_put_15 (by decide) ?_
    exact x_return C hr hlk hw hS (by unfold putV; (repeat' split) <;> first | rfl | omega) dX5_put_44

set_option maxHeartbeats 4000000 in
set_option maxRecDepth 100000 in
theorem c_X5_becomeRow (l : Launch) (g : Gm) (M : Nat → Int) (hF : LvF g) (i : Nat) (hi : i < 4) (so : Int) (hso : rg so) (sz : Int) (hsz : rg sz) : CV l ({ cls := "RatedBySighs$Sheet", name := "becomeRow", desc := "(II)V" } : Jvm.MethodName) cX5_becomeRow 4 (rmm 0 0) g M [.ref (gA g (62 + 2 * i)), .int (II so), .int (II sz)] (fun M' => (M' (1000 * (62 + 2 * i) + 1) = so ∧ M' (1000 * (62 + 2 * i) + 2) = sz) ∧ (∀ j, j < 40 → M' (1000 * (63 + 2 * i) + j) = 0) ∧ (∀ n, ¬ (n / 1000 = 62 + 2 * i ∨ n / 1000 = 63 + 2 * i) → M' n = M n)) := by
  refine c_start (by decide) (Nat.le_of_ble_eq_true rfl) (fun p e s m below meth c ls C hr hlk hml hw hS hl => ?_)
  have hl : lv_has ls 4 [(0, .ref (gA g (62 + 2 * i))), (1, .int (II so)), (2, .int (II sz))] := hl
  generalize ([.ref (gA g (62 + 2 * i)), .int (II so), .int (II sz)] : List Value).toArray = args at C ⊢
  generalize hQQ : MQ below (postV g (fun M' => (M' (1000 * (62 + 2 * i) + 1) = so ∧ M' (1000 * (62 + 2 * i) + 2) = sz) ∧ (∀ j, j < 40 → M' (1000 * (63 + 2 * i) + j) = 0) ∧ (∀ n, ¬ (n / 1000 = 62 + 2 * i ∨ n / 1000 = 63 + 2 * i) → M' n = M n))) args s 0 0 (ar g) = QQ
  have g_M := hw.rg
  have hN : gN g = 84 := hF.1
  refine lv_aload_n C.1 C.2.1 dX5_becomeRow_0 rfl (lv_at hl 0 rfl) ?_
  refine lv_iload_n C.1 C.2.1 dX5_becomeRow_1 rfl (lv_at hl 1 rfl) ?_
  refine p5 C hw hS (62 + 2 * i) (by omega) (kd_h (by omega)) 1 (by decide) mw_330 rfl (x := so) hso (svi st_s) (tyX5_ok 1 (by decide)) rfl rfl dX5_becomeRow_2 (fun H locs hw hS => ?_)
  have hw : Wo g (stM M (1000 * (62 + 2 * i) + 1) so) H := hw
  refine lv_aload_n C.1 C.2.1 dX5_becomeRow_5 rfl (lv_at hl 0 rfl) ?_
  refine lv_iload_n C.1 C.2.1 dX5_becomeRow_6 rfl (lv_at hl 2 rfl) ?_
  refine p5 C hw hS (62 + 2 * i) (by omega) (kd_h (by omega)) 2 (by decide) mw_332 rfl (x := sz) hsz (svi st_s) (tyX5_ok 2 (by decide)) rfl rfl dX5_becomeRow_7 (fun H locs hw hS => ?_)
  have hw : Wo g (stM (stM M (1000 * (62 + 2 * i) + 1) so) (1000 * (62 + 2 * i) + 2) sz) H := hw
  refine lv_iconst (v := II 0) C.1 C.2.1 dX5_becomeRow_10 rfl ?_
  refine lv_istore_n (lv' := [(3, .int (II 0)), (0, .ref (gA g (62 + 2 * i))), (1, .int (II so)), (2, .int (II sz))]) C.1 C.2.1 dX5_becomeRow_11 rfl hl (by decide) rfl (fun ls hl => ?_)
  have L12 : ∀ (f1 : Nat) (j : Nat) (M2 : Nat → Int), (40 - j) < f1 → (M2 (1000 * (62 + 2 * i) + 1) = so ∧ M2 (1000 * (62 + 2 * i) + 2) = sz) → (∀ j', j' < j → M2 (1000 * (63 + 2 * i) + j') = 0) → (∀ n, ¬ (n / 1000 = 62 + 2 * i ∨ n / 1000 = 63 + 2 * i) → M2 n = M n) → (j ≤ 40) → ∀ (H : Heap) (locs : List Loc) (ls : Array Slot), Wo g M2 H → va_S (ar g) s.heap H locs → lv_has ls 4 [(0, .ref (gA g (62 + 2 * i))), (1, .int (II so)), (2, .int (II sz)), (3, .int (II (j : Int)))] → W p l e (rmm 0 0) s m args below meth c H locs 0 0 QQ (F0 m 12 ls []) := by
    intro f1
    induction f1 with
    | zero => intro j M2 hmu; exact absurd hmu (Nat.not_lt_zero _)
    | succ f1 ih =>
      intro j M2 hmu h1 h2 h3 h4 H locs ls hw hS hl
      have ih12 := ih
      have g_M2 := hw.rg
      refine lv_iload_n C.1 C.2.1 dX5_becomeRow_12 rfl (lv_at hl 3 rfl) ?_
      refine lv_bipush (v := II 40) C.1 C.2.1 dX5_becomeRow_13 (by decide) ?_
      refine x_icmp_ge (tgt := 31) C ⟨by omega, by omega⟩ ⟨by decide, by decide⟩ dX5_becomeRow_15 (by decide) (fun c15 => ?_) (fun c15 => ?_)
      · subst hQQ; exact x_return C hr hlk hw hS ⟨h1, fun q hq => h2 q (by omega), h3⟩ dX5_becomeRow_31
      · refine lv_aload_n C.1 C.2.1 dX5_becomeRow_18 rfl (lv_at hl 0 rfl) ?_
        refine g5 C hw (62 + 2 * i) (by omega) (kd_h (by omega)) 0 (by decide) mw_328 (svr (rRow hF _ (by omega))) dX5_becomeRow_19 ?_
        refine lv_iload_n C.1 C.2.1 dX5_becomeRow_22 rfl (lv_at hl 3 rfl) ?_
        refine lv_iconst (v := II 0) C.1 C.2.1 dX5_becomeRow_23 rfl ?_
        refine x_iastore (L := 40) C hw hS (63 + 2 * i) (by omega) (kd_r (by omega)) (ln_r (by omega)) (by omega) (by omega) (by decide) (x := 0) ⟨by decide, by decide⟩ dX5_becomeRow_24 (fun H locs hw hS => ?_)
        have hw : Wo g (stM M2 (1000 * (63 + 2 * i) + j) 0) H := hw
        refine lv_iinc (v := II ((j : Int) + 1)) (lv' := [(3, .int (II ((j : Int) + 1))), (0, .ref (gA g (62 + 2 * i))), (1, .int (II so)), (2, .int (II sz))]) C.1 C.2.1 dX5_becomeRow_25 hl (k := 3) rfl (II_add _ _) (by decide) rfl (fun ls hl => ?_)
        refine lv_goto (tgt := 12) C.1 C.2.1 dX5_becomeRow_28 (by decide) ?_
        exact ih12  (j + 1) (stM M2 (1000 * (63 + 2 * i) + j) 0) (by omega) (⟨(st_n (by omega)).trans h1.1, (st_n (by omega)).trans h1.2⟩) (stA h2 rfl) (stF h3 (by omega)) (by omega) _ _ _ hw hS (lv_sub hl [1, 2, 3, 0] rfl)
  exact L12 _ 0 (stM (stM M (1000 * (62 + 2 * i) + 1) so) (1000 * (62 + 2 * i) + 2) sz) (Nat.lt_succ_self _) (⟨(st_n (by omega)).trans st_s, st_s⟩) (fun _ h => absurd h (Nat.not_lt_zero _)) (stF (stF (fun _ _ => rfl) (by omega)) (by omega)) (by omega) _ _ _ hw hS (lv_sub hl [1, 2, 3, 0] rfl)
