def wr (z : Int) : Int := (II z).toInt
theorem wr_rg (z : Int) : -2147483648 ≤ wr z ∧ wr z ≤ 2147483647 := rg_toInt _
def joinK (w a b : Int) : Int := if w = -9 then (if a ≠ 0 ∨ b ≠ 0 then 1 else 0) else if w = -10 then (if a ≠ 0 ∧ b ≠ 0 then 1 else 0) else if w = -11 then (if a < b then 1 else 0) else if w = -12 then (if a = b then 1 else 0) else if w = -13 then wr (a + b) else if w = -14 then wr (a - b) else wr (a * b)
theorem joinK_rg (w a b : Int) : rg (joinK w a b) := by
  have h1 := rg_toInt (II (a + b)); have h2 := rg_toInt (II (a - b)); have h3 := rg_toInt (II (a * b))
  unfold joinK wr
  (repeat' split) <;> first | assumption | exact ⟨by decide, by decide⟩
/-- a word of a text's code: what it does to what is held, the last first -/
def stepW (nm : Nat → Int) (w : Int) (S : List Int) : Option (List Int) :=
  if 0 ≤ w then some (w :: S) else if -6 ≤ w then some (nm (-1 - w).toNat :: S) else match S with
  | [] => none
  | x :: r => if w = -7 then some (wr (-x) :: r) else if w = -8 then some ((if x = 0 then 1 else 0) :: r) else match r with
    | [] => none
    | y :: r' => some (joinK w y x :: r')
/-- n words of a code from place a on -/
def rnF (code : Nat → Int) (nm : Nat → Int) : Nat → Nat → List Int → Option (List Int)
  | 0, _, S => some S
  | n + 1, a, S => match stepW nm (code a) S with
    | none => none
    | some S' => rnF code nm n (a + 1) S'
theorem stepW_cases {nm : Nat → Int} {w : Int} {S S' : List Int} (h : stepW nm w S = some S') : (0 ≤ w ∧ S' = w :: S) ∨ ((-6 ≤ w ∧ w < 0) ∧ S' = nm (-1 - w).toNat :: S) ∨ (w = -7 ∧ ∃ x r, S = x :: r ∧ S' = wr (-x) :: r) ∨ (w = -8 ∧ ∃ x r, S = x :: r ∧ S' = (if x = 0 then 1 else 0) :: r) ∨ (w < -8 ∧ ∃ x y r, S = x :: y :: r ∧ S' = joinK w y x :: r) := by
  unfold stepW at h
  by_cases h0 : 0 ≤ w
  · rw [if_pos h0] at h; exact Or.inl ⟨h0, (Option.some.inj h).symm⟩
  rw [if_neg h0] at h
  by_cases h1 : -6 ≤ w
  · rw [if_pos h1] at h; exact Or.inr (Or.inl ⟨⟨h1, by omega⟩, (Option.some.inj h).symm⟩)
  rw [if_neg h1] at h
  match S, h with
  | x :: r, h =>
    by_cases h2 : w = -7
    · simp only [if_pos h2] at h; exact Or.inr (Or.inr (Or.inl ⟨h2, x, r, rfl, (Option.some.inj h).symm⟩))
    simp only [if_neg h2] at h
    by_cases h3 : w = -8
    · simp only [if_pos h3] at h; exact Or.inr (Or.inr (Or.inr (Or.inl ⟨h3, x, r, rfl, (Option.some.inj h).symm⟩)))
    simp only [if_neg h3] at h
    match r, h with
    | y :: r', h => exact Or.inr (Or.inr (Or.inr (Or.inr ⟨by omega, x, y, r', rfl, (Option.some.inj h).symm⟩)))
theorem rnF_step {code nm : Nat → Int} {a b : Nat} {S : List Int} {v : List Int} (hab : a < b) (h : rnF code nm (b - a) a S = some v) : ∃ S', stepW nm (code a) S = some S' ∧ rnF code nm (b - (a + 1)) (a + 1) S' = some v := by
  rw [show b - a = (b - (a + 1)) + 1 by omega, rnF] at h
  cases hs : stepW nm (code a) S with
  | none => rw [hs] at h; cases h
  | some S' => rw [hs] at h; exact ⟨S', rfl, h⟩
/-- what is held lies in the row at b, the last at its top -/
def stk (M : Nat → Int) (b : Nat) : List Int → Prop
  | [] => True
  | x :: r => M (b + r.length) = x ∧ stk M b r
theorem stk_st {M : Nat → Int} {b n : Nat} {v : Int} : ∀ {S : List Int}, stk M b S → b + S.length ≤ n → stk (stM M n v) b S
  | [], _, _ => trivial
  | x :: r, h, hn => by
    have hl : (x :: r).length = r.length + 1 := rfl
    exact ⟨(st_n (by omega)).trans h.1, stk_st h.2 (by omega)⟩
set_option maxHeartbeats 4000000 in
set_option maxRecDepth 100000 in
theorem c_X6_mean (l : Launch) (g : Gm) (M : Nat → Int) (hF : LvF g) (z1 : Int) (hz1 : rg z1) (z2 : Int) (hz2 : rg z2) (z3 : Int) (hz3 : rg z3) (z4 : Int) (hz4 : rg z4) (z5 : Int) (hz5 : rg z5) (z6 : Int) (hz6 : rg z6) : CV l ({ cls := "RatedBySighs$Texts", name := "mean", desc := "(IIIIII)V" } : Jvm.MethodName) cX6_mean 7 (rmm 0 0) g M [.ref (gA g 12), .int (II z1), .int (II z2), .int (II z3), .int (II z4), .int (II z5), .int (II z6)] (fun M' => M' = stM (stM (stM (stM (stM (stM M 27000 z1) 27001 z2) 27002 z3) 27003 z4) 27004 z5) 27005 z6) := by
  refine c_start (by decide) (Nat.le_of_ble_eq_true rfl) (fun p e s m below meth c ls C hr hlk hml hw hS hl => ?_)
  have hl : lv_has ls 7 [(0, .ref (gA g 12)), (1, .int (II z1)), (2, .int (II z2)), (3, .int (II z3)), (4, .int (II z4)), (5, .int (II z5)), (6, .int (II z6))] := hl
  have g_M := hw.rg
  have hN : gN g = 84 := hF.1
  refine lv_aload_n C.1 C.2.1 dX6_mean_0 rfl (lv_at hl 0 rfl) ?_
  refine g6 C hw 12 (by omega) rfl 2 (by decide) mw_221 (svr (hF.2 _)) dX6_mean_1 ?_
  refine lv_iconst (v := II 0) C.1 C.2.1 dX6_mean_4 rfl ?_
  refine lv_iload_n C.1 C.2.1 dX6_mean_5 rfl (lv_at hl 1 rfl) ?_
  refine x_iastore (L := 6) C hw hS 27 (by omega) rfl rfl (by omega) (by omega) (by decide) (x := z1) hz1 dX6_mean_6 (fun H locs hw hS => ?_)
  have hw : Wo g (stM M 27000 z1) H := hw
  refine lv_aload_n C.1 C.2.1 dX6_mean_7 rfl (lv_at hl 0 rfl) ?_
  refine g6 C hw 12 (by omega) rfl 2 (by decide) mw_221 (svr (hF.2 _)) dX6_mean_8 ?_
  refine lv_iconst (v := II 1) C.1 C.2.1 dX6_mean_11 rfl ?_
  refine lv_iload_n C.1 C.2.1 dX6_mean_12 rfl (lv_at hl 2 rfl) ?_
  refine x_iastore (L := 6) C hw hS 27 (by omega) rfl rfl (by omega) (by omega) (by decide) (x := z2) hz2 dX6_mean_13 (fun H locs hw hS => ?_)
  have hw : Wo g (stM (stM M 27000 z1) 27001 z2) H := hw
  refine lv_aload_n C.1 C.2.1 dX6_mean_14 rfl (lv_at hl 0 rfl) ?_
  refine g6 C hw 12 (by omega) rfl 2 (by decide) mw_221 (svr (hF.2 _)) dX6_mean_15 ?_
  refine lv_iconst (v := II 2) C.1 C.2.1 dX6_mean_18 rfl ?_
  refine lv_iload_n C.1 C.2.1 dX6_mean_19 rfl (lv_at hl 3 rfl) ?_
  refine x_iastore (L := 6) C hw hS 27 (by omega) rfl rfl (by omega) (by omega) (by decide) (x := z3) hz3 dX6_mean_20 (fun H locs hw hS => ?_)
  have hw : Wo g (stM (stM (stM M 27000 z1) 27001 z2) 27002 z3) H := hw
  refine lv_aload_n C.1 C.2.1 dX6_mean_21 rfl (lv_at hl 0 rfl) ?_
  refine g6 C hw 12 (by omega) rfl 2 (by decide) mw_221 (svr (hF.2 _)) dX6_mean_22 ?_
  refine lv_iconst (v := II 3) C.1 C.2.1 dX6_mean_25 rfl ?_
  refine lv_iload C.1 C.2.1 dX6_mean_26 (lv_at hl 4 rfl) ?_
  refine x_iastore (L := 6) C hw hS 27 (by omega) rfl rfl (by omega) (by omega) (by decide) (x := z4) hz4 dX6_mean_28 (fun H locs hw hS => ?_)
  have hw : Wo g (stM (stM (stM (stM M 27000 z1) 27001 z2) 27002 z3) 27003 z4) H := hw
  refine lv_aload_n C.1 C.2.1 dX6_mean_29 rfl (lv_at hl 0 rfl) ?_
  refine g6 C hw 12 (by omega) rfl 2 (by decide) mw_221 (svr (hF.2 _)) dX6_mean_30 ?_
  refine lv_iconst (v := II 4) C.1 C.2.1 dX6_mean_33 rfl ?_
  refine lv_iload C.1 C.2.1 dX6_mean_34 (lv_at hl 5 rfl) ?_
  refine x_iastore (L := 6) C hw hS 27 (by omega) rfl rfl (by omega) (by omega) (by decide) (x := z5) hz5 dX6_mean_36 (fun H locs hw hS => ?_)
  have hw : Wo g (stM (stM (stM (stM (stM M 27000 z1) 27001 z2) 27002 z3) 27003 z4) 27004 z5) H := hw
  refine lv_aload_n C.1 C.2.1 dX6_mean_37 rfl (lv_at hl 0 rfl) ?_
  refine g6 C hw 12 (by omega) rfl 2 (by decide) mw_221 (svr (hF.2 _)) dX6_mean_38 ?_
  refine lv_iconst (v := II 5) C.1 C.2.1 dX6_mean_41 rfl ?_
  refine lv_iload C.1 C.2.1 dX6_mean_42 (lv_at hl 6 rfl) ?_
  refine x_iastore (L := 6) C hw hS 27 (by omega) rfl rfl (by omega) (by omega) (by decide) (x := z6) hz6 dX6_mean_44 (fun H locs hw hS => ?_)
  have hw : Wo g (stM (stM (stM (stM (stM (stM M 27000 z1) 27001 z2) 27002 z3) 27003 z4) 27004 z5) 27005 z6) H := hw
  exact x_return C hr hlk hw hS rfl dX6_mean_45

set_option maxHeartbeats 4000000 in
set_option maxRecDepth 100000 in
theorem c_X6_joined (l : Launch) (g : Gm) (M : Nat → Int) (w : Int) (hw0 : rg w) (a : Int) (ha : rg a) (b : Int) (hb : rg b) : CI l ({ cls := "RatedBySighs$Texts", name := "joined", desc := "(III)I" } : Jvm.MethodName) cX6_joined 3 .int (rmm 0 0) g M [.int (II w), .int (II a), .int (II b)] (fun r M' => M' = M ∧ r = joinK w a b) := by
  refine c_start (by decide) (Nat.le_of_ble_eq_true rfl) (fun p e s m below meth c ls C hr hlk hml hw hS hl => ?_)
  have hl : lv_has ls 3 [(0, .int (II w)), (1, .int (II a)), (2, .int (II b))] := hl
  have g_M := hw.rg
  refine lv_iload_n C.1 C.2.1 dX6_joined_0 rfl (lv_at hl 0 rfl) ?_
  by_cases c1_m14 : w = (-14)
  · refine x_tabIn (tgt := 94) C hw0 dX6_joined_1 (by omega) (by omega) (by rw [c1_m14]; rfl) (by decide) ?_
    refine lv_iload_n C.1 C.2.1 dX6_joined_94 rfl (lv_at hl 1 rfl) ?_
    refine lv_iload_n C.1 C.2.1 dX6_joined_95 rfl (lv_at hl 2 rfl) ?_
    refine x_isub C dX6_joined_96 ?_
    refine x_top (b := wr (a - b)) (II_self _).symm ?_
    exact x_ireturn C hr hlk hw hS (rg_toInt _) rfl ⟨rfl, by unfold joinK; (repeat' split) <;> first | rfl | omega⟩ dX6_joined_97
  by_cases c1_m13 : w = (-13)
  · refine x_tabIn (tgt := 90) C hw0 dX6_joined_1 (by omega) (by omega) (by rw [c1_m13]; rfl) (by decide) ?_
    refine lv_iload_n C.1 C.2.1 dX6_joined_90 rfl (lv_at hl 1 rfl) ?_
    refine lv_iload_n C.1 C.2.1 dX6_joined_91 rfl (lv_at hl 2 rfl) ?_
    refine x_iadd C dX6_joined_92 ?_
    refine x_top (b := wr (a + b)) (II_self _).symm ?_
    exact x_ireturn C hr hlk hw hS (rg_toInt _) rfl ⟨rfl, by unfold joinK; (repeat' split) <;> first | rfl | omega⟩ dX6_joined_93
  by_cases c1_m12 : w = (-12)
  · refine x_tabIn (tgt := 79) C hw0 dX6_joined_1 (by omega) (by omega) (by rw [c1_m12]; rfl) (by decide) ?_
    refine lv_iload_n C.1 C.2.1 dX6_joined_79 rfl (lv_at hl 1 rfl) ?_
    refine lv_iload_n C.1 C.2.1 dX6_joined_80 rfl (lv_at hl 2 rfl) ?_
    refine x_icmp_ne (tgt := 88) C ha hb dX6_joined_81 (by decide) (fun c81 => ?_) (fun c81 => ?_)
    · refine lv_iconst (v := II 0) C.1 C.2.1 dX6_joined_88 rfl ?_
      exact x_ireturn C hr hlk hw hS ⟨by decide, by decide⟩ rfl ⟨rfl, by unfold joinK; (repeat' split) <;> first | rfl | omega⟩ dX6_joined_89
    · refine lv_iconst (v := II 1) C.1 C.2.1 dX6_joined_84 rfl ?_
      refine lv_goto (tgt := 89) C.1 C.2.1 dX6_joined_85 (by decide) ?_
      exact x_ireturn C hr hlk hw hS ⟨by decide, by decide⟩ rfl ⟨rfl, by unfold joinK; (repeat' split) <;> first | rfl | omega⟩ dX6_joined_89
  by_cases c1_m11 : w = (-11)
  · refine x_tabIn (tgt := 68) C hw0 dX6_joined_1 (by omega) (by omega) (by rw [c1_m11]; rfl) (by decide) ?_
    refine lv_iload_n C.1 C.2.1 dX6_joined_68 rfl (lv_at hl 1 rfl) ?_
    refine lv_iload_n C.1 C.2.1 dX6_joined_69 rfl (lv_at hl 2 rfl) ?_
    refine x_icmp_ge (tgt := 77) C ha hb dX6_joined_70 (by decide) (fun c70 => ?_) (fun c70 => ?_)
    · refine lv_iconst (v := II 0) C.1 C.2.1 dX6_joined_77 rfl ?_
      exact x_ireturn C hr hlk hw hS ⟨by decide, by decide⟩ rfl ⟨rfl, by unfold joinK; (repeat' split) <;> first | rfl | omega⟩ dX6_joined_78
    · refine lv_iconst (v := II 1) C.1 C.2.1 dX6_joined_73 rfl ?_
      refine lv_goto (tgt := 78) C.1 C.2.1 dX6_joined_74 (by decide) ?_
      exact x_ireturn C hr hlk hw hS ⟨by decide, by decide⟩ rfl ⟨rfl, by unfold joinK; (repeat' split) <;> first | rfl | omega⟩ dX6_joined_78
  by_cases c1_m10 : w = (-10)
  · refine x_tabIn (tgt := 54) C hw0 dX6_joined_1 (by omega) (by omega) (by rw [c1_m10]; rfl) (by decide) ?_
    refine lv_iload_n C.1 C.2.1 dX6_joined_54 rfl (lv_at hl 1 rfl) ?_
    refine x_if_eq (tgt := 66) C ha dX6_joined_55 (by decide) (fun c55 => ?_) (fun c55 => ?_)
    · refine lv_iconst (v := II 0) C.1 C.2.1 dX6_joined_66 rfl ?_
      exact x_ireturn C hr hlk hw hS ⟨by decide, by decide⟩ rfl ⟨rfl, by unfold joinK; (repeat' split) <;> first | rfl | omega⟩ dX6_joined_67
    · refine lv_iload_n C.1 C.2.1 dX6_joined_58 rfl (lv_at hl 2 rfl) ?_
      refine x_if_eq (tgt := 66) C hb dX6_joined_59 (by decide) (fun c59 => ?_) (fun c59 => ?_)
      · refine lv_iconst (v := II 0) C.1 C.2.1 dX6_joined_66 rfl ?_
        exact x_ireturn C hr hlk hw hS ⟨by decide, by decide⟩ rfl ⟨rfl, by unfold joinK; (repeat' split) <;> first | rfl | omega⟩ dX6_joined_67
      · refine lv_iconst (v := II 1) C.1 C.2.1 dX6_joined_62 rfl ?_
        refine lv_goto (tgt := 67) C.1 C.2.1 dX6_joined_63 (by decide) ?_
        exact x_ireturn C hr hlk hw hS ⟨by decide, by decide⟩ rfl ⟨rfl, by unfold joinK; (repeat' split) <;> first | rfl | omega⟩ dX6_joined_67
  by_cases c1_m9 : w = (-9)
  · refine x_tabIn (tgt := 40) C hw0 dX6_joined_1 (by omega) (by omega) (by rw [c1_m9]; rfl) (by decide) ?_
    refine lv_iload_n C.1 C.2.1 dX6_joined_40 rfl (lv_at hl 1 rfl) ?_
    refine x_if_ne (tgt := 48) C ha dX6_joined_41 (by decide) (fun c41 => ?_) (fun c41 => ?_)
    · refine lv_iconst (v := II 1) C.1 C.2.1 dX6_joined_48 rfl ?_
      refine lv_goto (tgt := 53) C.1 C.2.1 dX6_joined_49 (by decide) ?_
      exact x_ireturn C hr hlk hw hS ⟨by decide, by decide⟩ rfl ⟨rfl, by unfold joinK; (repeat' split) <;> first | rfl | omega⟩ dX6_joined_53
    · refine lv_iload_n C.1 C.2.1 dX6_joined_44 rfl (lv_at hl 2 rfl) ?_
      refine x_if_eq (tgt := 52) C hb dX6_joined_45 (by decide) (fun c45 => ?_) (fun c45 => ?_)
      · refine lv_iconst (v := II 0) C.1 C.2.1 dX6_joined_52 rfl ?_
        exact x_ireturn C hr hlk hw hS ⟨by decide, by decide⟩ rfl ⟨rfl, by unfold joinK; (repeat' split) <;> first | rfl | omega⟩ dX6_joined_53
      · refine lv_iconst (v := II 1) C.1 C.2.1 dX6_joined_48 rfl ?_
        refine lv_goto (tgt := 53) C.1 C.2.1 dX6_joined_49 (by decide) ?_
        exact x_ireturn C hr hlk hw hS ⟨by decide, by decide⟩ rfl ⟨rfl, by unfold joinK; (repeat' split) <;> first | rfl | omega⟩ dX6_joined_53
  refine x_tabOut (tgt := 98) C hw0 dX6_joined_1 (by omega) (by decide) ?_
  refine lv_iload_n C.1 C.2.1 dX6_joined_98 rfl (lv_at hl 1 rfl) ?_
  refine lv_iload_n C.1 C.2.1 dX6_joined_99 rfl (lv_at hl 2 rfl) ?_
  refine x_imul C dX6_joined_100 ?_
  refine x_top (b := wr (a * b)) (II_self _).symm ?_
  exact x_ireturn C hr hlk hw hS (rg_toInt _) rfl ⟨rfl, by unfold joinK; (repeat' split) <;> first | rfl | omega⟩ dX6_joined_101

set_option maxHeartbeats 4000000 in
set_option maxRecDepth 100000 in
theorem c_X6_worth (l : Launch) (g : Gm) (M : Nat → Int) (hF : LvF g) (t : Nat) (ht : t < 6) (q : Nat) (hq : q < 3) (a0 : Nat) (b : Nat) (hab : M (1000 * (21 + t) + q) = (a0 : Int) ∧ M (1000 * (21 + t) + (q + 1)) = (b : Int) ∧ a0 ≤ b ∧ b ≤ 160) (v : Int) (hv : rnF (fun i => M (1000 * (14 + t) + i)) (fun k => M (27000 + k)) (b - a0) a0 [] = some [v]) : CI l ({ cls := "RatedBySighs$Texts", name := "worth", desc := "(II)I" } : Jvm.MethodName) cX6_worth 8 .int (rmm 1 22) g M [.ref (gA g 12), .int (II (t : Int)), .int (II (q : Int))] (fun r M' => r = v ∧ (∀ n, ¬ (n / 1000 = 28) → M' n = M n)) := by
  refine c_start (by decide) (Nat.le_of_ble_eq_true rfl) (fun p e s m below meth c ls C hr hlk hml hw hS hl => ?_)
  have hl : lv_has ls 8 [(0, .ref (gA g 12)), (1, .int (II (t : Int))), (2, .int (II (q : Int)))] := hl
  generalize ([.ref (gA g 12), .int (II (t : Int)), .int (II (q : Int))] : List Value).toArray = args at C ⊢
  generalize hQQ : MQ below (postI g (fun r M' => r = v ∧ (∀ n, ¬ (n / 1000 = 28) → M' n = M n))) args s 0 0 (ar g) = QQ
  have g_M := hw.rg
  have hN : gN g = 84 := hF.1
  obtain ⟨ha0, hb, hab1, hab2⟩ := hab
  refine lv_aload_n C.1 C.2.1 dX6_worth_0 rfl (lv_at hl 0 rfl) ?_
  refine g6 C hw 12 (by omega) rfl 0 (by decide) mw_219 (svr (hF.2 _)) dX6_worth_1 ?_
  refine lv_iload_n C.1 C.2.1 dX6_worth_4 rfl (lv_at hl 1 rfl) ?_
  refine x_aaload (L := 6) C hw 13 (by omega) 13 rfl (by decide) rfl (by omega) (by omega) (by decide) (rC hF t (by omega)) dX6_worth_5 ?_
  refine lv_astore_n (lv' := [(3, .ref (gA g (14 + t))), (0, .ref (gA g 12)), (1, .int (II (t : Int))), (2, .int (II (q : Int)))]) C.1 C.2.1 dX6_worth_6 rfl hl (by decide) rfl (fun ls hl => ?_)
  refine lv_iconst (v := II (-1)) C.1 C.2.1 dX6_worth_7 rfl ?_
  refine lv_istore (lv' := [(4, .int (II (-1))), (3, .ref (gA g (14 + t))), (0, .ref (gA g 12)), (1, .int (II (t : Int))), (2, .int (II (q : Int)))]) C.1 C.2.1 dX6_worth_8 hl (by decide) rfl (fun ls hl => ?_)
  refine lv_aload_n C.1 C.2.1 dX6_worth_10 rfl (lv_at hl 2 rfl) ?_
  refine g6 C hw 12 (by omega) rfl 1 (by decide) mw_220 (svr (hF.2 _)) dX6_worth_11 ?_
  refine lv_iload_n C.1 C.2.1 dX6_worth_14 rfl (lv_at hl 3 rfl) ?_
  refine x_aaload (L := 6) C hw 20 (by omega) 13 rfl (by decide) rfl (by omega) (by omega) (by decide) (rS hF t (by omega)) dX6_worth_15 ?_
  refine lv_iload_n C.1 C.2.1 dX6_worth_16 rfl (lv_at hl 4 rfl) ?_
  refine lv_iconst (v := II 1) C.1 C.2.1 dX6_worth_17 rfl ?_
  refine x_iadd C dX6_worth_18 ?_
  refine x_iaload (L := 4) C hw (21 + t) (by omega) (kd_s (by omega)) (ln_s (by omega)) (by omega) (by omega) (by decide) (x := (b : Int)) ((congrArg (fun z => M (1000 * (21 + t) + z)) (by omega)).trans hb) dX6_worth_19 ?_
  refine lv_istore (lv' := [(5, .int (II (b : Int))), (4, .int (II (-1))), (3, .ref (gA g (14 + t))), (0, .ref (gA g 12)), (1, .int (II (t : Int))), (2, .int (II (q : Int)))]) C.1 C.2.1 dX6_worth_20 hl (by decide) rfl (fun ls hl => ?_)
  refine lv_aload_n C.1 C.2.1 dX6_worth_22 rfl (lv_at hl 3 rfl) ?_
  refine g6 C hw 12 (by omega) rfl 1 (by decide) mw_220 (svr (hF.2 _)) dX6_worth_23 ?_
  refine lv_iload_n C.1 C.2.1 dX6_worth_26 rfl (lv_at hl 4 rfl) ?_
  refine x_aaload (L := 6) C hw 20 (by omega) 13 rfl (by decide) rfl (by omega) (by omega) (by decide) (rS hF t (by omega)) dX6_worth_27 ?_
  refine lv_iload_n C.1 C.2.1 dX6_worth_28 rfl (lv_at hl 5 rfl) ?_
  refine x_iaload (L := 4) C hw (21 + t) (by omega) (kd_s (by omega)) (ln_s (by omega)) (by omega) (by omega) (by decide) (x := (a0 : Int)) ha0 dX6_worth_29 ?_
  refine lv_istore (lv' := [(6, .int (II (a0 : Int))), (5, .int (II (b : Int))), (4, .int (II (-1))), (3, .ref (gA g (14 + t))), (0, .ref (gA g 12)), (1, .int (II (t : Int))), (2, .int (II (q : Int)))]) C.1 C.2.1 dX6_worth_30 hl (by decide) rfl (fun ls hl => ?_)
  have L32 : ∀ (f1 : Nat) (a : Nat) (S : List Int) (tp : Int) (M2 : Nat → Int), (b - a) < f1 → (a ≤ b ∧ S.length ≤ a ∧ tp = (S.length : Int) - 1) → (rnF (fun i => M (1000 * (14 + t) + i)) (fun k => M (27000 + k)) (b - a) a S = some [v]) → (stk M2 28000 S) → (∀ n, ¬ (n / 1000 = 28) → M2 n = M n) → ∀ (H : Heap) (locs : List Loc) (ls : Array Slot), Wo g M2 H → va_S (ar g) s.heap H locs → lv_has ls 8 [(0, .ref (gA g 12)), (1, .int (II (t : Int))), (2, .int (II (q : Int))), (3, .ref (gA g (14 + t))), (4, .int (II tp)), (5, .int (II (b : Int))), (6, .int (II (a : Int)))] → W p l e (rmm 1 22) s m args below meth c H locs 0 0 QQ (F0 m 32 ls []) := by
    intro f1
    induction f1 with
    | zero => intro a S tp M2 hmu; exact absurd hmu (Nat.not_lt_zero _)
    | succ f1 ih =>
      intro a S tp M2 hmu h1 h2 h3 h5 H locs ls hw hS hl
      have ih32 := ih
      have g_M2 := hw.rg
      refine lv_iload C.1 C.2.1 dX6_worth_32 (lv_at hl 6 rfl) ?_
      refine lv_iload C.1 C.2.1 dX6_worth_34 (lv_at hl 5 rfl) ?_
      refine x_icmp_ge (tgt := 204) C ⟨by omega, by omega⟩ ⟨by omega, by omega⟩ dX6_worth_36 (by decide) (fun c36 => ?_) (fun c36 => ?_)
      · refine lv_aload_n C.1 C.2.1 dX6_worth_204 rfl (lv_at hl 0 rfl) ?_
        refine g6 C hw 12 (by omega) rfl 3 (by decide) mw_222 (svr (hF.2 _)) dX6_worth_205 ?_
        refine lv_iconst (v := II 0) C.1 C.2.1 dX6_worth_208 rfl ?_
        refine x_iaload (L := 160) C hw 28 (by omega) rfl rfl (by omega) (by omega) (by decide) (x := M2 28000) rfl dX6_worth_209 ?_
        subst hQQ; exact x_ireturn C hr hlk hw hS (g_M2 _) rfl ⟨by rw [show b - a = 0 by omega, rnF] at h2; cases h2; exact h3.1, h5⟩ dX6_worth_210
      · have hab3 : a < b := by omega
        obtain ⟨S1, hsw, hrn⟩ := rnF_step hab3 h2
        have ew : M2 (1000 * (14 + t) + a) = M (1000 * (14 + t) + a) := h5 _ (by omega)
        refine lv_aload_n C.1 C.2.1 dX6_worth_39 rfl (lv_at hl 3 rfl) ?_
        refine lv_iload C.1 C.2.1 dX6_worth_40 (lv_at hl 6 rfl) ?_
        refine x_iaload (L := 160) C hw (14 + t) (by omega) (kd_c (by omega)) (ln_c (by omega)) (by omega) (by omega) (by decide) (x := M2 (1000 * (14 + t) + a)) rfl dX6_worth_42 ?_
        refine lv_istore (lv' := [(7, .int (II (M2 (1000 * (14 + t) + a)))), (0, .ref (gA g 12)), (1, .int (II (t : Int))), (2, .int (II (q : Int))), (3, .ref (gA g (14 + t))), (4, .int (II tp)), (5, .int (II (b : Int))), (6, .int (II (a : Int)))]) C.1 C.2.1 dX6_worth_43 hl (by decide) rfl (fun ls hl => ?_)
        have hgw := g_M (1000 * (14 + t) + a)
        rcases stepW_cases hsw with ⟨hw1, rfl⟩ | ⟨hw1, rfl⟩ | ⟨hw1, x, r, rfl, rfl⟩ | ⟨hw1, x, r, rfl, rfl⟩ | ⟨hw1, x, y, r, rfl, rfl⟩
        · refine lv_iload C.1 C.2.1 dX6_worth_45 (lv_at hl 0 rfl) ?_
          refine lv_bipush (v := II (-6)) C.1 C.2.1 dX6_worth_47 (by decide) ?_
          refine x_icmp_lt (tgt := 94) C (g_M2 _) ⟨by decide, by decide⟩ dX6_worth_49 (by decide) (fun c49 => by exfalso; omega) (fun c49 => ?_)
          refine lv_iload C.1 C.2.1 dX6_worth_52 (lv_at hl 5 rfl) ?_
          refine lv_iconst (v := II 1) C.1 C.2.1 dX6_worth_54 rfl ?_
          refine x_iadd C dX6_worth_55 ?_
          refine lv_sipush (v := II 160) C.1 C.2.1 dX6_worth_56 (by decide) ?_
          refine x_icmp_ge (tgt := 94) C ⟨by omega, by omega⟩ ⟨by decide, by decide⟩ dX6_worth_59 (by decide) (fun c59 => by exfalso; omega) (fun c59 => ?_)
          refine lv_iinc (v := II (tp + 1)) (lv' := [(4, .int (II (tp + 1))), (7, .int (II (M2 (1000 * (14 + t) + a)))), (0, .ref (gA g 12)), (1, .int (II (t : Int))), (2, .int (II (q : Int))), (3, .ref (gA g (14 + t))), (5, .int (II (b : Int))), (6, .int (II (a : Int)))]) C.1 C.2.1 dX6_worth_62 hl (k := 5) rfl (II_add _ _) (by decide) rfl (fun ls hl => ?_)
          refine lv_aload_n C.1 C.2.1 dX6_worth_65 rfl (lv_at hl 2 rfl) ?_
          refine g6 C hw 12 (by omega) rfl 3 (by decide) mw_222 (svr (hF.2 _)) dX6_worth_66 ?_
          refine lv_iload C.1 C.2.1 dX6_worth_69 (lv_at hl 0 rfl) ?_
          refine lv_iload C.1 C.2.1 dX6_worth_71 (lv_at hl 1 rfl) ?_
          refine x_if_lt (tgt := 81) C (g_M2 _) dX6_worth_73 (by decide) (fun c73 => by exfalso; omega) (fun c73 => ?_)
          refine lv_iload C.1 C.2.1 dX6_worth_76 (lv_at hl 1 rfl) ?_
          refine lv_goto (tgt := 90) C.1 C.2.1 dX6_worth_78 (by decide) ?_
          refine x_iastore (L := 160) C hw hS 28 (by omega) rfl rfl (by omega) (by omega) (by decide) (x := M2 (1000 * (14 + t) + a)) (g_M2 _) dX6_worth_90 (fun H locs hw hS => ?_)
          have hw : Wo g (stM M2 (28000 + S.length) (M2 (1000 * (14 + t) + a))) H := by rw [show 1000 * 28 + (tp + 1).toNat = 28000 + S.length from by omega] at hw; exact hw
          refine lv_goto (tgt := 198) C.1 C.2.1 dX6_worth_91 (by decide) ?_
          refine lv_iinc (v := II ((a : Int) + 1)) (lv' := [(6, .int (II ((a : Int) + 1))), (4, .int (II (tp + 1))), (7, .int (II (M2 (1000 * (14 + t) + a)))), (0, .ref (gA g 12)), (1, .int (II (t : Int))), (2, .int (II (q : Int))), (3, .ref (gA g (14 + t))), (5, .int (II (b : Int)))]) C.1 C.2.1 dX6_worth_198 hl (k := 7) rfl (II_add _ _) (by decide) rfl (fun ls hl => ?_)
          refine lv_goto (tgt := 32) C.1 C.2.1 dX6_worth_201 (by decide) ?_
          exact ih32  (a + 1) (M (1000 * (14 + t) + a) :: S) (tp + 1) (stM M2 (28000 + S.length) (M2 (1000 * (14 + t) + a))) (by omega) (by simp only [List.length_cons] at *; omega) hrn (⟨st_s.trans ew, stk_st h3 (by omega)⟩) (stF h5 (by omega)) _ _ _ hw hS (lv_sub hl [3, 4, 5, 6, 1, 7, 0] rfl)
        · refine lv_iload C.1 C.2.1 dX6_worth_45 (lv_at hl 0 rfl) ?_
          refine lv_bipush (v := II (-6)) C.1 C.2.1 dX6_worth_47 (by decide) ?_
          refine x_icmp_lt (tgt := 94) C (g_M2 _) ⟨by decide, by decide⟩ dX6_worth_49 (by decide) (fun c49 => by exfalso; omega) (fun c49 => ?_)
          refine lv_iload C.1 C.2.1 dX6_worth_52 (lv_at hl 5 rfl) ?_
          refine lv_iconst (v := II 1) C.1 C.2.1 dX6_worth_54 rfl ?_
          refine x_iadd C dX6_worth_55 ?_
          refine lv_sipush (v := II 160) C.1 C.2.1 dX6_worth_56 (by decide) ?_
          refine x_icmp_ge (tgt := 94) C ⟨by omega, by omega⟩ ⟨by decide, by decide⟩ dX6_worth_59 (by decide) (fun c59 => by exfalso; omega) (fun c59 => ?_)
          refine lv_iinc (v := II (tp + 1)) (lv' := [(4, .int (II (tp + 1))), (7, .int (II (M2 (1000 * (14 + t) + a)))), (0, .ref (gA g 12)), (1, .int (II (t : Int))), (2, .int (II (q : Int))), (3, .ref (gA g (14 + t))), (5, .int (II (b : Int))), (6, .int (II (a : Int)))]) C.1 C.2.1 dX6_worth_62 hl (k := 5) rfl (II_add _ _) (by decide) rfl (fun ls hl => ?_)
          refine lv_aload_n C.1 C.2.1 dX6_worth_65 rfl (lv_at hl 2 rfl) ?_
          refine g6 C hw 12 (by omega) rfl 3 (by decide) mw_222 (svr (hF.2 _)) dX6_worth_66 ?_
          refine lv_iload C.1 C.2.1 dX6_worth_69 (lv_at hl 0 rfl) ?_
          refine lv_iload C.1 C.2.1 dX6_worth_71 (lv_at hl 1 rfl) ?_
          refine x_if_lt (tgt := 81) C (g_M2 _) dX6_worth_73 (by decide) (fun c73 => ?_) (fun c73 => by exfalso; omega)
          refine lv_aload_n C.1 C.2.1 dX6_worth_81 rfl (lv_at hl 2 rfl) ?_
          refine g6 C hw 12 (by omega) rfl 2 (by decide) mw_221 (svr (hF.2 _)) dX6_worth_82 ?_
          refine lv_iconst (v := II (-1)) C.1 C.2.1 dX6_worth_85 rfl ?_
          refine lv_iload C.1 C.2.1 dX6_worth_86 (lv_at hl 1 rfl) ?_
          refine x_isub C dX6_worth_88 ?_
          refine x_iaload (L := 6) C hw 27 (by omega) rfl rfl (by omega) (by omega) (by decide) (x := M2 (27000 + ((-1 - M (1000 * (14 + t) + a)).toNat))) (congrArg (fun z => M2 (1000 * 27 + z)) (by omega)) dX6_worth_89 ?_
          refine x_iastore (L := 160) C hw hS 28 (by omega) rfl rfl (by omega) (by omega) (by decide) (x := M2 (27000 + ((-1 - M (1000 * (14 + t) + a)).toNat))) (g_M2 _) dX6_worth_90 (fun H locs hw hS => ?_)
          have hw : Wo g (stM M2 (28000 + S.length) (M2 (27000 + ((-1 - M (1000 * (14 + t) + a)).toNat)))) H := by rw [show 1000 * 28 + (tp + 1).toNat = 28000 + S.length from by omega] at hw; exact hw
          refine lv_goto (tgt := 198) C.1 C.2.1 dX6_worth_91 (by decide) ?_
          refine lv_iinc (v := II ((a : Int) + 1)) (lv' := [(6, .int (II ((a : Int) + 1))), (4, .int (II (tp + 1))), (7, .int (II (M2 (1000 * (14 + t) + a)))), (0, .ref (gA g 12)), (1, .int (II (t : Int))), (2, .int (II (q : Int))), (3, .ref (gA g (14 + t))), (5, .int (II (b : Int)))]) C.1 C.2.1 dX6_worth_198 hl (k := 7) rfl (II_add _ _) (by decide) rfl (fun ls hl => ?_)
          refine lv_goto (tgt := 32) C.1 C.2.1 dX6_worth_201 (by decide) ?_
          exact ih32  (a + 1) ((fun k => M (27000 + k)) (-1 - M (1000 * (14 + t) + a)).toNat :: S) (tp + 1) (stM M2 (28000 + S.length) (M2 (27000 + ((-1 - M (1000 * (14 + t) + a)).toNat)))) (by omega) (by simp only [List.length_cons] at *; omega) hrn (⟨st_s.trans (h5 _ (by omega)), stk_st h3 (by omega)⟩) (stF h5 (by omega)) _ _ _ hw hS (lv_sub hl [3, 4, 5, 6, 1, 7, 0] rfl)
        · have hlen : (x :: r).length = r.length + 1 := rfl
          refine lv_iload C.1 C.2.1 dX6_worth_45 (lv_at hl 0 rfl) ?_
          refine lv_bipush (v := II (-6)) C.1 C.2.1 dX6_worth_47 (by decide) ?_
          refine x_icmp_lt (tgt := 94) C (g_M2 _) ⟨by decide, by decide⟩ dX6_worth_49 (by decide) (fun c49 => ?_) (fun c49 => by exfalso; omega)
          refine lv_iload C.1 C.2.1 dX6_worth_94 (lv_at hl 0 rfl) ?_
          refine lv_bipush (v := II (-7)) C.1 C.2.1 dX6_worth_96 (by decide) ?_
          refine x_icmp_ne (tgt := 124) C (g_M2 _) ⟨by decide, by decide⟩ dX6_worth_98 (by decide) (fun c98 => by exfalso; omega) (fun c98 => ?_)
          refine lv_iload C.1 C.2.1 dX6_worth_101 (lv_at hl 5 rfl) ?_
          refine x_if_lt (tgt := 124) C ⟨by omega, by omega⟩ dX6_worth_103 (by decide) (fun c103 => by exfalso; omega) (fun c103 => ?_)
          refine lv_aload_n C.1 C.2.1 dX6_worth_106 rfl (lv_at hl 1 rfl) ?_
          refine g6 C hw 12 (by omega) rfl 3 (by decide) mw_222 (svr (hF.2 _)) dX6_worth_107 ?_
          refine lv_iload C.1 C.2.1 dX6_worth_110 (lv_at hl 5 rfl) ?_
          refine lv_aload_n C.1 C.2.1 dX6_worth_112 rfl (lv_at hl 1 rfl) ?_
          refine g6 C hw 12 (by omega) rfl 3 (by decide) mw_222 (svr (hF.2 _)) dX6_worth_113 ?_
          refine lv_iload C.1 C.2.1 dX6_worth_116 (lv_at hl 5 rfl) ?_
          refine x_iaload (L := 160) C hw 28 (by omega) rfl rfl (by omega) (by omega) (by decide) (x := M2 (28000 + r.length)) (congrArg (fun z => M2 (1000 * 28 + z)) (by omega)) dX6_worth_118 ?_
          refine x_ineg C dX6_worth_119 ?_
          refine x_top (b := wr (-(M2 (28000 + r.length)))) (II_self _).symm ?_
          refine x_iastore (L := 160) C hw hS 28 (by omega) rfl rfl (by omega) (by omega) (by decide) (x := wr (-(M2 (28000 + r.length)))) (rg_toInt _) dX6_worth_120 (fun H locs hw hS => ?_)
          have hw : Wo g (stM M2 (28000 + r.length) (wr (-(M2 (28000 + r.length))))) H := by rw [show 1000 * 28 + (tp).toNat = 28000 + r.length from by omega] at hw; exact hw
          refine lv_goto (tgt := 198) C.1 C.2.1 dX6_worth_121 (by decide) ?_
          refine lv_iinc (v := II ((a : Int) + 1)) (lv' := [(6, .int (II ((a : Int) + 1))), (7, .int (II (M2 (1000 * (14 + t) + a)))), (0, .ref (gA g 12)), (1, .int (II (t : Int))), (2, .int (II (q : Int))), (3, .ref (gA g (14 + t))), (4, .int (II tp)), (5, .int (II (b : Int)))]) C.1 C.2.1 dX6_worth_198 hl (k := 7) rfl (II_add _ _) (by decide) rfl (fun ls hl => ?_)
          refine lv_goto (tgt := 32) C.1 C.2.1 dX6_worth_201 (by decide) ?_
          exact ih32  (a + 1) (wr (-x) :: r) tp (stM M2 (28000 + r.length) (wr (-(M2 (28000 + r.length))))) (by omega) (by simp only [List.length_cons] at *; omega) hrn (⟨st_s.trans (by rw [h3.1]), stk_st h3.2 (by omega)⟩) (stF h5 (by omega)) _ _ _ hw hS (lv_sub hl [2, 3, 4, 5, 6, 7, 0] rfl)
        · have hlen : (x :: r).length = r.length + 1 := rfl
          refine lv_iload C.1 C.2.1 dX6_worth_45 (lv_at hl 0 rfl) ?_
          refine lv_bipush (v := II (-6)) C.1 C.2.1 dX6_worth_47 (by decide) ?_
          refine x_icmp_lt (tgt := 94) C (g_M2 _) ⟨by decide, by decide⟩ dX6_worth_49 (by decide) (fun c49 => ?_) (fun c49 => by exfalso; omega)
          refine lv_iload C.1 C.2.1 dX6_worth_94 (lv_at hl 0 rfl) ?_
          refine lv_bipush (v := II (-7)) C.1 C.2.1 dX6_worth_96 (by decide) ?_
          refine x_icmp_ne (tgt := 124) C (g_M2 _) ⟨by decide, by decide⟩ dX6_worth_98 (by decide) (fun c98 => ?_) (fun c98 => by exfalso; omega)
          refine lv_iload C.1 C.2.1 dX6_worth_124 (lv_at hl 0 rfl) ?_
          refine lv_bipush (v := II (-8)) C.1 C.2.1 dX6_worth_126 (by decide) ?_
          refine x_icmp_ne (tgt := 161) C (g_M2 _) ⟨by decide, by decide⟩ dX6_worth_128 (by decide) (fun c128 => by exfalso; omega) (fun c128 => ?_)
          refine lv_iload C.1 C.2.1 dX6_worth_131 (lv_at hl 5 rfl) ?_
          refine x_if_lt (tgt := 161) C ⟨by omega, by omega⟩ dX6_worth_133 (by decide) (fun c133 => by exfalso; omega) (fun c133 => ?_)
          refine lv_aload_n C.1 C.2.1 dX6_worth_136 rfl (lv_at hl 1 rfl) ?_
          refine g6 C hw 12 (by omega) rfl 3 (by decide) mw_222 (svr (hF.2 _)) dX6_worth_137 ?_
          refine lv_iload C.1 C.2.1 dX6_worth_140 (lv_at hl 5 rfl) ?_
          refine lv_aload_n C.1 C.2.1 dX6_worth_142 rfl (lv_at hl 1 rfl) ?_
          refine g6 C hw 12 (by omega) rfl 3 (by decide) mw_222 (svr (hF.2 _)) dX6_worth_143 ?_
          refine lv_iload C.1 C.2.1 dX6_worth_146 (lv_at hl 5 rfl) ?_
          refine x_iaload (L := 160) C hw 28 (by omega) rfl rfl (by omega) (by omega) (by decide) (x := M2 (28000 + r.length)) (congrArg (fun z => M2 (1000 * 28 + z)) (by omega)) dX6_worth_148 ?_
          have J157 : ∀ (z : Int), (z = (if M2 (28000 + r.length) = 0 then 1 else 0)) → ∀ (H : Heap) (locs : List Loc) (ls : Array Slot), Wo g M2 H → va_S (ar g) s.heap H locs → lv_has ls 8 [(0, .ref (gA g 12)), (1, .int (II (t : Int))), (2, .int (II (q : Int))), (3, .ref (gA g (14 + t))), (4, .int (II tp)), (5, .int (II (b : Int))), (6, .int (II (a : Int))), (7, .int (II (M2 (1000 * (14 + t) + a))))] → W p l e (rmm 1 22) s m args below meth c H locs 0 0 QQ (F0 m 157 ls [.int (II z), .int (II tp), .ref (gA g 28)]) := by
            intro z hz H locs ls hw hS hl
            refine x_iastore (L := 160) C hw hS 28 (by omega) rfl rfl (by omega) (by omega) (by decide) (x := z) ⟨by omega, by omega⟩ dX6_worth_157 (fun H locs hw hS => ?_)
            have hw : Wo g (stM M2 (28000 + r.length) z) H := by rw [show 1000 * 28 + (tp).toNat = 28000 + r.length from by omega] at hw; exact hw
            refine lv_goto (tgt := 198) C.1 C.2.1 dX6_worth_158 (by decide) ?_
            refine lv_iinc (v := II ((a : Int) + 1)) (lv' := [(6, .int (II ((a : Int) + 1))), (0, .ref (gA g 12)), (1, .int (II (t : Int))), (2, .int (II (q : Int))), (3, .ref (gA g (14 + t))), (4, .int (II tp)), (5, .int (II (b : Int))), (7, .int (II (M2 (1000 * (14 + t) + a))))]) C.1 C.2.1 dX6_worth_198 hl (k := 6) rfl (II_add _ _) (by decide) rfl (fun ls hl => ?_)
            refine lv_goto (tgt := 32) C.1 C.2.1 dX6_worth_201 (by decide) ?_
            exact ih32  (a + 1) ((if x = 0 then 1 else 0) :: r) tp (stM M2 (28000 + r.length) z) (by omega) (by simp only [List.length_cons] at *; omega) hrn (⟨st_s.trans (by rw [hz, h3.1]), stk_st h3.2 (by omega)⟩) (stF h5 (by omega)) _ _ _ hw hS (lv_sub hl [1, 2, 3, 4, 5, 6, 0] rfl)
          refine x_if_ne (tgt := 156) C (g_M2 _) dX6_worth_149 (by decide) (fun c149 => ?_) (fun c149 => ?_)
          · refine lv_iconst (v := II 0) C.1 C.2.1 dX6_worth_156 rfl ?_
            exact J157 0 (by first | rw [if_pos (by omega)] | rw [if_neg (by omega)]) _ _ _ hw hS (lv_sub hl [1, 2, 3, 4, 5, 6, 7, 0] rfl)
          · refine lv_iconst (v := II 1) C.1 C.2.1 dX6_worth_152 rfl ?_
            refine lv_goto (tgt := 157) C.1 C.2.1 dX6_worth_153 (by decide) ?_
            exact J157 1 (by first | rw [if_pos (by omega)] | rw [if_neg (by omega)]) _ _ _ hw hS (lv_sub hl [1, 2, 3, 4, 5, 6, 7, 0] rfl)
        · have hlen : (x :: y :: r).length = r.length + 2 := rfl
          have h32 : M2 (28000 + r.length) = y := h3.2.1
          have h31 : M2 (28000 + (r.length + 1)) = x := h3.1
          refine lv_iload C.1 C.2.1 dX6_worth_45 (lv_at hl 0 rfl) ?_
          refine lv_bipush (v := II (-6)) C.1 C.2.1 dX6_worth_47 (by decide) ?_
          refine x_icmp_lt (tgt := 94) C (g_M2 _) ⟨by decide, by decide⟩ dX6_worth_49 (by decide) (fun c49 => ?_) (fun c49 => by exfalso; omega)
          refine lv_iload C.1 C.2.1 dX6_worth_94 (lv_at hl 0 rfl) ?_
          refine lv_bipush (v := II (-7)) C.1 C.2.1 dX6_worth_96 (by decide) ?_
          refine x_icmp_ne (tgt := 124) C (g_M2 _) ⟨by decide, by decide⟩ dX6_worth_98 (by decide) (fun c98 => ?_) (fun c98 => by exfalso; omega)
          refine lv_iload C.1 C.2.1 dX6_worth_124 (lv_at hl 0 rfl) ?_
          refine lv_bipush (v := II (-8)) C.1 C.2.1 dX6_worth_126 (by decide) ?_
          refine x_icmp_ne (tgt := 161) C (g_M2 _) ⟨by decide, by decide⟩ dX6_worth_128 (by decide) (fun c128 => ?_) (fun c128 => by exfalso; omega)
          refine lv_iload C.1 C.2.1 dX6_worth_161 (lv_at hl 5 rfl) ?_
          refine lv_iconst (v := II 1) C.1 C.2.1 dX6_worth_163 rfl ?_
          refine x_icmp_lt (tgt := 198) C ⟨by omega, by omega⟩ ⟨by decide, by decide⟩ dX6_worth_164 (by decide) (fun c164 => by exfalso; omega) (fun c164 => ?_)
          refine lv_iinc (v := II (tp + (-1))) (lv' := [(4, .int (II (tp + (-1)))), (7, .int (II (M2 (1000 * (14 + t) + a)))), (0, .ref (gA g 12)), (1, .int (II (t : Int))), (2, .int (II (q : Int))), (3, .ref (gA g (14 + t))), (5, .int (II (b : Int))), (6, .int (II (a : Int)))]) C.1 C.2.1 dX6_worth_167 hl (k := 5) rfl (II_add _ _) (by decide) rfl (fun ls hl => ?_)
          refine lv_aload_n C.1 C.2.1 dX6_worth_170 rfl (lv_at hl 2 rfl) ?_
          refine g6 C hw 12 (by omega) rfl 3 (by decide) mw_222 (svr (hF.2 _)) dX6_worth_171 ?_
          refine lv_iload C.1 C.2.1 dX6_worth_174 (lv_at hl 0 rfl) ?_
          refine lv_iload C.1 C.2.1 dX6_worth_176 (lv_at hl 1 rfl) ?_
          refine lv_aload_n C.1 C.2.1 dX6_worth_178 rfl (lv_at hl 2 rfl) ?_
          refine g6 C hw 12 (by omega) rfl 3 (by decide) mw_222 (svr (hF.2 _)) dX6_worth_179 ?_
          refine lv_iload C.1 C.2.1 dX6_worth_182 (lv_at hl 0 rfl) ?_
          refine x_iaload (L := 160) C hw 28 (by omega) rfl rfl (by omega) (by omega) (by decide) (x := M2 (28000 + r.length)) (congrArg (fun z => M2 (1000 * 28 + z)) (by omega)) dX6_worth_184 ?_
          refine lv_aload_n C.1 C.2.1 dX6_worth_185 rfl (lv_at hl 2 rfl) ?_
          refine g6 C hw 12 (by omega) rfl 3 (by decide) mw_222 (svr (hF.2 _)) dX6_worth_186 ?_
          refine lv_iload C.1 C.2.1 dX6_worth_189 (lv_at hl 0 rfl) ?_
          refine lv_iconst (v := II 1) C.1 C.2.1 dX6_worth_191 rfl ?_
          refine x_iadd C dX6_worth_192 ?_
          refine x_iaload (L := 160) C hw 28 (by omega) rfl rfl (by omega) (by omega) (by decide) (x := M2 (28000 + (r.length + 1))) (congrArg (fun z => M2 (1000 * 28 + z)) (by omega)) dX6_worth_193 ?_
          refine x_ci (x_runS (n := 3) C hw hS hml hl.1 (c_X6_joined l g M2 (M2 (1000 * (14 + t) + a)) (g_M2 _) (M2 (28000 + r.length)) (g_M2 _) (M2 (28000 + (r.length + 1))) (g_M2 _)) mw_572 mw_573 mw_121 mw_574 rfl rfl (by decide +kernel) ⟨Nat.le_of_ble_eq_true rfl, Nat.le_of_ble_eq_true rfl⟩ rfl rfl (Nat.le_of_ble_eq_true rfl) dX6_worth_194 ⟨Nat.zero_le _, Nat.zero_le _⟩) hS (fun r194 M194 H locs hr194 hp hw hS => ?_)
          obtain ⟨em194, er194⟩ := hp
          have hw : Wo g M2 H := em194 ▸ hw
          rw [er194] at hr194 ⊢
          refine x_iastore (L := 160) C hw hS 28 (by omega) rfl rfl (by omega) (by omega) (by decide) (x := joinK (M2 (1000 * (14 + t) + a)) (M2 (28000 + r.length)) (M2 (28000 + (r.length + 1)))) hr194 dX6_worth_197 (fun H locs hw hS => ?_)
          have hw : Wo g (stM M2 (28000 + r.length) (joinK (M2 (1000 * (14 + t) + a)) (M2 (28000 + r.length)) (M2 (28000 + (r.length + 1))))) H := by rw [show 1000 * 28 + (tp + (-1)).toNat = 28000 + r.length from by omega] at hw; exact hw
          refine lv_iinc (v := II ((a : Int) + 1)) (lv' := [(6, .int (II ((a : Int) + 1))), (4, .int (II (tp + (-1)))), (7, .int (II (M2 (1000 * (14 + t) + a)))), (0, .ref (gA g 12)), (1, .int (II (t : Int))), (2, .int (II (q : Int))), (3, .ref (gA g (14 + t))), (5, .int (II (b : Int)))]) C.1 C.2.1 dX6_worth_198 hl (k := 7) rfl (II_add _ _) (by decide) rfl (fun ls hl => ?_)
          refine lv_goto (tgt := 32) C.1 C.2.1 dX6_worth_201 (by decide) ?_
          exact ih32  (a + 1) (joinK (M (1000 * (14 + t) + a)) y x :: r) (tp + (-1)) (stM M2 (28000 + r.length) (joinK (M2 (1000 * (14 + t) + a)) (M2 (28000 + r.length)) (M2 (28000 + (r.length + 1))))) (by omega) (by simp only [List.length_cons] at *; omega) hrn (⟨st_s.trans (by rw [h32, h31, ew]), stk_st h3.2.2 (by omega)⟩) (stF h5 (by omega)) _ _ _ hw hS (lv_sub hl [3, 4, 5, 6, 1, 7, 0] rfl)
  exact L32 _ a0 ([]) (-1) M (Nat.lt_succ_self _) (by simp; omega) hv trivial (fun _ _ => rfl) _ _ _ hw hS (lv_sub hl [4, 5, 6, 3, 2, 1, 0] rfl)
