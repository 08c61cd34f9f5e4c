theorem MB.fw {M M' : Nat → Int} {n : Nat} {v : Nat → Nat → Int} {nt : Int} {t : Nat} {E : Ev} {gn : Int} (h : MB M n v nt t E gn) (hf : ∀ m, m = 70004 ∨ m = 70007 ∨ m = 70011 ∨ m = 70027 ∨ (71 ≤ m / 1000 ∧ m / 1000 ≤ 75) → M' m = M m) : MB M' n v nt t E gn := by
  obtain ⟨⟨h1, h2⟩, ⟨r1, r2, r3⟩, h4, ⟨h5, h6⟩, ⟨h7, h8⟩, h9, ⟨ha, hb⟩⟩ := h
  refine ⟨⟨(hf _ (by omega)).trans h1, h2⟩, ⟨fun q hq hg => ?_, r2, fun q hq => ?_⟩, h4, ⟨(hf _ (by omega)).trans h5, h6⟩, ⟨(hf _ (by omega)).trans h7, h8⟩, h9.fr (fun m hm => hf m (by omega)), ⟨(hf _ (by omega)).trans ha, hb⟩⟩
  · have := r1 q hq hg
    rw [hf (74000 + q) (by omega), hf (75000 + 4 * q) (by omega), hf (75000 + (4 * q + 1)) (by omega), hf (75000 + (4 * q + 2)) (by omega), hf (75000 + (4 * q + 3)) (by omega)]
    exact this
  · rw [hf (75000 + (4 * q + 2)) (by omega)]; exact r3 q hq
theorem shmI {M M' : Nat → Int} {Sh : Sht} {i : Nat} {so n : Int} {f f' : Nat → Int} (h : ShtM M (s_row Sh i so n f)) (hso : so ≠ -1) (hz : ∀ i, i < 4 → Sh.2.1 i ≤ 40) (hi : i < 4) (hr : ∀ j : Nat, (j : Int) < n → M' (83000 + (40 * i + j)) = f' j) (hf : ∀ m, ¬ (83000 + 40 * i ≤ m ∧ m < 83000 + 40 * i + 40) → M' m = M m) : ShtM M' (s_row Sh i so n f') := by
  intro k hk
  have h9 := hz k hk
  have h8 := h k hk
  unfold s_row up1 upr at h8 ⊢
  by_cases e : k = i
  · subst e
    dsimp only at h8 ⊢
    rw [if_pos rfl, if_pos rfl, if_pos rfl] at h8
    rw [if_pos rfl, if_pos rfl, if_pos rfl]
    rcases h8 with ⟨h1, h2⟩ | ⟨h1, h2, h3, h4, h5⟩
    · exact absurd h1 hso
    · exact Or.inr ⟨h1, (hf _ (by omega)).trans h2, (hf _ (by omega)).trans h3, (hf _ (by omega)).trans h4, hr⟩
  · dsimp only at h8 ⊢
    rw [if_neg e, if_neg e, if_neg e] at h8
    rw [if_neg e, if_neg e, if_neg e]
    rcases h8 with ⟨h1, h2⟩ | ⟨h1, h2, h3, h4, h5⟩
    · exact Or.inl ⟨h1, (hf _ (by omega)).trans h2⟩
    · exact Or.inr ⟨h1, (hf _ (by omega)).trans h2, (hf _ (by omega)).trans h3, (hf _ (by omega)).trans h4, fun j hj => (hf _ (by omega)).trans (h5 j hj)⟩
theorem lrem_t : ∀ a, a < 21 → ∀ b, b < 21 → b ≠ 0 → LL (a : Nat) - LL (a : Nat) / LL (b : Nat) * LL (b : Nat) = LL ((a % b : Nat) : Int) := by decide +kernel
theorem ldiv_t : ∀ a, a < 21 → ∀ b, b < 21 → b ≠ 0 → LL (a : Nat) / LL (b : Nat) = LL ((a / b : Nat) : Int) := by decide +kernel
section PV
variable {p : Program} {l : Launch} {e : Env} {Rm : Room} {s : State} {m : MethodId} {args : Array Value} {below : List Frame} {meth : Method} {c : Code} {H : Heap} {locs : List Loc} {cells slots : Nat} {Q : State → Prop}
variable {cc : ByteArray} {own : String} {pc : Nat} {ls : Array Slot} {rest : List Value} {g : Gm} {M : Nat → Int}
theorem x_lrem {a b : Int} (C : Cx g p c m s args cc own) (h0 : 0 ≤ a ∧ a ≤ 20) (ha : rg a) (h1 : 0 < b ∧ b ≤ 20) (hb : rg b) (hdg : decode cc pc = .ok (.lrem, 1)) (k : W p l e Rm s m args below meth c H locs cells slots Q (F0 m (pc + 1) ls (.long (LL (a % b)) :: rest))) : W p l e Rm s m args below meth c H locs cells slots Q (F0 m pc ls (.long (LL b) :: .long (LL a) :: rest)) := by
  obtain ⟨x, rfl⟩ : ∃ n : Nat, a = n := ⟨a.toNat, by omega⟩
  obtain ⟨y, rfl⟩ : ∃ n : Nat, b = n := ⟨b.toNat, by omega⟩
  refine lv_lrem C.1 C.2.1 hdg (fun q => ?_) ?_
  · have := congrArg Int64.toInt q
    rw [LL_toInt hb] at this
    have h9 : (0 : Int64).toInt = 0 := rfl
    omega
  · rw [lrem_t x (by omega) y (by omega) (by omega)]; exact k
theorem x_ldiv {a b : Int} (C : Cx g p c m s args cc own) (h0 : 0 ≤ a ∧ a ≤ 20) (ha : rg a) (h1 : 0 < b ∧ b ≤ 20) (hb : rg b) (hdg : decode cc pc = .ok (.ldiv, 1)) (k : W p l e Rm s m args below meth c H locs cells slots Q (F0 m (pc + 1) ls (.long (LL (a / b)) :: rest))) : W p l e Rm s m args below meth c H locs cells slots Q (F0 m pc ls (.long (LL b) :: .long (LL a) :: rest)) := by
  obtain ⟨x, rfl⟩ : ∃ n : Nat, a = n := ⟨a.toNat, by omega⟩
  obtain ⟨y, rfl⟩ : ∃ n : Nat, b = n := ⟨b.toNat, by omega⟩
  refine lv_ldiv C.1 C.2.1 hdg (fun q => ?_) ?_
  · have := congrArg Int64.toInt q
    rw [LL_toInt hb] at this
    have h9 : (0 : Int64).toInt = 0 := rfl
    omega
  · rw [ldiv_t x (by omega) y (by omega) (by omega)]; exact k
end PV
set_option maxHeartbeats 4000000 in
set_option maxRecDepth 100000 in
theorem c_X8_film (l : Launch) (g : Gm) (M : Nat → Int) (hF : LvF g) (n : Nat) (v : Nat → Nat → Int) (nt : Int) (pd : Int) (t : Nat) (X : Txt) (I : Option Bor) (Sh : Sht) (hR : RepM M (n, v, nt, pd, t) X I Sh) (hA : InvA (n, v, nt, pd, t) X I Sh) (s0 : Int) (gz_s0 : rg s0) (ho : Int) (gz_ho : rg ho) : CI l ({ cls := "RatedBySighsModel", name := "film", desc := "(II)I" } : Jvm.MethodName) cX8_film 4 .int (rmm 44 978) g M [.ref (gA g 70), .int (II s0), .int (II ho)] (fun r M' => r = r_film s0 ho ∧ (RepM M' (n, v, nt, pd, t) X I (s_film Sh v n nt (X.2.1 t) s0 ho)) ∧ (∀ m, m < 70000 → M' m = M m)) := by
  refine c_start (by decide) (Nat.le_of_ble_eq_true rfl) (fun p e s m below meth c ls C hr hlk hml hw hS hl => ?_)
  have hl : lv_has ls 4 [(0, .ref (gA g 70)), (1, .int (II s0)), (2, .int (II ho))] := hl
  generalize ([.ref (gA g 70), .int (II s0), .int (II ho)] : List Value).toArray = args at C ⊢
  generalize hQQ : MQ below (postI g (fun r M' => r = r_film s0 ho ∧ (RepM M' (n, v, nt, pd, t) X I (s_film Sh v n nt (X.2.1 t) s0 ho)) ∧ (∀ m, m < 70000 → M' m = M m))) args s 0 0 (ar g) = QQ
  have g_M := hw.rg
  have hN : gN g = 84 := hF.1
  have hM : MB M n v nt t (X.2.1 t) (-1) := hR.mb hA
  have hn2 : n ≤ 8 := hM.1.2
  have hnt := hM.2.2.2.1.2
  have hpd : 0 ≤ pd ∧ pd ≤ 999999999 := hA.1.2.2.2.2.1
  have htc := hA.2.1
  have hts := hA.2.2.1.1
  have ht9 : t < X.1 := hA.1.2.2.2.2.2
  refine lv_iload_n C.1 C.2.1 dX8_film_0 rfl (lv_at hl 1 rfl) ?_
  refine x_ci (x_runS (n := 1) C hw hS hml hl.1 (c_X8_isSheet l g M s0 gz_s0) mw_1301 mw_1302 mw_130 mw_1303 rfl rfl (by decide +kernel) ⟨Nat.le_of_ble_eq_true rfl, Nat.le_of_ble_eq_true rfl⟩ rfl rfl (Nat.le_of_ble_eq_true rfl) dX8_film_1 ⟨Nat.zero_le _, Nat.zero_le _⟩) hS (fun r1 M1 H locs hr1 hp hw hS => ?_)
  rcases hp with ⟨em1, (⟨er1, h1b⟩ | ⟨er1, h1b⟩)⟩
  · have hw : Wo g M H := em1 ▸ hw
    rw [er1]
    refine x_if_eq (tgt := 14) C ⟨by decide, by decide⟩ dX8_film_4 (by decide) (fun h => absurd h (by decide)) (fun _ => ?_)
    have hs4 : 0 ≤ s0 ∧ s0 < 4 := h1b
    refine lv_iload_n C.1 C.2.1 dX8_film_7 rfl (lv_at hl 2 rfl) ?_
    refine x_ci (x_runS (n := 1) C hw hS hml hl.1 (c_X8_isHouse l g M ho gz_ho) mw_1210 mw_1211 mw_130 mw_1212 rfl rfl (by decide +kernel) ⟨Nat.le_of_ble_eq_true rfl, Nat.le_of_ble_eq_true rfl⟩ rfl rfl (Nat.le_of_ble_eq_true rfl) dX8_film_8 ⟨Nat.zero_le _, Nat.zero_le _⟩) hS (fun r8 M8 H locs hr8 hp hw hS => ?_)
    rcases hp with ⟨em8, (⟨er8, h8b⟩ | ⟨er8, h8b⟩)⟩
    · have hw : Wo g M H := em8 ▸ hw
      rw [er8]
      refine x_if_ne (tgt := 17) C ⟨by decide, by decide⟩ dX8_film_11 (by decide) (fun _ => ?_) (fun h => absurd h (by decide))
      have hho4 : 0 ≤ ho ∧ ho ≤ 4 := h8b
      obtain ⟨i, rfl⟩ : ∃ i : Nat, s0 = (i : Int) := ⟨s0.toNat, by omega⟩
      refine lv_aload_n C.1 C.2.1 dX8_film_17 rfl (lv_at hl 0 rfl) ?_
      refine x_cv (x_runV (n := 0) C hw hS hml hl.1 70 8 (by omega) rfl (by decide) rfl (c_X8_gathers l g M hF n v nt t (X.2.1 t) (-1) hM) mw_979 mw_981 mw_54 mw_130 mw_982 rfl rfl (by decide +kernel) ⟨Nat.le_of_ble_eq_true rfl, Nat.le_of_ble_eq_true rfl⟩ rfl rfl (Nat.le_of_ble_eq_true rfl) dX8_film_18 ⟨Nat.zero_le _, Nat.zero_le _⟩) hS (fun M18 H locs hp hw hS => ?_)
      obtain ⟨h18a, h18f⟩ := hp
      have g_M18 := hw.rg
      refine lv_aload_n C.1 C.2.1 dX8_film_21 rfl (lv_at hl 0 rfl) ?_
      refine lv_iload_n C.1 C.2.1 dX8_film_22 rfl (lv_at hl 1 rfl) ?_
      refine lv_iconst (v := II 2) C.1 C.2.1 dX8_film_23 rfl ?_
      refine lv_bipush (v := II 6) C.1 C.2.1 dX8_film_24 (by decide) ?_
      refine x_ci (x_runV (n := 3) C hw hS hml hl.1 70 8 (by omega) rfl (by decide) rfl (c_X8_sheet l g M18 hF n v nt pd t X I Sh (hR.fr hA (fun m hm _ => h18f m (fun z => hm (Or.inl z)))) hA (i : Int) ⟨by omega, by omega⟩ 2 ⟨by decide, by decide⟩ 6 ⟨by decide, by decide⟩) mw_1314 mw_1315 mw_1316 mw_130 mw_1317 rfl rfl (by decide +kernel) ⟨Nat.le_of_ble_eq_true rfl, Nat.le_of_ble_eq_true rfl⟩ rfl rfl (Nat.le_of_ble_eq_true rfl) dX8_film_26 ⟨Nat.zero_le _, Nat.zero_le _⟩) hS (fun r26 M26 H locs hr26 hp hw hS => ?_)
      obtain ⟨er26, h26r, h26f⟩ := hp
      have g_M26 := hw.rg
      rw [er26] at hr26 ⊢
      refine lv_pop C.1 C.2.1 dX8_film_29 rfl ?_
      refine lv_iconst (v := II 0) C.1 C.2.1 dX8_film_30 rfl ?_
      refine lv_istore_n (lv' := [(3, .int (II 0)), (0, .ref (gA g 70)), (1, .int (II (i : Int))), (2, .int (II ho))]) C.1 C.2.1 dX8_film_31 rfl hl (by decide) rfl (fun ls hl => ?_)
      have L32 : ∀ (f1 : Nat) (h : Nat) (M3 : Nat → Int), (6 - h) < f1 → (h ≤ 6) → (∀ x, x < h → M3 (83000 + (40 * i + x)) = reedS v n nt (X.2.1 t) ho x) → (∀ m, ¬ (83000 + 40 * i ≤ m ∧ m < 83000 + 40 * i + 40) → M3 m = M26 m) → ∀ (H : Heap) (locs : List Loc) (ls : Array Slot), Wo g M3 H → va_S (ar g) s.heap H locs → lv_has ls 4 [(0, .ref (gA g 70)), (1, .int (II (i : Int))), (2, .int (II ho)), (3, .int (II (h : Int)))] → W p l e (rmm 44 978) s m args below meth c H locs 0 0 QQ (F0 m 32 ls []) := by
        intro f1
        induction f1 with
        | zero => intro h M3 hmu; exact absurd hmu (Nat.not_lt_zero _)
        | succ f1 ih =>
          intro h M3 hmu h1 hq hf3 H locs ls hw hS hl
          have ih32 := ih
          have g_M3 := hw.rg
          refine lv_iload_n C.1 C.2.1 dX8_film_32 rfl (lv_at hl 3 rfl) ?_
          refine lv_bipush (v := II 6) C.1 C.2.1 dX8_film_33 (by decide) ?_
          refine x_icmp_ge (tgt := 61) C ⟨by omega, by omega⟩ ⟨by decide, by decide⟩ dX8_film_35 (by decide) (fun c35 => ?_) (fun c35 => ?_)
          · refine lv_bipush (v := II 6) C.1 C.2.1 dX8_film_61 (by decide) ?_
            subst hQQ; exact x_ireturn C hr hlk hw hS ⟨by decide, by decide⟩ rfl (by
    have e : (0 ≤ (i : Int) ∧ (i : Int) < 4) ∧ (0 ≤ ho ∧ ho ≤ 4) := ⟨by omega, hho4⟩
    have es : s_sheet Sh (i : Int) 2 6 = s_row Sh i 2 6 (fun _ => 0) := by
      have e1 : okSh (i : Int) 2 6 = true := decide_eq_true (by omega)
      unfold s_sheet; rw [e1]; rfl
    rw [es] at h26r
    unfold r_film s_film
    rw [if_pos e, if_pos e]
    refine ⟨rfl, ⟨h26r.1.fr hA.1.1 (fun m hm => hf3 m (by omega)), h26r.2.1.fr ⟨hA.2.1.2, hA.2.2.1.1⟩ (fun m hm => hf3 m (by omega)), h26r.2.2.1.fr hA.im (fun m hm => hf3 m (by omega)), shmI h26r.2.2.2.1 (by decide) hA.sz (by show i < 4; omega) (fun j hj => hq j (by omega)) hf3, (hf3 _ (by omega)).trans h26r.2.2.2.2⟩, fun m hm => (hf3 m (by omega)).trans ((h26f m (by omega)).trans (h18f m (by unfold scm; omega)))⟩) dX8_film_63
          · refine lv_aload_n C.1 C.2.1 dX8_film_38 rfl (lv_at hl 0 rfl) ?_
            refine g8 C hw 70 (by omega) rfl 41 (by decide) mw_865 (svr (hF.2 _)) dX8_film_39 ?_
            refine lv_bipush (v := II 40) C.1 C.2.1 dX8_film_42 (by decide) ?_
            refine lv_iload_n C.1 C.2.1 dX8_film_44 rfl (lv_at hl 1 rfl) ?_
            refine x_imul C dX8_film_45 ?_
            refine lv_iload_n C.1 C.2.1 dX8_film_46 rfl (lv_at hl 3 rfl) ?_
            refine x_iadd C dX8_film_47 ?_
            refine lv_aload_n C.1 C.2.1 dX8_film_48 rfl (lv_at hl 0 rfl) ?_
            refine lv_iload_n C.1 C.2.1 dX8_film_49 rfl (lv_at hl 2 rfl) ?_
            refine lv_iload_n C.1 C.2.1 dX8_film_50 rfl (lv_at hl 3 rfl) ?_
            refine x_ci (x_runV (n := 2) C hw hS hml hl.1 70 8 (by omega) rfl (by decide) rfl (c_X8_reedOf l g M3 hF n v nt t (X.2.1 t) (hM.fw (fun m hm => (hf3 m (by omega)).trans ((h26f m (by omega)).trans (h18f m (by unfold scm; omega))))) (fun p hp hg h hh => (hf3 _ (by omega)).trans ((h26f _ (by omega)).trans (h18a p hp hg h hh).2)) ho gz_ho h (by omega)) mw_1231 mw_1233 mw_108 mw_130 mw_1234 rfl rfl (by decide +kernel) ⟨Nat.le_of_ble_eq_true rfl, Nat.le_of_ble_eq_true rfl⟩ rfl rfl (Nat.le_of_ble_eq_true rfl) dX8_film_51 ⟨Nat.zero_le _, Nat.zero_le _⟩) hS (fun r51 M51 H locs hr51 hp hw hS => ?_)
            obtain ⟨em51, er51⟩ := hp
            have hw : Wo g M3 H := em51 ▸ hw
            rw [er51] at hr51 ⊢
            have hre := reedS_in v n nt (X.2.1 t) ho h
            refine x_iastore (L := 160) C hw hS 83 (by omega) rfl rfl (by omega) (by omega) (by decide) (x := reedS v n nt (X.2.1 t) ho h) hr51 dX8_film_54 (fun H locs hw hS => ?_)
            have hw : Wo g (stM M3 (83000 + ((40 * i) + h)) (reedS v n nt (X.2.1 t) ho h)) H := by rw [show 1000 * 83 + ((40 * (i : Int)) + (h : Int)).toNat = 83000 + ((40 * i) + h) from by omega] at hw; exact hw
            refine lv_iinc (v := II ((h : Int) + 1)) (lv' := [(3, .int (II ((h : Int) + 1))), (0, .ref (gA g 70)), (1, .int (II (i : Int))), (2, .int (II ho))]) C.1 C.2.1 dX8_film_55 hl (k := 3) rfl (II_add _ _) (by decide) rfl (fun ls hl => ?_)
            refine lv_goto (tgt := 32) C.1 C.2.1 dX8_film_58 (by decide) ?_
            exact ih32  (h + 1) (stM M3 (83000 + ((40 * i) + h)) (reedS v n nt (X.2.1 t) ho h)) (by omega) (by omega) (fun x hx => by by_cases e : x = h <;> first | (rw [e, st_s]; done) | (rw [st_n (by omega)]; exact hq x (by omega))) (fun m hm => by rw [st_n (by omega)]; exact hf3 m hm) _ _ _ hw hS (lv_sub hl [1, 2, 3, 0] rfl)
      exact L32 _ 0 M26 (Nat.lt_succ_self _) (by omega) (fun _ h => absurd h (Nat.not_lt_zero _)) (fun _ _ => rfl) _ _ _ hw hS (lv_sub hl [1, 2, 3, 0] rfl)
    · have hw : Wo g M H := em8 ▸ hw
      rw [er8]
      refine x_if_ne (tgt := 17) C ⟨by decide, by decide⟩ dX8_film_11 (by decide) (fun h => absurd h (by decide)) (fun _ => ?_)
      refine lv_bipush (v := II (-2)) C.1 C.2.1 dX8_film_14 (by decide) ?_
      subst hQQ; exact x_ireturn C hr hlk hw hS ⟨by decide, by decide⟩ rfl (by have e : ¬ ((0 ≤ s0 ∧ s0 < 4) ∧ (0 ≤ ho ∧ ho ≤ 4)) := (fun z => by first | exact h8b z.2 | exact h1b z.1); unfold r_film s_film; rw [if_neg e, if_neg e]; exact ⟨rfl, hR, fun _ _ => rfl⟩) dX8_film_16
  · have hw : Wo g M H := em1 ▸ hw
    rw [er1]
    refine x_if_eq (tgt := 14) C ⟨by decide, by decide⟩ dX8_film_4 (by decide) (fun _ => ?_) (fun h => absurd h (by decide))
    refine lv_bipush (v := II (-2)) C.1 C.2.1 dX8_film_14 (by decide) ?_
    subst hQQ; exact x_ireturn C hr hlk hw hS ⟨by decide, by decide⟩ rfl (by have e : ¬ ((0 ≤ s0 ∧ s0 < 4) ∧ (0 ≤ ho ∧ ho ≤ 4)) := (fun z => by first | exact h8b z.2 | exact h1b z.1); unfold r_film s_film; rw [if_neg e, if_neg e]; exact ⟨rfl, hR, fun _ _ => rfl⟩) dX8_film_16

set_option maxHeartbeats 4000000 in
set_option maxRecDepth 100000 in
theorem c_X8_copy (l : Launch) (g : Gm) (M : Nat → Int) (hF : LvF g) (n : Nat) (v : Nat → Nat → Int) (nt : Int) (pd : Int) (t : Nat) (X : Txt) (I : Option Bor) (Sh : Sht) (hR : RepM M (n, v, nt, pd, t) X I Sh) (hA : InvA (n, v, nt, pd, t) X I Sh) (s0 : Int) (gz_s0 : rg s0) (i0 : Int) (gz_i0 : rg i0) (o0 : Int) (gz_o0 : rg o0) (j0 : Int) (gz_j0 : rg j0) (z : Int) (gz_z : rg z) : CI l ({ cls := "RatedBySighsModel", name := "copy", desc := "(IIIII)I" } : Jvm.MethodName) cX8_copy 9 .int (rmm 2 45) g M [.ref (gA g 70), .int (II s0), .int (II i0), .int (II o0), .int (II j0), .int (II z)] (fun r M' => r = r_copy Sh s0 i0 o0 j0 z ∧ (RepM M' (n, v, nt, pd, t) X I (s_copy Sh s0 i0 o0 j0 z)) ∧ (∀ m, m < 70000 → M' m = M m)) := by
  refine c_start (by decide) (Nat.le_of_ble_eq_true rfl) (fun p e s m below meth c ls C hr hlk hml hw hS hl => ?_)
  have hl : lv_has ls 9 [(0, .ref (gA g 70)), (1, .int (II s0)), (2, .int (II i0)), (3, .int (II o0)), (4, .int (II j0)), (5, .int (II z))] := hl
  generalize ([.ref (gA g 70), .int (II s0), .int (II i0), .int (II o0), .int (II j0), .int (II z)] : List Value).toArray = args at C ⊢
  generalize hQQ : MQ below (postI g (fun r M' => r = r_copy Sh s0 i0 o0 j0 z ∧ (RepM M' (n, v, nt, pd, t) X I (s_copy Sh s0 i0 o0 j0 z)) ∧ (∀ m, m < 70000 → M' m = M m))) args s 0 0 (ar g) = QQ
  have g_M := hw.rg
  have hN : gN g = 84 := hF.1
  have hM : MB M n v nt t (X.2.1 t) (-1) := hR.mb hA
  have hn2 : n ≤ 8 := hM.1.2
  have hnt := hM.2.2.2.1.2
  have hpd : 0 ≤ pd ∧ pd ≤ 999999999 := hA.1.2.2.2.2.1
  have htc := hA.2.1
  have hts := hA.2.2.1.1
  have ht9 : t < X.1 := hA.1.2.2.2.2.2
  refine lv_iload_n C.1 C.2.1 dX8_copy_0 rfl (lv_at hl 1 rfl) ?_
  refine x_ci (x_runS (n := 1) C hw hS hml hl.1 (c_X8_isSheet l g M s0 gz_s0) mw_1301 mw_1302 mw_130 mw_1303 rfl rfl (by decide +kernel) ⟨Nat.le_of_ble_eq_true rfl, Nat.le_of_ble_eq_true rfl⟩ rfl rfl (Nat.le_of_ble_eq_true rfl) dX8_copy_1 ⟨Nat.zero_le _, Nat.zero_le _⟩) hS (fun r1 M1 H locs hr1 hp hw hS => ?_)
  rcases hp with ⟨em1, (⟨er1, h1b⟩ | ⟨er1, h1b⟩)⟩
  · have hw : Wo g M H := em1 ▸ hw
    rw [er1]
    refine x_if_eq (tgt := 14) C ⟨by decide, by decide⟩ dX8_copy_4 (by decide) (fun h => absurd h (by decide)) (fun _ => ?_)
    have hs4 : 0 ≤ s0 ∧ s0 < 4 := h1b
    refine lv_iload_n C.1 C.2.1 dX8_copy_7 rfl (lv_at hl 3 rfl) ?_
    refine x_ci (x_runS (n := 1) C hw hS hml hl.1 (c_X8_isSheet l g M o0 gz_o0) mw_1301 mw_1302 mw_130 mw_1303 rfl rfl (by decide +kernel) ⟨Nat.le_of_ble_eq_true rfl, Nat.le_of_ble_eq_true rfl⟩ rfl rfl (Nat.le_of_ble_eq_true rfl) dX8_copy_8 ⟨Nat.zero_le _, Nat.zero_le _⟩) hS (fun r8 M8 H locs hr8 hp hw hS => ?_)
    rcases hp with ⟨em8, (⟨er8, h8b⟩ | ⟨er8, h8b⟩)⟩
    · have hw : Wo g M H := em8 ▸ hw
      rw [er8]
      refine x_if_ne (tgt := 17) C ⟨by decide, by decide⟩ dX8_copy_11 (by decide) (fun _ => ?_) (fun h => absurd h (by decide))
      have ho4 : 0 ≤ o0 ∧ o0 < 4 := h8b
      obtain ⟨i, rfl⟩ : ∃ i : Nat, s0 = (i : Int) := ⟨s0.toNat, by omega⟩
      obtain ⟨j, rfl⟩ : ∃ i : Nat, o0 = (i : Int) := ⟨o0.toNat, by omega⟩
      have gz1 := gz_z.1
      have gz2 := gz_z.2
      have hsz1 := hA.2.2.2.2 i (by omega)
      have hsz2 := hA.2.2.2.2 j (by omega)
      refine lv_aload_n C.1 C.2.1 dX8_copy_17 rfl (lv_at hl 0 rfl) ?_
      rcases hR.2.2.2.1 i (by omega) with ⟨zs1, zs2⟩ | ⟨zs1, zs2, zs3, zs4, zs5⟩
      · refine g8 C hw 70 (by omega) rfl 38 (by decide) mw_862 (svr (hF.2 _)) dX8_copy_18 ?_
        refine lv_iload_n C.1 C.2.1 dX8_copy_21 rfl (lv_at hl 1 rfl) ?_
        refine x_baload (L := 4) C hw 80 (by omega) rfl rfl (by omega) (by omega) (by decide) (x := 0) zs2 dX8_copy_22 ?_
        refine x_if_eq (tgt := 35) C ⟨by decide, by decide⟩ dX8_copy_23 (by decide) (fun _ => ?_) (fun h => absurd h (by decide))
        refine lv_bipush (v := II (-11)) C.1 C.2.1 dX8_copy_35 (by decide) ?_
        subst hQQ; exact x_ireturn C hr hlk hw hS ⟨by decide, by decide⟩ rfl (by have e : r_copy Sh (i : Int) i0 (j : Int) j0 z = -11 := (by simp only [r_copy, Int.toNat_natCast]; rw [if_neg (by omega), if_pos (by first | exact Or.inl zs1 | exact Or.inr zo1)]); unfold s_copy; rw [e, if_neg (by decide)]; exact ⟨rfl, hR, fun _ _ => rfl⟩) dX8_copy_37
      · refine g8 C hw 70 (by omega) rfl 38 (by decide) mw_862 (svr (hF.2 _)) dX8_copy_18 ?_
        refine lv_iload_n C.1 C.2.1 dX8_copy_21 rfl (lv_at hl 1 rfl) ?_
        refine x_baload (L := 4) C hw 80 (by omega) rfl rfl (by omega) (by omega) (by decide) (x := 1) zs2 dX8_copy_22 ?_
        refine x_if_eq (tgt := 35) C ⟨by decide, by decide⟩ dX8_copy_23 (by decide) (fun h => absurd h (by decide)) (fun _ => ?_)
        refine lv_aload_n C.1 C.2.1 dX8_copy_26 rfl (lv_at hl 0 rfl) ?_
        rcases hR.2.2.2.1 j (by omega) with ⟨zo1, zo2⟩ | ⟨zo1, zo2, zo3, zo4, zo5⟩
        · refine g8 C hw 70 (by omega) rfl 38 (by decide) mw_862 (svr (hF.2 _)) dX8_copy_27 ?_
          refine lv_iload_n C.1 C.2.1 dX8_copy_30 rfl (lv_at hl 3 rfl) ?_
          refine x_baload (L := 4) C hw 80 (by omega) rfl rfl (by omega) (by omega) (by decide) (x := 0) zo2 dX8_copy_31 ?_
          refine x_if_ne (tgt := 38) C ⟨by decide, by decide⟩ dX8_copy_32 (by decide) (fun h => absurd h (by decide)) (fun _ => ?_)
          refine lv_bipush (v := II (-11)) C.1 C.2.1 dX8_copy_35 (by decide) ?_
          subst hQQ; exact x_ireturn C hr hlk hw hS ⟨by decide, by decide⟩ rfl (by have e : r_copy Sh (i : Int) i0 (j : Int) j0 z = -11 := (by simp only [r_copy, Int.toNat_natCast]; rw [if_neg (by omega), if_pos (by first | exact Or.inl zs1 | exact Or.inr zo1)]); unfold s_copy; rw [e, if_neg (by decide)]; exact ⟨rfl, hR, fun _ _ => rfl⟩) dX8_copy_37
        · refine g8 C hw 70 (by omega) rfl 38 (by decide) mw_862 (svr (hF.2 _)) dX8_copy_27 ?_
          refine lv_iload_n C.1 C.2.1 dX8_copy_30 rfl (lv_at hl 3 rfl) ?_
          refine x_baload (L := 4) C hw 80 (by omega) rfl rfl (by omega) (by omega) (by decide) (x := 1) zo2 dX8_copy_31 ?_
          refine x_if_ne (tgt := 38) C ⟨by decide, by decide⟩ dX8_copy_32 (by decide) (fun _ => ?_) (fun h => absurd h (by decide))
          refine lv_aload_n C.1 C.2.1 dX8_copy_38 rfl (lv_at hl 0 rfl) ?_
          refine g8 C hw 70 (by omega) rfl 39 (by decide) mw_863 (svr (hF.2 _)) dX8_copy_39 ?_
          refine lv_iload_n C.1 C.2.1 dX8_copy_42 rfl (lv_at hl 1 rfl) ?_
          refine x_iaload (L := 4) C hw 81 (by omega) rfl rfl (by omega) (by omega) (by decide) (x := Sh.1 i) zs3 dX8_copy_43 ?_
          refine lv_aload_n C.1 C.2.1 dX8_copy_44 rfl (lv_at hl 0 rfl) ?_
          refine g8 C hw 70 (by omega) rfl 39 (by decide) mw_863 (svr (hF.2 _)) dX8_copy_45 ?_
          refine lv_iload_n C.1 C.2.1 dX8_copy_48 rfl (lv_at hl 3 rfl) ?_
          refine x_iaload (L := 4) C hw 81 (by omega) rfl rfl (by omega) (by omega) (by decide) (x := Sh.1 j) zo3 dX8_copy_49 ?_
          refine x_icmp_eq (tgt := 56) C ⟨by have := g_M (81000 + i); have := zs3; omega, by have := g_M (81000 + i); have := zs3; omega⟩ ⟨by have := g_M (81000 + j); have := zo3; omega, by have := g_M (81000 + j); have := zo3; omega⟩ dX8_copy_50 (by decide) (fun c50 => ?_) (fun c50 => ?_)
          · refine lv_iload C.1 C.2.1 dX8_copy_56 (lv_at hl 5 rfl) ?_
            refine x_if_lt (tgt := 97) C gz_z dX8_copy_58 (by decide) (fun c58 => ?_) (fun c58 => ?_)
            · refine lv_bipush (v := II (-12)) C.1 C.2.1 dX8_copy_97 (by decide) ?_
              subst hQQ; exact x_ireturn C hr hlk hw hS ⟨by decide, by decide⟩ rfl (by have e : r_copy Sh (i : Int) i0 (j : Int) j0 z = -12 := (by simp only [r_copy, Int.toNat_natCast]; rw [if_neg (by omega), if_neg (by omega), if_neg (by omega), if_neg (by omega)]); unfold s_copy; rw [e, if_neg (by decide)]; exact ⟨rfl, hR, fun _ _ => rfl⟩) dX8_copy_99
            · refine lv_iload_n C.1 C.2.1 dX8_copy_61 rfl (lv_at hl 2 rfl) ?_
              refine x_if_lt (tgt := 97) C gz_i0 dX8_copy_62 (by decide) (fun c62 => ?_) (fun c62 => ?_)
              · refine lv_bipush (v := II (-12)) C.1 C.2.1 dX8_copy_97 (by decide) ?_
                subst hQQ; exact x_ireturn C hr hlk hw hS ⟨by decide, by decide⟩ rfl (by have e : r_copy Sh (i : Int) i0 (j : Int) j0 z = -12 := (by simp only [r_copy, Int.toNat_natCast]; rw [if_neg (by omega), if_neg (by omega), if_neg (by omega), if_neg (by omega)]); unfold s_copy; rw [e, if_neg (by decide)]; exact ⟨rfl, hR, fun _ _ => rfl⟩) dX8_copy_99
              · refine lv_iload C.1 C.2.1 dX8_copy_65 (lv_at hl 4 rfl) ?_
                refine x_if_lt (tgt := 97) C gz_j0 dX8_copy_67 (by decide) (fun c67 => ?_) (fun c67 => ?_)
                · refine lv_bipush (v := II (-12)) C.1 C.2.1 dX8_copy_97 (by decide) ?_
                  subst hQQ; exact x_ireturn C hr hlk hw hS ⟨by decide, by decide⟩ rfl (by have e : r_copy Sh (i : Int) i0 (j : Int) j0 z = -12 := (by simp only [r_copy, Int.toNat_natCast]; rw [if_neg (by omega), if_neg (by omega), if_neg (by omega), if_neg (by omega)]); unfold s_copy; rw [e, if_neg (by decide)]; exact ⟨rfl, hR, fun _ _ => rfl⟩) dX8_copy_99
                · refine lv_iload_n C.1 C.2.1 dX8_copy_70 rfl (lv_at hl 2 rfl) ?_
                  refine lv_aload_n C.1 C.2.1 dX8_copy_71 rfl (lv_at hl 0 rfl) ?_
                  refine g8 C hw 70 (by omega) rfl 40 (by decide) mw_864 (svr (hF.2 _)) dX8_copy_72 ?_
                  refine lv_iload_n C.1 C.2.1 dX8_copy_75 rfl (lv_at hl 1 rfl) ?_
                  refine x_iaload (L := 4) C hw 82 (by omega) rfl rfl (by omega) (by omega) (by decide) (x := Sh.2.1 i) zs4 dX8_copy_76 ?_
                  refine lv_iload C.1 C.2.1 dX8_copy_77 (lv_at hl 5 rfl) ?_
                  refine x_isub C dX8_copy_79 ?_
                  refine x_icmp_gt (tgt := 97) C gz_i0 ⟨by have := g_M (82000 + i); have := zs4; omega, by have := g_M (82000 + i); have := zs4; omega⟩ dX8_copy_80 (by decide) (fun c80 => ?_) (fun c80 => ?_)
                  · refine lv_bipush (v := II (-12)) C.1 C.2.1 dX8_copy_97 (by decide) ?_
                    subst hQQ; exact x_ireturn C hr hlk hw hS ⟨by decide, by decide⟩ rfl (by have e : r_copy Sh (i : Int) i0 (j : Int) j0 z = -12 := (by simp only [r_copy, Int.toNat_natCast]; rw [if_neg (by omega), if_neg (by omega), if_neg (by omega), if_neg (by omega)]); unfold s_copy; rw [e, if_neg (by decide)]; exact ⟨rfl, hR, fun _ _ => rfl⟩) dX8_copy_99
                  · refine lv_iload C.1 C.2.1 dX8_copy_83 (lv_at hl 4 rfl) ?_
                    refine lv_aload_n C.1 C.2.1 dX8_copy_85 rfl (lv_at hl 0 rfl) ?_
                    refine g8 C hw 70 (by omega) rfl 40 (by decide) mw_864 (svr (hF.2 _)) dX8_copy_86 ?_
                    refine lv_iload_n C.1 C.2.1 dX8_copy_89 rfl (lv_at hl 3 rfl) ?_
                    refine x_iaload (L := 4) C hw 82 (by omega) rfl rfl (by omega) (by omega) (by decide) (x := Sh.2.1 j) zo4 dX8_copy_90 ?_
                    refine lv_iload C.1 C.2.1 dX8_copy_91 (lv_at hl 5 rfl) ?_
                    refine x_isub C dX8_copy_93 ?_
                    refine x_icmp_le (tgt := 100) C gz_j0 ⟨by have := g_M (82000 + j); have := zo4; omega, by have := g_M (82000 + j); have := zo4; omega⟩ dX8_copy_94 (by decide) (fun c94 => ?_) (fun c94 => ?_)
                    · obtain ⟨x, rfl⟩ : ∃ i : Nat, i0 = (i : Int) := ⟨i0.toNat, by omega⟩
                      obtain ⟨y, rfl⟩ : ∃ i : Nat, j0 = (i : Int) := ⟨j0.toNat, by omega⟩
                      obtain ⟨K, rfl⟩ : ∃ i : Nat, z = (i : Int) := ⟨z.toNat, by omega⟩
                      refine lv_iload_n C.1 C.2.1 dX8_copy_100 rfl (lv_at hl 1 rfl) ?_
                      refine lv_iload_n C.1 C.2.1 dX8_copy_101 rfl (lv_at hl 3 rfl) ?_
                      refine x_icmp_ne (tgt := 115) C ⟨by omega, by omega⟩ ⟨by omega, by omega⟩ dX8_copy_102 (by decide) (fun c102 => ?_) (fun c102 => ?_)
                      · refine lv_iconst (v := II 0) C.1 C.2.1 dX8_copy_115 rfl ?_
                        refine lv_istore (lv' := [(6, .int (II 0)), (0, .ref (gA g 70)), (1, .int (II (i : Int))), (2, .int (II (x : Int))), (3, .int (II (j : Int))), (4, .int (II (y : Int))), (5, .int (II (K : Int)))]) C.1 C.2.1 dX8_copy_116 hl (by decide) rfl (fun ls hl => ?_)
                        refine lv_iconst (v := II 0) C.1 C.2.1 dX8_copy_118 rfl ?_
                        refine lv_istore (lv' := [(7, .int (II 0)), (6, .int (II 0)), (0, .ref (gA g 70)), (1, .int (II (i : Int))), (2, .int (II (x : Int))), (3, .int (II (j : Int))), (4, .int (II (y : Int))), (5, .int (II (K : Int)))]) C.1 C.2.1 dX8_copy_119 hl (by decide) rfl (fun ls hl => ?_)
                        have L121 : ∀ (f1 : Nat) (u : Int) (a : Nat) (k : Nat) (M2 : Nat → Int), (K - k) < f1 → (k ≤ K) → ((u = 0 ∧ a = y ∧ ¬ (i = j ∧ x < y)) ∨ (u = 1 ∧ a + k = y + K ∧ i = j ∧ x < y)) → (∀ p, a ≤ p → p < a + k → M2 (83000 + (40 * j + p)) = M (83000 + (40 * i + (x + (p - y))))) → (∀ m, ¬ (83000 + 40 * j + a ≤ m ∧ m < 83000 + 40 * j + a + k) → M2 m = M m) → ∀ (H : Heap) (locs : List Loc) (ls : Array Slot), Wo g M2 H → va_S (ar g) s.heap H locs → lv_has ls 9 [(0, .ref (gA g 70)), (1, .int (II (i : Int))), (2, .int (II (x : Int))), (3, .int (II (j : Int))), (4, .int (II (y : Int))), (5, .int (II (K : Int))), (6, .int (II u)), (7, .int (II (k : Int)))] → W p l e (rmm 2 45) s m args below meth c H locs 0 0 QQ (F0 m 121 ls []) := by
                          intro f1
                          induction f1 with
                          | zero => intro u a k M2 hmu; exact absurd hmu (Nat.not_lt_zero _)
                          | succ f1 ih =>
                            intro u a k M2 hmu h1 hu hwr hf H locs ls hw hS hl
                            have ih121 := ih
                            have g_M2 := hw.rg
                            refine lv_iload C.1 C.2.1 dX8_copy_121 (lv_at hl 7 rfl) ?_
                            refine lv_iload C.1 C.2.1 dX8_copy_123 (lv_at hl 5 rfl) ?_
                            refine x_icmp_ge (tgt := 182) C ⟨by omega, by omega⟩ ⟨by omega, by omega⟩ dX8_copy_125 (by decide) (fun c125 => ?_) (fun c125 => ?_)
                            · refine lv_iload C.1 C.2.1 dX8_copy_182 (lv_at hl 5 rfl) ?_
                              subst hQQ; exact x_ireturn C hr hlk hw hS ⟨by omega, by omega⟩ rfl (by
    have ek : k = K := by omega
    have ea : a = y := by omega
    subst ek; subst ea
    have e : r_copy Sh (i : Int) (x : Int) (j : Int) (a : Int) (k : Int) = (k : Int) := by
      simp only [r_copy, Int.toNat_natCast]
      rw [if_neg (by omega), if_neg (by omega), if_neg (by omega), if_pos (by omega)]
    unfold s_copy
    rw [e, if_pos (by omega)]
    simp only [Int.toNat_natCast]
    refine ⟨trivial, hR.s2 hA ?_ (fun m hm => hf m (fun z => hm (Or.inr (by omega)))), fun m hm => hf m (by omega)⟩
    rw [← s_row_id]
    refine shmR hR.2.2.2.1 hA.sz (by show j < 4; omega) (Or.inr ⟨zo1, (hf _ (by omega)).trans zo2, (hf _ (by omega)).trans zo3, (hf _ (by omega)).trans zo4, fun r hr => ?_⟩) (fun m hm _ => hf m (by omega))
    by_cases h : a ≤ r ∧ r < a + k
    · rw [if_pos h, hwr r h.1 h.2, ← zs5 (x + (r - a)) (by omega)]
    · rw [if_neg h, hf _ (by omega)]; exact zo5 r hr) dX8_copy_184
                            · refine lv_iload C.1 C.2.1 dX8_copy_128 (lv_at hl 6 rfl) ?_
                              refine x_if_eq (tgt := 143) C ⟨by omega, by omega⟩ dX8_copy_130 (by decide) (fun c130 => ?_) (fun c130 => ?_)
                              · refine lv_iload C.1 C.2.1 dX8_copy_143 (lv_at hl 7 rfl) ?_
                                skip
                                refine lv_istore (lv' := [(8, .int (II (k : Int))), (0, .ref (gA g 70)), (1, .int (II (i : Int))), (2, .int (II (x : Int))), (3, .int (II (j : Int))), (4, .int (II (y : Int))), (5, .int (II (K : Int))), (6, .int (II u)), (7, .int (II (k : Int)))]) C.1 C.2.1 dX8_copy_145 hl (by decide) rfl (fun ls hl => ?_)
                                refine lv_aload_n C.1 C.2.1 dX8_copy_147 rfl (lv_at hl 1 rfl) ?_
                                refine g8 C hw 70 (by omega) rfl 41 (by decide) mw_865 (svr (hF.2 _)) dX8_copy_148 ?_
                                refine lv_bipush (v := II 40) C.1 C.2.1 dX8_copy_151 (by decide) ?_
                                refine lv_iload_n C.1 C.2.1 dX8_copy_153 rfl (lv_at hl 4 rfl) ?_
                                refine x_imul C dX8_copy_154 ?_
                                refine lv_iload C.1 C.2.1 dX8_copy_155 (lv_at hl 5 rfl) ?_
                                refine x_iadd C dX8_copy_157 ?_
                                refine lv_iload C.1 C.2.1 dX8_copy_158 (lv_at hl 0 rfl) ?_
                                refine x_iadd C dX8_copy_160 ?_
                                refine lv_aload_n C.1 C.2.1 dX8_copy_161 rfl (lv_at hl 1 rfl) ?_
                                refine g8 C hw 70 (by omega) rfl 41 (by decide) mw_865 (svr (hF.2 _)) dX8_copy_162 ?_
                                refine lv_bipush (v := II 40) C.1 C.2.1 dX8_copy_165 (by decide) ?_
                                refine lv_iload_n C.1 C.2.1 dX8_copy_167 rfl (lv_at hl 2 rfl) ?_
                                refine x_imul C dX8_copy_168 ?_
                                refine lv_iload_n C.1 C.2.1 dX8_copy_169 rfl (lv_at hl 3 rfl) ?_
                                refine x_iadd C dX8_copy_170 ?_
                                refine lv_iload C.1 C.2.1 dX8_copy_171 (lv_at hl 0 rfl) ?_
                                refine x_iadd C dX8_copy_173 ?_
                                refine x_iaload (L := 160) C hw 83 (by omega) rfl rfl (by omega) (by omega) (by decide) (x := M (83000 + (40 * i + (x + k)))) ((congrArg (fun z => M2 (1000 * 83 + z)) (by omega)).trans ((hf (83000 + (((40 * i) + x) + k)) (by omega)).trans (congrArg M (show 83000 + (((40 * i) + x) + k) = 83000 + (40 * i + (x + k)) by omega)))) dX8_copy_174 ?_
                                refine x_iastore (L := 160) C hw hS 83 (by omega) rfl rfl (by omega) (by omega) (by decide) (x := M (83000 + (40 * i + (x + k)))) ⟨by have := g_M2 (83000 + (((40 * i) + x) + k)); have := ((hf (83000 + (((40 * i) + x) + k)) (by omega)).trans (congrArg M (show 83000 + (((40 * i) + x) + k) = 83000 + (40 * i + (x + k)) by omega))); omega, by have := g_M2 (83000 + (((40 * i) + x) + k)); have := ((hf (83000 + (((40 * i) + x) + k)) (by omega)).trans (congrArg M (show 83000 + (((40 * i) + x) + k) = 83000 + (40 * i + (x + k)) by omega))); omega⟩ dX8_copy_175 (fun H locs hw hS => ?_)
                                have hw : Wo g (stM M2 (83000 + (((40 * j) + y) + k)) (M (83000 + (40 * i + (x + k))))) H := by rw [show 1000 * 83 + (((40 * (j : Int)) + (y : Int)) + (k : Int)).toNat = 83000 + (((40 * j) + y) + k) from by omega] at hw; exact hw
                                refine lv_iinc (v := II ((k : Int) + 1)) (lv' := [(7, .int (II ((k : Int) + 1))), (8, .int (II (k : Int))), (0, .ref (gA g 70)), (1, .int (II (i : Int))), (2, .int (II (x : Int))), (3, .int (II (j : Int))), (4, .int (II (y : Int))), (5, .int (II (K : Int))), (6, .int (II u))]) C.1 C.2.1 dX8_copy_176 hl (k := 8) rfl (II_add _ _) (by decide) rfl (fun ls hl => ?_)
                                refine lv_goto (tgt := 121) C.1 C.2.1 dX8_copy_179 (by decide) ?_
                                exact ih121  u a (k + 1) (stM M2 (83000 + (((40 * j) + y) + k)) (M (83000 + (40 * i + (x + k))))) (by omega) (by omega) (by omega) (fun p hp1 hp2 => by
      by_cases e : p = y + k
      · subst e; rw [show 83000 + (40 * j + (y + k)) = 83000 + (40 * j + y + k) by omega, st_s, show x + (y + k - y) = x + k by omega]
      · rw [st_n (by omega)]; exact hwr p (by omega) (by omega)) (fun m hm => by rw [st_n (by omega)]; exact hf m (by omega)) _ _ _ hw hS (lv_sub hl [2, 3, 4, 5, 6, 7, 8, 0] rfl)
                              · refine lv_iload C.1 C.2.1 dX8_copy_133 (lv_at hl 5 rfl) ?_
                                refine lv_iconst (v := II 1) C.1 C.2.1 dX8_copy_135 rfl ?_
                                refine x_isub C dX8_copy_136 ?_
                                refine lv_iload C.1 C.2.1 dX8_copy_137 (lv_at hl 7 rfl) ?_
                                refine x_isub C dX8_copy_139 ?_
                                obtain ⟨w, hwk⟩ : ∃ w, w + 1 + k = K := ⟨K - 1 - k, by omega⟩
                                rw [show (K : Int) - 1 - (k : Int) = (w : Int) by omega]
                                refine lv_goto (tgt := 145) C.1 C.2.1 dX8_copy_140 (by decide) ?_
                                skip
                                refine lv_istore (lv' := [(8, .int (II (w : Int))), (0, .ref (gA g 70)), (1, .int (II (i : Int))), (2, .int (II (x : Int))), (3, .int (II (j : Int))), (4, .int (II (y : Int))), (5, .int (II (K : Int))), (6, .int (II u)), (7, .int (II (k : Int)))]) C.1 C.2.1 dX8_copy_145 hl (by decide) rfl (fun ls hl => ?_)
                                refine lv_aload_n C.1 C.2.1 dX8_copy_147 rfl (lv_at hl 1 rfl) ?_
                                refine g8 C hw 70 (by omega) rfl 41 (by decide) mw_865 (svr (hF.2 _)) dX8_copy_148 ?_
                                refine lv_bipush (v := II 40) C.1 C.2.1 dX8_copy_151 (by decide) ?_
                                refine lv_iload_n C.1 C.2.1 dX8_copy_153 rfl (lv_at hl 4 rfl) ?_
                                refine x_imul C dX8_copy_154 ?_
                                refine lv_iload C.1 C.2.1 dX8_copy_155 (lv_at hl 5 rfl) ?_
                                refine x_iadd C dX8_copy_157 ?_
                                refine lv_iload C.1 C.2.1 dX8_copy_158 (lv_at hl 0 rfl) ?_
                                refine x_iadd C dX8_copy_160 ?_
                                refine lv_aload_n C.1 C.2.1 dX8_copy_161 rfl (lv_at hl 1 rfl) ?_
                                refine g8 C hw 70 (by omega) rfl 41 (by decide) mw_865 (svr (hF.2 _)) dX8_copy_162 ?_
                                refine lv_bipush (v := II 40) C.1 C.2.1 dX8_copy_165 (by decide) ?_
                                refine lv_iload_n C.1 C.2.1 dX8_copy_167 rfl (lv_at hl 2 rfl) ?_
                                refine x_imul C dX8_copy_168 ?_
                                refine lv_iload_n C.1 C.2.1 dX8_copy_169 rfl (lv_at hl 3 rfl) ?_
                                refine x_iadd C dX8_copy_170 ?_
                                refine lv_iload C.1 C.2.1 dX8_copy_171 (lv_at hl 0 rfl) ?_
                                refine x_iadd C dX8_copy_173 ?_
                                refine x_iaload (L := 160) C hw 83 (by omega) rfl rfl (by omega) (by omega) (by decide) (x := M (83000 + (40 * i + (x + w)))) ((congrArg (fun z => M2 (1000 * 83 + z)) (by omega)).trans ((hf (83000 + (((40 * i) + x) + w)) (by omega)).trans (congrArg M (show 83000 + (((40 * i) + x) + w) = 83000 + (40 * i + (x + w)) by omega)))) dX8_copy_174 ?_
                                refine x_iastore (L := 160) C hw hS 83 (by omega) rfl rfl (by omega) (by omega) (by decide) (x := M (83000 + (40 * i + (x + w)))) ⟨by have := g_M2 (83000 + (((40 * i) + x) + w)); have := ((hf (83000 + (((40 * i) + x) + w)) (by omega)).trans (congrArg M (show 83000 + (((40 * i) + x) + w) = 83000 + (40 * i + (x + w)) by omega))); omega, by have := g_M2 (83000 + (((40 * i) + x) + w)); have := ((hf (83000 + (((40 * i) + x) + w)) (by omega)).trans (congrArg M (show 83000 + (((40 * i) + x) + w) = 83000 + (40 * i + (x + w)) by omega))); omega⟩ dX8_copy_175 (fun H locs hw hS => ?_)
                                have hw : Wo g (stM M2 (83000 + (((40 * j) + y) + w)) (M (83000 + (40 * i + (x + w))))) H := by rw [show 1000 * 83 + (((40 * (j : Int)) + (y : Int)) + (w : Int)).toNat = 83000 + (((40 * j) + y) + w) from by omega] at hw; exact hw
                                refine lv_iinc (v := II ((k : Int) + 1)) (lv' := [(7, .int (II ((k : Int) + 1))), (8, .int (II (w : Int))), (0, .ref (gA g 70)), (1, .int (II (i : Int))), (2, .int (II (x : Int))), (3, .int (II (j : Int))), (4, .int (II (y : Int))), (5, .int (II (K : Int))), (6, .int (II u))]) C.1 C.2.1 dX8_copy_176 hl (k := 8) rfl (II_add _ _) (by decide) rfl (fun ls hl => ?_)
                                refine lv_goto (tgt := 121) C.1 C.2.1 dX8_copy_179 (by decide) ?_
                                exact ih121  u (y + w) (k + 1) (stM M2 (83000 + (((40 * j) + y) + w)) (M (83000 + (40 * i + (x + w))))) (by omega) (by omega) (by omega) (fun p hp1 hp2 => by
      by_cases e : p = y + w
      · subst e; rw [show 83000 + (40 * j + (y + w)) = 83000 + (40 * j + y + w) by omega, st_s, show x + (y + w - y) = x + w by omega]
      · rw [st_n (by omega)]; exact hwr p (by omega) (by omega)) (fun m hm => by rw [st_n (by omega)]; exact hf m (by omega)) _ _ _ hw hS (lv_sub hl [2, 3, 4, 5, 6, 7, 8, 0] rfl)
                        exact L121 _ 0 y 0 M (Nat.lt_succ_self _) (by omega) (by first | (left; omega) | (right; omega)) (fun p h1 h2 => by omega) (fun _ _ => rfl) _ _ _ hw hS (lv_sub hl [2, 3, 4, 5, 6, 7, 1, 0] rfl)
                      · refine lv_iload_n C.1 C.2.1 dX8_copy_105 rfl (lv_at hl 2 rfl) ?_
                        refine lv_iload C.1 C.2.1 dX8_copy_106 (lv_at hl 4 rfl) ?_
                        refine x_icmp_ge (tgt := 115) C ⟨by omega, by omega⟩ ⟨by omega, by omega⟩ dX8_copy_108 (by decide) (fun c108 => ?_) (fun c108 => ?_)
                        · refine lv_iconst (v := II 0) C.1 C.2.1 dX8_copy_115 rfl ?_
                          refine lv_istore (lv' := [(6, .int (II 0)), (0, .ref (gA g 70)), (1, .int (II (i : Int))), (2, .int (II (x : Int))), (3, .int (II (j : Int))), (4, .int (II (y : Int))), (5, .int (II (K : Int)))]) C.1 C.2.1 dX8_copy_116 hl (by decide) rfl (fun ls hl => ?_)
                          refine lv_iconst (v := II 0) C.1 C.2.1 dX8_copy_118 rfl ?_
                          refine lv_istore (lv' := [(7, .int (II 0)), (6, .int (II 0)), (0, .ref (gA g 70)), (1, .int (II (i : Int))), (2, .int (II (x : Int))), (3, .int (II (j : Int))), (4, .int (II (y : Int))), (5, .int (II (K : Int)))]) C.1 C.2.1 dX8_copy_119 hl (by decide) rfl (fun ls hl => ?_)
                          have L121 : ∀ (f2 : Nat) (u : Int) (a : Nat) (k : Nat) (M2 : Nat → Int), (K - k) < f2 → (k ≤ K) → ((u = 0 ∧ a = y ∧ ¬ (i = j ∧ x < y)) ∨ (u = 1 ∧ a + k = y + K ∧ i = j ∧ x < y)) → (∀ p, a ≤ p → p < a + k → M2 (83000 + (40 * j + p)) = M (83000 + (40 * i + (x + (p - y))))) → (∀ m, ¬ (83000 + 40 * j + a ≤ m ∧ m < 83000 + 40 * j + a + k) → M2 m = M m) → ∀ (H : Heap) (locs : List Loc) (ls : Array Slot), Wo g M2 H → va_S (ar g) s.heap H locs → lv_has ls 9 [(0, .ref (gA g 70)), (1, .int (II (i : Int))), (2, .int (II (x : Int))), (3, .int (II (j : Int))), (4, .int (II (y : Int))), (5, .int (II (K : Int))), (6, .int (II u)), (7, .int (II (k : Int)))] → W p l e (rmm 2 45) s m args below meth c H locs 0 0 QQ (F0 m 121 ls []) := by
                            intro f2
                            induction f2 with
                            | zero => intro u a k M2 hmu; exact absurd hmu (Nat.not_lt_zero _)
                            | succ f2 ih =>
                              intro u a k M2 hmu h1 hu hwr hf H locs ls hw hS hl
                              have ih121 := ih
                              have g_M2 := hw.rg
                              refine lv_iload C.1 C.2.1 dX8_copy_121 (lv_at hl 7 rfl) ?_
                              refine lv_iload C.1 C.2.1 dX8_copy_123 (lv_at hl 5 rfl) ?_
                              refine x_icmp_ge (tgt := 182) C ⟨by omega, by omega⟩ ⟨by omega, by omega⟩ dX8_copy_125 (by decide) (fun c125 => ?_) (fun c125 => ?_)
                              · refine lv_iload C.1 C.2.1 dX8_copy_182 (lv_at hl 5 rfl) ?_
                                subst hQQ; exact x_ireturn C hr hlk hw hS ⟨by omega, by omega⟩ rfl (by
    have ek : k = K := by omega
    have ea : a = y := by omega
    subst ek; subst ea
    have e : r_copy Sh (i : Int) (x : Int) (j : Int) (a : Int) (k : Int) = (k : Int) := by
      simp only [r_copy, Int.toNat_natCast]
      rw [if_neg (by omega), if_neg (by omega), if_neg (by omega), if_pos (by omega)]
    unfold s_copy
    rw [e, if_pos (by omega)]
    simp only [Int.toNat_natCast]
    refine ⟨trivial, hR.s2 hA ?_ (fun m hm => hf m (fun z => hm (Or.inr (by omega)))), fun m hm => hf m (by omega)⟩
    rw [← s_row_id]
    refine shmR hR.2.2.2.1 hA.sz (by show j < 4; omega) (Or.inr ⟨zo1, (hf _ (by omega)).trans zo2, (hf _ (by omega)).trans zo3, (hf _ (by omega)).trans zo4, fun r hr => ?_⟩) (fun m hm _ => hf m (by omega))
    by_cases h : a ≤ r ∧ r < a + k
    · rw [if_pos h, hwr r h.1 h.2, ← zs5 (x + (r - a)) (by omega)]
    · rw [if_neg h, hf _ (by omega)]; exact zo5 r hr) dX8_copy_184
                              · refine lv_iload C.1 C.2.1 dX8_copy_128 (lv_at hl 6 rfl) ?_
                                refine x_if_eq (tgt := 143) C ⟨by omega, by omega⟩ dX8_copy_130 (by decide) (fun c130 => ?_) (fun c130 => ?_)
                                · refine lv_iload C.1 C.2.1 dX8_copy_143 (lv_at hl 7 rfl) ?_
                                  skip
                                  refine lv_istore (lv' := [(8, .int (II (k : Int))), (0, .ref (gA g 70)), (1, .int (II (i : Int))), (2, .int (II (x : Int))), (3, .int (II (j : Int))), (4, .int (II (y : Int))), (5, .int (II (K : Int))), (6, .int (II u)), (7, .int (II (k : Int)))]) C.1 C.2.1 dX8_copy_145 hl (by decide) rfl (fun ls hl => ?_)
                                  refine lv_aload_n C.1 C.2.1 dX8_copy_147 rfl (lv_at hl 1 rfl) ?_
                                  refine g8 C hw 70 (by omega) rfl 41 (by decide) mw_865 (svr (hF.2 _)) dX8_copy_148 ?_
                                  refine lv_bipush (v := II 40) C.1 C.2.1 dX8_copy_151 (by decide) ?_
                                  refine lv_iload_n C.1 C.2.1 dX8_copy_153 rfl (lv_at hl 4 rfl) ?_
                                  refine x_imul C dX8_copy_154 ?_
                                  refine lv_iload C.1 C.2.1 dX8_copy_155 (lv_at hl 5 rfl) ?_
                                  refine x_iadd C dX8_copy_157 ?_
                                  refine lv_iload C.1 C.2.1 dX8_copy_158 (lv_at hl 0 rfl) ?_
                                  refine x_iadd C dX8_copy_160 ?_
                                  refine lv_aload_n C.1 C.2.1 dX8_copy_161 rfl (lv_at hl 1 rfl) ?_
                                  refine g8 C hw 70 (by omega) rfl 41 (by decide) mw_865 (svr (hF.2 _)) dX8_copy_162 ?_
                                  refine lv_bipush (v := II 40) C.1 C.2.1 dX8_copy_165 (by decide) ?_
                                  refine lv_iload_n C.1 C.2.1 dX8_copy_167 rfl (lv_at hl 2 rfl) ?_
                                  refine x_imul C dX8_copy_168 ?_
                                  refine lv_iload_n C.1 C.2.1 dX8_copy_169 rfl (lv_at hl 3 rfl) ?_
                                  refine x_iadd C dX8_copy_170 ?_
                                  refine lv_iload C.1 C.2.1 dX8_copy_171 (lv_at hl 0 rfl) ?_
                                  refine x_iadd C dX8_copy_173 ?_
                                  refine x_iaload (L := 160) C hw 83 (by omega) rfl rfl (by omega) (by omega) (by decide) (x := M (83000 + (40 * i + (x + k)))) ((congrArg (fun z => M2 (1000 * 83 + z)) (by omega)).trans ((hf (83000 + (((40 * i) + x) + k)) (by omega)).trans (congrArg M (show 83000 + (((40 * i) + x) + k) = 83000 + (40 * i + (x + k)) by omega)))) dX8_copy_174 ?_
                                  refine x_iastore (L := 160) C hw hS 83 (by omega) rfl rfl (by omega) (by omega) (by decide) (x := M (83000 + (40 * i + (x + k)))) ⟨by have := g_M2 (83000 + (((40 * i) + x) + k)); have := ((hf (83000 + (((40 * i) + x) + k)) (by omega)).trans (congrArg M (show 83000 + (((40 * i) + x) + k) = 83000 + (40 * i + (x + k)) by omega))); omega, by have := g_M2 (83000 + (((40 * i) + x) + k)); have := ((hf (83000 + (((40 * i) + x) + k)) (by omega)).trans (congrArg M (show 83000 + (((40 * i) + x) + k) = 83000 + (40 * i + (x + k)) by omega))); omega⟩ dX8_copy_175 (fun H locs hw hS => ?_)
                                  have hw : Wo g (stM M2 (83000 + (((40 * j) + y) + k)) (M (83000 + (40 * i + (x + k))))) H := by rw [show 1000 * 83 + (((40 * (j : Int)) + (y : Int)) + (k : Int)).toNat = 83000 + (((40 * j) + y) + k) from by omega] at hw; exact hw
                                  refine lv_iinc (v := II ((k : Int) + 1)) (lv' := [(7, .int (II ((k : Int) + 1))), (8, .int (II (k : Int))), (0, .ref (gA g 70)), (1, .int (II (i : Int))), (2, .int (II (x : Int))), (3, .int (II (j : Int))), (4, .int (II (y : Int))), (5, .int (II (K : Int))), (6, .int (II u))]) C.1 C.2.1 dX8_copy_176 hl (k := 8) rfl (II_add _ _) (by decide) rfl (fun ls hl => ?_)
                                  refine lv_goto (tgt := 121) C.1 C.2.1 dX8_copy_179 (by decide) ?_
                                  exact ih121  u a (k + 1) (stM M2 (83000 + (((40 * j) + y) + k)) (M (83000 + (40 * i + (x + k))))) (by omega) (by omega) (by omega) (fun p hp1 hp2 => by
      by_cases e : p = y + k
      · subst e; rw [show 83000 + (40 * j + (y + k)) = 83000 + (40 * j + y + k) by omega, st_s, show x + (y + k - y) = x + k by omega]
      · rw [st_n (by omega)]; exact hwr p (by omega) (by omega)) (fun m hm => by rw [st_n (by omega)]; exact hf m (by omega)) _ _ _ hw hS (lv_sub hl [2, 3, 4, 5, 6, 7, 8, 0] rfl)
                                · refine lv_iload C.1 C.2.1 dX8_copy_133 (lv_at hl 5 rfl) ?_
                                  refine lv_iconst (v := II 1) C.1 C.2.1 dX8_copy_135 rfl ?_
                                  refine x_isub C dX8_copy_136 ?_
                                  refine lv_iload C.1 C.2.1 dX8_copy_137 (lv_at hl 7 rfl) ?_
                                  refine x_isub C dX8_copy_139 ?_
                                  obtain ⟨w, hwk⟩ : ∃ w, w + 1 + k = K := ⟨K - 1 - k, by omega⟩
                                  rw [show (K : Int) - 1 - (k : Int) = (w : Int) by omega]
                                  refine lv_goto (tgt := 145) C.1 C.2.1 dX8_copy_140 (by decide) ?_
                                  skip
                                  refine lv_istore (lv' := [(8, .int (II (w : Int))), (0, .ref (gA g 70)), (1, .int (II (i : Int))), (2, .int (II (x : Int))), (3, .int (II (j : Int))), (4, .int (II (y : Int))), (5, .int (II (K : Int))), (6, .int (II u)), (7, .int (II (k : Int)))]) C.1 C.2.1 dX8_copy_145 hl (by decide) rfl (fun ls hl => ?_)
                                  refine lv_aload_n C.1 C.2.1 dX8_copy_147 rfl (lv_at hl 1 rfl) ?_
                                  refine g8 C hw 70 (by omega) rfl 41 (by decide) mw_865 (svr (hF.2 _)) dX8_copy_148 ?_
                                  refine lv_bipush (v := II 40) C.1 C.2.1 dX8_copy_151 (by decide) ?_
                                  refine lv_iload_n C.1 C.2.1 dX8_copy_153 rfl (lv_at hl 4 rfl) ?_
                                  refine x_imul C dX8_copy_154 ?_
                                  refine lv_iload C.1 C.2.1 dX8_copy_155 (lv_at hl 5 rfl) ?_
                                  refine x_iadd C dX8_copy_157 ?_
                                  refine lv_iload C.1 C.2.1 dX8_copy_158 (lv_at hl 0 rfl) ?_
                                  refine x_iadd C dX8_copy_160 ?_
                                  refine lv_aload_n C.1 C.2.1 dX8_copy_161 rfl (lv_at hl 1 rfl) ?_
                                  refine g8 C hw 70 (by omega) rfl 41 (by decide) mw_865 (svr (hF.2 _)) dX8_copy_162 ?_
                                  refine lv_bipush (v := II 40) C.1 C.2.1 dX8_copy_165 (by decide) ?_
                                  refine lv_iload_n C.1 C.2.1 dX8_copy_167 rfl (lv_at hl 2 rfl) ?_
                                  refine x_imul C dX8_copy_168 ?_
                                  refine lv_iload_n C.1 C.2.1 dX8_copy_169 rfl (lv_at hl 3 rfl) ?_
                                  refine x_iadd C dX8_copy_170 ?_
                                  refine lv_iload C.1 C.2.1 dX8_copy_171 (lv_at hl 0 rfl) ?_
                                  refine x_iadd C dX8_copy_173 ?_
                                  refine x_iaload (L := 160) C hw 83 (by omega) rfl rfl (by omega) (by omega) (by decide) (x := M (83000 + (40 * i + (x + w)))) ((congrArg (fun z => M2 (1000 * 83 + z)) (by omega)).trans ((hf (83000 + (((40 * i) + x) + w)) (by omega)).trans (congrArg M (show 83000 + (((40 * i) + x) + w) = 83000 + (40 * i + (x + w)) by omega)))) dX8_copy_174 ?_
                                  refine x_iastore (L := 160) C hw hS 83 (by omega) rfl rfl (by omega) (by omega) (by decide) (x := M (83000 + (40 * i + (x + w)))) ⟨by have := g_M2 (83000 + (((40 * i) + x) + w)); have := ((hf (83000 + (((40 * i) + x) + w)) (by omega)).trans (congrArg M (show 83000 + (((40 * i) + x) + w) = 83000 + (40 * i + (x + w)) by omega))); omega, by have := g_M2 (83000 + (((40 * i) + x) + w)); have := ((hf (83000 + (((40 * i) + x) + w)) (by omega)).trans (congrArg M (show 83000 + (((40 * i) + x) + w) = 83000 + (40 * i + (x + w)) by omega))); omega⟩ dX8_copy_175 (fun H locs hw hS => ?_)
                                  have hw : Wo g (stM M2 (83000 + (((40 * j) + y) + w)) (M (83000 + (40 * i + (x + w))))) H := by rw [show 1000 * 83 + (((40 * (j : Int)) + (y : Int)) + (w : Int)).toNat = 83000 + (((40 * j) + y) + w) from by omega] at hw; exact hw
                                  refine lv_iinc (v := II ((k : Int) + 1)) (lv' := [(7, .int (II ((k : Int) + 1))), (8, .int (II (w : Int))), (0, .ref (gA g 70)), (1, .int (II (i : Int))), (2, .int (II (x : Int))), (3, .int (II (j : Int))), (4, .int (II (y : Int))), (5, .int (II (K : Int))), (6, .int (II u))]) C.1 C.2.1 dX8_copy_176 hl (k := 8) rfl (II_add _ _) (by decide) rfl (fun ls hl => ?_)
                                  refine lv_goto (tgt := 121) C.1 C.2.1 dX8_copy_179 (by decide) ?_
                                  exact ih121  u (y + w) (k + 1) (stM M2 (83000 + (((40 * j) + y) + w)) (M (83000 + (40 * i + (x + w))))) (by omega) (by omega) (by omega) (fun p hp1 hp2 => by
      by_cases e : p = y + w
      · subst e; rw [show 83000 + (40 * j + (y + w)) = 83000 + (40 * j + y + w) by omega, st_s, show x + (y + w - y) = x + w by omega]
      · rw [st_n (by omega)]; exact hwr p (by omega) (by omega)) (fun m hm => by rw [st_n (by omega)]; exact hf m (by omega)) _ _ _ hw hS (lv_sub hl [2, 3, 4, 5, 6, 7, 8, 0] rfl)
                          exact L121 _ 0 y 0 M (Nat.lt_succ_self _) (by omega) (by first | (left; omega) | (right; omega)) (fun p h1 h2 => by omega) (fun _ _ => rfl) _ _ _ hw hS (lv_sub hl [2, 3, 4, 5, 6, 7, 1, 0] rfl)
                        · refine lv_iconst (v := II 1) C.1 C.2.1 dX8_copy_111 rfl ?_
                          refine lv_goto (tgt := 116) C.1 C.2.1 dX8_copy_112 (by decide) ?_
                          refine lv_istore (lv' := [(6, .int (II 1)), (0, .ref (gA g 70)), (1, .int (II (i : Int))), (2, .int (II (x : Int))), (3, .int (II (j : Int))), (4, .int (II (y : Int))), (5, .int (II (K : Int)))]) C.1 C.2.1 dX8_copy_116 hl (by decide) rfl (fun ls hl => ?_)
                          refine lv_iconst (v := II 0) C.1 C.2.1 dX8_copy_118 rfl ?_
                          refine lv_istore (lv' := [(7, .int (II 0)), (6, .int (II 1)), (0, .ref (gA g 70)), (1, .int (II (i : Int))), (2, .int (II (x : Int))), (3, .int (II (j : Int))), (4, .int (II (y : Int))), (5, .int (II (K : Int)))]) C.1 C.2.1 dX8_copy_119 hl (by decide) rfl (fun ls hl => ?_)
                          have L121 : ∀ (f3 : Nat) (u : Int) (a : Nat) (k : Nat) (M2 : Nat → Int), (K - k) < f3 → (k ≤ K) → ((u = 0 ∧ a = y ∧ ¬ (i = j ∧ x < y)) ∨ (u = 1 ∧ a + k = y + K ∧ i = j ∧ x < y)) → (∀ p, a ≤ p → p < a + k → M2 (83000 + (40 * j + p)) = M (83000 + (40 * i + (x + (p - y))))) → (∀ m, ¬ (83000 + 40 * j + a ≤ m ∧ m < 83000 + 40 * j + a + k) → M2 m = M m) → ∀ (H : Heap) (locs : List Loc) (ls : Array Slot), Wo g M2 H → va_S (ar g) s.heap H locs → lv_has ls 9 [(0, .ref (gA g 70)), (1, .int (II (i : Int))), (2, .int (II (x : Int))), (3, .int (II (j : Int))), (4, .int (II (y : Int))), (5, .int (II (K : Int))), (6, .int (II u)), (7, .int (II (k : Int)))] → W p l e (rmm 2 45) s m args below meth c H locs 0 0 QQ (F0 m 121 ls []) := by
                            intro f3
                            induction f3 with
                            | zero => intro u a k M2 hmu; exact absurd hmu (Nat.not_lt_zero _)
                            | succ f3 ih =>
                              intro u a k M2 hmu h1 hu hwr hf H locs ls hw hS hl
                              have ih121 := ih
                              have g_M2 := hw.rg
                              refine lv_iload C.1 C.2.1 dX8_copy_121 (lv_at hl 7 rfl) ?_
                              refine lv_iload C.1 C.2.1 dX8_copy_123 (lv_at hl 5 rfl) ?_
                              refine x_icmp_ge (tgt := 182) C ⟨by omega, by omega⟩ ⟨by omega, by omega⟩ dX8_copy_125 (by decide) (fun c125 => ?_) (fun c125 => ?_)
                              · refine lv_iload C.1 C.2.1 dX8_copy_182 (lv_at hl 5 rfl) ?_
                                subst hQQ; exact x_ireturn C hr hlk hw hS ⟨by omega, by omega⟩ rfl (by
    have ek : k = K := by omega
    have ea : a = y := by omega
    subst ek; subst ea
    have e : r_copy Sh (i : Int) (x : Int) (j : Int) (a : Int) (k : Int) = (k : Int) := by
      simp only [r_copy, Int.toNat_natCast]
      rw [if_neg (by omega), if_neg (by omega), if_neg (by omega), if_pos (by omega)]
    unfold s_copy
    rw [e, if_pos (by omega)]
    simp only [Int.toNat_natCast]
    refine ⟨trivial, hR.s2 hA ?_ (fun m hm => hf m (fun z => hm (Or.inr (by omega)))), fun m hm => hf m (by omega)⟩
    rw [← s_row_id]
    refine shmR hR.2.2.2.1 hA.sz (by show j < 4; omega) (Or.inr ⟨zo1, (hf _ (by omega)).trans zo2, (hf _ (by omega)).trans zo3, (hf _ (by omega)).trans zo4, fun r hr => ?_⟩) (fun m hm _ => hf m (by omega))
    by_cases h : a ≤ r ∧ r < a + k
    · rw [if_pos h, hwr r h.1 h.2, ← zs5 (x + (r - a)) (by omega)]
    · rw [if_neg h, hf _ (by omega)]; exact zo5 r hr) dX8_copy_184
                              · refine lv_iload C.1 C.2.1 dX8_copy_128 (lv_at hl 6 rfl) ?_
                                refine x_if_eq (tgt := 143) C ⟨by omega, by omega⟩ dX8_copy_130 (by decide) (fun c130 => ?_) (fun c130 => ?_)
                                · refine lv_iload C.1 C.2.1 dX8_copy_143 (lv_at hl 7 rfl) ?_
                                  skip
                                  refine lv_istore (lv' := [(8, .int (II (k : Int))), (0, .ref (gA g 70)), (1, .int (II (i : Int))), (2, .int (II (x : Int))), (3, .int (II (j : Int))), (4, .int (II (y : Int))), (5, .int (II (K : Int))), (6, .int (II u)), (7, .int (II (k : Int)))]) C.1 C.2.1 dX8_copy_145 hl (by decide) rfl (fun ls hl => ?_)
                                  refine lv_aload_n C.1 C.2.1 dX8_copy_147 rfl (lv_at hl 1 rfl) ?_
                                  refine g8 C hw 70 (by omega) rfl 41 (by decide) mw_865 (svr (hF.2 _)) dX8_copy_148 ?_
                                  refine lv_bipush (v := II 40) C.1 C.2.1 dX8_copy_151 (by decide) ?_
                                  refine lv_iload_n C.1 C.2.1 dX8_copy_153 rfl (lv_at hl 4 rfl) ?_
                                  refine x_imul C dX8_copy_154 ?_
                                  refine lv_iload C.1 C.2.1 dX8_copy_155 (lv_at hl 5 rfl) ?_
                                  refine x_iadd C dX8_copy_157 ?_
                                  refine lv_iload C.1 C.2.1 dX8_copy_158 (lv_at hl 0 rfl) ?_
                                  refine x_iadd C dX8_copy_160 ?_
                                  refine lv_aload_n C.1 C.2.1 dX8_copy_161 rfl (lv_at hl 1 rfl) ?_
                                  refine g8 C hw 70 (by omega) rfl 41 (by decide) mw_865 (svr (hF.2 _)) dX8_copy_162 ?_
                                  refine lv_bipush (v := II 40) C.1 C.2.1 dX8_copy_165 (by decide) ?_
                                  refine lv_iload_n C.1 C.2.1 dX8_copy_167 rfl (lv_at hl 2 rfl) ?_
                                  refine x_imul C dX8_copy_168 ?_
                                  refine lv_iload_n C.1 C.2.1 dX8_copy_169 rfl (lv_at hl 3 rfl) ?_
                                  refine x_iadd C dX8_copy_170 ?_
                                  refine lv_iload C.1 C.2.1 dX8_copy_171 (lv_at hl 0 rfl) ?_
                                  refine x_iadd C dX8_copy_173 ?_
                                  refine x_iaload (L := 160) C hw 83 (by omega) rfl rfl (by omega) (by omega) (by decide) (x := M (83000 + (40 * i + (x + k)))) ((congrArg (fun z => M2 (1000 * 83 + z)) (by omega)).trans ((hf (83000 + (((40 * i) + x) + k)) (by omega)).trans (congrArg M (show 83000 + (((40 * i) + x) + k) = 83000 + (40 * i + (x + k)) by omega)))) dX8_copy_174 ?_
                                  refine x_iastore (L := 160) C hw hS 83 (by omega) rfl rfl (by omega) (by omega) (by decide) (x := M (83000 + (40 * i + (x + k)))) ⟨by have := g_M2 (83000 + (((40 * i) + x) + k)); have := ((hf (83000 + (((40 * i) + x) + k)) (by omega)).trans (congrArg M (show 83000 + (((40 * i) + x) + k) = 83000 + (40 * i + (x + k)) by omega))); omega, by have := g_M2 (83000 + (((40 * i) + x) + k)); have := ((hf (83000 + (((40 * i) + x) + k)) (by omega)).trans (congrArg M (show 83000 + (((40 * i) + x) + k) = 83000 + (40 * i + (x + k)) by omega))); omega⟩ dX8_copy_175 (fun H locs hw hS => ?_)
                                  have hw : Wo g (stM M2 (83000 + (((40 * j) + y) + k)) (M (83000 + (40 * i + (x + k))))) H := by rw [show 1000 * 83 + (((40 * (j : Int)) + (y : Int)) + (k : Int)).toNat = 83000 + (((40 * j) + y) + k) from by omega] at hw; exact hw
                                  refine lv_iinc (v := II ((k : Int) + 1)) (lv' := [(7, .int (II ((k : Int) + 1))), (8, .int (II (k : Int))), (0, .ref (gA g 70)), (1, .int (II (i : Int))), (2, .int (II (x : Int))), (3, .int (II (j : Int))), (4, .int (II (y : Int))), (5, .int (II (K : Int))), (6, .int (II u))]) C.1 C.2.1 dX8_copy_176 hl (k := 8) rfl (II_add _ _) (by decide) rfl (fun ls hl => ?_)
                                  refine lv_goto (tgt := 121) C.1 C.2.1 dX8_copy_179 (by decide) ?_
                                  exact ih121  u a (k + 1) (stM M2 (83000 + (((40 * j) + y) + k)) (M (83000 + (40 * i + (x + k))))) (by omega) (by omega) (by omega) (fun p hp1 hp2 => by
      by_cases e : p = y + k
      · subst e; rw [show 83000 + (40 * j + (y + k)) = 83000 + (40 * j + y + k) by omega, st_s, show x + (y + k - y) = x + k by omega]
      · rw [st_n (by omega)]; exact hwr p (by omega) (by omega)) (fun m hm => by rw [st_n (by omega)]; exact hf m (by omega)) _ _ _ hw hS (lv_sub hl [2, 3, 4, 5, 6, 7, 8, 0] rfl)
                                · refine lv_iload C.1 C.2.1 dX8_copy_133 (lv_at hl 5 rfl) ?_
                                  refine lv_iconst (v := II 1) C.1 C.2.1 dX8_copy_135 rfl ?_
                                  refine x_isub C dX8_copy_136 ?_
                                  refine lv_iload C.1 C.2.1 dX8_copy_137 (lv_at hl 7 rfl) ?_
                                  refine x_isub C dX8_copy_139 ?_
                                  obtain ⟨w, hwk⟩ : ∃ w, w + 1 + k = K := ⟨K - 1 - k, by omega⟩
                                  rw [show (K : Int) - 1 - (k : Int) = (w : Int) by omega]
                                  refine lv_goto (tgt := 145) C.1 C.2.1 dX8_copy_140 (by decide) ?_
                                  skip
                                  refine lv_istore (lv' := [(8, .int (II (w : Int))), (0, .ref (gA g 70)), (1, .int (II (i : Int))), (2, .int (II (x : Int))), (3, .int (II (j : Int))), (4, .int (II (y : Int))), (5, .int (II (K : Int))), (6, .int (II u)), (7, .int (II (k : Int)))]) C.1 C.2.1 dX8_copy_145 hl (by decide) rfl (fun ls hl => ?_)
                                  refine lv_aload_n C.1 C.2.1 dX8_copy_147 rfl (lv_at hl 1 rfl) ?_
                                  refine g8 C hw 70 (by omega) rfl 41 (by decide) mw_865 (svr (hF.2 _)) dX8_copy_148 ?_
                                  refine lv_bipush (v := II 40) C.1 C.2.1 dX8_copy_151 (by decide) ?_
                                  refine lv_iload_n C.1 C.2.1 dX8_copy_153 rfl (lv_at hl 4 rfl) ?_
                                  refine x_imul C dX8_copy_154 ?_
                                  refine lv_iload C.1 C.2.1 dX8_copy_155 (lv_at hl 5 rfl) ?_
                                  refine x_iadd C dX8_copy_157 ?_
                                  refine lv_iload C.1 C.2.1 dX8_copy_158 (lv_at hl 0 rfl) ?_
                                  refine x_iadd C dX8_copy_160 ?_
                                  refine lv_aload_n C.1 C.2.1 dX8_copy_161 rfl (lv_at hl 1 rfl) ?_
                                  refine g8 C hw 70 (by omega) rfl 41 (by decide) mw_865 (svr (hF.2 _)) dX8_copy_162 ?_
                                  refine lv_bipush (v := II 40) C.1 C.2.1 dX8_copy_165 (by decide) ?_
                                  refine lv_iload_n C.1 C.2.1 dX8_copy_167 rfl (lv_at hl 2 rfl) ?_
                                  refine x_imul C dX8_copy_168 ?_
                                  refine lv_iload_n C.1 C.2.1 dX8_copy_169 rfl (lv_at hl 3 rfl) ?_
                                  refine x_iadd C dX8_copy_170 ?_
                                  refine lv_iload C.1 C.2.1 dX8_copy_171 (lv_at hl 0 rfl) ?_
                                  refine x_iadd C dX8_copy_173 ?_
                                  refine x_iaload (L := 160) C hw 83 (by omega) rfl rfl (by omega) (by omega) (by decide) (x := M (83000 + (40 * i + (x + w)))) ((congrArg (fun z => M2 (1000 * 83 + z)) (by omega)).trans ((hf (83000 + (((40 * i) + x) + w)) (by omega)).trans (congrArg M (show 83000 + (((40 * i) + x) + w) = 83000 + (40 * i + (x + w)) by omega)))) dX8_copy_174 ?_
                                  refine x_iastore (L := 160) C hw hS 83 (by omega) rfl rfl (by omega) (by omega) (by decide) (x := M (83000 + (40 * i + (x + w)))) ⟨by have := g_M2 (83000 + (((40 * i) + x) + w)); have := ((hf (83000 + (((40 * i) + x) + w)) (by omega)).trans (congrArg M (show 83000 + (((40 * i) + x) + w) = 83000 + (40 * i + (x + w)) by omega))); omega, by have := g_M2 (83000 + (((40 * i) + x) + w)); have := ((hf (83000 + (((40 * i) + x) + w)) (by omega)).trans (congrArg M (show 83000 + (((40 * i) + x) + w) = 83000 + (40 * i + (x + w)) by omega))); omega⟩ dX8_copy_175 (fun H locs hw hS => ?_)
                                  have hw : Wo g (stM M2 (83000 + (((40 * j) + y) + w)) (M (83000 + (40 * i + (x + w))))) H := by rw [show 1000 * 83 + (((40 * (j : Int)) + (y : Int)) + (w : Int)).toNat = 83000 + (((40 * j) + y) + w) from by omega] at hw; exact hw
                                  refine lv_iinc (v := II ((k : Int) + 1)) (lv' := [(7, .int (II ((k : Int) + 1))), (8, .int (II (w : Int))), (0, .ref (gA g 70)), (1, .int (II (i : Int))), (2, .int (II (x : Int))), (3, .int (II (j : Int))), (4, .int (II (y : Int))), (5, .int (II (K : Int))), (6, .int (II u))]) C.1 C.2.1 dX8_copy_176 hl (k := 8) rfl (II_add _ _) (by decide) rfl (fun ls hl => ?_)
                                  refine lv_goto (tgt := 121) C.1 C.2.1 dX8_copy_179 (by decide) ?_
                                  exact ih121  u (y + w) (k + 1) (stM M2 (83000 + (((40 * j) + y) + w)) (M (83000 + (40 * i + (x + w))))) (by omega) (by omega) (by omega) (fun p hp1 hp2 => by
      by_cases e : p = y + w
      · subst e; rw [show 83000 + (40 * j + (y + w)) = 83000 + (40 * j + y + w) by omega, st_s, show x + (y + w - y) = x + w by omega]
      · rw [st_n (by omega)]; exact hwr p (by omega) (by omega)) (fun m hm => by rw [st_n (by omega)]; exact hf m (by omega)) _ _ _ hw hS (lv_sub hl [2, 3, 4, 5, 6, 7, 8, 0] rfl)
                          exact L121 _ 1 (y + K) 0 M (Nat.lt_succ_self _) (by omega) (by first | (left; omega) | (right; omega)) (fun p h1 h2 => by omega) (fun _ _ => rfl) _ _ _ hw hS (lv_sub hl [2, 3, 4, 5, 6, 7, 1, 0] rfl)
                    · refine lv_bipush (v := II (-12)) C.1 C.2.1 dX8_copy_97 (by decide) ?_
                      subst hQQ; exact x_ireturn C hr hlk hw hS ⟨by decide, by decide⟩ rfl (by have e : r_copy Sh (i : Int) i0 (j : Int) j0 z = -12 := (by simp only [r_copy, Int.toNat_natCast]; rw [if_neg (by omega), if_neg (by omega), if_neg (by omega), if_neg (by omega)]); unfold s_copy; rw [e, if_neg (by decide)]; exact ⟨rfl, hR, fun _ _ => rfl⟩) dX8_copy_99
          · refine lv_bipush (v := II (-13)) C.1 C.2.1 dX8_copy_53 (by decide) ?_
            subst hQQ; exact x_ireturn C hr hlk hw hS ⟨by decide, by decide⟩ rfl (by have e : r_copy Sh (i : Int) i0 (j : Int) j0 z = -13 := (by simp only [r_copy, Int.toNat_natCast]; rw [if_neg (by omega), if_neg (by omega), if_pos (by omega)]); unfold s_copy; rw [e, if_neg (by decide)]; exact ⟨rfl, hR, fun _ _ => rfl⟩) dX8_copy_55
    · have hw : Wo g M H := em8 ▸ hw
      rw [er8]
      refine x_if_ne (tgt := 17) C ⟨by decide, by decide⟩ dX8_copy_11 (by decide) (fun h => absurd h (by decide)) (fun _ => ?_)
      refine lv_bipush (v := II (-2)) C.1 C.2.1 dX8_copy_14 (by decide) ?_
      subst hQQ; exact x_ireturn C hr hlk hw hS ⟨by decide, by decide⟩ rfl (by have e : r_copy Sh s0 i0 o0 j0 z = -2 := (by simp only [r_copy, Int.toNat_natCast]; rw [if_pos (fun z => by first | exact h8b z.2 | exact h1b z.1)]); unfold s_copy; rw [e, if_neg (by decide)]; exact ⟨rfl, hR, fun _ _ => rfl⟩) dX8_copy_16
  · have hw : Wo g M H := em1 ▸ hw
    rw [er1]
    refine x_if_eq (tgt := 14) C ⟨by decide, by decide⟩ dX8_copy_4 (by decide) (fun _ => ?_) (fun h => absurd h (by decide))
    refine lv_bipush (v := II (-2)) C.1 C.2.1 dX8_copy_14 (by decide) ?_
    subst hQQ; exact x_ireturn C hr hlk hw hS ⟨by decide, by decide⟩ rfl (by have e : r_copy Sh s0 i0 o0 j0 z = -2 := (by simp only [r_copy, Int.toNat_natCast]; rw [if_pos (fun z => by first | exact h8b z.2 | exact h1b z.1)]); unfold s_copy; rw [e, if_neg (by decide)]; exact ⟨rfl, hR, fun _ _ => rfl⟩) dX8_copy_16

set_option maxHeartbeats 4000000 in
set_option maxRecDepth 100000 in
theorem c_X8_tenants (l : Launch) (g : Gm) (M : Nat → Int) (hF : LvF g) (n : Nat) (v : Nat → Nat → Int) (nt : Int) (pd : Int) (t : Nat) (X : Txt) (I : Option Bor) (Sh : Sht) (hR : RepM M (n, v, nt, pd, t) X I Sh) (hA : InvA (n, v, nt, pd, t) X I Sh) (s0 : Int) (gz_s0 : rg s0) (so : Int) (gz_so : rg so) (fr : Int) (gz_fr : rg fr) (z : Int) (gz_z : rg z) : CI l ({ cls := "RatedBySighsModel", name := "tenants", desc := "(IIII)I" } : Jvm.MethodName) cX8_tenants 8 .int (rmm 3 68) g M [.ref (gA g 70), .int (II s0), .int (II so), .int (II fr), .int (II z)] (fun r M' => r = (s_tens n v Sh s0 so fr z).1 ∧ (RepM M' ((s_tens n v Sh s0 so fr z).2.1, (s_tens n v Sh s0 so fr z).2.2, nt, pd, t) X I Sh) ∧ (∀ m, m < 70000 → M' m = M m)) := by
  refine c_start (by decide) (Nat.le_of_ble_eq_true rfl) (fun p e s m below meth c ls C hr hlk hml hw hS hl => ?_)
  have hl : lv_has ls 8 [(0, .ref (gA g 70)), (1, .int (II s0)), (2, .int (II so)), (3, .int (II fr)), (4, .int (II z))] := hl
  generalize ([.ref (gA g 70), .int (II s0), .int (II so), .int (II fr), .int (II z)] : List Value).toArray = args at C ⊢
  generalize hQQ : MQ below (postI g (fun r M' => r = (s_tens n v Sh s0 so fr z).1 ∧ (RepM M' ((s_tens n v Sh s0 so fr z).2.1, (s_tens n v Sh s0 so fr z).2.2, nt, pd, t) X I Sh) ∧ (∀ m, m < 70000 → M' m = M m))) args s 0 0 (ar g) = QQ
  have g_M := hw.rg
  have hN : gN g = 84 := hF.1
  have hM : MB M n v nt t (X.2.1 t) (-1) := hR.mb hA
  have hn2 : n ≤ 8 := hM.1.2
  have hnt := hM.2.2.2.1.2
  have hpd : 0 ≤ pd ∧ pd ≤ 999999999 := hA.1.2.2.2.2.1
  have htc := hA.2.1
  have hts := hA.2.2.1.1
  have ht9 : t < X.1 := hA.1.2.2.2.2.2
  have gf1 := gz_fr.1
  have gf2 := gz_fr.2
  refine lv_iload_n C.1 C.2.1 dX8_tenants_0 rfl (lv_at hl 1 rfl) ?_
  refine x_ci (x_runS (n := 1) C hw hS hml hl.1 (c_X8_isSheet l g M s0 gz_s0) mw_1301 mw_1302 mw_130 mw_1303 rfl rfl (by decide +kernel) ⟨Nat.le_of_ble_eq_true rfl, Nat.le_of_ble_eq_true rfl⟩ rfl rfl (Nat.le_of_ble_eq_true rfl) dX8_tenants_1 ⟨Nat.zero_le _, Nat.zero_le _⟩) hS (fun r1 M1 H locs hr1 hp hw hS => ?_)
  rcases hp with ⟨em1, (⟨er1, h1b⟩ | ⟨er1, h1b⟩)⟩
  · have hw : Wo g M H := em1 ▸ hw
    rw [er1]
    refine x_if_eq (tgt := 32) C ⟨by decide, by decide⟩ dX8_tenants_4 (by decide) (fun h => absurd h (by decide)) (fun _ => ?_)
    have hs4 : 0 ≤ s0 ∧ s0 < 4 := h1b
    refine lv_iload_n C.1 C.2.1 dX8_tenants_7 rfl (lv_at hl 2 rfl) ?_
    refine x_i2l C gz_so dX8_tenants_8 ?_
    refine lv_lconst (v := LL 0) C.1 C.2.1 dX8_tenants_9 (by decide) ?_
    refine lv_ldc2 C.1 C.2.1 C.2.2.1 (C.2.2.2.1 _ mw_1319) dX8_tenants_10 ?_
    rw [show (2 : Int64) = LL 2 from by decide]
    refine x_ci (x_runS (n := 3) C hw hS hml hl.1 (c_X8_in l g M so gz_so 0 ⟨by decide, by decide⟩ 2 ⟨by decide, by decide⟩) mw_957 mw_958 mw_130 mw_959 rfl rfl (by decide +kernel) ⟨Nat.le_of_ble_eq_true rfl, Nat.le_of_ble_eq_true rfl⟩ rfl rfl (Nat.le_of_ble_eq_true rfl) dX8_tenants_13 ⟨Nat.zero_le _, Nat.zero_le _⟩) hS (fun r13 M13 H locs hr13 hp hw hS => ?_)
    rcases hp with ⟨em13, (⟨er13, h13b⟩ | ⟨er13, h13b⟩)⟩
    · have hw : Wo g M H := em13 ▸ hw
      rw [er13]
      refine x_if_eq (tgt := 32) C ⟨by decide, by decide⟩ dX8_tenants_16 (by decide) (fun h => absurd h (by decide)) (fun _ => ?_)
      have hso9 : 0 ≤ so ∧ so ≤ 2 := h13b
      refine lv_iload C.1 C.2.1 dX8_tenants_19 (lv_at hl 4 rfl) ?_
      refine x_i2l C gz_z dX8_tenants_21 ?_
      refine lv_lconst (v := LL 0) C.1 C.2.1 dX8_tenants_22 (by decide) ?_
      refine lv_ldc2 C.1 C.2.1 C.2.2.1 (C.2.2.2.1 _ mw_1305) dX8_tenants_23 ?_
      rw [show (8 : Int64) = LL 8 from by decide]
      refine x_ci (x_runS (n := 3) C hw hS hml hl.1 (c_X8_in l g M z gz_z 0 ⟨by decide, by decide⟩ 8 ⟨by decide, by decide⟩) mw_957 mw_958 mw_130 mw_959 rfl rfl (by decide +kernel) ⟨Nat.le_of_ble_eq_true rfl, Nat.le_of_ble_eq_true rfl⟩ rfl rfl (Nat.le_of_ble_eq_true rfl) dX8_tenants_26 ⟨Nat.zero_le _, Nat.zero_le _⟩) hS (fun r26 M26 H locs hr26 hp hw hS => ?_)
      rcases hp with ⟨em26, (⟨er26, h26b⟩ | ⟨er26, h26b⟩)⟩
      · have hw : Wo g M H := em26 ▸ hw
        rw [er26]
        refine x_if_ne (tgt := 35) C ⟨by decide, by decide⟩ dX8_tenants_29 (by decide) (fun _ => ?_) (fun h => absurd h (by decide))
        have hz8 : 0 ≤ z ∧ z ≤ 8 := h26b
        obtain ⟨i, rfl⟩ : ∃ i : Nat, s0 = (i : Int) := ⟨s0.toNat, by omega⟩
        have hszi := hA.2.2.2.2 i (by omega)
        refine lv_aload_n C.1 C.2.1 dX8_tenants_35 rfl (lv_at hl 0 rfl) ?_
        rcases hR.2.2.2.1 i (by omega) with ⟨zs1, zs2⟩ | ⟨zs1, zs2, zs3, zs4, zs5⟩
        · refine g8 C hw 70 (by omega) rfl 38 (by decide) mw_862 (svr (hF.2 _)) dX8_tenants_36 ?_
          refine lv_iload_n C.1 C.2.1 dX8_tenants_39 rfl (lv_at hl 1 rfl) ?_
          refine x_baload (L := 4) C hw 80 (by omega) rfl rfl (by omega) (by omega) (by decide) (x := 0) zs2 dX8_tenants_40 ?_
          refine x_if_eq (tgt := 57) C ⟨by decide, by decide⟩ dX8_tenants_41 (by decide) (fun _ => ?_) (fun h => absurd h (by decide))
          refine lv_aload_n C.1 C.2.1 dX8_tenants_57 rfl (lv_at hl 0 rfl) ?_
          refine g8 C hw 70 (by omega) rfl 38 (by decide) mw_862 (svr (hF.2 _)) dX8_tenants_58 ?_
          refine lv_iload_n C.1 C.2.1 dX8_tenants_61 rfl (lv_at hl 1 rfl) ?_
          refine x_baload (L := 4) C hw 80 (by omega) rfl rfl (by omega) (by omega) (by decide) (x := 0) zs2 dX8_tenants_62 ?_
          refine x_if_ne (tgt := 69) C ⟨by decide, by decide⟩ dX8_tenants_63 (by decide) (fun h => absurd h (by decide)) (fun _ => ?_)
          refine lv_bipush (v := II (-11)) C.1 C.2.1 dX8_tenants_66 (by decide) ?_
          subst hQQ; exact x_ireturn C hr hlk hw hS ⟨by decide, by decide⟩ rfl (by have e : s_tens n v Sh (i : Int) so fr z = (-11, n, v) := (by unfold s_tens; simp only [Int.toNat_natCast]; rw [if_neg (fun y => y ⟨by omega, by omega, by omega⟩), if_neg (fun y => y.1 zs1), if_pos zs1]); rw [e]; exact ⟨rfl, hR, fun _ _ => rfl⟩) dX8_tenants_68
        · refine g8 C hw 70 (by omega) rfl 38 (by decide) mw_862 (svr (hF.2 _)) dX8_tenants_36 ?_
          refine lv_iload_n C.1 C.2.1 dX8_tenants_39 rfl (lv_at hl 1 rfl) ?_
          refine x_baload (L := 4) C hw 80 (by omega) rfl rfl (by omega) (by omega) (by decide) (x := 1) zs2 dX8_tenants_40 ?_
          refine x_if_eq (tgt := 57) C ⟨by decide, by decide⟩ dX8_tenants_41 (by decide) (fun h => absurd h (by decide)) (fun _ => ?_)
          refine lv_aload_n C.1 C.2.1 dX8_tenants_44 rfl (lv_at hl 0 rfl) ?_
          refine g8 C hw 70 (by omega) rfl 39 (by decide) mw_863 (svr (hF.2 _)) dX8_tenants_45 ?_
          refine lv_iload_n C.1 C.2.1 dX8_tenants_48 rfl (lv_at hl 1 rfl) ?_
          refine x_iaload (L := 4) C hw 81 (by omega) rfl rfl (by omega) (by omega) (by decide) (x := Sh.1 i) zs3 dX8_tenants_49 ?_
          refine lv_iload_n C.1 C.2.1 dX8_tenants_50 rfl (lv_at hl 2 rfl) ?_
          refine x_icmp_eq (tgt := 57) C ⟨by have := g_M (81000 + i); have := zs3; omega, by have := g_M (81000 + i); have := zs3; omega⟩ gz_so dX8_tenants_51 (by decide) (fun c51 => ?_) (fun c51 => ?_)
          · refine lv_aload_n C.1 C.2.1 dX8_tenants_57 rfl (lv_at hl 0 rfl) ?_
            refine g8 C hw 70 (by omega) rfl 38 (by decide) mw_862 (svr (hF.2 _)) dX8_tenants_58 ?_
            refine lv_iload_n C.1 C.2.1 dX8_tenants_61 rfl (lv_at hl 1 rfl) ?_
            refine x_baload (L := 4) C hw 80 (by omega) rfl rfl (by omega) (by omega) (by decide) (x := 1) zs2 dX8_tenants_62 ?_
            refine x_if_ne (tgt := 69) C ⟨by decide, by decide⟩ dX8_tenants_63 (by decide) (fun _ => ?_) (fun h => absurd h (by decide))
            obtain ⟨N, rfl⟩ : ∃ i : Nat, z = (i : Int) := ⟨z.toNat, by omega⟩
            have e0 : s_tens n v Sh (i : Int) so fr (N : Int) = tnR (Sh.2.2 i) (Sh.2.1 i) fr N 0 0 n v := by
              simp only [s_tens, Int.toNat_natCast]
              rw [if_neg (fun y => y ⟨by omega, by omega, by omega⟩), if_neg (by omega), if_neg zs1]
            refine lv_iconst (v := II 0) C.1 C.2.1 dX8_tenants_69 rfl ?_
            refine lv_istore (lv' := [(5, .int (II 0)), (0, .ref (gA g 70)), (1, .int (II (i : Int))), (2, .int (II so)), (3, .int (II fr)), (4, .int (II (N : Int)))]) C.1 C.2.1 dX8_tenants_70 hl (by decide) rfl (fun ls hl => ?_)
            refine lv_iconst (v := II 0) C.1 C.2.1 dX8_tenants_72 rfl ?_
            refine lv_istore (lv' := [(6, .int (II 0)), (5, .int (II 0)), (0, .ref (gA g 70)), (1, .int (II (i : Int))), (2, .int (II so)), (3, .int (II fr)), (4, .int (II (N : Int)))]) C.1 C.2.1 dX8_tenants_73 hl (by decide) rfl (fun ls hl => ?_)
            have L75 : ∀ (f1 : Nat) (j : Nat) (cm : Int) (n2 : Nat) (v2 : Nat → Nat → Int) (M2 : Nat → Int), (N - j) < f1 → (j ≤ N ∧ 0 ≤ cm ∧ cm ≤ j) → (RepM M2 (n2, v2, nt, pd, t) X I Sh) → (InvA (n2, v2, nt, pd, t) X I Sh) → (tnR (Sh.2.2 i) (Sh.2.1 i) fr (N - j) j cm n2 v2 = tnR (Sh.2.2 i) (Sh.2.1 i) fr N 0 0 n v) → (∀ m, m < 70000 → M2 m = M m) → ∀ (H : Heap) (locs : List Loc) (ls : Array Slot), Wo g M2 H → va_S (ar g) s.heap H locs → lv_has ls 8 [(0, .ref (gA g 70)), (1, .int (II (i : Int))), (2, .int (II so)), (3, .int (II fr)), (4, .int (II (N : Int))), (5, .int (II cm)), (6, .int (II (j : Int)))] → W p l e (rmm 3 68) s m args below meth c H locs 0 0 QQ (F0 m 75 ls []) := by
              intro f1
              induction f1 with
              | zero => intro j cm n2 v2 M2 hmu; exact absurd hmu (Nat.not_lt_zero _)
              | succ f1 ih =>
                intro j cm n2 v2 M2 hmu h1 hR2 hA2 htn hk2 H locs ls hw hS hl
                have ih75 := ih
                have g_M2 := hw.rg
                obtain ⟨-, -, -, q4, q5⟩ : Sh.1 i ≠ -1 ∧ M2 (80000 + i) = 1 ∧ M2 (81000 + i) = Sh.1 i ∧ M2 (82000 + i) = Sh.2.1 i ∧ ∀ j : Nat, (j : Int) < Sh.2.1 i → M2 (83000 + (40 * i + j)) = Sh.2.2 i j := by
                  rcases hR2.2.2.2.1 i (by omega) with y | y
                  · exact absurd y.1 zs1
                  · exact y
                refine lv_iload C.1 C.2.1 dX8_tenants_75 (lv_at hl 6 rfl) ?_
                refine lv_iload C.1 C.2.1 dX8_tenants_77 (lv_at hl 4 rfl) ?_
                refine x_icmp_ge (tgt := 167) C ⟨by omega, by omega⟩ ⟨by omega, by omega⟩ dX8_tenants_79 (by decide) (fun c79 => ?_) (fun c79 => ?_)
                · refine lv_iload C.1 C.2.1 dX8_tenants_167 (lv_at hl 5 rfl) ?_
                  subst hQQ; exact x_ireturn C hr hlk hw hS ⟨by omega, by omega⟩ rfl (by rw [show N - j = 0 by omega, tnR] at htn; rw [e0, ← htn]; exact ⟨rfl, hR2, hk2⟩) dX8_tenants_169
                · refine lv_iload_n C.1 C.2.1 dX8_tenants_82 rfl (lv_at hl 3 rfl) ?_
                  refine x_if_lt (tgt := 103) C gz_fr dX8_tenants_83 (by decide) (fun c83 => ?_) (fun c83 => ?_)
                  · refine lv_bipush (v := II (-12)) C.1 C.2.1 dX8_tenants_103 (by decide) ?_
                    subst hQQ; exact x_ireturn C hr hlk hw hS ⟨by decide, by decide⟩ rfl (by rw [show N - j = (N - (j + 1)) + 1 by omega, tnR, if_neg (by omega)] at htn; rw [e0, ← htn]; exact ⟨rfl, hR2, hk2⟩) dX8_tenants_105
                  · refine lv_iload_n C.1 C.2.1 dX8_tenants_86 rfl (lv_at hl 3 rfl) ?_
                    refine lv_aload_n C.1 C.2.1 dX8_tenants_87 rfl (lv_at hl 0 rfl) ?_
                    refine g8 C hw 70 (by omega) rfl 40 (by decide) mw_864 (svr (hF.2 _)) dX8_tenants_88 ?_
                    refine lv_iload_n C.1 C.2.1 dX8_tenants_91 rfl (lv_at hl 1 rfl) ?_
                    refine x_iaload (L := 4) C hw 82 (by omega) rfl rfl (by omega) (by omega) (by decide) (x := Sh.2.1 i) q4 dX8_tenants_92 ?_
                    refine lv_iconst (v := II 3) C.1 C.2.1 dX8_tenants_93 rfl ?_
                    refine lv_iload C.1 C.2.1 dX8_tenants_94 (lv_at hl 6 rfl) ?_
                    refine x_imul C dX8_tenants_96 ?_
                    refine x_isub C dX8_tenants_97 ?_
                    refine lv_iconst (v := II 3) C.1 C.2.1 dX8_tenants_98 rfl ?_
                    refine x_isub C dX8_tenants_99 ?_
                    refine x_icmp_le (tgt := 106) C gz_fr ⟨by have := g_M2 (82000 + i); have := q4; omega, by have := g_M2 (82000 + i); have := q4; omega⟩ dX8_tenants_100 (by decide) (fun c100 => ?_) (fun c100 => ?_)
                    · have hfr0 : 0 ≤ fr := by omega
                      have estep := htn
                      rw [show N - j = (N - (j + 1)) + 1 by omega, tnR, if_pos (by omega)] at estep
                      refine lv_bipush (v := II 40) C.1 C.2.1 dX8_tenants_106 (by decide) ?_
                      refine lv_iload_n C.1 C.2.1 dX8_tenants_108 rfl (lv_at hl 1 rfl) ?_
                      refine x_imul C dX8_tenants_109 ?_
                      refine lv_iload_n C.1 C.2.1 dX8_tenants_110 rfl (lv_at hl 3 rfl) ?_
                      refine x_iadd C dX8_tenants_111 ?_
                      refine lv_iconst (v := II 3) C.1 C.2.1 dX8_tenants_112 rfl ?_
                      refine lv_iload C.1 C.2.1 dX8_tenants_113 (lv_at hl 6 rfl) ?_
                      refine x_imul C dX8_tenants_115 ?_
                      refine x_iadd C dX8_tenants_116 ?_
                      refine lv_istore (lv' := [(7, .int (II (((40 * (i : Int)) + fr) + (3 * (j : Int))))), (0, .ref (gA g 70)), (1, .int (II (i : Int))), (2, .int (II so)), (3, .int (II fr)), (4, .int (II (N : Int))), (5, .int (II cm)), (6, .int (II (j : Int)))]) C.1 C.2.1 dX8_tenants_117 hl (by decide) rfl (fun ls hl => ?_)
                      refine lv_iload C.1 C.2.1 dX8_tenants_119 (lv_at hl 6 rfl) ?_
                      refine lv_aload_n C.1 C.2.1 dX8_tenants_121 rfl (lv_at hl 1 rfl) ?_
                      refine lv_aload_n C.1 C.2.1 dX8_tenants_122 rfl (lv_at hl 1 rfl) ?_
                      refine g8 C hw 70 (by omega) rfl 41 (by decide) mw_865 (svr (hF.2 _)) dX8_tenants_123 ?_
                      refine lv_iload C.1 C.2.1 dX8_tenants_126 (lv_at hl 0 rfl) ?_
                      refine x_iaload (L := 160) C hw 83 (by omega) rfl rfl (by omega) (by omega) (by decide) (x := (Sh.2.2 i (fr.toNat + 3 * j))) ((congrArg (fun z => M2 (1000 * 83 + z)) (by omega)).trans ((congrArg M2 (show 83000 + ((40 * i + fr.toNat) + (3 * j)) = 83000 + (40 * i + (fr.toNat + 3 * j)) by omega)).trans (q5 (fr.toNat + 3 * j) (by omega)))) dX8_tenants_128 ?_
                      refine lv_aload_n C.1 C.2.1 dX8_tenants_129 rfl (lv_at hl 1 rfl) ?_
                      refine g8 C hw 70 (by omega) rfl 41 (by decide) mw_865 (svr (hF.2 _)) dX8_tenants_130 ?_
                      refine lv_iload C.1 C.2.1 dX8_tenants_133 (lv_at hl 0 rfl) ?_
                      refine lv_iconst (v := II 1) C.1 C.2.1 dX8_tenants_135 rfl ?_
                      refine x_iadd C dX8_tenants_136 ?_
                      refine x_iaload (L := 160) C hw 83 (by omega) rfl rfl (by omega) (by omega) (by decide) (x := (Sh.2.2 i (fr.toNat + 3 * j + 1))) ((congrArg (fun z => M2 (1000 * 83 + z)) (by omega)).trans ((congrArg M2 (show 83000 + (((40 * i + fr.toNat) + (3 * j)) + 1) = 83000 + (40 * i + (fr.toNat + 3 * j + 1)) by omega)).trans (q5 (fr.toNat + 3 * j + 1) (by omega)))) dX8_tenants_137 ?_
                      refine lv_aload_n C.1 C.2.1 dX8_tenants_138 rfl (lv_at hl 1 rfl) ?_
                      refine g8 C hw 70 (by omega) rfl 41 (by decide) mw_865 (svr (hF.2 _)) dX8_tenants_139 ?_
                      refine lv_iload C.1 C.2.1 dX8_tenants_142 (lv_at hl 0 rfl) ?_
                      refine lv_iconst (v := II 2) C.1 C.2.1 dX8_tenants_144 rfl ?_
                      refine x_iadd C dX8_tenants_145 ?_
                      refine x_iaload (L := 160) C hw 83 (by omega) rfl rfl (by omega) (by omega) (by decide) (x := (Sh.2.2 i (fr.toNat + 3 * j + 2))) ((congrArg (fun z => M2 (1000 * 83 + z)) (by omega)).trans ((congrArg M2 (show 83000 + (((40 * i + fr.toNat) + (3 * j)) + 2) = 83000 + (40 * i + (fr.toNat + 3 * j + 2)) by omega)).trans (q5 (fr.toNat + 3 * j + 2) (by omega)))) dX8_tenants_146 ?_
                      refine x_ci (x_runV (n := 3) C hw hS hml hl.1 70 8 (by omega) rfl (by decide) rfl (c_X8_tenant l g M2 hF n2 v2 nt pd t X I Sh hR2 hA2 (Sh.2.2 i (fr.toNat + 3 * j)) ⟨by have := g_M2 (83000 + ((40 * i + fr.toNat) + (3 * j))); have := ((congrArg M2 (show 83000 + ((40 * i + fr.toNat) + (3 * j)) = 83000 + (40 * i + (fr.toNat + 3 * j)) by omega)).trans (q5 (fr.toNat + 3 * j) (by omega))); omega, by have := g_M2 (83000 + ((40 * i + fr.toNat) + (3 * j))); have := ((congrArg M2 (show 83000 + ((40 * i + fr.toNat) + (3 * j)) = 83000 + (40 * i + (fr.toNat + 3 * j)) by omega)).trans (q5 (fr.toNat + 3 * j) (by omega))); omega⟩ (Sh.2.2 i (fr.toNat + 3 * j + 1)) ⟨by have := g_M2 (83000 + (((40 * i + fr.toNat) + (3 * j)) + 1)); have := ((congrArg M2 (show 83000 + (((40 * i + fr.toNat) + (3 * j)) + 1) = 83000 + (40 * i + (fr.toNat + 3 * j + 1)) by omega)).trans (q5 (fr.toNat + 3 * j + 1) (by omega))); omega, by have := g_M2 (83000 + (((40 * i + fr.toNat) + (3 * j)) + 1)); have := ((congrArg M2 (show 83000 + (((40 * i + fr.toNat) + (3 * j)) + 1) = 83000 + (40 * i + (fr.toNat + 3 * j + 1)) by omega)).trans (q5 (fr.toNat + 3 * j + 1) (by omega))); omega⟩ (Sh.2.2 i (fr.toNat + 3 * j + 2)) ⟨by have := g_M2 (83000 + (((40 * i + fr.toNat) + (3 * j)) + 2)); have := ((congrArg M2 (show 83000 + (((40 * i + fr.toNat) + (3 * j)) + 2) = 83000 + (40 * i + (fr.toNat + 3 * j + 2)) by omega)).trans (q5 (fr.toNat + 3 * j + 2) (by omega))); omega, by have := g_M2 (83000 + (((40 * i + fr.toNat) + (3 * j)) + 2)); have := ((congrArg M2 (show 83000 + (((40 * i + fr.toNat) + (3 * j)) + 2) = 83000 + (40 * i + (fr.toNat + 3 * j + 2)) by omega)).trans (q5 (fr.toNat + 3 * j + 2) (by omega))); omega⟩) mw_1359 mw_1205 mw_1206 mw_130 mw_1207 rfl rfl (by decide +kernel) ⟨Nat.le_of_ble_eq_true rfl, Nat.le_of_ble_eq_true rfl⟩ rfl rfl (Nat.le_of_ble_eq_true rfl) dX8_tenants_147 ⟨Nat.zero_le _, Nat.zero_le _⟩) hS (fun r147 M147 H locs hr147 hp hw hS => ?_)
                      obtain ⟨er147, h147r, h147k⟩ := hp
                      have g_M147 := hw.rg
                      rw [er147] at hr147 ⊢
                      refine x_if_lt (tgt := 157) C hr147 dX8_tenants_150 (by decide) (fun c150 => ?_) (fun c150 => ?_)
                      · refine lv_iconst (v := II 0) C.1 C.2.1 dX8_tenants_157 rfl ?_
                        refine x_iadd C dX8_tenants_158 ?_
                        refine lv_istore (lv' := [(5, .int (II (cm + 0))), (7, .int (II (((40 * (i : Int)) + fr) + (3 * (j : Int))))), (0, .ref (gA g 70)), (1, .int (II (i : Int))), (2, .int (II so)), (3, .int (II fr)), (4, .int (II (N : Int))), (6, .int (II (j : Int)))]) C.1 C.2.1 dX8_tenants_159 hl (by decide) rfl (fun ls hl => ?_)
                        refine lv_iinc (v := II ((j : Int) + 1)) (lv' := [(6, .int (II ((j : Int) + 1))), (5, .int (II (cm + 0))), (7, .int (II (((40 * (i : Int)) + fr) + (3 * (j : Int))))), (0, .ref (gA g 70)), (1, .int (II (i : Int))), (2, .int (II so)), (3, .int (II fr)), (4, .int (II (N : Int)))]) C.1 C.2.1 dX8_tenants_161 hl (k := 7) rfl (II_add _ _) (by decide) rfl (fun ls hl => ?_)
                        refine lv_goto (tgt := 75) C.1 C.2.1 dX8_tenants_164 (by decide) ?_
                        exact ih75  (j + 1) (cm + 0) (n_ten n2 (Sh.2.2 i (fr.toNat + 3 * j)) (Sh.2.2 i (fr.toNat + 3 * j + 1)) (Sh.2.2 i (fr.toNat + 3 * j + 2))) (v_ten v2 n2 (Sh.2.2 i (fr.toNat + 3 * j)) (Sh.2.2 i (fr.toNat + 3 * j + 1)) (Sh.2.2 i (fr.toNat + 3 * j + 2))) M147 (by omega) (by omega) h147r (hA2.ten _ _ _) (by rw [← estep]; first | (rw [if_pos (by omega), Int.add_comm]; done) | (rw [if_pos (by omega)]; done) | (rw [if_neg (by omega), Int.add_zero]; done) | (rw [if_neg (by omega)]; done)) (fun m hm => (h147k m hm).trans (hk2 m hm)) _ _ _ hw hS (lv_sub hl [3, 4, 5, 6, 7, 1, 0] rfl)
                      · refine lv_iconst (v := II 1) C.1 C.2.1 dX8_tenants_153 rfl ?_
                        refine lv_goto (tgt := 158) C.1 C.2.1 dX8_tenants_154 (by decide) ?_
                        refine x_iadd C dX8_tenants_158 ?_
                        refine lv_istore (lv' := [(5, .int (II (cm + 1))), (7, .int (II (((40 * (i : Int)) + fr) + (3 * (j : Int))))), (0, .ref (gA g 70)), (1, .int (II (i : Int))), (2, .int (II so)), (3, .int (II fr)), (4, .int (II (N : Int))), (6, .int (II (j : Int)))]) C.1 C.2.1 dX8_tenants_159 hl (by decide) rfl (fun ls hl => ?_)
                        refine lv_iinc (v := II ((j : Int) + 1)) (lv' := [(6, .int (II ((j : Int) + 1))), (5, .int (II (cm + 1))), (7, .int (II (((40 * (i : Int)) + fr) + (3 * (j : Int))))), (0, .ref (gA g 70)), (1, .int (II (i : Int))), (2, .int (II so)), (3, .int (II fr)), (4, .int (II (N : Int)))]) C.1 C.2.1 dX8_tenants_161 hl (k := 7) rfl (II_add _ _) (by decide) rfl (fun ls hl => ?_)
                        refine lv_goto (tgt := 75) C.1 C.2.1 dX8_tenants_164 (by decide) ?_
                        exact ih75  (j + 1) (cm + 1) (n_ten n2 (Sh.2.2 i (fr.toNat + 3 * j)) (Sh.2.2 i (fr.toNat + 3 * j + 1)) (Sh.2.2 i (fr.toNat + 3 * j + 2))) (v_ten v2 n2 (Sh.2.2 i (fr.toNat + 3 * j)) (Sh.2.2 i (fr.toNat + 3 * j + 1)) (Sh.2.2 i (fr.toNat + 3 * j + 2))) M147 (by omega) (by omega) h147r (hA2.ten _ _ _) (by rw [← estep]; first | (rw [if_pos (by omega), Int.add_comm]; done) | (rw [if_pos (by omega)]; done) | (rw [if_neg (by omega), Int.add_zero]; done) | (rw [if_neg (by omega)]; done)) (fun m hm => (h147k m hm).trans (hk2 m hm)) _ _ _ hw hS (lv_sub hl [3, 4, 5, 6, 7, 1, 0] rfl)
                    · refine lv_bipush (v := II (-12)) C.1 C.2.1 dX8_tenants_103 (by decide) ?_
                      subst hQQ; exact x_ireturn C hr hlk hw hS ⟨by decide, by decide⟩ rfl (by rw [show N - j = (N - (j + 1)) + 1 by omega, tnR, if_neg (by omega)] at htn; rw [e0, ← htn]; exact ⟨rfl, hR2, hk2⟩) dX8_tenants_105
            exact L75 _ 0 0 n v M (Nat.lt_succ_self _) (by omega) hR hA rfl (fun _ _ => rfl) _ _ _ hw hS (lv_sub hl [2, 3, 4, 5, 6, 1, 0] rfl)
          · refine lv_bipush (v := II (-13)) C.1 C.2.1 dX8_tenants_54 (by decide) ?_
            subst hQQ; exact x_ireturn C hr hlk hw hS ⟨by decide, by decide⟩ rfl (by have e : s_tens n v Sh (i : Int) so fr z = (-13, n, v) := (by unfold s_tens; simp only [Int.toNat_natCast]; rw [if_neg (fun y => y ⟨by omega, by omega, by omega⟩), if_pos ⟨zs1, by omega⟩]); rw [e]; exact ⟨rfl, hR, fun _ _ => rfl⟩) dX8_tenants_56
      · have hw : Wo g M H := em26 ▸ hw
        rw [er26]
        refine x_if_ne (tgt := 35) C ⟨by decide, by decide⟩ dX8_tenants_29 (by decide) (fun h => absurd h (by decide)) (fun _ => ?_)
        refine lv_bipush (v := II (-2)) C.1 C.2.1 dX8_tenants_32 (by decide) ?_
        subst hQQ; exact x_ireturn C hr hlk hw hS ⟨by decide, by decide⟩ rfl (by have e : s_tens n v Sh s0 so fr z = (-2, n, v) := (by unfold s_tens; rw [if_pos (fun y => by first | exact h1b y.1 | exact h13b y.2.1 | exact h26b y.2.2)]); rw [e]; exact ⟨rfl, hR, fun _ _ => rfl⟩) dX8_tenants_34
    · have hw : Wo g M H := em13 ▸ hw
      rw [er13]
      refine x_if_eq (tgt := 32) C ⟨by decide, by decide⟩ dX8_tenants_16 (by decide) (fun _ => ?_) (fun h => absurd h (by decide))
      refine lv_bipush (v := II (-2)) C.1 C.2.1 dX8_tenants_32 (by decide) ?_
      subst hQQ; exact x_ireturn C hr hlk hw hS ⟨by decide, by decide⟩ rfl (by have e : s_tens n v Sh s0 so fr z = (-2, n, v) := (by unfold s_tens; rw [if_pos (fun y => by first | exact h1b y.1 | exact h13b y.2.1 | exact h26b y.2.2)]); rw [e]; exact ⟨rfl, hR, fun _ _ => rfl⟩) dX8_tenants_34
  · have hw : Wo g M H := em1 ▸ hw
    rw [er1]
    refine x_if_eq (tgt := 32) C ⟨by decide, by decide⟩ dX8_tenants_4 (by decide) (fun _ => ?_) (fun h => absurd h (by decide))
    refine lv_bipush (v := II (-2)) C.1 C.2.1 dX8_tenants_32 (by decide) ?_
    subst hQQ; exact x_ireturn C hr hlk hw hS ⟨by decide, by decide⟩ rfl (by have e : s_tens n v Sh s0 so fr z = (-2, n, v) := (by unfold s_tens; rw [if_pos (fun y => by first | exact h1b y.1 | exact h13b y.2.1 | exact h26b y.2.2)]); rw [e]; exact ⟨rfl, hR, fun _ _ => rfl⟩) dX8_tenants_34

set_option maxHeartbeats 4000000 in
set_option maxRecDepth 100000 in
theorem c_X8_image (l : Launch) (g : Gm) (M : Nat → Int) (hF : LvF g) (n : Nat) (v : Nat → Nat → Int) (nt : Int) (pd : Int) (t : Nat) (X : Txt) (I : Option Bor) (Sh : Sht) (hR : RepM M (n, v, nt, pd, t) X I Sh) (hA : InvA (n, v, nt, pd, t) X I Sh) : CI l ({ cls := "RatedBySighsModel", name := "image", desc := "()I" } : Jvm.MethodName) cX8_image 2 .int (rmm 0 0) g M [.ref (gA g 70)] (fun r M' => r = (n : Int) ∧ (RepM M' (n, v, nt, pd, t) X (some (n, v, nt, pd, t)) Sh) ∧ (∀ m, m < 70000 → M' m = M m)) := by
  refine c_start (by decide) (Nat.le_of_ble_eq_true rfl) (fun p e s m below meth c ls C hr hlk hml hw hS hl => ?_)
  have hl : lv_has ls 2 [(0, .ref (gA g 70))] := hl
  generalize ([.ref (gA g 70)] : List Value).toArray = args at C ⊢
  generalize hQQ : MQ below (postI g (fun r M' => r = (n : Int) ∧ (RepM M' (n, v, nt, pd, t) X (some (n, v, nt, pd, t)) Sh) ∧ (∀ m, m < 70000 → M' m = M m))) args s 0 0 (ar g) = QQ
  have g_M := hw.rg
  have hN : gN g = 84 := hF.1
  have hM : MB M n v nt t (X.2.1 t) (-1) := hR.mb hA
  have hn2 : n ≤ 8 := hM.1.2
  have hnt := hM.2.2.2.1.2
  have hpd : 0 ≤ pd ∧ pd ≤ 999999999 := hA.1.2.2.2.2.1
  have htc := hA.2.1
  have hts := hA.2.2.1.1
  have ht9 : t < X.1 := hA.1.2.2.2.2.2
  refine lv_iconst (v := II 0) C.1 C.2.1 dX8_image_0 rfl ?_
  refine lv_istore_n (lv' := [(1, .int (II 0)), (0, .ref (gA g 70))]) C.1 C.2.1 dX8_image_1 rfl hl (by decide) rfl (fun ls hl => ?_)
  have L2 : ∀ (f1 : Nat) (j : Nat) (M2 : Nat → Int), (32 - j) < f1 → (j ≤ 32) → (∀ x, x < j → M2 (79000 + x) = M (75000 + x)) → (∀ m, ¬ (79000 ≤ m ∧ m < 79032) → M2 m = M m) → ∀ (H : Heap) (locs : List Loc) (ls : Array Slot), Wo g M2 H → va_S (ar g) s.heap H locs → lv_has ls 2 [(0, .ref (gA g 70)), (1, .int (II (j : Int)))] → W p l e (rmm 0 0) s m args below meth c H locs 0 0 QQ (F0 m 2 ls []) := by
    intro f1
    induction f1 with
    | zero => intro j M2 hmu; exact absurd hmu (Nat.not_lt_zero _)
    | succ f1 ih =>
      intro j M2 hmu h1 hc0 hf H locs ls hw hS hl
      have ih2 := ih
      have g_M2 := hw.rg
      refine lv_iload_n C.1 C.2.1 dX8_image_2 rfl (lv_at hl 1 rfl) ?_
      refine lv_bipush (v := II 32) C.1 C.2.1 dX8_image_3 (by decide) ?_
      refine x_icmp_ge (tgt := 26) C ⟨by omega, by omega⟩ ⟨by decide, by decide⟩ dX8_image_5 (by decide) (fun c5 => ?_) (fun c5 => ?_)
      · refine lv_aload_n C.1 C.2.1 dX8_image_26 rfl (lv_at hl 0 rfl) ?_
        refine lv_aload_n C.1 C.2.1 dX8_image_27 rfl (lv_at hl 0 rfl) ?_
        refine g8 C hw 70 (by omega) rfl 11 (by decide) mw_835 (svi (x := (n : Int)) ((hf _ (by omega)).trans hM.1.1)) dX8_image_28 ?_
        refine p8 C hw hS 70 (by omega) rfl 34 (by decide) mw_858 rfl (x := (n : Int)) ⟨by have := g_M2 70011; have := ((hf _ (by omega)).trans hM.1.1); omega, by have := g_M2 70011; have := ((hf _ (by omega)).trans hM.1.1); omega⟩ (svi st_s) (tyX8_ok 34 (by decide)) rfl rfl dX8_image_31 (fun H locs hw hS => ?_)
        have hw : Wo g (stM M2 70034 (n : Int)) H := hw
        refine lv_aload_n C.1 C.2.1 dX8_image_34 rfl (lv_at hl 0 rfl) ?_
        refine lv_aload_n C.1 C.2.1 dX8_image_35 rfl (lv_at hl 0 rfl) ?_
        refine g8 C hw 70 (by omega) rfl 7 (by decide) mw_831 (svi (x := nt) ((st_n (by decide)).trans ((hf _ (by omega)).trans hM.2.2.2.1.1))) dX8_image_36 ?_
        refine p8 C hw hS 70 (by omega) rfl 35 (by decide) mw_859 rfl (x := nt) ⟨by omega, by omega⟩ (svi st_s) (tyX8_ok 35 (by decide)) rfl rfl dX8_image_39 (fun H locs hw hS => ?_)
        have hw : Wo g (stM (stM M2 70034 (n : Int)) 70035 nt) H := hw
        refine lv_aload_n C.1 C.2.1 dX8_image_42 rfl (lv_at hl 0 rfl) ?_
        refine lv_aload_n C.1 C.2.1 dX8_image_43 rfl (lv_at hl 0 rfl) ?_
        refine g8 C hw 70 (by omega) rfl 8 (by decide) mw_832 (svi (x := pd) ((st_n (by decide)).trans ((st_n (by decide)).trans ((hf _ (by omega)).trans hR.1.1.2.2.1)))) dX8_image_44 ?_
        refine p8 C hw hS 70 (by omega) rfl 36 (by decide) mw_860 rfl (x := pd) ⟨by omega, by omega⟩ (svi st_s) (tyX8_ok 36 (by decide)) rfl rfl dX8_image_47 (fun H locs hw hS => ?_)
        have hw : Wo g (stM (stM (stM M2 70034 (n : Int)) 70035 nt) 70036 pd) H := hw
        refine lv_aload_n C.1 C.2.1 dX8_image_50 rfl (lv_at hl 0 rfl) ?_
        refine lv_aload_n C.1 C.2.1 dX8_image_51 rfl (lv_at hl 0 rfl) ?_
        refine g8 C hw 70 (by omega) rfl 4 (by decide) mw_828 (svi (x := (t : Int)) ((st_n (by decide)).trans ((st_n (by decide)).trans ((st_n (by decide)).trans ((hf _ (by omega)).trans hM.2.2.2.2.1.1))))) dX8_image_52 ?_
        refine p8 C hw hS 70 (by omega) rfl 37 (by decide) mw_861 rfl (x := (t : Int)) ⟨by omega, by omega⟩ (svi st_s) (tyX8_ok 37 (by decide)) rfl rfl dX8_image_55 (fun H locs hw hS => ?_)
        have hw : Wo g (stM (stM (stM (stM M2 70034 (n : Int)) 70035 nt) 70036 pd) 70037 (t : Int)) H := hw
        refine lv_aload_n C.1 C.2.1 dX8_image_58 rfl (lv_at hl 0 rfl) ?_
        refine g8 C hw 70 (by omega) rfl 11 (by decide) mw_835 (svi (x := (n : Int)) ((st_n (by decide)).trans ((st_n (by decide)).trans ((st_n (by decide)).trans ((st_n (by decide)).trans ((hf _ (by omega)).trans hM.1.1)))))) dX8_image_59 ?_
        subst hQQ; exact x_ireturn C hr hlk hw hS ⟨by omega, by omega⟩ rfl (by
    have ej : j = 32 := (by omega)
    subst ej
    have hS : ∀ m, ¬ ((70034 ≤ m ∧ m ≤ 70037) ∨ (79000 ≤ m ∧ m < 79032)) → stM (stM (stM (stM M2 70034 (n : Int)) 70035 nt) 70036 pd) 70037 (t : Int) m = M m := fun m hm => by
      rw [st_n (by omega), st_n (by omega), st_n (by omega), st_n (by omega)]; exact hf m (by omega)
    refine ⟨rfl, ⟨hR.1.fr hA.1.1 (fun m hm => hS m (by omega)), hR.2.1.fr ⟨hA.2.1.2, hA.2.2.1.1⟩ (fun m hm => hS m (by omega)), ⟨⟨by rw [st_n (by decide), st_n (by decide), st_n (by decide), st_s], by rw [st_n (by decide), st_n (by decide), st_s], by rw [st_n (by decide), st_s], st_s⟩, fun q hq => ?_⟩, hR.2.2.2.1.fr hA.sz (fun m hm => hS m (by omega)), (hS _ (by omega)).trans hR.2.2.2.2⟩, fun m hm => hS m (by omega)⟩
    have hq9 : q < n := hq
    have hr := (hR.1.2 q hq).2
    have hc : ∀ x, x < 32 → stM (stM (stM (stM M2 70034 (n : Int)) 70035 nt) 70036 pd) 70037 (t : Int) (79000 + x) = M (75000 + x) := fun x hx => by
      rw [st_n (by omega), st_n (by omega), st_n (by omega), st_n (by omega)]; exact hc0 x hx
    exact ⟨(hc (4 * q) (by omega)).trans hr.1, (hc (4 * q + 1) (by omega)).trans hr.2.1, (hc (4 * q + 2) (by omega)).trans hr.2.2.1, (hc (4 * q + 3) (by omega)).trans hr.2.2.2⟩) dX8_image_62
      · refine lv_aload_n C.1 C.2.1 dX8_image_8 rfl (lv_at hl 0 rfl) ?_
        refine g8 C hw 70 (by omega) rfl 33 (by decide) mw_857 (svr (hF.2 _)) dX8_image_9 ?_
        refine lv_iload_n C.1 C.2.1 dX8_image_12 rfl (lv_at hl 1 rfl) ?_
        refine lv_aload_n C.1 C.2.1 dX8_image_13 rfl (lv_at hl 0 rfl) ?_
        refine g8 C hw 70 (by omega) rfl 10 (by decide) mw_834 (svr (hF.2 _)) dX8_image_14 ?_
        refine lv_iload_n C.1 C.2.1 dX8_image_17 rfl (lv_at hl 1 rfl) ?_
        have gj := g_M (75000 + j)
        refine x_iaload (L := 32) C hw 75 (by omega) rfl rfl (by omega) (by omega) (by decide) (x := M (75000 + j)) (hf (75000 + j) (by omega)) dX8_image_18 ?_
        refine x_iastore (L := 32) C hw hS 79 (by omega) rfl rfl (by omega) (by omega) (by decide) (x := M (75000 + j)) ⟨by have := g_M2 (75000 + j); have := (hf (75000 + j) (by omega)); omega, by have := g_M2 (75000 + j); have := (hf (75000 + j) (by omega)); omega⟩ dX8_image_19 (fun H locs hw hS => ?_)
        have hw : Wo g (stM M2 (79000 + j) (M (75000 + j))) H := hw
        refine lv_iinc (v := II ((j : Int) + 1)) (lv' := [(1, .int (II ((j : Int) + 1))), (0, .ref (gA g 70))]) C.1 C.2.1 dX8_image_20 hl (k := 1) rfl (II_add _ _) (by decide) rfl (fun ls hl => ?_)
        refine lv_goto (tgt := 2) C.1 C.2.1 dX8_image_23 (by decide) ?_
        exact ih2  (j + 1) (stM M2 (79000 + j) (M (75000 + j))) (by omega) (by omega) (stA hc0 rfl) (fun m hm => by rw [st_n (by omega)]; exact hf m hm) _ _ _ hw hS (lv_sub hl [1, 0] rfl)
  exact L2 _ 0 M (Nat.lt_succ_self _) (by omega) (fun _ h => absurd h (Nat.not_lt_zero _)) (fun _ _ => rfl) _ _ _ hw hS (lv_sub hl [1, 0] rfl)

set_option maxHeartbeats 4000000 in
set_option maxRecDepth 100000 in
theorem c_X8_back (l : Launch) (g : Gm) (M : Nat → Int) (hF : LvF g) (n : Nat) (v : Nat → Nat → Int) (nt : Int) (pd : Int) (t : Nat) (X : Txt) (I : Option Bor) (Sh : Sht) (hR : RepM M (n, v, nt, pd, t) X I Sh) (hA : InvA (n, v, nt, pd, t) X I Sh) : CI l ({ cls := "RatedBySighsModel", name := "back", desc := "()I" } : Jvm.MethodName) cX8_back 2 .int (rmm 0 0) g M [.ref (gA g 70)] (fun r M' => r = r_back I ∧ (RepM M' (b_back I (n, v, nt, pd, t)) X I Sh) ∧ (∀ m, m < 70000 → M' m = M m)) := by
  refine c_start (by decide) (Nat.le_of_ble_eq_true rfl) (fun p e s m below meth c ls C hr hlk hml hw hS hl => ?_)
  have hl : lv_has ls 2 [(0, .ref (gA g 70))] := hl
  generalize ([.ref (gA g 70)] : List Value).toArray = args at C ⊢
  generalize hQQ : MQ below (postI g (fun r M' => r = r_back I ∧ (RepM M' (b_back I (n, v, nt, pd, t)) X I Sh) ∧ (∀ m, m < 70000 → M' m = M m))) args s 0 0 (ar g) = QQ
  have g_M := hw.rg
  have hN : gN g = 84 := hF.1
  have hM : MB M n v nt t (X.2.1 t) (-1) := hR.mb hA
  have hn2 : n ≤ 8 := hM.1.2
  have hnt := hM.2.2.2.1.2
  have hpd : 0 ≤ pd ∧ pd ≤ 999999999 := hA.1.2.2.2.2.1
  have htc := hA.2.1
  have hts := hA.2.2.1.1
  have ht9 : t < X.1 := hA.1.2.2.2.2.2
  refine lv_aload_n C.1 C.2.1 dX8_back_0 rfl (lv_at hl 0 rfl) ?_
  refine g8 C hw 70 (by omega) rfl 34 (by decide) mw_858 (svi (x := M 70034) rfl) dX8_back_1 ?_
  refine lv_iconst (v := II (-1)) C.1 C.2.1 dX8_back_4 rfl ?_
  refine x_icmp_ne (tgt := 11) C (g_M _) ⟨by decide, by decide⟩ dX8_back_5 (by decide) (fun c5 => ?_) (fun c5 => ?_)
  · obtain ⟨b2, hI⟩ : ∃ b2, I = some b2 := by
      cases I with
      | none => exact absurd hR.2.2.1 c5
      | some b2 => exact ⟨b2, rfl⟩
    subst hI
    obtain ⟨hI1, hI2⟩ := hR.2.2.1
    have hb8 := hA.im b2 rfl
    have hbi := (hA.2.2.2.1 b2 rfl).1
    obtain ⟨-, -, -, hb5, hb6, hb7⟩ := hbi
    refine lv_iconst (v := II 0) C.1 C.2.1 dX8_back_11 rfl ?_
    refine lv_istore_n (lv' := [(1, .int (II 0)), (0, .ref (gA g 70))]) C.1 C.2.1 dX8_back_12 rfl hl (by decide) rfl (fun ls hl => ?_)
    have L13 : ∀ (f1 : Nat) (j : Nat) (M2 : Nat → Int), (32 - j) < f1 → (j ≤ 32) → (∀ x, x < j → M2 (75000 + x) = M (79000 + x)) → (∀ m, ¬ (75000 ≤ m ∧ m < 75032) → M2 m = M m) → ∀ (H : Heap) (locs : List Loc) (ls : Array Slot), Wo g M2 H → va_S (ar g) s.heap H locs → lv_has ls 2 [(0, .ref (gA g 70)), (1, .int (II (j : Int)))] → W p l e (rmm 0 0) s m args below meth c H locs 0 0 QQ (F0 m 13 ls []) := by
      intro f1
      induction f1 with
      | zero => intro j M2 hmu; exact absurd hmu (Nat.not_lt_zero _)
      | succ f1 ih =>
        intro j M2 hmu h1 hc0 hf H locs ls hw hS hl
        have ih13 := ih
        have g_M2 := hw.rg
        refine lv_iload_n C.1 C.2.1 dX8_back_13 rfl (lv_at hl 1 rfl) ?_
        refine lv_bipush (v := II 32) C.1 C.2.1 dX8_back_14 (by decide) ?_
        refine x_icmp_ge (tgt := 37) C ⟨by omega, by omega⟩ ⟨by decide, by decide⟩ dX8_back_16 (by decide) (fun c16 => ?_) (fun c16 => ?_)
        · refine lv_aload_n C.1 C.2.1 dX8_back_37 rfl (lv_at hl 0 rfl) ?_
          refine lv_aload_n C.1 C.2.1 dX8_back_38 rfl (lv_at hl 0 rfl) ?_
          refine g8 C hw 70 (by omega) rfl 34 (by decide) mw_858 (svi (x := (b2.1 : Int)) ((hf _ (by omega)).trans hI1.1)) dX8_back_39 ?_
          refine p8 C hw hS 70 (by omega) rfl 11 (by decide) mw_835 rfl (x := (b2.1 : Int)) ⟨by have := g_M2 70034; have := ((hf _ (by omega)).trans hI1.1); omega, by have := g_M2 70034; have := ((hf _ (by omega)).trans hI1.1); omega⟩ (svi st_s) (tyX8_ok 11 (by decide)) rfl rfl dX8_back_42 (fun H locs hw hS => ?_)
          have hw : Wo g (stM M2 70011 (b2.1 : Int)) H := hw
          refine lv_aload_n C.1 C.2.1 dX8_back_45 rfl (lv_at hl 0 rfl) ?_
          refine lv_aload_n C.1 C.2.1 dX8_back_46 rfl (lv_at hl 0 rfl) ?_
          refine g8 C hw 70 (by omega) rfl 35 (by decide) mw_859 (svi (x := b2.2.2.1) ((st_n (by decide)).trans ((hf _ (by omega)).trans hI1.2.1))) dX8_back_47 ?_
          refine p8 C hw hS 70 (by omega) rfl 7 (by decide) mw_831 rfl (x := b2.2.2.1) ⟨by omega, by omega⟩ (svi st_s) (tyX8_ok 7 (by decide)) rfl rfl dX8_back_50 (fun H locs hw hS => ?_)
          have hw : Wo g (stM (stM M2 70011 (b2.1 : Int)) 70007 b2.2.2.1) H := hw
          refine lv_aload_n C.1 C.2.1 dX8_back_53 rfl (lv_at hl 0 rfl) ?_
          refine lv_aload_n C.1 C.2.1 dX8_back_54 rfl (lv_at hl 0 rfl) ?_
          refine g8 C hw 70 (by omega) rfl 36 (by decide) mw_860 (svi (x := b2.2.2.2.1) ((st_n (by decide)).trans ((st_n (by decide)).trans ((hf _ (by omega)).trans hI1.2.2.1)))) dX8_back_55 ?_
          refine p8 C hw hS 70 (by omega) rfl 8 (by decide) mw_832 rfl (x := b2.2.2.2.1) ⟨by omega, by omega⟩ (svi st_s) (tyX8_ok 8 (by decide)) rfl rfl dX8_back_58 (fun H locs hw hS => ?_)
          have hw : Wo g (stM (stM (stM M2 70011 (b2.1 : Int)) 70007 b2.2.2.1) 70008 b2.2.2.2.1) H := hw
          refine lv_aload_n C.1 C.2.1 dX8_back_61 rfl (lv_at hl 0 rfl) ?_
          refine lv_aload_n C.1 C.2.1 dX8_back_62 rfl (lv_at hl 0 rfl) ?_
          refine g8 C hw 70 (by omega) rfl 37 (by decide) mw_861 (svi (x := (b2.2.2.2.2 : Int)) ((st_n (by decide)).trans ((st_n (by decide)).trans ((st_n (by decide)).trans ((hf _ (by omega)).trans hI1.2.2.2))))) dX8_back_63 ?_
          refine p8 C hw hS 70 (by omega) rfl 4 (by decide) mw_828 rfl (x := (b2.2.2.2.2 : Int)) ⟨by omega, by omega⟩ (svi st_s) (tyX8_ok 4 (by decide)) rfl rfl dX8_back_66 (fun H locs hw hS => ?_)
          have hw : Wo g (stM (stM (stM (stM M2 70011 (b2.1 : Int)) 70007 b2.2.2.1) 70008 b2.2.2.2.1) 70004 (b2.2.2.2.2 : Int)) H := hw
          refine lv_aload_n C.1 C.2.1 dX8_back_69 rfl (lv_at hl 0 rfl) ?_
          refine g8 C hw 70 (by omega) rfl 11 (by decide) mw_835 (svi (x := (b2.1 : Int)) ((st_n (by decide)).trans ((st_n (by decide)).trans ((st_n (by decide)).trans st_s)))) dX8_back_70 ?_
          subst hQQ; exact x_ireturn C hr hlk hw hS ⟨by omega, by omega⟩ rfl (by
    have ej : j = 32 := (by omega)
    subst ej
    have hS : ∀ m, ¬ (m = 70011 ∨ m = 70007 ∨ m = 70008 ∨ m = 70004 ∨ (75000 ≤ m ∧ m < 75032)) → stM (stM (stM (stM M2 70011 (b2.1 : Int)) 70007 b2.2.2.1) 70008 b2.2.2.2.1) 70004 (b2.2.2.2.2 : Int) m = M m := fun m hm => by
      rw [st_n (by omega), st_n (by omega), st_n (by omega), st_n (by omega)]; exact hf m (by omega)
    have hia := hA.2.2.2.1 b2 rfl
    refine ⟨rfl, ⟨⟨⟨by rw [st_n (by decide), st_n (by decide), st_n (by decide), st_s]; rfl, by rw [st_n (by decide), st_n (by decide), st_s]; rfl, by rw [st_n (by decide), st_s]; rfl, st_s⟩, fun q hq => ?_⟩, hR.2.1.fr ⟨hA.2.1.2, hA.2.2.1.1⟩ (fun m hm => hS m (by omega)), ImgM.fr (I := some b2) hR.2.2.1 hA.im (fun m hm => hS m (by omega)), hR.2.2.2.1.fr hA.sz (fun m hm => hS m (by omega)), (hS _ (by omega)).trans hR.2.2.2.2⟩, fun m hm => hS m (by omega)⟩
    have hq9 : q < b2.1 := hq
    have hqn : q < n := Nat.lt_of_lt_of_le hq9 hia.2.1
    have hr := hI2 q hq9
    have hc : ∀ x, x < 32 → stM (stM (stM (stM M2 70011 (b2.1 : Int)) 70007 b2.2.2.1) 70008 b2.2.2.2.1) 70004 (b2.2.2.2.2 : Int) (75000 + x) = M (79000 + x) := fun x hx => by
      rw [st_n (by omega), st_n (by omega), st_n (by omega), st_n (by omega)]; exact hc0 x hx
    refine ⟨?_, (hc (4 * q) (by omega)).trans hr.1, (hc (4 * q + 1) (by omega)).trans hr.2.1, (hc (4 * q + 2) (by omega)).trans hr.2.2.1, (hc (4 * q + 3) (by omega)).trans hr.2.2.2⟩
    rw [hS _ (by omega), (hR.1.2 q hqn).1]
    exact (hia.2.2 q hq9).symm) dX8_back_73
        · refine lv_aload_n C.1 C.2.1 dX8_back_19 rfl (lv_at hl 0 rfl) ?_
          refine g8 C hw 70 (by omega) rfl 10 (by decide) mw_834 (svr (hF.2 _)) dX8_back_20 ?_
          refine lv_iload_n C.1 C.2.1 dX8_back_23 rfl (lv_at hl 1 rfl) ?_
          refine lv_aload_n C.1 C.2.1 dX8_back_24 rfl (lv_at hl 0 rfl) ?_
          refine g8 C hw 70 (by omega) rfl 33 (by decide) mw_857 (svr (hF.2 _)) dX8_back_25 ?_
          refine lv_iload_n C.1 C.2.1 dX8_back_28 rfl (lv_at hl 1 rfl) ?_
          refine x_iaload (L := 32) C hw 79 (by omega) rfl rfl (by omega) (by omega) (by decide) (x := M (79000 + j)) (hf (79000 + j) (by omega)) dX8_back_29 ?_
          refine x_iastore (L := 32) C hw hS 75 (by omega) rfl rfl (by omega) (by omega) (by decide) (x := M (79000 + j)) ⟨by have := g_M2 (79000 + j); have := (hf (79000 + j) (by omega)); omega, by have := g_M2 (79000 + j); have := (hf (79000 + j) (by omega)); omega⟩ dX8_back_30 (fun H locs hw hS => ?_)
          have hw : Wo g (stM M2 (75000 + j) (M (79000 + j))) H := hw
          refine lv_iinc (v := II ((j : Int) + 1)) (lv' := [(1, .int (II ((j : Int) + 1))), (0, .ref (gA g 70))]) C.1 C.2.1 dX8_back_31 hl (k := 1) rfl (II_add _ _) (by decide) rfl (fun ls hl => ?_)
          refine lv_goto (tgt := 13) C.1 C.2.1 dX8_back_34 (by decide) ?_
          exact ih13  (j + 1) (stM M2 (75000 + j) (M (79000 + j))) (by omega) (by omega) (stA hc0 rfl) (fun m hm => by rw [st_n (by omega)]; exact hf m hm) _ _ _ hw hS (lv_sub hl [1, 0] rfl)
    exact L13 _ 0 M (Nat.lt_succ_self _) (by omega) (fun _ h => absurd h (Nat.not_lt_zero _)) (fun _ _ => rfl) _ _ _ hw hS (lv_sub hl [1, 0] rfl)
  · refine lv_bipush (v := II (-3)) C.1 C.2.1 dX8_back_8 (by decide) ?_
    subst hQQ; exact x_ireturn C hr hlk hw hS ⟨by decide, by decide⟩ rfl (by
    have hI : I = none := by
      cases I with
      | none => rfl
      | some b2 => exact absurd hR.2.2.1.1.1 (by omega)
    subst hI
    exact ⟨rfl, hR, fun _ _ => rfl⟩) dX8_back_10

set_option maxHeartbeats 4000000 in
set_option maxRecDepth 100000 in
theorem c_X8_draws (l : Launch) (g : Gm) (M : Nat → Int) (hF : LvF g) (n : Nat) (v : Nat → Nat → Int) (nt : Int) (t : Nat) (E : Ev) (hM : MB M n v nt t E (-1)) (s0 : Int) (gs : rg s0) : CI l ({ cls := "RatedBySighsModel", name := "draws", desc := "(I)I" } : Jvm.MethodName) cX8_draws 5 .int (rmm 45 1000) g M [.ref (gA g 70), .int (II s0)] (fun r M' => r = allS (vD v s0 n) n nt E ∧ (∀ m, ¬ sc4 m → M' m = M m)) := by
  refine c_start (by decide) (Nat.le_of_ble_eq_true rfl) (fun p e s m below meth c ls C hr hlk hml hw hS hl => ?_)
  have hl : lv_has ls 5 [(0, .ref (gA g 70)), (1, .int (II s0))] := hl
  generalize ([.ref (gA g 70), .int (II s0)] : List Value).toArray = args at C ⊢
  generalize hQQ : MQ below (postI g (fun r M' => r = allS (vD v s0 n) n nt E ∧ (∀ m, ¬ sc4 m → M' m = M m))) args s 0 0 (ar g) = QQ
  have g_M := hw.rg
  have hN : gN g = 84 := hF.1
  have hn2 := hM.1.2
  refine lv_iload_n C.1 C.2.1 dX8_draws_0 rfl (lv_at hl 1 rfl) ?_
  refine lv_istore_n (lv' := [(2, .int (II s0)), (0, .ref (gA g 70)), (1, .int (II s0))]) C.1 C.2.1 dX8_draws_1 rfl hl (by decide) rfl (fun ls hl => ?_)
  refine lv_iconst (v := II 0) C.1 C.2.1 dX8_draws_2 rfl ?_
  refine lv_istore_n (lv' := [(3, .int (II 0)), (2, .int (II s0)), (0, .ref (gA g 70)), (1, .int (II s0))]) C.1 C.2.1 dX8_draws_3 rfl hl (by decide) rfl (fun ls hl => ?_)
  have L4 : ∀ (f1 : Nat) (i : Nat) (M2 : Nat → Int), (n - i) < f1 → (i ≤ n) → (MB M2 n (vD v s0 i) nt t E (-1)) → (∀ j, j < i → M2 (78000 + j) = v j 3) → (∀ m, ¬ (m / 1000 = 78 ∨ (75000 ≤ m ∧ m < 75000 + 4 * i ∧ m % 4 = 2)) → M2 m = M m) → (rg (lcg s0 i)) → ∀ (H : Heap) (locs : List Loc) (ls : Array Slot), Wo g M2 H → va_S (ar g) s.heap H locs → lv_has ls 5 [(0, .ref (gA g 70)), (1, .int (II s0)), (2, .int (II (lcg s0 i))), (3, .int (II (i : Int)))] → W p l e (rmm 45 1000) s m args below meth c H locs 0 0 QQ (F0 m 4 ls []) := by
    intro f1
    induction f1 with
    | zero => intro i M2 hmu; exact absurd hmu (Nat.not_lt_zero _)
    | succ f1 ih =>
      intro i M2 hmu h1 h2 h3 h4 h6 H locs ls hw hS hl
      have ih4 := ih
      have g_M2 := hw.rg
      have h9 : M2 70011 = (n : Int) := h2.1.1
      have h8 : ∀ j, j < n ∧ i ≤ j → M2 (75000 + (4 * j + 2)) = v j 3 := fun j hj => (h4 _ (by omega)).trans (mb_at hM (f := 3) hj.1 (by unfold psP; omega))
      refine lv_iload_n C.1 C.2.1 dX8_draws_4 rfl (lv_at hl 3 rfl) ?_
      refine lv_aload_n C.1 C.2.1 dX8_draws_5 rfl (lv_at hl 0 rfl) ?_
      refine g8 C hw 70 (by omega) rfl 11 (by decide) mw_835 (svi (x := (n : Int)) h9) dX8_draws_6 ?_
      refine x_icmp_ge (tgt := 64) C ⟨by omega, by omega⟩ ⟨by have := g_M2 70011; have := h9; omega, by have := g_M2 70011; have := h9; omega⟩ dX8_draws_9 (by decide) (fun c9 => ?_) (fun c9 => ?_)
      · have ein : i = n := by omega
        refine lv_aload_n C.1 C.2.1 dX8_draws_64 rfl (lv_at hl 0 rfl) ?_
        refine x_ci (x_runV (n := 0) C hw hS hml hl.1 70 8 (by omega) rfl (by decide) rfl (c_X8_allDue l g M2 hF n (vD v s0 n) nt t E (-1) (by rw [← ein]; exact ein ▸ h2)) mw_1239 mw_1241 mw_109 mw_130 mw_1242 rfl rfl (by decide +kernel) ⟨Nat.le_of_ble_eq_true rfl, Nat.le_of_ble_eq_true rfl⟩ rfl rfl (Nat.le_of_ble_eq_true rfl) dX8_draws_65 ⟨Nat.zero_le _, Nat.zero_le _⟩) hS (fun r65 M65 H locs hr65 hp hw hS => ?_)
        obtain ⟨er65, h65f⟩ := hp
        have g_M65 := hw.rg
        rw [er65] at hr65 ⊢
        refine lv_istore_n (lv' := [(3, .int (II (allS (vD v s0 n) n nt E))), (0, .ref (gA g 70)), (1, .int (II s0)), (2, .int (II (lcg s0 i)))]) C.1 C.2.1 dX8_draws_68 rfl hl (by decide) rfl (fun ls hl => ?_)
        refine lv_iconst (v := II 0) C.1 C.2.1 dX8_draws_69 rfl ?_
        refine lv_istore (lv' := [(4, .int (II 0)), (3, .int (II (allS (vD v s0 n) n nt E))), (0, .ref (gA g 70)), (1, .int (II s0)), (2, .int (II (lcg s0 i)))]) C.1 C.2.1 dX8_draws_70 hl (by decide) rfl (fun ls hl => ?_)
        have L72 : ∀ (f2 : Nat) (i : Nat) (M5 : Nat → Int), (n - i) < f2 → (i ≤ n) → (∀ j, j < n → M5 (78000 + j) = v j 3) → (∀ j, j < i → M5 (75000 + (4 * j + 2)) = v j 3) → (∀ m, ¬ (scm m ∨ m / 1000 = 78 ∨ (75000 ≤ m ∧ m < 75000 + 4 * n ∧ m % 4 = 2)) → M5 m = M m) → ∀ (H : Heap) (locs : List Loc) (ls : Array Slot), Wo g M5 H → va_S (ar g) s.heap H locs → lv_has ls 5 [(0, .ref (gA g 70)), (1, .int (II s0)), (3, .int (II (allS (vD v s0 n) n nt E))), (4, .int (II (i : Int)))] → W p l e (rmm 45 1000) s m args below meth c H locs 0 0 QQ (F0 m 72 ls []) := by
          intro f2
          induction f2 with
          | zero => intro i M5 hmu; exact absurd hmu (Nat.not_lt_zero _)
          | succ f2 ih =>
            intro i M5 hmu h20 h21 h22 h23 H locs ls hw hS hl
            have ih72 := ih
            have g_M5 := hw.rg
            have h29 : M5 70011 = (n : Int) := (h23 _ (by unfold scm; omega)).trans hM.1.1
            refine lv_iload C.1 C.2.1 dX8_draws_72 (lv_at hl 3 rfl) ?_
            refine lv_aload_n C.1 C.2.1 dX8_draws_74 rfl (lv_at hl 0 rfl) ?_
            refine g8 C hw 70 (by omega) rfl 11 (by decide) mw_835 (svi (x := (n : Int)) h29) dX8_draws_75 ?_
            refine x_icmp_ge (tgt := 105) C ⟨by omega, by omega⟩ ⟨by have := g_M5 70011; have := h29; omega, by have := g_M5 70011; have := h29; omega⟩ dX8_draws_78 (by decide) (fun c78 => ?_) (fun c78 => ?_)
            · refine lv_iload_n C.1 C.2.1 dX8_draws_105 rfl (lv_at hl 2 rfl) ?_
              subst hQQ; exact x_ireturn C hr hlk hw hS hr65 rfl ⟨rfl, fun m hm => by
    by_cases e : 75000 ≤ m ∧ m < 75000 + 4 * n ∧ m % 4 = 2
    · have h := h22 ((m - 75000) / 4) (by omega)
      rw [show 75000 + (4 * ((m - 75000) / 4) + 2) = m by omega] at h
      rw [h]
      exact (mb_at hM (q := (m - 75000) / 4) (f := 3) (by omega) (by unfold psP; omega)).symm
    · unfold sc4 at hm
      exact h23 m (fun z => z.elim (fun y => hm (Or.inl y)) (fun y => y.elim (fun x => hm (by omega)) e))⟩ dX8_draws_106
            · have hq := hM.2.2.1 i (by omega)
              refine lv_aload_n C.1 C.2.1 dX8_draws_81 rfl (lv_at hl 0 rfl) ?_
              refine g8 C hw 70 (by omega) rfl 10 (by decide) mw_834 (svr (hF.2 _)) dX8_draws_82 ?_
              refine lv_iconst (v := II 4) C.1 C.2.1 dX8_draws_85 rfl ?_
              refine lv_iload C.1 C.2.1 dX8_draws_86 (lv_at hl 3 rfl) ?_
              refine x_imul C dX8_draws_88 ?_
              refine lv_iconst (v := II 2) C.1 C.2.1 dX8_draws_89 rfl ?_
              refine x_iadd C dX8_draws_90 ?_
              refine lv_aload_n C.1 C.2.1 dX8_draws_91 rfl (lv_at hl 0 rfl) ?_
              refine g8 C hw 70 (by omega) rfl 32 (by decide) mw_856 (svr (hF.2 _)) dX8_draws_92 ?_
              refine lv_iload C.1 C.2.1 dX8_draws_95 (lv_at hl 3 rfl) ?_
              refine x_iaload (L := 8) C hw 78 (by omega) rfl rfl (by omega) (by omega) (by decide) (x := v i 3) (h21 i (by omega)) dX8_draws_97 ?_
              refine x_iastore (L := 32) C hw hS 75 (by omega) rfl rfl (by omega) (by omega) (by decide) (x := v i 3) ⟨by have := g_M5 (78000 + i); have := (h21 i (by omega)); omega, by have := g_M5 (78000 + i); have := (h21 i (by omega)); omega⟩ dX8_draws_98 (fun H locs hw hS => ?_)
              have hw : Wo g (stM M5 (75000 + ((4 * i) + 2)) (v i 3)) H := by rw [show 1000 * 75 + ((4 * (i : Int)) + 2).toNat = 75000 + ((4 * i) + 2) from by omega] at hw; exact hw
              refine lv_iinc (v := II ((i : Int) + 1)) (lv' := [(4, .int (II ((i : Int) + 1))), (0, .ref (gA g 70)), (1, .int (II s0)), (3, .int (II (allS (vD v s0 n) n nt E)))]) C.1 C.2.1 dX8_draws_99 hl (k := 3) rfl (II_add _ _) (by decide) rfl (fun ls hl => ?_)
              refine lv_goto (tgt := 72) C.1 C.2.1 dX8_draws_102 (by decide) ?_
              exact ih72  (i + 1) (stM M5 (75000 + ((4 * i) + 2)) (v i 3)) (by omega) (by omega) (fun j hj => (st_n (by omega)).trans (h21 j hj)) (fun j hj => by
      by_cases e : j = i
      · subst e; exact st_s
      · exact (st_n (by omega)).trans (h22 j (by omega))) (stF h23 (by omega)) _ _ _ hw hS (lv_sub hl [1, 2, 3, 0] rfl)
        exact L72 _ 0 M65 (Nat.lt_succ_self _) (by omega) (fun j hj => (h65f _ (by unfold scm; omega)).trans (h3 j (by omega))) (fun _ h => absurd h (Nat.not_lt_zero _)) (fun m hm => (h65f m (fun z => hm (Or.inl z))).trans (h4 m (fun z => hm (Or.inr (by omega))))) _ _ _ hw hS (lv_sub hl [2, 3, 1, 0] rfl)
      · have hq := hM.2.2.1 i (by omega)
        refine lv_aload_n C.1 C.2.1 dX8_draws_12 rfl (lv_at hl 0 rfl) ?_
        refine g8 C hw 70 (by omega) rfl 32 (by decide) mw_856 (svr (hF.2 _)) dX8_draws_13 ?_
        refine lv_iload_n C.1 C.2.1 dX8_draws_16 rfl (lv_at hl 3 rfl) ?_
        refine lv_aload_n C.1 C.2.1 dX8_draws_17 rfl (lv_at hl 0 rfl) ?_
        refine g8 C hw 70 (by omega) rfl 10 (by decide) mw_834 (svr (hF.2 _)) dX8_draws_18 ?_
        refine lv_iconst (v := II 4) C.1 C.2.1 dX8_draws_21 rfl ?_
        refine lv_iload_n C.1 C.2.1 dX8_draws_22 rfl (lv_at hl 3 rfl) ?_
        refine x_imul C dX8_draws_23 ?_
        refine lv_iconst (v := II 2) C.1 C.2.1 dX8_draws_24 rfl ?_
        refine x_iadd C dX8_draws_25 ?_
        refine x_iaload (L := 32) C hw 75 (by omega) rfl rfl (by omega) (by omega) (by decide) (x := v i 3) ((congrArg (fun z => M2 (1000 * 75 + z)) (by omega)).trans (h8 i (by omega))) dX8_draws_26 ?_
        refine x_iastore (L := 8) C hw hS 78 (by omega) rfl rfl (by omega) (by omega) (by decide) (x := v i 3) ⟨by have := g_M2 (75000 + ((4 * i) + 2)); have := (h8 i (by omega)); omega, by have := g_M2 (75000 + ((4 * i) + 2)); have := (h8 i (by omega)); omega⟩ dX8_draws_27 (fun H locs hw hS => ?_)
        have hw : Wo g (stM M2 (78000 + i) (v i 3)) H := hw
        refine lv_iload_n C.1 C.2.1 dX8_draws_28 rfl (lv_at hl 2 rfl) ?_
        refine lv_ldcw C.1 C.2.1 C.2.2.1 (C.2.2.2.1 _ mw_1328) dX8_draws_29 ?_
        rw [show (1103515245 : Int32) = II 1103515245 from by decide]
        refine x_imul C dX8_draws_32 ?_
        refine lv_sipush (v := II 12345) C.1 C.2.1 dX8_draws_33 (by decide) ?_
        refine x_iadd C dX8_draws_36 ?_
        refine x_top (b := wr (((lcg s0 i) * 1103515245) + 12345)) (II_self _).symm ?_
        refine lv_istore_n (lv' := [(2, .int (II (wr (((lcg s0 i) * 1103515245) + 12345)))), (0, .ref (gA g 70)), (1, .int (II s0)), (3, .int (II (i : Int)))]) C.1 C.2.1 dX8_draws_37 rfl hl (by decide) rfl (fun ls hl => ?_)
        have hl : lv_has ls 5 [(2, .int (II (lcg s0 (i + 1)))), (0, .ref (gA g 70)), (1, .int (II s0)), (3, .int (II (i : Int)))] := hl
        have hdm := dm_in (lcg s0 (i + 1))
        have hus := ush_in (lcg s0 (i + 1))
        refine lv_aload_n C.1 C.2.1 dX8_draws_38 rfl (lv_at hl 1 rfl) ?_
        refine g8 C hw 70 (by omega) rfl 10 (by decide) mw_834 (svr (hF.2 _)) dX8_draws_39 ?_
        refine lv_iconst (v := II 4) C.1 C.2.1 dX8_draws_42 rfl ?_
        refine lv_iload_n C.1 C.2.1 dX8_draws_43 rfl (lv_at hl 3 rfl) ?_
        refine x_imul C dX8_draws_44 ?_
        refine lv_iconst (v := II 2) C.1 C.2.1 dX8_draws_45 rfl ?_
        refine x_iadd C dX8_draws_46 ?_
        refine lv_iload_n C.1 C.2.1 dX8_draws_47 rfl (lv_at hl 0 rfl) ?_
        refine lv_bipush (v := II 9) C.1 C.2.1 dX8_draws_48 (by decide) ?_
        refine lv_iushr (v := ((II (lcg s0 (i + 1))).toUInt32 >>> ((II 9).toUInt32 &&& Int32.toUInt32 31)).toInt32) C.1 C.2.1 dX8_draws_50 rfl ?_
        rw [show ((II (lcg s0 (i + 1))).toUInt32 >>> ((II 9).toUInt32 &&& Int32.toUInt32 31)).toInt32 = II (ush (lcg s0 (i + 1))) from (II_self _).symm]
        refine lv_bipush (v := II 41) C.1 C.2.1 dX8_draws_51 (by decide) ?_
        refine x_irem C (by omega) ⟨by omega, by omega⟩ (by omega) ⟨by decide, by decide⟩ dX8_draws_53 ?_
        refine lv_bipush (v := II 20) C.1 C.2.1 dX8_draws_54 (by decide) ?_
        refine x_isub C dX8_draws_56 ?_
        refine x_iastore (L := 32) C hw hS 75 (by omega) rfl rfl (by omega) (by omega) (by decide) (x := ((ush (lcg s0 (i + 1))) % 41) - 20) ⟨by omega, by omega⟩ dX8_draws_57 (fun H locs hw hS => ?_)
        have hw : Wo g (stM (stM M2 (78000 + i) (v i 3)) (75000 + ((4 * i) + 2)) (((ush (lcg s0 (i + 1))) % 41) - 20)) H := by rw [show 1000 * 75 + ((4 * (i : Int)) + 2).toNat = 75000 + ((4 * i) + 2) from by omega] at hw; exact hw
        have hB3 : MB (stM (stM M2 (78000 + i) (v i 3)) (75000 + (4 * i + 2)) (dm (lcg s0 (i + 1)))) n (upv (vD v s0 i) i 3 (dm (lcg s0 (i + 1)))) nt t E (-1) :=
          h2.up (q := i) (f := 3) (ps := 75000 + (4 * i + 2)) (by unfold psP; omega) (fun m hm => by unfold sc4 scm at hm; rw [st_n (by omega), st_n (by omega)]) st_s (PI.upM (vD_PI hM.2.2.1) hdm) (fun z => absurd z (by decide)) (by omega)
        refine lv_iinc (v := II ((i : Int) + 1)) (lv' := [(3, .int (II ((i : Int) + 1))), (2, .int (II (lcg s0 (i + 1)))), (0, .ref (gA g 70)), (1, .int (II s0))]) C.1 C.2.1 dX8_draws_58 hl (k := 3) rfl (II_add _ _) (by decide) rfl (fun ls hl => ?_)
        refine lv_goto (tgt := 4) C.1 C.2.1 dX8_draws_61 (by decide) ?_
        exact ih4  (i + 1) (stM (stM M2 (78000 + i) (v i 3)) (75000 + ((4 * i) + 2)) (((ush (lcg s0 (i + 1))) % 41) - 20)) (by omega) (by omega) (by rw [← vD_up]; exact hB3) (fun j hj => (st_n (by omega)).trans (stA h3 rfl j hj)) (fun m hm => by rw [st_n (by omega), st_n (by omega)]; exact h4 m (by omega)) (rg_toInt _) _ _ _ hw hS (lv_sub hl [2, 3, 1, 0] rfl)
  exact L4 _ 0 M (Nat.lt_succ_self _) (by omega) (by rw [vD_0]; exact hM) (fun _ h => absurd h (Nat.not_lt_zero _)) (fun _ _ => rfl) gs _ _ _ hw hS (lv_sub hl [2, 3, 1, 0] rfl)

set_option maxHeartbeats 4000000 in
set_option maxRecDepth 100000 in
theorem c_X8_drawn (l : Launch) (g : Gm) (M : Nat → Int) (hF : LvF g) (n : Nat) (v : Nat → Nat → Int) (nt : Int) (pd : Int) (t : Nat) (X : Txt) (I : Option Bor) (Sh : Sht) (hR : RepM M (n, v, nt, pd, t) X I Sh) (hA : InvA (n, v, nt, pd, t) X I Sh) (s0 : Int) (gz_s0 : rg s0) : CI l ({ cls := "RatedBySighsModel", name := "drawn", desc := "(I)I" } : Jvm.MethodName) cX8_drawn 2 .int (rmm 46 1024) g M [.ref (gA g 70), .int (II s0)] (fun r M' => r = allS (vD v s0 n) n nt (X.2.1 t) ∧ (RepM M' (n, v, nt, pd, t) X I Sh) ∧ (∀ m, m < 70000 → M' m = M m)) := by
  refine c_start (by decide) (Nat.le_of_ble_eq_true rfl) (fun p e s m below meth c ls C hr hlk hml hw hS hl => ?_)
  have hl : lv_has ls 2 [(0, .ref (gA g 70)), (1, .int (II s0))] := hl
  have g_M := hw.rg
  have hN : gN g = 84 := hF.1
  have hM : MB M n v nt t (X.2.1 t) (-1) := hR.mb hA
  have hn2 : n ≤ 8 := hM.1.2
  have hnt := hM.2.2.2.1.2
  have hpd : 0 ≤ pd ∧ pd ≤ 999999999 := hA.1.2.2.2.2.1
  have htc := hA.2.1
  have hts := hA.2.2.1.1
  have ht9 : t < X.1 := hA.1.2.2.2.2.2
  refine lv_aload_n C.1 C.2.1 dX8_drawn_0 rfl (lv_at hl 0 rfl) ?_
  refine lv_iload_n C.1 C.2.1 dX8_drawn_1 rfl (lv_at hl 1 rfl) ?_
  refine x_ci (x_runV (n := 1) C hw hS hml hl.1 70 8 (by omega) rfl (by decide) rfl (c_X8_draws l g M hF n v nt t (X.2.1 t) hM s0 gz_s0) mw_1324 mw_1326 mw_115 mw_130 mw_1327 rfl rfl (by decide +kernel) ⟨Nat.le_of_ble_eq_true rfl, Nat.le_of_ble_eq_true rfl⟩ rfl rfl (Nat.le_of_ble_eq_true rfl) dX8_drawn_2 ⟨Nat.zero_le _, Nat.zero_le _⟩) hS (fun r2 M2 H locs hr2 hp hw hS => ?_)
  obtain ⟨er2, h2f⟩ := hp
  have g_M2 := hw.rg
  rw [er2] at hr2 ⊢
  exact x_ireturn C hr hlk hw hS hr2 rfl ⟨rfl, (hR.fr hA (fun m hm _ => h2f m hm)), (fun m hm => h2f m (by unfold sc4 scm; omega))⟩ dX8_drawn_5

set_option maxHeartbeats 4000000 in
set_option maxRecDepth 100000 in
theorem c_X8_chance (l : Launch) (g : Gm) (M : Nat → Int) (hF : LvF g) (n : Nat) (v : Nat → Nat → Int) (nt : Int) (pd : Int) (t : Nat) (X : Txt) (I : Option Bor) (Sh : Sht) (hR : RepM M (n, v, nt, pd, t) X I Sh) (hA : InvA (n, v, nt, pd, t) X I Sh) (s0 : Int) (gz_s0 : rg s0) (z : Int) (gz_z : rg z) (w : Int) (gz_w : rg w) : CL l ({ cls := "RatedBySighsModel", name := "chance", desc := "(III)J" } : Jvm.MethodName) cX8_chance 13 (rmm 46 1024) g M [.ref (gA g 70), .int (II s0), .int (II z), .int (II w)] (fun r M' => r = r_chance v n nt (X.2.1 t) s0 z w ∧ (RepM M' (n, v, nt, pd, t) X I Sh) ∧ (∀ m, m < 70000 → M' m = M m)) := by
  refine c_start (by decide) (Nat.le_of_ble_eq_true rfl) (fun p e s m below meth c ls C hr hlk hml hw hS hl => ?_)
  have hl : lv_has ls 13 [(0, .ref (gA g 70)), (1, .int (II s0)), (2, .int (II z)), (3, .int (II w))] := hl
  generalize ([.ref (gA g 70), .int (II s0), .int (II z), .int (II w)] : List Value).toArray = args at C ⊢
  generalize hQQ : MQ below (postL g (fun r M' => r = r_chance v n nt (X.2.1 t) s0 z w ∧ (RepM M' (n, v, nt, pd, t) X I Sh) ∧ (∀ m, m < 70000 → M' m = M m))) args s 0 0 (ar g) = QQ
  have g_M := hw.rg
  have hN : gN g = 84 := hF.1
  have hM : MB M n v nt t (X.2.1 t) (-1) := hR.mb hA
  have hn2 : n ≤ 8 := hM.1.2
  have hnt := hM.2.2.2.1.2
  have hpd : 0 ≤ pd ∧ pd ≤ 999999999 := hA.1.2.2.2.2.1
  have htc := hA.2.1
  have hts := hA.2.2.1.1
  have ht9 : t < X.1 := hA.1.2.2.2.2.2
  have ha1 := allS_in v n nt (X.2.1 t)
  refine lv_iload_n C.1 C.2.1 dX8_chance_0 rfl (lv_at hl 2 rfl) ?_
  refine x_i2l C gz_z dX8_chance_1 ?_
  refine lv_lconst (v := LL 1) C.1 C.2.1 dX8_chance_2 (by decide) ?_
  refine lv_ldc2 C.1 C.2.1 C.2.2.1 (C.2.2.2.1 _ mw_976) dX8_chance_3 ?_
  rw [show (20 : Int64) = LL 20 from by decide]
  refine x_ci (x_runS (n := 3) C hw hS hml hl.1 (c_X8_in l g M z gz_z 1 ⟨by decide, by decide⟩ 20 ⟨by decide, by decide⟩) mw_957 mw_958 mw_130 mw_959 rfl rfl (by decide +kernel) ⟨Nat.le_of_ble_eq_true rfl, Nat.le_of_ble_eq_true rfl⟩ rfl rfl (Nat.le_of_ble_eq_true rfl) dX8_chance_6 ⟨Nat.zero_le _, Nat.zero_le _⟩) hS (fun r6 M6 H locs hr6 hp hw hS => ?_)
  rcases hp with ⟨em6, (⟨er6, h6b⟩ | ⟨er6, h6b⟩)⟩
  · have hw : Wo g M H := em6 ▸ hw
    rw [er6]
    refine x_if_eq (tgt := 22) C ⟨by decide, by decide⟩ dX8_chance_9 (by decide) (fun h => absurd h (by decide)) (fun _ => ?_)
    have hz9 : 1 ≤ z ∧ z ≤ 20 := h6b
    refine lv_iload_n C.1 C.2.1 dX8_chance_12 rfl (lv_at hl 3 rfl) ?_
    refine x_i2l C gz_w dX8_chance_13 ?_
    refine lv_lconst (v := LL 0) C.1 C.2.1 dX8_chance_14 (by decide) ?_
    refine lv_lconst (v := LL 1) C.1 C.2.1 dX8_chance_15 (by decide) ?_
    refine x_ci (x_runS (n := 3) C hw hS hml hl.1 (c_X8_in l g M w gz_w 0 ⟨by decide, by decide⟩ 1 ⟨by decide, by decide⟩) mw_957 mw_958 mw_130 mw_959 rfl rfl (by decide +kernel) ⟨Nat.le_of_ble_eq_true rfl, Nat.le_of_ble_eq_true rfl⟩ rfl rfl (Nat.le_of_ble_eq_true rfl) dX8_chance_16 ⟨Nat.zero_le _, Nat.zero_le _⟩) hS (fun r16 M16 H locs hr16 hp hw hS => ?_)
    rcases hp with ⟨em16, (⟨er16, h16b⟩ | ⟨er16, h16b⟩)⟩
    · have hw : Wo g M H := em16 ▸ hw
      rw [er16]
      refine x_if_ne (tgt := 26) C ⟨by decide, by decide⟩ dX8_chance_19 (by decide) (fun _ => ?_) (fun h => absurd h (by decide))
      have hw9 : 0 ≤ w ∧ w ≤ 1 := h16b
      obtain ⟨k, rfl⟩ : ∃ i : Nat, z = (i : Int) := ⟨z.toNat, by omega⟩
      refine lv_aload_n C.1 C.2.1 dX8_chance_26 rfl (lv_at hl 0 rfl) ?_
      refine x_ci (x_runV (n := 0) C hw hS hml hl.1 70 8 (by omega) rfl (by decide) rfl (c_X8_allDue l g M hF n v nt t (X.2.1 t) (-1) hM) mw_1239 mw_1241 mw_109 mw_130 mw_1242 rfl rfl (by decide +kernel) ⟨Nat.le_of_ble_eq_true rfl, Nat.le_of_ble_eq_true rfl⟩ rfl rfl (Nat.le_of_ble_eq_true rfl) dX8_chance_27 ⟨Nat.zero_le _, Nat.zero_le _⟩) hS (fun r27 M27 H locs hr27 hp hw hS => ?_)
      obtain ⟨er27, h27f⟩ := hp
      have g_M27 := hw.rg
      rw [er27] at hr27 ⊢
      refine lv_istore (lv' := [(4, .int (II (allS v n nt (X.2.1 t)))), (0, .ref (gA g 70)), (1, .int (II s0)), (2, .int (II (k : Int))), (3, .int (II w))]) C.1 C.2.1 dX8_chance_30 hl (by decide) rfl (fun ls hl => ?_)
      refine lv_lconst (v := LL 0) C.1 C.2.1 dX8_chance_32 (by decide) ?_
      refine lv_lstore (lv' := [(5, .long (LL 0)), (4, .int (II (allS v n nt (X.2.1 t)))), (0, .ref (gA g 70)), (1, .int (II s0)), (2, .int (II (k : Int))), (3, .int (II w))]) C.1 C.2.1 dX8_chance_33 hl (by decide) rfl (fun ls hl => ?_)
      refine lv_iconst (v := II 0) C.1 C.2.1 dX8_chance_35 rfl ?_
      refine lv_istore (lv' := [(7, .int (II 0)), (5, .long (LL 0)), (4, .int (II (allS v n nt (X.2.1 t)))), (0, .ref (gA g 70)), (1, .int (II s0)), (2, .int (II (k : Int))), (3, .int (II w))]) C.1 C.2.1 dX8_chance_36 hl (by decide) rfl (fun ls hl => ?_)
      have L38 : ∀ (f1 : Nat) (i : Nat) (M2 : Nat → Int), (k - i) < f1 → (i ≤ k) → (∀ m, ¬ sc4 m → M2 m = M m) → ∀ (H : Heap) (locs : List Loc) (ls : Array Slot), Wo g M2 H → va_S (ar g) s.heap H locs → lv_has ls 13 [(0, .ref (gA g 70)), (1, .int (II s0)), (2, .int (II (k : Int))), (3, .int (II w)), (4, .int (II (allS v n nt (X.2.1 t)))), (5, .long (LL (cnt (fun i => decide (allS v n nt (X.2.1 t) < allS (vD v (wr (s0 + i)) n) n nt (X.2.1 t))) i))), (7, .int (II (i : Int)))] → W p l e (rmm 46 1024) s m args below meth c H locs 0 0 QQ (F0 m 38 ls []) := by
        intro f1
        induction f1 with
        | zero => intro i M2 hmu; exact absurd hmu (Nat.not_lt_zero _)
        | succ f1 ih =>
          intro i M2 hmu h1 hf H locs ls hw hS hl
          have ih38 := ih
          have g_M2 := hw.rg
          have hci := cnt_in (fun i => decide (allS v n nt (X.2.1 t) < allS (vD v (wr (s0 + i)) n) n nt (X.2.1 t))) i
          refine lv_iload C.1 C.2.1 dX8_chance_38 (lv_at hl 6 rfl) ?_
          refine lv_iload_n C.1 C.2.1 dX8_chance_40 rfl (lv_at hl 2 rfl) ?_
          refine x_icmp_ge (tgt := 73) C ⟨by omega, by omega⟩ ⟨by omega, by omega⟩ dX8_chance_41 (by decide) (fun c41 => ?_) (fun c41 => ?_)
          · have eik : i = k := by omega
            rw [eik] at hl
            obtain ⟨a, ha⟩ : ∃ a : Nat, cnt (fun i => decide (allS v n nt (X.2.1 t) < allS (vD v (wr (s0 + i)) n) n nt (X.2.1 t))) k = (a : Int) := ⟨(cnt (fun i => decide (allS v n nt (X.2.1 t) < allS (vD v (wr (s0 + i)) n) n nt (X.2.1 t))) k).toNat, by have := cnt_in (fun i => decide (allS v n nt (X.2.1 t) < allS (vD v (wr (s0 + i)) n) n nt (X.2.1 t))) k; omega⟩
            have hak := cnt_in (fun i => decide (allS v n nt (X.2.1 t) < allS (vD v (wr (s0 + i)) n) n nt (X.2.1 t))) k
            rw [ha] at hl
            have hgp : 0 < Nat.gcd a k := Nat.gcd_pos_of_pos_right a (by omega)
            have hgl : Nat.gcd a k ≤ k := Nat.gcd_le_right a (by omega)
            refine lv_lload C.1 C.2.1 dX8_chance_73 (lv_at hl 5 rfl) ?_
            refine lv_lstore (lv' := [(7, .long (LL (a : Int))), (0, .ref (gA g 70)), (1, .int (II s0)), (2, .int (II (k : Int))), (3, .int (II w)), (4, .int (II (allS v n nt (X.2.1 t)))), (5, .long (LL (a : Int)))]) C.1 C.2.1 dX8_chance_75 hl (by decide) rfl (fun ls hl => ?_)
            refine lv_iload_n C.1 C.2.1 dX8_chance_77 rfl (lv_at hl 3 rfl) ?_
            refine x_i2l C ⟨by omega, by omega⟩ dX8_chance_78 ?_
            refine lv_lstore (lv' := [(9, .long (LL (k : Int))), (7, .long (LL (a : Int))), (0, .ref (gA g 70)), (1, .int (II s0)), (2, .int (II (k : Int))), (3, .int (II w)), (4, .int (II (allS v n nt (X.2.1 t)))), (5, .long (LL (a : Int)))]) C.1 C.2.1 dX8_chance_79 hl (by decide) rfl (fun ls hl => ?_)
            have L81 : ∀ (f2 : Nat) (x : Nat) (y : Nat), y < f2 → (Nat.gcd x y = Nat.gcd a k) → (x ≤ 20 ∧ y ≤ 20) → ∀ (H : Heap) (locs : List Loc) (ls : Array Slot), Wo g M2 H → va_S (ar g) s.heap H locs → lv_has ls 13 [(0, .ref (gA g 70)), (1, .int (II s0)), (2, .int (II (k : Int))), (3, .int (II w)), (4, .int (II (allS v n nt (X.2.1 t)))), (5, .long (LL (a : Int))), (7, .long (LL (x : Int))), (9, .long (LL (y : Int)))] → W p l e (rmm 46 1024) s m args below meth c H locs 0 0 QQ (F0 m 81 ls []) := by
              intro f2
              induction f2 with
              | zero => intro x y hmu; exact absurd hmu (Nat.not_lt_zero _)
              | succ f2 ih =>
                intro x y hmu hg hxy H locs ls hw hS hl
                have ih81 := ih
                refine lv_lload C.1 C.2.1 dX8_chance_81 (lv_at hl 7 rfl) ?_
                refine lv_lconst (v := LL 0) C.1 C.2.1 dX8_chance_83 (by decide) ?_
                refine x_lcmp C ⟨by omega, by omega⟩ ⟨by decide, by decide⟩ dX8_chance_84 ?_
                refine x_if_eq (tgt := 106) C (cmpI_rg _ _) dX8_chance_85 (by decide) (fun c85 => ?_) (fun c85 => ?_)
                · have c85 := cmpI_eq.mp (c85)
                  have hx9 : x = Nat.gcd a k := by have hy0 : y = 0 := (by omega); subst hy0; rw [Nat.gcd_zero_right] at hg; exact hg
                  refine lv_iload_n C.1 C.2.1 dX8_chance_106 rfl (lv_at hl 3 rfl) ?_
                  refine x_if_ne (tgt := 118) C gz_w dX8_chance_107 (by decide) (fun c107 => ?_) (fun c107 => ?_)
                  · refine lv_iload_n C.1 C.2.1 dX8_chance_118 rfl (lv_at hl 2 rfl) ?_
                    refine x_i2l C ⟨by omega, by omega⟩ dX8_chance_119 ?_
                    refine lv_lload C.1 C.2.1 dX8_chance_120 (lv_at hl 6 rfl) ?_
                    refine x_ldiv C (by omega) ⟨by omega, by omega⟩ (by omega) ⟨by omega, by omega⟩ dX8_chance_122 ?_
                    subst hQQ; exact x_lreturn C hr hlk hw hS ⟨(by unfold r_chance; rw [if_pos (by omega)]; show LL _ = LL (if w = 0 then _ else _); have hgx : x = Nat.gcd a k := (by have hy0 : y = 0 := (by omega); subst hy0; rw [Nat.gcd_zero_right] at hg; exact hg); subst hgx; have hm : moreS v n nt (X.2.1 t) s0 ((k : Int).toNat) = (a : Int) := ha; first | (rw [if_pos (by omega), hm]; rfl) | (rw [if_neg (by omega), hm]; rfl)), (hR.fr hA (fun m hm _ => hf m hm)), (fun m hm => hf m (by unfold sc4 scm; omega))⟩ dX8_chance_123
                  · refine lv_lload C.1 C.2.1 dX8_chance_110 (lv_at hl 5 rfl) ?_
                    refine lv_lload C.1 C.2.1 dX8_chance_112 (lv_at hl 6 rfl) ?_
                    refine x_ldiv C (by omega) ⟨by omega, by omega⟩ (by omega) ⟨by omega, by omega⟩ dX8_chance_114 ?_
                    refine lv_goto (tgt := 123) C.1 C.2.1 dX8_chance_115 (by decide) ?_
                    subst hQQ; exact x_lreturn C hr hlk hw hS ⟨(by unfold r_chance; rw [if_pos (by omega)]; show LL _ = LL (if w = 0 then _ else _); have hgx : x = Nat.gcd a k := (by have hy0 : y = 0 := (by omega); subst hy0; rw [Nat.gcd_zero_right] at hg; exact hg); subst hgx; have hm : moreS v n nt (X.2.1 t) s0 ((k : Int).toNat) = (a : Int) := ha; first | (rw [if_pos (by omega), hm]; rfl) | (rw [if_neg (by omega), hm]; rfl)), (hR.fr hA (fun m hm _ => hf m hm)), (fun m hm => hf m (by unfold sc4 scm; omega))⟩ dX8_chance_123
                · have c85 := (not_congr cmpI_eq).mp (by omega)
                  refine lv_lload C.1 C.2.1 dX8_chance_88 (lv_at hl 6 rfl) ?_
                  refine lv_lload C.1 C.2.1 dX8_chance_90 (lv_at hl 7 rfl) ?_
                  refine x_lrem C (by omega) ⟨by omega, by omega⟩ (by omega) ⟨by omega, by omega⟩ dX8_chance_92 ?_
                  refine lv_lstore (lv' := [(11, .long (LL ((x : Int) % (y : Int)))), (0, .ref (gA g 70)), (1, .int (II s0)), (2, .int (II (k : Int))), (3, .int (II w)), (4, .int (II (allS v n nt (X.2.1 t)))), (5, .long (LL (a : Int))), (7, .long (LL (x : Int))), (9, .long (LL (y : Int)))]) C.1 C.2.1 dX8_chance_93 hl (by decide) rfl (fun ls hl => ?_)
                  refine lv_lload C.1 C.2.1 dX8_chance_95 (lv_at hl 8 rfl) ?_
                  refine lv_lstore (lv' := [(7, .long (LL (y : Int))), (11, .long (LL ((x : Int) % (y : Int)))), (0, .ref (gA g 70)), (1, .int (II s0)), (2, .int (II (k : Int))), (3, .int (II w)), (4, .int (II (allS v n nt (X.2.1 t)))), (5, .long (LL (a : Int))), (9, .long (LL (y : Int)))]) C.1 C.2.1 dX8_chance_97 hl (by decide) rfl (fun ls hl => ?_)
                  refine lv_lload C.1 C.2.1 dX8_chance_99 (lv_at hl 1 rfl) ?_
                  refine lv_lstore (lv' := [(9, .long (LL ((x : Int) % (y : Int)))), (7, .long (LL (y : Int))), (11, .long (LL ((x : Int) % (y : Int)))), (0, .ref (gA g 70)), (1, .int (II s0)), (2, .int (II (k : Int))), (3, .int (II w)), (4, .int (II (allS v n nt (X.2.1 t)))), (5, .long (LL (a : Int)))]) C.1 C.2.1 dX8_chance_101 hl (by decide) rfl (fun ls hl => ?_)
                  refine lv_goto (tgt := 81) C.1 C.2.1 dX8_chance_103 (by decide) ?_
                  exact ih81  y (x % y) (by have := Nat.mod_lt x (show 0 < y by omega); omega) (by rw [← hg, Nat.gcd_comm y, ← Nat.gcd_rec, Nat.gcd_comm]) (by have := Nat.mod_lt x (show 0 < y by omega); omega) _ _ _ hw hS (lv_sub hl [3, 4, 5, 6, 7, 8, 1, 0] rfl)
            exact L81 _ a k (Nat.lt_succ_self _) rfl (by omega) _ _ _ hw hS (lv_sub hl [2, 3, 4, 5, 6, 7, 1, 0] rfl)
          · refine lv_lload C.1 C.2.1 dX8_chance_44 (lv_at hl 5 rfl) ?_
            refine lv_aload_n C.1 C.2.1 dX8_chance_46 rfl (lv_at hl 0 rfl) ?_
            refine lv_iload_n C.1 C.2.1 dX8_chance_47 rfl (lv_at hl 1 rfl) ?_
            refine lv_iload C.1 C.2.1 dX8_chance_48 (lv_at hl 6 rfl) ?_
            refine x_iadd C dX8_chance_50 ?_
            refine x_top (b := wr (s0 + (i : Int))) (II_self _).symm ?_
            have ha2 := allS_in (vD v (wr (s0 + (i : Int))) n) n nt (X.2.1 t)
            refine x_ci (x_runV (n := 1) C hw hS hml hl.1 70 8 (by omega) rfl (by decide) rfl (c_X8_draws l g M2 hF n v nt t (X.2.1 t) (hM.of (fun q hq f ps hp => by unfold psP at hp; rw [hf _ (by unfold sc4 scm; omega)]; exact mb_at hM hq (by unfold psP; omega)) (fun m hm => hf m (fun z => hm (Or.inl z))) hM.2.2.1 (fun q hq => (hM.2.1.1 q hq (by omega)).2.2.2.2.2)) (wr (s0 + (i : Int))) (rg_toInt _)) mw_1324 mw_1326 mw_115 mw_130 mw_1327 rfl rfl (by decide +kernel) ⟨Nat.le_of_ble_eq_true rfl, Nat.le_of_ble_eq_true rfl⟩ rfl rfl (Nat.le_of_ble_eq_true rfl) dX8_chance_51 ⟨Nat.zero_le _, Nat.zero_le _⟩) hS (fun r51 M51 H locs hr51 hp hw hS => ?_)
            obtain ⟨er51, h51f⟩ := hp
            have g_M51 := hw.rg
            rw [er51] at hr51 ⊢
            have J64 : ∀ (u : Int), (u = (if (fun i => decide (allS v n nt (X.2.1 t) < allS (vD v (wr (s0 + i)) n) n nt (X.2.1 t))) i = true then 1 else 0)) → (rg u) → ∀ (H : Heap) (locs : List Loc) (ls : Array Slot), Wo g M51 H → va_S (ar g) s.heap H locs → lv_has ls 13 [(0, .ref (gA g 70)), (1, .int (II s0)), (2, .int (II (k : Int))), (3, .int (II w)), (4, .int (II (allS v n nt (X.2.1 t)))), (5, .long (LL (cnt (fun i => decide (allS v n nt (X.2.1 t) < allS (vD v (wr (s0 + i)) n) n nt (X.2.1 t))) i))), (7, .int (II (i : Int)))] → W p l e (rmm 46 1024) s m args below meth c H locs 0 0 QQ (F0 m 64 ls [.long (LL u), .long (LL (cnt (fun i => decide (allS v n nt (X.2.1 t) < allS (vD v (wr (s0 + i)) n) n nt (X.2.1 t))) i))]) := by
              intro u hu hur H locs ls hw hS hl
              refine lv_ladd C.1 C.2.1 dX8_chance_64 ?_
              rw [LL_add]
              refine lv_lstore (lv' := [(5, .long (LL ((cnt (fun i => decide (allS v n nt (X.2.1 t) < allS (vD v (wr (s0 + i)) n) n nt (X.2.1 t))) i) + u))), (0, .ref (gA g 70)), (1, .int (II s0)), (2, .int (II (k : Int))), (3, .int (II w)), (4, .int (II (allS v n nt (X.2.1 t)))), (7, .int (II (i : Int)))]) C.1 C.2.1 dX8_chance_65 hl (by decide) rfl (fun ls hl => ?_)
              refine lv_iinc (v := II ((i : Int) + 1)) (lv' := [(7, .int (II ((i : Int) + 1))), (5, .long (LL ((cnt (fun i => decide (allS v n nt (X.2.1 t) < allS (vD v (wr (s0 + i)) n) n nt (X.2.1 t))) i) + u))), (0, .ref (gA g 70)), (1, .int (II s0)), (2, .int (II (k : Int))), (3, .int (II w)), (4, .int (II (allS v n nt (X.2.1 t))))]) C.1 C.2.1 dX8_chance_67 hl (k := 6) rfl (II_add _ _) (by decide) rfl (fun ls hl => ?_)
              refine lv_goto (tgt := 38) C.1 C.2.1 dX8_chance_70 (by decide) ?_
              have ecn : cnt (fun i => decide (allS v n nt (X.2.1 t) < allS (vD v (wr (s0 + i)) n) n nt (X.2.1 t))) i + u = cnt (fun i => decide (allS v n nt (X.2.1 t) < allS (vD v (wr (s0 + i)) n) n nt (X.2.1 t))) (i + 1) := cnt2 rfl hu
              rw [ecn] at hl
              exact ih38  (i + 1) M51 (by omega) (by omega) (fun m hm => (h51f m hm).trans (hf m hm)) _ _ _ hw hS (lv_sub hl [2, 3, 4, 5, 6, 1, 0] rfl)
            refine lv_iload C.1 C.2.1 dX8_chance_54 (lv_at hl 4 rfl) ?_
            refine x_icmp_le (tgt := 63) C hr51 hr27 dX8_chance_56 (by decide) (fun c56 => ?_) (fun c56 => ?_)
            · refine lv_lconst (v := LL 0) C.1 C.2.1 dX8_chance_63 (by decide) ?_
              exact J64 0 (by first | (rw [if_pos (decide_eq_true (by omega))]; done) | (rw [if_neg (by simp only [decide_eq_true_eq]; omega)]; done)) (⟨by decide, by decide⟩) _ _ _ hw hS (lv_sub hl [0, 1, 2, 3, 4, 5, 6] rfl)
            · refine lv_lconst (v := LL 1) C.1 C.2.1 dX8_chance_59 (by decide) ?_
              refine lv_goto (tgt := 64) C.1 C.2.1 dX8_chance_60 (by decide) ?_
              exact J64 1 (by first | (rw [if_pos (decide_eq_true (by omega))]; done) | (rw [if_neg (by simp only [decide_eq_true_eq]; omega)]; done)) (⟨by decide, by decide⟩) _ _ _ hw hS (lv_sub hl [0, 1, 2, 3, 4, 5, 6] rfl)
      exact L38 _ 0 M27 (Nat.lt_succ_self _) (by omega) (fun m hm => h27f m (fun z => hm (Or.inl z))) _ _ _ hw hS (lv_sub hl [3, 4, 5, 6, 2, 1, 0] rfl)
    · have hw : Wo g M H := em16 ▸ hw
      rw [er16]
      refine x_if_ne (tgt := 26) C ⟨by decide, by decide⟩ dX8_chance_19 (by decide) (fun h => absurd h (by decide)) (fun _ => ?_)
      refine lv_ldc2 C.1 C.2.1 C.2.2.1 (C.2.2.2.1 _ mw_1333) dX8_chance_22 ?_
      subst hQQ; exact x_lreturn C hr hlk hw hS ⟨(by unfold r_chance; rw [if_neg (fun y => by first | exact h16b (by omega) | exact h6b (by omega))]), hR, (fun _ _ => rfl)⟩ dX8_chance_25
  · have hw : Wo g M H := em6 ▸ hw
    rw [er6]
    refine x_if_eq (tgt := 22) C ⟨by decide, by decide⟩ dX8_chance_9 (by decide) (fun _ => ?_) (fun h => absurd h (by decide))
    refine lv_ldc2 C.1 C.2.1 C.2.2.1 (C.2.2.2.1 _ mw_1333) dX8_chance_22 ?_
    subst hQQ; exact x_lreturn C hr hlk hw hS ⟨(by unfold r_chance; rw [if_neg (fun y => by first | exact h16b (by omega) | exact h6b (by omega))]), hR, (fun _ _ => rfl)⟩ dX8_chance_25

set_option maxHeartbeats 4000000 in
set_option maxRecDepth 100000 in
theorem c_X8_text (l : Launch) (g : Gm) (M : Nat → Int) (hF : LvF g) (n : Nat) (v : Nat → Nat → Int) (nt : Int) (pd : Int) (t : Nat) (X : Txt) (I : Option Bor) (Sh : Sht) (hR : RepM M (n, v, nt, pd, t) X I Sh) (hA : InvA (n, v, nt, pd, t) X I Sh) : CI l ({ cls := "RatedBySighsModel", name := "text", desc := "()I" } : Jvm.MethodName) cX8_text 2 .int (rmm 42 930) g M [.ref (gA g 70)] (fun r M' => r = r_text X ∧ (RepM M' (n, v, nt, pd, t) (x_text X) I Sh) ∧ (∀ m, m < 70000 → M' m = M m)) := by
  refine c_start (by decide) (Nat.le_of_ble_eq_true rfl) (fun p e s m below meth c ls C hr hlk hml hw hS hl => ?_)
  have hl : lv_has ls 2 [(0, .ref (gA g 70))] := hl
  generalize ([.ref (gA g 70)] : List Value).toArray = args at C ⊢
  generalize hQQ : MQ below (postI g (fun r M' => r = r_text X ∧ (RepM M' (n, v, nt, pd, t) (x_text X) I Sh) ∧ (∀ m, m < 70000 → M' m = M m))) args s 0 0 (ar g) = QQ
  have g_M := hw.rg
  have hN : gN g = 84 := hF.1
  have hM : MB M n v nt t (X.2.1 t) (-1) := hR.mb hA
  have hn2 : n ≤ 8 := hM.1.2
  have hnt := hM.2.2.2.1.2
  have hpd : 0 ≤ pd ∧ pd ≤ 999999999 := hA.1.2.2.2.2.1
  have htc := hA.2.1
  have hts := hA.2.2.1.1
  have ht9 : t < X.1 := hA.1.2.2.2.2.2
  obtain ⟨tc, htce⟩ : ∃ tc, X.1 = tc := ⟨_, rfl⟩
  have hR1 : M 70003 = (tc : Int) := by rw [← htce]; exact hR.2.1.1
  have htc6 : tc ≤ 6 := by omega
  refine lv_aload_n C.1 C.2.1 dX8_text_0 rfl (lv_at hl 0 rfl) ?_
  refine g8 C hw 70 (by omega) rfl 3 (by decide) mw_827 (svi (x := (tc : Int)) hR1) dX8_text_1 ?_
  refine lv_bipush (v := II 6) C.1 C.2.1 dX8_text_4 (by decide) ?_
  refine x_icmp_ne (tgt := 12) C ⟨by have := g_M 70003; have := hR1; omega, by have := g_M 70003; have := hR1; omega⟩ ⟨by decide, by decide⟩ dX8_text_6 (by decide) (fun c6 => ?_) (fun c6 => ?_)
  · have hx6 : tc < 6 := by omega
    refine lv_iconst (v := II 0) C.1 C.2.1 dX8_text_12 rfl ?_
    refine lv_istore_n (lv' := [(1, .int (II 0)), (0, .ref (gA g 70))]) C.1 C.2.1 dX8_text_13 rfl hl (by decide) rfl (fun ls hl => ?_)
    have L14 : ∀ (f1 : Nat) (j : Nat) (M2 : Nat → Int), (X.2.2.1 - j) < f1 → (j ≤ X.2.2.1) → (∀ x, x < j → M2 (71000 + (160 * tc + x)) = X.2.2.2 x) → (∀ m, ¬ (71000 + 160 * tc ≤ m ∧ m < 71000 + 160 * tc + 160) → M2 m = M m) → ∀ (H : Heap) (locs : List Loc) (ls : Array Slot), Wo g M2 H → va_S (ar g) s.heap H locs → lv_has ls 2 [(0, .ref (gA g 70)), (1, .int (II (j : Int)))] → W p l e (rmm 42 930) s m args below meth c H locs 0 0 QQ (F0 m 14 ls []) := by
      intro f1
      induction f1 with
      | zero => intro j M2 hmu; exact absurd hmu (Nat.not_lt_zero _)
      | succ f1 ih =>
        intro j M2 hmu h1 hc0 hf H locs ls hw hS hl
        have ih14 := ih
        have g_M2 := hw.rg
        refine lv_iload_n C.1 C.2.1 dX8_text_14 rfl (lv_at hl 1 rfl) ?_
        refine lv_aload_n C.1 C.2.1 dX8_text_15 rfl (lv_at hl 0 rfl) ?_
        refine g8 C hw 70 (by omega) rfl 6 (by decide) mw_830 (svi (x := (X.2.2.1 : Int)) ((hf _ (by omega)).trans hR.2.1.2.2.1)) dX8_text_16 ?_
        refine x_icmp_ge (tgt := 49) C ⟨by omega, by omega⟩ ⟨by have := g_M2 70006; have := ((hf _ (by omega)).trans hR.2.1.2.2.1); omega, by have := g_M2 70006; have := ((hf _ (by omega)).trans hR.2.1.2.2.1); omega⟩ dX8_text_19 (by decide) (fun c19 => ?_) (fun c19 => ?_)
        · refine lv_aload_n C.1 C.2.1 dX8_text_49 rfl (lv_at hl 0 rfl) ?_
          refine g8 C hw 70 (by omega) rfl 2 (by decide) mw_826 (svr (hF.2 _)) dX8_text_50 ?_
          refine lv_aload_n C.1 C.2.1 dX8_text_53 rfl (lv_at hl 0 rfl) ?_
          refine g8 C hw 70 (by omega) rfl 3 (by decide) mw_827 (svi (x := (tc : Int)) ((hf _ (by omega)).trans hR1)) dX8_text_54 ?_
          refine lv_aload_n C.1 C.2.1 dX8_text_57 rfl (lv_at hl 0 rfl) ?_
          refine g8 C hw 70 (by omega) rfl 6 (by decide) mw_830 (svi (x := (X.2.2.1 : Int)) ((hf _ (by omega)).trans hR.2.1.2.2.1)) dX8_text_58 ?_
          refine x_iastore (L := 6) C hw hS 72 (by omega) rfl rfl (by omega) (by omega) (by decide) (x := (X.2.2.1 : Int)) ⟨by have := g_M2 70006; have := ((hf _ (by omega)).trans hR.2.1.2.2.1); omega, by have := g_M2 70006; have := ((hf _ (by omega)).trans hR.2.1.2.2.1); omega⟩ dX8_text_61 (fun H locs hw hS => ?_)
          have hw : Wo g (stM M2 (72000 + tc) (X.2.2.1 : Int)) H := hw
          refine lv_aload_n C.1 C.2.1 dX8_text_62 rfl (lv_at hl 0 rfl) ?_
          refine lv_iconst (v := II 0) C.1 C.2.1 dX8_text_63 rfl ?_
          refine p8 C hw hS 70 (by omega) rfl 6 (by decide) mw_830 rfl (x := 0) ⟨by decide, by decide⟩ (svi st_s) (tyX8_ok 6 (by decide)) rfl rfl dX8_text_64 (fun H locs hw hS => ?_)
          have hw : Wo g (stM (stM M2 (72000 + tc) (X.2.2.1 : Int)) 70006 0) H := hw
          refine lv_aload_n C.1 C.2.1 dX8_text_67 rfl (lv_at hl 0 rfl) ?_
          refine lv_aload_n C.1 C.2.1 dX8_text_68 rfl (lv_at hl 0 rfl) ?_
          refine g8 C hw 70 (by omega) rfl 3 (by decide) mw_827 (svi (x := (tc : Int)) ((st_n (by decide)).trans ((st_n (by omega)).trans ((hf _ (by omega)).trans hR1)))) dX8_text_69 ?_
          refine lv_iconst (v := II 0) C.1 C.2.1 dX8_text_72 rfl ?_
          have hTB : TxB (stM (stM M2 (72000 + tc) (X.2.2.1 : Int)) 70006 0) tc X.2.2.2 X.2.2.1 :=
            ⟨hx6, hts, (st_n (by omega)).trans st_s, fun i hi => ⟨by rw [st_n (by omega), st_n (by omega)]; exact hc0 i (by omega), hA.2.2.1.2 i hi⟩⟩
          refine x_ci (x_runV (n := 2) C hw hS hml hl.1 70 8 (by omega) rfl (by decide) rfl (c_X8_read l g (stM (stM M2 (72000 + tc) (X.2.2.1 : Int)) 70006 0) hF (fun k => stM (stM M2 (72000 + tc) (X.2.2.1 : Int)) 70006 0 (70012 + k)) (fun _ _ => rfl) tc X.2.2.2 X.2.2.1 hTB 0 ⟨by decide, by decide⟩) mw_999 mw_1001 mw_59 mw_130 mw_1002 rfl rfl (by decide +kernel) ⟨Nat.le_of_ble_eq_true rfl, Nat.le_of_ble_eq_true rfl⟩ rfl rfl (Nat.le_of_ble_eq_true rfl) dX8_text_73 ⟨Nat.zero_le _, Nat.zero_le _⟩) hS (fun r73 M73 H locs hr73 hp hw hS => ?_)
          rcases hp with ⟨h73f, (h73b | h73b)⟩
          · have g_M73 := hw.rg
            obtain ⟨d0, d1, d2, etx, hbd, -⟩ := h73b
            refine lv_istore_n (lv' := [(1, .int (II r73)), (0, .ref (gA g 70))]) C.1 C.2.1 dX8_text_76 rfl hl (by decide) rfl (fun ls hl => ?_)
            refine lv_aload_n C.1 C.2.1 dX8_text_77 rfl (lv_at hl 1 rfl) ?_
            refine g8 C hw 70 (by omega) rfl 25 (by decide) mw_849 (svi (x := 0) hbd) dX8_text_78 ?_
            refine x_if_eq (tgt := 92) C ⟨by decide, by decide⟩ dX8_text_81 (by decide) (fun _ => ?_) (fun h => absurd h (by decide))
            refine lv_aload_n C.1 C.2.1 dX8_text_92 rfl (lv_at hl 1 rfl) ?_
            refine lv_dup C.1 C.2.1 dX8_text_93 rfl ?_
            refine g8 C hw 70 (by omega) rfl 3 (by decide) mw_827 (svi (x := (tc : Int)) ((h73f _ (by omega)).trans ((st_n (by omega)).trans ((st_n (by omega)).trans ((hf _ (by omega)).trans hR1))))) dX8_text_94 ?_
            refine lv_iconst (v := II 1) C.1 C.2.1 dX8_text_97 rfl ?_
            refine x_iadd C dX8_text_98 ?_
            refine p8 C hw hS 70 (by omega) rfl 3 (by decide) mw_827 rfl (x := (tc : Int) + 1) ⟨by have := g_M73 70003; have := ((h73f _ (by omega)).trans ((st_n (by omega)).trans ((st_n (by omega)).trans ((hf _ (by omega)).trans hR1)))); omega, by have := g_M73 70003; have := ((h73f _ (by omega)).trans ((st_n (by omega)).trans ((st_n (by omega)).trans ((hf _ (by omega)).trans hR1)))); omega⟩ (svi st_s) (tyX8_ok 3 (by decide)) rfl rfl dX8_text_99 (fun H locs hw hS => ?_)
            have hw : Wo g (stM M73 70003 ((tc : Int) + 1)) H := hw
            refine lv_aload_n C.1 C.2.1 dX8_text_102 rfl (lv_at hl 1 rfl) ?_
            refine g8 C hw 70 (by omega) rfl 3 (by decide) mw_827 (svi (x := (tc : Int) + 1) st_s) dX8_text_103 ?_
            refine lv_iconst (v := II 1) C.1 C.2.1 dX8_text_106 rfl ?_
            refine x_isub C dX8_text_107 ?_
            subst hQQ; exact x_ireturn C hr hlk hw hS ⟨by omega, by omega⟩ rfl (by
    subst htce
    have ej : j = X.2.2.1 := by omega
    have hfr : ∀ m, ¬ ((70018 ≤ m ∧ m ≤ 70026) ∨ m = 70006 ∨ m = 72000 + X.1 ∨ (71000 + 160 * X.1 ≤ m ∧ m < 71000 + 160 * X.1 + 160)) → M73 m = M m := fun m hm => by
      rw [h73f m (by omega), st_n (by omega), st_n (by omega)]; exact hf m (by omega)
    have e1 : r_text X = (X.1 : Int) := by unfold r_text; rw [if_neg (by omega), etx]
    have e2 : x_text X = (X.1 + 1, fun t => if t = X.1 then evC d0 d1 d2 else X.2.1 t, 0, X.2.2.2) := by unfold x_text; rw [if_neg (by omega), etx]
    rw [e1, e2]
    refine ⟨by omega, hR.x2 hA ⟨st_s, fun t ht => ?_, ?_, fun i hi => absurd hi (Nat.not_lt_zero _)⟩ (fun m hm => ?_), fun m hm => ?_⟩
    · have ht9 : t < X.1 + 1 := ht
      show TxM _ t (if t = X.1 then evC d0 d1 d2 else X.2.1 t)
      by_cases e : t = X.1
      · rw [if_pos e, e]
        refine ⟨X.2.2.2, X.2.2.1, d0, d1, d2, ?_, etx, rfl⟩
        exact hTB.fr (fun m hm => by rw [st_n (by omega), h73f m (by omega)])
      · rw [if_neg e]
        exact (hR.2.1.2.1 t (by omega)).fr (fun m hm => by rw [st_n (by omega)]; exact hfr m (by omega))
    · rw [st_n (by omega), h73f _ (by omega), st_s]; rfl
    · rw [st_n (fun z => hm (by omega))]; exact hfr m (fun z => hm (by unfold sc4 scm; omega))
    · rw [st_n (by omega)]; exact hfr m (by omega)) dX8_text_108
          · have g_M73 := hw.rg
            obtain ⟨q2, etx, hbd, hq2⟩ := h73b
            have hq9 := tx_le etx
            refine lv_istore_n (lv' := [(1, .int (II r73)), (0, .ref (gA g 70))]) C.1 C.2.1 dX8_text_76 rfl hl (by decide) rfl (fun ls hl => ?_)
            refine lv_aload_n C.1 C.2.1 dX8_text_77 rfl (lv_at hl 1 rfl) ?_
            refine g8 C hw 70 (by omega) rfl 25 (by decide) mw_849 (svi (x := 1) hbd) dX8_text_78 ?_
            refine x_if_eq (tgt := 92) C ⟨by decide, by decide⟩ dX8_text_81 (by decide) (fun h => absurd h (by decide)) (fun _ => ?_)
            refine lv_bipush (v := II (-100)) C.1 C.2.1 dX8_text_84 (by decide) ?_
            refine lv_aload_n C.1 C.2.1 dX8_text_86 rfl (lv_at hl 1 rfl) ?_
            refine g8 C hw 70 (by omega) rfl 26 (by decide) mw_850 (svi (x := (q2 : Int)) hq2) dX8_text_87 ?_
            refine x_isub C dX8_text_90 ?_
            subst hQQ; exact x_ireturn C hr hlk hw hS ⟨by have := g_M73 70026; have := hq2; omega, by have := g_M73 70026; have := hq2; omega⟩ rfl (by
    subst htce
    have ej : j = X.2.2.1 := by omega
    have hfr : ∀ m, ¬ ((70018 ≤ m ∧ m ≤ 70026) ∨ m = 70006 ∨ m = 72000 + X.1 ∨ (71000 + 160 * X.1 ≤ m ∧ m < 71000 + 160 * X.1 + 160)) → M73 m = M m := fun m hm => by
      rw [h73f m (by omega), st_n (by omega), st_n (by omega)]; exact hf m (by omega)
    have e1 : r_text X = -100 - (q2 : Int) := by unfold r_text; rw [if_neg (by omega), etx]
    have e2 : x_text X = (X.1, X.2.1, 0, X.2.2.2) := by unfold x_text; rw [if_neg (by omega), etx]
    rw [e1, e2]
    refine ⟨rfl, hR.x2 hA ⟨(hfr _ (by omega)).trans hR.2.1.1, fun t ht => ?_, ?_, fun i hi => absurd hi (Nat.not_lt_zero _)⟩ (fun m hm => ?_), fun m hm => hfr m (by omega)⟩
    · have ht9 : t < X.1 := ht
      exact (hR.2.1.2.1 t ht9).fr (fun m hm => hfr m (by omega))
    · rw [h73f _ (by omega), st_s]; rfl
    · exact hfr m (fun z => hm (by unfold sc4 scm; omega))) dX8_text_91
        · refine lv_aload_n C.1 C.2.1 dX8_text_22 rfl (lv_at hl 0 rfl) ?_
          refine g8 C hw 70 (by omega) rfl 1 (by decide) mw_825 (svr (hF.2 _)) dX8_text_23 ?_
          refine lv_sipush (v := II 160) C.1 C.2.1 dX8_text_26 (by decide) ?_
          refine lv_aload_n C.1 C.2.1 dX8_text_29 rfl (lv_at hl 0 rfl) ?_
          refine g8 C hw 70 (by omega) rfl 3 (by decide) mw_827 (svi (x := (tc : Int)) ((hf _ (by omega)).trans hR1)) dX8_text_30 ?_
          refine x_imul C dX8_text_33 ?_
          refine lv_iload_n C.1 C.2.1 dX8_text_34 rfl (lv_at hl 1 rfl) ?_
          refine x_iadd C dX8_text_35 ?_
          refine lv_aload_n C.1 C.2.1 dX8_text_36 rfl (lv_at hl 0 rfl) ?_
          refine g8 C hw 70 (by omega) rfl 5 (by decide) mw_829 (svr (hF.2 _)) dX8_text_37 ?_
          refine lv_iload_n C.1 C.2.1 dX8_text_40 rfl (lv_at hl 1 rfl) ?_
          have hbj := hA.2.2.1.2 j (by omega)
          refine x_iaload (L := 160) C hw 73 (by omega) rfl rfl (by omega) (by omega) (by decide) (x := X.2.2.2 j) ((hf _ (by omega)).trans (hR.2.1.2.2.2 j (by omega))) dX8_text_41 ?_
          refine x_iastore (L := 960) C hw hS 71 (by omega) rfl rfl (by omega) (by omega) (by decide) (x := X.2.2.2 j) ⟨by have := g_M2 (73000 + j); have := ((hf _ (by omega)).trans (hR.2.1.2.2.2 j (by omega))); omega, by have := g_M2 (73000 + j); have := ((hf _ (by omega)).trans (hR.2.1.2.2.2 j (by omega))); omega⟩ dX8_text_42 (fun H locs hw hS => ?_)
          have hw : Wo g (stM M2 (71000 + ((160 * tc) + j)) (X.2.2.2 j)) H := by rw [show 1000 * 71 + ((160 * (tc : Int)) + (j : Int)).toNat = 71000 + ((160 * tc) + j) from by omega] at hw; exact hw
          refine lv_iinc (v := II ((j : Int) + 1)) (lv' := [(1, .int (II ((j : Int) + 1))), (0, .ref (gA g 70))]) C.1 C.2.1 dX8_text_43 hl (k := 1) rfl (II_add _ _) (by decide) rfl (fun ls hl => ?_)
          refine lv_goto (tgt := 14) C.1 C.2.1 dX8_text_46 (by decide) ?_
          exact ih14  (j + 1) (stM M2 (71000 + ((160 * tc) + j)) (X.2.2.2 j)) (by omega) (by omega) (fun x hx => by by_cases e : x = j <;> first | (rw [e, st_s]; done) | (rw [st_n (by omega)]; exact hc0 x (by omega))) (fun m hm => by rw [st_n (by omega)]; exact hf m hm) _ _ _ hw hS (lv_sub hl [1, 0] rfl)
    exact L14 _ 0 M (Nat.lt_succ_self _) (by omega) (fun _ h => absurd h (Nat.not_lt_zero _)) (fun _ _ => rfl) _ _ _ hw hS (lv_sub hl [1, 0] rfl)
  · refine lv_bipush (v := II (-4)) C.1 C.2.1 dX8_text_9 (by decide) ?_
    subst hQQ; exact x_ireturn C hr hlk hw hS ⟨by decide, by decide⟩ rfl (by subst htce; unfold r_text x_text; rw [if_pos (by omega), if_pos (by omega)]; exact ⟨rfl, hR, fun _ _ => rfl⟩) dX8_text_11
