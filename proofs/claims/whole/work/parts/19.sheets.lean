theorem cellE_c {ca : Nat → ClassId} {R : Nat → Option Nat} {M M' : Nat → Int} {k : Nat} (h : ∀ j, j < 1000 → M' (1000 * k + j) = M (1000 * k + j)) : cellE ca R M' k = cellE ca R M k := by
  unfold cellE
  have e1 : ∀ ci, objs R M' ci k = objs R M ci k := by
    intro ci
    unfold objs
    apply List.map_congr_left
    intro j hj
    have hj := List.mem_range.mp hj
    have := tg_le ci
    unfold sv
    split <;> simp [h j (by omega)]
  have e2 : arI M' k = arI M k := by
    funext j
    unfold arI
    by_cases hj : j < 1000
    · rw [if_pos hj, if_pos hj, h j hj]
    · rw [if_neg hj, if_neg hj]
  rw [e1, e2]
theorem wsl_c {g : Gm} {M M' : Nat → Int} {k : Nat} {q : Nat × va_E} (h : k < gN g) (hf : ∀ m, m / 1000 ≠ k → M' m = M m) (hq : q = (gA g k, cellE (gC g) (gR g) M' k)) : (wsl g M).set k q = wsl g M' := by
  apply List.ext_getElem?
  intro i
  by_cases hi : i < gN g
  · by_cases e : i = k
    · subst e
      rw [List.getElem?_set_self (by simpa [wsl] using hi), wsl_get hi, hq]
    · rw [List.getElem?_set_ne (Ne.symm e), wsl_get hi, wsl_get hi, cellE_c (fun j hj => hf _ (by omega))]
  · rw [List.getElem?_eq_none (by simpa [wsl] using hi), List.getElem?_eq_none (by simpa [wsl] using hi)]
/-- n numbers from place a on come to place b on -/
def cpM (M : Nat → Int) (a b n : Nat) : Nat → Int := fun m => if b ≤ m ∧ m < b + n then M (a + (m - b)) else M m
section PZ
variable {p : Program} {l : Launch} {e : Env} {Rm : Room} {s : State} {m : MethodId} {args : Array Value} {below : List Frame} {meth : Method} {c : Code} {H : Heap} {locs : List Loc} {cells slots : Nat} {Q : State → Prop}
variable {cc : ByteArray} {own : String} {pc : Nat} {ls : Array Slot} {rest : List Value} {g : Gm} {M : Nat → Int}
theorem x_acopy {idx L0 L1 : Nat} (C : Cx g p c m s args cc own) (hw : Wo g M H) (hS : va_S (ar g) s.heap H locs) (hml : c.maxLocals = ls.size) (k0 : Nat) (hk0 : k0 < gN g) (hd0 : kd k0 = 9) (hl0 : ln k0 = L0) (k1 : Nat) (hk1 : k1 < gN g) (hd1 : kd k1 = 9) (hl1 : ln k1 = L1) (sp dp n : Nat) (h4 : sp + n ≤ L0) (h5 : dp + n ≤ L1) (hL0 : L0 < 1000) (hL1 : L1 < 1000)
    (hlink : Cond.methodLink own idx arraycopyName ∈ tT) (hnat : Cond.native arraycopyName ∈ tT) (hstat : Cond.static arraycopyName ∈ tT) (hini : Cond.initialized "java/lang/System" ∈ tT) (hf : 1 ≤ Rm.frames) (hlo : (rest.map fun v => v.category).sum + (nativeFrameWords "java/lang/System" "arraycopy" 5 + 11) ≤ Rm.locals) (hdg : decode cc pc = .ok (.invokestatic idx, 3))
    (kk : ∀ (H1 : Heap) (locs1 : List Loc), Wo g (cpM M (1000 * k0 + sp) (1000 * k1 + dp) n) H1 → va_S (ar g) s.heap H1 locs1 → W p l e Rm s m args below meth c H1 locs1 cells slots Q (F0 m (pc + 3) ls rest)) : W p l e Rm s m args below meth c H locs cells slots Q (F0 m pc ls (.int (II (n : Int)) :: .int (II (dp : Int)) :: .ref (gA g k1) :: .int (II (sp : Int)) :: .ref (gA g k0) :: rest)) := by
  have c1 : (II (sp : Int)).toNatClampNeg = sp := (II_cl ⟨by omega, by omega⟩).trans (by omega)
  have c2 : (II (dp : Int)).toNatClampNeg = dp := (II_cl ⟨by omega, by omega⟩).trans (by omega)
  have c3 : (II (n : Int)).toNatClampNeg = n := (II_cl ⟨by omega, by omega⟩).trans (by omega)
  have n1 : ∀ z : Nat, z < 1000 → ¬ II (z : Int) < 0 := fun z hz q => by have := (II_lt (a := (z : Int)) ⟨by omega, by omega⟩ rg0).mp q; omega
  refine va_copyi C.1 C.2.1 hml C.2.2.1 (C.2.2.2.1 _ hlink) (C.2.2.2.1 _ hnat) (C.2.2.2.1 _ hstat) (C.2.2.2.1 _ hini) C.2.2.2.2.1 hw.1 hw.2.1 hS k0 k1 0 0 (wsl_ai hk0 hd0 (by decide) (by decide)) (wsl_ai hk1 hd1 (by decide) (by decide)) rfl rfl rfl (n1 sp (by omega)) (n1 dp (by omega)) (n1 n (by omega)) (by rw [c1, c3, hl0]; exact h4) (by rw [c2, c3, hl1]; exact h5) (fun i _ => rfl) hf hlo hdg (fun H1 locs1 hP hD hS => ?_)
  rw [c1, c2, c3] at hP hD
  have e : (wsl g M).set k1 (gA g k1, .inl (gC g 9, ln k1, .inl (va_cpy (arI M k0) (arI M k1) sp dp n))) = wsl g (cpM M (1000 * k0 + sp) (1000 * k1 + dp) n) := by
    refine wsl_c hk1 (fun m hm => by unfold cpM; rw [if_neg (by omega)]) ?_
    have e2 : va_cpy (arI M k0) (arI M k1) sp dp n = arI (cpM M (1000 * k0 + sp) (1000 * k1 + dp) n) k1 := by
      funext j
      unfold va_cpy arI cpM
      by_cases hj : j < 1000
      · by_cases h : dp ≤ j ∧ j < dp + n
        · rw [if_pos h, if_pos (by omega), if_pos hj, if_pos (by omega)]
          congr 2
          omega
        · rw [if_neg h, if_pos hj, if_pos hj, if_neg (by omega)]
      · rw [if_neg (by omega), if_neg hj, if_neg hj]
    rw [e2]
    unfold cellE
    rw [hd1, if_neg (by decide), if_pos (by decide)]
  rw [e] at hP hD
  exact kk H1 locs1 ⟨hP, hD, fun k => by unfold cpM; split <;> exact hw.2.2 _⟩ hS
end PZ
def up1 (f : Nat → Int) (i : Nat) (x : Int) : Nat → Int := fun j => if j = i then x else f j
def upr (f : Nat → Nat → Int) (i : Nat) (x : Nat → Int) : Nat → Nat → Int := fun j => if j = i then x else f j
def okSh (s so n : Int) : Bool := decide ((0 ≤ s ∧ s < 4) ∧ (so = -1 ∨ ((0 ≤ so ∧ so ≤ 2) ∧ n ≤ 40)))
def r_sheet (s so n : Int) : Int := if okSh s so n then (if so = -1 ∨ 0 ≤ n then 1 else -14) else -2
def s_row (Sh : Sht) (i : Nat) (so n : Int) (f : Nat → Int) : Sht := (up1 Sh.1 i so, up1 Sh.2.1 i n, upr Sh.2.2 i f)
def s_sheet (Sh : Sht) (s so n : Int) : Sht := if okSh s so n && decide (so = -1 ∨ 0 ≤ n) then s_row Sh s.toNat so (if so = -1 then 0 else n) (fun _ => 0) else Sh
def r_cell (Sh : Sht) (s i : Int) : Int := if ¬ (0 ≤ s ∧ s < 4) then -2 else if Sh.1 s.toNat = -1 then -11 else if 0 ≤ i ∧ i < Sh.2.1 s.toNat then 1 else -12
def s_cell (Sh : Sht) (s i x : Int) : Sht := if r_cell Sh s i = 1 then (Sh.1, Sh.2.1, upr Sh.2.2 s.toNat (up1 (Sh.2.2 s.toNat) i.toNat (putV (Sh.1 s.toNat) x))) else Sh
def r_copy (Sh : Sht) (s i o j n : Int) : Int := if ¬ ((0 ≤ s ∧ s < 4) ∧ (0 ≤ o ∧ o < 4)) then -2 else if Sh.1 s.toNat = -1 ∨ Sh.1 o.toNat = -1 then -11 else if Sh.1 s.toNat ≠ Sh.1 o.toNat then -13 else if (0 ≤ n ∧ 0 ≤ i ∧ i + n ≤ Sh.2.1 s.toNat) ∧ (0 ≤ j ∧ j + n ≤ Sh.2.1 o.toNat) then n else -12
def s_copy (Sh : Sht) (s i o j n : Int) : Sht := if 0 ≤ r_copy Sh s i o j n then (Sh.1, Sh.2.1, upr Sh.2.2 o.toNat (fun k => if j.toNat ≤ k ∧ k < j.toNat + n.toNat then Sh.2.2 s.toNat (i.toNat + (k - j.toNat)) else Sh.2.2 o.toNat k)) else Sh
def r_film (s ho : Int) : Int := if (0 ≤ s ∧ s < 4) ∧ (0 ≤ ho ∧ ho ≤ 4) then 6 else -2
def s_film (Sh : Sht) (v : Nat → Nat → Int) (n : Nat) (nt : Int) (E : Ev) (s ho : Int) : Sht := if (0 ≤ s ∧ s < 4) ∧ (0 ≤ ho ∧ ho ≤ 4) then s_row Sh s.toNat 2 6 (fun k => reedS v n nt E ho k) else Sh
theorem RepC.s4 {M M' : Nat → Int} {b : Bor} {X : Txt} {I : Option Bor} {Sh Sh' : Sht} (h : RepC M b X I Sh) (hA : InvA b X I Sh) (hs : ShtC M' Sh') (hf : ∀ m, ¬ (sc3 m ∨ (62 ≤ m / 1000 ∧ m / 1000 ≤ 69)) → M' m = M m) : RepC M' b X I Sh' :=
  ⟨h.1.fr hA.1.1 (fun m hm => hf m (by unfold sc3 scr; omega)), h.2.1.fr ⟨hA.2.1.2, hA.2.2.1.1⟩ (fun m hm => hf m (by unfold sc3 scr; omega)), h.2.2.1.fr hA.im (fun m hm => hf m (by unfold sc3 scr; omega)), hs⟩
theorem shtR {M M' : Nat → Int} {Sh : Sht} {i : Nat} {so n : Int} {f : Nat → Int} (h : ShtC M Sh) (hz : ∀ i, i < 4 → Sh.2.1 i ≤ 40) (hi : i < 4) (h1 : M' (1000 * (62 + 2 * i) + 1) = so) (h2 : M' (1000 * (62 + 2 * i) + 2) = n) (h3 : ∀ j : Nat, (j : Int) < n → M' (1000 * (63 + 2 * i) + j) = f j) (hf : ∀ m, ¬ (m / 1000 = 62 + 2 * i ∨ m / 1000 = 63 + 2 * i) → (62 ≤ m / 1000 ∧ m / 1000 ≤ 69) → M' m = M m) : ShtC M' (s_row Sh i so n f) := by
  intro k hk
  have := hz k hk
  unfold s_row up1 upr
  by_cases e : k = i
  · subst e
    dsimp only
    rw [if_pos rfl, if_pos rfl, if_pos rfl]
    exact ⟨h1, h2, h3⟩
  · dsimp only
    rw [if_neg e, if_neg e, if_neg e]
    exact ⟨(hf _ (by omega) (by omega)).trans (h k hk).1, (hf _ (by omega) (by omega)).trans (h k hk).2.1, fun j hj => (hf _ (by omega) (by omega)).trans ((h k hk).2.2 j hj)⟩
theorem s_row_id {Sh : Sht} {i : Nat} {f : Nat → Int} : s_row Sh i (Sh.1 i) (Sh.2.1 i) f = (Sh.1, Sh.2.1, upr Sh.2.2 i f) := by
  have e : ∀ g : Nat → Int, up1 g i (g i) = g := fun g => by
    funext j
    unfold up1
    split
    · next h => rw [h]
    · rfl
  unfold s_row
  rw [e, e]
set_option maxHeartbeats 4000000 in
set_option maxRecDepth 100000 in
theorem c_X7_sheet (l : Launch) (g : Gm) (M : Nat → Int) (hF : LvF g) (n : Nat) (v : Nat → Nat → Int) (nt : Int) (pd : Int) (t : Nat) (X : Txt) (I : Option Bor) (Sh : Sht) (hR : RepC M (n, v, nt, pd, t) X I Sh) (hA : InvA (n, v, nt, pd, t) X I Sh) (s0 : Int) (gz_s0 : rg s0) (so : Int) (gz_so : rg so) (z : Int) (gz_z : rg z) : CI l ({ cls := "RatedBySighs", name := "sheet", desc := "(III)I" } : Jvm.MethodName) cX7_sheet 4 .int (rmm 1 23) g M [.ref (gA g 0), .int (II s0), .int (II so), .int (II z)] (fun r M' => r = r_sheet s0 so z ∧ (RepC M' (n, v, nt, pd, t) X I (s_sheet Sh s0 so z)) ∧ (∀ m, 70000 ≤ m → M' m = M m)) := by
  refine c_start (by decide) (Nat.le_of_ble_eq_true rfl) (fun p e s m below meth c ls C hr hlk hml hw hS hl => ?_)
  have hl : lv_has ls 4 [(0, .ref (gA g 0)), (1, .int (II s0)), (2, .int (II so)), (3, .int (II z))] := hl
  have g_M := hw.rg
  have hN : gN g = 84 := hF.1
  have hB : BV M n v nt t (X.2.1 t) := hR.bv hA
  have hn2 : n ≤ 8 := hB.1.2
  have hnt := hB.2.2.2.1.2
  have hpd : 0 ≤ pd ∧ pd ≤ 999999999 := hA.1.2.2.2.2.1
  refine lv_iload_n C.1 C.2.1 dX7_sheet_0 rfl (lv_at hl 1 rfl) ?_
  refine x_ci (x_runS (n := 1) C hw hS hml hl.1 (c_X7_isSheet l g M s0 gz_s0) mw_697 mw_698 mw_117 mw_699 rfl rfl (by decide +kernel) ⟨Nat.le_of_ble_eq_true rfl, Nat.le_of_ble_eq_true rfl⟩ rfl rfl (Nat.le_of_ble_eq_true rfl) dX7_sheet_1 ⟨Nat.zero_le _, Nat.zero_le _⟩) hS (fun r1 M1 H locs hr1 hp hw hS => ?_)
  rcases hp with ⟨em1, (⟨er1, h1b⟩ | ⟨er1, h1b⟩)⟩
  · have hw : Wo g M H := em1 ▸ hw
    rw [er1]
    refine x_if_eq (tgt := 19) C ⟨by decide, by decide⟩ dX7_sheet_4 (by decide) (fun h => absurd h (by decide)) (fun _ => ?_)
    refine lv_iload_n C.1 C.2.1 dX7_sheet_7 rfl (lv_at hl 2 rfl) ?_
    refine lv_iconst (v := II (-1)) C.1 C.2.1 dX7_sheet_8 rfl ?_
    refine x_icmp_eq (tgt := 22) C gz_so ⟨by decide, by decide⟩ dX7_sheet_9 (by decide) (fun c9 => ?_) (fun c9 => ?_)
    · refine lv_iload_n C.1 C.2.1 dX7_sheet_22 rfl (lv_at hl 2 rfl) ?_
      refine lv_iconst (v := II (-1)) C.1 C.2.1 dX7_sheet_23 rfl ?_
      refine x_icmp_ne (tgt := 40) C gz_so ⟨by decide, by decide⟩ dX7_sheet_24 (by decide) (fun c24 => ?_) (fun c24 => ?_)
      · refine lv_iload_n C.1 C.2.1 dX7_sheet_40 rfl (lv_at hl 3 rfl) ?_
        refine lv_bipush (v := II 40) C.1 C.2.1 dX7_sheet_41 (by decide) ?_
        refine x_icmp_le (tgt := 49) C gz_z ⟨by decide, by decide⟩ dX7_sheet_43 (by decide) (fun c43 => ?_) (fun c43 => ?_)
        · refine lv_iload_n C.1 C.2.1 dX7_sheet_49 rfl (lv_at hl 3 rfl) ?_
          refine x_if_ge (tgt := 56) C gz_z dX7_sheet_50 (by decide) (fun c50 => ?_) (fun c50 => ?_)
          · obtain ⟨i, rfl⟩ : ∃ i : Nat, s0 = (i : Int) := ⟨s0.toNat, by omega⟩
            refine lv_aload_n C.1 C.2.1 dX7_sheet_56 rfl (lv_at hl 0 rfl) ?_
            refine g7 C hw 0 (by omega) rfl 7 (by decide) mw_487 (svr (hF.2 _)) dX7_sheet_57 ?_
            refine lv_iload_n C.1 C.2.1 dX7_sheet_60 rfl (lv_at hl 1 rfl) ?_
            refine x_aaload (L := 4) C hw 60 (by omega) 12 rfl (by decide) rfl (by omega) (by omega) (by decide) (rH hF i (by omega)) dX7_sheet_61 ?_
            refine lv_iload_n C.1 C.2.1 dX7_sheet_62 rfl (lv_at hl 2 rfl) ?_
            refine lv_iload_n C.1 C.2.1 dX7_sheet_63 rfl (lv_at hl 3 rfl) ?_
            refine x_cv (x_runVN (n := 2) C hw hS hml hl.1 (62 + 2 * i) 5 (by omega) (kd_h (by omega)) (by decide) rfl (c_X5_becomeRow l g M hF i (by omega) so gz_so z gz_z) mn_732 mw_734 mw_45 mw_124 mw_735 rfl rfl (by decide +kernel) ⟨Nat.le_of_ble_eq_true rfl, Nat.le_of_ble_eq_true rfl⟩ rfl rfl (Nat.le_of_ble_eq_true rfl) dX7_sheet_64 ⟨Nat.zero_le _, Nat.zero_le _⟩) hS (fun M64 H locs hp hw hS => ?_)
            obtain ⟨h64a, h64b, h64f⟩ := hp
            have g_M64 := hw.rg
            refine lv_iconst (v := II 1) C.1 C.2.1 dX7_sheet_67 rfl ?_
            exact x_ireturn C hr hlk hw hS ⟨by decide, by decide⟩ rfl (by
    have e : okSh (i : Int) so z = true := decide_eq_true (by omega)
    have e2 : decide (so = -1 ∨ 0 ≤ z) = true := decide_eq_true (by omega)
    unfold r_sheet s_sheet
    rw [e, e2, if_pos rfl, if_pos (by omega)]
    refine ⟨rfl, hR.s4 hA (shtR hR.2.2.2 hA.sz (by show i < 4; omega) (h64a.1.trans rfl) (h64a.2.trans (by rw [if_neg (by omega)])) (fun j hj => h64b j (by rw [if_neg (by omega)] at hj; omega)) (fun m hm _ => h64f m hm)) (fun m hm => h64f m (fun z => hm (Or.inr (by omega)))), fun m hm => h64f m (by omega)⟩) dX7_sheet_68
          · refine lv_bipush (v := II (-14)) C.1 C.2.1 dX7_sheet_53 (by decide) ?_
            exact x_ireturn C hr hlk hw hS ⟨by decide, by decide⟩ rfl (by have e : okSh s0 so z = true := decide_eq_true (by omega); have e2 : decide (so = -1 ∨ 0 ≤ z) = false := decide_eq_false (by omega); unfold r_sheet s_sheet; rw [e, e2, if_pos rfl, if_neg (by omega)]; exact ⟨rfl, hR, fun _ _ => rfl⟩) dX7_sheet_55
        · refine lv_bipush (v := II (-2)) C.1 C.2.1 dX7_sheet_46 (by decide) ?_
          exact x_ireturn C hr hlk hw hS ⟨by decide, by decide⟩ rfl (by have e : okSh s0 so z = false := decide_eq_false (by omega); unfold r_sheet s_sheet; rw [e]; exact ⟨rfl, hR, fun _ _ => rfl⟩) dX7_sheet_48
      · obtain ⟨i, rfl⟩ : ∃ i : Nat, s0 = (i : Int) := ⟨s0.toNat, by omega⟩
        refine lv_aload_n C.1 C.2.1 dX7_sheet_27 rfl (lv_at hl 0 rfl) ?_
        refine g7 C hw 0 (by omega) rfl 7 (by decide) mw_487 (svr (hF.2 _)) dX7_sheet_28 ?_
        refine lv_iload_n C.1 C.2.1 dX7_sheet_31 rfl (lv_at hl 1 rfl) ?_
        refine x_aaload (L := 4) C hw 60 (by omega) 12 rfl (by decide) rfl (by omega) (by omega) (by decide) (rH hF i (by omega)) dX7_sheet_32 ?_
        refine lv_iconst (v := II (-1)) C.1 C.2.1 dX7_sheet_33 rfl ?_
        refine lv_iconst (v := II 0) C.1 C.2.1 dX7_sheet_34 rfl ?_
        refine x_cv (x_runVN (n := 2) C hw hS hml hl.1 (62 + 2 * i) 5 (by omega) (kd_h (by omega)) (by decide) rfl (c_X5_becomeRow l g M hF i (by omega) (-1) ⟨by decide, by decide⟩ 0 ⟨by decide, by decide⟩) mn_732 mw_734 mw_45 mw_124 mw_735 rfl rfl (by decide +kernel) ⟨Nat.le_of_ble_eq_true rfl, Nat.le_of_ble_eq_true rfl⟩ rfl rfl (Nat.le_of_ble_eq_true rfl) dX7_sheet_35 ⟨Nat.zero_le _, Nat.zero_le _⟩) hS (fun M35 H locs hp hw hS => ?_)
        obtain ⟨h35a, h35b, h35f⟩ := hp
        have g_M35 := hw.rg
        refine lv_iconst (v := II 1) C.1 C.2.1 dX7_sheet_38 rfl ?_
        exact x_ireturn C hr hlk hw hS ⟨by decide, by decide⟩ rfl (by
    have e : okSh (i : Int) so z = true := decide_eq_true (by omega)
    have e2 : decide (so = -1 ∨ 0 ≤ z) = true := decide_eq_true (by omega)
    unfold r_sheet s_sheet
    rw [e, e2, if_pos rfl, if_pos (by omega)]
    refine ⟨rfl, hR.s4 hA (shtR hR.2.2.2 hA.sz (by show i < 4; omega) (h35a.1.trans (by omega)) (h35a.2.trans (by rw [if_pos (by omega)])) (fun j hj => h35b j (by rw [if_pos (by omega)] at hj; omega)) (fun m hm _ => h35f m hm)) (fun m hm => h35f m (fun z => hm (Or.inr (by omega)))), fun m hm => h35f m (by omega)⟩) dX7_sheet_39
    · refine lv_iload_n C.1 C.2.1 dX7_sheet_12 rfl (lv_at hl 2 rfl) ?_
      refine x_ci (x_runS (n := 1) C hw hS hml hl.1 (c_X7_isSort l g M so gz_so) mw_785 mw_786 mw_117 mw_787 rfl rfl (by decide +kernel) ⟨Nat.le_of_ble_eq_true rfl, Nat.le_of_ble_eq_true rfl⟩ rfl rfl (Nat.le_of_ble_eq_true rfl) dX7_sheet_13 ⟨Nat.zero_le _, Nat.zero_le _⟩) hS (fun r13 M13 H locs hr13 hp hw hS => ?_)
      rcases hp with ⟨em13, (⟨er13, h13b⟩ | ⟨er13, h13b⟩)⟩
      · have hw : Wo g M H := em13 ▸ hw
        rw [er13]
        refine x_if_ne (tgt := 22) C ⟨by decide, by decide⟩ dX7_sheet_16 (by decide) (fun _ => ?_) (fun h => absurd h (by decide))
        refine lv_iload_n C.1 C.2.1 dX7_sheet_22 rfl (lv_at hl 2 rfl) ?_
        refine lv_iconst (v := II (-1)) C.1 C.2.1 dX7_sheet_23 rfl ?_
        refine x_icmp_ne (tgt := 40) C gz_so ⟨by decide, by decide⟩ dX7_sheet_24 (by decide) (fun c24 => ?_) (fun c24 => ?_)
        · refine lv_iload_n C.1 C.2.1 dX7_sheet_40 rfl (lv_at hl 3 rfl) ?_
          refine lv_bipush (v := II 40) C.1 C.2.1 dX7_sheet_41 (by decide) ?_
          refine x_icmp_le (tgt := 49) C gz_z ⟨by decide, by decide⟩ dX7_sheet_43 (by decide) (fun c43 => ?_) (fun c43 => ?_)
          · refine lv_iload_n C.1 C.2.1 dX7_sheet_49 rfl (lv_at hl 3 rfl) ?_
            refine x_if_ge (tgt := 56) C gz_z dX7_sheet_50 (by decide) (fun c50 => ?_) (fun c50 => ?_)
            · obtain ⟨i, rfl⟩ : ∃ i : Nat, s0 = (i : Int) := ⟨s0.toNat, by omega⟩
              refine lv_aload_n C.1 C.2.1 dX7_sheet_56 rfl (lv_at hl 0 rfl) ?_
              refine g7 C hw 0 (by omega) rfl 7 (by decide) mw_487 (svr (hF.2 _)) dX7_sheet_57 ?_
              refine lv_iload_n C.1 C.2.1 dX7_sheet_60 rfl (lv_at hl 1 rfl) ?_
              refine x_aaload (L := 4) C hw 60 (by omega) 12 rfl (by decide) rfl (by omega) (by omega) (by decide) (rH hF i (by omega)) dX7_sheet_61 ?_
              refine lv_iload_n C.1 C.2.1 dX7_sheet_62 rfl (lv_at hl 2 rfl) ?_
              refine lv_iload_n C.1 C.2.1 dX7_sheet_63 rfl (lv_at hl 3 rfl) ?_
              refine x_cv (x_runVN (n := 2) C hw hS hml hl.1 (62 + 2 * i) 5 (by omega) (kd_h (by omega)) (by decide) rfl (c_X5_becomeRow l g M hF i (by omega) so gz_so z gz_z) mn_732 mw_734 mw_45 mw_124 mw_735 rfl rfl (by decide +kernel) ⟨Nat.le_of_ble_eq_true rfl, Nat.le_of_ble_eq_true rfl⟩ rfl rfl (Nat.le_of_ble_eq_true rfl) dX7_sheet_64 ⟨Nat.zero_le _, Nat.zero_le _⟩) hS (fun M64 H locs hp hw hS => ?_)
              obtain ⟨h64a, h64b, h64f⟩ := hp
              have g_M64 := hw.rg
              refine lv_iconst (v := II 1) C.1 C.2.1 dX7_sheet_67 rfl ?_
              exact x_ireturn C hr hlk hw hS ⟨by decide, by decide⟩ rfl (by
    have e : okSh (i : Int) so z = true := decide_eq_true (by omega)
    have e2 : decide (so = -1 ∨ 0 ≤ z) = true := decide_eq_true (by omega)
    unfold r_sheet s_sheet
    rw [e, e2, if_pos rfl, if_pos (by omega)]
    refine ⟨rfl, hR.s4 hA (shtR hR.2.2.2 hA.sz (by show i < 4; omega) (h64a.1.trans rfl) (h64a.2.trans (by rw [if_neg (by omega)])) (fun j hj => h64b j (by rw [if_neg (by omega)] at hj; omega)) (fun m hm _ => h64f m hm)) (fun m hm => h64f m (fun z => hm (Or.inr (by omega)))), fun m hm => h64f m (by omega)⟩) dX7_sheet_68
            · refine lv_bipush (v := II (-14)) C.1 C.2.1 dX7_sheet_53 (by decide) ?_
              exact x_ireturn C hr hlk hw hS ⟨by decide, by decide⟩ rfl (by have e : okSh s0 so z = true := decide_eq_true (by omega); have e2 : decide (so = -1 ∨ 0 ≤ z) = false := decide_eq_false (by omega); unfold r_sheet s_sheet; rw [e, e2, if_pos rfl, if_neg (by omega)]; exact ⟨rfl, hR, fun _ _ => rfl⟩) dX7_sheet_55
          · refine lv_bipush (v := II (-2)) C.1 C.2.1 dX7_sheet_46 (by decide) ?_
            exact x_ireturn C hr hlk hw hS ⟨by decide, by decide⟩ rfl (by have e : okSh s0 so z = false := decide_eq_false (by omega); unfold r_sheet s_sheet; rw [e]; exact ⟨rfl, hR, fun _ _ => rfl⟩) dX7_sheet_48
        · obtain ⟨i, rfl⟩ : ∃ i : Nat, s0 = (i : Int) := ⟨s0.toNat, by omega⟩
          refine lv_aload_n C.1 C.2.1 dX7_sheet_27 rfl (lv_at hl 0 rfl) ?_
          refine g7 C hw 0 (by omega) rfl 7 (by decide) mw_487 (svr (hF.2 _)) dX7_sheet_28 ?_
          refine lv_iload_n C.1 C.2.1 dX7_sheet_31 rfl (lv_at hl 1 rfl) ?_
          refine x_aaload (L := 4) C hw 60 (by omega) 12 rfl (by decide) rfl (by omega) (by omega) (by decide) (rH hF i (by omega)) dX7_sheet_32 ?_
          refine lv_iconst (v := II (-1)) C.1 C.2.1 dX7_sheet_33 rfl ?_
          refine lv_iconst (v := II 0) C.1 C.2.1 dX7_sheet_34 rfl ?_
          refine x_cv (x_runVN (n := 2) C hw hS hml hl.1 (62 + 2 * i) 5 (by omega) (kd_h (by omega)) (by decide) rfl (c_X5_becomeRow l g M hF i (by omega) (-1) ⟨by decide, by decide⟩ 0 ⟨by decide, by decide⟩) mn_732 mw_734 mw_45 mw_124 mw_735 rfl rfl (by decide +kernel) ⟨Nat.le_of_ble_eq_true rfl, Nat.le_of_ble_eq_true rfl⟩ rfl rfl (Nat.le_of_ble_eq_true rfl) dX7_sheet_35 ⟨Nat.zero_le _, Nat.zero_le _⟩) hS (fun M35 H locs hp hw hS => ?_)
          obtain ⟨h35a, h35b, h35f⟩ := hp
          have g_M35 := hw.rg
          refine lv_iconst (v := II 1) C.1 C.2.1 dX7_sheet_38 rfl ?_
          exact x_ireturn C hr hlk hw hS ⟨by decide, by decide⟩ rfl (by
    have e : okSh (i : Int) so z = true := decide_eq_true (by omega)
    have e2 : decide (so = -1 ∨ 0 ≤ z) = true := decide_eq_true (by omega)
    unfold r_sheet s_sheet
    rw [e, e2, if_pos rfl, if_pos (by omega)]
    refine ⟨rfl, hR.s4 hA (shtR hR.2.2.2 hA.sz (by show i < 4; omega) (h35a.1.trans (by omega)) (h35a.2.trans (by rw [if_pos (by omega)])) (fun j hj => h35b j (by rw [if_pos (by omega)] at hj; omega)) (fun m hm _ => h35f m hm)) (fun m hm => h35f m (fun z => hm (Or.inr (by omega)))), fun m hm => h35f m (by omega)⟩) dX7_sheet_39
      · have hw : Wo g M H := em13 ▸ hw
        rw [er13]
        refine x_if_ne (tgt := 22) C ⟨by decide, by decide⟩ dX7_sheet_16 (by decide) (fun h => absurd h (by decide)) (fun _ => ?_)
        refine lv_bipush (v := II (-2)) C.1 C.2.1 dX7_sheet_19 (by decide) ?_
        exact x_ireturn C hr hlk hw hS ⟨by decide, by decide⟩ rfl (by have e : okSh s0 so z = false := decide_eq_false (by omega); unfold r_sheet s_sheet; rw [e]; exact ⟨rfl, hR, fun _ _ => rfl⟩) dX7_sheet_21
  · have hw : Wo g M H := em1 ▸ hw
    rw [er1]
    refine x_if_eq (tgt := 19) C ⟨by decide, by decide⟩ dX7_sheet_4 (by decide) (fun _ => ?_) (fun h => absurd h (by decide))
    refine lv_bipush (v := II (-2)) C.1 C.2.1 dX7_sheet_19 (by decide) ?_
    exact x_ireturn C hr hlk hw hS ⟨by decide, by decide⟩ rfl (by have e : okSh s0 so z = false := decide_eq_false (by omega); unfold r_sheet s_sheet; rw [e]; exact ⟨rfl, hR, fun _ _ => rfl⟩) dX7_sheet_21

set_option maxHeartbeats 4000000 in
set_option maxRecDepth 100000 in
theorem c_X7_cell (l : Launch) (g : Gm) (M : Nat → Int) (hF : LvF g) (n : Nat) (v : Nat → Nat → Int) (nt : Int) (pd : Int) (t : Nat) (X : Txt) (I : Option Bor) (Sh : Sht) (hR : RepC M (n, v, nt, pd, t) X I Sh) (hA : InvA (n, v, nt, pd, t) X I Sh) (s0 : Int) (gz_s0 : rg s0) (i0 : Int) (gz_i0 : rg i0) (x : Int) (gz_x : rg x) : CI l ({ cls := "RatedBySighs", name := "cell", desc := "(III)I" } : Jvm.MethodName) cX7_cell 4 .int (rmm 1 22) g M [.ref (gA g 0), .int (II s0), .int (II i0), .int (II x)] (fun r M' => r = r_cell Sh s0 i0 ∧ (RepC M' (n, v, nt, pd, t) X I (s_cell Sh s0 i0 x)) ∧ (∀ m, 70000 ≤ m → M' m = M m)) := by
  refine c_start (by decide) (Nat.le_of_ble_eq_true rfl) (fun p e s m below meth c ls C hr hlk hml hw hS hl => ?_)
  have hl : lv_has ls 4 [(0, .ref (gA g 0)), (1, .int (II s0)), (2, .int (II i0)), (3, .int (II x))] := hl
  have g_M := hw.rg
  have hN : gN g = 84 := hF.1
  have hB : BV M n v nt t (X.2.1 t) := hR.bv hA
  have hn2 : n ≤ 8 := hB.1.2
  have hnt := hB.2.2.2.1.2
  have hpd : 0 ≤ pd ∧ pd ≤ 999999999 := hA.1.2.2.2.2.1
  refine lv_iload_n C.1 C.2.1 dX7_cell_0 rfl (lv_at hl 1 rfl) ?_
  refine x_ci (x_runS (n := 1) C hw hS hml hl.1 (c_X7_isSheet l g M s0 gz_s0) mw_697 mw_698 mw_117 mw_699 rfl rfl (by decide +kernel) ⟨Nat.le_of_ble_eq_true rfl, Nat.le_of_ble_eq_true rfl⟩ rfl rfl (Nat.le_of_ble_eq_true rfl) dX7_cell_1 ⟨Nat.zero_le _, Nat.zero_le _⟩) hS (fun r1 M1 H locs hr1 hp hw hS => ?_)
  rcases hp with ⟨em1, (⟨er1, h1b⟩ | ⟨er1, h1b⟩)⟩
  · have hw : Wo g M H := em1 ▸ hw
    rw [er1]
    refine x_if_ne (tgt := 10) C ⟨by decide, by decide⟩ dX7_cell_4 (by decide) (fun _ => ?_) (fun h => absurd h (by decide))
    obtain ⟨i, rfl⟩ : ∃ i : Nat, s0 = (i : Int) := ⟨s0.toNat, by omega⟩
    have hsz := hA.2.2.2.2 i (by omega)
    obtain ⟨q1, q2, q3⟩ := hR.2.2.2 i (by omega)
    refine lv_aload_n C.1 C.2.1 dX7_cell_10 rfl (lv_at hl 0 rfl) ?_
    refine g7 C hw 0 (by omega) rfl 7 (by decide) mw_487 (svr (hF.2 _)) dX7_cell_11 ?_
    refine lv_iload_n C.1 C.2.1 dX7_cell_14 rfl (lv_at hl 1 rfl) ?_
    refine x_aaload (L := 4) C hw 60 (by omega) 12 rfl (by decide) rfl (by omega) (by omega) (by decide) (rH hF i (by omega)) dX7_cell_15 ?_
    refine x_ci (x_runVN (n := 0) C hw hS hml hl.1 (62 + 2 * i) 5 (by omega) (kd_h (by omega)) (by decide) rfl (c_X5_isMissing l g M hF i (by omega)) mn_700 mw_702 mw_38 mw_124 mw_703 rfl rfl (by decide +kernel) ⟨Nat.le_of_ble_eq_true rfl, Nat.le_of_ble_eq_true rfl⟩ rfl rfl (Nat.le_of_ble_eq_true rfl) dX7_cell_16 ⟨Nat.zero_le _, Nat.zero_le _⟩) hS (fun r16 M16 H locs hr16 hp hw hS => ?_)
    rcases hp with ⟨em16, (⟨er16, h16b⟩ | ⟨er16, h16b⟩)⟩
    · have hw : Wo g M H := em16 ▸ hw
      rw [er16]
      refine x_if_eq (tgt := 25) C ⟨by decide, by decide⟩ dX7_cell_19 (by decide) (fun h => absurd h (by decide)) (fun _ => ?_)
      refine lv_bipush (v := II (-11)) C.1 C.2.1 dX7_cell_22 (by decide) ?_
      exact x_ireturn C hr hlk hw hS ⟨by decide, by decide⟩ rfl (by have e : r_cell Sh (i : Int) i0 = -11 := (by simp only [r_cell, Int.toNat_natCast]; rw [if_neg (by omega), if_pos (by rw [← q1]; exact h16b)]); unfold s_cell; rw [e]; exact ⟨rfl, hR, fun _ _ => rfl⟩) dX7_cell_24
    · have hw : Wo g M H := em16 ▸ hw
      rw [er16]
      refine x_if_eq (tgt := 25) C ⟨by decide, by decide⟩ dX7_cell_19 (by decide) (fun _ => ?_) (fun h => absurd h (by decide))
      refine lv_aload_n C.1 C.2.1 dX7_cell_25 rfl (lv_at hl 0 rfl) ?_
      refine g7 C hw 0 (by omega) rfl 7 (by decide) mw_487 (svr (hF.2 _)) dX7_cell_26 ?_
      refine lv_iload_n C.1 C.2.1 dX7_cell_29 rfl (lv_at hl 1 rfl) ?_
      refine x_aaload (L := 4) C hw 60 (by omega) 12 rfl (by decide) rfl (by omega) (by omega) (by decide) (rH hF i (by omega)) dX7_cell_30 ?_
      refine lv_iload_n C.1 C.2.1 dX7_cell_31 rfl (lv_at hl 2 rfl) ?_
      refine lv_iconst (v := II 1) C.1 C.2.1 dX7_cell_32 rfl ?_
      refine x_ci (x_runVN (n := 2) C hw hS hml hl.1 (62 + 2 * i) 5 (by omega) (kd_h (by omega)) (by decide) rfl (c_X5_holds l g M hF i (by omega) i0 gz_i0 1 ⟨by decide, by decide⟩ (by rw [q2]; omega)) mn_792 mw_794 mw_51 mw_124 mw_795 rfl rfl (by decide +kernel) ⟨Nat.le_of_ble_eq_true rfl, Nat.le_of_ble_eq_true rfl⟩ rfl rfl (Nat.le_of_ble_eq_true rfl) dX7_cell_33 ⟨Nat.zero_le _, Nat.zero_le _⟩) hS (fun r33 M33 H locs hr33 hp hw hS => ?_)
      rcases hp with ⟨em33, (⟨er33, h33b⟩ | ⟨er33, h33b⟩)⟩
      · have hw : Wo g M H := em33 ▸ hw
        rw [er33]
        refine x_if_ne (tgt := 42) C ⟨by decide, by decide⟩ dX7_cell_36 (by decide) (fun _ => ?_) (fun h => absurd h (by decide))
        rw [q2] at h33b
        obtain ⟨j, rfl⟩ : ∃ i : Nat, i0 = (i : Int) := ⟨i0.toNat, by omega⟩
        refine lv_aload_n C.1 C.2.1 dX7_cell_42 rfl (lv_at hl 0 rfl) ?_
        refine g7 C hw 0 (by omega) rfl 7 (by decide) mw_487 (svr (hF.2 _)) dX7_cell_43 ?_
        refine lv_iload_n C.1 C.2.1 dX7_cell_46 rfl (lv_at hl 1 rfl) ?_
        refine x_aaload (L := 4) C hw 60 (by omega) 12 rfl (by decide) rfl (by omega) (by omega) (by decide) (rH hF i (by omega)) dX7_cell_47 ?_
        refine lv_iload_n C.1 C.2.1 dX7_cell_48 rfl (lv_at hl 2 rfl) ?_
        refine lv_iload_n C.1 C.2.1 dX7_cell_49 rfl (lv_at hl 3 rfl) ?_
        refine x_cv (x_runVN (n := 2) C hw hS hml hl.1 (62 + 2 * i) 5 (by omega) (kd_h (by omega)) (by decide) rfl (c_X5_put l g M hF i (by omega) j (by first | assumption | omega | exact ⟨by omega, by omega⟩ | decide) x gz_x) mn_736 mw_738 mw_46 mw_124 mw_739 rfl rfl (by decide +kernel) ⟨Nat.le_of_ble_eq_true rfl, Nat.le_of_ble_eq_true rfl⟩ rfl rfl (Nat.le_of_ble_eq_true rfl) dX7_cell_50 ⟨Nat.zero_le _, Nat.zero_le _⟩) hS (fun M50 H locs hp hw hS => ?_)
        have em50 := hp
        have hw : Wo g (stM M (1000 * (63 + 2 * i) + j) (putV (M (1000 * (62 + 2 * i) + 1)) x)) H := em50 ▸ hw
        refine lv_iconst (v := II 1) C.1 C.2.1 dX7_cell_53 rfl ?_
        exact x_ireturn C hr hlk hw hS ⟨by decide, by decide⟩ rfl (by
    have e : r_cell Sh (i : Int) (j : Int) = 1 := by simp only [r_cell, Int.toNat_natCast]; rw [if_neg (by omega), if_neg (by rw [← q1]; exact h16b), if_pos (by omega)]
    unfold s_cell
    rw [if_pos e, e]
    simp only [Int.toNat_natCast]
    refine ⟨trivial, hR.s4 hA ?_ (fun m hm => st_n (by omega)), fun m hm => st_n (by omega)⟩
    rw [← s_row_id]
    refine shtR hR.2.2.2 hA.sz (by show i < 4; omega) ((st_n (by omega)).trans q1) ((st_n (by omega)).trans q2) (fun k hk => ?_) (fun m hm _ => st_n (by omega))
    show stM M _ _ _ = up1 _ _ _ k
    unfold up1
    by_cases ek : k = j
    · rw [ek, st_s, if_pos rfl, ← q1]
    · rw [st_n (by omega), if_neg ek]; exact q3 k hk) dX7_cell_54
      · have hw : Wo g M H := em33 ▸ hw
        rw [er33]
        refine x_if_ne (tgt := 42) C ⟨by decide, by decide⟩ dX7_cell_36 (by decide) (fun h => absurd h (by decide)) (fun _ => ?_)
        refine lv_bipush (v := II (-12)) C.1 C.2.1 dX7_cell_39 (by decide) ?_
        exact x_ireturn C hr hlk hw hS ⟨by decide, by decide⟩ rfl (by have e : r_cell Sh (i : Int) i0 = -12 := (by simp only [r_cell, Int.toNat_natCast]; rw [if_neg (by omega), if_neg (by rw [← q1]; exact h16b), if_neg (fun z => h33b (by rw [q2]; omega))]); unfold s_cell; rw [e]; exact ⟨rfl, hR, fun _ _ => rfl⟩) dX7_cell_41
  · have hw : Wo g M H := em1 ▸ hw
    rw [er1]
    refine x_if_ne (tgt := 10) C ⟨by decide, by decide⟩ dX7_cell_4 (by decide) (fun h => absurd h (by decide)) (fun _ => ?_)
    refine lv_bipush (v := II (-2)) C.1 C.2.1 dX7_cell_7 (by decide) ?_
    exact x_ireturn C hr hlk hw hS ⟨by decide, by decide⟩ rfl (by have e : r_cell Sh s0 i0 = -2 := (by simp only [r_cell, Int.toNat_natCast]; rw [if_pos h1b]); unfold s_cell; rw [e]; exact ⟨rfl, hR, fun _ _ => rfl⟩) dX7_cell_9

set_option maxHeartbeats 4000000 in
set_option maxRecDepth 100000 in
theorem c_X7_film (l : Launch) (g : Gm) (M : Nat → Int) (hF : LvF g) (n : Nat) (v : Nat → Nat → Int) (nt : Int) (pd : Int) (t : Nat) (X : Txt) (I : Option Bor) (Sh : Sht) (hR : RepC M (n, v, nt, pd, t) X I Sh) (hA : InvA (n, v, nt, pd, t) X I Sh) (s0 : Int) (gz_s0 : rg s0) (ho : Int) (gz_ho : rg ho) : CI l ({ cls := "RatedBySighs", name := "film", desc := "(II)I" } : Jvm.MethodName) cX7_film 4 .int (rmm 4 99) g M [.ref (gA g 0), .int (II s0), .int (II ho)] (fun r M' => r = r_film s0 ho ∧ (RepC M' (n, v, nt, pd, t) X I (s_film Sh v n nt (X.2.1 t) s0 ho)) ∧ (∀ m, 70000 ≤ m → M' m = M m)) := by
  refine c_start (by decide) (Nat.le_of_ble_eq_true rfl) (fun p e s m below meth c ls C hr hlk hml hw hS hl => ?_)
  have hl : lv_has ls 4 [(0, .ref (gA g 0)), (1, .int (II s0)), (2, .int (II ho))] := hl
  generalize ([.ref (gA g 0), .int (II s0), .int (II ho)] : List Value).toArray = args at C ⊢
  generalize hQQ : MQ below (postI g (fun r M' => r = r_film s0 ho ∧ (RepC M' (n, v, nt, pd, t) X I (s_film Sh v n nt (X.2.1 t) s0 ho)) ∧ (∀ m, 70000 ≤ m → M' m = M m))) args s 0 0 (ar g) = QQ
  have g_M := hw.rg
  have hN : gN g = 84 := hF.1
  have hB : BV M n v nt t (X.2.1 t) := hR.bv hA
  have hn2 : n ≤ 8 := hB.1.2
  have hnt := hB.2.2.2.1.2
  have hpd : 0 ≤ pd ∧ pd ≤ 999999999 := hA.1.2.2.2.2.1
  refine lv_iload_n C.1 C.2.1 dX7_film_0 rfl (lv_at hl 1 rfl) ?_
  refine x_ci (x_runS (n := 1) C hw hS hml hl.1 (c_X7_isSheet l g M s0 gz_s0) mw_697 mw_698 mw_117 mw_699 rfl rfl (by decide +kernel) ⟨Nat.le_of_ble_eq_true rfl, Nat.le_of_ble_eq_true rfl⟩ rfl rfl (Nat.le_of_ble_eq_true rfl) dX7_film_1 ⟨Nat.zero_le _, Nat.zero_le _⟩) hS (fun r1 M1 H locs hr1 hp hw hS => ?_)
  rcases hp with ⟨em1, (⟨er1, h1b⟩ | ⟨er1, h1b⟩)⟩
  · have hw : Wo g M H := em1 ▸ hw
    rw [er1]
    refine x_if_eq (tgt := 15) C ⟨by decide, by decide⟩ dX7_film_4 (by decide) (fun h => absurd h (by decide)) (fun _ => ?_)
    refine lv_iconst (v := II 2) C.1 C.2.1 dX7_film_7 rfl ?_
    refine lv_iload_n C.1 C.2.1 dX7_film_8 rfl (lv_at hl 2 rfl) ?_
    refine x_ci (x_runS (n := 2) C hw hS hml hl.1 (c_X7_mayBe l g M 2 (by first | assumption | omega | exact ⟨by omega, by omega⟩ | decide) ho gz_ho) mw_513 mw_514 mw_117 mw_515 rfl rfl (by decide +kernel) ⟨Nat.le_of_ble_eq_true rfl, Nat.le_of_ble_eq_true rfl⟩ rfl rfl (Nat.le_of_ble_eq_true rfl) dX7_film_9 ⟨Nat.zero_le _, Nat.zero_le _⟩) hS (fun r9 M9 H locs hr9 hp hw hS => ?_)
    rcases hp with ⟨em9, (⟨er9, h9b⟩ | ⟨er9, h9b⟩)⟩
    · have hw : Wo g M H := em9 ▸ hw
      rw [er9]
      refine x_if_ne (tgt := 18) C ⟨by decide, by decide⟩ dX7_film_12 (by decide) (fun _ => ?_) (fun h => absurd h (by decide))
      have hho4 : 0 ≤ ho ∧ ho ≤ 4 := h9b
      obtain ⟨i, rfl⟩ : ∃ i : Nat, s0 = (i : Int) := ⟨s0.toNat, by omega⟩
      refine lv_aload_n C.1 C.2.1 dX7_film_18 rfl (lv_at hl 0 rfl) ?_
      refine g7 C hw 0 (by omega) rfl 0 (by decide) mw_480 (svr (hF.2 _)) dX7_film_19 ?_
      refine lv_iload_n C.1 C.2.1 dX7_film_22 rfl (lv_at hl 2 rfl) ?_
      refine x_ci (x_runVN (n := 1) C hw hS hml hl.1 1 2 (by omega) rfl (by decide) rfl (c_X2_play l g M hF n v nt t (X.2.1 t) hB ho gz_ho) mn_548 mw_550 mw_21 mw_118 mw_551 rfl rfl (by decide +kernel) ⟨Nat.le_of_ble_eq_true rfl, Nat.le_of_ble_eq_true rfl⟩ rfl rfl (Nat.le_of_ble_eq_true rfl) dX7_film_23 ⟨Nat.zero_le _, Nat.zero_le _⟩) hS (fun r23 M23 H locs hr23 hp hw hS => ?_)
      obtain ⟨er23, h23a, h23b, h23c, h23f⟩ := hp
      have g_M23 := hw.rg
      rw [er23] at hr23 ⊢
      refine lv_pop C.1 C.2.1 dX7_film_26 rfl ?_
      refine lv_aload_n C.1 C.2.1 dX7_film_27 rfl (lv_at hl 0 rfl) ?_
      refine g7 C hw 0 (by omega) rfl 7 (by decide) mw_487 (svr (hF.2 _)) dX7_film_28 ?_
      refine lv_iload_n C.1 C.2.1 dX7_film_31 rfl (lv_at hl 1 rfl) ?_
      refine x_aaload (L := 4) C hw 60 (by omega) 12 rfl (by decide) rfl (by omega) (by omega) (by decide) (rH hF i (by omega)) dX7_film_32 ?_
      refine lv_iconst (v := II 2) C.1 C.2.1 dX7_film_33 rfl ?_
      refine lv_bipush (v := II 6) C.1 C.2.1 dX7_film_34 (by decide) ?_
      refine x_cv (x_runVN (n := 2) C hw hS hml hl.1 (62 + 2 * i) 5 (by omega) (kd_h (by omega)) (by decide) rfl (c_X5_becomeRow l g M23 hF i (by omega) 2 ⟨by decide, by decide⟩ 6 ⟨by decide, by decide⟩) mn_732 mw_734 mw_45 mw_124 mw_735 rfl rfl (by decide +kernel) ⟨Nat.le_of_ble_eq_true rfl, Nat.le_of_ble_eq_true rfl⟩ rfl rfl (Nat.le_of_ble_eq_true rfl) dX7_film_36 ⟨Nat.zero_le _, Nat.zero_le _⟩) hS (fun M36 H locs hp hw hS => ?_)
      obtain ⟨h36a, h36b, h36f⟩ := hp
      have g_M36 := hw.rg
      refine lv_iconst (v := II 0) C.1 C.2.1 dX7_film_39 rfl ?_
      refine lv_istore_n (lv' := [(3, .int (II 0)), (0, .ref (gA g 0)), (1, .int (II (i : Int))), (2, .int (II ho))]) C.1 C.2.1 dX7_film_40 rfl hl (by decide) rfl (fun ls hl => ?_)
      have L41 : ∀ (f1 : Nat) (k : Nat) (M3 : Nat → Int), (6 - k) < f1 → (k ≤ 6) → (M3 (1000 * (62 + 2 * i) + 1) = 2 ∧ M3 (1000 * (62 + 2 * i) + 2) = 6) → (∀ x, x < 6 → M3 (44000 + x) = reedS v n nt (X.2.1 t) ho x) → (∀ x, x < k → M3 (1000 * (63 + 2 * i) + x) = reedS v n nt (X.2.1 t) ho x) → (∀ m, ¬ (scr m ∨ m / 1000 = 62 + 2 * i ∨ m / 1000 = 63 + 2 * i) → M3 m = M m) → ∀ (H : Heap) (locs : List Loc) (ls : Array Slot), Wo g M3 H → va_S (ar g) s.heap H locs → lv_has ls 4 [(0, .ref (gA g 0)), (1, .int (II (i : Int))), (2, .int (II ho)), (3, .int (II (k : Int)))] → W p l e (rmm 4 99) s m args below meth c H locs 0 0 QQ (F0 m 41 ls []) := by
        intro f1
        induction f1 with
        | zero => intro k M3 hmu; exact absurd hmu (Nat.not_lt_zero _)
        | succ f1 ih =>
          intro k M3 hmu h4 h5 h6 h7 h8 H locs ls hw hS hl
          have ih41 := ih
          have g_M3 := hw.rg
          have hre := reedS_in v n nt (X.2.1 t) ho k
          refine lv_iload_n C.1 C.2.1 dX7_film_41 rfl (lv_at hl 3 rfl) ?_
          refine lv_bipush (v := II 6) C.1 C.2.1 dX7_film_42 (by decide) ?_
          refine x_icmp_ge (tgt := 72) C ⟨by omega, by omega⟩ ⟨by decide, by decide⟩ dX7_film_44 (by decide) (fun c44 => ?_) (fun c44 => ?_)
          · refine lv_bipush (v := II 6) C.1 C.2.1 dX7_film_72 (by decide) ?_
            subst hQQ; exact x_ireturn C hr hlk hw hS ⟨by decide, by decide⟩ rfl (by
    have e : (0 ≤ (i : Int) ∧ (i : Int) < 4) ∧ (0 ≤ ho ∧ ho ≤ 4) := ⟨by omega, hho4⟩
    unfold r_film s_film
    rw [if_pos e, if_pos e]
    refine ⟨rfl, hR.s4 hA (shtR hR.2.2.2 hA.sz (by show i < 4; omega) h5.1 h5.2 (fun j hj => h7 j (by omega)) (fun m hm hm2 => h8 m (by unfold scr; omega))) (fun m hm => h8 m (fun z => hm (z.elim (fun y => Or.inl (Or.inl y)) (fun y => Or.inr (by omega))))), fun m hm => h8 m (by unfold scr; omega)⟩) dX7_film_74
          · refine lv_aload_n C.1 C.2.1 dX7_film_47 rfl (lv_at hl 0 rfl) ?_
            refine g7 C hw 0 (by omega) rfl 7 (by decide) mw_487 (svr (hF.2 _)) dX7_film_48 ?_
            refine lv_iload_n C.1 C.2.1 dX7_film_51 rfl (lv_at hl 1 rfl) ?_
            refine x_aaload (L := 4) C hw 60 (by omega) 12 rfl (by decide) rfl (by omega) (by omega) (by decide) (rH hF i (by omega)) dX7_film_52 ?_
            refine lv_iload_n C.1 C.2.1 dX7_film_53 rfl (lv_at hl 3 rfl) ?_
            refine lv_aload_n C.1 C.2.1 dX7_film_54 rfl (lv_at hl 0 rfl) ?_
            refine g7 C hw 0 (by omega) rfl 0 (by decide) mw_480 (svr (hF.2 _)) dX7_film_55 ?_
            refine gn2 C hw 1 (by omega) rfl 4 (by decide) mn_247 (svr (hF.2 _)) dX7_film_58 ?_
            refine lv_iload_n C.1 C.2.1 dX7_film_61 rfl (lv_at hl 3 rfl) ?_
            refine x_iaload (L := 6) C hw 44 (by omega) rfl rfl (by omega) (by omega) (by decide) (x := reedS v n nt (X.2.1 t) ho k) (h6 k (by omega)) dX7_film_62 ?_
            refine x_cv (x_runVN (n := 2) C hw hS hml hl.1 (62 + 2 * i) 5 (by omega) (kd_h (by omega)) (by decide) rfl (c_X5_put l g M3 hF i (by omega) k (by first | assumption | omega | exact ⟨by omega, by omega⟩ | decide) (reedS v n nt (X.2.1 t) ho k) ⟨by have := g_M3 (44000 + k); have := (h6 k (by omega)); omega, by have := g_M3 (44000 + k); have := (h6 k (by omega)); omega⟩) mn_736 mw_738 mw_46 mw_124 mw_739 rfl rfl (by decide +kernel) ⟨Nat.le_of_ble_eq_true rfl, Nat.le_of_ble_eq_true rfl⟩ rfl rfl (Nat.le_of_ble_eq_true rfl) dX7_film_63 ⟨Nat.zero_le _, Nat.zero_le _⟩) hS (fun M63 H locs hp hw hS => ?_)
            have em63 := hp
            have hw : Wo g (stM M3 (1000 * (63 + 2 * i) + k) (putV (M3 (1000 * (62 + 2 * i) + 1)) (reedS v n nt (X.2.1 t) ho k))) H := em63 ▸ hw
            refine lv_iinc (v := II ((k : Int) + 1)) (lv' := [(3, .int (II ((k : Int) + 1))), (0, .ref (gA g 0)), (1, .int (II (i : Int))), (2, .int (II ho))]) C.1 C.2.1 dX7_film_66 hl (k := 3) rfl (II_add _ _) (by decide) rfl (fun ls hl => ?_)
            refine lv_goto (tgt := 41) C.1 C.2.1 dX7_film_69 (by decide) ?_
            exact ih41  (k + 1) (stM M3 (1000 * (63 + 2 * i) + k) (putV (M3 (1000 * (62 + 2 * i) + 1)) (reedS v n nt (X.2.1 t) ho k))) (by omega) (by omega) (⟨(st_n (by omega)).trans h5.1, (st_n (by omega)).trans h5.2⟩) (fun x hx => (st_n (by omega)).trans (h6 x hx)) (stA h7 (by unfold putV; rw [if_neg (by omega), if_neg (by omega)])) (stF h8 (by omega)) _ _ _ hw hS (lv_sub hl [1, 2, 3, 0] rfl)
      exact L41 _ 0 M36 (Nat.lt_succ_self _) (by omega) h36a (fun x hx => (h36f _ (by omega)).trans (h23c x hx)) (fun _ h => absurd h (Nat.not_lt_zero _)) (fun m hm => (h36f m (fun z => hm (Or.inr z))).trans (h23f m (fun z => hm (Or.inl z)))) _ _ _ hw hS (lv_sub hl [1, 2, 3, 0] rfl)
    · have hw : Wo g M H := em9 ▸ hw
      rw [er9]
      refine x_if_ne (tgt := 18) C ⟨by decide, by decide⟩ dX7_film_12 (by decide) (fun h => absurd h (by decide)) (fun _ => ?_)
      refine lv_bipush (v := II (-2)) C.1 C.2.1 dX7_film_15 (by decide) ?_
      subst hQQ; exact x_ireturn C hr hlk hw hS ⟨by decide, by decide⟩ rfl (by have e : ¬ ((0 ≤ s0 ∧ s0 < 4) ∧ (0 ≤ ho ∧ ho ≤ 4)) := (fun z => by first | exact h9b z.2 | exact h1b z.1); unfold r_film s_film; rw [if_neg e, if_neg e]; exact ⟨rfl, hR, fun _ _ => rfl⟩) dX7_film_17
  · have hw : Wo g M H := em1 ▸ hw
    rw [er1]
    refine x_if_eq (tgt := 15) C ⟨by decide, by decide⟩ dX7_film_4 (by decide) (fun _ => ?_) (fun h => absurd h (by decide))
    refine lv_bipush (v := II (-2)) C.1 C.2.1 dX7_film_15 (by decide) ?_
    subst hQQ; exact x_ireturn C hr hlk hw hS ⟨by decide, by decide⟩ rfl (by have e : ¬ ((0 ≤ s0 ∧ s0 < 4) ∧ (0 ≤ ho ∧ ho ≤ 4)) := (fun z => by first | exact h9b z.2 | exact h1b z.1); unfold r_film s_film; rw [if_neg e, if_neg e]; exact ⟨rfl, hR, fun _ _ => rfl⟩) dX7_film_17

set_option maxHeartbeats 4000000 in
set_option maxRecDepth 100000 in
theorem c_X7_copy (l : Launch) (g : Gm) (M : Nat → Int) (hF : LvF g) (n : Nat) (v : Nat → Nat → Int) (nt : Int) (pd : Int) (t : Nat) (X : Txt) (I : Option Bor) (Sh : Sht) (hR : RepC M (n, v, nt, pd, t) X I Sh) (hA : InvA (n, v, nt, pd, t) X I Sh) (s0 : Int) (gz_s0 : rg s0) (i0 : Int) (gz_i0 : rg i0) (o0 : Int) (gz_o0 : rg o0) (j0 : Int) (gz_j0 : rg j0) (z : Int) (gz_z : rg z) : CI l ({ cls := "RatedBySighs", name := "copy", desc := "(IIIII)I" } : Jvm.MethodName) cX7_copy 8 .int (rmm 1 40) g M [.ref (gA g 0), .int (II s0), .int (II i0), .int (II o0), .int (II j0), .int (II z)] (fun r M' => r = r_copy Sh s0 i0 o0 j0 z ∧ (RepC M' (n, v, nt, pd, t) X I (s_copy Sh s0 i0 o0 j0 z)) ∧ (∀ m, 70000 ≤ m → M' m = M m)) := by
  refine c_start (by decide) (Nat.le_of_ble_eq_true rfl) (fun p e s m below meth c ls C hr hlk hml hw hS hl => ?_)
  have hl : lv_has ls 8 [(0, .ref (gA g 0)), (1, .int (II s0)), (2, .int (II i0)), (3, .int (II o0)), (4, .int (II j0)), (5, .int (II z))] := hl
  have g_M := hw.rg
  have hN : gN g = 84 := hF.1
  have hB : BV M n v nt t (X.2.1 t) := hR.bv hA
  have hn2 : n ≤ 8 := hB.1.2
  have hnt := hB.2.2.2.1.2
  have hpd : 0 ≤ pd ∧ pd ≤ 999999999 := hA.1.2.2.2.2.1
  refine lv_iload_n C.1 C.2.1 dX7_copy_0 rfl (lv_at hl 1 rfl) ?_
  refine x_ci (x_runS (n := 1) C hw hS hml hl.1 (c_X7_isSheet l g M s0 gz_s0) mw_697 mw_698 mw_117 mw_699 rfl rfl (by decide +kernel) ⟨Nat.le_of_ble_eq_true rfl, Nat.le_of_ble_eq_true rfl⟩ rfl rfl (Nat.le_of_ble_eq_true rfl) dX7_copy_1 ⟨Nat.zero_le _, Nat.zero_le _⟩) hS (fun r1 M1 H locs hr1 hp hw hS => ?_)
  rcases hp with ⟨em1, (⟨er1, h1b⟩ | ⟨er1, h1b⟩)⟩
  · have hw : Wo g M H := em1 ▸ hw
    rw [er1]
    refine x_if_eq (tgt := 14) C ⟨by decide, by decide⟩ dX7_copy_4 (by decide) (fun h => absurd h (by decide)) (fun _ => ?_)
    refine lv_iload_n C.1 C.2.1 dX7_copy_7 rfl (lv_at hl 3 rfl) ?_
    refine x_ci (x_runS (n := 1) C hw hS hml hl.1 (c_X7_isSheet l g M o0 gz_o0) mw_697 mw_698 mw_117 mw_699 rfl rfl (by decide +kernel) ⟨Nat.le_of_ble_eq_true rfl, Nat.le_of_ble_eq_true rfl⟩ rfl rfl (Nat.le_of_ble_eq_true rfl) dX7_copy_8 ⟨Nat.zero_le _, Nat.zero_le _⟩) hS (fun r8 M8 H locs hr8 hp hw hS => ?_)
    rcases hp with ⟨em8, (⟨er8, h8b⟩ | ⟨er8, h8b⟩)⟩
    · have hw : Wo g M H := em8 ▸ hw
      rw [er8]
      refine x_if_ne (tgt := 17) C ⟨by decide, by decide⟩ dX7_copy_11 (by decide) (fun _ => ?_) (fun h => absurd h (by decide))
      obtain ⟨i, rfl⟩ : ∃ i : Nat, s0 = (i : Int) := ⟨s0.toNat, by omega⟩
      obtain ⟨j, rfl⟩ : ∃ i : Nat, o0 = (i : Int) := ⟨o0.toNat, by omega⟩
      have hsz1 := hA.2.2.2.2 i (by omega)
      have hsz2 := hA.2.2.2.2 j (by omega)
      obtain ⟨q1, q2, q3⟩ := hR.2.2.2 i (by omega)
      obtain ⟨p1, p2, p3⟩ := hR.2.2.2 j (by omega)
      refine lv_aload_n C.1 C.2.1 dX7_copy_17 rfl (lv_at hl 0 rfl) ?_
      refine g7 C hw 0 (by omega) rfl 7 (by decide) mw_487 (svr (hF.2 _)) dX7_copy_18 ?_
      refine lv_iload_n C.1 C.2.1 dX7_copy_21 rfl (lv_at hl 1 rfl) ?_
      refine x_aaload (L := 4) C hw 60 (by omega) 12 rfl (by decide) rfl (by omega) (by omega) (by decide) (rH hF i (by omega)) dX7_copy_22 ?_
      refine lv_astore (lv' := [(6, .ref (gA g (62 + 2 * i))), (0, .ref (gA g 0)), (1, .int (II (i : Int))), (2, .int (II i0)), (3, .int (II (j : Int))), (4, .int (II j0)), (5, .int (II z))]) C.1 C.2.1 dX7_copy_23 hl (by decide) rfl (fun ls hl => ?_)
      refine lv_aload_n C.1 C.2.1 dX7_copy_25 rfl (lv_at hl 1 rfl) ?_
      refine g7 C hw 0 (by omega) rfl 7 (by decide) mw_487 (svr (hF.2 _)) dX7_copy_26 ?_
      refine lv_iload_n C.1 C.2.1 dX7_copy_29 rfl (lv_at hl 4 rfl) ?_
      refine x_aaload (L := 4) C hw 60 (by omega) 12 rfl (by decide) rfl (by omega) (by omega) (by decide) (rH hF j (by omega)) dX7_copy_30 ?_
      refine lv_astore (lv' := [(7, .ref (gA g (62 + 2 * j))), (6, .ref (gA g (62 + 2 * i))), (0, .ref (gA g 0)), (1, .int (II (i : Int))), (2, .int (II i0)), (3, .int (II (j : Int))), (4, .int (II j0)), (5, .int (II z))]) C.1 C.2.1 dX7_copy_31 hl (by decide) rfl (fun ls hl => ?_)
      refine lv_aload C.1 C.2.1 dX7_copy_33 (lv_at hl 1 rfl) ?_
      refine x_ci (x_runVN (n := 0) C hw hS hml hl.1 (62 + 2 * i) 5 (by omega) (kd_h (by omega)) (by decide) rfl (c_X5_isMissing l g M hF i (by omega)) mn_700 mw_702 mw_38 mw_124 mw_703 rfl rfl (by decide +kernel) ⟨Nat.le_of_ble_eq_true rfl, Nat.le_of_ble_eq_true rfl⟩ rfl rfl (Nat.le_of_ble_eq_true rfl) dX7_copy_35 ⟨Nat.zero_le _, Nat.zero_le _⟩) hS (fun r35 M35 H locs hr35 hp hw hS => ?_)
      rcases hp with ⟨em35, (⟨er35, h35b⟩ | ⟨er35, h35b⟩)⟩
      · have hw : Wo g M H := em35 ▸ hw
        rw [er35]
        refine x_if_ne (tgt := 49) C ⟨by decide, by decide⟩ dX7_copy_38 (by decide) (fun _ => ?_) (fun h => absurd h (by decide))
        refine lv_bipush (v := II (-11)) C.1 C.2.1 dX7_copy_49 (by decide) ?_
        exact x_ireturn C hr hlk hw hS ⟨by decide, by decide⟩ rfl (by have e : r_copy Sh (i : Int) i0 (j : Int) j0 z = -11 := (by simp only [r_copy, Int.toNat_natCast]; rw [if_neg (by omega), if_pos (by rw [← q1, ← p1] at *; omega)]); unfold s_copy; rw [e, if_neg (by decide)]; exact ⟨rfl, hR, fun _ _ => rfl⟩) dX7_copy_51
      · have hw : Wo g M H := em35 ▸ hw
        rw [er35]
        refine x_if_ne (tgt := 49) C ⟨by decide, by decide⟩ dX7_copy_38 (by decide) (fun h => absurd h (by decide)) (fun _ => ?_)
        refine lv_aload C.1 C.2.1 dX7_copy_41 (lv_at hl 0 rfl) ?_
        refine x_ci (x_runVN (n := 0) C hw hS hml hl.1 (62 + 2 * j) 5 (by omega) (kd_h (by omega)) (by decide) rfl (c_X5_isMissing l g M hF j (by omega)) mn_700 mw_702 mw_38 mw_124 mw_703 rfl rfl (by decide +kernel) ⟨Nat.le_of_ble_eq_true rfl, Nat.le_of_ble_eq_true rfl⟩ rfl rfl (Nat.le_of_ble_eq_true rfl) dX7_copy_43 ⟨Nat.zero_le _, Nat.zero_le _⟩) hS (fun r43 M43 H locs hr43 hp hw hS => ?_)
        rcases hp with ⟨em43, (⟨er43, h43b⟩ | ⟨er43, h43b⟩)⟩
        · have hw : Wo g M H := em43 ▸ hw
          rw [er43]
          refine x_if_eq (tgt := 52) C ⟨by decide, by decide⟩ dX7_copy_46 (by decide) (fun h => absurd h (by decide)) (fun _ => ?_)
          refine lv_bipush (v := II (-11)) C.1 C.2.1 dX7_copy_49 (by decide) ?_
          exact x_ireturn C hr hlk hw hS ⟨by decide, by decide⟩ rfl (by have e : r_copy Sh (i : Int) i0 (j : Int) j0 z = -11 := (by simp only [r_copy, Int.toNat_natCast]; rw [if_neg (by omega), if_pos (by rw [← q1, ← p1] at *; omega)]); unfold s_copy; rw [e, if_neg (by decide)]; exact ⟨rfl, hR, fun _ _ => rfl⟩) dX7_copy_51
        · have hw : Wo g M H := em43 ▸ hw
          rw [er43]
          refine x_if_eq (tgt := 52) C ⟨by decide, by decide⟩ dX7_copy_46 (by decide) (fun _ => ?_) (fun h => absurd h (by decide))
          refine lv_aload C.1 C.2.1 dX7_copy_52 (lv_at hl 1 rfl) ?_
          refine gn5 C hw (62 + 2 * i) (by omega) (kd_h (by omega)) 1 (by decide) mn_331 (svi (x := Sh.1 i) ((hR.2.2.2 i (by omega)).1)) dX7_copy_54 ?_
          refine lv_aload C.1 C.2.1 dX7_copy_57 (lv_at hl 0 rfl) ?_
          refine gn5 C hw (62 + 2 * j) (by omega) (kd_h (by omega)) 1 (by decide) mn_331 (svi (x := Sh.1 j) ((hR.2.2.2 j (by omega)).1)) dX7_copy_59 ?_
          refine x_icmp_eq (tgt := 68) C ⟨by have := g_M (1000 * (62 + 2 * i) + 1); have := ((hR.2.2.2 i (by omega)).1); omega, by have := g_M (1000 * (62 + 2 * i) + 1); have := ((hR.2.2.2 i (by omega)).1); omega⟩ ⟨by have := g_M (1000 * (62 + 2 * j) + 1); have := ((hR.2.2.2 j (by omega)).1); omega, by have := g_M (1000 * (62 + 2 * j) + 1); have := ((hR.2.2.2 j (by omega)).1); omega⟩ dX7_copy_62 (by decide) (fun c62 => ?_) (fun c62 => ?_)
          · refine lv_aload C.1 C.2.1 dX7_copy_68 (lv_at hl 1 rfl) ?_
            refine lv_iload_n C.1 C.2.1 dX7_copy_70 rfl (lv_at hl 4 rfl) ?_
            refine lv_iload C.1 C.2.1 dX7_copy_71 (lv_at hl 7 rfl) ?_
            refine x_ci (x_runVN (n := 2) C hw hS hml hl.1 (62 + 2 * i) 5 (by omega) (kd_h (by omega)) (by decide) rfl (c_X5_holds l g M hF i (by omega) i0 gz_i0 z gz_z (by rw [q2]; omega)) mn_792 mw_794 mw_51 mw_124 mw_795 rfl rfl (by decide +kernel) ⟨Nat.le_of_ble_eq_true rfl, Nat.le_of_ble_eq_true rfl⟩ rfl rfl (Nat.le_of_ble_eq_true rfl) dX7_copy_73 ⟨Nat.zero_le _, Nat.zero_le _⟩) hS (fun r73 M73 H locs hr73 hp hw hS => ?_)
            rcases hp with ⟨em73, (⟨er73, h73b⟩ | ⟨er73, h73b⟩)⟩
            · have hw : Wo g M H := em73 ▸ hw
              rw [er73]
              refine x_if_eq (tgt := 91) C ⟨by decide, by decide⟩ dX7_copy_76 (by decide) (fun h => absurd h (by decide)) (fun _ => ?_)
              refine lv_aload C.1 C.2.1 dX7_copy_79 (lv_at hl 0 rfl) ?_
              refine lv_iload C.1 C.2.1 dX7_copy_81 (lv_at hl 6 rfl) ?_
              refine lv_iload C.1 C.2.1 dX7_copy_83 (lv_at hl 7 rfl) ?_
              refine x_ci (x_runVN (n := 2) C hw hS hml hl.1 (62 + 2 * j) 5 (by omega) (kd_h (by omega)) (by decide) rfl (c_X5_holds l g M hF j (by omega) j0 gz_j0 z gz_z (by rw [p2]; omega)) mn_792 mw_794 mw_51 mw_124 mw_795 rfl rfl (by decide +kernel) ⟨Nat.le_of_ble_eq_true rfl, Nat.le_of_ble_eq_true rfl⟩ rfl rfl (Nat.le_of_ble_eq_true rfl) dX7_copy_85 ⟨Nat.zero_le _, Nat.zero_le _⟩) hS (fun r85 M85 H locs hr85 hp hw hS => ?_)
              rcases hp with ⟨em85, (⟨er85, h85b⟩ | ⟨er85, h85b⟩)⟩
              · have hw : Wo g M H := em85 ▸ hw
                rw [er85]
                refine x_if_ne (tgt := 94) C ⟨by decide, by decide⟩ dX7_copy_88 (by decide) (fun _ => ?_) (fun h => absurd h (by decide))
                rw [q2] at h73b
                rw [p2] at h85b
                obtain ⟨x, rfl⟩ : ∃ i : Nat, i0 = (i : Int) := ⟨i0.toNat, by omega⟩
                obtain ⟨y, rfl⟩ : ∃ i : Nat, j0 = (i : Int) := ⟨j0.toNat, by omega⟩
                obtain ⟨k, rfl⟩ : ∃ i : Nat, z = (i : Int) := ⟨z.toNat, by omega⟩
                refine lv_aload C.1 C.2.1 dX7_copy_94 (lv_at hl 1 rfl) ?_
                refine gn5 C hw (62 + 2 * i) (by omega) (kd_h (by omega)) 0 (by decide) mn_329 (svr (rRow hF _ (by omega))) dX7_copy_96 ?_
                refine lv_iload_n C.1 C.2.1 dX7_copy_99 rfl (lv_at hl 4 rfl) ?_
                refine lv_aload C.1 C.2.1 dX7_copy_100 (lv_at hl 0 rfl) ?_
                refine gn5 C hw (62 + 2 * j) (by omega) (kd_h (by omega)) 0 (by decide) mn_329 (svr (rRow hF _ (by omega))) dX7_copy_102 ?_
                refine lv_iload C.1 C.2.1 dX7_copy_105 (lv_at hl 6 rfl) ?_
                refine lv_iload C.1 C.2.1 dX7_copy_107 (lv_at hl 7 rfl) ?_
                refine x_acopy (L0 := 40) (L1 := 40) C hw hS (hml.trans hl.1.symm) (63 + 2 * i) (by omega) (kd_r (by omega)) (ln_r (by omega)) (63 + 2 * j) (by omega) (kd_r (by omega)) (ln_r (by omega)) x y k (by omega) (by omega) (by decide) (by decide) mw_800 mw_479 mw_478 mw_129 (Nat.le_of_ble_eq_true rfl) (Nat.le_of_ble_eq_true rfl) dX7_copy_109 (fun H locs hw hS => ?_)
                have hw : Wo g (cpM M (1000 * (63 + 2 * i) + x) (1000 * (63 + 2 * j) + y) k) H := hw
                refine lv_iload C.1 C.2.1 dX7_copy_112 (lv_at hl 7 rfl) ?_
                exact x_ireturn C hr hlk hw hS ⟨by omega, by omega⟩ rfl (by
    have hc : ∀ m, ¬ (m / 1000 = 63 + 2 * j) → cpM M (1000 * (63 + 2 * i) + x) (1000 * (63 + 2 * j) + y) k m = M m := fun m hm => by unfold cpM; rw [if_neg (by omega)]
    have e : r_copy Sh (i : Int) (x : Int) (j : Int) (y : Int) (k : Int) = (k : Int) := by
      simp only [r_copy, Int.toNat_natCast]
      rw [if_neg (by omega), if_neg (by rw [q1] at *; rw [p1] at *; omega), if_neg (by omega), if_pos (by omega)]
    unfold s_copy
    rw [e, if_pos (by omega)]
    simp only [Int.toNat_natCast]
    refine ⟨trivial, hR.s4 hA ?_ (fun m hm => hc m (by omega)), fun m hm => hc m (by omega)⟩
    rw [← s_row_id]
    refine shtR hR.2.2.2 hA.sz (by show j < 4; omega) ((hc _ (by omega)).trans p1) ((hc _ (by omega)).trans p2) (fun r hr => ?_) (fun m hm _ => hc m (by omega))
    unfold cpM
    by_cases h : y ≤ r ∧ r < y + k
    · rw [if_pos (by omega), if_pos h, ← q3 (x + (r - y)) (by omega)]
      congr 1
      omega
    · rw [if_neg (by omega), if_neg h]; exact p3 r hr) dX7_copy_114
              · have hw : Wo g M H := em85 ▸ hw
                rw [er85]
                refine x_if_ne (tgt := 94) C ⟨by decide, by decide⟩ dX7_copy_88 (by decide) (fun h => absurd h (by decide)) (fun _ => ?_)
                refine lv_bipush (v := II (-12)) C.1 C.2.1 dX7_copy_91 (by decide) ?_
                exact x_ireturn C hr hlk hw hS ⟨by decide, by decide⟩ rfl (by have e : r_copy Sh (i : Int) i0 (j : Int) j0 z = -12 := (by simp only [r_copy, Int.toNat_natCast]; rw [if_neg (by omega), if_neg (by rw [q1] at *; rw [p1] at *; omega), if_neg (by omega), if_neg (by rw [q2, p2] at *; omega)]); unfold s_copy; rw [e, if_neg (by decide)]; exact ⟨rfl, hR, fun _ _ => rfl⟩) dX7_copy_93
            · have hw : Wo g M H := em73 ▸ hw
              rw [er73]
              refine x_if_eq (tgt := 91) C ⟨by decide, by decide⟩ dX7_copy_76 (by decide) (fun _ => ?_) (fun h => absurd h (by decide))
              refine lv_bipush (v := II (-12)) C.1 C.2.1 dX7_copy_91 (by decide) ?_
              exact x_ireturn C hr hlk hw hS ⟨by decide, by decide⟩ rfl (by have e : r_copy Sh (i : Int) i0 (j : Int) j0 z = -12 := (by simp only [r_copy, Int.toNat_natCast]; rw [if_neg (by omega), if_neg (by rw [q1] at *; rw [p1] at *; omega), if_neg (by omega), if_neg (by rw [q2, p2] at *; omega)]); unfold s_copy; rw [e, if_neg (by decide)]; exact ⟨rfl, hR, fun _ _ => rfl⟩) dX7_copy_93
          · refine lv_bipush (v := II (-13)) C.1 C.2.1 dX7_copy_65 (by decide) ?_
            exact x_ireturn C hr hlk hw hS ⟨by decide, by decide⟩ rfl (by have e : r_copy Sh (i : Int) i0 (j : Int) j0 z = -13 := (by simp only [r_copy, Int.toNat_natCast]; rw [if_neg (by omega), if_neg (by rw [q1] at *; rw [p1] at *; omega), if_pos c62]); unfold s_copy; rw [e, if_neg (by decide)]; exact ⟨rfl, hR, fun _ _ => rfl⟩) dX7_copy_67
    · have hw : Wo g M H := em8 ▸ hw
      rw [er8]
      refine x_if_ne (tgt := 17) C ⟨by decide, by decide⟩ dX7_copy_11 (by decide) (fun h => absurd h (by decide)) (fun _ => ?_)
      refine lv_bipush (v := II (-2)) C.1 C.2.1 dX7_copy_14 (by decide) ?_
      exact x_ireturn C hr hlk hw hS ⟨by decide, by decide⟩ rfl (by have e : r_copy Sh s0 i0 o0 j0 z = -2 := (by simp only [r_copy, Int.toNat_natCast]; rw [if_pos (fun z => by first | exact h8b z.2 | exact h1b z.1)]); unfold s_copy; rw [e, if_neg (by decide)]; exact ⟨rfl, hR, fun _ _ => rfl⟩) dX7_copy_16
  · have hw : Wo g M H := em1 ▸ hw
    rw [er1]
    refine x_if_eq (tgt := 14) C ⟨by decide, by decide⟩ dX7_copy_4 (by decide) (fun _ => ?_) (fun h => absurd h (by decide))
    refine lv_bipush (v := II (-2)) C.1 C.2.1 dX7_copy_14 (by decide) ?_
    exact x_ireturn C hr hlk hw hS ⟨by decide, by decide⟩ rfl (by have e : r_copy Sh s0 i0 o0 j0 z = -2 := (by simp only [r_copy, Int.toNat_natCast]; rw [if_pos (fun z => by first | exact h8b z.2 | exact h1b z.1)]); unfold s_copy; rw [e, if_neg (by decide)]; exact ⟨rfl, hR, fun _ _ => rfl⟩) dX7_copy_16
