/-! far memory does not matter -/
theorem RepC.far {M M' : Nat → Int} {b : Bor} {X : Txt} {I : Option Bor} {Sh : Sht} (h : RepC M b X I Sh) (hA : InvA b X I Sh) (hf : ∀ m, m < 70000 → M' m = M m) : RepC M' b X I Sh :=
  ⟨h.1.fr hA.1.1 (fun m hm => hf m (by omega)), h.2.1.fr ⟨hA.2.1.2, hA.2.2.1.1⟩ (fun m hm => hf m (by omega)), h.2.2.1.fr hA.im (fun m hm => hf m (by omega)), h.2.2.2.fr hA.sz (fun m hm => hf m (by omega))⟩
theorem RepM.far {M M' : Nat → Int} {b : Bor} {X : Txt} {I : Option Bor} {Sh : Sht} (h : RepM M b X I Sh) (hA : InvA b X I Sh) (hf : ∀ m, 70000 ≤ m → M' m = M m) : RepM M' b X I Sh := h.fr hA (fun m _ hm => hf m hm)
/-! each step keeps the state in its bounds -/
section INV
variable {n : Nat} {v : Nat → Nat → Int} {nt pd : Int} {t : Nat} {X : Txt} {I : Option Bor} {Sh : Sht}
theorem InvA.night (h : InvA (n, v, nt, pd, t) X I Sh) : InvA (n, v, nt_night nt, pd_night v n nt (X.2.1 t) pd, t) X I Sh := by
  obtain ⟨⟨h1, h2, h3, h4, h5, h6⟩, h7, h8, h9, h10⟩ := h
  dsimp only at h1 h2 h3 h4 h5 h6
  refine ⟨⟨h1, h2, h3, ?_, ?_, h6⟩, h7, h8, h9, h10⟩
  · show 0 ≤ nt_night nt ∧ nt_night nt ≤ 999
    unfold nt_night
    split <;> omega
  · show 0 ≤ pd_night v n nt (X.2.1 t) pd ∧ pd_night v n nt (X.2.1 t) pd ≤ 999999999
    unfold pd_night
    split
    · exact h5
    · unfold bnd
      (repeat' split) <;> omega
theorem InvA.set (h : InvA (n, v, nt, pd, t) X I Sh) (w q x : Int) : InvA (n, v_set v n w q x, nt_set n nt w q x, pd, t) X I Sh := by
  obtain ⟨⟨h1, h2, h3, h4, h5, h6⟩, h7, h8, h9, h10⟩ := h
  dsimp only at h1 h2 h3 h4 h5 h6
  have key : okS n w q x = true → (w = 0 → 0 ≤ x ∧ x ≤ 999) ∧ (w ≠ 0 → okF w.toNat x ∧ 1 ≤ w.toNat ∧ (w.toNat = 2 → 0 ≤ x)) := by
    intro hk
    unfold okS at hk
    simp only [decide_eq_true_eq] at hk
    obtain ⟨hw, -, hx⟩ := hk
    rcases (show w = 0 ∨ w = 1 ∨ w = 2 ∨ w = 3 ∨ w = 4 by omega) with rfl | rfl | rfl | rfl | rfl
    · have hx : (0 : Int) ≤ x ∧ x ≤ 999 := hx
      exact ⟨fun _ => hx, fun e => absurd rfl e⟩
    · have hx : (0 : Int) ≤ x ∧ x ≤ 9 := hx
      refine ⟨fun e => absurd e (by decide), fun _ => ?_⟩
      show okF 1 x ∧ 1 ≤ 1 ∧ (1 = 2 → 0 ≤ x)
      unfold okF
      omega
    · have hx : (0 : Int) ≤ x ∧ x ≤ 4 := hx
      refine ⟨fun e => absurd e (by decide), fun _ => ?_⟩
      show okF 2 x ∧ 1 ≤ 2 ∧ (2 = 2 → 0 ≤ x)
      unfold okF
      omega
    · have hx : (-20 : Int) ≤ x ∧ x ≤ 20 := hx
      refine ⟨fun e => absurd e (by decide), fun _ => ?_⟩
      show okF 3 x ∧ 1 ≤ 3 ∧ (3 = 2 → 0 ≤ x)
      unfold okF
      omega
    · have hx : (0 : Int) ≤ x ∧ x ≤ 63 := hx
      refine ⟨fun e => absurd e (by decide), fun _ => ?_⟩
      show okF 4 x ∧ 1 ≤ 4 ∧ (4 = 2 → 0 ≤ x)
      unfold okF
      omega
  have hnt : 0 ≤ nt_set n nt w q x ∧ nt_set n nt w q x ≤ 999 := by
    unfold nt_set
    split
    · rename_i hc
      simp only [Bool.and_eq_true, decide_eq_true_eq] at hc
      exact (key hc.1).1 hc.2
    · exact h4
  by_cases hc : (okS n w q x && decide (w ≠ 0)) = true
  · have e : v_set v n w q x = upv v q.toNat w.toNat x := if_pos hc
    rw [e]
    simp only [Bool.and_eq_true, decide_eq_true_eq] at hc
    obtain ⟨k1, k2, k3⟩ := (key hc.1).2 hc.2
    refine ⟨⟨h1, h2.okF k1, fun p hp => ?_, hnt, h5, h6⟩, h7, h8, fun b2 e2 => ⟨(h9 b2 e2).1, (h9 b2 e2).2.1, fun p hp => ?_⟩, h10⟩
    · show 0 ≤ upv v q.toNat w.toNat x p 2
      unfold upv
      split
      · rename_i hh; exact k3 hh.2.symm
      · exact h3 p hp
    · show b2.2.1 p 0 = upv v q.toNat w.toNat x p 0
      unfold upv
      rw [if_neg (by omega)]
      exact (h9 b2 e2).2.2 p hp
  · have e : v_set v n w q x = v := if_neg hc
    rw [e]
    exact ⟨⟨h1, h2, h3, hnt, h5, h6⟩, h7, h8, h9, h10⟩
theorem InvA.force (h : InvA (n, v, nt, pd, t) X I Sh) (x : Int) : InvA (n, v, nt, pd, t_force X t x) X I Sh := by
  obtain ⟨⟨h1, h2, h3, h4, h5, h6⟩, h7, h8, h9, h10⟩ := h
  refine ⟨⟨h1, h2, h3, h4, h5, ?_⟩, h7, h8, h9, h10⟩
  show t_force X t x < X.1
  unfold t_force
  split
  · omega
  · exact h6
theorem InvA.row {b : Bor} (h : InvA b X I Sh) {i : Nat} {so z : Int} (f : Nat → Int) (hs : (so = -1 ∧ z = 0) ∨ ((0 ≤ so ∧ so ≤ 2) ∧ 0 ≤ z ∧ z ≤ 40)) : InvA b X I (s_row Sh i so z f) := by
  refine ⟨h.1, h.2.1, h.2.2.1, h.2.2.2.1, fun k hk => ?_⟩
  have := h.2.2.2.2 k hk
  unfold s_row up1
  dsimp only
  by_cases e : k = i
  · rw [if_pos e, if_pos e]; exact hs
  · rw [if_neg e, if_neg e]; exact this
theorem InvA.items {b : Bor} (h : InvA b X I Sh) (F : Nat → Nat → Int) : InvA b X I (Sh.1, Sh.2.1, F) := ⟨h.1, h.2.1, h.2.2.1, h.2.2.2.1, h.2.2.2.2⟩
theorem InvA.sheet {b : Bor} (h : InvA b X I Sh) (s0 so z : Int) : InvA b X I (s_sheet Sh s0 so z) := by
  unfold s_sheet
  split
  · rename_i hc
    simp only [Bool.and_eq_true, okSh, decide_eq_true_eq] at hc
    refine h.row _ ?_
    split
    · exact Or.inl ⟨by assumption, rfl⟩
    · exact Or.inr ⟨by omega, by omega⟩
  · exact h
theorem InvA.cell {b : Bor} (h : InvA b X I Sh) (s0 i0 x : Int) : InvA b X I (s_cell Sh s0 i0 x) := by
  unfold s_cell
  split
  · exact h.items _
  · exact h
theorem InvA.copy {b : Bor} (h : InvA b X I Sh) (s0 i0 o0 j0 z : Int) : InvA b X I (s_copy Sh s0 i0 o0 j0 z) := by
  unfold s_copy
  split
  · exact h.items _
  · exact h
theorem InvA.film {b : Bor} (h : InvA b X I Sh) (E : Ev) (s0 ho : Int) : InvA b X I (s_film Sh v n nt E s0 ho) := by
  unfold s_film
  split
  · exact h.row _ (Or.inr ⟨by decide, by decide⟩)
  · exact h
theorem InvA.image {b : Bor} (h : InvA b X I Sh) : InvA b X (some b) Sh := ⟨h.1, h.2.1, h.2.2.1, fun b2 e => (by cases e; exact ⟨h.1, Nat.le_refl _, fun _ _ => rfl⟩), h.2.2.2.2⟩
theorem InvA.back {b : Bor} (h : InvA b X I Sh) : InvA (b_back I b) X I Sh := by
  cases I with
  | none => exact h
  | some b2 => exact ⟨(h.2.2.2.1 b2 rfl).1, h.2.1, h.2.2.1, fun b3 e => (by cases e; exact ⟨(h.2.2.2.1 b2 rfl).1, Nat.le_refl _, fun _ _ => rfl⟩), h.2.2.2.2⟩
theorem InvA.tnR (w : Nat → Int) (sz fr : Int) : ∀ (r i : Nat) (c : Int) (n : Nat) (v : Nat → Nat → Int), InvA (n, v, nt, pd, t) X I Sh → InvA ((tnR w sz fr r i c n v).2.1, (tnR w sz fr r i c n v).2.2, nt, pd, t) X I Sh
  | 0, _, _, _, _, h => h
  | r + 1, i, c, n, v, h => by
    rw [Pilot.CRatedBySighsLaw_law_r3387_9c704d.tnR]
    split
    · exact InvA.tnR w sz fr r (i + 1) _ _ _ (h.ten _ _ _)
    · exact h
theorem InvA.tens (h : InvA (n, v, nt, pd, t) X I Sh) (s0 so fr z : Int) : InvA ((s_tens n v Sh s0 so fr z).2.1, (s_tens n v Sh s0 so fr z).2.2, nt, pd, t) X I Sh := by
  unfold s_tens
  split
  · exact h
  · split
    · exact h
    · split
      · exact h
      · exact InvA.tnR _ _ _ _ _ _ _ _ h
theorem InvA.feed {b : Bor} (h : InvA b X I Sh) (x : Int) : InvA b (x_feed X x) I Sh := by
  unfold x_feed
  split
  · rename_i hc
    refine ⟨h.1, h.2.1, ⟨by have := h.2.2.1.1; show X.2.2.1 + 1 ≤ 160; omega, fun i hi => ?_⟩, h.2.2.2.1, h.2.2.2.2⟩
    show 0 ≤ up1 X.2.2.2 X.2.2.1 x i ∧ up1 X.2.2.2 X.2.2.1 x i ≤ 255
    unfold up1
    split
    · omega
    · have hi2 : i < X.2.2.1 + 1 := hi
      exact h.2.2.1.2 i (by omega)
  · exact h
theorem BorI.mono {b : Bor} {a c : Nat} (h : BorI b a) (hc : a ≤ c) : BorI b c := ⟨h.1, h.2.1, h.2.2.1, h.2.2.2.1, h.2.2.2.2.1, Nat.lt_of_lt_of_le h.2.2.2.2.2 hc⟩
theorem InvA.text {b : Bor} (h : InvA b X I Sh) : InvA b (x_text X) I Sh := by
  unfold x_text
  split
  · exact h
  · rename_i h6
    have hx := h.2.1
    split
    · exact ⟨h.1, h.2.1, ⟨Nat.zero_le _, fun i hi => absurd hi (Nat.not_lt_zero _)⟩, h.2.2.2.1, h.2.2.2.2⟩
    · refine ⟨h.1.mono (Nat.le_succ _), ⟨by show 1 ≤ X.1 + 1; omega, by show X.1 + 1 ≤ 6; omega⟩, ⟨Nat.zero_le _, fun i hi => absurd hi (Nat.not_lt_zero _)⟩, fun b2 e => ⟨(h.2.2.2.1 b2 e).1.mono (Nat.le_succ _), (h.2.2.2.1 b2 e).2⟩, h.2.2.2.2⟩
end INV
/-! the loudest, found in one row of thirty -/
def flS (v : Nat → Nat → Int) (n : Nat) (nt : Int) (E : Ev) : Nat → Int × Int
  | 0 => (0, -1)
  | k + 1 => gr (flS v n nt E k) ((10 * ((k : Int) / 6)) + ((k : Int) % 6)) (reedS v n nt E ((k : Int) / 6) (k % 6))
theorem flS_row {v : Nat → Nat → Int} {n : Nat} {nt : Int} {E : Ev} (i : Nat) : ∀ h, h ≤ 6 → flS v n nt E (6 * i + h) = ld1 v n nt E i (flS v n nt E (6 * i)) h
  | 0, _ => rfl
  | h + 1, hh => by
    show flS v n nt E ((6 * i + h) + 1) = _
    rw [flS, ld1, flS_row i h (by omega), show ((6 * i + h : Nat) : Int) / 6 = (i : Int) by omega, show ((6 * i + h : Nat) : Int) % 6 = (h : Int) by omega, show (6 * i + h) % 6 = h by omega]
theorem flS_ld {v : Nat → Nat → Int} {n : Nat} {nt : Int} {E : Ev} : ∀ i, flS v n nt E (6 * i) = ldA v n nt E i
  | 0 => rfl
  | i + 1 => by
    rw [show 6 * (i + 1) = 6 * i + 6 by omega, flS_row i 6 (by omega), flS_ld i]
    rfl
theorem flS_in {v : Nat → Nat → Int} {n : Nat} {nt : Int} {E : Ev} (hn : n ≤ 8) : ∀ k, k ≤ 30 → (0 ≤ (flS v n nt E k).1 ∧ (flS v n nt E k).1 ≤ 45) ∧ (-1 ≤ (flS v n nt E k).2 ∧ (flS v n nt E k).2 ≤ 3000)
  | 0, _ => ⟨⟨Int.le_refl _, by show (0 : Int) ≤ 45; decide⟩, by show (-1 : Int) ≤ -1; decide, by show (-1 : Int) ≤ 3000; decide⟩
  | k + 1, h => by
    have := reedS_in v n nt E ((k : Int) / 6) (k % 6)
    exact gr_in (flS_in hn k (by omega)) (by omega) (by omega)
theorem gr_lt {b : Int × Int} {w x : Int} (h : b.2 < x) : gr b w x = (w, x) := if_pos h
theorem gr_ge {b : Int × Int} {w x : Int} (h : ¬ b.2 < x) : gr b w x = b := if_neg h
set_option maxHeartbeats 4000000 in
set_option maxRecDepth 100000 in
theorem c_X8_loudest (l : Launch) (g : Gm) (M : Nat → Int) (hF : LvF g) (n : Nat) (v : Nat → Nat → Int) (nt : Int) (pd : Int) (t : Nat) (X : Txt) (I : Option Bor) (Sh : Sht) (hR : RepM M (n, v, nt, pd, t) X I Sh) (hA : InvA (n, v, nt, pd, t) X I Sh) (w : Int) (gz_w : rg w) : CI l ({ cls := "RatedBySighsModel", name := "loudest", desc := "(I)I" } : Jvm.MethodName) cX8_loudest 6 .int (rmm 44 978) g M [.ref (gA g 70), .int (II w)] (fun r M' => r = r_best (ldA v n nt (X.2.1 t) 5) w ∧ (RepM M' (n, v, nt, pd, t) X I Sh) ∧ (∀ m, m < 70000 → M' m = M m)) := by
  refine c_start (by decide) (Nat.le_of_ble_eq_true rfl) (fun p e s m below meth c ls C hr hlk hml hw hS hl => ?_)
  have hl : lv_has ls 6 [(0, .ref (gA g 70)), (1, .int (II w))] := hl
  generalize ([.ref (gA g 70), .int (II w)] : List Value).toArray = args at C ⊢
  generalize hQQ : MQ below (postI g (fun r M' => r = r_best (ldA v n nt (X.2.1 t) 5) w ∧ (RepM M' (n, v, nt, pd, t) X I Sh) ∧ (∀ m, m < 70000 → M' m = M m))) args s 0 0 (ar g) = QQ
  have g_M := hw.rg
  have hN : gN g = 84 := hF.1
  have hM : MB M n v nt t (X.2.1 t) (-1) := hR.mb hA
  have hn2 : n ≤ 8 := hM.1.2
  have hnt := hM.2.2.2.1.2
  have hpd : 0 ≤ pd ∧ pd ≤ 999999999 := hA.1.2.2.2.2.1
  have htc := hA.2.1
  have hts := hA.2.2.1.1
  have ht9 : t < X.1 := hA.1.2.2.2.2.2
  refine lv_iload_n C.1 C.2.1 dX8_loudest_0 rfl (lv_at hl 1 rfl) ?_
  refine x_i2l C gz_w dX8_loudest_1 ?_
  refine lv_lconst (v := LL 0) C.1 C.2.1 dX8_loudest_2 (by decide) ?_
  refine lv_lconst (v := LL 1) C.1 C.2.1 dX8_loudest_3 (by decide) ?_
  refine x_ci (x_runS (n := 3) C hw hS hml hl.1 (c_X8_in l g M w gz_w 0 ⟨by decide, by decide⟩ 1 ⟨by decide, by decide⟩) mw_957 mw_958 mw_130 mw_959 rfl rfl (by decide +kernel) ⟨Nat.le_of_ble_eq_true rfl, Nat.le_of_ble_eq_true rfl⟩ rfl rfl (Nat.le_of_ble_eq_true rfl) dX8_loudest_4 ⟨Nat.zero_le _, Nat.zero_le _⟩) hS (fun r4 M4 H locs hr4 hp hw hS => ?_)
  rcases hp with ⟨em4, (⟨er4, h4b⟩ | ⟨er4, h4b⟩)⟩
  · have hw : Wo g M H := em4 ▸ hw
    rw [er4]
    refine x_if_ne (tgt := 13) C ⟨by decide, by decide⟩ dX8_loudest_7 (by decide) (fun _ => ?_) (fun h => absurd h (by decide))
    have hw9 : 0 ≤ w ∧ w ≤ 1 := h4b
    refine lv_aload_n C.1 C.2.1 dX8_loudest_13 rfl (lv_at hl 0 rfl) ?_
    refine x_cv (x_runV (n := 0) C hw hS hml hl.1 70 8 (by omega) rfl (by decide) rfl (c_X8_gathers l g M hF n v nt t (X.2.1 t) (-1) hM) mw_979 mw_981 mw_54 mw_130 mw_982 rfl rfl (by decide +kernel) ⟨Nat.le_of_ble_eq_true rfl, Nat.le_of_ble_eq_true rfl⟩ rfl rfl (Nat.le_of_ble_eq_true rfl) dX8_loudest_14 ⟨Nat.zero_le _, Nat.zero_le _⟩) hS (fun M14 H locs hp hw hS => ?_)
    obtain ⟨h14a, h14f⟩ := hp
    have g_M14 := hw.rg
    have h14f2 : ∀ m, ¬ sc4 m → M14 m = M m := fun m hm => h14f m (fun z => hm (Or.inl z))
    refine lv_iconst (v := II 0) C.1 C.2.1 dX8_loudest_17 rfl ?_
    refine lv_istore_n (lv' := [(2, .int (II 0)), (0, .ref (gA g 70)), (1, .int (II w))]) C.1 C.2.1 dX8_loudest_18 rfl hl (by decide) rfl (fun ls hl => ?_)
    refine lv_aload_n C.1 C.2.1 dX8_loudest_19 rfl (lv_at hl 1 rfl) ?_
    refine lv_iconst (v := II 0) C.1 C.2.1 dX8_loudest_20 rfl ?_
    refine lv_iconst (v := II 0) C.1 C.2.1 dX8_loudest_21 rfl ?_
    refine x_ci (x_runV (n := 2) C hw hS hml hl.1 70 8 (by omega) rfl (by decide) rfl (c_X8_reedOf l g M14 hF n v nt t (X.2.1 t) (hM.fr h14f) (fun p hp hg h hh => (h14a p hp hg h hh).2) 0 ⟨by decide, by decide⟩ 0 (by omega)) mw_1231 mw_1233 mw_108 mw_130 mw_1234 rfl rfl (by decide +kernel) ⟨Nat.le_of_ble_eq_true rfl, Nat.le_of_ble_eq_true rfl⟩ rfl rfl (Nat.le_of_ble_eq_true rfl) dX8_loudest_22 ⟨Nat.zero_le _, Nat.zero_le _⟩) hS (fun r22 M22 H locs hr22 hp hw hS => ?_)
    obtain ⟨em22, er22⟩ := hp
    have hw : Wo g M14 H := em22 ▸ hw
    rw [er22] at hr22 ⊢
    have hre0 := reedS_in v n nt (X.2.1 t) 0 0
    refine lv_istore_n (lv' := [(3, .int (II (reedS v n nt (X.2.1 t) 0 0))), (2, .int (II 0)), (0, .ref (gA g 70)), (1, .int (II w))]) C.1 C.2.1 dX8_loudest_25 rfl hl (by decide) rfl (fun ls hl => ?_)
    refine lv_iconst (v := II 1) C.1 C.2.1 dX8_loudest_26 rfl ?_
    refine lv_istore (lv' := [(4, .int (II 1)), (3, .int (II (reedS v n nt (X.2.1 t) 0 0))), (2, .int (II 0)), (0, .ref (gA g 70)), (1, .int (II w))]) C.1 C.2.1 dX8_loudest_27 hl (by decide) rfl (fun ls hl => ?_)
    have L29 : ∀ (f1 : Nat) (k : Nat), (30 - k) < f1 → (1 ≤ k ∧ k ≤ 30) → ∀ (H : Heap) (locs : List Loc) (ls : Array Slot), Wo g M14 H → va_S (ar g) s.heap H locs → lv_has ls 6 [(0, .ref (gA g 70)), (1, .int (II w)), (2, .int (II ((flS v n nt (X.2.1 t) k).1))), (3, .int (II ((flS v n nt (X.2.1 t) k).2))), (4, .int (II (k : Int)))] → W p l e (rmm 44 978) s m args below meth c H locs 0 0 QQ (F0 m 29 ls []) := by
      intro f1
      induction f1 with
      | zero => intro k hmu; exact absurd hmu (Nat.not_lt_zero _)
      | succ f1 ih =>
        intro k hmu h1 H locs ls hw hS hl
        have ih29 := ih
        refine lv_iload C.1 C.2.1 dX8_loudest_29 (lv_at hl 4 rfl) ?_
        refine lv_bipush (v := II 30) C.1 C.2.1 dX8_loudest_31 (by decide) ?_
        refine x_icmp_ge (tgt := 82) C ⟨by omega, by omega⟩ ⟨by decide, by decide⟩ dX8_loudest_33 (by decide) (fun c33 => ?_) (fun c33 => ?_)
        · have hfi := flS_in (v := v) (nt := nt) (E := (X.2.1 t)) hM.1.2 k (by omega)
          refine lv_iload_n C.1 C.2.1 dX8_loudest_82 rfl (lv_at hl 1 rfl) ?_
          refine x_if_ne (tgt := 90) C gz_w dX8_loudest_83 (by decide) (fun c83 => ?_) (fun c83 => ?_)
          · refine lv_iload_n C.1 C.2.1 dX8_loudest_90 rfl (lv_at hl 3 rfl) ?_
            subst hQQ; exact x_ireturn C hr hlk hw hS ⟨by omega, by omega⟩ rfl ⟨(by have ek : k = 30 := (by omega); subst ek; have e9 : ldA v n nt (X.2.1 t) 5 = flS v n nt (X.2.1 t) 30 := (flS_ld 5).symm; rw [e9]; unfold r_best; (repeat' split) <;> first | rfl | omega), (hR.fr hA (fun m hm _ => h14f2 m hm)), (fun m hm => h14f2 m (by unfold sc4 scm; omega))⟩ dX8_loudest_91
          · refine lv_iload_n C.1 C.2.1 dX8_loudest_86 rfl (lv_at hl 2 rfl) ?_
            refine lv_goto (tgt := 91) C.1 C.2.1 dX8_loudest_87 (by decide) ?_
            subst hQQ; exact x_ireturn C hr hlk hw hS ⟨by omega, by omega⟩ rfl ⟨(by have ek : k = 30 := (by omega); subst ek; have e9 : ldA v n nt (X.2.1 t) 5 = flS v n nt (X.2.1 t) 30 := (flS_ld 5).symm; rw [e9]; unfold r_best; (repeat' split) <;> first | rfl | omega), (hR.fr hA (fun m hm _ => h14f2 m hm)), (fun m hm => h14f2 m (by unfold sc4 scm; omega))⟩ dX8_loudest_91
        · have hfi := flS_in (v := v) (nt := nt) (E := (X.2.1 t)) hM.1.2 k (by omega)
          have hre := reedS_in v n nt (X.2.1 t) ((k : Int) / 6) (k % 6)
          refine lv_aload_n C.1 C.2.1 dX8_loudest_36 rfl (lv_at hl 0 rfl) ?_
          refine lv_iload C.1 C.2.1 dX8_loudest_37 (lv_at hl 4 rfl) ?_
          refine lv_bipush (v := II 6) C.1 C.2.1 dX8_loudest_39 (by decide) ?_
          refine x_idiv C (by omega) ⟨by omega, by omega⟩ (by omega) ⟨by decide, by decide⟩ dX8_loudest_41 ?_
          refine lv_iload C.1 C.2.1 dX8_loudest_42 (lv_at hl 4 rfl) ?_
          refine lv_bipush (v := II 6) C.1 C.2.1 dX8_loudest_44 (by decide) ?_
          refine x_irem C (by omega) ⟨by omega, by omega⟩ (by omega) ⟨by decide, by decide⟩ dX8_loudest_46 ?_
          refine x_ci (x_runV (n := 2) C hw hS hml hl.1 70 8 (by omega) rfl (by decide) rfl (c_X8_reedOf l g M14 hF n v nt t (X.2.1 t) (hM.fr h14f) (fun p hp hg h hh => (h14a p hp hg h hh).2) ((k : Int) / 6) ⟨by omega, by omega⟩ (k % 6) (by omega)) mw_1231 mw_1233 mw_108 mw_130 mw_1234 rfl rfl (by decide +kernel) ⟨Nat.le_of_ble_eq_true rfl, Nat.le_of_ble_eq_true rfl⟩ rfl rfl (Nat.le_of_ble_eq_true rfl) dX8_loudest_47 ⟨Nat.zero_le _, Nat.zero_le _⟩) hS (fun r47 M47 H locs hr47 hp hw hS => ?_)
          obtain ⟨em47, er47⟩ := hp
          have hw : Wo g M14 H := em47 ▸ hw
          rw [er47] at hr47 ⊢
          refine lv_istore (lv' := [(5, .int (II (reedS v n nt (X.2.1 t) ((k : Int) / 6) (k % 6)))), (0, .ref (gA g 70)), (1, .int (II w)), (2, .int (II ((flS v n nt (X.2.1 t) k).1))), (3, .int (II ((flS v n nt (X.2.1 t) k).2))), (4, .int (II (k : Int)))]) C.1 C.2.1 dX8_loudest_50 hl (by decide) rfl (fun ls hl => ?_)
          refine lv_iload C.1 C.2.1 dX8_loudest_52 (lv_at hl 0 rfl) ?_
          refine lv_iload_n C.1 C.2.1 dX8_loudest_54 rfl (lv_at hl 4 rfl) ?_
          refine x_icmp_le (tgt := 76) C hr47 ⟨by omega, by omega⟩ dX8_loudest_55 (by decide) (fun c55 => ?_) (fun c55 => ?_)
          · refine lv_iinc (v := II ((k : Int) + 1)) (lv' := [(4, .int (II ((k : Int) + 1))), (5, .int (II (reedS v n nt (X.2.1 t) ((k : Int) / 6) (k % 6)))), (0, .ref (gA g 70)), (1, .int (II w)), (2, .int (II ((flS v n nt (X.2.1 t) k).1))), (3, .int (II ((flS v n nt (X.2.1 t) k).2)))]) C.1 C.2.1 dX8_loudest_76 hl (k := 5) rfl (II_add _ _) (by decide) rfl (fun ls hl => ?_)
            refine lv_goto (tgt := 29) C.1 C.2.1 dX8_loudest_79 (by decide) ?_
            have eg : (flS v n nt (X.2.1 t) (k + 1)) = (flS v n nt (X.2.1 t) k) := by rw [flS]; exact gr_ge (by omega)
            have hl : lv_has ls 6 [(4, .int (II ((k : Int) + 1))), (5, .int (II (reedS v n nt (X.2.1 t) ((k : Int) / 6) (k % 6)))), (0, .ref (gA g 70)), (1, .int (II w)), (2, .int (II ((flS v n nt (X.2.1 t) (k + 1)).1))), (3, .int (II ((flS v n nt (X.2.1 t) (k + 1)).2)))] := by rw [eg]; exact hl
            exact ih29  (k + 1) (by omega) (by omega) _ _ _ hw hS (lv_sub hl [2, 3, 4, 5, 0] rfl)
          · skip
            refine lv_bipush (v := II 10) C.1 C.2.1 dX8_loudest_58 (by decide) ?_
            refine lv_iload C.1 C.2.1 dX8_loudest_60 (lv_at hl 5 rfl) ?_
            refine lv_bipush (v := II 6) C.1 C.2.1 dX8_loudest_62 (by decide) ?_
            refine x_idiv C (by omega) ⟨by omega, by omega⟩ (by omega) ⟨by decide, by decide⟩ dX8_loudest_64 ?_
            refine x_imul C dX8_loudest_65 ?_
            refine lv_iload C.1 C.2.1 dX8_loudest_66 (lv_at hl 5 rfl) ?_
            refine lv_bipush (v := II 6) C.1 C.2.1 dX8_loudest_68 (by decide) ?_
            refine x_irem C (by omega) ⟨by omega, by omega⟩ (by omega) ⟨by decide, by decide⟩ dX8_loudest_70 ?_
            refine x_iadd C dX8_loudest_71 ?_
            refine lv_istore_n (lv' := [(2, .int (II ((10 * ((k : Int) / 6)) + ((k : Int) % 6)))), (5, .int (II (reedS v n nt (X.2.1 t) ((k : Int) / 6) (k % 6)))), (0, .ref (gA g 70)), (1, .int (II w)), (3, .int (II ((flS v n nt (X.2.1 t) k).2))), (4, .int (II (k : Int)))]) C.1 C.2.1 dX8_loudest_72 rfl hl (by decide) rfl (fun ls hl => ?_)
            refine lv_iload C.1 C.2.1 dX8_loudest_73 (lv_at hl 1 rfl) ?_
            refine lv_istore_n (lv' := [(3, .int (II (reedS v n nt (X.2.1 t) ((k : Int) / 6) (k % 6)))), (2, .int (II ((10 * ((k : Int) / 6)) + ((k : Int) % 6)))), (5, .int (II (reedS v n nt (X.2.1 t) ((k : Int) / 6) (k % 6)))), (0, .ref (gA g 70)), (1, .int (II w)), (4, .int (II (k : Int)))]) C.1 C.2.1 dX8_loudest_75 rfl hl (by decide) rfl (fun ls hl => ?_)
            refine lv_iinc (v := II ((k : Int) + 1)) (lv' := [(4, .int (II ((k : Int) + 1))), (3, .int (II (reedS v n nt (X.2.1 t) ((k : Int) / 6) (k % 6)))), (2, .int (II ((10 * ((k : Int) / 6)) + ((k : Int) % 6)))), (5, .int (II (reedS v n nt (X.2.1 t) ((k : Int) / 6) (k % 6)))), (0, .ref (gA g 70)), (1, .int (II w))]) C.1 C.2.1 dX8_loudest_76 hl (k := 5) rfl (II_add _ _) (by decide) rfl (fun ls hl => ?_)
            refine lv_goto (tgt := 29) C.1 C.2.1 dX8_loudest_79 (by decide) ?_
            have eg : (flS v n nt (X.2.1 t) (k + 1)) = ((10 * ((k : Int) / 6)) + ((k : Int) % 6), reedS v n nt (X.2.1 t) ((k : Int) / 6) (k % 6)) := by rw [flS]; exact gr_lt (by omega)
            have hl : lv_has ls 6 [(4, .int (II ((k : Int) + 1))), (3, .int (II ((flS v n nt (X.2.1 t) (k + 1)).2))), (2, .int (II ((flS v n nt (X.2.1 t) (k + 1)).1))), (5, .int (II (reedS v n nt (X.2.1 t) ((k : Int) / 6) (k % 6)))), (0, .ref (gA g 70)), (1, .int (II w))] := by rw [eg]; exact hl
            exact ih29  (k + 1) (by omega) (by omega) _ _ _ hw hS (lv_sub hl [4, 5, 2, 1, 0] rfl)
    have eg : flS v n nt (X.2.1 t) 1 = ((0 : Int), reedS v n nt (X.2.1 t) 0 0) := gr_lt (b := (0, -1)) (by show (-1 : Int) < reedS v n nt (X.2.1 t) 0 0; omega)
    have hl : lv_has ls 6 [(4, .int (II 1)), (3, .int (II ((flS v n nt (X.2.1 t) 1).2))), (2, .int (II ((flS v n nt (X.2.1 t) 1).1))), (0, .ref (gA g 70)), (1, .int (II w))] := by rw [eg]; exact hl
    exact L29 _ 1 (Nat.lt_succ_self _) (by omega) _ _ _ hw hS (lv_sub hl [3, 4, 2, 1, 0] rfl)
  · have hw : Wo g M H := em4 ▸ hw
    rw [er4]
    refine x_if_ne (tgt := 13) C ⟨by decide, by decide⟩ dX8_loudest_7 (by decide) (fun h => absurd h (by decide)) (fun _ => ?_)
    have hw9 : ¬ (0 ≤ w ∧ w ≤ 1) := h4b
    refine lv_bipush (v := II (-2)) C.1 C.2.1 dX8_loudest_10 (by decide) ?_
    subst hQQ; exact x_ireturn C hr hlk hw hS ⟨by decide, by decide⟩ rfl ⟨(by unfold r_best; rw [if_neg (by omega), if_neg (by omega)]), hR, (fun _ _ => rfl)⟩ dX8_loudest_12
