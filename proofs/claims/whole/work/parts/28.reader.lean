def NX (M M' : Nat → Int) (b : Nat → Int) (n i : Nat) : Prop := (M' 45002 = ((tE b n i : Nat) : Int) ∧ M' 45003 = tK b n i ∧ M' 45004 = ((tS b n i : Nat) : Int) ∧ (tK b n i = 0 → M' 45005 = tV b n i)) ∧ ∀ m, ¬ (45002 ≤ m ∧ m ≤ 45005) → M' m = M m
theorem wdT_ne {b : Nat → Int} {s e : Nat} : wdT b s e ≠ 0 := by unfold wdT; (repeat' split) <;> omega
theorem sgT_ne {x : Int} : sgT x ≠ 0 := by unfold sgT; (repeat' split) <;> omega
/-- what the reader may change -/
def rdr (m : Nat) : Prop := (45002 ≤ m ∧ m ≤ 45005) ∨ m = 45008 ∨ (47000 ≤ m ∧ m < 48000)
def RX (M M' : Nat → Int) : Prop := ∀ m, ¬ rdr m → M' m = M m
theorem RX.rfl' {M : Nat → Int} : RX M M := fun _ _ => rfl
theorem RX.tr {M M1 M2 : Nat → Int} (h : RX M M1) (h2 : RX M1 M2) : RX M M2 := fun m hm => (h2 m hm).trans (h m hm)
/-- the reader stands before the token that is read from i on; its code so far -/
def RS (M : Nat → Int) (b : Nat → Int) (n i : Nat) (c0 : List Int) : Prop := (TP M b n ∧ i ≤ n) ∧ (M 45002 = ((tE b n i : Nat) : Int) ∧ M 45003 = tK b n i ∧ M 45004 = ((tS b n i : Nat) : Int) ∧ (tK b n i = 0 → M 45005 = tV b n i)) ∧ M 45008 = ((c0.length : Nat) : Int) ∧ c0.length ≤ i ∧ ∀ x, x < c0.length → M (47000 + x) = c0.getD x 0
/-- it stopped at a fault -/
def RF (M : Nat → Int) (q : Nat) : Prop := M 45004 = (q : Int) ∧ ∃ L : Nat, L ≤ 160 ∧ M 45008 = (L : Int)
theorem RS.rf {M : Nat → Int} {b : Nat → Int} {n i : Nat} {c0 : List Int} (h : RS M b n i c0) : RF M (tS b n i) := ⟨h.2.1.2.2.1, _, by have := h.1.2; have := h.1.1.2.1; have := h.2.2.2.1; omega, h.2.2.1⟩
theorem RS.len {M : Nat → Int} {b : Nat → Int} {n i : Nat} {c0 : List Int} (h : RS M b n i c0) : c0.length ≤ i ∧ i ≤ n ∧ n ≤ 160 := ⟨h.2.2.2.1, h.1.2, h.1.1.2.1⟩
theorem NX.rx {M M' : Nat → Int} {b : Nat → Int} {n i : Nat} (h : NX M M' b n i) : RX M M' := fun m hm => h.2 m (fun z => hm (Or.inl z))
theorem RS.next {M M' : Nat → Int} {b : Nat → Int} {n i : Nat} {c0 : List Int} (h : RS M b n i c0) (hx : NX M M' b n (tE b n i)) : RS M' b n (tE b n i) c0 := by
  have h1 := tE_in (b := b) h.1.2
  have h2 := tS_in (b := b) h.1.2
  have h3 := h.len
  refine ⟨⟨h.1.1.fr (fun m hm => hx.2 m (by omega)), h1.2.1⟩, hx.1, (hx.2 _ (by omega)).trans h.2.2.1, by omega, fun x hl => (hx.2 _ (by omega)).trans (h.2.2.2.2 x hl)⟩
def putM (M : Nat → Int) (L : Nat) (w : Int) : Nat → Int := if L < 160 then stM (stM M (47000 + L) w) 45008 ((L : Int) + 1) else M
theorem putM_rx {M : Nat → Int} {L : Nat} {w : Int} : RX M (putM M L w) := by
  intro m hm
  unfold rdr at hm
  unfold putM
  split
  · rw [st_n (by omega), st_n (by omega)]
  · rfl
theorem RF.put {M : Nat → Int} {q L : Nat} {w : Int} (h : RF M q) (hL : L ≤ 160) (hl : M 45008 = (L : Int)) : RF (putM M L w) q := by
  unfold putM
  split
  · exact ⟨by rw [st_n (by omega), st_n (by omega)]; exact h.1, L + 1, by omega, by rw [st_s]; omega⟩
  · exact h
theorem getD_app {c : List Int} {w : Int} {x : Nat} : (c ++ [w]).getD x 0 = if x = c.length then w else c.getD x 0 := by
  induction c generalizing x with
  | nil => cases x <;> simp
  | cons a c ih =>
    cases x with
    | zero => simp
    | succ x => simpa using ih (x := x)
theorem RS.put {M : Nat → Int} {b : Nat → Int} {n i : Nat} {c0 : List Int} {w : Int} (h : RS M b n i c0) (hl : c0.length < i) : RS (putM M c0.length w) b n i (c0 ++ [w]) := by
  have h3 := h.len
  unfold putM
  rw [if_pos (by omega)]
  obtain ⟨⟨h1, h2⟩, ⟨g1, g2, g3, g4⟩, h5, h6, h7⟩ := h
  refine ⟨⟨h1.fr (fun m hm => by rw [st_n (by omega), st_n (by omega)]), h2⟩, ⟨by rw [st_n (by omega), st_n (by omega)]; exact g1, by rw [st_n (by omega), st_n (by omega)]; exact g2, by rw [st_n (by omega), st_n (by omega)]; exact g3, fun z => by rw [st_n (by omega), st_n (by omega)]; exact g4 z⟩, ?_, ?_, fun x hx => ?_⟩
  · rw [st_s, List.length_append]; rfl
  · rw [List.length_append]; exact hl
  · rw [List.length_append] at hx
    have hx9 : x < c0.length + 1 := hx
    rw [getD_app, st_n (by omega)]
    by_cases e : x = c0.length
    · rw [if_pos e, e, st_s]
    · rw [if_neg e, st_n (by omega)]; exact h7 x (by omega)
set_option maxHeartbeats 4000000 in
set_option maxRecDepth 100000 in
theorem c_X4_next (l : Launch) (g : Gm) (M : Nat → Int) (hT : LvR g) (b : Nat → Int) (n : Nat) (hb : TP M b n) (i : Nat) (hi : i ≤ n) (ha : M 45002 = (i : Int)) : CV l ({ cls := "RatedBySighs$Reader", name := "next", desc := "()V" } : Jvm.MethodName) cX4_next 1 (rmm 6 127) g M [.ref (gA g 45)] (fun M' => (NX M M' b n i)) := by
  refine c_start (by decide) (Nat.le_of_ble_eq_true rfl) (fun p e s m below meth c ls C hr hlk hml hw hS hl => ?_)
  have hl : lv_has ls 1 [(0, .ref (gA g 45))] := hl
  generalize ([.ref (gA g 45)] : List Value).toArray = args at C ⊢
  generalize hQQ : MQ below (postV g (fun M' => (NX M M' b n i))) args s 0 0 (ar g) = QQ
  have g_M := hw.rg
  have hN : 49 ≤ gN g := hT.1
  have hn := hb.2.1
  have L0 : ∀ (f1 : Nat) (k : Nat) (M2 : Nat → Int), (n - (i + k)) < f1 → (i + k ≤ n) → (M2 45002 = ((i + k : Nat) : Int)) → (sk blB b n (i + k) = sk blB b n i) → (∀ m, m ≠ 45002 → M2 m = M m) → ∀ (H : Heap) (locs : List Loc) (ls : Array Slot), Wo g M2 H → va_S (ar g) s.heap H locs → lv_has ls 1 [(0, .ref (gA g 45))] → W p l e (rmm 6 127) s m args below meth c H locs 0 0 QQ (F0 m 0 ls []) := by
    intro f1
    induction f1 with
    | zero => intro k M2 hmu; exact absurd hmu (Nat.not_lt_zero _)
    | succ f1 ih =>
      intro k M2 hmu h1 hat hsk hfr H locs ls hw hS hl
      have ih0 := ih
      have g_M2 := hw.rg
      refine lv_aload_n C.1 C.2.1 dX4_next_0 rfl (lv_at hl 0 rfl) ?_
      refine g4 C hw 45 (by omega) rfl 2 (by decide) mw_277 (svi (x := ((i + k : Nat) : Int)) hat) dX4_next_1 ?_
      refine lv_aload_n C.1 C.2.1 dX4_next_4 rfl (lv_at hl 0 rfl) ?_
      refine g4 C hw 45 (by omega) rfl 1 (by decide) mw_275 (svi (x := (n : Int)) ((hfr _ (by omega)).trans hb.1)) dX4_next_5 ?_
      refine x_icmp_ge (tgt := 52) C ⟨by have := g_M2 45002; have := hat; omega, by have := g_M2 45002; have := hat; omega⟩ ⟨by have := g_M2 45001; have := ((hfr _ (by omega)).trans hb.1); omega, by have := g_M2 45001; have := ((hfr _ (by omega)).trans hb.1); omega⟩ dX4_next_8 (by decide) (fun c8 => ?_) (fun c8 => ?_)
      · have hend : tS b n i = i + k := by
          show sk blB b n i = i + k
          rw [← hsk]
          exact sk_e (fun q => by have h5 := q.1; have h6 := q.2; simp only [blB, decide_eq_true_eq] at h6; omega)
        refine lv_aload_n C.1 C.2.1 dX4_next_52 rfl (lv_at hl 0 rfl) ?_
        refine lv_aload_n C.1 C.2.1 dX4_next_53 rfl (lv_at hl 0 rfl) ?_
        refine g4 C hw 45 (by omega) rfl 2 (by decide) mw_277 (svi (x := ((i + k : Nat) : Int)) hat) dX4_next_54 ?_
        refine p4 C hw hS 45 (by omega) rfl 4 (by decide) mw_279 rfl (x := ((i + k : Nat) : Int)) ⟨by have := g_M2 45002; have := hat; omega, by have := g_M2 45002; have := hat; omega⟩ (svi st_s) (tyX4_ok 4 (by decide)) rfl rfl dX4_next_57 (fun H locs hw hS => ?_)
        have hw : Wo g (stM M2 45004 ((i + k : Nat) : Int)) H := hw
        refine lv_aload_n C.1 C.2.1 dX4_next_60 rfl (lv_at hl 0 rfl) ?_
        refine g4 C hw 45 (by omega) rfl 2 (by decide) mw_277 (svi (x := ((i + k : Nat) : Int)) ((st_n (by decide)).trans hat)) dX4_next_61 ?_
        refine lv_aload_n C.1 C.2.1 dX4_next_64 rfl (lv_at hl 0 rfl) ?_
        refine g4 C hw 45 (by omega) rfl 1 (by decide) mw_275 (svi (x := (n : Int)) ((st_n (by decide)).trans ((hfr _ (by omega)).trans hb.1))) dX4_next_65 ?_
        refine x_icmp_lt (tgt := 80) C ⟨by omega, by omega⟩ ⟨by omega, by omega⟩ dX4_next_68 (by decide) (fun c68 => ?_) (fun c68 => ?_)
        · have hbr : -2147483648 ≤ b (i + k) ∧ b (i + k) ≤ 2147483647 := by rw [← ((hfr (46000 + (i + k)) (by omega)).trans (hb.2.2 (i + k) (by omega)))]; exact g_M2 _
          refine lv_aload_n C.1 C.2.1 dX4_next_80 rfl (lv_at hl 0 rfl) ?_
          refine g4 C hw 45 (by omega) rfl 0 (by decide) mw_274 (svr hT.2.1) dX4_next_81 ?_
          refine lv_aload_n C.1 C.2.1 dX4_next_84 rfl (lv_at hl 0 rfl) ?_
          refine g4 C hw 45 (by omega) rfl 2 (by decide) mw_277 (svi (x := ((i + k : Nat) : Int)) ((st_n (by decide)).trans hat)) dX4_next_85 ?_
          refine x_iaload (L := 160) C hw 46 (by omega) rfl rfl (by omega) (by omega) (by decide) (x := b (i + k)) ((st_n (by omega)).trans ((hfr (46000 + (i + k)) (by omega)).trans (hb.2.2 (i + k) (by omega)))) dX4_next_88 ?_
          refine x_ci (x_runS (n := 1) C hw hS hml hl.1 (c_X4_isLetter l g (stM M2 45004 ((i + k : Nat) : Int)) (b (i + k)) ⟨by omega, by omega⟩) mw_402 mw_403 mw_122 mw_404 rfl rfl (by decide +kernel) ⟨Nat.le_of_ble_eq_true rfl, Nat.le_of_ble_eq_true rfl⟩ rfl rfl (Nat.le_of_ble_eq_true rfl) dX4_next_89 ⟨Nat.zero_le _, Nat.zero_le _⟩) hS (fun r89 M89 H locs hr89 hp hw hS => ?_)
          rcases hp with ⟨em89, (⟨er89, h89b⟩ | ⟨er89, h89b⟩)⟩
          · have hw : Wo g (stM M2 45004 ((i + k : Nat) : Int)) H := em89 ▸ hw
            rw [er89]
            refine x_if_eq (tgt := 106) C ⟨by decide, by decide⟩ dX4_next_92 (by decide) (fun h => absurd h (by decide)) (fun _ => ?_)
            refine lv_aload_n C.1 C.2.1 dX4_next_95 rfl (lv_at hl 0 rfl) ?_
            refine lv_aload_n C.1 C.2.1 dX4_next_96 rfl (lv_at hl 0 rfl) ?_
            refine x_ci (x_runV (n := 0) C hw hS hml hl.1 45 4 (by omega) rfl (by decide) rfl (c_X4_wordToken l g (stM M2 45004 ((i + k : Nat) : Int)) hT b n (hb.fr (fun m hm => (st_n (by omega)).trans (hfr m (by omega)))) (i + k) (by omega) ((st_n (by decide)).trans hat) st_s) mw_405 mw_407 mw_3 mw_122 mw_408 rfl rfl (by decide +kernel) ⟨Nat.le_of_ble_eq_true rfl, Nat.le_of_ble_eq_true rfl⟩ rfl rfl (Nat.le_of_ble_eq_true rfl) dX4_next_97 ⟨Nat.zero_le _, Nat.zero_le _⟩) hS (fun r97 M97 H locs hr97 hp hw hS => ?_)
            obtain ⟨er97, h97a, h97f⟩ := hp
            have g_M97 := hw.rg
            rw [er97] at hr97 ⊢
            refine p4 C hw hS 45 (by omega) rfl 3 (by decide) mw_278 rfl (x := wdT b (i + k) (sk ltB b n (i + k))) hr97 (svi st_s) (tyX4_ok 3 (by decide)) rfl rfl dX4_next_100 (fun H locs hw hS => ?_)
            have hw : Wo g (stM M97 45003 (wdT b (i + k) (sk ltB b n (i + k)))) H := hw
            refine lv_goto (tgt := 158) C.1 C.2.1 dX4_next_103 (by decide) ?_
            subst hQQ; exact x_return C hr hlk hw hS (by
    have eE : tE b n i = sk ltB b n (i + k) := by unfold tE; rw [hend, if_neg (by omega), if_pos h89b]
    have eK : tK b n i = wdT b (i + k) (sk ltB b n (i + k)) := by unfold tK; rw [eE, hend, if_neg (by omega), if_pos h89b]
    refine ⟨⟨?_, ?_, ?_, fun q => absurd (eK.symm.trans q) wdT_ne⟩, fun m hm => ?_⟩
    · rw [st_n (by decide), eE]; exact h97a
    · rw [st_s, eK]
    · rw [st_n (by decide), hend]; exact (h97f _ (by decide)).trans st_s
    · rw [st_n (by omega), h97f m (by omega), st_n (by omega)]; exact hfr m (by omega)) dX4_next_158
          · have hw : Wo g (stM M2 45004 ((i + k : Nat) : Int)) H := em89 ▸ hw
            rw [er89]
            refine x_if_eq (tgt := 106) C ⟨by decide, by decide⟩ dX4_next_92 (by decide) (fun _ => ?_) (fun h => absurd h (by decide))
            refine lv_aload_n C.1 C.2.1 dX4_next_106 rfl (lv_at hl 0 rfl) ?_
            refine g4 C hw 45 (by omega) rfl 0 (by decide) mw_274 (svr hT.2.1) dX4_next_107 ?_
            refine lv_aload_n C.1 C.2.1 dX4_next_110 rfl (lv_at hl 0 rfl) ?_
            refine g4 C hw 45 (by omega) rfl 2 (by decide) mw_277 (svi (x := ((i + k : Nat) : Int)) ((st_n (by decide)).trans hat)) dX4_next_111 ?_
            refine x_iaload (L := 160) C hw 46 (by omega) rfl rfl (by omega) (by omega) (by decide) (x := b (i + k)) ((st_n (by omega)).trans ((hfr (46000 + (i + k)) (by omega)).trans (hb.2.2 (i + k) (by omega)))) dX4_next_114 ?_
            refine x_ci (x_runS (n := 1) C hw hS hml hl.1 (c_X4_isDigit l g (stM M2 45004 ((i + k : Nat) : Int)) (b (i + k)) ⟨by omega, by omega⟩) mw_427 mw_428 mw_122 mw_429 rfl rfl (by decide +kernel) ⟨Nat.le_of_ble_eq_true rfl, Nat.le_of_ble_eq_true rfl⟩ rfl rfl (Nat.le_of_ble_eq_true rfl) dX4_next_115 ⟨Nat.zero_le _, Nat.zero_le _⟩) hS (fun r115 M115 H locs hr115 hp hw hS => ?_)
            rcases hp with ⟨em115, (⟨er115, h115b⟩ | ⟨er115, h115b⟩)⟩
            · have hw : Wo g (stM M2 45004 ((i + k : Nat) : Int)) H := em115 ▸ hw
              rw [er115]
              refine x_if_eq (tgt := 132) C ⟨by decide, by decide⟩ dX4_next_118 (by decide) (fun h => absurd h (by decide)) (fun _ => ?_)
              refine lv_aload_n C.1 C.2.1 dX4_next_121 rfl (lv_at hl 0 rfl) ?_
              refine lv_aload_n C.1 C.2.1 dX4_next_122 rfl (lv_at hl 0 rfl) ?_
              refine x_ci (x_runV (n := 0) C hw hS hml hl.1 45 4 (by omega) rfl (by decide) rfl (c_X4_numberToken l g (stM M2 45004 ((i + k : Nat) : Int)) hT b n (hb.fr (fun m hm => (st_n (by omega)).trans (hfr m (by omega)))) (i + k) (by omega) ((st_n (by decide)).trans hat) st_s) mw_430 mw_432 mw_5 mw_122 mw_433 rfl rfl (by decide +kernel) ⟨Nat.le_of_ble_eq_true rfl, Nat.le_of_ble_eq_true rfl⟩ rfl rfl (Nat.le_of_ble_eq_true rfl) dX4_next_123 ⟨Nat.zero_le _, Nat.zero_le _⟩) hS (fun r123 M123 H locs hr123 hp hw hS => ?_)
              obtain ⟨er123, h123a, h123v, h123f⟩ := hp
              have g_M123 := hw.rg
              rw [er123] at hr123 ⊢
              refine p4 C hw hS 45 (by omega) rfl 3 (by decide) mw_278 rfl (x := (if 4 < sk dgB b n (i + k) - (i + k) then 8 else 0)) hr123 (svi st_s) (tyX4_ok 3 (by decide)) rfl rfl dX4_next_126 (fun H locs hw hS => ?_)
              have hw : Wo g (stM M123 45003 (if 4 < sk dgB b n (i + k) - (i + k) then 8 else 0)) H := hw
              refine lv_goto (tgt := 158) C.1 C.2.1 dX4_next_129 (by decide) ?_
              subst hQQ; exact x_return C hr hlk hw hS (by
    have hlt : ¬ ltB (b (i + k)) = true := by rw [h89b]; decide
    have eE : tE b n i = sk dgB b n (i + k) := by unfold tE; rw [hend, if_neg (by omega), if_neg hlt, if_pos h115b]
    have eK : tK b n i = if 4 < sk dgB b n (i + k) - (i + k) then 8 else 0 := by unfold tK; rw [eE, hend, if_neg (by omega), if_neg hlt, if_pos h115b]
    refine ⟨⟨?_, ?_, ?_, fun q => ?_⟩, fun m hm => ?_⟩
    · rw [st_n (by decide), eE]; exact h123a
    · rw [st_s, eK]
    · rw [st_n (by decide), hend]; exact (h123f _ (by decide)).trans st_s
    · rw [st_n (by decide)]
      unfold tV
      rw [eE, hend]
      refine h123v ?_
      rw [eK] at q
      by_cases h4 : 4 < sk dgB b n (i + k) - (i + k)
      · rw [if_pos h4] at q; omega
      · omega
    · rw [st_n (by omega), h123f m (by omega), st_n (by omega)]; exact hfr m (by omega)) dX4_next_158
            · have hw : Wo g (stM M2 45004 ((i + k : Nat) : Int)) H := em115 ▸ hw
              rw [er115]
              refine x_if_eq (tgt := 132) C ⟨by decide, by decide⟩ dX4_next_118 (by decide) (fun _ => ?_) (fun h => absurd h (by decide))
              refine lv_aload_n C.1 C.2.1 dX4_next_132 rfl (lv_at hl 0 rfl) ?_
              refine lv_aload_n C.1 C.2.1 dX4_next_133 rfl (lv_at hl 0 rfl) ?_
              refine g4 C hw 45 (by omega) rfl 0 (by decide) mw_274 (svr hT.2.1) dX4_next_134 ?_
              refine lv_aload_n C.1 C.2.1 dX4_next_137 rfl (lv_at hl 0 rfl) ?_
              refine g4 C hw 45 (by omega) rfl 2 (by decide) mw_277 (svi (x := ((i + k : Nat) : Int)) ((st_n (by decide)).trans hat)) dX4_next_138 ?_
              refine x_iaload (L := 160) C hw 46 (by omega) rfl rfl (by omega) (by omega) (by decide) (x := b (i + k)) ((st_n (by omega)).trans ((hfr (46000 + (i + k)) (by omega)).trans (hb.2.2 (i + k) (by omega)))) dX4_next_141 ?_
              refine x_ci (x_runS (n := 1) C hw hS hml hl.1 (c_X4_signToken l g (stM M2 45004 ((i + k : Nat) : Int)) (b (i + k)) ⟨by omega, by omega⟩) mw_434 mw_435 mw_122 mw_436 rfl rfl (by decide +kernel) ⟨Nat.le_of_ble_eq_true rfl, Nat.le_of_ble_eq_true rfl⟩ rfl rfl (Nat.le_of_ble_eq_true rfl) dX4_next_142 ⟨Nat.zero_le _, Nat.zero_le _⟩) hS (fun r142 M142 H locs hr142 hp hw hS => ?_)
              obtain ⟨em142, er142⟩ := hp
              have hw : Wo g (stM M2 45004 ((i + k : Nat) : Int)) H := em142 ▸ hw
              rw [er142] at hr142 ⊢
              refine p4 C hw hS 45 (by omega) rfl 3 (by decide) mw_278 rfl (x := sgT (b (i + k))) hr142 (svi st_s) (tyX4_ok 3 (by decide)) rfl rfl dX4_next_145 (fun H locs hw hS => ?_)
              have hw : Wo g (stM (stM M2 45004 ((i + k : Nat) : Int)) 45003 (sgT (b (i + k)))) H := hw
              refine lv_aload_n C.1 C.2.1 dX4_next_148 rfl (lv_at hl 0 rfl) ?_
              refine lv_dup C.1 C.2.1 dX4_next_149 rfl ?_
              refine g4 C hw 45 (by omega) rfl 2 (by decide) mw_277 (svi (x := ((i + k : Nat) : Int)) ((st_n (by decide)).trans ((st_n (by decide)).trans hat))) dX4_next_150 ?_
              refine lv_iconst (v := II 1) C.1 C.2.1 dX4_next_153 rfl ?_
              refine x_iadd C dX4_next_154 ?_
              refine p4 C hw hS 45 (by omega) rfl 2 (by decide) mw_277 rfl (x := ((i + k : Nat) : Int) + 1) ⟨by omega, by omega⟩ (svi st_s) (tyX4_ok 2 (by decide)) rfl rfl dX4_next_155 (fun H locs hw hS => ?_)
              have hw : Wo g (stM (stM (stM M2 45004 ((i + k : Nat) : Int)) 45003 (sgT (b (i + k)))) 45002 (((i + k : Nat) : Int) + 1)) H := hw
              subst hQQ; exact x_return C hr hlk hw hS (by
    have hlt : ¬ ltB (b (i + k)) = true := by rw [h89b]; decide
    have hdt : ¬ dgB (b (i + k)) = true := by rw [h115b]; decide
    have eE : tE b n i = i + k + 1 := by unfold tE; rw [hend, if_neg (by omega), if_neg hlt, if_neg hdt]
    have eK : tK b n i = sgT (b (i + k)) := by unfold tK; rw [hend, if_neg (by omega), if_neg hlt, if_neg hdt]
    refine ⟨⟨?_, ?_, ?_, fun q => absurd (eK.symm.trans q) sgT_ne⟩, fun m hm => ?_⟩
    · rw [st_s, eE]; omega
    · rw [st_n (by decide), st_s, eK]
    · rw [st_n (by decide), st_n (by decide), st_s, hend]
    · rw [st_n (by omega), st_n (by omega), st_n (by omega)]; exact hfr m (by omega)) dX4_next_158
        · refine lv_aload_n C.1 C.2.1 dX4_next_71 rfl (lv_at hl 0 rfl) ?_
          refine lv_bipush (v := II 7) C.1 C.2.1 dX4_next_72 (by decide) ?_
          refine p4 C hw hS 45 (by omega) rfl 3 (by decide) mw_278 rfl (x := 7) ⟨by decide, by decide⟩ (svi st_s) (tyX4_ok 3 (by decide)) rfl rfl dX4_next_74 (fun H locs hw hS => ?_)
          have hw : Wo g (stM (stM M2 45004 ((i + k : Nat) : Int)) 45003 7) H := hw
          refine lv_goto (tgt := 158) C.1 C.2.1 dX4_next_77 (by decide) ?_
          subst hQQ; exact x_return C hr hlk hw hS (by
    have eE : tE b n i = i + k := by unfold tE; rw [hend, if_pos (by omega)]
    have eK : tK b n i = 7 := by unfold tK; rw [hend, if_pos (by omega)]
    refine ⟨⟨?_, ?_, ?_, fun q => absurd (eK.symm.trans q) (by decide)⟩, fun m hm => ?_⟩
    · rw [st_n (by decide), st_n (by decide), eE]; exact hat
    · rw [st_s, eK]
    · rw [st_n (by decide), hend]; exact st_s
    · rw [st_n (by omega), st_n (by omega)]; exact hfr m (by omega)) dX4_next_158
      · refine lv_aload_n C.1 C.2.1 dX4_next_11 rfl (lv_at hl 0 rfl) ?_
        refine g4 C hw 45 (by omega) rfl 0 (by decide) mw_274 (svr hT.2.1) dX4_next_12 ?_
        refine lv_aload_n C.1 C.2.1 dX4_next_15 rfl (lv_at hl 0 rfl) ?_
        refine g4 C hw 45 (by omega) rfl 2 (by decide) mw_277 (svi (x := ((i + k : Nat) : Int)) hat) dX4_next_16 ?_
        refine x_iaload (L := 160) C hw 46 (by omega) rfl rfl (by omega) (by omega) (by decide) (x := b (i + k)) ((hfr (46000 + (i + k)) (by omega)).trans (hb.2.2 (i + k) (by omega))) dX4_next_19 ?_
        refine lv_bipush (v := II 32) C.1 C.2.1 dX4_next_20 (by decide) ?_
        refine x_icmp_eq (tgt := 39) C ⟨by have := g_M2 (46000 + (i + k : Nat)); have := ((hfr (46000 + (i + k)) (by omega)).trans (hb.2.2 (i + k) (by omega))); omega, by have := g_M2 (46000 + (i + k : Nat)); have := ((hfr (46000 + (i + k)) (by omega)).trans (hb.2.2 (i + k) (by omega))); omega⟩ ⟨by decide, by decide⟩ dX4_next_22 (by decide) (fun c22 => ?_) (fun c22 => ?_)
        · refine lv_aload_n C.1 C.2.1 dX4_next_39 rfl (lv_at hl 0 rfl) ?_
          refine lv_dup C.1 C.2.1 dX4_next_40 rfl ?_
          refine g4 C hw 45 (by omega) rfl 2 (by decide) mw_277 (svi (x := ((i + k : Nat) : Int)) hat) dX4_next_41 ?_
          refine lv_iconst (v := II 1) C.1 C.2.1 dX4_next_44 rfl ?_
          refine x_iadd C dX4_next_45 ?_
          refine p4 C hw hS 45 (by omega) rfl 2 (by decide) mw_277 rfl (x := ((i + k : Nat) : Int) + 1) ⟨by have := g_M2 45002; have := hat; omega, by have := g_M2 45002; have := hat; omega⟩ (svi st_s) (tyX4_ok 2 (by decide)) rfl rfl dX4_next_46 (fun H locs hw hS => ?_)
          have hw : Wo g (stM M2 45002 (((i + k : Nat) : Int) + 1)) H := hw
          refine lv_goto (tgt := 0) C.1 C.2.1 dX4_next_49 (by decide) ?_
          exact ih0  (k + 1) (stM M2 45002 (((i + k : Nat) : Int) + 1)) (by omega) (by omega) (by rw [st_s]; omega) (by rw [← hsk, show i + (k + 1) = i + k + 1 by omega]; exact (sk_s (by omega) (decide_eq_true (p := b (i + k) = 32 ∨ b (i + k) = 10) (by omega))).symm) (fun m q1 => by rw [st_n q1]; exact hfr m q1) _ _ _ hw hS (lv_sub hl [0] rfl)
        · refine lv_aload_n C.1 C.2.1 dX4_next_25 rfl (lv_at hl 0 rfl) ?_
          refine g4 C hw 45 (by omega) rfl 0 (by decide) mw_274 (svr hT.2.1) dX4_next_26 ?_
          refine lv_aload_n C.1 C.2.1 dX4_next_29 rfl (lv_at hl 0 rfl) ?_
          refine g4 C hw 45 (by omega) rfl 2 (by decide) mw_277 (svi (x := ((i + k : Nat) : Int)) hat) dX4_next_30 ?_
          refine x_iaload (L := 160) C hw 46 (by omega) rfl rfl (by omega) (by omega) (by decide) (x := b (i + k)) ((hfr (46000 + (i + k)) (by omega)).trans (hb.2.2 (i + k) (by omega))) dX4_next_33 ?_
          refine lv_bipush (v := II 10) C.1 C.2.1 dX4_next_34 (by decide) ?_
          refine x_icmp_ne (tgt := 52) C ⟨by have := g_M2 (46000 + (i + k : Nat)); have := ((hfr (46000 + (i + k)) (by omega)).trans (hb.2.2 (i + k) (by omega))); omega, by have := g_M2 (46000 + (i + k : Nat)); have := ((hfr (46000 + (i + k)) (by omega)).trans (hb.2.2 (i + k) (by omega))); omega⟩ ⟨by decide, by decide⟩ dX4_next_36 (by decide) (fun c36 => ?_) (fun c36 => ?_)
          · have hend : tS b n i = i + k := by
              show sk blB b n i = i + k
              rw [← hsk]
              exact sk_e (fun q => by have h5 := q.1; have h6 := q.2; simp only [blB, decide_eq_true_eq] at h6; omega)
            refine lv_aload_n C.1 C.2.1 dX4_next_52 rfl (lv_at hl 0 rfl) ?_
            refine lv_aload_n C.1 C.2.1 dX4_next_53 rfl (lv_at hl 0 rfl) ?_
            refine g4 C hw 45 (by omega) rfl 2 (by decide) mw_277 (svi (x := ((i + k : Nat) : Int)) hat) dX4_next_54 ?_
            refine p4 C hw hS 45 (by omega) rfl 4 (by decide) mw_279 rfl (x := ((i + k : Nat) : Int)) ⟨by have := g_M2 45002; have := hat; omega, by have := g_M2 45002; have := hat; omega⟩ (svi st_s) (tyX4_ok 4 (by decide)) rfl rfl dX4_next_57 (fun H locs hw hS => ?_)
            have hw : Wo g (stM M2 45004 ((i + k : Nat) : Int)) H := hw
            refine lv_aload_n C.1 C.2.1 dX4_next_60 rfl (lv_at hl 0 rfl) ?_
            refine g4 C hw 45 (by omega) rfl 2 (by decide) mw_277 (svi (x := ((i + k : Nat) : Int)) ((st_n (by decide)).trans hat)) dX4_next_61 ?_
            refine lv_aload_n C.1 C.2.1 dX4_next_64 rfl (lv_at hl 0 rfl) ?_
            refine g4 C hw 45 (by omega) rfl 1 (by decide) mw_275 (svi (x := (n : Int)) ((st_n (by decide)).trans ((hfr _ (by omega)).trans hb.1))) dX4_next_65 ?_
            refine x_icmp_lt (tgt := 80) C ⟨by omega, by omega⟩ ⟨by omega, by omega⟩ dX4_next_68 (by decide) (fun c68 => ?_) (fun c68 => ?_)
            · have hbr : -2147483648 ≤ b (i + k) ∧ b (i + k) ≤ 2147483647 := by rw [← ((hfr (46000 + (i + k)) (by omega)).trans (hb.2.2 (i + k) (by omega)))]; exact g_M2 _
              refine lv_aload_n C.1 C.2.1 dX4_next_80 rfl (lv_at hl 0 rfl) ?_
              refine g4 C hw 45 (by omega) rfl 0 (by decide) mw_274 (svr hT.2.1) dX4_next_81 ?_
              refine lv_aload_n C.1 C.2.1 dX4_next_84 rfl (lv_at hl 0 rfl) ?_
              refine g4 C hw 45 (by omega) rfl 2 (by decide) mw_277 (svi (x := ((i + k : Nat) : Int)) ((st_n (by decide)).trans hat)) dX4_next_85 ?_
              refine x_iaload (L := 160) C hw 46 (by omega) rfl rfl (by omega) (by omega) (by decide) (x := b (i + k)) ((st_n (by omega)).trans ((hfr (46000 + (i + k)) (by omega)).trans (hb.2.2 (i + k) (by omega)))) dX4_next_88 ?_
              refine x_ci (x_runS (n := 1) C hw hS hml hl.1 (c_X4_isLetter l g (stM M2 45004 ((i + k : Nat) : Int)) (b (i + k)) ⟨by omega, by omega⟩) mw_402 mw_403 mw_122 mw_404 rfl rfl (by decide +kernel) ⟨Nat.le_of_ble_eq_true rfl, Nat.le_of_ble_eq_true rfl⟩ rfl rfl (Nat.le_of_ble_eq_true rfl) dX4_next_89 ⟨Nat.zero_le _, Nat.zero_le _⟩) hS (fun r89 M89 H locs hr89 hp hw hS => ?_)
              rcases hp with ⟨em89, (⟨er89, h89b⟩ | ⟨er89, h89b⟩)⟩
              · have hw : Wo g (stM M2 45004 ((i + k : Nat) : Int)) H := em89 ▸ hw
                rw [er89]
                refine x_if_eq (tgt := 106) C ⟨by decide, by decide⟩ dX4_next_92 (by decide) (fun h => absurd h (by decide)) (fun _ => ?_)
                refine lv_aload_n C.1 C.2.1 dX4_next_95 rfl (lv_at hl 0 rfl) ?_
                refine lv_aload_n C.1 C.2.1 dX4_next_96 rfl (lv_at hl 0 rfl) ?_
                refine x_ci (x_runV (n := 0) C hw hS hml hl.1 45 4 (by omega) rfl (by decide) rfl (c_X4_wordToken l g (stM M2 45004 ((i + k : Nat) : Int)) hT b n (hb.fr (fun m hm => (st_n (by omega)).trans (hfr m (by omega)))) (i + k) (by omega) ((st_n (by decide)).trans hat) st_s) mw_405 mw_407 mw_3 mw_122 mw_408 rfl rfl (by decide +kernel) ⟨Nat.le_of_ble_eq_true rfl, Nat.le_of_ble_eq_true rfl⟩ rfl rfl (Nat.le_of_ble_eq_true rfl) dX4_next_97 ⟨Nat.zero_le _, Nat.zero_le _⟩) hS (fun r97 M97 H locs hr97 hp hw hS => ?_)
                obtain ⟨er97, h97a, h97f⟩ := hp
                have g_M97 := hw.rg
                rw [er97] at hr97 ⊢
                refine p4 C hw hS 45 (by omega) rfl 3 (by decide) mw_278 rfl (x := wdT b (i + k) (sk ltB b n (i + k))) hr97 (svi st_s) (tyX4_ok 3 (by decide)) rfl rfl dX4_next_100 (fun H locs hw hS => ?_)
                have hw : Wo g (stM M97 45003 (wdT b (i + k) (sk ltB b n (i + k)))) H := hw
                refine lv_goto (tgt := 158) C.1 C.2.1 dX4_next_103 (by decide) ?_
                subst hQQ; exact x_return C hr hlk hw hS (by
    have eE : tE b n i = sk ltB b n (i + k) := by unfold tE; rw [hend, if_neg (by omega), if_pos h89b]
    have eK : tK b n i = wdT b (i + k) (sk ltB b n (i + k)) := by unfold tK; rw [eE, hend, if_neg (by omega), if_pos h89b]
    refine ⟨⟨?_, ?_, ?_, fun q => absurd (eK.symm.trans q) wdT_ne⟩, fun m hm => ?_⟩
    · rw [st_n (by decide), eE]; exact h97a
    · rw [st_s, eK]
    · rw [st_n (by decide), hend]; exact (h97f _ (by decide)).trans st_s
    · rw [st_n (by omega), h97f m (by omega), st_n (by omega)]; exact hfr m (by omega)) dX4_next_158
              · have hw : Wo g (stM M2 45004 ((i + k : Nat) : Int)) H := em89 ▸ hw
                rw [er89]
                refine x_if_eq (tgt := 106) C ⟨by decide, by decide⟩ dX4_next_92 (by decide) (fun _ => ?_) (fun h => absurd h (by decide))
                refine lv_aload_n C.1 C.2.1 dX4_next_106 rfl (lv_at hl 0 rfl) ?_
                refine g4 C hw 45 (by omega) rfl 0 (by decide) mw_274 (svr hT.2.1) dX4_next_107 ?_
                refine lv_aload_n C.1 C.2.1 dX4_next_110 rfl (lv_at hl 0 rfl) ?_
                refine g4 C hw 45 (by omega) rfl 2 (by decide) mw_277 (svi (x := ((i + k : Nat) : Int)) ((st_n (by decide)).trans hat)) dX4_next_111 ?_
                refine x_iaload (L := 160) C hw 46 (by omega) rfl rfl (by omega) (by omega) (by decide) (x := b (i + k)) ((st_n (by omega)).trans ((hfr (46000 + (i + k)) (by omega)).trans (hb.2.2 (i + k) (by omega)))) dX4_next_114 ?_
                refine x_ci (x_runS (n := 1) C hw hS hml hl.1 (c_X4_isDigit l g (stM M2 45004 ((i + k : Nat) : Int)) (b (i + k)) ⟨by omega, by omega⟩) mw_427 mw_428 mw_122 mw_429 rfl rfl (by decide +kernel) ⟨Nat.le_of_ble_eq_true rfl, Nat.le_of_ble_eq_true rfl⟩ rfl rfl (Nat.le_of_ble_eq_true rfl) dX4_next_115 ⟨Nat.zero_le _, Nat.zero_le _⟩) hS (fun r115 M115 H locs hr115 hp hw hS => ?_)
                rcases hp with ⟨em115, (⟨er115, h115b⟩ | ⟨er115, h115b⟩)⟩
                · have hw : Wo g (stM M2 45004 ((i + k : Nat) : Int)) H := em115 ▸ hw
                  rw [er115]
                  refine x_if_eq (tgt := 132) C ⟨by decide, by decide⟩ dX4_next_118 (by decide) (fun h => absurd h (by decide)) (fun _ => ?_)
                  refine lv_aload_n C.1 C.2.1 dX4_next_121 rfl (lv_at hl 0 rfl) ?_
                  refine lv_aload_n C.1 C.2.1 dX4_next_122 rfl (lv_at hl 0 rfl) ?_
                  refine x_ci (x_runV (n := 0) C hw hS hml hl.1 45 4 (by omega) rfl (by decide) rfl (c_X4_numberToken l g (stM M2 45004 ((i + k : Nat) : Int)) hT b n (hb.fr (fun m hm => (st_n (by omega)).trans (hfr m (by omega)))) (i + k) (by omega) ((st_n (by decide)).trans hat) st_s) mw_430 mw_432 mw_5 mw_122 mw_433 rfl rfl (by decide +kernel) ⟨Nat.le_of_ble_eq_true rfl, Nat.le_of_ble_eq_true rfl⟩ rfl rfl (Nat.le_of_ble_eq_true rfl) dX4_next_123 ⟨Nat.zero_le _, Nat.zero_le _⟩) hS (fun r123 M123 H locs hr123 hp hw hS => ?_)
                  obtain ⟨er123, h123a, h123v, h123f⟩ := hp
                  have g_M123 := hw.rg
                  rw [er123] at hr123 ⊢
                  refine p4 C hw hS 45 (by omega) rfl 3 (by decide) mw_278 rfl (x := (if 4 < sk dgB b n (i + k) - (i + k) then 8 else 0)) hr123 (svi st_s) (tyX4_ok 3 (by decide)) rfl rfl dX4_next_126 (fun H locs hw hS => ?_)
                  have hw : Wo g (stM M123 45003 (if 4 < sk dgB b n (i + k) - (i + k) then 8 else 0)) H := hw
                  refine lv_goto (tgt := 158) C.1 C.2.1 dX4_next_129 (by decide) ?_
                  subst hQQ; exact x_return C hr hlk hw hS (by
    have hlt : ¬ ltB (b (i + k)) = true := by rw [h89b]; decide
    have eE : tE b n i = sk dgB b n (i + k) := by unfold tE; rw [hend, if_neg (by omega), if_neg hlt, if_pos h115b]
    have eK : tK b n i = if 4 < sk dgB b n (i + k) - (i + k) then 8 else 0 := by unfold tK; rw [eE, hend, if_neg (by omega), if_neg hlt, if_pos h115b]
    refine ⟨⟨?_, ?_, ?_, fun q => ?_⟩, fun m hm => ?_⟩
    · rw [st_n (by decide), eE]; exact h123a
    · rw [st_s, eK]
    · rw [st_n (by decide), hend]; exact (h123f _ (by decide)).trans st_s
    · rw [st_n (by decide)]
      unfold tV
      rw [eE, hend]
      refine h123v ?_
      rw [eK] at q
      by_cases h4 : 4 < sk dgB b n (i + k) - (i + k)
      · rw [if_pos h4] at q; omega
      · omega
    · rw [st_n (by omega), h123f m (by omega), st_n (by omega)]; exact hfr m (by omega)) dX4_next_158
                · have hw : Wo g (stM M2 45004 ((i + k : Nat) : Int)) H := em115 ▸ hw
                  rw [er115]
                  refine x_if_eq (tgt := 132) C ⟨by decide, by decide⟩ dX4_next_118 (by decide) (fun _ => ?_) (fun h => absurd h (by decide))
                  refine lv_aload_n C.1 C.2.1 dX4_next_132 rfl (lv_at hl 0 rfl) ?_
                  refine lv_aload_n C.1 C.2.1 dX4_next_133 rfl (lv_at hl 0 rfl) ?_
                  refine g4 C hw 45 (by omega) rfl 0 (by decide) mw_274 (svr hT.2.1) dX4_next_134 ?_
                  refine lv_aload_n C.1 C.2.1 dX4_next_137 rfl (lv_at hl 0 rfl) ?_
                  refine g4 C hw 45 (by omega) rfl 2 (by decide) mw_277 (svi (x := ((i + k : Nat) : Int)) ((st_n (by decide)).trans hat)) dX4_next_138 ?_
                  refine x_iaload (L := 160) C hw 46 (by omega) rfl rfl (by omega) (by omega) (by decide) (x := b (i + k)) ((st_n (by omega)).trans ((hfr (46000 + (i + k)) (by omega)).trans (hb.2.2 (i + k) (by omega)))) dX4_next_141 ?_
                  refine x_ci (x_runS (n := 1) C hw hS hml hl.1 (c_X4_signToken l g (stM M2 45004 ((i + k : Nat) : Int)) (b (i + k)) ⟨by omega, by omega⟩) mw_434 mw_435 mw_122 mw_436 rfl rfl (by decide +kernel) ⟨Nat.le_of_ble_eq_true rfl, Nat.le_of_ble_eq_true rfl⟩ rfl rfl (Nat.le_of_ble_eq_true rfl) dX4_next_142 ⟨Nat.zero_le _, Nat.zero_le _⟩) hS (fun r142 M142 H locs hr142 hp hw hS => ?_)
                  obtain ⟨em142, er142⟩ := hp
                  have hw : Wo g (stM M2 45004 ((i + k : Nat) : Int)) H := em142 ▸ hw
                  rw [er142] at hr142 ⊢
                  refine p4 C hw hS 45 (by omega) rfl 3 (by decide) mw_278 rfl (x := sgT (b (i + k))) hr142 (svi st_s) (tyX4_ok 3 (by decide)) rfl rfl dX4_next_145 (fun H locs hw hS => ?_)
                  have hw : Wo g (stM (stM M2 45004 ((i + k : Nat) : Int)) 45003 (sgT (b (i + k)))) H := hw
                  refine lv_aload_n C.1 C.2.1 dX4_next_148 rfl (lv_at hl 0 rfl) ?_
                  refine lv_dup C.1 C.2.1 dX4_next_149 rfl ?_
                  refine g4 C hw 45 (by omega) rfl 2 (by decide) mw_277 (svi (x := ((i + k : Nat) : Int)) ((st_n (by decide)).trans ((st_n (by decide)).trans hat))) dX4_next_150 ?_
                  refine lv_iconst (v := II 1) C.1 C.2.1 dX4_next_153 rfl ?_
                  refine x_iadd C dX4_next_154 ?_
                  refine p4 C hw hS 45 (by omega) rfl 2 (by decide) mw_277 rfl (x := ((i + k : Nat) : Int) + 1) ⟨by omega, by omega⟩ (svi st_s) (tyX4_ok 2 (by decide)) rfl rfl dX4_next_155 (fun H locs hw hS => ?_)
                  have hw : Wo g (stM (stM (stM M2 45004 ((i + k : Nat) : Int)) 45003 (sgT (b (i + k)))) 45002 (((i + k : Nat) : Int) + 1)) H := hw
                  subst hQQ; exact x_return C hr hlk hw hS (by
    have hlt : ¬ ltB (b (i + k)) = true := by rw [h89b]; decide
    have hdt : ¬ dgB (b (i + k)) = true := by rw [h115b]; decide
    have eE : tE b n i = i + k + 1 := by unfold tE; rw [hend, if_neg (by omega), if_neg hlt, if_neg hdt]
    have eK : tK b n i = sgT (b (i + k)) := by unfold tK; rw [hend, if_neg (by omega), if_neg hlt, if_neg hdt]
    refine ⟨⟨?_, ?_, ?_, fun q => absurd (eK.symm.trans q) sgT_ne⟩, fun m hm => ?_⟩
    · rw [st_s, eE]; omega
    · rw [st_n (by decide), st_s, eK]
    · rw [st_n (by decide), st_n (by decide), st_s, hend]
    · rw [st_n (by omega), st_n (by omega), st_n (by omega)]; exact hfr m (by omega)) dX4_next_158
            · refine lv_aload_n C.1 C.2.1 dX4_next_71 rfl (lv_at hl 0 rfl) ?_
              refine lv_bipush (v := II 7) C.1 C.2.1 dX4_next_72 (by decide) ?_
              refine p4 C hw hS 45 (by omega) rfl 3 (by decide) mw_278 rfl (x := 7) ⟨by decide, by decide⟩ (svi st_s) (tyX4_ok 3 (by decide)) rfl rfl dX4_next_74 (fun H locs hw hS => ?_)
              have hw : Wo g (stM (stM M2 45004 ((i + k : Nat) : Int)) 45003 7) H := hw
              refine lv_goto (tgt := 158) C.1 C.2.1 dX4_next_77 (by decide) ?_
              subst hQQ; exact x_return C hr hlk hw hS (by
    have eE : tE b n i = i + k := by unfold tE; rw [hend, if_pos (by omega)]
    have eK : tK b n i = 7 := by unfold tK; rw [hend, if_pos (by omega)]
    refine ⟨⟨?_, ?_, ?_, fun q => absurd (eK.symm.trans q) (by decide)⟩, fun m hm => ?_⟩
    · rw [st_n (by decide), st_n (by decide), eE]; exact hat
    · rw [st_s, eK]
    · rw [st_n (by decide), hend]; exact st_s
    · rw [st_n (by omega), st_n (by omega)]; exact hfr m (by omega)) dX4_next_158
          · refine lv_aload_n C.1 C.2.1 dX4_next_39 rfl (lv_at hl 0 rfl) ?_
            refine lv_dup C.1 C.2.1 dX4_next_40 rfl ?_
            refine g4 C hw 45 (by omega) rfl 2 (by decide) mw_277 (svi (x := ((i + k : Nat) : Int)) hat) dX4_next_41 ?_
            refine lv_iconst (v := II 1) C.1 C.2.1 dX4_next_44 rfl ?_
            refine x_iadd C dX4_next_45 ?_
            refine p4 C hw hS 45 (by omega) rfl 2 (by decide) mw_277 rfl (x := ((i + k : Nat) : Int) + 1) ⟨by have := g_M2 45002; have := hat; omega, by have := g_M2 45002; have := hat; omega⟩ (svi st_s) (tyX4_ok 2 (by decide)) rfl rfl dX4_next_46 (fun H locs hw hS => ?_)
            have hw : Wo g (stM M2 45002 (((i + k : Nat) : Int) + 1)) H := hw
            refine lv_goto (tgt := 0) C.1 C.2.1 dX4_next_49 (by decide) ?_
            exact ih0  (k + 1) (stM M2 45002 (((i + k : Nat) : Int) + 1)) (by omega) (by omega) (by rw [st_s]; omega) (by rw [← hsk, show i + (k + 1) = i + k + 1 by omega]; exact (sk_s (by omega) (decide_eq_true (p := b (i + k) = 32 ∨ b (i + k) = 10) (by omega))).symm) (fun m q1 => by rw [st_n q1]; exact hfr m q1) _ _ _ hw hS (lv_sub hl [0] rfl)
  exact L0 _ 0 M (Nat.lt_succ_self _) (by omega) ha rfl (fun _ _ => rfl) _ _ _ hw hS (lv_sub hl [0] rfl)

set_option maxHeartbeats 4000000 in
set_option maxRecDepth 100000 in
theorem c_X4_put (l : Launch) (g : Gm) (M : Nat → Int) (hT : LvR g) (L : Nat) (hL : L ≤ 160) (hlen : M 45008 = (L : Int)) (w : Int) (hw0 : rg w) : CV l ({ cls := "RatedBySighs$Reader", name := "put", desc := "(I)V" } : Jvm.MethodName) cX4_put 2 (rmm 0 0) g M [.ref (gA g 45), .int (II w)] (fun M' => M' = putM M L w) := by
  refine c_start (by decide) (Nat.le_of_ble_eq_true rfl) (fun p e s m below meth c ls C hr hlk hml hw hS hl => ?_)
  have hl : lv_has ls 2 [(0, .ref (gA g 45)), (1, .int (II w))] := hl
  have g_M := hw.rg
  have hN : 49 ≤ gN g := hT.1
  refine lv_aload_n C.1 C.2.1 dX4_put_0 rfl (lv_at hl 0 rfl) ?_
  refine g4 C hw 45 (by omega) rfl 8 (by decide) mw_286 (svi (x := (L : Int)) hlen) dX4_put_1 ?_
  refine lv_sipush (v := II 160) C.1 C.2.1 dX4_put_4 (by decide) ?_
  refine x_icmp_ge (tgt := 30) C ⟨by have := g_M 45008; have := hlen; omega, by have := g_M 45008; have := hlen; omega⟩ ⟨by decide, by decide⟩ dX4_put_7 (by decide) (fun c7 => ?_) (fun c7 => ?_)
  · exact x_return C hr hlk hw hS (by unfold putM; first | (rw [if_pos (by omega)]; done) | (rw [if_neg (by omega)]; done)) dX4_put_30
  · refine lv_aload_n C.1 C.2.1 dX4_put_10 rfl (lv_at hl 0 rfl) ?_
    refine g4 C hw 45 (by omega) rfl 6 (by decide) mw_282 (svr hT.2.2.1) dX4_put_11 ?_
    refine lv_aload_n C.1 C.2.1 dX4_put_14 rfl (lv_at hl 0 rfl) ?_
    refine g4 C hw 45 (by omega) rfl 8 (by decide) mw_286 (svi (x := (L : Int)) hlen) dX4_put_15 ?_
    refine lv_iload_n C.1 C.2.1 dX4_put_18 rfl (lv_at hl 1 rfl) ?_
    refine x_iastore (L := 160) C hw hS 47 (by omega) rfl rfl (by omega) (by omega) (by decide) (x := w) hw0 dX4_put_19 (fun H locs hw hS => ?_)
    have hw : Wo g (stM M (47000 + L) w) H := hw
    refine lv_aload_n C.1 C.2.1 dX4_put_20 rfl (lv_at hl 0 rfl) ?_
    refine lv_dup C.1 C.2.1 dX4_put_21 rfl ?_
    refine g4 C hw 45 (by omega) rfl 8 (by decide) mw_286 (svi (x := (L : Int)) ((st_n (by omega)).trans hlen)) dX4_put_22 ?_
    refine lv_iconst (v := II 1) C.1 C.2.1 dX4_put_25 rfl ?_
    refine x_iadd C dX4_put_26 ?_
    refine p4 C hw hS 45 (by omega) rfl 8 (by decide) mw_286 rfl (x := (L : Int) + 1) ⟨by omega, by omega⟩ (svi st_s) (tyX4_ok 8 (by decide)) rfl rfl dX4_put_27 (fun H locs hw hS => ?_)
    have hw : Wo g (stM (stM M (47000 + L) w) 45008 ((L : Int) + 1)) H := hw
    exact x_return C hr hlk hw hS (by unfold putM; first | (rw [if_pos (by omega)]; done) | (rw [if_neg (by omega)]; done)) dX4_put_30

set_option maxHeartbeats 4000000 in
set_option maxRecDepth 100000 in
theorem c_X4_passes (l : Launch) (g : Gm) (M : Nat → Int) (hT : LvR g) (b : Nat → Int) (n : Nat) (i : Nat) (c0 : List Int) (hs : RS M b n i c0) (w : Int) (hw0 : rg w) : CI l ({ cls := "RatedBySighs$Reader", name := "passes", desc := "(I)Z" } : Jvm.MethodName) cX4_passes 2 .boolean (rmm 7 147) g M [.ref (gA g 45), .int (II w)] (fun r M' => (RX M M') ∧ ((r = 1 ∧ (tK b n i = w ∧ RS M' b n (tE b n i) c0)) ∨ (r = 0 ∧ (tK b n i ≠ w ∧ RF M' (tS b n i))))) := by
  refine c_start (by decide) (Nat.le_of_ble_eq_true rfl) (fun p e s m below meth c ls C hr hlk hml hw hS hl => ?_)
  have hl : lv_has ls 2 [(0, .ref (gA g 45)), (1, .int (II w))] := hl
  have g_M := hw.rg
  have hN : 49 ≤ gN g := hT.1
  refine lv_aload_n C.1 C.2.1 dX4_passes_0 rfl (lv_at hl 0 rfl) ?_
  refine g4 C hw 45 (by omega) rfl 3 (by decide) mw_278 (svi (x := tK b n i) hs.2.1.2.1) dX4_passes_1 ?_
  refine lv_iload_n C.1 C.2.1 dX4_passes_4 rfl (lv_at hl 1 rfl) ?_
  refine x_icmp_eq (tgt := 10) C ⟨by have := g_M 45003; have := hs.2.1.2.1; omega, by have := g_M 45003; have := hs.2.1.2.1; omega⟩ hw0 dX4_passes_5 (by decide) (fun c5 => ?_) (fun c5 => ?_)
  · refine lv_aload_n C.1 C.2.1 dX4_passes_10 rfl (lv_at hl 0 rfl) ?_
    refine x_cv (x_runV (n := 0) C hw hS hml hl.1 45 4 (by omega) rfl (by decide) rfl (c_X4_next l g M hT b n hs.1.1 (tE b n i) (tE_in hs.1.2).2.1 hs.2.1.1) mw_398 mw_400 mw_2 mw_122 mw_401 rfl rfl (by decide +kernel) ⟨Nat.le_of_ble_eq_true rfl, Nat.le_of_ble_eq_true rfl⟩ rfl rfl (Nat.le_of_ble_eq_true rfl) dX4_passes_11 ⟨Nat.zero_le _, Nat.zero_le _⟩) hS (fun M11 H locs hp hw hS => ?_)
    have h11p := hp
    have g_M11 := hw.rg
    refine lv_iconst (v := II 1) C.1 C.2.1 dX4_passes_14 rfl ?_
    exact x_ireturn C hr hlk hw hS ⟨by decide, by decide⟩ (by decide) ⟨h11p.rx, Or.inl ⟨rfl, c5, hs.next h11p⟩⟩ dX4_passes_15
  · refine lv_iconst (v := II 0) C.1 C.2.1 dX4_passes_8 rfl ?_
    exact x_ireturn C hr hlk hw hS ⟨by decide, by decide⟩ (by decide) ⟨RX.rfl', Or.inr ⟨rfl, c5, hs.rf⟩⟩ dX4_passes_9
