def upv (v : Nat → Nat → Int) (q f : Nat) (x : Int) : Nat → Nat → Int := fun q' f' => if q' = q ∧ f' = f then x else v q' f'
theorem upv_s {v : Nat → Nat → Int} {q f : Nat} {x : Int} : upv v q f x q f = x := if_pos ⟨rfl, rfl⟩
theorem upv_n {v : Nat → Nat → Int} {q f q' f' : Nat} {x : Int} (h : ¬ (q' = q ∧ f' = f)) : upv v q f x q' f' = v q' f' := if_neg h
theorem BV.up {M : Nat → Int} {n : Nat} {v : Nat → Nat → Int} {nt : Int} {t : Nat} {E : Ev} (h : BV M n v nt t E) {q f : Nat} {x : Int} (hq : q < n) (hf : f < 5) (hP : PI (upv v q f x) n) : BV (stM M (1000 * (4 + q) + f) x) n (upv v q f x) nt t E := by
  obtain ⟨⟨h1, h2⟩, h3, h4, ⟨h5, h6⟩, ⟨h7, h8⟩, h9⟩ := h
  refine ⟨⟨(st_n (by omega)).trans h1, h2⟩, fun q' hq' f' hf' => ?_, hP, ⟨(st_n (by omega)).trans h5, h6⟩, ⟨(st_n (by omega)).trans h7, h8⟩, h9.fr (fun m hm => st_n (by omega))⟩
  by_cases e : q' = q ∧ f' = f
  · obtain ⟨rfl, rfl⟩ := e; rw [st_s, upv_s]
  · rw [st_n (by omega), upv_n e]; exact h3 q' hq' f' hf'
theorem upv_id {v : Nat → Nat → Int} {q f : Nat} : upv v q f (v q f) = v := by
  funext q' f'
  unfold upv
  split
  · next h => rw [h.1, h.2]
  · rfl
theorem PI.up {v : Nat → Nat → Int} {n q : Nat} {x : Int} (h : PI v n) (hx : -1 ≤ x ∧ x ≤ 4) : PI (upv v q 2 x) n := by
  intro p hp
  have := h p hp
  refine ⟨?_, ?_, ?_, ?_, ?_⟩ <;> (unfold upv; split <;> omega)
theorem PI.upO {v : Nat → Nat → Int} {n q : Nat} {x : Int} (h : PI v n) (hx : 0 ≤ x ∧ x ≤ 63) : PI (upv v q 4 x) n := by
  intro p hp
  have := h p hp
  refine ⟨?_, ?_, ?_, ?_, ?_⟩ <;> (unfold upv; split <;> omega)
theorem PI.upM {v : Nat → Nat → Int} {n q : Nat} {x : Int} (h : PI v n) (hx : -20 ≤ x ∧ x ≤ 20) : PI (upv v q 3 x) n := by
  intro p hp
  have := h p hp
  refine ⟨?_, ?_, ?_, ?_, ?_⟩ <;> (unfold upv; split <;> omega)
theorem PI.upN {v : Nat → Nat → Int} {n q : Nat} {x : Int} (h : PI v n) (hx : 0 ≤ x ∧ x ≤ 9) : PI (upv v q 1 x) n := by
  intro p hp
  have := h p hp
  refine ⟨?_, ?_, ?_, ?_, ?_⟩ <;> (unfold upv; split <;> omega)
theorem PI.upK {v : Nat → Nat → Int} {n q : Nat} {x : Int} (h : PI v n) (hx : 0 ≤ x ∧ x ≤ 5) : PI (upv v q 0 x) n := by
  intro p hp
  have := h p hp
  refine ⟨?_, ?_, ?_, ?_, ?_⟩ <;> (unfold upv; split <;> omega)
theorem dueS_in (v : Nat → Nat → Int) (n : Nat) (nt : Int) (E : Ev) (ho : Int) : 0 ≤ dueS v n nt E ho ∧ dueS v n nt E ho ≤ 9999 := bnd_in (by decide)
theorem allS_in (v : Nat → Nat → Int) (n : Nat) (nt : Int) (E : Ev) : 0 ≤ allS v n nt E ∧ allS v n nt E ≤ 49995 := by
  have := sm_in (f := fun k => dueS v n nt E (k : Int)) (B := 9999) (fun q => dueS_in v n nt E q) 5
  unfold allS; omega
/-- the best so far -/
def ofr (b : Int × Int) (w x : Int) : Int × Int := if x < b.2 then (w, x) else b
def mv1 (v : Nat → Nat → Int) (n : Nat) (nt : Int) (E : Ev) (i : Nat) (b : Int × Int) : Nat → Int × Int
  | 0 => b
  | k + 1 => ofr (mv1 v n nt E i b k) (10 * i + k) (allS (upv v i 2 k) n nt E)
def mvA (v : Nat → Nat → Int) (n : Nat) (nt : Int) (E : Ev) (fl : Bool) : Nat → Int × Int
  | 0 => (-1, allS v n nt E)
  | i + 1 => if fl && decide (v i 0 ≠ 5) then mvA v n nt E fl i else mv1 v n nt E i (mvA v n nt E fl i) 5
def orb (o : Int) (h : Nat) : Int := (II o ||| (II 1 <<< (II (h : Int) &&& 31))).toInt
theorem orb_t : ∀ o, o < 64 → ∀ h, h < 6 → (0 ≤ orb (o : Nat) h ∧ orb (o : Nat) h ≤ 63) := by decide +kernel
theorem orb_in {o : Int} {h : Nat} (h0 : 0 ≤ o) (h1 : o ≤ 63) (h2 : h < 6) : 0 ≤ orb o h ∧ orb o h ≤ 63 := by
  obtain ⟨n, rfl⟩ : ∃ n : Nat, o = n := ⟨o.toNat, by omega⟩
  exact orb_t n (by omega) h h2
def ct1 (v : Nat → Nat → Int) (n : Nat) (nt : Int) (E : Ev) (i : Nat) (b : Int × Int) : Nat → Int × Int
  | 0 => b
  | k + 1 => ofr (ct1 v n nt E i b k) (10 * i + k) (allS (upv v i 4 (orb (v i 4) k)) n nt E)
def ctA (v : Nat → Nat → Int) (n : Nat) (nt : Int) (E : Ev) : Nat → Int × Int
  | 0 => (-1, allS v n nt E)
  | i + 1 => ct1 v n nt E i (ctA v n nt E i) 6
def swp (v : Nat → Nat → Int) (i j : Nat) : Nat → Nat → Int := upv (upv v i 2 (v j 2)) j 2 (v i 2)
def ch1 (v : Nat → Nat → Int) (n : Nat) (nt : Int) (E : Ev) (i : Nat) (b : Int × Int) : Nat → Int × Int
  | 0 => b
  | k + 1 => ofr (ch1 v n nt E i b k) (10 * i + (i + 1 + k : Nat)) (allS (swp v i (i + 1 + k)) n nt E)
def chA (v : Nat → Nat → Int) (n : Nat) (nt : Int) (E : Ev) : Nat → Int × Int
  | 0 => (-1, allS v n nt E)
  | i + 1 => ch1 v n nt E i (chA v n nt E i) (n - (i + 1))
theorem ofr_in {b : Int × Int} {w x B : Int} (hb : (-1 ≤ b.1 ∧ b.1 ≤ B) ∧ (0 ≤ b.2 ∧ b.2 ≤ 49995)) (hw : -1 ≤ w ∧ w ≤ B) (hx : 0 ≤ x ∧ x ≤ 49995) : (-1 ≤ (ofr b w x).1 ∧ (ofr b w x).1 ≤ B) ∧ (0 ≤ (ofr b w x).2 ∧ (ofr b w x).2 ≤ 49995) := by
  unfold ofr
  split
  · exact ⟨hw, hx⟩
  · exact hb
theorem BV.fr2 {M M' : Nat → Int} {n : Nat} {v : Nat → Nat → Int} {nt : Int} {t : Nat} {E : Ev} (h : BV M n v nt t E) (hf : ∀ m, ¬ (scr m ∨ m / 1000 = 59) → M' m = M m) : BV M' n v nt t E := by
  obtain ⟨⟨h1, h2⟩, h3, h4, ⟨h5, h6⟩, ⟨h7, h8⟩, h9⟩ := h
  exact ⟨⟨(hf _ (by unfold scr; omega)).trans h1, h2⟩, fun q hq f hf' => (hf _ (by unfold scr; omega)).trans (h3 q hq f hf'), h4, ⟨(hf _ (by unfold scr; omega)).trans h5, h6⟩, ⟨(hf _ (by unfold scr; omega)).trans h7, h8⟩, h9.fr (fun m hm => hf m (by unfold scr; omega))⟩
set_option maxHeartbeats 4000000 in
set_option maxRecDepth 100000 in
theorem c_X2_playAll (l : Launch) (g : Gm) (M : Nat → Int) (hF : LvF g) (n : Nat) (v : Nat → Nat → Int) (nt : Int) (t : Nat) (E : Ev) (hB : BV M n v nt t E) : CI l ({ cls := "RatedBySighs$Evening", name := "playAll", desc := "()I" } : Jvm.MethodName) cX2_playAll 3 .int (rmm 4 99) g M [.ref (gA g 1)] (fun r M' => r = allS v n nt E ∧ (∀ m, ¬ scr m → M' m = M m)) := by
  refine c_start (by decide) (Nat.le_of_ble_eq_true rfl) (fun p e s m below meth c ls C hr hlk hml hw hS hl => ?_)
  have hl : lv_has ls 3 [(0, .ref (gA g 1))] := hl
  generalize ([.ref (gA g 1)] : List Value).toArray = args at C ⊢
  generalize hQQ : MQ below (postI g (fun r M' => r = allS v n nt E ∧ (∀ m, ¬ scr m → M' m = M m))) args s 0 0 (ar g) = QQ
  have g_M := hw.rg
  have hN : gN g = 84 := hF.1
  refine lv_iconst (v := II 0) C.1 C.2.1 dX2_playAll_0 rfl ?_
  refine lv_istore_n (lv' := [(1, .int (II 0)), (0, .ref (gA g 1))]) C.1 C.2.1 dX2_playAll_1 rfl hl (by decide) rfl (fun ls hl => ?_)
  refine lv_iconst (v := II 0) C.1 C.2.1 dX2_playAll_2 rfl ?_
  refine lv_istore_n (lv' := [(2, .int (II 0)), (1, .int (II 0)), (0, .ref (gA g 1))]) C.1 C.2.1 dX2_playAll_3 rfl hl (by decide) rfl (fun ls hl => ?_)
  have L4 : ∀ (f1 : Nat) (i : Nat) (M2 : Nat → Int), (5 - i) < f1 → (i ≤ 5) → (∀ m, ¬ scr m → M2 m = M m) → ∀ (H : Heap) (locs : List Loc) (ls : Array Slot), Wo g M2 H → va_S (ar g) s.heap H locs → lv_has ls 3 [(0, .ref (gA g 1)), (1, .int (II (sm (fun k => dueS v n nt E (k : Int)) i))), (2, .int (II (i : Int)))] → W p l e (rmm 4 99) s m args below meth c H locs 0 0 QQ (F0 m 4 ls []) := by
    intro f1
    induction f1 with
    | zero => intro i M2 hmu; exact absurd hmu (Nat.not_lt_zero _)
    | succ f1 ih =>
      intro i M2 hmu h1 hf H locs ls hw hS hl
      have ih4 := ih
      have g_M2 := hw.rg
      have hs := sm_in (f := (fun k => dueS v n nt E (k : Int))) (B := 9999) (fun q => dueS_in v n nt E q) i
      refine lv_iload_n C.1 C.2.1 dX2_playAll_4 rfl (lv_at hl 2 rfl) ?_
      refine lv_iconst (v := II 5) C.1 C.2.1 dX2_playAll_5 rfl ?_
      refine x_icmp_ge (tgt := 23) C ⟨by omega, by omega⟩ ⟨by decide, by decide⟩ dX2_playAll_6 (by decide) (fun c6 => ?_) (fun c6 => ?_)
      · refine lv_iload_n C.1 C.2.1 dX2_playAll_23 rfl (lv_at hl 1 rfl) ?_
        subst hQQ; exact x_ireturn C hr hlk hw hS ⟨by omega, by omega⟩ rfl ⟨by rw [show i = 5 by omega]; rfl, hf⟩ dX2_playAll_24
      · have hdi := dueS_in v n nt E (i : Int)
        refine lv_iload_n C.1 C.2.1 dX2_playAll_9 rfl (lv_at hl 1 rfl) ?_
        refine lv_aload_n C.1 C.2.1 dX2_playAll_10 rfl (lv_at hl 0 rfl) ?_
        refine lv_iload_n C.1 C.2.1 dX2_playAll_11 rfl (lv_at hl 2 rfl) ?_
        refine x_ci (x_runV (n := 1) C hw hS hml hl.1 1 2 (by omega) rfl (by decide) rfl (c_X2_play l g M2 hF n v nt t E (hB.fr hf) (i : Int) ⟨by omega, by omega⟩) mw_621 mw_550 mw_21 mw_118 mw_551 rfl rfl (by decide +kernel) ⟨Nat.le_of_ble_eq_true rfl, Nat.le_of_ble_eq_true rfl⟩ rfl rfl (Nat.le_of_ble_eq_true rfl) dX2_playAll_12 ⟨Nat.zero_le _, Nat.zero_le _⟩) hS (fun r12 M12 H locs hr12 hp hw hS => ?_)
        obtain ⟨er12, h12a, h12b, h12c, h12f⟩ := hp
        have g_M12 := hw.rg
        rw [er12] at hr12 ⊢
        refine x_iadd C dX2_playAll_15 ?_
        refine lv_istore_n (lv' := [(1, .int (II ((sm (fun k => dueS v n nt E (k : Int)) i) + (dueS v n nt E (i : Int))))), (0, .ref (gA g 1)), (2, .int (II (i : Int)))]) C.1 C.2.1 dX2_playAll_16 rfl hl (by decide) rfl (fun ls hl => ?_)
        refine lv_iinc (v := II ((i : Int) + 1)) (lv' := [(2, .int (II ((i : Int) + 1))), (1, .int (II ((sm (fun k => dueS v n nt E (k : Int)) i) + (dueS v n nt E (i : Int))))), (0, .ref (gA g 1))]) C.1 C.2.1 dX2_playAll_17 hl (k := 2) rfl (II_add _ _) (by decide) rfl (fun ls hl => ?_)
        refine lv_goto (tgt := 4) C.1 C.2.1 dX2_playAll_20 (by decide) ?_
        exact ih4  (i + 1) M12 (by omega) (by omega) (fun m hm => (h12f m hm).trans (hf m hm)) _ _ _ hw hS (lv_sub hl [2, 1, 0] rfl)
  exact L4 _ 0 M (Nat.lt_succ_self _) (by omega) (fun _ _ => rfl) _ _ _ hw hS (lv_sub hl [2, 1, 0] rfl)

theorem c_X3_partF (l : Launch) (g : Gm) (M : Nat → Int) (k : Nat) (hk : k < gN g) (hkd : kd k = 3) (w : Int) (hw0 : rg w) (f : Nat) (hf : slotK w = f) : CI l ({ cls := "RatedBySighs$Person", name := "part", desc := "(I)I" } : Jvm.MethodName) cX3_part 2 .int (rmm 0 0) g M [.ref (gA g k), .int (II w)] (fun r M' => M' = M ∧ r = M (1000 * k + f)) := by subst hf; exact c_X3_part l g M k hk hkd w hw0

theorem c_X3_becomeF (l : Launch) (g : Gm) (M : Nat → Int) (k : Nat) (hk : k < gN g) (hkd : kd k = 3) (w : Int) (hw0 : rg w) (f : Nat) (hf : slotK w = f) (v : Int) (hv : rg v) : CV l ({ cls := "RatedBySighs$Person", name := "become", desc := "(II)V" } : Jvm.MethodName) cX3_become 3 (rmm 0 0) g M [.ref (gA g k), .int (II w), .int (II v)] (fun M' => M' = stM M (1000 * k + f) v) := by subst hf; exact c_X3_become l g M k hk hkd w hw0 v hv

set_option maxHeartbeats 4000000 in
set_option maxRecDepth 100000 in
theorem c_X7_allIf (l : Launch) (g : Gm) (M : Nat → Int) (hF : LvF g) (n : Nat) (v : Nat → Nat → Int) (nt : Int) (t : Nat) (E : Ev) (hB : BV M n v nt t E) (i : Nat) (hi : i < n) (w : Int) (hw0 : rg w) (f : Nat) (hf : slotK w = f ∧ f < 5) (x : Int) (hx : rg x) (hPx : PI (upv v i f x) n) : CI l ({ cls := "RatedBySighs", name := "allIf", desc := "(III)I" } : Jvm.MethodName) cX7_allIf 7 .int (rmm 5 121) g M [.ref (gA g 0), .int (II (i : Int)), .int (II w), .int (II x)] (fun r M' => r = allS (upv v i f x) n nt E ∧ (∀ m, ¬ scr m → M' m = M m)) := by
  refine c_start (by decide) (Nat.le_of_ble_eq_true rfl) (fun p e s m below meth c ls C hr hlk hml hw hS hl => ?_)
  have hl : lv_has ls 7 [(0, .ref (gA g 0)), (1, .int (II (i : Int))), (2, .int (II w)), (3, .int (II x))] := hl
  have g_M := hw.rg
  have hN : gN g = 84 := hF.1
  have hn2 := hB.1.2
  refine lv_aload_n C.1 C.2.1 dX7_allIf_0 rfl (lv_at hl 0 rfl) ?_
  refine g7 C hw 0 (by omega) rfl 1 (by decide) mw_481 (svr (hF.2 _)) dX7_allIf_1 ?_
  refine gn1 C hw 2 (by omega) rfl 0 (by decide) mn_187 (svr (hF.2 _)) dX7_allIf_4 ?_
  refine lv_iload_n C.1 C.2.1 dX7_allIf_7 rfl (lv_at hl 1 rfl) ?_
  refine x_aaload (L := 8) C hw 3 (by omega) 11 rfl (by decide) rfl (by omega) (by omega) (by decide) (rP hF i (by omega)) dX7_allIf_8 ?_
  refine lv_astore (lv' := [(4, .ref (gA g (4 + i))), (0, .ref (gA g 0)), (1, .int (II (i : Int))), (2, .int (II w)), (3, .int (II x))]) C.1 C.2.1 dX7_allIf_9 hl (by decide) rfl (fun ls hl => ?_)
  refine lv_aload C.1 C.2.1 dX7_allIf_11 (lv_at hl 0 rfl) ?_
  refine lv_iload_n C.1 C.2.1 dX7_allIf_13 rfl (lv_at hl 3 rfl) ?_
  refine x_ci (x_runVN (n := 1) C hw hS hml hl.1 (4 + i) 3 (by omega) (kd_p (by omega)) (by decide) rfl (c_X3_partF l g M (4 + i) (by omega) (kd_p (by omega)) w hw0 f hf.1) mn_524 mw_526 mw_17 mw_120 mw_527 rfl rfl (by decide +kernel) ⟨Nat.le_of_ble_eq_true rfl, Nat.le_of_ble_eq_true rfl⟩ rfl rfl (Nat.le_of_ble_eq_true rfl) dX7_allIf_14 ⟨Nat.zero_le _, Nat.zero_le _⟩) hS (fun r14 M14 H locs hr14 hp hw hS => ?_)
  obtain ⟨em14, er14⟩ := hp
  have hw : Wo g M H := em14 ▸ hw
  rw [er14] at hr14 ⊢
  refine lv_istore (lv' := [(5, .int (II (M (1000 * (4 + i) + f)))), (4, .ref (gA g (4 + i))), (0, .ref (gA g 0)), (1, .int (II (i : Int))), (2, .int (II w)), (3, .int (II x))]) C.1 C.2.1 dX7_allIf_17 hl (by decide) rfl (fun ls hl => ?_)
  refine lv_aload C.1 C.2.1 dX7_allIf_19 (lv_at hl 1 rfl) ?_
  refine lv_iload_n C.1 C.2.1 dX7_allIf_21 rfl (lv_at hl 4 rfl) ?_
  refine lv_iload_n C.1 C.2.1 dX7_allIf_22 rfl (lv_at hl 5 rfl) ?_
  refine x_cv (x_runVN (n := 2) C hw hS hml hl.1 (4 + i) 3 (by omega) (kd_p (by omega)) (by decide) rfl (c_X3_becomeF l g M (4 + i) (by omega) (kd_p (by omega)) w hw0 f hf.1 x hx) mn_528 mw_530 mw_18 mw_120 mw_531 rfl rfl (by decide +kernel) ⟨Nat.le_of_ble_eq_true rfl, Nat.le_of_ble_eq_true rfl⟩ rfl rfl (Nat.le_of_ble_eq_true rfl) dX7_allIf_23 ⟨Nat.zero_le _, Nat.zero_le _⟩) hS (fun M23 H locs hp hw hS => ?_)
  have em23 := hp
  have hw : Wo g (stM M (1000 * (4 + i) + f) x) H := em23 ▸ hw
  refine lv_aload_n C.1 C.2.1 dX7_allIf_26 rfl (lv_at hl 2 rfl) ?_
  refine g7 C hw 0 (by omega) rfl 0 (by decide) mw_480 (svr (hF.2 _)) dX7_allIf_27 ?_
  refine x_ci (x_runVN (n := 0) C hw hS hml hl.1 1 2 (by omega) rfl (by decide) rfl (c_X2_playAll l g (stM M (1000 * (4 + i) + f) x) hF n (upv v i f x) nt t E (hB.up hi hf.2 hPx)) mn_617 mw_619 mw_30 mw_118 mw_620 rfl rfl (by decide +kernel) ⟨Nat.le_of_ble_eq_true rfl, Nat.le_of_ble_eq_true rfl⟩ rfl rfl (Nat.le_of_ble_eq_true rfl) dX7_allIf_30 ⟨Nat.zero_le _, Nat.zero_le _⟩) hS (fun r30 M30 H locs hr30 hp hw hS => ?_)
  obtain ⟨er30, h30f⟩ := hp
  have g_M30 := hw.rg
  rw [er30] at hr30 ⊢
  refine lv_istore (lv' := [(6, .int (II (allS (upv v i f x) n nt E))), (5, .int (II (M (1000 * (4 + i) + f)))), (4, .ref (gA g (4 + i))), (0, .ref (gA g 0)), (1, .int (II (i : Int))), (2, .int (II w)), (3, .int (II x))]) C.1 C.2.1 dX7_allIf_33 hl (by decide) rfl (fun ls hl => ?_)
  refine lv_aload C.1 C.2.1 dX7_allIf_35 (lv_at hl 2 rfl) ?_
  refine lv_iload_n C.1 C.2.1 dX7_allIf_37 rfl (lv_at hl 5 rfl) ?_
  refine lv_iload C.1 C.2.1 dX7_allIf_38 (lv_at hl 1 rfl) ?_
  refine x_cv (x_runVN (n := 2) C hw hS hml hl.1 (4 + i) 3 (by omega) (kd_p (by omega)) (by decide) rfl (c_X3_becomeF l g M30 (4 + i) (by omega) (kd_p (by omega)) w hw0 f hf.1 (M (1000 * (4 + i) + f)) hr14) mn_528 mw_530 mw_18 mw_120 mw_531 rfl rfl (by decide +kernel) ⟨Nat.le_of_ble_eq_true rfl, Nat.le_of_ble_eq_true rfl⟩ rfl rfl (Nat.le_of_ble_eq_true rfl) dX7_allIf_40 ⟨Nat.zero_le _, Nat.zero_le _⟩) hS (fun M40 H locs hp hw hS => ?_)
  have em40 := hp
  have hw : Wo g (stM M30 (1000 * (4 + i) + f) (M (1000 * (4 + i) + f))) H := em40 ▸ hw
  refine lv_iload C.1 C.2.1 dX7_allIf_43 (lv_at hl 0 rfl) ?_
  exact x_ireturn C hr hlk hw hS hr30 rfl ⟨rfl, fun m hm => by
    by_cases e : m = 1000 * (4 + i) + f
    · subst e; exact st_s
    · exact (st_n e).trans ((h30f m hm).trans (st_n e))⟩ dX7_allIf_45

set_option maxHeartbeats 4000000 in
set_option maxRecDepth 100000 in
theorem c_X7_dueIfOut (l : Launch) (g : Gm) (M : Nat → Int) (hF : LvF g) (n : Nat) (v : Nat → Nat → Int) (nt : Int) (t : Nat) (E : Ev) (hB : BV M n v nt t E) (i : Nat) (hi : i < n) (x : Int) (hx : 0 ≤ x ∧ x ≤ 63) : CI l ({ cls := "RatedBySighs", name := "dueIfOut", desc := "(II)I" } : Jvm.MethodName) cX7_dueIfOut 6 .int (rmm 4 99) g M [.ref (gA g 0), .int (II (i : Int)), .int (II x)] (fun r M' => r = dueS (upv v i 4 x) n nt E (v i 2) ∧ (∀ m, ¬ scr m → M' m = M m)) := by
  refine c_start (by decide) (Nat.le_of_ble_eq_true rfl) (fun p e s m below meth c ls C hr hlk hml hw hS hl => ?_)
  have hl : lv_has ls 6 [(0, .ref (gA g 0)), (1, .int (II (i : Int))), (2, .int (II x))] := hl
  have g_M := hw.rg
  have hN : gN g = 84 := hF.1
  have hn2 := hB.1.2
  have hq := hB.2.2.1 i hi
  refine lv_aload_n C.1 C.2.1 dX7_dueIfOut_0 rfl (lv_at hl 0 rfl) ?_
  refine g7 C hw 0 (by omega) rfl 1 (by decide) mw_481 (svr (hF.2 _)) dX7_dueIfOut_1 ?_
  refine gn1 C hw 2 (by omega) rfl 0 (by decide) mn_187 (svr (hF.2 _)) dX7_dueIfOut_4 ?_
  refine lv_iload_n C.1 C.2.1 dX7_dueIfOut_7 rfl (lv_at hl 1 rfl) ?_
  refine x_aaload (L := 8) C hw 3 (by omega) 11 rfl (by decide) rfl (by omega) (by omega) (by decide) (rP hF i (by omega)) dX7_dueIfOut_8 ?_
  refine lv_astore_n (lv' := [(3, .ref (gA g (4 + i))), (0, .ref (gA g 0)), (1, .int (II (i : Int))), (2, .int (II x))]) C.1 C.2.1 dX7_dueIfOut_9 rfl hl (by decide) rfl (fun ls hl => ?_)
  refine lv_aload_n C.1 C.2.1 dX7_dueIfOut_10 rfl (lv_at hl 0 rfl) ?_
  refine gn3 C hw (4 + i) (by omega) (kd_p (by omega)) 4 (by decide) mn_174 (svi (x := v i 4) (hB.2.1 i (by omega) 4 (by decide))) dX7_dueIfOut_11 ?_
  refine lv_istore (lv' := [(4, .int (II (v i 4))), (3, .ref (gA g (4 + i))), (0, .ref (gA g 0)), (1, .int (II (i : Int))), (2, .int (II x))]) C.1 C.2.1 dX7_dueIfOut_14 hl (by decide) rfl (fun ls hl => ?_)
  refine lv_aload_n C.1 C.2.1 dX7_dueIfOut_16 rfl (lv_at hl 1 rfl) ?_
  refine lv_iload_n C.1 C.2.1 dX7_dueIfOut_17 rfl (lv_at hl 4 rfl) ?_
  refine pn3 C hw hS (4 + i) (by omega) (kd_p (by omega)) 4 (by decide) mn_174 rfl (x := x) ⟨by omega, by omega⟩ (svi st_s) (tyX3_ok 4 (by decide)) rfl rfl dX7_dueIfOut_18 (fun H locs hw hS => ?_)
  have hw : Wo g (stM M (1000 * (4 + i) + 4) x) H := hw
  refine lv_aload_n C.1 C.2.1 dX7_dueIfOut_21 rfl (lv_at hl 2 rfl) ?_
  refine g7 C hw 0 (by omega) rfl 0 (by decide) mw_480 (svr (hF.2 _)) dX7_dueIfOut_22 ?_
  refine lv_aload_n C.1 C.2.1 dX7_dueIfOut_25 rfl (lv_at hl 1 rfl) ?_
  refine gn3 C hw (4 + i) (by omega) (kd_p (by omega)) 2 (by decide) mn_169 (svi (x := v i 2) ((st_n (by omega)).trans (hB.2.1 i (by omega) 2 (by decide)))) dX7_dueIfOut_26 ?_
  refine x_ci (x_runVN (n := 1) C hw hS hml hl.1 1 2 (by omega) rfl (by decide) rfl (c_X2_play l g (stM M (1000 * (4 + i) + 4) x) hF n (upv v i 4 x) nt t E (hB.up hi (by decide) (hB.2.2.1.upO hx)) (v i 2) ⟨by omega, by omega⟩) mn_548 mw_550 mw_21 mw_118 mw_551 rfl rfl (by decide +kernel) ⟨Nat.le_of_ble_eq_true rfl, Nat.le_of_ble_eq_true rfl⟩ rfl rfl (Nat.le_of_ble_eq_true rfl) dX7_dueIfOut_29 ⟨Nat.zero_le _, Nat.zero_le _⟩) hS (fun r29 M29 H locs hr29 hp hw hS => ?_)
  obtain ⟨er29, h29a, h29b, h29c, h29f⟩ := hp
  have g_M29 := hw.rg
  rw [er29] at hr29 ⊢
  refine lv_istore (lv' := [(5, .int (II (dueS (upv v i 4 x) n nt E (v i 2)))), (4, .int (II (v i 4))), (3, .ref (gA g (4 + i))), (0, .ref (gA g 0)), (1, .int (II (i : Int))), (2, .int (II x))]) C.1 C.2.1 dX7_dueIfOut_32 hl (by decide) rfl (fun ls hl => ?_)
  refine lv_aload_n C.1 C.2.1 dX7_dueIfOut_34 rfl (lv_at hl 2 rfl) ?_
  refine lv_iload C.1 C.2.1 dX7_dueIfOut_35 (lv_at hl 1 rfl) ?_
  refine pn3 C hw hS (4 + i) (by omega) (kd_p (by omega)) 4 (by decide) mn_174 rfl (x := v i 4) ⟨by have := g_M (1000 * (4 + i) + 4); have := (hB.2.1 i (by omega) 4 (by decide)); omega, by have := g_M (1000 * (4 + i) + 4); have := (hB.2.1 i (by omega) 4 (by decide)); omega⟩ (svi st_s) (tyX3_ok 4 (by decide)) rfl rfl dX7_dueIfOut_37 (fun H locs hw hS => ?_)
  have hw : Wo g (stM M29 (1000 * (4 + i) + 4) (v i 4)) H := hw
  refine lv_iload C.1 C.2.1 dX7_dueIfOut_40 (lv_at hl 0 rfl) ?_
  exact x_ireturn C hr hlk hw hS hr29 rfl ⟨rfl, fun m hm => by
    by_cases e : m = 1000 * (4 + i) + 4
    · subst e; exact st_s.trans (hB.2.1 i hi 4 (by decide)).symm
    · exact (st_n e).trans ((h29f m hm).trans (st_n e))⟩ dX7_dueIfOut_42

set_option maxHeartbeats 4000000 in
set_option maxRecDepth 100000 in
theorem c_X7_bestMove (l : Launch) (g : Gm) (M : Nat → Int) (hF : LvF g) (n : Nat) (v : Nat → Nat → Int) (nt : Int) (t : Nat) (E : Ev) (hB : BV M n v nt t E) (w : Int) (hw0 : rg w) (fl : Bool) (b : Int) (hb : b = (if fl then 1 else 0)) : CI l ({ cls := "RatedBySighs", name := "bestMove", desc := "(IZ)I" } : Jvm.MethodName) cX7_bestMove 5 .int (rmm 6 147) g M [.ref (gA g 0), .int (II w), .int (II b)] (fun r M' => r = (if w = 0 then (mvA v n nt E fl n).1 else (mvA v n nt E fl n).2) ∧ (∀ m, ¬ (scr m ∨ m / 1000 = 59) → M' m = M m)) := by
  refine c_start (by decide) (Nat.le_of_ble_eq_true rfl) (fun p e s m below meth c ls C hr hlk hml hw hS hl => ?_)
  have hl : lv_has ls 5 [(0, .ref (gA g 0)), (1, .int (II w)), (2, .int (II b))] := hl
  generalize ([.ref (gA g 0), .int (II w), .int (II b)] : List Value).toArray = args at C ⊢
  generalize hQQ : MQ below (postI g (fun r M' => r = (if w = 0 then (mvA v n nt E fl n).1 else (mvA v n nt E fl n).2) ∧ (∀ m, ¬ (scr m ∨ m / 1000 = 59) → M' m = M m))) args s 0 0 (ar g) = QQ
  have g_M := hw.rg
  have hN : gN g = 84 := hF.1
  have hn2 := hB.1.2
  have hall := allS_in v n nt E
  have hb01 : b = 0 ∨ b = 1 := by rw [hb]; split <;> omega
  refine lv_aload_n C.1 C.2.1 dX7_bestMove_0 rfl (lv_at hl 0 rfl) ?_
  refine g7 C hw 0 (by omega) rfl 6 (by decide) mw_486 (svr (hF.2 _)) dX7_bestMove_1 ?_
  refine lv_aload_n C.1 C.2.1 dX7_bestMove_4 rfl (lv_at hl 0 rfl) ?_
  refine g7 C hw 0 (by omega) rfl 0 (by decide) mw_480 (svr (hF.2 _)) dX7_bestMove_5 ?_
  refine x_ci (x_runVN (n := 0) C hw hS hml hl.1 1 2 (by omega) rfl (by decide) rfl (c_X2_playAll l g M hF n v nt t E hB) mn_617 mw_619 mw_30 mw_118 mw_620 rfl rfl (by decide +kernel) ⟨Nat.le_of_ble_eq_true rfl, Nat.le_of_ble_eq_true rfl⟩ rfl rfl (Nat.le_of_ble_eq_true rfl) dX7_bestMove_8 ⟨Nat.zero_le _, Nat.zero_le _⟩) hS (fun r8 M8 H locs hr8 hp hw hS => ?_)
  obtain ⟨er8, h8f⟩ := hp
  have g_M8 := hw.rg
  rw [er8] at hr8 ⊢
  refine x_cv (x_runVN (n := 1) C hw hS hml hl.1 59 0 (by omega) rfl (by decide) rfl (c_X0_begin l g M8 hF (allS v n nt E) hr8) mn_651 mw_653 mw_33 mw_123 mw_654 rfl rfl (by decide +kernel) ⟨Nat.le_of_ble_eq_true rfl, Nat.le_of_ble_eq_true rfl⟩ rfl rfl (Nat.le_of_ble_eq_true rfl) dX7_bestMove_11 ⟨Nat.zero_le _, Nat.zero_le _⟩) hS (fun M11 H locs hp hw hS => ?_)
  have em11 := hp
  have hw : Wo g (stM (stM M8 59000 (-1)) 59001 (allS v n nt E)) H := em11 ▸ hw
  refine lv_iconst (v := II 0) C.1 C.2.1 dX7_bestMove_14 rfl ?_
  refine lv_istore_n (lv' := [(3, .int (II 0)), (0, .ref (gA g 0)), (1, .int (II w)), (2, .int (II b))]) C.1 C.2.1 dX7_bestMove_15 rfl hl (by decide) rfl (fun ls hl => ?_)
  have L16 : ∀ (f1 : Nat) (i : Nat) (M2 : Nat → Int), (n - i) < f1 → (i ≤ n) → (M2 59000 = (mvA v n nt E fl i).1 ∧ M2 59001 = (mvA v n nt E fl i).2) → ((-1 ≤ (mvA v n nt E fl i).1 ∧ (mvA v n nt E fl i).1 ≤ 77) ∧ (0 ≤ (mvA v n nt E fl i).2 ∧ (mvA v n nt E fl i).2 ≤ 49995)) → (∀ m, ¬ (scr m ∨ m / 1000 = 59) → M2 m = M m) → ∀ (H : Heap) (locs : List Loc) (ls : Array Slot), Wo g M2 H → va_S (ar g) s.heap H locs → lv_has ls 5 [(0, .ref (gA g 0)), (1, .int (II w)), (2, .int (II b)), (3, .int (II (i : Int)))] → W p l e (rmm 6 147) s m args below meth c H locs 0 0 QQ (F0 m 16 ls []) := by
    intro f1
    induction f1 with
    | zero => intro i M2 hmu; exact absurd hmu (Nat.not_lt_zero _)
    | succ f1 ih =>
      intro i M2 hmu h1 h2 h3 hf H locs ls hw hS hl
      have ih16 := ih
      have g_M2 := hw.rg
      have hB2 : BV M2 n v nt t E := hB.fr2 hf
      refine lv_iload_n C.1 C.2.1 dX7_bestMove_16 rfl (lv_at hl 3 rfl) ?_
      refine lv_aload_n C.1 C.2.1 dX7_bestMove_17 rfl (lv_at hl 0 rfl) ?_
      refine g7 C hw 0 (by omega) rfl 1 (by decide) mw_481 (svr (hF.2 _)) dX7_bestMove_18 ?_
      refine gn1 C hw 2 (by omega) rfl 1 (by decide) mn_191 (svi (x := (n : Int)) hB2.1.1) dX7_bestMove_21 ?_
      refine x_icmp_ge (tgt := 93) C ⟨by omega, by omega⟩ ⟨by have := g_M2 2001; have := hB2.1.1; omega, by have := g_M2 2001; have := hB2.1.1; omega⟩ dX7_bestMove_24 (by decide) (fun c24 => ?_) (fun c24 => ?_)
      · refine lv_aload_n C.1 C.2.1 dX7_bestMove_93 rfl (lv_at hl 0 rfl) ?_
        refine g7 C hw 0 (by omega) rfl 6 (by decide) mw_486 (svr (hF.2 _)) dX7_bestMove_94 ?_
        refine lv_iload_n C.1 C.2.1 dX7_bestMove_97 rfl (lv_at hl 1 rfl) ?_
        refine x_ci (x_runVN (n := 1) C hw hS hml hl.1 59 0 (by omega) rfl (by decide) rfl (c_X0_answer l g M2 hF w hw0) mn_659 mw_661 mw_35 mw_123 mw_662 rfl rfl (by decide +kernel) ⟨Nat.le_of_ble_eq_true rfl, Nat.le_of_ble_eq_true rfl⟩ rfl rfl (Nat.le_of_ble_eq_true rfl) dX7_bestMove_98 ⟨Nat.zero_le _, Nat.zero_le _⟩) hS (fun r98 M98 H locs hr98 hp hw hS => ?_)
        obtain ⟨em98, er98⟩ := hp
        have hw : Wo g M2 H := em98 ▸ hw
        rw [er98] at hr98 ⊢
        subst hQQ; exact x_ireturn C hr hlk hw hS hr98 rfl (by have e : i = n := (by omega); subst e; exact ⟨by rw [h2.1, h2.2], hf⟩) dX7_bestMove_101
      · have J87 : ∀  (M5 : Nat → Int), (M5 59000 = (mvA v n nt E fl (i + 1)).1 ∧ M5 59001 = (mvA v n nt E fl (i + 1)).2) → ((-1 ≤ (mvA v n nt E fl (i + 1)).1 ∧ (mvA v n nt E fl (i + 1)).1 ≤ 77) ∧ (0 ≤ (mvA v n nt E fl (i + 1)).2 ∧ (mvA v n nt E fl (i + 1)).2 ≤ 49995)) → (∀ m, ¬ (scr m ∨ m / 1000 = 59) → M5 m = M m) → ∀ (H : Heap) (locs : List Loc) (ls : Array Slot), Wo g M5 H → va_S (ar g) s.heap H locs → lv_has ls 5 [(0, .ref (gA g 0)), (1, .int (II w)), (2, .int (II b)), (3, .int (II (i : Int)))] → W p l e (rmm 6 147) s m args below meth c H locs 0 0 QQ (F0 m 87 ls []) := by
          intro  M5 h5 h6 hf5 H locs ls hw hS hl
          have g_M5 := hw.rg
          refine lv_iinc (v := II ((i : Int) + 1)) (lv' := [(3, .int (II ((i : Int) + 1))), (0, .ref (gA g 0)), (1, .int (II w)), (2, .int (II b))]) C.1 C.2.1 dX7_bestMove_87 hl (k := 3) rfl (II_add _ _) (by decide) rfl (fun ls hl => ?_)
          refine lv_goto (tgt := 16) C.1 C.2.1 dX7_bestMove_90 (by decide) ?_
          exact ih16  (i + 1) M5 (by omega) (by omega) h5 h6 hf5 _ _ _ hw hS (lv_sub hl [1, 2, 3, 0] rfl)
        have hq := hB.2.2.1 i (by omega)
        refine lv_iload_n C.1 C.2.1 dX7_bestMove_27 rfl (lv_at hl 2 rfl) ?_
        refine x_if_eq (tgt := 50) C ⟨by omega, by omega⟩ dX7_bestMove_28 (by decide) (fun c28 => ?_) (fun c28 => ?_)
        · have hsk : (fl && decide (v i 0 ≠ 5)) = false := by
            first
            | (simp [c44]; done)
            | (have : fl = false := (by cases fl; { rfl }; { simp at hb; omega }); simp [this]; done)
          refine lv_iconst (v := II 0) C.1 C.2.1 dX7_bestMove_50 rfl ?_
          refine lv_istore (lv' := [(4, .int (II 0)), (0, .ref (gA g 0)), (1, .int (II w)), (2, .int (II b)), (3, .int (II (i : Int)))]) C.1 C.2.1 dX7_bestMove_51 hl (by decide) rfl (fun ls hl => ?_)
          have L53 : ∀ (f2 : Nat) (k : Nat) (M3 : Nat → Int), (5 - k) < f2 → (k ≤ 5) → (M3 59000 = (mv1 v n nt E i (mvA v n nt E fl i) k).1 ∧ M3 59001 = (mv1 v n nt E i (mvA v n nt E fl i) k).2) → ((-1 ≤ (mv1 v n nt E i (mvA v n nt E fl i) k).1 ∧ (mv1 v n nt E i (mvA v n nt E fl i) k).1 ≤ 77) ∧ (0 ≤ (mv1 v n nt E i (mvA v n nt E fl i) k).2 ∧ (mv1 v n nt E i (mvA v n nt E fl i) k).2 ≤ 49995)) → (∀ m, ¬ (scr m ∨ m / 1000 = 59) → M3 m = M m) → ∀ (H : Heap) (locs : List Loc) (ls : Array Slot), Wo g M3 H → va_S (ar g) s.heap H locs → lv_has ls 5 [(0, .ref (gA g 0)), (1, .int (II w)), (2, .int (II b)), (3, .int (II (i : Int))), (4, .int (II (k : Int)))] → W p l e (rmm 6 147) s m args below meth c H locs 0 0 QQ (F0 m 53 ls []) := by
            intro f2
            induction f2 with
            | zero => intro k M3 hmu; exact absurd hmu (Nat.not_lt_zero _)
            | succ f2 ih =>
              intro k M3 hmu h7 h8 h9 hf3 H locs ls hw hS hl
              have ih53 := ih
              have g_M3 := hw.rg
              have hB3 : BV M3 n v nt t E := hB.fr2 hf3
              refine lv_iload C.1 C.2.1 dX7_bestMove_53 (lv_at hl 4 rfl) ?_
              refine lv_iconst (v := II 5) C.1 C.2.1 dX7_bestMove_55 rfl ?_
              refine x_icmp_ge (tgt := 87) C ⟨by omega, by omega⟩ ⟨by decide, by decide⟩ dX7_bestMove_56 (by decide) (fun c56 => ?_) (fun c56 => ?_)
              · exact J87 M3 (by rw [mvA, hsk, show 5 = k by omega]; exact h8) (by rw [mvA, hsk, show 5 = k by omega]; exact h9) hf3 _ _ _ hw hS (lv_sub hl [0, 1, 2, 3] rfl)
              · refine lv_aload_n C.1 C.2.1 dX7_bestMove_59 rfl (lv_at hl 0 rfl) ?_
                refine g7 C hw 0 (by omega) rfl 6 (by decide) mw_486 (svr (hF.2 _)) dX7_bestMove_60 ?_
                refine lv_bipush (v := II 10) C.1 C.2.1 dX7_bestMove_63 (by decide) ?_
                refine lv_iload_n C.1 C.2.1 dX7_bestMove_65 rfl (lv_at hl 3 rfl) ?_
                refine x_imul C dX7_bestMove_66 ?_
                refine lv_iload C.1 C.2.1 dX7_bestMove_67 (lv_at hl 4 rfl) ?_
                refine x_iadd C dX7_bestMove_69 ?_
                refine lv_aload_n C.1 C.2.1 dX7_bestMove_70 rfl (lv_at hl 0 rfl) ?_
                refine lv_iload_n C.1 C.2.1 dX7_bestMove_71 rfl (lv_at hl 3 rfl) ?_
                refine lv_iconst (v := II 2) C.1 C.2.1 dX7_bestMove_72 rfl ?_
                refine lv_iload C.1 C.2.1 dX7_bestMove_73 (lv_at hl 4 rfl) ?_
                refine x_ci (x_runV (n := 3) C hw hS hml hl.1 0 7 (by omega) rfl (by decide) rfl (c_X7_allIf l g M3 hF n v nt t E hB3 i (by first | assumption | omega | exact ⟨by omega, by omega⟩ | decide) 2 ⟨by decide, by decide⟩ 2 ⟨by decide, by decide⟩ (k : Int) ⟨by omega, by omega⟩ (PI.up hB.2.2.1 (by omega))) mw_639 mw_641 mw_31 mw_117 mw_642 rfl rfl (by decide +kernel) ⟨Nat.le_of_ble_eq_true rfl, Nat.le_of_ble_eq_true rfl⟩ rfl rfl (Nat.le_of_ble_eq_true rfl) dX7_bestMove_75 ⟨Nat.zero_le _, Nat.zero_le _⟩) hS (fun r75 M75 H locs hr75 hp hw hS => ?_)
                obtain ⟨er75, h75f⟩ := hp
                have g_M75 := hw.rg
                rw [er75] at hr75 ⊢
                refine x_cv (x_runVN (n := 2) C hw hS hml hl.1 59 0 (by omega) rfl (by decide) rfl (c_X0_offer l g M75 hF ((10 * (i : Int)) + (k : Int)) ⟨by omega, by omega⟩ (allS (upv v i 2 (k : Int)) n nt E) hr75) mn_655 mw_657 mw_34 mw_123 mw_658 rfl rfl (by decide +kernel) ⟨Nat.le_of_ble_eq_true rfl, Nat.le_of_ble_eq_true rfl⟩ rfl rfl (Nat.le_of_ble_eq_true rfl) dX7_bestMove_78 ⟨Nat.zero_le _, Nat.zero_le _⟩) hS (fun M78 H locs hp hw hS => ?_)
                have em78 := hp
                have hw : Wo g (if (allS (upv v i 2 (k : Int)) n nt E) < M75 59001 then stM (stM M75 59000 ((10 * (i : Int)) + (k : Int))) 59001 (allS (upv v i 2 (k : Int)) n nt E) else M75) H := em78 ▸ hw
                refine lv_iinc (v := II ((k : Int) + 1)) (lv' := [(4, .int (II ((k : Int) + 1))), (0, .ref (gA g 0)), (1, .int (II w)), (2, .int (II b)), (3, .int (II (i : Int)))]) C.1 C.2.1 dX7_bestMove_81 hl (k := 4) rfl (II_add _ _) (by decide) rfl (fun ls hl => ?_)
                refine lv_goto (tgt := 53) C.1 C.2.1 dX7_bestMove_84 (by decide) ?_
                exact ih53  (k + 1) (if allS (upv v i 2 (k : Int)) n nt E < M75 59001 then stM (stM M75 59000 (10 * (i : Int) + (k : Int))) 59001 (allS (upv v i 2 (k : Int)) n nt E) else M75) (by omega) (by omega) (by rw [mv1, ofr, h75f _ (by unfold scr; omega), h8.2]; split <;> simp [stM, h75f 59000 (by unfold scr; omega), h75f 59001 (by unfold scr; omega), h8]) (by rw [mv1]; exact ofr_in h9 (by omega) (allS_in _ _ _ _)) (fun m hm => by have hm2 : ¬ m / 1000 = 59 := (fun z => hm (Or.inr z)); split <;> (try rw [st_n (by omega), st_n (by omega)]) <;> exact (h75f m (fun z => hm (Or.inl z))).trans (hf3 m hm)) _ _ _ hw hS (lv_sub hl [1, 2, 3, 4, 0] rfl)
          exact L53 _ 0 M2 (Nat.lt_succ_self _) (by omega) h2 h3 hf _ _ _ hw hS (lv_sub hl [1, 2, 3, 4, 0] rfl)
        · refine lv_aload_n C.1 C.2.1 dX7_bestMove_31 rfl (lv_at hl 0 rfl) ?_
          refine g7 C hw 0 (by omega) rfl 1 (by decide) mw_481 (svr (hF.2 _)) dX7_bestMove_32 ?_
          refine gn1 C hw 2 (by omega) rfl 0 (by decide) mn_187 (svr (hF.2 _)) dX7_bestMove_35 ?_
          refine lv_iload_n C.1 C.2.1 dX7_bestMove_38 rfl (lv_at hl 3 rfl) ?_
          refine x_aaload (L := 8) C hw 3 (by omega) 11 rfl (by decide) rfl (by omega) (by omega) (by decide) (rP hF i (by omega)) dX7_bestMove_39 ?_
          refine gn3 C hw (4 + i) (by omega) (kd_p (by omega)) 0 (by decide) mn_163 (svi (x := v i 0) (hB2.2.1 i (by omega) 0 (by decide))) dX7_bestMove_40 ?_
          refine lv_iconst (v := II 5) C.1 C.2.1 dX7_bestMove_43 rfl ?_
          refine x_icmp_eq (tgt := 50) C ⟨by have := g_M2 (1000 * (4 + i) + 0); have := (hB2.2.1 i (by omega) 0 (by decide)); omega, by have := g_M2 (1000 * (4 + i) + 0); have := (hB2.2.1 i (by omega) 0 (by decide)); omega⟩ ⟨by decide, by decide⟩ dX7_bestMove_44 (by decide) (fun c44 => ?_) (fun c44 => ?_)
          · have hsk : (fl && decide (v i 0 ≠ 5)) = false := by
              first
              | (simp [c44]; done)
              | (have : fl = false := (by cases fl; { rfl }; { simp at hb; omega }); simp [this]; done)
            refine lv_iconst (v := II 0) C.1 C.2.1 dX7_bestMove_50 rfl ?_
            refine lv_istore (lv' := [(4, .int (II 0)), (0, .ref (gA g 0)), (1, .int (II w)), (2, .int (II b)), (3, .int (II (i : Int)))]) C.1 C.2.1 dX7_bestMove_51 hl (by decide) rfl (fun ls hl => ?_)
            have L53 : ∀ (f3 : Nat) (k : Nat) (M3 : Nat → Int), (5 - k) < f3 → (k ≤ 5) → (M3 59000 = (mv1 v n nt E i (mvA v n nt E fl i) k).1 ∧ M3 59001 = (mv1 v n nt E i (mvA v n nt E fl i) k).2) → ((-1 ≤ (mv1 v n nt E i (mvA v n nt E fl i) k).1 ∧ (mv1 v n nt E i (mvA v n nt E fl i) k).1 ≤ 77) ∧ (0 ≤ (mv1 v n nt E i (mvA v n nt E fl i) k).2 ∧ (mv1 v n nt E i (mvA v n nt E fl i) k).2 ≤ 49995)) → (∀ m, ¬ (scr m ∨ m / 1000 = 59) → M3 m = M m) → ∀ (H : Heap) (locs : List Loc) (ls : Array Slot), Wo g M3 H → va_S (ar g) s.heap H locs → lv_has ls 5 [(0, .ref (gA g 0)), (1, .int (II w)), (2, .int (II b)), (3, .int (II (i : Int))), (4, .int (II (k : Int)))] → W p l e (rmm 6 147) s m args below meth c H locs 0 0 QQ (F0 m 53 ls []) := by
              intro f3
              induction f3 with
              | zero => intro k M3 hmu; exact absurd hmu (Nat.not_lt_zero _)
              | succ f3 ih =>
                intro k M3 hmu h7 h8 h9 hf3 H locs ls hw hS hl
                have ih53 := ih
                have g_M3 := hw.rg
                have hB3 : BV M3 n v nt t E := hB.fr2 hf3
                refine lv_iload C.1 C.2.1 dX7_bestMove_53 (lv_at hl 4 rfl) ?_
                refine lv_iconst (v := II 5) C.1 C.2.1 dX7_bestMove_55 rfl ?_
                refine x_icmp_ge (tgt := 87) C ⟨by omega, by omega⟩ ⟨by decide, by decide⟩ dX7_bestMove_56 (by decide) (fun c56 => ?_) (fun c56 => ?_)
                · exact J87 M3 (by rw [mvA, hsk, show 5 = k by omega]; exact h8) (by rw [mvA, hsk, show 5 = k by omega]; exact h9) hf3 _ _ _ hw hS (lv_sub hl [0, 1, 2, 3] rfl)
                · refine lv_aload_n C.1 C.2.1 dX7_bestMove_59 rfl (lv_at hl 0 rfl) ?_
                  refine g7 C hw 0 (by omega) rfl 6 (by decide) mw_486 (svr (hF.2 _)) dX7_bestMove_60 ?_
                  refine lv_bipush (v := II 10) C.1 C.2.1 dX7_bestMove_63 (by decide) ?_
                  refine lv_iload_n C.1 C.2.1 dX7_bestMove_65 rfl (lv_at hl 3 rfl) ?_
                  refine x_imul C dX7_bestMove_66 ?_
                  refine lv_iload C.1 C.2.1 dX7_bestMove_67 (lv_at hl 4 rfl) ?_
                  refine x_iadd C dX7_bestMove_69 ?_
                  refine lv_aload_n C.1 C.2.1 dX7_bestMove_70 rfl (lv_at hl 0 rfl) ?_
                  refine lv_iload_n C.1 C.2.1 dX7_bestMove_71 rfl (lv_at hl 3 rfl) ?_
                  refine lv_iconst (v := II 2) C.1 C.2.1 dX7_bestMove_72 rfl ?_
                  refine lv_iload C.1 C.2.1 dX7_bestMove_73 (lv_at hl 4 rfl) ?_
                  refine x_ci (x_runV (n := 3) C hw hS hml hl.1 0 7 (by omega) rfl (by decide) rfl (c_X7_allIf l g M3 hF n v nt t E hB3 i (by first | assumption | omega | exact ⟨by omega, by omega⟩ | decide) 2 ⟨by decide, by decide⟩ 2 ⟨by decide, by decide⟩ (k : Int) ⟨by omega, by omega⟩ (PI.up hB.2.2.1 (by omega))) mw_639 mw_641 mw_31 mw_117 mw_642 rfl rfl (by decide +kernel) ⟨Nat.le_of_ble_eq_true rfl, Nat.le_of_ble_eq_true rfl⟩ rfl rfl (Nat.le_of_ble_eq_true rfl) dX7_bestMove_75 ⟨Nat.zero_le _, Nat.zero_le _⟩) hS (fun r75 M75 H locs hr75 hp hw hS => ?_)
                  obtain ⟨er75, h75f⟩ := hp
                  have g_M75 := hw.rg
                  rw [er75] at hr75 ⊢
                  refine x_cv (x_runVN (n := 2) C hw hS hml hl.1 59 0 (by omega) rfl (by decide) rfl (c_X0_offer l g M75 hF ((10 * (i : Int)) + (k : Int)) ⟨by omega, by omega⟩ (allS (upv v i 2 (k : Int)) n nt E) hr75) mn_655 mw_657 mw_34 mw_123 mw_658 rfl rfl (by decide +kernel) ⟨Nat.le_of_ble_eq_true rfl, Nat.le_of_ble_eq_true rfl⟩ rfl rfl (Nat.le_of_ble_eq_true rfl) dX7_bestMove_78 ⟨Nat.zero_le _, Nat.zero_le _⟩) hS (fun M78 H locs hp hw hS => ?_)
                  have em78 := hp
                  have hw : Wo g (if (allS (upv v i 2 (k : Int)) n nt E) < M75 59001 then stM (stM M75 59000 ((10 * (i : Int)) + (k : Int))) 59001 (allS (upv v i 2 (k : Int)) n nt E) else M75) H := em78 ▸ hw
                  refine lv_iinc (v := II ((k : Int) + 1)) (lv' := [(4, .int (II ((k : Int) + 1))), (0, .ref (gA g 0)), (1, .int (II w)), (2, .int (II b)), (3, .int (II (i : Int)))]) C.1 C.2.1 dX7_bestMove_81 hl (k := 4) rfl (II_add _ _) (by decide) rfl (fun ls hl => ?_)
                  refine lv_goto (tgt := 53) C.1 C.2.1 dX7_bestMove_84 (by decide) ?_
                  exact ih53  (k + 1) (if allS (upv v i 2 (k : Int)) n nt E < M75 59001 then stM (stM M75 59000 (10 * (i : Int) + (k : Int))) 59001 (allS (upv v i 2 (k : Int)) n nt E) else M75) (by omega) (by omega) (by rw [mv1, ofr, h75f _ (by unfold scr; omega), h8.2]; split <;> simp [stM, h75f 59000 (by unfold scr; omega), h75f 59001 (by unfold scr; omega), h8]) (by rw [mv1]; exact ofr_in h9 (by omega) (allS_in _ _ _ _)) (fun m hm => by have hm2 : ¬ m / 1000 = 59 := (fun z => hm (Or.inr z)); split <;> (try rw [st_n (by omega), st_n (by omega)]) <;> exact (h75f m (fun z => hm (Or.inl z))).trans (hf3 m hm)) _ _ _ hw hS (lv_sub hl [1, 2, 3, 4, 0] rfl)
            exact L53 _ 0 M2 (Nat.lt_succ_self _) (by omega) h2 h3 hf _ _ _ hw hS (lv_sub hl [1, 2, 3, 4, 0] rfl)
          · have hsk : (fl && decide (v i 0 ≠ 5)) = true := by have : fl = true := (by cases fl; { simp at hb; omega }; { rfl }); simp [this, c44]
            refine lv_goto (tgt := 87) C.1 C.2.1 dX7_bestMove_47 (by decide) ?_
            exact J87 M2 (by rw [mvA, hsk]; exact h2) (by rw [mvA, hsk]; exact h3) hf _ _ _ hw hS (lv_sub hl [0, 1, 2, 3] rfl)
  exact L16 _ 0 (stM (stM M8 59000 (-1)) 59001 (allS v n nt E)) (Nat.lt_succ_self _) (by omega) (⟨(st_n (by decide)).trans st_s, st_s⟩) (by unfold mvA; dsimp only; omega) (fun m hm => by have hm2 : ¬ m / 1000 = 59 := (fun z => hm (Or.inr z)); rw [st_n (by omega), st_n (by omega)]; exact h8f m (fun z => hm (Or.inl z))) _ _ _ hw hS (lv_sub hl [1, 2, 3, 0] rfl)
