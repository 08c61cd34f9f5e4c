def LvT (g : Gm) : Prop := 70 ≤ gN g ∧ ∀ n, n < 70000 → gR g n = (R0 n).map (gA g)
theorem LvT.r {g : Gm} (h : LvT g) : LvR g := ⟨by have := h.1; omega, h.2 45000 (by decide), h.2 45006 (by decide), h.2 45007 (by decide)⟩
theorem LvF.t {g : Gm} (h : LvF g) : LvT g := ⟨by have := h.1; omega, fun n _ => h.2 n⟩
theorem rCT {g : Gm} (hT : LvT g) (i : Nat) (h : i < 6) : gR g (13000 + i) = some (gA g (14 + i)) := by rw [hT.2 _ (by omega), (by decide : ∀ i, i < 6 → R0 (13000 + i) = some (14 + i)) i h]; rfl
theorem rST {g : Gm} (hT : LvT g) (i : Nat) (h : i < 6) : gR g (20000 + i) = some (gA g (21 + i)) := by rw [hT.2 _ (by omega), (by decide : ∀ i, i < 6 → R0 (20000 + i) = some (21 + i)) i h]; rfl
theorem cp_n {M : Nat → Int} {a b n m : Nat} (h : ¬ (b ≤ m ∧ m < b + n)) : cpM M a b n m = M m := if_neg h
theorem cp_s {M : Nat → Int} {a b n m : Nat} (h : b ≤ m ∧ m < b + n) : cpM M a b n m = M (a + (m - b)) := if_pos h
theorem rnF_L {code nm : Nat → Int} : ∀ (d : List Int) (a : Nat) (S : List Int), (∀ x, x < d.length → code (a + x) = d.getD x 0) → rnF code nm d.length a S = rnL nm d S
  | [], _, _, _ => rfl
  | w :: d, a, S, h => by
    show rnF code nm (d.length + 1) a S = _
    rw [rnF, rnL, show code a = w from h 0 (by simp)]
    cases stepW nm w S with
    | none => rfl
    | some S' => exact rnF_L d (a + 1) S' (fun x hx => by have := h (x + 1) (by simpa using hx); rw [show a + 1 + x = a + (x + 1) by omega]; simpa using this)
theorem stepW_congr {nm nm' : Nat → Int} (h : ∀ k, k < 6 → nm k = nm' k) (w : Int) (S : List Int) : stepW nm w S = stepW nm' w S := by
  unfold stepW
  by_cases h0 : 0 ≤ w
  · rw [if_pos h0, if_pos h0]
  · by_cases h1 : -6 ≤ w
    · rw [if_neg h0, if_neg h0, if_pos h1, if_pos h1, h _ (by omega)]
    · rw [if_neg h0, if_neg h0, if_neg h1, if_neg h1]
theorem rnL_congr {nm nm' : Nat → Int} (h : ∀ k, k < 6 → nm k = nm' k) : ∀ (d S : List Int), rnL nm d S = rnL nm' d S
  | [], _ => rfl
  | w :: d, S => by
    rw [rnL, rnL, stepW_congr h]
    cases stepW nm' w S with
    | none => rfl
    | some S' => exact rnL_congr h d S'
theorem vC_congr {nm nm' : Nat → Int} (h : ∀ k, k < 6 → nm k = nm' k) (d : List Int) : vC nm d = vC nm' d := by unfold vC; rw [rnL_congr h]
def evC (d0 d1 d2 : List Int) : Ev := fun q x0 x1 x2 x3 x4 x5 => vC (fun k => if k = 0 then x0 else if k = 1 then x1 else if k = 2 then x2 else if k = 3 then x3 else if k = 4 then x4 else x5) (if q = 0 then d0 else if q = 1 then d1 else d2)
theorem evC_at (d0 d1 d2 : List Int) (q : Nat) (nm : Nat → Int) : evC d0 d1 d2 q (nm 0) (nm 1) (nm 2) (nm 3) (nm 4) (nm 5) = vC nm (if q = 0 then d0 else if q = 1 then d1 else d2) := by
  unfold evC
  apply vC_congr
  intro k hk
  rcases (show k = 0 ∨ k = 1 ∨ k = 2 ∨ k = 3 ∨ k = 4 ∨ k = 5 by omega) with rfl | rfl | rfl | rfl | rfl | rfl <;> rfl
theorem getD_l {l l' : List Int} {x : Nat} (h : x < l.length) : (l ++ l').getD x 0 = l.getD x 0 := by simp [List.getD, List.getElem?_append_left h]
theorem getD_r {l l' : List Int} {x : Nat} : (l ++ l').getD (l.length + x) 0 = l'.getD x 0 := by simp [List.getD, List.getElem?_append_right]
theorem TxC.of {M : Nat → Int} {t : Nat} {d0 d1 d2 : List Int} (hg : gdC d0 ∧ gdC d1 ∧ gdC d2) (hL : d0.length + d1.length + d2.length ≤ 160) (h0 : M (1000 * (21 + t) + 0) = 0) (h1 : M (1000 * (21 + t) + 1) = (d0.length : Int)) (h2 : M (1000 * (21 + t) + 2) = ((d0.length + d1.length : Nat) : Int)) (h3 : M (1000 * (21 + t) + 3) = ((d0.length + d1.length + d2.length : Nat) : Int))
    (hr : ∀ x, x < d0.length + d1.length + d2.length → M (1000 * (14 + t) + x) = (d0 ++ d1 ++ d2).getD x 0) : TxC M t (evC d0 d1 d2) := by
  refine ⟨fun j => if j = 0 then 0 else if j = 1 then d0.length else if j = 2 then d0.length + d1.length else d0.length + d1.length + d2.length, fun j hj => ?_, fun j hj => ?_, hL, fun q hq nm => ?_⟩
  · rcases (show j = 0 ∨ j = 1 ∨ j = 2 ∨ j = 3 by omega) with rfl | rfl | rfl | rfl
    · exact h0
    · exact h1
    · exact h2
    · exact h3
  · rcases (show j = 0 ∨ j = 1 ∨ j = 2 by omega) with rfl | rfl | rfl
    · show 0 ≤ d0.length; omega
    · show d0.length ≤ d0.length + d1.length; omega
    · show d0.length + d1.length ≤ d0.length + d1.length + d2.length; omega
  · rw [evC_at]
    rcases (show q = 0 ∨ q = 1 ∨ q = 2 by omega) with rfl | rfl | rfl
    · show rnF _ nm (d0.length - 0) 0 [] = some [vC nm d0]
      rw [Nat.sub_zero, rnF_L d0 0 [] (fun x hx => by show M (1000 * (14 + t) + (0 + x)) = _; rw [Nat.zero_add, hr x (by omega), List.append_assoc, getD_l hx])]
      exact hg.1 nm []
    · show rnF _ nm (d0.length + d1.length - d0.length) d0.length [] = some [vC nm d1]
      rw [show d0.length + d1.length - d0.length = d1.length by omega, rnF_L d1 d0.length [] (fun x hx => by show M (1000 * (14 + t) + (d0.length + x)) = _; rw [hr _ (by omega), List.append_assoc, getD_r, getD_l hx])]
      exact hg.2.1 nm []
    · show rnF _ nm (d0.length + d1.length + d2.length - (d0.length + d1.length)) (d0.length + d1.length) [] = some [vC nm d2]
      rw [show d0.length + d1.length + d2.length - (d0.length + d1.length) = d2.length by omega, rnF_L d2 (d0.length + d1.length) [] (fun x hx => by show M (1000 * (14 + t) + (d0.length + d1.length + x)) = _; rw [hr _ (by omega), show d0.length + d1.length + x = (d0 ++ d1).length + x by rw [List.length_append], getD_r])]
      exact hg.2.2 nm []
theorem ok_pt (b : Nat → Int) (n : Nat) (k : Int) (h7 : k ≠ 7) : okP n (ptP b n k) := by
  intro i h
  have h4 := tS_in (b := b) h
  unfold ptP
  by_cases hk : tK b n i = k
  · rw [if_pos hk]
    have ht := tK_7 (b := b) h (by omega)
    have h5 := ok_qE b n 5 (tE b n i) ht.2
    cases hr : qE b n 5 (tE b n i) with
    | inl q => rw [hr] at h5; exact ⟨Nat.le_trans (by omega) h5.1, h5.2⟩
    | inr x =>
      obtain ⟨c, j⟩ := x
      rw [hr] at h5
      have h6 : tE b n i + c.length ≤ j := h5.2.1
      have h7 : j ≤ n := h5.2.2
      show okR i n (if tK b n j = 6 then .inr (c, tE b n j) else .inl (tS b n j))
      by_cases a5 : tK b n j = 6
      · rw [if_pos a5]
        have := tK_7 (b := b) h7 (by omega)
        exact ⟨h5.1, by omega, this.2⟩
      · rw [if_neg a5]
        have := tS_in (b := b) h7
        exact ⟨by omega, this.2⟩
  · rw [if_neg hk]; exact ⟨h4.1, h4.2⟩
theorem tx_le {b : Nat → Int} {n q : Nat} (h : txP b n = .inl q) : q ≤ n := by
  have k0 := ok_pt b n 1 (by decide) 0 (Nat.zero_le _)
  unfold txP at h
  cases h0 : ptP b n 1 0 with
  | inl z => rw [h0] at k0 h; have e : z = q := Sum.inl.inj h; rw [← e]; exact k0.2
  | inr x =>
    obtain ⟨c0, i1⟩ := x
    rw [h0] at k0
    have k1 := ok_pt b n 2 (by decide) i1 k0.2.2
    simp only [h0] at h
    cases h1 : ptP b n 2 i1 with
    | inl z => rw [h1] at k1; simp only [h1] at h; have e : z = q := Sum.inl.inj h; rw [← e]; exact k1.2
    | inr x =>
      obtain ⟨c1, i2⟩ := x
      rw [h1] at k1
      have k2 := ok_pt b n 3 (by decide) i2 k1.2.2
      simp only [h1] at h
      cases h2 : ptP b n 3 i2 with
      | inl z => rw [h2] at k2; simp only [h2] at h; have e : z = q := Sum.inl.inj h; rw [← e]; exact k2.2
      | inr x =>
        obtain ⟨c2, i3⟩ := x
        rw [h2] at k2
        simp only [h2] at h
        split at h
        · exact absurd h (by simp)
        · have e : tS b n i3 = q := Sum.inl.inj h
          rw [← e]; exact (tS_in k2.2.2).2
def r_text (X : Txt) : Int := if X.1 = 6 then -4 else match txP X.2.2.2 X.2.2.1 with
  | .inl q => -100 - (q : Int)
  | .inr _ => (X.1 : Int)
def x_text (X : Txt) : Txt := if X.1 = 6 then X else match txP X.2.2.2 X.2.2.1 with
  | .inl _ => (X.1, X.2.1, 0, X.2.2.2)
  | .inr (d0, d1, d2) => (X.1 + 1, fun t => if t = X.1 then evC d0 d1 d2 else X.2.1 t, 0, X.2.2.2)
theorem TxtC.keep {M M1 : Nat → Int} {tc : Nat} {EE : Nat → Ev} {n : Nat} {b : Nat → Int} {d0 d1 d2 : List Int} (hX : TxtC M (tc, EE, n, b)) (ht6 : tc < 6) (hf : RY M M1) (hz : M1 45001 = 0) (hc : CDM M1 d0 d1 d2) : TxtC (stM (cpM (cpM M1 47000 (1000 * (14 + tc) + 0) 160) 48000 (1000 * (21 + tc) + 0) 4) 12004 ((tc : Int) + 1)) (tc + 1, fun t => if t = tc then evC d0 d1 d2 else EE t, 0, b) := by
  obtain ⟨hg, hL, ⟨z0, z1, z2, z3⟩, hr9⟩ := hc
  refine ⟨by rw [st_s]; rfl, fun t ht => ?_, ?_, fun i hi => absurd hi (Nat.not_lt_zero _)⟩
  · have ht9 : t < tc + 1 := ht
    show TxC _ t (if t = tc then evC d0 d1 d2 else EE t)
    by_cases e : t = tc
    · rw [if_pos e, e]
      refine TxC.of hg hL ?_ ?_ ?_ ?_ (fun x hx9 => ?_)
      · rw [st_n (by omega), cp_s (by omega), cp_n (by omega), show 48000 + (1000 * (21 + tc) + 0 - (1000 * (21 + tc) + 0)) = 48000 by omega]; exact z0
      · rw [st_n (by omega), cp_s (by omega), cp_n (by omega), show 48000 + (1000 * (21 + tc) + 1 - (1000 * (21 + tc) + 0)) = 48001 by omega]; exact z1
      · rw [st_n (by omega), cp_s (by omega), cp_n (by omega), show 48000 + (1000 * (21 + tc) + 2 - (1000 * (21 + tc) + 0)) = 48002 by omega]; exact z2
      · rw [st_n (by omega), cp_s (by omega), cp_n (by omega), show 48000 + (1000 * (21 + tc) + 3 - (1000 * (21 + tc) + 0)) = 48003 by omega]; exact z3
      · rw [st_n (by omega), cp_n (by omega), cp_s (by omega), show 47000 + (1000 * (14 + tc) + x - (1000 * (14 + tc) + 0)) = 47000 + x by omega]
        exact hr9 x (by simp only [List.length_append]; omega)
    · rw [if_neg e]
      refine (hX.2.1 t (show t < tc by omega)).fr (fun m hm => ?_)
      rw [st_n (by omega), cp_n (by omega), cp_n (by omega)]
      exact hf m (by unfold rdr; omega)
  · rw [st_n (by omega), cp_n (by omega), cp_n (by omega)]; exact hz
theorem TxtC.emp {M M1 : Nat → Int} {tc : Nat} {EE : Nat → Ev} {n : Nat} {b : Nat → Int} (hX : TxtC M (tc, EE, n, b)) (ht6 : tc ≤ 6) (hf : RY M M1) (hz : M1 45001 = 0) : TxtC M1 (tc, EE, 0, b) :=
  ⟨(hf _ (by unfold rdr; omega)).trans hX.1, fun t ht => (hX.2.1 t ht).fr (fun m hm => by have ht9 : t < tc := ht; exact hf m (by unfold rdr; omega)), hz, fun i hi => absurd hi (Nat.not_lt_zero _)⟩
theorem RY.keep {M M1 : Nat → Int} {tc m : Nat} (ht6 : tc < 6) (hf : RY M M1) (hm : ¬ ((12000 ≤ m ∧ m < 27000) ∨ (45000 ≤ m ∧ m < 49000))) : (stM (cpM (cpM M1 47000 (1000 * (14 + tc) + 0) 160) 48000 (1000 * (21 + tc) + 0) 4) 12004 ((tc : Int) + 1)) m = M m := by
  rw [st_n (by omega), cp_n (by omega), cp_n (by omega)]
  exact hf m (by unfold rdr; omega)
set_option maxHeartbeats 4000000 in
set_option maxRecDepth 100000 in
theorem c_X6_keep (l : Launch) (g : Gm) (M : Nat → Int) (hT : LvT g) (tc : Nat) (htc : M 12004 = (tc : Int) ∧ tc < 6) : CI l ({ cls := "RatedBySighs$Texts", name := "keep", desc := "(LRatedBySighs$Reader;)I" } : Jvm.MethodName) cX6_keep 2 .int (rmm 1 40) g M [.ref (gA g 12), .ref (gA g 45)] (fun r M' => M' = stM (cpM (cpM M 47000 (1000 * (14 + tc) + 0) 160) 48000 (1000 * (21 + tc) + 0) 4) 12004 ((tc : Int) + 1) ∧ r = (tc : Int)) := by
  refine c_start (by decide) (Nat.le_of_ble_eq_true rfl) (fun p e s m below meth c ls C hr hlk hml hw hS hl => ?_)
  have hl : lv_has ls 2 [(0, .ref (gA g 12)), (1, .ref (gA g 45))] := hl
  have g_M := hw.rg
  have hN : 70 ≤ gN g := hT.1
  refine lv_aload_n C.1 C.2.1 dX6_keep_0 rfl (lv_at hl 0 rfl) ?_
  refine g6 C hw 12 (by omega) rfl 4 (by decide) mw_223 (svi (x := (tc : Int)) htc.1) dX6_keep_1 ?_
  refine lv_bipush (v := II 6) C.1 C.2.1 dX6_keep_4 (by decide) ?_
  refine x_icmp_lt (tgt := 12) C ⟨by have := g_M 12004; have := htc.1; omega, by have := g_M 12004; have := htc.1; omega⟩ ⟨by decide, by decide⟩ dX6_keep_6 (by decide) (fun c6 => ?_) (fun c6 => by exfalso; omega)
  refine lv_aload_n C.1 C.2.1 dX6_keep_12 rfl (lv_at hl 1 rfl) ?_
  refine gn4 C hw 45 (by omega) rfl 6 (by decide) mn_283 (svr (hT.2 45006 (by decide))) dX6_keep_13 ?_
  refine lv_iconst (v := II 0) C.1 C.2.1 dX6_keep_16 rfl ?_
  refine lv_aload_n C.1 C.2.1 dX6_keep_17 rfl (lv_at hl 0 rfl) ?_
  refine g6 C hw 12 (by omega) rfl 0 (by decide) mw_219 (svr (hT.2 12000 (by decide))) dX6_keep_18 ?_
  refine lv_aload_n C.1 C.2.1 dX6_keep_21 rfl (lv_at hl 0 rfl) ?_
  refine g6 C hw 12 (by omega) rfl 4 (by decide) mw_223 (svi (x := (tc : Int)) htc.1) dX6_keep_22 ?_
  refine x_aaload (L := 6) C hw 13 (by omega) 13 rfl (by decide) rfl (by omega) (by omega) (by decide) (rCT hT tc (by omega)) dX6_keep_25 ?_
  refine lv_iconst (v := II 0) C.1 C.2.1 dX6_keep_26 rfl ?_
  refine lv_sipush (v := II 160) C.1 C.2.1 dX6_keep_27 (by decide) ?_
  refine x_acopy (L0 := 160) (L1 := 160) C hw hS (hml.trans hl.1.symm) 47 (by omega) rfl rfl (14 + tc) (by omega) (kd_c (by omega)) (ln_c (by omega)) 0 0 160 (by omega) (by omega) (by decide) (by decide) mw_477 mw_479 mw_478 mw_129 (Nat.le_of_ble_eq_true rfl) (Nat.le_of_ble_eq_true rfl) dX6_keep_30 (fun H locs hw hS => ?_)
  have hw : Wo g (cpM M 47000 (1000 * (14 + tc) + 0) 160) H := hw
  refine lv_aload_n C.1 C.2.1 dX6_keep_33 rfl (lv_at hl 1 rfl) ?_
  refine gn4 C hw 45 (by omega) rfl 7 (by decide) mn_285 (svr (hT.2 45007 (by decide))) dX6_keep_34 ?_
  refine lv_iconst (v := II 0) C.1 C.2.1 dX6_keep_37 rfl ?_
  refine lv_aload_n C.1 C.2.1 dX6_keep_38 rfl (lv_at hl 0 rfl) ?_
  refine g6 C hw 12 (by omega) rfl 1 (by decide) mw_220 (svr (hT.2 12001 (by decide))) dX6_keep_39 ?_
  refine lv_aload_n C.1 C.2.1 dX6_keep_42 rfl (lv_at hl 0 rfl) ?_
  refine g6 C hw 12 (by omega) rfl 4 (by decide) mw_223 (svi (x := (tc : Int)) ((cp_n (by omega)).trans htc.1)) dX6_keep_43 ?_
  refine x_aaload (L := 6) C hw 20 (by omega) 13 rfl (by decide) rfl (by omega) (by omega) (by decide) (rST hT tc (by omega)) dX6_keep_46 ?_
  refine lv_iconst (v := II 0) C.1 C.2.1 dX6_keep_47 rfl ?_
  refine lv_iconst (v := II 4) C.1 C.2.1 dX6_keep_48 rfl ?_
  refine x_acopy (L0 := 4) (L1 := 4) C hw hS (hml.trans hl.1.symm) 48 (by omega) rfl rfl (21 + tc) (by omega) (kd_s (by omega)) (ln_s (by omega)) 0 0 4 (by omega) (by omega) (by decide) (by decide) mw_477 mw_479 mw_478 mw_129 (Nat.le_of_ble_eq_true rfl) (Nat.le_of_ble_eq_true rfl) dX6_keep_49 (fun H locs hw hS => ?_)
  have hw : Wo g (cpM (cpM M 47000 (1000 * (14 + tc) + 0) 160) 48000 (1000 * (21 + tc) + 0) 4) H := hw
  refine lv_aload_n C.1 C.2.1 dX6_keep_52 rfl (lv_at hl 0 rfl) ?_
  refine lv_dup C.1 C.2.1 dX6_keep_53 rfl ?_
  refine g6 C hw 12 (by omega) rfl 4 (by decide) mw_223 (svi (x := (tc : Int)) ((cp_n (by omega)).trans ((cp_n (by omega)).trans htc.1))) dX6_keep_54 ?_
  refine lv_iconst (v := II 1) C.1 C.2.1 dX6_keep_57 rfl ?_
  refine x_iadd C dX6_keep_58 ?_
  refine p6 C hw hS 12 (by omega) rfl 4 (by decide) mw_223 rfl (x := (tc : Int) + 1) ⟨by omega, by omega⟩ (svi st_s) (tyX6_ok 4 (by decide)) rfl rfl dX6_keep_59 (fun H locs hw hS => ?_)
  have hw : Wo g (stM (cpM (cpM M 47000 (1000 * (14 + tc) + 0) 160) 48000 (1000 * (21 + tc) + 0) 4) 12004 ((tc : Int) + 1)) H := hw
  refine lv_aload_n C.1 C.2.1 dX6_keep_62 rfl (lv_at hl 0 rfl) ?_
  refine g6 C hw 12 (by omega) rfl 4 (by decide) mw_223 (svi (x := (tc : Int) + 1) st_s) dX6_keep_63 ?_
  refine lv_iconst (v := II 1) C.1 C.2.1 dX6_keep_66 rfl ?_
  refine x_isub C dX6_keep_67 ?_
  exact x_ireturn C hr hlk hw hS ⟨by omega, by omega⟩ rfl ⟨rfl, by omega⟩ dX6_keep_68

set_option maxHeartbeats 4000000 in
set_option maxRecDepth 100000 in
theorem c_X7_text (l : Launch) (g : Gm) (M : Nat → Int) (hF : LvF g) (n : Nat) (v : Nat → Nat → Int) (nt : Int) (pd : Int) (t : Nat) (X : Txt) (I : Option Bor) (Sh : Sht) (hR : RepC M (n, v, nt, pd, t) X I Sh) (hA : InvA (n, v, nt, pd, t) X I Sh) : CI l ({ cls := "RatedBySighs", name := "text", desc := "()I" } : Jvm.MethodName) cX7_text 1 .int (rmm 44 991) g M [.ref (gA g 0)] (fun r M' => r = r_text X ∧ (RepC M' (n, v, nt, pd, t) (x_text X) I Sh) ∧ (∀ m, 70000 ≤ m → M' m = M m)) := by
  refine c_start (by decide) (Nat.le_of_ble_eq_true rfl) (fun p e s m below meth c ls C hr hlk hml hw hS hl => ?_)
  have hl : lv_has ls 1 [(0, .ref (gA g 0))] := hl
  have g_M := hw.rg
  have hN : gN g = 84 := hF.1
  have hB : BV M n v nt t (X.2.1 t) := hR.bv hA
  have hn2 : n ≤ 8 := hB.1.2
  have hnt := hB.2.2.2.1.2
  have hpd : 0 ≤ pd ∧ pd ≤ 999999999 := hA.1.2.2.2.2.1
  have hT := hF.t
  have hts := hA.2.2.1.1
  have htc := hA.2.1
  refine lv_aload_n C.1 C.2.1 dX7_text_0 rfl (lv_at hl 0 rfl) ?_
  refine g7 C hw 0 (by omega) rfl 2 (by decide) mw_482 (svr (hF.2 _)) dX7_text_1 ?_
  refine gn6 C hw 12 (by omega) rfl 4 (by decide) mn_224 (svi (x := (X.1 : Int)) hR.2.1.1) dX7_text_4 ?_
  refine lv_bipush (v := II 6) C.1 C.2.1 dX7_text_7 (by decide) ?_
  refine x_icmp_lt (tgt := 15) C ⟨by have := g_M 12004; have := hR.2.1.1; omega, by have := g_M 12004; have := hR.2.1.1; omega⟩ ⟨by decide, by decide⟩ dX7_text_9 (by decide) (fun c9 => ?_) (fun c9 => ?_)
  · refine lv_aload_n C.1 C.2.1 dX7_text_15 rfl (lv_at hl 0 rfl) ?_
    refine g7 C hw 0 (by omega) rfl 3 (by decide) mw_483 (svr (hF.2 _)) dX7_text_16 ?_
    refine x_ci (x_runVN (n := 0) C hw hS hml hl.1 45 4 (by omega) rfl (by decide) rfl (c_X4_takesTape l g M hT.r X.2.2.2 X.2.2.1 ⟨hR.2.1.2.2.1, hts, hR.2.1.2.2.2⟩) mn_394 mw_396 mw_1 mw_122 mw_397 rfl rfl (by decide +kernel) ⟨Nat.le_of_ble_eq_true rfl, Nat.le_of_ble_eq_true rfl⟩ rfl rfl (Nat.le_of_ble_eq_true rfl) dX7_text_19 ⟨Nat.zero_le _, Nat.zero_le _⟩) hS (fun r19 M19 H locs hr19 hp hw hS => ?_)
    rcases hp with ⟨h19f, h19z, (⟨er19, h19b⟩ | ⟨er19, h19b⟩)⟩
    · have g_M19 := hw.rg
      rw [er19]
      obtain ⟨d0, d1, d2, eq2, hc2⟩ := h19b
      refine x_if_eq (tgt := 39) C ⟨by decide, by decide⟩ dX7_text_22 (by decide) (fun h => absurd h (by decide)) (fun _ => ?_)
      refine lv_aload_n C.1 C.2.1 dX7_text_25 rfl (lv_at hl 0 rfl) ?_
      refine g7 C hw 0 (by omega) rfl 2 (by decide) mw_482 (svr (hF.2 _)) dX7_text_26 ?_
      refine lv_aload_n C.1 C.2.1 dX7_text_29 rfl (lv_at hl 0 rfl) ?_
      refine g7 C hw 0 (by omega) rfl 3 (by decide) mw_483 (svr (hF.2 _)) dX7_text_30 ?_
      refine x_ci (x_runVN (n := 1) C hw hS hml hl.1 12 6 (by omega) rfl (by decide) rfl (c_X6_keep l g M19 hT X.1 ⟨(h19f 12004 (by unfold rdr; omega)).trans hR.2.1.1, by omega⟩) mn_473 mw_475 mw_15 mw_121 mw_476 rfl rfl (by decide +kernel) ⟨Nat.le_of_ble_eq_true rfl, Nat.le_of_ble_eq_true rfl⟩ rfl rfl (Nat.le_of_ble_eq_true rfl) dX7_text_33 ⟨Nat.zero_le _, Nat.zero_le _⟩) hS (fun r33 M33 H locs hr33 hp hw hS => ?_)
      obtain ⟨em33, er33⟩ := hp
      have hw : Wo g (stM (cpM (cpM M19 47000 (1000 * (14 + X.1) + 0) 160) 48000 (1000 * (21 + X.1) + 0) 4) 12004 ((X.1 : Int) + 1)) H := em33 ▸ hw
      rw [er33] at hr33 ⊢
      refine lv_goto (tgt := 49) C.1 C.2.1 dX7_text_36 (by decide) ?_
      exact x_ireturn C hr hlk hw hS hr33 rfl (by
    have e1 : r_text X = (X.1 : Int) := by unfold r_text; rw [if_neg (by omega), eq2]
    have e2 : x_text X = (X.1 + 1, fun t => if t = X.1 then evC d0 d1 d2 else X.2.1 t, 0, X.2.2.2) := by unfold x_text; rw [if_neg (by omega), eq2]
    rw [e1, e2]
    refine ⟨rfl, ⟨hR.1.fr hA.1.1 (fun m hm => RY.keep (tc := X.1) (by omega) h19f (by omega)), ?_, hR.2.2.1.fr hA.im (fun m hm => RY.keep (tc := X.1) (by omega) h19f (by omega)), hR.2.2.2.fr hA.sz (fun m hm => RY.keep (tc := X.1) (by omega) h19f (by omega))⟩, fun m hm => RY.keep (tc := X.1) (by omega) h19f (by omega)⟩
    exact TxtC.keep (tc := X.1) (EE := X.2.1) (n := X.2.2.1) (b := X.2.2.2) hR.2.1 (by omega) h19f h19z hc2) dX7_text_49
    · have g_M19 := hw.rg
      rw [er19]
      obtain ⟨q2, eq2, hq2⟩ := h19b
      have hq9 := tx_le eq2
      refine x_if_eq (tgt := 39) C ⟨by decide, by decide⟩ dX7_text_22 (by decide) (fun _ => ?_) (fun h => absurd h (by decide))
      refine lv_bipush (v := II (-100)) C.1 C.2.1 dX7_text_39 (by decide) ?_
      refine lv_aload_n C.1 C.2.1 dX7_text_41 rfl (lv_at hl 0 rfl) ?_
      refine g7 C hw 0 (by omega) rfl 3 (by decide) mw_483 (svr (hF.2 _)) dX7_text_42 ?_
      refine gn4 C hw 45 (by omega) rfl 4 (by decide) mn_280 (svi (x := (q2 : Int)) hq2) dX7_text_45 ?_
      refine x_isub C dX7_text_48 ?_
      exact x_ireturn C hr hlk hw hS ⟨by have := g_M19 45004; have := hq2; omega, by have := g_M19 45004; have := hq2; omega⟩ rfl (by
    have e1 : r_text X = -100 - (q2 : Int) := by unfold r_text; rw [if_neg (by omega), eq2]
    have e2 : x_text X = (X.1, X.2.1, 0, X.2.2.2) := by unfold x_text; rw [if_neg (by omega), eq2]
    rw [e1, e2]
    refine ⟨rfl, ⟨hR.1.fr hA.1.1 (fun m hm => h19f m (by unfold rdr; omega)), ?_, hR.2.2.1.fr hA.im (fun m hm => h19f m (by unfold rdr; omega)), hR.2.2.2.fr hA.sz (fun m hm => h19f m (by unfold rdr; omega))⟩, fun m hm => h19f m (by unfold rdr; omega)⟩
    exact TxtC.emp (tc := X.1) (EE := X.2.1) (n := X.2.2.1) (b := X.2.2.2) hR.2.1 (by omega) h19f h19z) dX7_text_49
  · refine lv_bipush (v := II (-4)) C.1 C.2.1 dX7_text_12 (by decide) ?_
    exact x_ireturn C hr hlk hw hS ⟨by decide, by decide⟩ rfl (by unfold r_text x_text; rw [if_pos (by omega), if_pos (by omega)]; exact ⟨rfl, hR, fun _ _ => rfl⟩) dX7_text_14
