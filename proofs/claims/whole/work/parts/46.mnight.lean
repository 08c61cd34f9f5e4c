theorem CI.mono {l : Launch} {y : MethodName} {cd : ByteArray} {mL : Nat} {rt : FieldType} {rm : Room} {g : Gm} {M : Nat → Int} {as : List Value} {post post' : Int → (Nat → Int) → Prop} (h : CI l y cd mL rt rm g M as post) (hq : ∀ r M', post r M' → post' r M') : CI l y cd mL rt rm g M as post' := by
  intro pq e ha hc hk s m args below hf happ hP hK
  obtain ⟨n, o, h1, h2, h3, h4, h5⟩ := h pq e ha hc hk s m args below hf happ hP hK
  obtain ⟨⟨w, u, e1, ⟨x, e2, hx, hp⟩, hw⟩, hF⟩ := h4
  exact ⟨n, o, h1, h2, h3, ⟨⟨w, u, e1, ⟨x, e2, hx, hq _ _ hp⟩, hw⟩, hF⟩, h5⟩
/-- text t of the model says E -/
def TxM (M : Nat → Int) (t : Nat) (E : Ev) : Prop := ∃ b n d0 d1 d2, TxB M t b n ∧ txP b n = .inr (d0, d1, d2) ∧ E = evC d0 d1 d2
theorem TxM.fr {M M' : Nat → Int} {t : Nat} {E : Ev} (h : TxM M t E) (hf : ∀ m, m = 72000 + t ∨ (71000 + 160 * t ≤ m ∧ m < 71000 + 160 * t + 160) → M' m = M m) : TxM M' t E := by
  obtain ⟨b, n, d0, d1, d2, h1, h2, h3⟩ := h
  exact ⟨b, n, d0, d1, d2, h1.fr hf, h2, h3⟩
/-- rows of people, one of them gone -/
def RwM (M : Nat → Int) (n : Nat) (v : Nat → Nat → Int) (gn : Int) : Prop := (∀ q, q < n → (q : Int) ≠ gn → M (74000 + q) = v q 0 ∧ M (75000 + 4 * q) = v q 1 ∧ M (75000 + (4 * q + 1)) = v q 2 ∧ M (75000 + (4 * q + 2)) = v q 3 ∧ M (75000 + (4 * q + 3)) = v q 4 ∧ 0 ≤ v q 2) ∧ (∀ q, q < n → (q : Int) = gn → v q 2 = -1) ∧ ∀ q, q < n → -20 ≤ M (75000 + (4 * q + 2)) ∧ M (75000 + (4 * q + 2)) ≤ 20
def MB (M : Nat → Int) (n : Nat) (v : Nat → Nat → Int) (nt : Int) (t : Nat) (E : Ev) (gn : Int) : Prop := (M 70011 = (n : Int) ∧ n ≤ 8) ∧ RwM M n v gn ∧ PI v n ∧ (M 70007 = nt ∧ 0 ≤ nt ∧ nt ≤ 999) ∧ (M 70004 = (t : Int) ∧ t < 6) ∧ TxM M t E ∧ (M 70027 = gn ∧ -1 ≤ gn ∧ gn ≤ 7)
/-- what the model's evening may change -/
def scm (m : Nat) : Prop := (70012 ≤ m ∧ m ≤ 70026) ∨ m / 1000 = 76 ∨ m / 1000 = 77
theorem MB.fr {M M' : Nat → Int} {n : Nat} {v : Nat → Nat → Int} {nt : Int} {t : Nat} {E : Ev} {gn : Int} (h : MB M n v nt t E gn) (hf : ∀ m, ¬ scm m → M' m = M m) : MB M' n v nt t E gn := by
  obtain ⟨⟨h1, h2⟩, ⟨r1, r2, r3⟩, h4, ⟨h5, h6⟩, ⟨h7, h8⟩, h9, ⟨ha, hb⟩⟩ := h
  refine ⟨⟨(hf _ (by unfold scm; omega)).trans h1, h2⟩, ⟨fun q hq hg => ?_, r2, fun q hq => ?_⟩, h4, ⟨(hf _ (by unfold scm; omega)).trans h5, h6⟩, ⟨(hf _ (by unfold scm; omega)).trans h7, h8⟩, h9.fr (fun m hm => hf m (by unfold scm; omega)), ⟨(hf _ (by unfold scm; omega)).trans ha, hb⟩⟩
  · have := r1 q hq hg
    rw [hf (74000 + q) (by unfold scm; omega), hf (75000 + 4 * q) (by unfold scm; omega), hf (75000 + (4 * q + 1)) (by unfold scm; omega), hf (75000 + (4 * q + 2)) (by unfold scm; omega), hf (75000 + (4 * q + 3)) (by unfold scm; omega)]
    exact this
  · rw [hf (75000 + (4 * q + 2)) (by unfold scm; omega)]; exact r3 q hq
theorem bsO_t {v : Nat → Nat → Int} {k pq h : Nat} (h1 : k ≠ pq) (h2 : v k 2 = v pq 2) (h3 : inH v k h = true) : (1 : Int) = if (decide (k ≠ pq) && (decide (v k 2 = v pq 2) && inH v k h)) = true then 1 else 0 := by simp [h1, h2, h3]
theorem bsO_f {v : Nat → Nat → Int} {k pq h : Nat} (h1 : k = pq ∨ v k 2 ≠ v pq 2 ∨ inH v k h = false) : (0 : Int) = if (decide (k ≠ pq) && (decide (v k 2 = v pq 2) && inH v k h)) = true then 1 else 0 := by rcases h1 with h1 | h1 | h1 <;> simp [h1]
theorem bsF_t {v : Nat → Nat → Int} {k pq h : Nat} (h1 : k ≠ pq) (h2 : v k 2 = v pq 2) (h3 : inH v k h = true) (h4 : v k 0 = 5) : (1 : Int) = if (decide (k ≠ pq) && ((decide (v k 2 = v pq 2) && inH v k h) && decide (v k 0 = 5))) = true then 1 else 0 := by simp [h1, h2, h3, h4]
theorem bsF_f {v : Nat → Nat → Int} {k pq h : Nat} (h1 : k = pq ∨ v k 2 ≠ v pq 2 ∨ inH v k h = false ∨ v k 0 ≠ 5) : (0 : Int) = if (decide (k ≠ pq) && ((decide (v k 2 = v pq 2) && inH v k h) && decide (v k 0 = 5))) = true then 1 else 0 := by rcases h1 with h1 | h1 | h1 | h1 <;> simp [h1]
theorem sm_add (f g : Nat → Int) : ∀ n : Nat, sm (fun i => f i + g i) n = sm f n + sm g n
  | 0 => rfl
  | n + 1 => by rw [sm, sm, sm, sm_add f g n]; omega
theorem sm_z0 : ∀ n : Nat, sm (fun _ => (0 : Int)) n = 0
  | 0 => rfl
  | n + 1 => by rw [sm, sm_z0 n]; rfl
theorem sm_swap (f : Nat → Nat → Int) (a : Nat) : ∀ n : Nat, sm (fun pq => sm (fun h => f h pq) a) n = sm (fun h => sm (fun pq => f h pq) n) a
  | 0 => (sm_z0 a).symm
  | n + 1 => by
    have e : (fun h => sm (fun pq => f h pq) (n + 1)) = fun h => sm (fun pq => f h pq) n + f h n := rfl
    rw [sm, sm_swap f a n, e, sm_add]
def pdP (v : Nat → Nat → Int) (n : Nat) (nt : Int) (E : Ev) (ho : Int) (pq : Nat) : Int := sm (fun h => pay1 v n nt E ho h pq) 6
theorem pdP_0 {v : Nat → Nat → Int} {n : Nat} {nt : Int} {E : Ev} {ho : Int} {pq : Nat} (h : v pq 2 ≠ ho) : pdP v n nt E ho pq = 0 := by
  simp [pdP, sm, pay1, h]
theorem pdP_sw (v : Nat → Nat → Int) (n : Nat) (nt : Int) (E : Ev) (ho : Int) : sm (pdP v n nt E ho) n = sm (payS v n nt E ho) 6 := sm_swap (fun h pq => pay1 v n nt E ho h pq) 6 n
theorem pdP_in (v : Nat → Nat → Int) (n : Nat) (nt : Int) (E : Ev) (ho : Int) (pq : Nat) : 0 ≤ pdP v n nt E ho pq ∧ pdP v n nt E ho pq ≤ 1782 := by
  have := sm_in (f := fun h => pay1 v n nt E ho h pq) (B := 297) (fun h => pay1_in v n nt E ho h pq) 6
  unfold pdP; omega
/-- the sighs are gathered -/
def SgM (M : Nat → Int) (v : Nat → Nat → Int) (n : Nat) (nt : Int) (E : Ev) (gn : Int) : Prop := ∀ pq, pq < n → (pq : Int) ≠ gn → ∀ h, h < 6 → M (77000 + (6 * pq + h)) = sighA v n nt E pq h
theorem c_X8_readE (l : Launch) (g : Gm) (M : Nat → Int) (hF : LvF g) (t : Nat) (q : Nat) (hq : q < 3) (E : Ev) (hT : TxM M t E) (z0 : Int) (hz0 : M 70012 = z0) (z1 : Int) (hz1 : M 70013 = z1) (z2 : Int) (hz2 : M 70014 = z2) (z3 : Int) (hz3 : M 70015 = z3) (z4 : Int) (hz4 : M 70016 = z4) (z5 : Int) (hz5 : M 70017 = z5) : CI l ({ cls := "RatedBySighsModel", name := "read", desc := "(II)I" } : Jvm.MethodName) cX8_read 6 .int (rmm 41 905) g M [.ref (gA g 70), .int (II (t : Int)), .int (II (q : Int))] (fun r M' => r = E q z0 z1 z2 z3 z4 z5 ∧ (MR M M')) := by
  obtain ⟨b, k, d0, d1, d2, hb, ht, rfl⟩ := hT
  subst hz0 hz1 hz2 hz3 hz4 hz5
  refine (c_X8_read l g M hF (fun k => M (70012 + k)) (fun _ _ => rfl) t b k hb (q : Int) ⟨by omega, by omega⟩).mono (fun r M' h => ?_)
  obtain ⟨hf, ⟨e0, e1, e2, h1, h2, h3⟩ | ⟨q2, h1, h2⟩⟩ := h
  · rw [ht] at h1
    have h4 := Sum.inr.inj h1
    have h5 := Prod.mk.inj h4
    have h6 := Prod.mk.inj h5.2
    rw [h3, ← h5.1, ← h6.1, ← h6.2]
    have e9 := evC_at d0 d1 d2 q (fun k => M (70012 + k))
    refine ⟨?_, hf⟩
    refine Eq.trans ?_ e9.symm
    rcases (show q = 0 ∨ q = 1 ∨ q = 2 by omega) with rfl | rfl | rfl <;> rfl
  · rw [ht] at h1
    cases h1

set_option maxHeartbeats 4000000 in
set_option maxRecDepth 100000 in
theorem c_X8_isIn (l : Launch) (g : Gm) (M : Nat → Int) (hF : LvF g) (n : Nat) (v : Nat → Nat → Int) (nt : Int) (t : Nat) (E : Ev) (gn : Int) (hM : MB M n v nt t E gn) (pq : Nat) (hp : pq < n) (h : Nat) (hh : h < 6) : CI l ({ cls := "RatedBySighsModel", name := "isIn", desc := "(II)Z" } : Jvm.MethodName) cX8_isIn 3 .boolean (rmm 0 0) g M [.ref (gA g 70), .int (II (pq : Int)), .int (II (h : Int))] (fun r M' => M' = M ∧ ((r = 1 ∧ ((pq : Int) ≠ gn ∧ inH v pq h = true)) ∨ (r = 0 ∧ ((pq : Int) = gn ∨ inH v pq h = false)))) := by
  refine c_start (by decide) (Nat.le_of_ble_eq_true rfl) (fun p e s m below meth c ls C hr hlk hml hw hS hl => ?_)
  have hl : lv_has ls 3 [(0, .ref (gA g 70)), (1, .int (II (pq : Int))), (2, .int (II (h : Int)))] := hl
  have g_M := hw.rg
  have hN : gN g = 84 := hF.1
  have hn2 := hM.1.2
  have hq0 := hM.2.2.1 pq hp
  have h01 := bitv_01 hq0.2.2.2.2.1 hq0.2.2.2.2.2 hh
  have hg7 := hM.2.2.2.2.2.2.2
  refine lv_iload_n C.1 C.2.1 dX8_isIn_0 rfl (lv_at hl 1 rfl) ?_
  refine lv_aload_n C.1 C.2.1 dX8_isIn_1 rfl (lv_at hl 0 rfl) ?_
  refine g8 C hw 70 (by omega) rfl 27 (by decide) mw_851 (svi (x := gn) hM.2.2.2.2.2.2.1) dX8_isIn_2 ?_
  refine x_icmp_eq (tgt := 29) C ⟨by omega, by omega⟩ ⟨by have := g_M 70027; have := hM.2.2.2.2.2.2.1; omega, by have := g_M 70027; have := hM.2.2.2.2.2.2.1; omega⟩ dX8_isIn_5 (by decide) (fun c5 => ?_) (fun c5 => ?_)
  · refine lv_iconst (v := II 0) C.1 C.2.1 dX8_isIn_29 rfl ?_
    exact x_ireturn C hr hlk hw hS ⟨by decide, by decide⟩ (by decide) ⟨rfl, Or.inr ⟨rfl, by first | exact Or.inl (by omega) | exact Or.inr (decide_eq_false (by omega))⟩⟩ dX8_isIn_30
  · refine lv_aload_n C.1 C.2.1 dX8_isIn_8 rfl (lv_at hl 0 rfl) ?_
    refine g8 C hw 70 (by omega) rfl 10 (by decide) mw_834 (svr (hF.2 _)) dX8_isIn_9 ?_
    refine lv_iconst (v := II 4) C.1 C.2.1 dX8_isIn_12 rfl ?_
    refine lv_iload_n C.1 C.2.1 dX8_isIn_13 rfl (lv_at hl 1 rfl) ?_
    refine x_imul C dX8_isIn_14 ?_
    refine lv_iconst (v := II 3) C.1 C.2.1 dX8_isIn_15 rfl ?_
    refine x_iadd C dX8_isIn_16 ?_
    refine x_iaload (L := 32) C hw 75 (by omega) rfl rfl (by omega) (by omega) (by decide) (x := v pq 4) ((congrArg (fun z => M (1000 * 75 + z)) (by omega)).trans ((hM.2.1.1 pq (by omega) (by omega)).2.2.2.2.1)) dX8_isIn_17 ?_
    refine lv_iload_n C.1 C.2.1 dX8_isIn_18 rfl (lv_at hl 2 rfl) ?_
    refine lv_ishr C.1 C.2.1 dX8_isIn_19 ?_
    refine lv_iconst (v := II 1) C.1 C.2.1 dX8_isIn_20 rfl ?_
    refine lv_iand C.1 C.2.1 dX8_isIn_21 ?_
    rw [bitv_jvm' hq0.2.2.2.2.1 hq0.2.2.2.2.2 hh]
    refine x_if_ne (tgt := 29) C ⟨by omega, by omega⟩ dX8_isIn_22 (by decide) (fun c22 => ?_) (fun c22 => ?_)
    · refine lv_iconst (v := II 0) C.1 C.2.1 dX8_isIn_29 rfl ?_
      exact x_ireturn C hr hlk hw hS ⟨by decide, by decide⟩ (by decide) ⟨rfl, Or.inr ⟨rfl, by first | exact Or.inl (by omega) | exact Or.inr (decide_eq_false (by omega))⟩⟩ dX8_isIn_30
    · refine lv_iconst (v := II 1) C.1 C.2.1 dX8_isIn_25 rfl ?_
      refine lv_goto (tgt := 30) C.1 C.2.1 dX8_isIn_26 (by decide) ?_
      exact x_ireturn C hr hlk hw hS ⟨by decide, by decide⟩ (by decide) ⟨rfl, Or.inl ⟨rfl, by omega, decide_eq_true (by omega)⟩⟩ dX8_isIn_30

set_option maxHeartbeats 4000000 in
set_option maxRecDepth 100000 in
theorem c_X8_beside0 (l : Launch) (g : Gm) (M : Nat → Int) (hF : LvF g) (n : Nat) (v : Nat → Nat → Int) (nt : Int) (t : Nat) (E : Ev) (gn : Int) (hM : MB M n v nt t E gn) (pq : Nat) (hp : pq < n ∧ (pq : Int) ≠ gn) (h : Nat) (hh : h < 6) : CI l ({ cls := "RatedBySighsModel", name := "beside", desc := "(IIZ)I" } : Jvm.MethodName) cX8_beside 6 .int (rmm 1 22) g M [.ref (gA g 70), .int (II (pq : Int)), .int (II (h : Int)), .int (II 0)] (fun r M' => M' = M ∧ r = othr v n pq h) := by
  refine c_start (by decide) (Nat.le_of_ble_eq_true rfl) (fun p e s m below meth c ls C hr hlk hml hw hS hl => ?_)
  have hl : lv_has ls 6 [(0, .ref (gA g 70)), (1, .int (II (pq : Int))), (2, .int (II (h : Int))), (3, .int (II 0))] := hl
  generalize ([.ref (gA g 70), .int (II (pq : Int)), .int (II (h : Int)), .int (II 0)] : List Value).toArray = args at C ⊢
  generalize hQQ : MQ below (postI g (fun r M' => M' = M ∧ r = othr v n pq h)) args s 0 0 (ar g) = QQ
  have g_M := hw.rg
  have hN : gN g = 84 := hF.1
  have hn2 := hM.1.2
  have hpp := (hM.2.1.1 pq hp.1 hp.2).2.2.2.2.2
  have hp1 := hp.1
  have hp2 := hp.2
  have hpq := hM.2.2.1 pq hp1
  refine lv_iconst (v := II 0) C.1 C.2.1 dX8_beside_0 rfl ?_
  refine lv_istore (lv' := [(4, .int (II 0)), (0, .ref (gA g 70)), (1, .int (II (pq : Int))), (2, .int (II (h : Int))), (3, .int (II 0))]) C.1 C.2.1 dX8_beside_1 hl (by decide) rfl (fun ls hl => ?_)
  refine lv_iconst (v := II 0) C.1 C.2.1 dX8_beside_3 rfl ?_
  refine lv_istore (lv' := [(5, .int (II 0)), (4, .int (II 0)), (0, .ref (gA g 70)), (1, .int (II (pq : Int))), (2, .int (II (h : Int))), (3, .int (II 0))]) C.1 C.2.1 dX8_beside_4 hl (by decide) rfl (fun ls hl => ?_)
  have L6 : ∀ (f1 : Nat) (k : Nat), (n - k) < f1 → (k ≤ n) → ∀ (H : Heap) (locs : List Loc) (ls : Array Slot), Wo g M H → va_S (ar g) s.heap H locs → lv_has ls 6 [(0, .ref (gA g 70)), (1, .int (II (pq : Int))), (2, .int (II (h : Int))), (3, .int (II 0)), (4, .int (II (cnt (fun q => decide (q ≠ pq) && (decide (v q 2 = v pq 2) && inH v q h)) k))), (5, .int (II (k : Int)))] → W p l e (rmm 1 22) s m args below meth c H locs 0 0 QQ (F0 m 6 ls []) := by
    intro f1
    induction f1 with
    | zero => intro k hmu; exact absurd hmu (Nat.not_lt_zero _)
    | succ f1 ih =>
      intro k hmu h1 H locs ls hw hS hl
      have ih6 := ih
      have hcn := cnt_in (fun q => decide (q ≠ pq) && (decide (v q 2 = v pq 2) && inH v q h)) k
      refine lv_iload C.1 C.2.1 dX8_beside_6 (lv_at hl 5 rfl) ?_
      refine lv_aload_n C.1 C.2.1 dX8_beside_8 rfl (lv_at hl 0 rfl) ?_
      refine g8 C hw 70 (by omega) rfl 11 (by decide) mw_835 (svi (x := (n : Int)) hM.1.1) dX8_beside_9 ?_
      refine x_icmp_ge (tgt := 86) C ⟨by omega, by omega⟩ ⟨by have := g_M 70011; have := hM.1.1; omega, by have := g_M 70011; have := hM.1.1; omega⟩ dX8_beside_12 (by decide) (fun c12 => ?_) (fun c12 => ?_)
      · refine lv_iload C.1 C.2.1 dX8_beside_86 (lv_at hl 4 rfl) ?_
        subst hQQ; exact x_ireturn C hr hlk hw hS ⟨by omega, by omega⟩ rfl ⟨rfl, by rw [show k = n by omega]; rfl⟩ dX8_beside_88
      · have hq0 := hM.2.2.1 k (by omega)
        refine lv_iload C.1 C.2.1 dX8_beside_15 (lv_at hl 4 rfl) ?_
        have J77 : ∀ (z : Int), (z = (if (fun q => decide (q ≠ pq) && (decide (v q 2 = v pq 2) && inH v q h)) k = true then 1 else 0)) → ∀ (H : Heap) (locs : List Loc) (ls : Array Slot), Wo g M H → va_S (ar g) s.heap H locs → lv_has ls 6 [(0, .ref (gA g 70)), (1, .int (II (pq : Int))), (2, .int (II (h : Int))), (3, .int (II 0)), (4, .int (II (cnt (fun q => decide (q ≠ pq) && (decide (v q 2 = v pq 2) && inH v q h)) k))), (5, .int (II (k : Int)))] → W p l e (rmm 1 22) s m args below meth c H locs 0 0 QQ (F0 m 77 ls [.int (II z), .int (II (cnt (fun q => decide (q ≠ pq) && (decide (v q 2 = v pq 2) && inH v q h)) k))]) := by
          intro z hz H locs ls hw hS hl
          have hz01 : z = 0 ∨ z = 1 := by rw [hz]; split <;> omega
          refine x_iadd C dX8_beside_77 ?_
          refine lv_istore (lv' := [(4, .int (II ((cnt (fun q => decide (q ≠ pq) && (decide (v q 2 = v pq 2) && inH v q h)) k) + z))), (0, .ref (gA g 70)), (1, .int (II (pq : Int))), (2, .int (II (h : Int))), (3, .int (II 0)), (5, .int (II (k : Int)))]) C.1 C.2.1 dX8_beside_78 hl (by decide) rfl (fun ls hl => ?_)
          have ecn : cnt (fun q => decide (q ≠ pq) && (decide (v q 2 = v pq 2) && inH v q h)) k + z = cnt (fun q => decide (q ≠ pq) && (decide (v q 2 = v pq 2) && inH v q h)) (k + 1) := cnt2 rfl hz
          rw [ecn] at hl
          refine lv_iinc (v := II ((k : Int) + 1)) (lv' := [(5, .int (II ((k : Int) + 1))), (4, .int (II (cnt (fun q => decide (q ≠ pq) && (decide (v q 2 = v pq 2) && inH v q h)) (k + 1)))), (0, .ref (gA g 70)), (1, .int (II (pq : Int))), (2, .int (II (h : Int))), (3, .int (II 0))]) C.1 C.2.1 dX8_beside_80 hl (k := 5) rfl (II_add _ _) (by decide) rfl (fun ls hl => ?_)
          refine lv_goto (tgt := 6) C.1 C.2.1 dX8_beside_83 (by decide) ?_
          exact ih6  (k + 1) (by omega) (by omega) _ _ _ hw hS (lv_sub hl [2, 3, 4, 5, 1, 0] rfl)
        refine lv_iload C.1 C.2.1 dX8_beside_17 (lv_at hl 5 rfl) ?_
        refine lv_iload_n C.1 C.2.1 dX8_beside_19 rfl (lv_at hl 1 rfl) ?_
        refine x_icmp_eq (tgt := 76) C ⟨by omega, by omega⟩ ⟨by omega, by omega⟩ dX8_beside_20 (by decide) (fun c20 => ?_) (fun c20 => ?_)
        · refine lv_iconst (v := II 0) C.1 C.2.1 dX8_beside_76 rfl ?_
          exact J77 0 (show _ = (if (decide (k ≠ pq) && (decide (v k 2 = v pq 2) && inH v k h)) = true then (1 : Int) else 0) from bsO_f (by first | exact Or.inl (by omega) | exact Or.inr (Or.inl (by omega)) | exact h27b.elim (fun z => Or.inr (Or.inl (by have := hM.2.1.2.1 k (by omega) z; omega))) (fun z => Or.inr (Or.inr z)))) _ _ _ hw hS (lv_sub hl [0, 1, 2, 3, 4, 5] rfl)
        · refine lv_aload_n C.1 C.2.1 dX8_beside_23 rfl (lv_at hl 0 rfl) ?_
          refine lv_iload C.1 C.2.1 dX8_beside_24 (lv_at hl 5 rfl) ?_
          refine lv_iload_n C.1 C.2.1 dX8_beside_26 rfl (lv_at hl 2 rfl) ?_
          refine x_ci (x_runV (n := 2) C hw hS hml hl.1 70 8 (by omega) rfl (by decide) rfl (c_X8_isIn l g M hF n v nt t E gn hM k (by omega) h hh) mw_983 mw_985 mw_55 mw_130 mw_986 rfl rfl (by decide +kernel) ⟨Nat.le_of_ble_eq_true rfl, Nat.le_of_ble_eq_true rfl⟩ rfl rfl (Nat.le_of_ble_eq_true rfl) dX8_beside_27 ⟨Nat.zero_le _, Nat.zero_le _⟩) hS (fun r27 M27 H locs hr27 hp hw hS => ?_)
          rcases hp with ⟨em27, (⟨er27, h27b⟩ | ⟨er27, h27b⟩)⟩
          · have hw : Wo g M H := em27 ▸ hw
            rw [er27]
            refine x_if_eq (tgt := 76) C ⟨by decide, by decide⟩ dX8_beside_30 (by decide) (fun h => absurd h (by decide)) (fun _ => ?_)
            refine lv_aload_n C.1 C.2.1 dX8_beside_33 rfl (lv_at hl 0 rfl) ?_
            refine g8 C hw 70 (by omega) rfl 10 (by decide) mw_834 (svr (hF.2 _)) dX8_beside_34 ?_
            refine lv_iconst (v := II 4) C.1 C.2.1 dX8_beside_37 rfl ?_
            refine lv_iload C.1 C.2.1 dX8_beside_38 (lv_at hl 5 rfl) ?_
            refine x_imul C dX8_beside_40 ?_
            refine lv_iconst (v := II 1) C.1 C.2.1 dX8_beside_41 rfl ?_
            refine x_iadd C dX8_beside_42 ?_
            refine x_iaload (L := 32) C hw 75 (by omega) rfl rfl (by omega) (by omega) (by decide) (x := v k 2) ((congrArg (fun z => M (1000 * 75 + z)) (by omega)).trans ((hM.2.1.1 k (by omega) (by omega)).2.2.1)) dX8_beside_43 ?_
            refine lv_aload_n C.1 C.2.1 dX8_beside_44 rfl (lv_at hl 0 rfl) ?_
            refine g8 C hw 70 (by omega) rfl 10 (by decide) mw_834 (svr (hF.2 _)) dX8_beside_45 ?_
            refine lv_iconst (v := II 4) C.1 C.2.1 dX8_beside_48 rfl ?_
            refine lv_iload_n C.1 C.2.1 dX8_beside_49 rfl (lv_at hl 1 rfl) ?_
            refine x_imul C dX8_beside_50 ?_
            refine lv_iconst (v := II 1) C.1 C.2.1 dX8_beside_51 rfl ?_
            refine x_iadd C dX8_beside_52 ?_
            refine x_iaload (L := 32) C hw 75 (by omega) rfl rfl (by omega) (by omega) (by decide) (x := v pq 2) ((congrArg (fun z => M (1000 * 75 + z)) (by omega)).trans ((hM.2.1.1 pq (by omega) (by omega)).2.2.1)) dX8_beside_53 ?_
            refine x_icmp_ne (tgt := 76) C ⟨by have := g_M (75000 + ((4 * k) + 1)); have := ((hM.2.1.1 k (by omega) (by omega)).2.2.1); omega, by have := g_M (75000 + ((4 * k) + 1)); have := ((hM.2.1.1 k (by omega) (by omega)).2.2.1); omega⟩ ⟨by have := g_M (75000 + ((4 * pq) + 1)); have := ((hM.2.1.1 pq (by omega) (by omega)).2.2.1); omega, by have := g_M (75000 + ((4 * pq) + 1)); have := ((hM.2.1.1 pq (by omega) (by omega)).2.2.1); omega⟩ dX8_beside_54 (by decide) (fun c54 => ?_) (fun c54 => ?_)
            · refine lv_iconst (v := II 0) C.1 C.2.1 dX8_beside_76 rfl ?_
              exact J77 0 (show _ = (if (decide (k ≠ pq) && (decide (v k 2 = v pq 2) && inH v k h)) = true then (1 : Int) else 0) from bsO_f (by first | exact Or.inl (by omega) | exact Or.inr (Or.inl (by omega)) | exact h27b.elim (fun z => Or.inr (Or.inl (by have := hM.2.1.2.1 k (by omega) z; omega))) (fun z => Or.inr (Or.inr z)))) _ _ _ hw hS (lv_sub hl [0, 1, 2, 3, 4, 5] rfl)
            · refine lv_iload_n C.1 C.2.1 dX8_beside_57 rfl (lv_at hl 3 rfl) ?_
              refine x_if_eq (tgt := 72) C ⟨by decide, by decide⟩ dX8_beside_58 (by decide) (fun _ => ?_) (fun h => absurd h (by decide))
              refine lv_iconst (v := II 1) C.1 C.2.1 dX8_beside_72 rfl ?_
              refine lv_goto (tgt := 77) C.1 C.2.1 dX8_beside_73 (by decide) ?_
              exact J77 1 (show _ = (if (decide (k ≠ pq) && (decide (v k 2 = v pq 2) && inH v k h)) = true then (1 : Int) else 0) from bsO_t (by omega) (by omega) h27b.2) _ _ _ hw hS (lv_sub hl [0, 1, 2, 3, 4, 5] rfl)
          · have hw : Wo g M H := em27 ▸ hw
            rw [er27]
            refine x_if_eq (tgt := 76) C ⟨by decide, by decide⟩ dX8_beside_30 (by decide) (fun _ => ?_) (fun h => absurd h (by decide))
            refine lv_iconst (v := II 0) C.1 C.2.1 dX8_beside_76 rfl ?_
            exact J77 0 (show _ = (if (decide (k ≠ pq) && (decide (v k 2 = v pq 2) && inH v k h)) = true then (1 : Int) else 0) from bsO_f (by first | exact Or.inl (by omega) | exact Or.inr (Or.inl (by omega)) | exact h27b.elim (fun z => Or.inr (Or.inl (by have := hM.2.1.2.1 k (by omega) z; omega))) (fun z => Or.inr (Or.inr z)))) _ _ _ hw hS (lv_sub hl [0, 1, 2, 3, 4, 5] rfl)
  exact L6 _ 0 (Nat.lt_succ_self _) (by omega) _ _ _ hw hS (lv_sub hl [2, 3, 4, 5, 1, 0] rfl)

set_option maxHeartbeats 4000000 in
set_option maxRecDepth 100000 in
theorem c_X8_beside1 (l : Launch) (g : Gm) (M : Nat → Int) (hF : LvF g) (n : Nat) (v : Nat → Nat → Int) (nt : Int) (t : Nat) (E : Ev) (gn : Int) (hM : MB M n v nt t E gn) (pq : Nat) (hp : pq < n ∧ (pq : Int) ≠ gn) (h : Nat) (hh : h < 6) : CI l ({ cls := "RatedBySighsModel", name := "beside", desc := "(IIZ)I" } : Jvm.MethodName) cX8_beside 6 .int (rmm 1 22) g M [.ref (gA g 70), .int (II (pq : Int)), .int (II (h : Int)), .int (II 1)] (fun r M' => M' = M ∧ r = fool v n pq h) := by
  refine c_start (by decide) (Nat.le_of_ble_eq_true rfl) (fun p e s m below meth c ls C hr hlk hml hw hS hl => ?_)
  have hl : lv_has ls 6 [(0, .ref (gA g 70)), (1, .int (II (pq : Int))), (2, .int (II (h : Int))), (3, .int (II 1))] := hl
  generalize ([.ref (gA g 70), .int (II (pq : Int)), .int (II (h : Int)), .int (II 1)] : List Value).toArray = args at C ⊢
  generalize hQQ : MQ below (postI g (fun r M' => M' = M ∧ r = fool v n pq h)) args s 0 0 (ar g) = QQ
  have g_M := hw.rg
  have hN : gN g = 84 := hF.1
  have hn2 := hM.1.2
  have hpp := (hM.2.1.1 pq hp.1 hp.2).2.2.2.2.2
  have hp1 := hp.1
  have hp2 := hp.2
  have hpq := hM.2.2.1 pq hp1
  refine lv_iconst (v := II 0) C.1 C.2.1 dX8_beside_0 rfl ?_
  refine lv_istore (lv' := [(4, .int (II 0)), (0, .ref (gA g 70)), (1, .int (II (pq : Int))), (2, .int (II (h : Int))), (3, .int (II 1))]) C.1 C.2.1 dX8_beside_1 hl (by decide) rfl (fun ls hl => ?_)
  refine lv_iconst (v := II 0) C.1 C.2.1 dX8_beside_3 rfl ?_
  refine lv_istore (lv' := [(5, .int (II 0)), (4, .int (II 0)), (0, .ref (gA g 70)), (1, .int (II (pq : Int))), (2, .int (II (h : Int))), (3, .int (II 1))]) C.1 C.2.1 dX8_beside_4 hl (by decide) rfl (fun ls hl => ?_)
  have L6 : ∀ (f1 : Nat) (k : Nat), (n - k) < f1 → (k ≤ n) → ∀ (H : Heap) (locs : List Loc) (ls : Array Slot), Wo g M H → va_S (ar g) s.heap H locs → lv_has ls 6 [(0, .ref (gA g 70)), (1, .int (II (pq : Int))), (2, .int (II (h : Int))), (3, .int (II 1)), (4, .int (II (cnt (fun q => decide (q ≠ pq) && ((decide (v q 2 = v pq 2) && inH v q h) && decide (v q 0 = 5))) k))), (5, .int (II (k : Int)))] → W p l e (rmm 1 22) s m args below meth c H locs 0 0 QQ (F0 m 6 ls []) := by
    intro f1
    induction f1 with
    | zero => intro k hmu; exact absurd hmu (Nat.not_lt_zero _)
    | succ f1 ih =>
      intro k hmu h1 H locs ls hw hS hl
      have ih6 := ih
      have hcn := cnt_in (fun q => decide (q ≠ pq) && ((decide (v q 2 = v pq 2) && inH v q h) && decide (v q 0 = 5))) k
      refine lv_iload C.1 C.2.1 dX8_beside_6 (lv_at hl 5 rfl) ?_
      refine lv_aload_n C.1 C.2.1 dX8_beside_8 rfl (lv_at hl 0 rfl) ?_
      refine g8 C hw 70 (by omega) rfl 11 (by decide) mw_835 (svi (x := (n : Int)) hM.1.1) dX8_beside_9 ?_
      refine x_icmp_ge (tgt := 86) C ⟨by omega, by omega⟩ ⟨by have := g_M 70011; have := hM.1.1; omega, by have := g_M 70011; have := hM.1.1; omega⟩ dX8_beside_12 (by decide) (fun c12 => ?_) (fun c12 => ?_)
      · refine lv_iload C.1 C.2.1 dX8_beside_86 (lv_at hl 4 rfl) ?_
        subst hQQ; exact x_ireturn C hr hlk hw hS ⟨by omega, by omega⟩ rfl ⟨rfl, by rw [show k = n by omega]; rfl⟩ dX8_beside_88
      · have hq0 := hM.2.2.1 k (by omega)
        refine lv_iload C.1 C.2.1 dX8_beside_15 (lv_at hl 4 rfl) ?_
        have J77 : ∀ (z : Int), (z = (if (fun q => decide (q ≠ pq) && ((decide (v q 2 = v pq 2) && inH v q h) && decide (v q 0 = 5))) k = true then 1 else 0)) → ∀ (H : Heap) (locs : List Loc) (ls : Array Slot), Wo g M H → va_S (ar g) s.heap H locs → lv_has ls 6 [(0, .ref (gA g 70)), (1, .int (II (pq : Int))), (2, .int (II (h : Int))), (3, .int (II 1)), (4, .int (II (cnt (fun q => decide (q ≠ pq) && ((decide (v q 2 = v pq 2) && inH v q h) && decide (v q 0 = 5))) k))), (5, .int (II (k : Int)))] → W p l e (rmm 1 22) s m args below meth c H locs 0 0 QQ (F0 m 77 ls [.int (II z), .int (II (cnt (fun q => decide (q ≠ pq) && ((decide (v q 2 = v pq 2) && inH v q h) && decide (v q 0 = 5))) k))]) := by
          intro z hz H locs ls hw hS hl
          have hz01 : z = 0 ∨ z = 1 := by rw [hz]; split <;> omega
          refine x_iadd C dX8_beside_77 ?_
          refine lv_istore (lv' := [(4, .int (II ((cnt (fun q => decide (q ≠ pq) && ((decide (v q 2 = v pq 2) && inH v q h) && decide (v q 0 = 5))) k) + z))), (0, .ref (gA g 70)), (1, .int (II (pq : Int))), (2, .int (II (h : Int))), (3, .int (II 1)), (5, .int (II (k : Int)))]) C.1 C.2.1 dX8_beside_78 hl (by decide) rfl (fun ls hl => ?_)
          have ecn : cnt (fun q => decide (q ≠ pq) && ((decide (v q 2 = v pq 2) && inH v q h) && decide (v q 0 = 5))) k + z = cnt (fun q => decide (q ≠ pq) && ((decide (v q 2 = v pq 2) && inH v q h) && decide (v q 0 = 5))) (k + 1) := cnt2 rfl hz
          rw [ecn] at hl
          refine lv_iinc (v := II ((k : Int) + 1)) (lv' := [(5, .int (II ((k : Int) + 1))), (4, .int (II (cnt (fun q => decide (q ≠ pq) && ((decide (v q 2 = v pq 2) && inH v q h) && decide (v q 0 = 5))) (k + 1)))), (0, .ref (gA g 70)), (1, .int (II (pq : Int))), (2, .int (II (h : Int))), (3, .int (II 1))]) C.1 C.2.1 dX8_beside_80 hl (k := 5) rfl (II_add _ _) (by decide) rfl (fun ls hl => ?_)
          refine lv_goto (tgt := 6) C.1 C.2.1 dX8_beside_83 (by decide) ?_
          exact ih6  (k + 1) (by omega) (by omega) _ _ _ hw hS (lv_sub hl [2, 3, 4, 5, 1, 0] rfl)
        refine lv_iload C.1 C.2.1 dX8_beside_17 (lv_at hl 5 rfl) ?_
        refine lv_iload_n C.1 C.2.1 dX8_beside_19 rfl (lv_at hl 1 rfl) ?_
        refine x_icmp_eq (tgt := 76) C ⟨by omega, by omega⟩ ⟨by omega, by omega⟩ dX8_beside_20 (by decide) (fun c20 => ?_) (fun c20 => ?_)
        · refine lv_iconst (v := II 0) C.1 C.2.1 dX8_beside_76 rfl ?_
          exact J77 0 (show _ = (if (decide (k ≠ pq) && ((decide (v k 2 = v pq 2) && inH v k h) && decide (v k 0 = 5))) = true then (1 : Int) else 0) from bsF_f (by first | exact Or.inl (by omega) | exact Or.inr (Or.inl (by omega)) | exact h27b.elim (fun z => Or.inr (Or.inl (by have := hM.2.1.2.1 k (by omega) z; omega))) (fun z => Or.inr (Or.inr (Or.inl z))) | exact Or.inr (Or.inr (Or.inr (by omega))))) _ _ _ hw hS (lv_sub hl [0, 1, 2, 3, 4, 5] rfl)
        · refine lv_aload_n C.1 C.2.1 dX8_beside_23 rfl (lv_at hl 0 rfl) ?_
          refine lv_iload C.1 C.2.1 dX8_beside_24 (lv_at hl 5 rfl) ?_
          refine lv_iload_n C.1 C.2.1 dX8_beside_26 rfl (lv_at hl 2 rfl) ?_
          refine x_ci (x_runV (n := 2) C hw hS hml hl.1 70 8 (by omega) rfl (by decide) rfl (c_X8_isIn l g M hF n v nt t E gn hM k (by omega) h hh) mw_983 mw_985 mw_55 mw_130 mw_986 rfl rfl (by decide +kernel) ⟨Nat.le_of_ble_eq_true rfl, Nat.le_of_ble_eq_true rfl⟩ rfl rfl (Nat.le_of_ble_eq_true rfl) dX8_beside_27 ⟨Nat.zero_le _, Nat.zero_le _⟩) hS (fun r27 M27 H locs hr27 hp hw hS => ?_)
          rcases hp with ⟨em27, (⟨er27, h27b⟩ | ⟨er27, h27b⟩)⟩
          · have hw : Wo g M H := em27 ▸ hw
            rw [er27]
            refine x_if_eq (tgt := 76) C ⟨by decide, by decide⟩ dX8_beside_30 (by decide) (fun h => absurd h (by decide)) (fun _ => ?_)
            refine lv_aload_n C.1 C.2.1 dX8_beside_33 rfl (lv_at hl 0 rfl) ?_
            refine g8 C hw 70 (by omega) rfl 10 (by decide) mw_834 (svr (hF.2 _)) dX8_beside_34 ?_
            refine lv_iconst (v := II 4) C.1 C.2.1 dX8_beside_37 rfl ?_
            refine lv_iload C.1 C.2.1 dX8_beside_38 (lv_at hl 5 rfl) ?_
            refine x_imul C dX8_beside_40 ?_
            refine lv_iconst (v := II 1) C.1 C.2.1 dX8_beside_41 rfl ?_
            refine x_iadd C dX8_beside_42 ?_
            refine x_iaload (L := 32) C hw 75 (by omega) rfl rfl (by omega) (by omega) (by decide) (x := v k 2) ((congrArg (fun z => M (1000 * 75 + z)) (by omega)).trans ((hM.2.1.1 k (by omega) (by omega)).2.2.1)) dX8_beside_43 ?_
            refine lv_aload_n C.1 C.2.1 dX8_beside_44 rfl (lv_at hl 0 rfl) ?_
            refine g8 C hw 70 (by omega) rfl 10 (by decide) mw_834 (svr (hF.2 _)) dX8_beside_45 ?_
            refine lv_iconst (v := II 4) C.1 C.2.1 dX8_beside_48 rfl ?_
            refine lv_iload_n C.1 C.2.1 dX8_beside_49 rfl (lv_at hl 1 rfl) ?_
            refine x_imul C dX8_beside_50 ?_
            refine lv_iconst (v := II 1) C.1 C.2.1 dX8_beside_51 rfl ?_
            refine x_iadd C dX8_beside_52 ?_
            refine x_iaload (L := 32) C hw 75 (by omega) rfl rfl (by omega) (by omega) (by decide) (x := v pq 2) ((congrArg (fun z => M (1000 * 75 + z)) (by omega)).trans ((hM.2.1.1 pq (by omega) (by omega)).2.2.1)) dX8_beside_53 ?_
            refine x_icmp_ne (tgt := 76) C ⟨by have := g_M (75000 + ((4 * k) + 1)); have := ((hM.2.1.1 k (by omega) (by omega)).2.2.1); omega, by have := g_M (75000 + ((4 * k) + 1)); have := ((hM.2.1.1 k (by omega) (by omega)).2.2.1); omega⟩ ⟨by have := g_M (75000 + ((4 * pq) + 1)); have := ((hM.2.1.1 pq (by omega) (by omega)).2.2.1); omega, by have := g_M (75000 + ((4 * pq) + 1)); have := ((hM.2.1.1 pq (by omega) (by omega)).2.2.1); omega⟩ dX8_beside_54 (by decide) (fun c54 => ?_) (fun c54 => ?_)
            · refine lv_iconst (v := II 0) C.1 C.2.1 dX8_beside_76 rfl ?_
              exact J77 0 (show _ = (if (decide (k ≠ pq) && ((decide (v k 2 = v pq 2) && inH v k h) && decide (v k 0 = 5))) = true then (1 : Int) else 0) from bsF_f (by first | exact Or.inl (by omega) | exact Or.inr (Or.inl (by omega)) | exact h27b.elim (fun z => Or.inr (Or.inl (by have := hM.2.1.2.1 k (by omega) z; omega))) (fun z => Or.inr (Or.inr (Or.inl z))) | exact Or.inr (Or.inr (Or.inr (by omega))))) _ _ _ hw hS (lv_sub hl [0, 1, 2, 3, 4, 5] rfl)
            · refine lv_iload_n C.1 C.2.1 dX8_beside_57 rfl (lv_at hl 3 rfl) ?_
              refine x_if_eq (tgt := 72) C ⟨by decide, by decide⟩ dX8_beside_58 (by decide) (fun h => absurd h (by decide)) (fun _ => ?_)
              refine lv_aload_n C.1 C.2.1 dX8_beside_61 rfl (lv_at hl 0 rfl) ?_
              refine g8 C hw 70 (by omega) rfl 9 (by decide) mw_833 (svr (hF.2 _)) dX8_beside_62 ?_
              refine lv_iload C.1 C.2.1 dX8_beside_65 (lv_at hl 5 rfl) ?_
              refine x_iaload (L := 8) C hw 74 (by omega) rfl rfl (by omega) (by omega) (by decide) (x := v k 0) ((hM.2.1.1 k (by omega) (by omega)).1) dX8_beside_67 ?_
              refine lv_iconst (v := II 5) C.1 C.2.1 dX8_beside_68 rfl ?_
              refine x_icmp_ne (tgt := 76) C ⟨by have := g_M (74000 + k); have := ((hM.2.1.1 k (by omega) (by omega)).1); omega, by have := g_M (74000 + k); have := ((hM.2.1.1 k (by omega) (by omega)).1); omega⟩ ⟨by decide, by decide⟩ dX8_beside_69 (by decide) (fun c69 => ?_) (fun c69 => ?_)
              · refine lv_iconst (v := II 0) C.1 C.2.1 dX8_beside_76 rfl ?_
                exact J77 0 (show _ = (if (decide (k ≠ pq) && ((decide (v k 2 = v pq 2) && inH v k h) && decide (v k 0 = 5))) = true then (1 : Int) else 0) from bsF_f (by first | exact Or.inl (by omega) | exact Or.inr (Or.inl (by omega)) | exact h27b.elim (fun z => Or.inr (Or.inl (by have := hM.2.1.2.1 k (by omega) z; omega))) (fun z => Or.inr (Or.inr (Or.inl z))) | exact Or.inr (Or.inr (Or.inr (by omega))))) _ _ _ hw hS (lv_sub hl [0, 1, 2, 3, 4, 5] rfl)
              · refine lv_iconst (v := II 1) C.1 C.2.1 dX8_beside_72 rfl ?_
                refine lv_goto (tgt := 77) C.1 C.2.1 dX8_beside_73 (by decide) ?_
                exact J77 1 (show _ = (if (decide (k ≠ pq) && ((decide (v k 2 = v pq 2) && inH v k h) && decide (v k 0 = 5))) = true then (1 : Int) else 0) from bsF_t (by omega) (by omega) h27b.2 (by omega)) _ _ _ hw hS (lv_sub hl [0, 1, 2, 3, 4, 5] rfl)
          · have hw : Wo g M H := em27 ▸ hw
            rw [er27]
            refine x_if_eq (tgt := 76) C ⟨by decide, by decide⟩ dX8_beside_30 (by decide) (fun _ => ?_) (fun h => absurd h (by decide))
            refine lv_iconst (v := II 0) C.1 C.2.1 dX8_beside_76 rfl ?_
            exact J77 0 (show _ = (if (decide (k ≠ pq) && ((decide (v k 2 = v pq 2) && inH v k h) && decide (v k 0 = 5))) = true then (1 : Int) else 0) from bsF_f (by first | exact Or.inl (by omega) | exact Or.inr (Or.inl (by omega)) | exact h27b.elim (fun z => Or.inr (Or.inl (by have := hM.2.1.2.1 k (by omega) z; omega))) (fun z => Or.inr (Or.inr (Or.inl z))) | exact Or.inr (Or.inr (Or.inr (by omega))))) _ _ _ hw hS (lv_sub hl [0, 1, 2, 3, 4, 5] rfl)
  exact L6 _ 0 (Nat.lt_succ_self _) (by omega) _ _ _ hw hS (lv_sub hl [2, 3, 4, 5, 1, 0] rfl)

set_option maxHeartbeats 4000000 in
set_option maxRecDepth 100000 in
theorem c_X8_looks (l : Launch) (g : Gm) (M : Nat → Int) (hF : LvF g) (n : Nat) (v : Nat → Nat → Int) (nt : Int) (t : Nat) (E : Ev) (gn : Int) (hM : MB M n v nt t E gn) (pq : Nat) (hp : pq < n ∧ (pq : Int) ≠ gn) (h : Nat) (hh : h < 6) (mo : Int) (gmo : rg mo) : CV l ({ cls := "RatedBySighsModel", name := "looks", desc := "(III)V" } : Jvm.MethodName) cX8_looks 4 (rmm 2 47) g M [.ref (gA g 70), .int (II (pq : Int)), .int (II (h : Int)), .int (II mo)] (fun M' => M' = stM (stM (stM (stM (stM (stM M 70012 mo) 70013 (h : Int)) 70014 (v pq 1)) 70015 (othr v n pq h)) 70016 (v pq 2)) 70017 (fool v n pq h)) := by
  refine c_start (by decide) (Nat.le_of_ble_eq_true rfl) (fun p e s m below meth c ls C hr hlk hml hw hS hl => ?_)
  have hl : lv_has ls 4 [(0, .ref (gA g 70)), (1, .int (II (pq : Int))), (2, .int (II (h : Int))), (3, .int (II mo))] := hl
  have g_M := hw.rg
  have hN : gN g = 84 := hF.1
  have hn2 := hM.1.2
  have hp1 := hp.1
  have hp2 := hp.2
  have hq0 := hM.2.2.1 pq hp1
  have ho1 : 0 ≤ othr v n pq h ∧ othr v n pq h ≤ n := cnt_in _ _
  have hf1 : 0 ≤ fool v n pq h ∧ fool v n pq h ≤ n := cnt_in _ _
  refine lv_aload_n C.1 C.2.1 dX8_looks_0 rfl (lv_at hl 0 rfl) ?_
  refine lv_iload_n C.1 C.2.1 dX8_looks_1 rfl (lv_at hl 3 rfl) ?_
  refine p8 C hw hS 70 (by omega) rfl 12 (by decide) mw_836 rfl (x := mo) gmo (svi st_s) (tyX8_ok 12 (by decide)) rfl rfl dX8_looks_2 (fun H locs hw hS => ?_)
  have hw : Wo g (stM M 70012 mo) H := hw
  refine lv_aload_n C.1 C.2.1 dX8_looks_5 rfl (lv_at hl 0 rfl) ?_
  refine lv_iload_n C.1 C.2.1 dX8_looks_6 rfl (lv_at hl 2 rfl) ?_
  refine p8 C hw hS 70 (by omega) rfl 13 (by decide) mw_837 rfl (x := (h : Int)) ⟨by omega, by omega⟩ (svi st_s) (tyX8_ok 13 (by decide)) rfl rfl dX8_looks_7 (fun H locs hw hS => ?_)
  have hw : Wo g (stM (stM M 70012 mo) 70013 (h : Int)) H := hw
  refine lv_aload_n C.1 C.2.1 dX8_looks_10 rfl (lv_at hl 0 rfl) ?_
  refine lv_aload_n C.1 C.2.1 dX8_looks_11 rfl (lv_at hl 0 rfl) ?_
  refine g8 C hw 70 (by omega) rfl 10 (by decide) mw_834 (svr (hF.2 _)) dX8_looks_12 ?_
  refine lv_iconst (v := II 4) C.1 C.2.1 dX8_looks_15 rfl ?_
  refine lv_iload_n C.1 C.2.1 dX8_looks_16 rfl (lv_at hl 1 rfl) ?_
  refine x_imul C dX8_looks_17 ?_
  refine x_iaload (L := 32) C hw 75 (by omega) rfl rfl (by omega) (by omega) (by decide) (x := v pq 1) ((congrArg (fun z => (stM (stM M 70012 mo) 70013 (h : Int)) (1000 * 75 + z)) (by omega)).trans ((st_n (by omega)).trans ((st_n (by omega)).trans ((hM.2.1.1 pq (by omega) (by omega)).2.1)))) dX8_looks_18 ?_
  refine p8 C hw hS 70 (by omega) rfl 14 (by decide) mw_838 rfl (x := v pq 1) ⟨by omega, by omega⟩ (svi st_s) (tyX8_ok 14 (by decide)) rfl rfl dX8_looks_19 (fun H locs hw hS => ?_)
  have hw : Wo g (stM (stM (stM M 70012 mo) 70013 (h : Int)) 70014 (v pq 1)) H := hw
  refine lv_aload_n C.1 C.2.1 dX8_looks_22 rfl (lv_at hl 0 rfl) ?_
  refine lv_aload_n C.1 C.2.1 dX8_looks_23 rfl (lv_at hl 0 rfl) ?_
  refine lv_iload_n C.1 C.2.1 dX8_looks_24 rfl (lv_at hl 1 rfl) ?_
  refine lv_iload_n C.1 C.2.1 dX8_looks_25 rfl (lv_at hl 2 rfl) ?_
  refine lv_iconst (v := II 0) C.1 C.2.1 dX8_looks_26 rfl ?_
  refine x_ci (x_runV (n := 3) C hw hS hml hl.1 70 8 (by omega) rfl (by decide) rfl (c_X8_beside0 l g (stM (stM (stM M 70012 mo) 70013 (h : Int)) 70014 (v pq 1)) hF n v nt t E gn (hM.fr (fun m hm => by unfold scm at hm; rw [st_n (by omega), st_n (by omega), st_n (by omega)])) pq hp h hh) mw_991 mw_993 mw_57 mw_130 mw_994 rfl rfl (by decide +kernel) ⟨Nat.le_of_ble_eq_true rfl, Nat.le_of_ble_eq_true rfl⟩ rfl rfl (Nat.le_of_ble_eq_true rfl) dX8_looks_27 ⟨Nat.zero_le _, Nat.zero_le _⟩) hS (fun r27 M27 H locs hr27 hp hw hS => ?_)
  obtain ⟨em27, er27⟩ := hp
  have hw : Wo g (stM (stM (stM M 70012 mo) 70013 (h : Int)) 70014 (v pq 1)) H := em27 ▸ hw
  rw [er27] at hr27 ⊢
  refine p8 C hw hS 70 (by omega) rfl 15 (by decide) mw_839 rfl (x := othr v n pq h) hr27 (svi st_s) (tyX8_ok 15 (by decide)) rfl rfl dX8_looks_30 (fun H locs hw hS => ?_)
  have hw : Wo g (stM (stM (stM (stM M 70012 mo) 70013 (h : Int)) 70014 (v pq 1)) 70015 (othr v n pq h)) H := hw
  refine lv_aload_n C.1 C.2.1 dX8_looks_33 rfl (lv_at hl 0 rfl) ?_
  refine lv_aload_n C.1 C.2.1 dX8_looks_34 rfl (lv_at hl 0 rfl) ?_
  refine g8 C hw 70 (by omega) rfl 10 (by decide) mw_834 (svr (hF.2 _)) dX8_looks_35 ?_
  refine lv_iconst (v := II 4) C.1 C.2.1 dX8_looks_38 rfl ?_
  refine lv_iload_n C.1 C.2.1 dX8_looks_39 rfl (lv_at hl 1 rfl) ?_
  refine x_imul C dX8_looks_40 ?_
  refine lv_iconst (v := II 1) C.1 C.2.1 dX8_looks_41 rfl ?_
  refine x_iadd C dX8_looks_42 ?_
  refine x_iaload (L := 32) C hw 75 (by omega) rfl rfl (by omega) (by omega) (by decide) (x := v pq 2) ((congrArg (fun z => (stM (stM (stM (stM M 70012 mo) 70013 (h : Int)) 70014 (v pq 1)) 70015 (othr v n pq h)) (1000 * 75 + z)) (by omega)).trans ((st_n (by omega)).trans ((st_n (by omega)).trans ((st_n (by omega)).trans ((st_n (by omega)).trans ((hM.2.1.1 pq (by omega) (by omega)).2.2.1)))))) dX8_looks_43 ?_
  refine p8 C hw hS 70 (by omega) rfl 16 (by decide) mw_840 rfl (x := v pq 2) ⟨by omega, by omega⟩ (svi st_s) (tyX8_ok 16 (by decide)) rfl rfl dX8_looks_44 (fun H locs hw hS => ?_)
  have hw : Wo g (stM (stM (stM (stM (stM M 70012 mo) 70013 (h : Int)) 70014 (v pq 1)) 70015 (othr v n pq h)) 70016 (v pq 2)) H := hw
  refine lv_aload_n C.1 C.2.1 dX8_looks_47 rfl (lv_at hl 0 rfl) ?_
  refine lv_aload_n C.1 C.2.1 dX8_looks_48 rfl (lv_at hl 0 rfl) ?_
  refine lv_iload_n C.1 C.2.1 dX8_looks_49 rfl (lv_at hl 1 rfl) ?_
  refine lv_iload_n C.1 C.2.1 dX8_looks_50 rfl (lv_at hl 2 rfl) ?_
  refine lv_iconst (v := II 1) C.1 C.2.1 dX8_looks_51 rfl ?_
  refine x_ci (x_runV (n := 3) C hw hS hml hl.1 70 8 (by omega) rfl (by decide) rfl (c_X8_beside1 l g (stM (stM (stM (stM (stM M 70012 mo) 70013 (h : Int)) 70014 (v pq 1)) 70015 (othr v n pq h)) 70016 (v pq 2)) hF n v nt t E gn (hM.fr (fun m hm => by unfold scm at hm; rw [st_n (by omega), st_n (by omega), st_n (by omega), st_n (by omega), st_n (by omega)])) pq hp h hh) mw_991 mw_993 mw_57 mw_130 mw_994 rfl rfl (by decide +kernel) ⟨Nat.le_of_ble_eq_true rfl, Nat.le_of_ble_eq_true rfl⟩ rfl rfl (Nat.le_of_ble_eq_true rfl) dX8_looks_52 ⟨Nat.zero_le _, Nat.zero_le _⟩) hS (fun r52 M52 H locs hr52 hp hw hS => ?_)
  obtain ⟨em52, er52⟩ := hp
  have hw : Wo g (stM (stM (stM (stM (stM M 70012 mo) 70013 (h : Int)) 70014 (v pq 1)) 70015 (othr v n pq h)) 70016 (v pq 2)) H := em52 ▸ hw
  rw [er52] at hr52 ⊢
  refine p8 C hw hS 70 (by omega) rfl 17 (by decide) mw_841 rfl (x := fool v n pq h) hr52 (svi st_s) (tyX8_ok 17 (by decide)) rfl rfl dX8_looks_55 (fun H locs hw hS => ?_)
  have hw : Wo g (stM (stM (stM (stM (stM (stM M 70012 mo) 70013 (h : Int)) 70014 (v pq 1)) 70015 (othr v n pq h)) 70016 (v pq 2)) 70017 (fool v n pq h)) H := hw
  exact x_return C hr hlk hw hS rfl dX8_looks_58

set_option maxHeartbeats 4000000 in
set_option maxRecDepth 100000 in
theorem c_X8_sighsOf (l : Launch) (g : Gm) (M : Nat → Int) (hF : LvF g) (n : Nat) (v : Nat → Nat → Int) (nt : Int) (t : Nat) (E : Ev) (gn : Int) (hM : MB M n v nt t E gn) (z0 : Int) (hz0 : M 70012 = z0) (z1 : Int) (hz1 : M 70013 = z1) (z2 : Int) (hz2 : M 70014 = z2) (z3 : Int) (hz3 : M 70015 = z3) (z4 : Int) (hz4 : M 70016 = z4) (z5 : Int) (hz5 : M 70017 = z5) (pq : Nat) (hp : pq < n ∧ (pq : Int) ≠ gn) (mo : Int) (gmo : rg mo) : CI l ({ cls := "RatedBySighsModel", name := "sighsOf", desc := "(II)I" } : Jvm.MethodName) cX8_sighsOf 5 .int (rmm 42 930) g M [.ref (gA g 70), .int (II (pq : Int)), .int (II mo)] (fun r M' => r = sighK (v pq 0) (v pq 1) nt (bnd (E 0 z0 z1 z2 z3 z4 z5) 0 99) mo ∧ (MR M M')) := by
  refine c_start (by decide) (Nat.le_of_ble_eq_true rfl) (fun p e s m below meth c ls C hr hlk hml hw hS hl => ?_)
  have hl : lv_has ls 5 [(0, .ref (gA g 70)), (1, .int (II (pq : Int))), (2, .int (II mo))] := hl
  have g_M := hw.rg
  have hN : gN g = 84 := hF.1
  have hn2 := hM.1.2
  have hp1 := hp.1
  have hp2 := hp.2
  have hq0 := hM.2.2.1 pq hp1
  have hnt := hM.2.2.2.1.2
  refine lv_aload_n C.1 C.2.1 dX8_sighsOf_0 rfl (lv_at hl 0 rfl) ?_
  refine g8 C hw 70 (by omega) rfl 9 (by decide) mw_833 (svr (hF.2 _)) dX8_sighsOf_1 ?_
  refine lv_iload_n C.1 C.2.1 dX8_sighsOf_4 rfl (lv_at hl 1 rfl) ?_
  refine x_iaload (L := 8) C hw 74 (by omega) rfl rfl (by omega) (by omega) (by decide) (x := v pq 0) ((hM.2.1.1 pq (by omega) (by omega)).1) dX8_sighsOf_5 ?_
  refine lv_istore_n (lv' := [(3, .int (II (v pq 0))), (0, .ref (gA g 70)), (1, .int (II (pq : Int))), (2, .int (II mo))]) C.1 C.2.1 dX8_sighsOf_6 rfl hl (by decide) rfl (fun ls hl => ?_)
  refine lv_aload_n C.1 C.2.1 dX8_sighsOf_7 rfl (lv_at hl 1 rfl) ?_
  refine lv_aload_n C.1 C.2.1 dX8_sighsOf_8 rfl (lv_at hl 1 rfl) ?_
  refine g8 C hw 70 (by omega) rfl 4 (by decide) mw_828 (svi (x := (t : Int)) hM.2.2.2.2.1.1) dX8_sighsOf_9 ?_
  refine lv_iconst (v := II 0) C.1 C.2.1 dX8_sighsOf_12 rfl ?_
  refine x_ci (x_runV (n := 2) C hw hS hml hl.1 70 8 (by omega) rfl (by decide) rfl (c_X8_readE l g M hF t 0 (by decide) E hM.2.2.2.2.2.1 z0 hz0 z1 hz1 z2 hz2 z3 hz3 z4 hz4 z5 hz5) mw_999 mw_1001 mw_59 mw_130 mw_1002 rfl rfl (by decide +kernel) ⟨Nat.le_of_ble_eq_true rfl, Nat.le_of_ble_eq_true rfl⟩ rfl rfl (Nat.le_of_ble_eq_true rfl) dX8_sighsOf_13 ⟨Nat.zero_le _, Nat.zero_le _⟩) hS (fun r13 M13 H locs hr13 hp hw hS => ?_)
  obtain ⟨er13, h13f⟩ := hp
  have g_M13 := hw.rg
  rw [er13] at hr13 ⊢
  have hM13 : MB M13 n v nt t E gn := hM.fr (fun m hm => h13f m (by unfold scm at hm; omega))
  refine lv_iconst (v := II 0) C.1 C.2.1 dX8_sighsOf_16 rfl ?_
  refine lv_bipush (v := II 99) C.1 C.2.1 dX8_sighsOf_17 (by decide) ?_
  refine x_ci (x_runS (n := 3) C hw hS hml hl.1 (c_X8_within l g M13 (E 0 z0 z1 z2 z3 z4 z5) hr13 0 ⟨by decide, by decide⟩ 99 ⟨by decide, by decide⟩) mw_1189 mw_1190 mw_130 mw_1191 rfl rfl (by decide +kernel) ⟨Nat.le_of_ble_eq_true rfl, Nat.le_of_ble_eq_true rfl⟩ rfl rfl (Nat.le_of_ble_eq_true rfl) dX8_sighsOf_19 ⟨Nat.zero_le _, Nat.zero_le _⟩) hS (fun r19 M19 H locs hr19 hp hw hS => ?_)
  obtain ⟨em19, er19⟩ := hp
  have hw : Wo g M13 H := em19 ▸ hw
  rw [er19] at hr19 ⊢
  have hb := bnd_in (v := E 0 z0 z1 z2 z3 z4 z5) (lo := 0) (hi := 99) (by decide)
  refine lv_istore (lv' := [(4, .int (II (bnd (E 0 z0 z1 z2 z3 z4 z5) 0 99))), (3, .int (II (v pq 0))), (0, .ref (gA g 70)), (1, .int (II (pq : Int))), (2, .int (II mo))]) C.1 C.2.1 dX8_sighsOf_22 hl (by decide) rfl (fun ls hl => ?_)
  refine lv_iload_n C.1 C.2.1 dX8_sighsOf_24 rfl (lv_at hl 1 rfl) ?_
  refine lv_iconst (v := II 1) C.1 C.2.1 dX8_sighsOf_25 rfl ?_
  refine x_icmp_eq (tgt := 34) C ⟨by have := g_M (74000 + pq); have := ((hM.2.1.1 pq (by omega) (by omega)).1); omega, by have := g_M (74000 + pq); have := ((hM.2.1.1 pq (by omega) (by omega)).1); omega⟩ ⟨by decide, by decide⟩ dX8_sighsOf_26 (by decide) (fun c26 => ?_) (fun c26 => ?_)
  · refine lv_aload_n C.1 C.2.1 dX8_sighsOf_34 rfl (lv_at hl 2 rfl) ?_
    refine g8 C hw 70 (by omega) rfl 7 (by decide) mw_831 (svi (x := nt) hM13.2.2.2.1.1) dX8_sighsOf_35 ?_
    refine lv_bipush (v := II 10) C.1 C.2.1 dX8_sighsOf_38 (by decide) ?_
    refine lv_aload_n C.1 C.2.1 dX8_sighsOf_40 rfl (lv_at hl 2 rfl) ?_
    refine g8 C hw 70 (by omega) rfl 10 (by decide) mw_834 (svr (hF.2 _)) dX8_sighsOf_41 ?_
    refine lv_iconst (v := II 4) C.1 C.2.1 dX8_sighsOf_44 rfl ?_
    refine lv_iload_n C.1 C.2.1 dX8_sighsOf_45 rfl (lv_at hl 3 rfl) ?_
    refine x_imul C dX8_sighsOf_46 ?_
    refine x_iaload (L := 32) C hw 75 (by omega) rfl rfl (by omega) (by omega) (by decide) (x := v pq 1) ((congrArg (fun z => M13 (1000 * 75 + z)) (by omega)).trans ((hM13.2.1.1 pq (by omega) (by omega)).2.1)) dX8_sighsOf_47 ?_
    refine x_imul C dX8_sighsOf_48 ?_
    refine x_icmp_ge (tgt := 56) C ⟨by have := g_M13 70007; have := hM13.2.2.2.1.1; omega, by have := g_M13 70007; have := hM13.2.2.2.1.1; omega⟩ ⟨by have := g_M13 (75000 + (4 * pq)); have := ((hM13.2.1.1 pq (by omega) (by omega)).2.1); omega, by have := g_M13 (75000 + (4 * pq)); have := ((hM13.2.1.1 pq (by omega) (by omega)).2.1); omega⟩ dX8_sighsOf_49 (by decide) (fun c49 => ?_) (fun c49 => ?_)
    · refine lv_iload_n C.1 C.2.1 dX8_sighsOf_56 rfl (lv_at hl 1 rfl) ?_
      refine lv_iconst (v := II 3) C.1 C.2.1 dX8_sighsOf_57 rfl ?_
      refine x_icmp_ne (tgt := 68) C ⟨by have := g_M (74000 + pq); have := ((hM.2.1.1 pq (by omega) (by omega)).1); omega, by have := g_M (74000 + pq); have := ((hM.2.1.1 pq (by omega) (by omega)).1); omega⟩ ⟨by decide, by decide⟩ dX8_sighsOf_58 (by decide) (fun c58 => ?_) (fun c58 => ?_)
      · refine lv_iload C.1 C.2.1 dX8_sighsOf_68 (lv_at hl 0 rfl) ?_
        exact x_ireturn C hr hlk hw hS hr19 rfl ⟨by unfold sighK wsK; (repeat' split) <;> first | rfl | omega, h13f⟩ dX8_sighsOf_70
      · refine lv_iload C.1 C.2.1 dX8_sighsOf_61 (lv_at hl 0 rfl) ?_
        refine lv_iconst (v := II 2) C.1 C.2.1 dX8_sighsOf_63 rfl ?_
        refine x_idiv C (by omega) hr19 (by omega) ⟨by decide, by decide⟩ dX8_sighsOf_64 ?_
        refine lv_goto (tgt := 70) C.1 C.2.1 dX8_sighsOf_65 (by decide) ?_
        exact x_ireturn C hr hlk hw hS ⟨by omega, by omega⟩ rfl ⟨by unfold sighK wsK; (repeat' split) <;> first | rfl | omega, h13f⟩ dX8_sighsOf_70
    · refine lv_iconst (v := II 0) C.1 C.2.1 dX8_sighsOf_52 rfl ?_
      refine lv_goto (tgt := 70) C.1 C.2.1 dX8_sighsOf_53 (by decide) ?_
      exact x_ireturn C hr hlk hw hS ⟨by decide, by decide⟩ rfl ⟨by unfold sighK wsK; (repeat' split) <;> first | rfl | omega, h13f⟩ dX8_sighsOf_70
  · refine lv_iload_n C.1 C.2.1 dX8_sighsOf_29 rfl (lv_at hl 1 rfl) ?_
    refine lv_iconst (v := II 3) C.1 C.2.1 dX8_sighsOf_30 rfl ?_
    refine x_icmp_ne (tgt := 71) C ⟨by have := g_M (74000 + pq); have := ((hM.2.1.1 pq (by omega) (by omega)).1); omega, by have := g_M (74000 + pq); have := ((hM.2.1.1 pq (by omega) (by omega)).1); omega⟩ ⟨by decide, by decide⟩ dX8_sighsOf_31 (by decide) (fun c31 => ?_) (fun c31 => ?_)
    · refine lv_iload_n C.1 C.2.1 dX8_sighsOf_71 rfl (lv_at hl 1 rfl) ?_
      refine lv_iconst (v := II 2) C.1 C.2.1 dX8_sighsOf_72 rfl ?_
      refine x_icmp_eq (tgt := 87) C ⟨by have := g_M (74000 + pq); have := ((hM.2.1.1 pq (by omega) (by omega)).1); omega, by have := g_M (74000 + pq); have := ((hM.2.1.1 pq (by omega) (by omega)).1); omega⟩ ⟨by decide, by decide⟩ dX8_sighsOf_73 (by decide) (fun c73 => ?_) (fun c73 => ?_)
      · refine lv_iconst (v := II 3) C.1 C.2.1 dX8_sighsOf_87 rfl ?_
        refine lv_iload C.1 C.2.1 dX8_sighsOf_88 (lv_at hl 0 rfl) ?_
        refine x_imul C dX8_sighsOf_90 ?_
        refine lv_goto (tgt := 104) C.1 C.2.1 dX8_sighsOf_91 (by decide) ?_
        exact x_ireturn C hr hlk hw hS ⟨by omega, by omega⟩ rfl ⟨by unfold sighK wsK; (repeat' split) <;> first | rfl | omega, h13f⟩ dX8_sighsOf_104
      · refine lv_iload_n C.1 C.2.1 dX8_sighsOf_76 rfl (lv_at hl 1 rfl) ?_
        refine lv_iconst (v := II 4) C.1 C.2.1 dX8_sighsOf_77 rfl ?_
        refine x_icmp_ne (tgt := 94) C ⟨by have := g_M (74000 + pq); have := ((hM.2.1.1 pq (by omega) (by omega)).1); omega, by have := g_M (74000 + pq); have := ((hM.2.1.1 pq (by omega) (by omega)).1); omega⟩ ⟨by decide, by decide⟩ dX8_sighsOf_78 (by decide) (fun c78 => ?_) (fun c78 => ?_)
        · refine lv_iload_n C.1 C.2.1 dX8_sighsOf_94 rfl (lv_at hl 1 rfl) ?_
          refine x_if_ne (tgt := 103) C ⟨by have := g_M (74000 + pq); have := ((hM.2.1.1 pq (by omega) (by omega)).1); omega, by have := g_M (74000 + pq); have := ((hM.2.1.1 pq (by omega) (by omega)).1); omega⟩ dX8_sighsOf_95 (by decide) (fun c95 => ?_) (fun c95 => ?_)
          · refine lv_iconst (v := II 0) C.1 C.2.1 dX8_sighsOf_103 rfl ?_
            exact x_ireturn C hr hlk hw hS ⟨by decide, by decide⟩ rfl ⟨by unfold sighK wsK; (repeat' split) <;> first | rfl | omega, h13f⟩ dX8_sighsOf_104
          · refine lv_iload C.1 C.2.1 dX8_sighsOf_98 (lv_at hl 0 rfl) ?_
            refine lv_goto (tgt := 104) C.1 C.2.1 dX8_sighsOf_100 (by decide) ?_
            exact x_ireturn C hr hlk hw hS hr19 rfl ⟨by unfold sighK wsK; (repeat' split) <;> first | rfl | omega, h13f⟩ dX8_sighsOf_104
        · refine lv_iload_n C.1 C.2.1 dX8_sighsOf_81 rfl (lv_at hl 4 rfl) ?_
          refine lv_bipush (v := II 6) C.1 C.2.1 dX8_sighsOf_82 (by decide) ?_
          refine x_icmp_ge (tgt := 94) C gmo ⟨by decide, by decide⟩ dX8_sighsOf_84 (by decide) (fun c84 => ?_) (fun c84 => ?_)
          · refine lv_iload_n C.1 C.2.1 dX8_sighsOf_94 rfl (lv_at hl 1 rfl) ?_
            refine x_if_ne (tgt := 103) C ⟨by have := g_M (74000 + pq); have := ((hM.2.1.1 pq (by omega) (by omega)).1); omega, by have := g_M (74000 + pq); have := ((hM.2.1.1 pq (by omega) (by omega)).1); omega⟩ dX8_sighsOf_95 (by decide) (fun c95 => ?_) (fun c95 => ?_)
            · refine lv_iconst (v := II 0) C.1 C.2.1 dX8_sighsOf_103 rfl ?_
              exact x_ireturn C hr hlk hw hS ⟨by decide, by decide⟩ rfl ⟨by unfold sighK wsK; (repeat' split) <;> first | rfl | omega, h13f⟩ dX8_sighsOf_104
            · refine lv_iload C.1 C.2.1 dX8_sighsOf_98 (lv_at hl 0 rfl) ?_
              refine lv_goto (tgt := 104) C.1 C.2.1 dX8_sighsOf_100 (by decide) ?_
              exact x_ireturn C hr hlk hw hS hr19 rfl ⟨by unfold sighK wsK; (repeat' split) <;> first | rfl | omega, h13f⟩ dX8_sighsOf_104
          · refine lv_iconst (v := II 3) C.1 C.2.1 dX8_sighsOf_87 rfl ?_
            refine lv_iload C.1 C.2.1 dX8_sighsOf_88 (lv_at hl 0 rfl) ?_
            refine x_imul C dX8_sighsOf_90 ?_
            refine lv_goto (tgt := 104) C.1 C.2.1 dX8_sighsOf_91 (by decide) ?_
            exact x_ireturn C hr hlk hw hS ⟨by omega, by omega⟩ rfl ⟨by unfold sighK wsK; (repeat' split) <;> first | rfl | omega, h13f⟩ dX8_sighsOf_104
    · refine lv_aload_n C.1 C.2.1 dX8_sighsOf_34 rfl (lv_at hl 2 rfl) ?_
      refine g8 C hw 70 (by omega) rfl 7 (by decide) mw_831 (svi (x := nt) hM13.2.2.2.1.1) dX8_sighsOf_35 ?_
      refine lv_bipush (v := II 10) C.1 C.2.1 dX8_sighsOf_38 (by decide) ?_
      refine lv_aload_n C.1 C.2.1 dX8_sighsOf_40 rfl (lv_at hl 2 rfl) ?_
      refine g8 C hw 70 (by omega) rfl 10 (by decide) mw_834 (svr (hF.2 _)) dX8_sighsOf_41 ?_
      refine lv_iconst (v := II 4) C.1 C.2.1 dX8_sighsOf_44 rfl ?_
      refine lv_iload_n C.1 C.2.1 dX8_sighsOf_45 rfl (lv_at hl 3 rfl) ?_
      refine x_imul C dX8_sighsOf_46 ?_
      refine x_iaload (L := 32) C hw 75 (by omega) rfl rfl (by omega) (by omega) (by decide) (x := v pq 1) ((congrArg (fun z => M13 (1000 * 75 + z)) (by omega)).trans ((hM13.2.1.1 pq (by omega) (by omega)).2.1)) dX8_sighsOf_47 ?_
      refine x_imul C dX8_sighsOf_48 ?_
      refine x_icmp_ge (tgt := 56) C ⟨by have := g_M13 70007; have := hM13.2.2.2.1.1; omega, by have := g_M13 70007; have := hM13.2.2.2.1.1; omega⟩ ⟨by have := g_M13 (75000 + (4 * pq)); have := ((hM13.2.1.1 pq (by omega) (by omega)).2.1); omega, by have := g_M13 (75000 + (4 * pq)); have := ((hM13.2.1.1 pq (by omega) (by omega)).2.1); omega⟩ dX8_sighsOf_49 (by decide) (fun c49 => ?_) (fun c49 => ?_)
      · refine lv_iload_n C.1 C.2.1 dX8_sighsOf_56 rfl (lv_at hl 1 rfl) ?_
        refine lv_iconst (v := II 3) C.1 C.2.1 dX8_sighsOf_57 rfl ?_
        refine x_icmp_ne (tgt := 68) C ⟨by have := g_M (74000 + pq); have := ((hM.2.1.1 pq (by omega) (by omega)).1); omega, by have := g_M (74000 + pq); have := ((hM.2.1.1 pq (by omega) (by omega)).1); omega⟩ ⟨by decide, by decide⟩ dX8_sighsOf_58 (by decide) (fun c58 => ?_) (fun c58 => ?_)
        · refine lv_iload C.1 C.2.1 dX8_sighsOf_68 (lv_at hl 0 rfl) ?_
          exact x_ireturn C hr hlk hw hS hr19 rfl ⟨by unfold sighK wsK; (repeat' split) <;> first | rfl | omega, h13f⟩ dX8_sighsOf_70
        · refine lv_iload C.1 C.2.1 dX8_sighsOf_61 (lv_at hl 0 rfl) ?_
          refine lv_iconst (v := II 2) C.1 C.2.1 dX8_sighsOf_63 rfl ?_
          refine x_idiv C (by omega) hr19 (by omega) ⟨by decide, by decide⟩ dX8_sighsOf_64 ?_
          refine lv_goto (tgt := 70) C.1 C.2.1 dX8_sighsOf_65 (by decide) ?_
          exact x_ireturn C hr hlk hw hS ⟨by omega, by omega⟩ rfl ⟨by unfold sighK wsK; (repeat' split) <;> first | rfl | omega, h13f⟩ dX8_sighsOf_70
      · refine lv_iconst (v := II 0) C.1 C.2.1 dX8_sighsOf_52 rfl ?_
        refine lv_goto (tgt := 70) C.1 C.2.1 dX8_sighsOf_53 (by decide) ?_
        exact x_ireturn C hr hlk hw hS ⟨by decide, by decide⟩ rfl ⟨by unfold sighK wsK; (repeat' split) <;> first | rfl | omega, h13f⟩ dX8_sighsOf_70

set_option maxHeartbeats 4000000 in
set_option maxRecDepth 100000 in
theorem c_X8_swaysOf (l : Launch) (g : Gm) (M : Nat → Int) (hF : LvF g) (n : Nat) (v : Nat → Nat → Int) (nt : Int) (t : Nat) (E : Ev) (gn : Int) (hM : MB M n v nt t E gn) (z0 : Int) (hz0 : M 70012 = z0) (z1 : Int) (hz1 : M 70013 = z1) (z2 : Int) (hz2 : M 70014 = z2) (z3 : Int) (hz3 : M 70015 = z3) (z4 : Int) (hz4 : M 70016 = z4) (z5 : Int) (hz5 : M 70017 = z5) (pq : Nat) (hp : pq < n ∧ (pq : Int) ≠ gn) (h5 : 0 ≤ z5 ∧ z5 ≤ 8) : CI l ({ cls := "RatedBySighsModel", name := "swaysOf", desc := "(I)I" } : Jvm.MethodName) cX8_swaysOf 5 .int (rmm 42 930) g M [.ref (gA g 70), .int (II (pq : Int))] (fun r M' => r = swayK (v pq 0) (v pq 1) (bnd (E 1 z0 z1 z2 z3 z4 z5) (-9) 9) z5 ∧ (MR M M')) := by
  refine c_start (by decide) (Nat.le_of_ble_eq_true rfl) (fun p e s m below meth c ls C hr hlk hml hw hS hl => ?_)
  have hl : lv_has ls 5 [(0, .ref (gA g 70)), (1, .int (II (pq : Int)))] := hl
  have g_M := hw.rg
  have hN : gN g = 84 := hF.1
  have hn2 := hM.1.2
  have hp1 := hp.1
  have hp2 := hp.2
  have hq0 := hM.2.2.1 pq hp1
  have hnt := hM.2.2.2.1.2
  refine lv_aload_n C.1 C.2.1 dX8_swaysOf_0 rfl (lv_at hl 0 rfl) ?_
  refine g8 C hw 70 (by omega) rfl 9 (by decide) mw_833 (svr (hF.2 _)) dX8_swaysOf_1 ?_
  refine lv_iload_n C.1 C.2.1 dX8_swaysOf_4 rfl (lv_at hl 1 rfl) ?_
  refine x_iaload (L := 8) C hw 74 (by omega) rfl rfl (by omega) (by omega) (by decide) (x := v pq 0) ((hM.2.1.1 pq (by omega) (by omega)).1) dX8_swaysOf_5 ?_
  refine lv_istore_n (lv' := [(2, .int (II (v pq 0))), (0, .ref (gA g 70)), (1, .int (II (pq : Int)))]) C.1 C.2.1 dX8_swaysOf_6 rfl hl (by decide) rfl (fun ls hl => ?_)
  refine lv_aload_n C.1 C.2.1 dX8_swaysOf_7 rfl (lv_at hl 1 rfl) ?_
  refine lv_aload_n C.1 C.2.1 dX8_swaysOf_8 rfl (lv_at hl 1 rfl) ?_
  refine g8 C hw 70 (by omega) rfl 4 (by decide) mw_828 (svi (x := (t : Int)) hM.2.2.2.2.1.1) dX8_swaysOf_9 ?_
  refine lv_iconst (v := II 1) C.1 C.2.1 dX8_swaysOf_12 rfl ?_
  refine x_ci (x_runV (n := 2) C hw hS hml hl.1 70 8 (by omega) rfl (by decide) rfl (c_X8_readE l g M hF t 1 (by decide) E hM.2.2.2.2.2.1 z0 hz0 z1 hz1 z2 hz2 z3 hz3 z4 hz4 z5 hz5) mw_999 mw_1001 mw_59 mw_130 mw_1002 rfl rfl (by decide +kernel) ⟨Nat.le_of_ble_eq_true rfl, Nat.le_of_ble_eq_true rfl⟩ rfl rfl (Nat.le_of_ble_eq_true rfl) dX8_swaysOf_13 ⟨Nat.zero_le _, Nat.zero_le _⟩) hS (fun r13 M13 H locs hr13 hp hw hS => ?_)
  obtain ⟨er13, h13f⟩ := hp
  have g_M13 := hw.rg
  rw [er13] at hr13 ⊢
  have hM13 : MB M13 n v nt t E gn := hM.fr (fun m hm => h13f m (by unfold scm at hm; omega))
  refine lv_bipush (v := II (-9)) C.1 C.2.1 dX8_swaysOf_16 (by decide) ?_
  refine lv_bipush (v := II 9) C.1 C.2.1 dX8_swaysOf_18 (by decide) ?_
  refine x_ci (x_runS (n := 3) C hw hS hml hl.1 (c_X8_within l g M13 (E 1 z0 z1 z2 z3 z4 z5) hr13 (-9) ⟨by decide, by decide⟩ 9 ⟨by decide, by decide⟩) mw_1189 mw_1190 mw_130 mw_1191 rfl rfl (by decide +kernel) ⟨Nat.le_of_ble_eq_true rfl, Nat.le_of_ble_eq_true rfl⟩ rfl rfl (Nat.le_of_ble_eq_true rfl) dX8_swaysOf_20 ⟨Nat.zero_le _, Nat.zero_le _⟩) hS (fun r20 M20 H locs hr20 hp hw hS => ?_)
  obtain ⟨em20, er20⟩ := hp
  have hw : Wo g M13 H := em20 ▸ hw
  rw [er20] at hr20 ⊢
  have hb := bnd_in (v := E 1 z0 z1 z2 z3 z4 z5) (lo := -9) (hi := 9) (by decide)
  refine lv_istore_n (lv' := [(3, .int (II (bnd (E 1 z0 z1 z2 z3 z4 z5) (-9) 9))), (2, .int (II (v pq 0))), (0, .ref (gA g 70)), (1, .int (II (pq : Int)))]) C.1 C.2.1 dX8_swaysOf_23 rfl hl (by decide) rfl (fun ls hl => ?_)
  refine lv_iload_n C.1 C.2.1 dX8_swaysOf_24 rfl (lv_at hl 0 rfl) ?_
  refine lv_aload_n C.1 C.2.1 dX8_swaysOf_25 rfl (lv_at hl 2 rfl) ?_
  refine g8 C hw 70 (by omega) rfl 17 (by decide) mw_841 (svi (x := z5) ((h13f _ (by omega)).trans hz5)) dX8_swaysOf_26 ?_
  refine x_iadd C dX8_swaysOf_29 ?_
  refine lv_istore (lv' := [(4, .int (II ((bnd (E 1 z0 z1 z2 z3 z4 z5) (-9) 9) + z5))), (3, .int (II (bnd (E 1 z0 z1 z2 z3 z4 z5) (-9) 9))), (2, .int (II (v pq 0))), (0, .ref (gA g 70)), (1, .int (II (pq : Int)))]) C.1 C.2.1 dX8_swaysOf_30 hl (by decide) rfl (fun ls hl => ?_)
  refine lv_iload_n C.1 C.2.1 dX8_swaysOf_32 rfl (lv_at hl 2 rfl) ?_
  refine x_if_ne (tgt := 41) C ⟨by have := g_M (74000 + pq); have := ((hM.2.1.1 pq (by omega) (by omega)).1); omega, by have := g_M (74000 + pq); have := ((hM.2.1.1 pq (by omega) (by omega)).1); omega⟩ dX8_swaysOf_33 (by decide) (fun c33 => ?_) (fun c33 => ?_)
  · refine lv_iload_n C.1 C.2.1 dX8_swaysOf_41 rfl (lv_at hl 2 rfl) ?_
    refine lv_iconst (v := II 1) C.1 C.2.1 dX8_swaysOf_42 rfl ?_
    refine x_icmp_ne (tgt := 50) C ⟨by have := g_M (74000 + pq); have := ((hM.2.1.1 pq (by omega) (by omega)).1); omega, by have := g_M (74000 + pq); have := ((hM.2.1.1 pq (by omega) (by omega)).1); omega⟩ ⟨by decide, by decide⟩ dX8_swaysOf_43 (by decide) (fun c43 => ?_) (fun c43 => ?_)
    · refine lv_iload_n C.1 C.2.1 dX8_swaysOf_50 rfl (lv_at hl 2 rfl) ?_
      refine lv_iconst (v := II 2) C.1 C.2.1 dX8_swaysOf_51 rfl ?_
      refine x_icmp_ne (tgt := 62) C ⟨by have := g_M (74000 + pq); have := ((hM.2.1.1 pq (by omega) (by omega)).1); omega, by have := g_M (74000 + pq); have := ((hM.2.1.1 pq (by omega) (by omega)).1); omega⟩ ⟨by decide, by decide⟩ dX8_swaysOf_52 (by decide) (fun c52 => ?_) (fun c52 => ?_)
      · refine lv_iload_n C.1 C.2.1 dX8_swaysOf_62 rfl (lv_at hl 2 rfl) ?_
        refine lv_iconst (v := II 3) C.1 C.2.1 dX8_swaysOf_63 rfl ?_
        refine x_icmp_ne (tgt := 73) C ⟨by have := g_M (74000 + pq); have := ((hM.2.1.1 pq (by omega) (by omega)).1); omega, by have := g_M (74000 + pq); have := ((hM.2.1.1 pq (by omega) (by omega)).1); omega⟩ ⟨by decide, by decide⟩ dX8_swaysOf_64 (by decide) (fun c64 => ?_) (fun c64 => ?_)
        · refine lv_iload_n C.1 C.2.1 dX8_swaysOf_73 rfl (lv_at hl 2 rfl) ?_
          refine lv_iconst (v := II 4) C.1 C.2.1 dX8_swaysOf_74 rfl ?_
          refine x_icmp_ne (tgt := 94) C ⟨by have := g_M (74000 + pq); have := ((hM.2.1.1 pq (by omega) (by omega)).1); omega, by have := g_M (74000 + pq); have := ((hM.2.1.1 pq (by omega) (by omega)).1); omega⟩ ⟨by decide, by decide⟩ dX8_swaysOf_75 (by decide) (fun c75 => ?_) (fun c75 => ?_)
          · refine lv_iconst (v := II 0) C.1 C.2.1 dX8_swaysOf_94 rfl ?_
            exact x_ireturn C hr hlk hw hS ⟨by decide, by decide⟩ rfl ⟨by unfold swayK; (repeat' split) <;> first | rfl | omega, h13f⟩ dX8_swaysOf_95
          · refine lv_iconst (v := II 2) C.1 C.2.1 dX8_swaysOf_78 rfl ?_
            refine lv_iload C.1 C.2.1 dX8_swaysOf_79 (lv_at hl 0 rfl) ?_
            refine x_imul C dX8_swaysOf_81 ?_
            refine lv_aload_n C.1 C.2.1 dX8_swaysOf_82 rfl (lv_at hl 3 rfl) ?_
            refine g8 C hw 70 (by omega) rfl 10 (by decide) mw_834 (svr (hF.2 _)) dX8_swaysOf_83 ?_
            refine lv_iconst (v := II 4) C.1 C.2.1 dX8_swaysOf_86 rfl ?_
            refine lv_iload_n C.1 C.2.1 dX8_swaysOf_87 rfl (lv_at hl 4 rfl) ?_
            refine x_imul C dX8_swaysOf_88 ?_
            refine x_iaload (L := 32) C hw 75 (by omega) rfl rfl (by omega) (by omega) (by decide) (x := v pq 1) ((congrArg (fun z => M13 (1000 * 75 + z)) (by omega)).trans ((hM13.2.1.1 pq (by omega) (by omega)).2.1)) dX8_swaysOf_89 ?_
            refine x_iadd C dX8_swaysOf_90 ?_
            refine lv_goto (tgt := 95) C.1 C.2.1 dX8_swaysOf_91 (by decide) ?_
            exact x_ireturn C hr hlk hw hS ⟨by have := g_M13 70017; have := ((h13f _ (by omega)).trans hz5); have := g_M13 (75000 + (4 * pq)); have := ((hM13.2.1.1 pq (by omega) (by omega)).2.1); omega, by have := g_M13 70017; have := ((h13f _ (by omega)).trans hz5); have := g_M13 (75000 + (4 * pq)); have := ((hM13.2.1.1 pq (by omega) (by omega)).2.1); omega⟩ rfl ⟨by unfold swayK; (repeat' split) <;> first | rfl | omega, h13f⟩ dX8_swaysOf_95
        · refine lv_iload_n C.1 C.2.1 dX8_swaysOf_67 rfl (lv_at hl 1 rfl) ?_
          refine lv_iconst (v := II 1) C.1 C.2.1 dX8_swaysOf_68 rfl ?_
          refine x_isub C dX8_swaysOf_69 ?_
          refine lv_goto (tgt := 95) C.1 C.2.1 dX8_swaysOf_70 (by decide) ?_
          exact x_ireturn C hr hlk hw hS ⟨by omega, by omega⟩ rfl ⟨by unfold swayK; (repeat' split) <;> first | rfl | omega, h13f⟩ dX8_swaysOf_95
      · refine lv_iconst (v := II 2) C.1 C.2.1 dX8_swaysOf_55 rfl ?_
        refine lv_iload C.1 C.2.1 dX8_swaysOf_56 (lv_at hl 0 rfl) ?_
        refine x_imul C dX8_swaysOf_58 ?_
        refine lv_goto (tgt := 95) C.1 C.2.1 dX8_swaysOf_59 (by decide) ?_
        exact x_ireturn C hr hlk hw hS ⟨by have := g_M13 70017; have := ((h13f _ (by omega)).trans hz5); omega, by have := g_M13 70017; have := ((h13f _ (by omega)).trans hz5); omega⟩ rfl ⟨by unfold swayK; (repeat' split) <;> first | rfl | omega, h13f⟩ dX8_swaysOf_95
    · refine lv_iload_n C.1 C.2.1 dX8_swaysOf_46 rfl (lv_at hl 1 rfl) ?_
      refine lv_goto (tgt := 95) C.1 C.2.1 dX8_swaysOf_47 (by decide) ?_
      exact x_ireturn C hr hlk hw hS hr20 rfl ⟨by unfold swayK; (repeat' split) <;> first | rfl | omega, h13f⟩ dX8_swaysOf_95
  · refine lv_iload C.1 C.2.1 dX8_swaysOf_36 (lv_at hl 0 rfl) ?_
    refine lv_goto (tgt := 95) C.1 C.2.1 dX8_swaysOf_38 (by decide) ?_
    exact x_ireturn C hr hlk hw hS ⟨by have := g_M13 70017; have := ((h13f _ (by omega)).trans hz5); omega, by have := g_M13 70017; have := ((h13f _ (by omega)).trans hz5); omega⟩ rfl ⟨by unfold swayK; (repeat' split) <;> first | rfl | omega, h13f⟩ dX8_swaysOf_95

set_option maxHeartbeats 4000000 in
set_option maxRecDepth 100000 in
theorem c_X8_isExempt (l : Launch) (g : Gm) (M : Nat → Int) (hF : LvF g) (n : Nat) (v : Nat → Nat → Int) (nt : Int) (t : Nat) (E : Ev) (gn : Int) (hM : MB M n v nt t E gn) (pq : Nat) (hp : pq < n ∧ (pq : Int) ≠ gn) : CI l ({ cls := "RatedBySighsModel", name := "isExempt", desc := "(I)Z" } : Jvm.MethodName) cX8_isExempt 3 .boolean (rmm 0 0) g M [.ref (gA g 70), .int (II (pq : Int))] (fun r M' => M' = M ∧ ((r = 1 ∧ (exB (v pq 0) (v pq 1) nt = true)) ∨ (r = 0 ∧ (exB (v pq 0) (v pq 1) nt = false)))) := by
  refine c_start (by decide) (Nat.le_of_ble_eq_true rfl) (fun p e s m below meth c ls C hr hlk hml hw hS hl => ?_)
  have hl : lv_has ls 3 [(0, .ref (gA g 70)), (1, .int (II (pq : Int)))] := hl
  have g_M := hw.rg
  have hN : gN g = 84 := hF.1
  have hn2 := hM.1.2
  have hp1 := hp.1
  have hp2 := hp.2
  have hq0 := hM.2.2.1 pq hp1
  have hnt := hM.2.2.2.1.2
  refine lv_aload_n C.1 C.2.1 dX8_isExempt_0 rfl (lv_at hl 0 rfl) ?_
  refine g8 C hw 70 (by omega) rfl 9 (by decide) mw_833 (svr (hF.2 _)) dX8_isExempt_1 ?_
  refine lv_iload_n C.1 C.2.1 dX8_isExempt_4 rfl (lv_at hl 1 rfl) ?_
  refine x_iaload (L := 8) C hw 74 (by omega) rfl rfl (by omega) (by omega) (by decide) (x := v pq 0) ((hM.2.1.1 pq (by omega) (by omega)).1) dX8_isExempt_5 ?_
  refine lv_istore_n (lv' := [(2, .int (II (v pq 0))), (0, .ref (gA g 70)), (1, .int (II (pq : Int)))]) C.1 C.2.1 dX8_isExempt_6 rfl hl (by decide) rfl (fun ls hl => ?_)
  refine lv_iload_n C.1 C.2.1 dX8_isExempt_7 rfl (lv_at hl 0 rfl) ?_
  refine lv_iconst (v := II 5) C.1 C.2.1 dX8_isExempt_8 rfl ?_
  refine x_icmp_eq (tgt := 49) C ⟨by have := g_M (74000 + pq); have := ((hM.2.1.1 pq (by omega) (by omega)).1); omega, by have := g_M (74000 + pq); have := ((hM.2.1.1 pq (by omega) (by omega)).1); omega⟩ ⟨by decide, by decide⟩ dX8_isExempt_9 (by decide) (fun c9 => ?_) (fun c9 => ?_)
  · refine lv_iconst (v := II 1) C.1 C.2.1 dX8_isExempt_49 rfl ?_
    refine lv_goto (tgt := 54) C.1 C.2.1 dX8_isExempt_50 (by decide) ?_
    exact x_ireturn C hr hlk hw hS ⟨by decide, by decide⟩ (by decide) ⟨rfl, Or.inl ⟨rfl, exB_t (by unfold exK; omega)⟩⟩ dX8_isExempt_54
  · refine lv_iload_n C.1 C.2.1 dX8_isExempt_12 rfl (lv_at hl 0 rfl) ?_
    refine lv_iconst (v := II 1) C.1 C.2.1 dX8_isExempt_13 rfl ?_
    refine x_icmp_eq (tgt := 22) C ⟨by have := g_M (74000 + pq); have := ((hM.2.1.1 pq (by omega) (by omega)).1); omega, by have := g_M (74000 + pq); have := ((hM.2.1.1 pq (by omega) (by omega)).1); omega⟩ ⟨by decide, by decide⟩ dX8_isExempt_14 (by decide) (fun c14 => ?_) (fun c14 => ?_)
    · refine lv_aload_n C.1 C.2.1 dX8_isExempt_22 rfl (lv_at hl 1 rfl) ?_
      refine g8 C hw 70 (by omega) rfl 10 (by decide) mw_834 (svr (hF.2 _)) dX8_isExempt_23 ?_
      refine lv_iconst (v := II 4) C.1 C.2.1 dX8_isExempt_26 rfl ?_
      refine lv_iload_n C.1 C.2.1 dX8_isExempt_27 rfl (lv_at hl 2 rfl) ?_
      refine x_imul C dX8_isExempt_28 ?_
      refine x_iaload (L := 32) C hw 75 (by omega) rfl rfl (by omega) (by omega) (by decide) (x := v pq 1) ((congrArg (fun z => M (1000 * 75 + z)) (by omega)).trans ((hM.2.1.1 pq (by omega) (by omega)).2.1)) dX8_isExempt_29 ?_
      refine lv_iconst (v := II 4) C.1 C.2.1 dX8_isExempt_30 rfl ?_
      refine x_icmp_gt (tgt := 49) C ⟨by have := g_M (75000 + (4 * pq)); have := ((hM.2.1.1 pq (by omega) (by omega)).2.1); omega, by have := g_M (75000 + (4 * pq)); have := ((hM.2.1.1 pq (by omega) (by omega)).2.1); omega⟩ ⟨by decide, by decide⟩ dX8_isExempt_31 (by decide) (fun c31 => ?_) (fun c31 => ?_)
      · refine lv_iconst (v := II 1) C.1 C.2.1 dX8_isExempt_49 rfl ?_
        refine lv_goto (tgt := 54) C.1 C.2.1 dX8_isExempt_50 (by decide) ?_
        exact x_ireturn C hr hlk hw hS ⟨by decide, by decide⟩ (by decide) ⟨rfl, Or.inl ⟨rfl, exB_t (by unfold exK; omega)⟩⟩ dX8_isExempt_54
      · refine lv_iload_n C.1 C.2.1 dX8_isExempt_34 rfl (lv_at hl 0 rfl) ?_
        refine lv_iconst (v := II 3) C.1 C.2.1 dX8_isExempt_35 rfl ?_
        refine x_icmp_ne (tgt := 53) C ⟨by have := g_M (74000 + pq); have := ((hM.2.1.1 pq (by omega) (by omega)).1); omega, by have := g_M (74000 + pq); have := ((hM.2.1.1 pq (by omega) (by omega)).1); omega⟩ ⟨by decide, by decide⟩ dX8_isExempt_36 (by decide) (fun c36 => ?_) (fun c36 => ?_)
        · refine lv_iconst (v := II 0) C.1 C.2.1 dX8_isExempt_53 rfl ?_
          exact x_ireturn C hr hlk hw hS ⟨by decide, by decide⟩ (by decide) ⟨rfl, Or.inr ⟨rfl, exB_f (by unfold exK; omega)⟩⟩ dX8_isExempt_54
        · refine lv_aload_n C.1 C.2.1 dX8_isExempt_39 rfl (lv_at hl 1 rfl) ?_
          refine g8 C hw 70 (by omega) rfl 7 (by decide) mw_831 (svi (x := nt) hM.2.2.2.1.1) dX8_isExempt_40 ?_
          refine lv_iconst (v := II 2) C.1 C.2.1 dX8_isExempt_43 rfl ?_
          refine x_irem C (by omega) ⟨by have := g_M 70007; have := hM.2.2.2.1.1; omega, by have := g_M 70007; have := hM.2.2.2.1.1; omega⟩ (by omega) ⟨by decide, by decide⟩ dX8_isExempt_44 ?_
          refine lv_iconst (v := II 1) C.1 C.2.1 dX8_isExempt_45 rfl ?_
          refine x_icmp_ne (tgt := 53) C ⟨by omega, by omega⟩ ⟨by decide, by decide⟩ dX8_isExempt_46 (by decide) (fun c46 => ?_) (fun c46 => ?_)
          · refine lv_iconst (v := II 0) C.1 C.2.1 dX8_isExempt_53 rfl ?_
            exact x_ireturn C hr hlk hw hS ⟨by decide, by decide⟩ (by decide) ⟨rfl, Or.inr ⟨rfl, exB_f (by unfold exK; omega)⟩⟩ dX8_isExempt_54
          · refine lv_iconst (v := II 1) C.1 C.2.1 dX8_isExempt_49 rfl ?_
            refine lv_goto (tgt := 54) C.1 C.2.1 dX8_isExempt_50 (by decide) ?_
            exact x_ireturn C hr hlk hw hS ⟨by decide, by decide⟩ (by decide) ⟨rfl, Or.inl ⟨rfl, exB_t (by unfold exK; omega)⟩⟩ dX8_isExempt_54
    · refine lv_iload_n C.1 C.2.1 dX8_isExempt_17 rfl (lv_at hl 0 rfl) ?_
      refine lv_iconst (v := II 3) C.1 C.2.1 dX8_isExempt_18 rfl ?_
      refine x_icmp_ne (tgt := 34) C ⟨by have := g_M (74000 + pq); have := ((hM.2.1.1 pq (by omega) (by omega)).1); omega, by have := g_M (74000 + pq); have := ((hM.2.1.1 pq (by omega) (by omega)).1); omega⟩ ⟨by decide, by decide⟩ dX8_isExempt_19 (by decide) (fun c19 => ?_) (fun c19 => ?_)
      · refine lv_iload_n C.1 C.2.1 dX8_isExempt_34 rfl (lv_at hl 0 rfl) ?_
        refine lv_iconst (v := II 3) C.1 C.2.1 dX8_isExempt_35 rfl ?_
        refine x_icmp_ne (tgt := 53) C ⟨by have := g_M (74000 + pq); have := ((hM.2.1.1 pq (by omega) (by omega)).1); omega, by have := g_M (74000 + pq); have := ((hM.2.1.1 pq (by omega) (by omega)).1); omega⟩ ⟨by decide, by decide⟩ dX8_isExempt_36 (by decide) (fun c36 => ?_) (fun c36 => ?_)
        · refine lv_iconst (v := II 0) C.1 C.2.1 dX8_isExempt_53 rfl ?_
          exact x_ireturn C hr hlk hw hS ⟨by decide, by decide⟩ (by decide) ⟨rfl, Or.inr ⟨rfl, exB_f (by unfold exK; omega)⟩⟩ dX8_isExempt_54
        · refine lv_aload_n C.1 C.2.1 dX8_isExempt_39 rfl (lv_at hl 1 rfl) ?_
          refine g8 C hw 70 (by omega) rfl 7 (by decide) mw_831 (svi (x := nt) hM.2.2.2.1.1) dX8_isExempt_40 ?_
          refine lv_iconst (v := II 2) C.1 C.2.1 dX8_isExempt_43 rfl ?_
          refine x_irem C (by omega) ⟨by have := g_M 70007; have := hM.2.2.2.1.1; omega, by have := g_M 70007; have := hM.2.2.2.1.1; omega⟩ (by omega) ⟨by decide, by decide⟩ dX8_isExempt_44 ?_
          refine lv_iconst (v := II 1) C.1 C.2.1 dX8_isExempt_45 rfl ?_
          refine x_icmp_ne (tgt := 53) C ⟨by omega, by omega⟩ ⟨by decide, by decide⟩ dX8_isExempt_46 (by decide) (fun c46 => ?_) (fun c46 => ?_)
          · refine lv_iconst (v := II 0) C.1 C.2.1 dX8_isExempt_53 rfl ?_
            exact x_ireturn C hr hlk hw hS ⟨by decide, by decide⟩ (by decide) ⟨rfl, Or.inr ⟨rfl, exB_f (by unfold exK; omega)⟩⟩ dX8_isExempt_54
          · refine lv_iconst (v := II 1) C.1 C.2.1 dX8_isExempt_49 rfl ?_
            refine lv_goto (tgt := 54) C.1 C.2.1 dX8_isExempt_50 (by decide) ?_
            exact x_ireturn C hr hlk hw hS ⟨by decide, by decide⟩ (by decide) ⟨rfl, Or.inl ⟨rfl, exB_t (by unfold exK; omega)⟩⟩ dX8_isExempt_54
      · refine lv_aload_n C.1 C.2.1 dX8_isExempt_22 rfl (lv_at hl 1 rfl) ?_
        refine g8 C hw 70 (by omega) rfl 10 (by decide) mw_834 (svr (hF.2 _)) dX8_isExempt_23 ?_
        refine lv_iconst (v := II 4) C.1 C.2.1 dX8_isExempt_26 rfl ?_
        refine lv_iload_n C.1 C.2.1 dX8_isExempt_27 rfl (lv_at hl 2 rfl) ?_
        refine x_imul C dX8_isExempt_28 ?_
        refine x_iaload (L := 32) C hw 75 (by omega) rfl rfl (by omega) (by omega) (by decide) (x := v pq 1) ((congrArg (fun z => M (1000 * 75 + z)) (by omega)).trans ((hM.2.1.1 pq (by omega) (by omega)).2.1)) dX8_isExempt_29 ?_
        refine lv_iconst (v := II 4) C.1 C.2.1 dX8_isExempt_30 rfl ?_
        refine x_icmp_gt (tgt := 49) C ⟨by have := g_M (75000 + (4 * pq)); have := ((hM.2.1.1 pq (by omega) (by omega)).2.1); omega, by have := g_M (75000 + (4 * pq)); have := ((hM.2.1.1 pq (by omega) (by omega)).2.1); omega⟩ ⟨by decide, by decide⟩ dX8_isExempt_31 (by decide) (fun c31 => ?_) (fun c31 => ?_)
        · refine lv_iconst (v := II 1) C.1 C.2.1 dX8_isExempt_49 rfl ?_
          refine lv_goto (tgt := 54) C.1 C.2.1 dX8_isExempt_50 (by decide) ?_
          exact x_ireturn C hr hlk hw hS ⟨by decide, by decide⟩ (by decide) ⟨rfl, Or.inl ⟨rfl, exB_t (by unfold exK; omega)⟩⟩ dX8_isExempt_54
        · refine lv_iload_n C.1 C.2.1 dX8_isExempt_34 rfl (lv_at hl 0 rfl) ?_
          refine lv_iconst (v := II 3) C.1 C.2.1 dX8_isExempt_35 rfl ?_
          refine x_icmp_ne (tgt := 53) C ⟨by have := g_M (74000 + pq); have := ((hM.2.1.1 pq (by omega) (by omega)).1); omega, by have := g_M (74000 + pq); have := ((hM.2.1.1 pq (by omega) (by omega)).1); omega⟩ ⟨by decide, by decide⟩ dX8_isExempt_36 (by decide) (fun c36 => ?_) (fun c36 => ?_)
          · refine lv_iconst (v := II 0) C.1 C.2.1 dX8_isExempt_53 rfl ?_
            exact x_ireturn C hr hlk hw hS ⟨by decide, by decide⟩ (by decide) ⟨rfl, Or.inr ⟨rfl, exB_f (by unfold exK; omega)⟩⟩ dX8_isExempt_54
          · refine lv_aload_n C.1 C.2.1 dX8_isExempt_39 rfl (lv_at hl 1 rfl) ?_
            refine g8 C hw 70 (by omega) rfl 7 (by decide) mw_831 (svi (x := nt) hM.2.2.2.1.1) dX8_isExempt_40 ?_
            refine lv_iconst (v := II 2) C.1 C.2.1 dX8_isExempt_43 rfl ?_
            refine x_irem C (by omega) ⟨by have := g_M 70007; have := hM.2.2.2.1.1; omega, by have := g_M 70007; have := hM.2.2.2.1.1; omega⟩ (by omega) ⟨by decide, by decide⟩ dX8_isExempt_44 ?_
            refine lv_iconst (v := II 1) C.1 C.2.1 dX8_isExempt_45 rfl ?_
            refine x_icmp_ne (tgt := 53) C ⟨by omega, by omega⟩ ⟨by decide, by decide⟩ dX8_isExempt_46 (by decide) (fun c46 => ?_) (fun c46 => ?_)
            · refine lv_iconst (v := II 0) C.1 C.2.1 dX8_isExempt_53 rfl ?_
              exact x_ireturn C hr hlk hw hS ⟨by decide, by decide⟩ (by decide) ⟨rfl, Or.inr ⟨rfl, exB_f (by unfold exK; omega)⟩⟩ dX8_isExempt_54
            · refine lv_iconst (v := II 1) C.1 C.2.1 dX8_isExempt_49 rfl ?_
              refine lv_goto (tgt := 54) C.1 C.2.1 dX8_isExempt_50 (by decide) ?_
              exact x_ireturn C hr hlk hw hS ⟨by decide, by decide⟩ (by decide) ⟨rfl, Or.inl ⟨rfl, exB_t (by unfold exK; omega)⟩⟩ dX8_isExempt_54

set_option maxHeartbeats 4000000 in
set_option maxRecDepth 100000 in
theorem c_X8_gathers (l : Launch) (g : Gm) (M : Nat → Int) (hF : LvF g) (n : Nat) (v : Nat → Nat → Int) (nt : Int) (t : Nat) (E : Ev) (gn : Int) (hM : MB M n v nt t E gn) : CV l ({ cls := "RatedBySighsModel", name := "gathers", desc := "()V" } : Jvm.MethodName) cX8_gathers 5 (rmm 43 954) g M [.ref (gA g 70)] (fun M' => (∀ pq, pq < n → (pq : Int) ≠ gn → ∀ h, h < 6 → M' (76000 + (6 * pq + h)) = moodA v n E pq h ∧ M' (77000 + (6 * pq + h)) = sighA v n nt E pq h) ∧ (∀ m, ¬ scm m → M' m = M m)) := by
  refine c_start (by decide) (Nat.le_of_ble_eq_true rfl) (fun p e s m below meth c ls C hr hlk hml hw hS hl => ?_)
  have hl : lv_has ls 5 [(0, .ref (gA g 70))] := hl
  generalize ([.ref (gA g 70)] : List Value).toArray = args at C ⊢
  generalize hQQ : MQ below (postV g (fun M' => (∀ pq, pq < n → (pq : Int) ≠ gn → ∀ h, h < 6 → M' (76000 + (6 * pq + h)) = moodA v n E pq h ∧ M' (77000 + (6 * pq + h)) = sighA v n nt E pq h) ∧ (∀ m, ¬ scm m → M' m = M m))) args s 0 0 (ar g) = QQ
  have g_M := hw.rg
  have hN : gN g = 84 := hF.1
  have hn2 := hM.1.2
  refine lv_iconst (v := II 0) C.1 C.2.1 dX8_gathers_0 rfl ?_
  refine lv_istore_n (lv' := [(1, .int (II 0)), (0, .ref (gA g 70))]) C.1 C.2.1 dX8_gathers_1 rfl hl (by decide) rfl (fun ls hl => ?_)
  have L2 : ∀ (f1 : Nat) (pq : Nat) (M2 : Nat → Int), (n - pq) < f1 → (pq ≤ n) → (∀ j, j < pq → (j : Int) ≠ gn → ∀ h, h < 6 → M2 (76000 + (6 * j + h)) = moodA v n E j h ∧ M2 (77000 + (6 * j + h)) = sighA v n nt E j h) → (∀ m, ¬ scm m → M2 m = M m) → ∀ (H : Heap) (locs : List Loc) (ls : Array Slot), Wo g M2 H → va_S (ar g) s.heap H locs → lv_has ls 5 [(0, .ref (gA g 70)), (1, .int (II (pq : Int)))] → W p l e (rmm 43 954) s m args below meth c H locs 0 0 QQ (F0 m 2 ls []) := by
    intro f1
    induction f1 with
    | zero => intro pq M2 hmu; exact absurd hmu (Nat.not_lt_zero _)
    | succ f1 ih =>
      intro pq M2 hmu h1 hA hf H locs ls hw hS hl
      have ih2 := ih
      have g_M2 := hw.rg
      have hM2 : MB M2 n v nt t E gn := hM.fr hf
      refine lv_iload_n C.1 C.2.1 dX8_gathers_2 rfl (lv_at hl 1 rfl) ?_
      refine lv_aload_n C.1 C.2.1 dX8_gathers_3 rfl (lv_at hl 0 rfl) ?_
      refine g8 C hw 70 (by omega) rfl 11 (by decide) mw_835 (svi (x := (n : Int)) hM2.1.1) dX8_gathers_4 ?_
      refine x_icmp_ge (tgt := 120) C ⟨by omega, by omega⟩ ⟨by have := g_M2 70011; have := hM2.1.1; omega, by have := g_M2 70011; have := hM2.1.1; omega⟩ dX8_gathers_7 (by decide) (fun c7 => ?_) (fun c7 => ?_)
      · subst hQQ; exact x_return C hr hlk hw hS (by have e : pq = n := (by omega); subst e; exact ⟨hA, hf⟩) dX8_gathers_120
      · have hq0 := hM.2.2.1 pq (by omega)
        refine lv_aload_n C.1 C.2.1 dX8_gathers_10 rfl (lv_at hl 0 rfl) ?_
        refine g8 C hw 70 (by omega) rfl 10 (by decide) mw_834 (svr (hF.2 _)) dX8_gathers_11 ?_
        refine lv_iconst (v := II 4) C.1 C.2.1 dX8_gathers_14 rfl ?_
        refine lv_iload_n C.1 C.2.1 dX8_gathers_15 rfl (lv_at hl 1 rfl) ?_
        refine x_imul C dX8_gathers_16 ?_
        refine lv_iconst (v := II 2) C.1 C.2.1 dX8_gathers_17 rfl ?_
        refine x_iadd C dX8_gathers_18 ?_
        refine x_iaload (L := 32) C hw 75 (by omega) rfl rfl (by omega) (by omega) (by decide) (x := M2 (75000 + (4 * pq + 2))) (congrArg (fun z => M2 (1000 * 75 + z)) (by omega)) dX8_gathers_19 ?_
        refine lv_istore_n (lv' := [(2, .int (II (M2 (75000 + (4 * pq + 2))))), (0, .ref (gA g 70)), (1, .int (II (pq : Int)))]) C.1 C.2.1 dX8_gathers_20 rfl hl (by decide) rfl (fun ls hl => ?_)
        refine lv_iconst (v := II 0) C.1 C.2.1 dX8_gathers_21 rfl ?_
        refine lv_istore_n (lv' := [(3, .int (II 0)), (2, .int (II (M2 (75000 + (4 * pq + 2))))), (0, .ref (gA g 70)), (1, .int (II (pq : Int)))]) C.1 C.2.1 dX8_gathers_22 rfl hl (by decide) rfl (fun ls hl => ?_)
        have L23 : ∀ (f2 : Nat) (h : Nat) (mo : Int) (M3 : Nat → Int), (6 - h) < f2 → (h ≤ 6) → (-20 ≤ mo ∧ mo ≤ 20) → ((pq : Int) ≠ gn → mo = moodA v n E pq h) → (∀ j, j < pq → (j : Int) ≠ gn → ∀ h, h < 6 → M3 (76000 + (6 * j + h)) = moodA v n E j h ∧ M3 (77000 + (6 * j + h)) = sighA v n nt E j h) → ((pq : Int) ≠ gn → ∀ x, x < h → M3 (76000 + (6 * pq + x)) = moodA v n E pq x ∧ M3 (77000 + (6 * pq + x)) = sighA v n nt E pq x) → (∀ m, ¬ scm m → M3 m = M m) → ∀ (H : Heap) (locs : List Loc) (ls : Array Slot), Wo g M3 H → va_S (ar g) s.heap H locs → lv_has ls 5 [(0, .ref (gA g 70)), (1, .int (II (pq : Int))), (2, .int (II mo)), (3, .int (II (h : Int)))] → W p l e (rmm 43 954) s m args below meth c H locs 0 0 QQ (F0 m 23 ls []) := by
          intro f2
          induction f2 with
          | zero => intro h mo M3 hmu; exact absurd hmu (Nat.not_lt_zero _)
          | succ f2 ih =>
            intro h mo M3 hmu h7 hmr hmoo hA3 hB3 hf3 H locs ls hw hS hl
            have ih23 := ih
            have g_M3 := hw.rg
            have hM3 : MB M3 n v nt t E gn := hM.fr hf3
            refine lv_iload_n C.1 C.2.1 dX8_gathers_23 rfl (lv_at hl 3 rfl) ?_
            refine lv_bipush (v := II 6) C.1 C.2.1 dX8_gathers_24 (by decide) ?_
            refine x_icmp_ge (tgt := 114) C ⟨by omega, by omega⟩ ⟨by decide, by decide⟩ dX8_gathers_26 (by decide) (fun c26 => ?_) (fun c26 => ?_)
            · refine lv_iinc (v := II ((pq : Int) + 1)) (lv' := [(1, .int (II ((pq : Int) + 1))), (0, .ref (gA g 70)), (2, .int (II mo)), (3, .int (II (h : Int)))]) C.1 C.2.1 dX8_gathers_114 hl (k := 1) rfl (II_add _ _) (by decide) rfl (fun ls hl => ?_)
              refine lv_goto (tgt := 2) C.1 C.2.1 dX8_gathers_117 (by decide) ?_
              exact ih2  (pq + 1) M3 (by omega) (by omega) (fun j hj hg x hx => by
      by_cases e : j = pq
      · subst e; exact hB3 hg x (by omega)
      · exact hA3 j (by omega) hg x hx) hf3 _ _ _ hw hS (lv_sub hl [1, 0] rfl)
            · refine lv_aload_n C.1 C.2.1 dX8_gathers_29 rfl (lv_at hl 0 rfl) ?_
              refine g8 C hw 70 (by omega) rfl 28 (by decide) mw_852 (svr (hF.2 _)) dX8_gathers_30 ?_
              refine lv_bipush (v := II 6) C.1 C.2.1 dX8_gathers_33 (by decide) ?_
              refine lv_iload_n C.1 C.2.1 dX8_gathers_35 rfl (lv_at hl 1 rfl) ?_
              refine x_imul C dX8_gathers_36 ?_
              refine lv_iload_n C.1 C.2.1 dX8_gathers_37 rfl (lv_at hl 3 rfl) ?_
              refine x_iadd C dX8_gathers_38 ?_
              refine lv_iload_n C.1 C.2.1 dX8_gathers_39 rfl (lv_at hl 2 rfl) ?_
              refine x_iastore (L := 48) C hw hS 76 (by omega) rfl rfl (by omega) (by omega) (by decide) (x := mo) ⟨by omega, by omega⟩ dX8_gathers_40 (fun H locs hw hS => ?_)
              have hw : Wo g (stM M3 (76000 + ((6 * pq) + h)) mo) H := by rw [show 1000 * 76 + ((6 * (pq : Int)) + (h : Int)).toNat = 76000 + ((6 * pq) + h) from by omega] at hw; exact hw
              refine lv_aload_n C.1 C.2.1 dX8_gathers_41 rfl (lv_at hl 0 rfl) ?_
              refine g8 C hw 70 (by omega) rfl 29 (by decide) mw_853 (svr (hF.2 _)) dX8_gathers_42 ?_
              refine lv_bipush (v := II 6) C.1 C.2.1 dX8_gathers_45 (by decide) ?_
              refine lv_iload_n C.1 C.2.1 dX8_gathers_47 rfl (lv_at hl 1 rfl) ?_
              refine x_imul C dX8_gathers_48 ?_
              refine lv_iload_n C.1 C.2.1 dX8_gathers_49 rfl (lv_at hl 3 rfl) ?_
              refine x_iadd C dX8_gathers_50 ?_
              refine lv_iconst (v := II 0) C.1 C.2.1 dX8_gathers_51 rfl ?_
              refine x_iastore (L := 48) C hw hS 77 (by omega) rfl rfl (by omega) (by omega) (by decide) (x := 0) ⟨by decide, by decide⟩ dX8_gathers_52 (fun H locs hw hS => ?_)
              have hw : Wo g (stM (stM M3 (76000 + ((6 * pq) + h)) mo) (77000 + ((6 * pq) + h)) 0) H := by rw [show 1000 * 77 + ((6 * (pq : Int)) + (h : Int)).toNat = 77000 + ((6 * pq) + h) from by omega] at hw; exact hw
              refine lv_iconst (v := II 1) C.1 C.2.1 dX8_gathers_53 rfl ?_
              refine lv_istore (lv' := [(4, .int (II 1)), (0, .ref (gA g 70)), (1, .int (II (pq : Int))), (2, .int (II mo)), (3, .int (II (h : Int)))]) C.1 C.2.1 dX8_gathers_54 hl (by decide) rfl (fun ls hl => ?_)
              refine lv_aload_n C.1 C.2.1 dX8_gathers_56 rfl (lv_at hl 1 rfl) ?_
              refine lv_iload_n C.1 C.2.1 dX8_gathers_57 rfl (lv_at hl 2 rfl) ?_
              refine lv_iload_n C.1 C.2.1 dX8_gathers_58 rfl (lv_at hl 4 rfl) ?_
              refine x_ci (x_runV (n := 2) C hw hS hml hl.1 70 8 (by omega) rfl (by decide) rfl (c_X8_isIn l g (stM (stM M3 (76000 + ((6 * pq) + h)) mo) (77000 + ((6 * pq) + h)) 0) hF n v nt t E gn (hM3.fr (fun m hm => by unfold scm at hm; rw [st_n (by omega), st_n (by omega)])) pq (by omega) h (by omega)) mw_983 mw_985 mw_55 mw_130 mw_986 rfl rfl (by decide +kernel) ⟨Nat.le_of_ble_eq_true rfl, Nat.le_of_ble_eq_true rfl⟩ rfl rfl (Nat.le_of_ble_eq_true rfl) dX8_gathers_59 ⟨Nat.zero_le _, Nat.zero_le _⟩) hS (fun r59 M59 H locs hr59 hp hw hS => ?_)
              rcases hp with ⟨em59, (⟨er59, h59b⟩ | ⟨er59, h59b⟩)⟩
              · have hw : Wo g (stM (stM M3 (76000 + ((6 * pq) + h)) mo) (77000 + ((6 * pq) + h)) 0) H := em59 ▸ hw
                rw [er59]
                refine x_if_eq (tgt := 96) C ⟨by decide, by decide⟩ dX8_gathers_62 (by decide) (fun h => absurd h (by decide)) (fun _ => ?_)
                obtain ⟨hne, hin⟩ := h59b
                have hmo := hmoo hne
                have ho1 : 0 ≤ othr v n pq h ∧ othr v n pq h ≤ n := cnt_in _ _
                have hf1 : 0 ≤ fool v n pq h ∧ fool v n pq h ≤ n := cnt_in _ _
                refine lv_aload_n C.1 C.2.1 dX8_gathers_65 rfl (lv_at hl 1 rfl) ?_
                refine lv_iload_n C.1 C.2.1 dX8_gathers_66 rfl (lv_at hl 2 rfl) ?_
                refine lv_iload_n C.1 C.2.1 dX8_gathers_67 rfl (lv_at hl 4 rfl) ?_
                refine lv_iload_n C.1 C.2.1 dX8_gathers_68 rfl (lv_at hl 3 rfl) ?_
                refine x_cv (x_runV (n := 3) C hw hS hml hl.1 70 8 (by omega) rfl (by decide) rfl (c_X8_looks l g (stM (stM M3 (76000 + ((6 * pq) + h)) mo) (77000 + ((6 * pq) + h)) 0) hF n v nt t E gn (hM3.fr (fun m hm => by unfold scm at hm; rw [st_n (by omega), st_n (by omega)])) pq ⟨by omega, hne⟩ h (by omega) mo ⟨by omega, by omega⟩) mw_987 mw_989 mw_56 mw_130 mw_990 rfl rfl (by decide +kernel) ⟨Nat.le_of_ble_eq_true rfl, Nat.le_of_ble_eq_true rfl⟩ rfl rfl (Nat.le_of_ble_eq_true rfl) dX8_gathers_69 ⟨Nat.zero_le _, Nat.zero_le _⟩) hS (fun M69 H locs hp hw hS => ?_)
                have em69 := hp
                have hw : Wo g (stM (stM (stM (stM (stM (stM (stM (stM M3 (76000 + ((6 * pq) + h)) mo) (77000 + ((6 * pq) + h)) 0) 70012 mo) 70013 (h : Int)) 70014 (v pq 1)) 70015 (othr v n pq h)) 70016 (v pq 2)) 70017 (fool v n pq h)) H := em69 ▸ hw
                refine lv_aload_n C.1 C.2.1 dX8_gathers_72 rfl (lv_at hl 1 rfl) ?_
                refine g8 C hw 70 (by omega) rfl 29 (by decide) mw_853 (svr (hF.2 _)) dX8_gathers_73 ?_
                refine lv_bipush (v := II 6) C.1 C.2.1 dX8_gathers_76 (by decide) ?_
                refine lv_iload_n C.1 C.2.1 dX8_gathers_78 rfl (lv_at hl 2 rfl) ?_
                refine x_imul C dX8_gathers_79 ?_
                refine lv_iload_n C.1 C.2.1 dX8_gathers_80 rfl (lv_at hl 4 rfl) ?_
                refine x_iadd C dX8_gathers_81 ?_
                refine lv_aload_n C.1 C.2.1 dX8_gathers_82 rfl (lv_at hl 1 rfl) ?_
                refine lv_iload_n C.1 C.2.1 dX8_gathers_83 rfl (lv_at hl 2 rfl) ?_
                refine lv_iload_n C.1 C.2.1 dX8_gathers_84 rfl (lv_at hl 3 rfl) ?_
                refine x_ci (x_runV (n := 2) C hw hS hml hl.1 70 8 (by omega) rfl (by decide) rfl (c_X8_sighsOf l g (stM (stM (stM (stM (stM (stM (stM (stM M3 (76000 + ((6 * pq) + h)) mo) (77000 + ((6 * pq) + h)) 0) 70012 mo) 70013 (h : Int)) 70014 (v pq 1)) 70015 (othr v n pq h)) 70016 (v pq 2)) 70017 (fool v n pq h)) hF n v nt t E gn (hM3.fr (fun m hm => by unfold scm at hm; rw [st_n (by omega), st_n (by omega), st_n (by omega), st_n (by omega), st_n (by omega), st_n (by omega), st_n (by omega), st_n (by omega)])) mo ((st_n (by decide)).trans ((st_n (by decide)).trans ((st_n (by decide)).trans ((st_n (by decide)).trans ((st_n (by decide)).trans st_s))))) (h : Int) ((st_n (by decide)).trans ((st_n (by decide)).trans ((st_n (by decide)).trans ((st_n (by decide)).trans st_s)))) (v pq 1) ((st_n (by decide)).trans ((st_n (by decide)).trans ((st_n (by decide)).trans st_s))) (othr v n pq h) ((st_n (by decide)).trans ((st_n (by decide)).trans st_s)) (v pq 2) ((st_n (by decide)).trans st_s) (fool v n pq h) st_s pq ⟨by omega, hne⟩ mo ⟨by omega, by omega⟩) mw_995 mw_997 mw_58 mw_130 mw_998 rfl rfl (by decide +kernel) ⟨Nat.le_of_ble_eq_true rfl, Nat.le_of_ble_eq_true rfl⟩ rfl rfl (Nat.le_of_ble_eq_true rfl) dX8_gathers_85 ⟨Nat.zero_le _, Nat.zero_le _⟩) hS (fun r85 M85 H locs hr85 hp hw hS => ?_)
                obtain ⟨er85, h85f⟩ := hp
                have g_M85 := hw.rg
                rw [er85] at hr85 ⊢
                have hfr85 : ∀ m, ¬ ((70012 ≤ m ∧ m ≤ 70026) ∨ m = 76000 + (6 * pq + h) ∨ m = 77000 + (6 * pq + h)) → M85 m = M3 m := fun m hm => by
                  rw [h85f m (by omega), st_n (by omega), st_n (by omega), st_n (by omega), st_n (by omega), st_n (by omega), st_n (by omega), st_n (by omega), st_n (by omega)]
                have h85m : M85 (76000 + (6 * pq + h)) = mo := by rw [h85f _ (by omega), st_n (by omega), st_n (by omega), st_n (by omega), st_n (by omega), st_n (by omega), st_n (by omega), st_n (by omega), st_s]
                have hM85s : MB (stM M85 (77000 + (6 * pq + h)) (sighK (v pq 0) (v pq 1) nt (bnd (E 0 mo (h : Int) (v pq 1) (othr v n pq h) (v pq 2) (fool v n pq h)) 0 99) mo)) n v nt t E gn := hM3.fr (fun m hm => by unfold scm at hm; rw [st_n (by omega)]; exact hfr85 m (by omega))
                have hsk := sighK_in (k := v pq 0) (num := v pq 1) (nt := nt) (mo := mo) (bnd_in (v := E 0 mo (h : Int) (v pq 1) (othr v n pq h) (v pq 2) (fool v n pq h)) (lo := 0) (hi := 99) (by decide))
                refine x_iastore (L := 48) C hw hS 77 (by omega) rfl rfl (by omega) (by omega) (by decide) (x := sighK (v pq 0) (v pq 1) nt (bnd (E 0 mo (h : Int) (v pq 1) (othr v n pq h) (v pq 2) (fool v n pq h)) 0 99) mo) hr85 dX8_gathers_88 (fun H locs hw hS => ?_)
                have hw : Wo g (stM M85 (77000 + ((6 * pq) + h)) (sighK (v pq 0) (v pq 1) nt (bnd (E 0 mo (h : Int) (v pq 1) (othr v n pq h) (v pq 2) (fool v n pq h)) 0 99) mo)) H := by rw [show 1000 * 77 + ((6 * (pq : Int)) + (h : Int)).toNat = 77000 + ((6 * pq) + h) from by omega] at hw; exact hw
                refine lv_aload_n C.1 C.2.1 dX8_gathers_89 rfl (lv_at hl 1 rfl) ?_
                refine lv_iload_n C.1 C.2.1 dX8_gathers_90 rfl (lv_at hl 2 rfl) ?_
                refine x_ci (x_runV (n := 1) C hw hS hml hl.1 70 8 (by omega) rfl (by decide) rfl (c_X8_swaysOf l g (stM M85 (77000 + ((6 * pq) + h)) (sighK (v pq 0) (v pq 1) nt (bnd (E 0 mo (h : Int) (v pq 1) (othr v n pq h) (v pq 2) (fool v n pq h)) 0 99) mo)) hF n v nt t E gn hM85s mo ((st_n (by omega)).trans (by rw [h85f _ (by omega)]; simp [stM])) (h : Int) ((st_n (by omega)).trans (by rw [h85f _ (by omega)]; simp [stM])) (v pq 1) ((st_n (by omega)).trans (by rw [h85f _ (by omega)]; simp [stM])) (othr v n pq h) ((st_n (by omega)).trans (by rw [h85f _ (by omega)]; simp [stM])) (v pq 2) ((st_n (by omega)).trans (by rw [h85f _ (by omega)]; simp [stM])) (fool v n pq h) ((st_n (by omega)).trans (by rw [h85f _ (by omega)]; simp [stM])) pq ⟨by omega, hne⟩ (by omega)) mw_1192 mw_1194 mw_105 mw_130 mw_1195 rfl rfl (by decide +kernel) ⟨Nat.le_of_ble_eq_true rfl, Nat.le_of_ble_eq_true rfl⟩ rfl rfl (Nat.le_of_ble_eq_true rfl) dX8_gathers_91 ⟨Nat.zero_le _, Nat.zero_le _⟩) hS (fun r91 M91 H locs hr91 hp hw hS => ?_)
                obtain ⟨er91, h91f⟩ := hp
                have g_M91 := hw.rg
                rw [er91] at hr91 ⊢
                have hfr91 : ∀ m, ¬ ((70012 ≤ m ∧ m ≤ 70026) ∨ m = 76000 + (6 * pq + h) ∨ m = 77000 + (6 * pq + h)) → M91 m = M3 m := fun m hm => by
                  rw [h91f m (by omega), st_n (by omega)]; exact hfr85 m hm
                have h91m : M91 (76000 + (6 * pq + h)) = mo := by rw [h91f _ (by omega), st_n (by omega)]; exact h85m
                have h91s : M91 (77000 + (6 * pq + h)) = sighK (v pq 0) (v pq 1) nt (bnd (E 0 mo (h : Int) (v pq 1) (othr v n pq h) (v pq 2) (fool v n pq h)) 0 99) mo := by rw [h91f _ (by omega), st_s]
                have hswi := swayK_in (k := v pq 0) (num := v pq 1) (bnd_in (v := E 1 mo (h : Int) (v pq 1) (othr v n pq h) (v pq 2) (fool v n pq h)) (lo := -9) (hi := 9) (by decide)) (show 0 ≤ fool v n pq h ∧ fool v n pq h ≤ 8 by omega) hq0.2.1
                refine lv_istore (lv' := [(4, .int (II (swayK (v pq 0) (v pq 1) (bnd (E 1 mo (h : Int) (v pq 1) (othr v n pq h) (v pq 2) (fool v n pq h)) (-9) 9) (fool v n pq h)))), (0, .ref (gA g 70)), (1, .int (II (pq : Int))), (2, .int (II mo)), (3, .int (II (h : Int)))]) C.1 C.2.1 dX8_gathers_94 hl (by decide) rfl (fun ls hl => ?_)
                refine lv_iload_n C.1 C.2.1 dX8_gathers_96 rfl (lv_at hl 3 rfl) ?_
                refine lv_iload C.1 C.2.1 dX8_gathers_97 (lv_at hl 0 rfl) ?_
                refine x_iadd C dX8_gathers_99 ?_
                refine lv_bipush (v := II (-20)) C.1 C.2.1 dX8_gathers_100 (by decide) ?_
                refine lv_bipush (v := II 20) C.1 C.2.1 dX8_gathers_102 (by decide) ?_
                refine x_ci (x_runS (n := 3) C hw hS hml hl.1 (c_X8_within l g M91 (mo + (swayK (v pq 0) (v pq 1) (bnd (E 1 mo (h : Int) (v pq 1) (othr v n pq h) (v pq 2) (fool v n pq h)) (-9) 9) (fool v n pq h))) ⟨by omega, by omega⟩ (-20) ⟨by decide, by decide⟩ 20 ⟨by decide, by decide⟩) mw_1189 mw_1190 mw_130 mw_1191 rfl rfl (by decide +kernel) ⟨Nat.le_of_ble_eq_true rfl, Nat.le_of_ble_eq_true rfl⟩ rfl rfl (Nat.le_of_ble_eq_true rfl) dX8_gathers_104 ⟨Nat.zero_le _, Nat.zero_le _⟩) hS (fun r104 M104 H locs hr104 hp hw hS => ?_)
                obtain ⟨em104, er104⟩ := hp
                have hw : Wo g M91 H := em104 ▸ hw
                rw [er104] at hr104 ⊢
                refine lv_istore_n (lv' := [(2, .int (II (bnd (mo + (swayK (v pq 0) (v pq 1) (bnd (E 1 mo (h : Int) (v pq 1) (othr v n pq h) (v pq 2) (fool v n pq h)) (-9) 9) (fool v n pq h))) (-20) 20))), (4, .int (II (swayK (v pq 0) (v pq 1) (bnd (E 1 mo (h : Int) (v pq 1) (othr v n pq h) (v pq 2) (fool v n pq h)) (-9) 9) (fool v n pq h)))), (0, .ref (gA g 70)), (1, .int (II (pq : Int))), (3, .int (II (h : Int)))]) C.1 C.2.1 dX8_gathers_107 rfl hl (by decide) rfl (fun ls hl => ?_)
                refine lv_iinc (v := II ((h : Int) + 1)) (lv' := [(3, .int (II ((h : Int) + 1))), (2, .int (II (bnd (mo + (swayK (v pq 0) (v pq 1) (bnd (E 1 mo (h : Int) (v pq 1) (othr v n pq h) (v pq 2) (fool v n pq h)) (-9) 9) (fool v n pq h))) (-20) 20))), (4, .int (II (swayK (v pq 0) (v pq 1) (bnd (E 1 mo (h : Int) (v pq 1) (othr v n pq h) (v pq 2) (fool v n pq h)) (-9) 9) (fool v n pq h)))), (0, .ref (gA g 70)), (1, .int (II (pq : Int)))]) C.1 C.2.1 dX8_gathers_108 hl (k := 4) rfl (II_add _ _) (by decide) rfl (fun ls hl => ?_)
                refine lv_goto (tgt := 23) C.1 C.2.1 dX8_gathers_111 (by decide) ?_
                exact ih23  (h + 1) (bnd (mo + (swayK (v pq 0) (v pq 1) (bnd (E 1 mo (h : Int) (v pq 1) (othr v n pq h) (v pq 2) (fool v n pq h)) (-9) 9) (fool v n pq h))) (-20) 20) M91 (by omega) (by omega) (bnd_in (by decide)) (fun z => by rw [moodA, ← hmo, swayA, if_pos hin]) (fun j hj hg x hx => by have := hA3 j hj hg x hx; rw [hfr91 _ (by omega), hfr91 _ (by omega)]; exact this) (fun z x hx => by
      by_cases e : x = h
      · subst e; exact ⟨h91m.trans hmo, h91s.trans (by rw [sighA, if_pos hin, ← hmo])⟩
      · have := hB3 z x (by omega); rw [hfr91 _ (by omega), hfr91 _ (by omega)]; exact this) (fun m hm => by unfold scm at hm; exact (hfr91 m (by omega)).trans (hf3 m hm)) _ _ _ hw hS (lv_sub hl [3, 4, 1, 0] rfl)
              · have hw : Wo g (stM (stM M3 (76000 + ((6 * pq) + h)) mo) (77000 + ((6 * pq) + h)) 0) H := em59 ▸ hw
                rw [er59]
                refine x_if_eq (tgt := 96) C ⟨by decide, by decide⟩ dX8_gathers_62 (by decide) (fun _ => ?_) (fun h => absurd h (by decide))
                refine lv_iload_n C.1 C.2.1 dX8_gathers_96 rfl (lv_at hl 3 rfl) ?_
                refine lv_iload C.1 C.2.1 dX8_gathers_97 (lv_at hl 0 rfl) ?_
                refine x_iadd C dX8_gathers_99 ?_
                refine lv_bipush (v := II (-20)) C.1 C.2.1 dX8_gathers_100 (by decide) ?_
                refine lv_bipush (v := II 20) C.1 C.2.1 dX8_gathers_102 (by decide) ?_
                refine x_ci (x_runS (n := 3) C hw hS hml hl.1 (c_X8_within l g (stM (stM M3 (76000 + ((6 * pq) + h)) mo) (77000 + ((6 * pq) + h)) 0) (mo + 1) ⟨by omega, by omega⟩ (-20) ⟨by decide, by decide⟩ 20 ⟨by decide, by decide⟩) mw_1189 mw_1190 mw_130 mw_1191 rfl rfl (by decide +kernel) ⟨Nat.le_of_ble_eq_true rfl, Nat.le_of_ble_eq_true rfl⟩ rfl rfl (Nat.le_of_ble_eq_true rfl) dX8_gathers_104 ⟨Nat.zero_le _, Nat.zero_le _⟩) hS (fun r104 M104 H locs hr104 hp hw hS => ?_)
                obtain ⟨em104, er104⟩ := hp
                have hw : Wo g (stM (stM M3 (76000 + ((6 * pq) + h)) mo) (77000 + ((6 * pq) + h)) 0) H := em104 ▸ hw
                rw [er104] at hr104 ⊢
                refine lv_istore_n (lv' := [(2, .int (II (bnd (mo + 1) (-20) 20))), (4, .int (II 1)), (0, .ref (gA g 70)), (1, .int (II (pq : Int))), (3, .int (II (h : Int)))]) C.1 C.2.1 dX8_gathers_107 rfl hl (by decide) rfl (fun ls hl => ?_)
                refine lv_iinc (v := II ((h : Int) + 1)) (lv' := [(3, .int (II ((h : Int) + 1))), (2, .int (II (bnd (mo + 1) (-20) 20))), (4, .int (II 1)), (0, .ref (gA g 70)), (1, .int (II (pq : Int)))]) C.1 C.2.1 dX8_gathers_108 hl (k := 4) rfl (II_add _ _) (by decide) rfl (fun ls hl => ?_)
                refine lv_goto (tgt := 23) C.1 C.2.1 dX8_gathers_111 (by decide) ?_
                exact ih23  (h + 1) (bnd (mo + 1) (-20) 20) (stM (stM M3 (76000 + ((6 * pq) + h)) mo) (77000 + ((6 * pq) + h)) 0) (by omega) (by omega) (bnd_in (by decide)) (fun z => by
      have hin : ¬ inH v pq h = true := by rcases h59b with y | y; exact absurd y z; rw [y]; decide
      rw [moodA, ← hmoo z, swayA, if_neg hin]) (fun j hj hg x hx => by have := hA3 j hj hg x hx; rw [st_n (by omega), st_n (by omega), st_n (by omega), st_n (by omega)]; exact this) (fun z x hx => by
      have hin : ¬ inH v pq h = true := by rcases h59b with y | y; exact absurd y z; rw [y]; decide
      by_cases e : x = h
      · subst e; exact ⟨(st_n (by omega)).trans (st_s.trans (hmoo z)), st_s.trans (by rw [sighA, if_neg hin])⟩
      · have := hB3 z x (by omega); rw [st_n (by omega), st_n (by omega), st_n (by omega), st_n (by omega)]; exact this) (fun m hm => by unfold scm at hm; rw [st_n (by omega), st_n (by omega)]; exact hf3 m hm) _ _ _ hw hS (lv_sub hl [3, 4, 1, 0] rfl)
        exact L23 _ 0 (M2 (75000 + (4 * pq + 2))) M2 (Nat.lt_succ_self _) (by omega) (hM2.2.1.2.2 pq (by omega)) (fun z => (hM2.2.1.1 pq (by omega) z).2.2.2.1) hA (fun _ _ h => absurd h (Nat.not_lt_zero _)) hf _ _ _ hw hS (lv_sub hl [2, 3, 1, 0] rfl)
  exact L2 _ 0 M (Nat.lt_succ_self _) (by omega) (fun _ h => absurd h (Nat.not_lt_zero _)) (fun _ _ => rfl) _ _ _ hw hS (lv_sub hl [1, 0] rfl)

set_option maxHeartbeats 4000000 in
set_option maxRecDepth 100000 in
theorem c_X8_reedOf (l : Launch) (g : Gm) (M : Nat → Int) (hF : LvF g) (n : Nat) (v : Nat → Nat → Int) (nt : Int) (t : Nat) (E : Ev) (hM : MB M n v nt t E (-1)) (hSg : SgM M v n nt E (-1)) (ho : Int) (gho : rg ho) (h : Nat) (hh : h < 6) : CI l ({ cls := "RatedBySighsModel", name := "reedOf", desc := "(II)I" } : Jvm.MethodName) cX8_reedOf 5 .int (rmm 0 0) g M [.ref (gA g 70), .int (II ho), .int (II (h : Int))] (fun r M' => M' = M ∧ r = reedS v n nt E ho h) := by
  refine c_start (by decide) (Nat.le_of_ble_eq_true rfl) (fun p e s m below meth c ls C hr hlk hml hw hS hl => ?_)
  have hl : lv_has ls 5 [(0, .ref (gA g 70)), (1, .int (II ho)), (2, .int (II (h : Int)))] := hl
  generalize ([.ref (gA g 70), .int (II ho), .int (II (h : Int))] : List Value).toArray = args at C ⊢
  generalize hQQ : MQ below (postI g (fun r M' => M' = M ∧ r = reedS v n nt E ho h)) args s 0 0 (ar g) = QQ
  have g_M := hw.rg
  have hN : gN g = 84 := hF.1
  have hn2 := hM.1.2
  refine lv_iconst (v := II 0) C.1 C.2.1 dX8_reedOf_0 rfl ?_
  refine lv_istore_n (lv' := [(3, .int (II 0)), (0, .ref (gA g 70)), (1, .int (II ho)), (2, .int (II (h : Int)))]) C.1 C.2.1 dX8_reedOf_1 rfl hl (by decide) rfl (fun ls hl => ?_)
  refine lv_iconst (v := II 0) C.1 C.2.1 dX8_reedOf_2 rfl ?_
  refine lv_istore (lv' := [(4, .int (II 0)), (3, .int (II 0)), (0, .ref (gA g 70)), (1, .int (II ho)), (2, .int (II (h : Int)))]) C.1 C.2.1 dX8_reedOf_3 hl (by decide) rfl (fun ls hl => ?_)
  have L5 : ∀ (f1 : Nat) (k : Nat), (n - k) < f1 → (k ≤ n) → ∀ (H : Heap) (locs : List Loc) (ls : Array Slot), Wo g M H → va_S (ar g) s.heap H locs → lv_has ls 5 [(0, .ref (gA g 70)), (1, .int (II ho)), (2, .int (II (h : Int))), (3, .int (II (sm (reed1 v n nt E ho h) k))), (4, .int (II (k : Int)))] → W p l e (rmm 0 0) s m args below meth c H locs 0 0 QQ (F0 m 5 ls []) := by
    intro f1
    induction f1 with
    | zero => intro k hmu; exact absurd hmu (Nat.not_lt_zero _)
    | succ f1 ih =>
      intro k hmu h1 H locs ls hw hS hl
      have ih5 := ih
      have hcn := sm_in (reed1_in v n nt E ho h) k
      refine lv_iload C.1 C.2.1 dX8_reedOf_5 (lv_at hl 4 rfl) ?_
      refine lv_aload_n C.1 C.2.1 dX8_reedOf_7 rfl (lv_at hl 0 rfl) ?_
      refine g8 C hw 70 (by omega) rfl 11 (by decide) mw_835 (svi (x := (n : Int)) hM.1.1) dX8_reedOf_8 ?_
      refine x_icmp_ge (tgt := 54) C ⟨by omega, by omega⟩ ⟨by have := g_M 70011; have := hM.1.1; omega, by have := g_M 70011; have := hM.1.1; omega⟩ dX8_reedOf_11 (by decide) (fun c11 => ?_) (fun c11 => ?_)
      · refine lv_iload_n C.1 C.2.1 dX8_reedOf_54 rfl (lv_at hl 3 rfl) ?_
        subst hQQ; exact x_ireturn C hr hlk hw hS ⟨by omega, by omega⟩ rfl ⟨rfl, by rw [show k = n by omega]; rfl⟩ dX8_reedOf_55
      · have hq0 := hM.2.2.1 k (by omega)
        have hsk := sighA_in v n nt E k h
        refine lv_iload_n C.1 C.2.1 dX8_reedOf_14 rfl (lv_at hl 3 rfl) ?_
        have J46 : ∀ (z : Int), (z = (reed1 v n nt E ho h) k) → ∀ (H : Heap) (locs : List Loc) (ls : Array Slot), Wo g M H → va_S (ar g) s.heap H locs → lv_has ls 5 [(0, .ref (gA g 70)), (1, .int (II ho)), (2, .int (II (h : Int))), (3, .int (II (sm (reed1 v n nt E ho h) k))), (4, .int (II (k : Int)))] → W p l e (rmm 0 0) s m args below meth c H locs 0 0 QQ (F0 m 46 ls [.int (II z), .int (II (sm (reed1 v n nt E ho h) k))]) := by
          intro z hz H locs ls hw hS hl
          have hz01 := reed1_in v n nt E ho h k
          rw [← hz] at hz01
          refine x_iadd C dX8_reedOf_46 ?_
          refine lv_istore_n (lv' := [(3, .int (II ((sm (reed1 v n nt E ho h) k) + z))), (0, .ref (gA g 70)), (1, .int (II ho)), (2, .int (II (h : Int))), (4, .int (II (k : Int)))]) C.1 C.2.1 dX8_reedOf_47 rfl hl (by decide) rfl (fun ls hl => ?_)
          have ecn : sm (reed1 v n nt E ho h) k + z = sm (reed1 v n nt E ho h) (k + 1) := by rw [hz]; rfl
          rw [ecn] at hl
          refine lv_iinc (v := II ((k : Int) + 1)) (lv' := [(4, .int (II ((k : Int) + 1))), (3, .int (II (sm (reed1 v n nt E ho h) (k + 1)))), (0, .ref (gA g 70)), (1, .int (II ho)), (2, .int (II (h : Int)))]) C.1 C.2.1 dX8_reedOf_48 hl (k := 4) rfl (II_add _ _) (by decide) rfl (fun ls hl => ?_)
          refine lv_goto (tgt := 5) C.1 C.2.1 dX8_reedOf_51 (by decide) ?_
          exact ih5  (k + 1) (by omega) (by omega) _ _ _ hw hS (lv_sub hl [2, 3, 4, 1, 0] rfl)
        refine lv_aload_n C.1 C.2.1 dX8_reedOf_15 rfl (lv_at hl 0 rfl) ?_
        refine g8 C hw 70 (by omega) rfl 10 (by decide) mw_834 (svr (hF.2 _)) dX8_reedOf_16 ?_
        refine lv_iconst (v := II 4) C.1 C.2.1 dX8_reedOf_19 rfl ?_
        refine lv_iload C.1 C.2.1 dX8_reedOf_20 (lv_at hl 4 rfl) ?_
        refine x_imul C dX8_reedOf_22 ?_
        refine lv_iconst (v := II 1) C.1 C.2.1 dX8_reedOf_23 rfl ?_
        refine x_iadd C dX8_reedOf_24 ?_
        refine x_iaload (L := 32) C hw 75 (by omega) rfl rfl (by omega) (by omega) (by decide) (x := v k 2) ((congrArg (fun z => M (1000 * 75 + z)) (by omega)).trans ((hM.2.1.1 k (by omega) (by omega)).2.2.1)) dX8_reedOf_25 ?_
        refine lv_iload_n C.1 C.2.1 dX8_reedOf_26 rfl (lv_at hl 1 rfl) ?_
        refine x_icmp_ne (tgt := 45) C ⟨by have := g_M (75000 + ((4 * k) + 1)); have := ((hM.2.1.1 k (by omega) (by omega)).2.2.1); omega, by have := g_M (75000 + ((4 * k) + 1)); have := ((hM.2.1.1 k (by omega) (by omega)).2.2.1); omega⟩ gho dX8_reedOf_27 (by decide) (fun c27 => ?_) (fun c27 => ?_)
        · refine lv_iconst (v := II 0) C.1 C.2.1 dX8_reedOf_45 rfl ?_
          exact J46 0 (by unfold reed1; first | (rw [if_pos (by omega)]; done) | (rw [if_neg (by omega)]; done)) _ _ _ hw hS (lv_sub hl [0, 1, 2, 3, 4] rfl)
        · refine lv_aload_n C.1 C.2.1 dX8_reedOf_30 rfl (lv_at hl 0 rfl) ?_
          refine g8 C hw 70 (by omega) rfl 29 (by decide) mw_853 (svr (hF.2 _)) dX8_reedOf_31 ?_
          refine lv_bipush (v := II 6) C.1 C.2.1 dX8_reedOf_34 (by decide) ?_
          refine lv_iload C.1 C.2.1 dX8_reedOf_36 (lv_at hl 4 rfl) ?_
          refine x_imul C dX8_reedOf_38 ?_
          refine lv_iload_n C.1 C.2.1 dX8_reedOf_39 rfl (lv_at hl 2 rfl) ?_
          refine x_iadd C dX8_reedOf_40 ?_
          refine x_iaload (L := 48) C hw 77 (by omega) rfl rfl (by omega) (by omega) (by decide) (x := sighA v n nt E k h) ((congrArg (fun z => M (1000 * 77 + z)) (by omega)).trans (hSg k (by omega) (by omega) h hh)) dX8_reedOf_41 ?_
          refine lv_goto (tgt := 46) C.1 C.2.1 dX8_reedOf_42 (by decide) ?_
          exact J46 (sighA v n nt E k h) (by unfold reed1; first | (rw [if_pos (by omega)]; done) | (rw [if_neg (by omega)]; done)) _ _ _ hw hS (lv_sub hl [0, 1, 2, 3, 4] rfl)
  exact L5 _ 0 (Nat.lt_succ_self _) (by omega) _ _ _ hw hS (lv_sub hl [2, 3, 4, 1, 0] rfl)

set_option maxHeartbeats 4000000 in
set_option maxRecDepth 100000 in
theorem c_X8_dueOf (l : Launch) (g : Gm) (M : Nat → Int) (hF : LvF g) (n : Nat) (v : Nat → Nat → Int) (nt : Int) (t : Nat) (E : Ev) (gn : Int) (hM : MB M n v nt t E gn) (hSg : SgM M v n nt E gn) (ho : Int) (gho : 0 ≤ ho ∧ ho ≤ 4) : CI l ({ cls := "RatedBySighsModel", name := "dueOf", desc := "(I)I" } : Jvm.MethodName) cX8_dueOf 6 .int (rmm 42 930) g M [.ref (gA g 70), .int (II ho)] (fun r M' => r = dueS v n nt E ho ∧ (∀ m, ¬ (70012 ≤ m ∧ m ≤ 70026) → M' m = M m)) := by
  refine c_start (by decide) (Nat.le_of_ble_eq_true rfl) (fun p e s m below meth c ls C hr hlk hml hw hS hl => ?_)
  have hl : lv_has ls 6 [(0, .ref (gA g 70)), (1, .int (II ho))] := hl
  generalize ([.ref (gA g 70), .int (II ho)] : List Value).toArray = args at C ⊢
  generalize hQQ : MQ below (postI g (fun r M' => r = dueS v n nt E ho ∧ (∀ m, ¬ (70012 ≤ m ∧ m ≤ 70026) → M' m = M m))) args s 0 0 (ar g) = QQ
  have g_M := hw.rg
  have hN : gN g = 84 := hF.1
  have hn2 := hM.1.2
  have hg7 := hM.2.2.2.2.2.2.2
  have ht6 := hM.2.2.2.2.1.2
  refine lv_iconst (v := II 0) C.1 C.2.1 dX8_dueOf_0 rfl ?_
  refine lv_istore_n (lv' := [(2, .int (II 0)), (0, .ref (gA g 70)), (1, .int (II ho))]) C.1 C.2.1 dX8_dueOf_1 rfl hl (by decide) rfl (fun ls hl => ?_)
  refine lv_iconst (v := II 0) C.1 C.2.1 dX8_dueOf_2 rfl ?_
  refine lv_istore_n (lv' := [(3, .int (II 0)), (2, .int (II 0)), (0, .ref (gA g 70)), (1, .int (II ho))]) C.1 C.2.1 dX8_dueOf_3 rfl hl (by decide) rfl (fun ls hl => ?_)
  refine lv_iconst (v := II 0) C.1 C.2.1 dX8_dueOf_4 rfl ?_
  refine lv_istore (lv' := [(4, .int (II 0)), (3, .int (II 0)), (2, .int (II 0)), (0, .ref (gA g 70)), (1, .int (II ho))]) C.1 C.2.1 dX8_dueOf_5 hl (by decide) rfl (fun ls hl => ?_)
  have L7 : ∀ (f1 : Nat) (pq : Nat), (n - pq) < f1 → (pq ≤ n) → ∀ (H : Heap) (locs : List Loc) (ls : Array Slot), Wo g M H → va_S (ar g) s.heap H locs → lv_has ls 6 [(0, .ref (gA g 70)), (1, .int (II ho)), (2, .int (II (sm (pdP v n nt E ho) pq))), (3, .int (II (cnt (fun q => decide (v q 2 = ho)) pq))), (4, .int (II (pq : Int)))] → W p l e (rmm 42 930) s m args below meth c H locs 0 0 QQ (F0 m 7 ls []) := by
    intro f1
    induction f1 with
    | zero => intro pq hmu; exact absurd hmu (Nat.not_lt_zero _)
    | succ f1 ih =>
      intro pq hmu h1 H locs ls hw hS hl
      have ih7 := ih
      have hcn := sm_in (pdP_in v n nt E ho) pq
      have hci := cnt_in (fun q => decide (v q 2 = ho)) pq
      have hcn9 := sm_in (pdP_in v n nt E ho) n
      have hci9 := cnt_in (fun q => decide (v q 2 = ho)) n
      refine lv_iload C.1 C.2.1 dX8_dueOf_7 (lv_at hl 4 rfl) ?_
      refine lv_aload_n C.1 C.2.1 dX8_dueOf_9 rfl (lv_at hl 0 rfl) ?_
      refine g8 C hw 70 (by omega) rfl 11 (by decide) mw_835 (svi (x := (n : Int)) hM.1.1) dX8_dueOf_10 ?_
      refine x_icmp_ge (tgt := 94) C ⟨by omega, by omega⟩ ⟨by have := g_M 70011; have := hM.1.1; omega, by have := g_M 70011; have := hM.1.1; omega⟩ dX8_dueOf_13 (by decide) (fun c13 => ?_) (fun c13 => ?_)
      · have ep : pq = n := by omega
        have epn : sm (pdP v n nt E ho) pq = sm (payS v n nt E ho) 6 := by rw [ep]; exact pdP_sw v n nt E ho
        have eln : cnt (fun q => decide (v q 2 = ho)) pq = livS v n ho := by rw [ep]; rfl
        rw [epn, eln] at hl
        rw [pdP_sw] at hcn9
        have hli : 0 ≤ livS v n ho ∧ livS v n ho ≤ n := cnt_in _ _
        refine lv_aload_n C.1 C.2.1 dX8_dueOf_94 rfl (lv_at hl 0 rfl) ?_
        refine lv_iload_n C.1 C.2.1 dX8_dueOf_95 rfl (lv_at hl 2 rfl) ?_
        refine p8 C hw hS 70 (by omega) rfl 12 (by decide) mw_836 rfl (x := sm (payS v n nt E ho) 6) ⟨by omega, by omega⟩ (svi st_s) (tyX8_ok 12 (by decide)) rfl rfl dX8_dueOf_96 (fun H locs hw hS => ?_)
        have hw : Wo g (stM M 70012 (sm (payS v n nt E ho) 6)) H := hw
        refine lv_aload_n C.1 C.2.1 dX8_dueOf_99 rfl (lv_at hl 0 rfl) ?_
        refine lv_bipush (v := II 6) C.1 C.2.1 dX8_dueOf_100 (by decide) ?_
        refine p8 C hw hS 70 (by omega) rfl 13 (by decide) mw_837 rfl (x := 6) ⟨by decide, by decide⟩ (svi st_s) (tyX8_ok 13 (by decide)) rfl rfl dX8_dueOf_102 (fun H locs hw hS => ?_)
        have hw : Wo g (stM (stM M 70012 (sm (payS v n nt E ho) 6)) 70013 6) H := hw
        refine lv_aload_n C.1 C.2.1 dX8_dueOf_105 rfl (lv_at hl 0 rfl) ?_
        refine lv_iconst (v := II 0) C.1 C.2.1 dX8_dueOf_106 rfl ?_
        refine p8 C hw hS 70 (by omega) rfl 14 (by decide) mw_838 rfl (x := 0) ⟨by decide, by decide⟩ (svi st_s) (tyX8_ok 14 (by decide)) rfl rfl dX8_dueOf_107 (fun H locs hw hS => ?_)
        have hw : Wo g (stM (stM (stM M 70012 (sm (payS v n nt E ho) 6)) 70013 6) 70014 0) H := hw
        refine lv_aload_n C.1 C.2.1 dX8_dueOf_110 rfl (lv_at hl 0 rfl) ?_
        refine lv_iload_n C.1 C.2.1 dX8_dueOf_111 rfl (lv_at hl 3 rfl) ?_
        refine p8 C hw hS 70 (by omega) rfl 15 (by decide) mw_839 rfl (x := livS v n ho) ⟨by omega, by omega⟩ (svi st_s) (tyX8_ok 15 (by decide)) rfl rfl dX8_dueOf_112 (fun H locs hw hS => ?_)
        have hw : Wo g (stM (stM (stM (stM M 70012 (sm (payS v n nt E ho) 6)) 70013 6) 70014 0) 70015 (livS v n ho)) H := hw
        refine lv_aload_n C.1 C.2.1 dX8_dueOf_115 rfl (lv_at hl 0 rfl) ?_
        refine lv_iload_n C.1 C.2.1 dX8_dueOf_116 rfl (lv_at hl 1 rfl) ?_
        refine p8 C hw hS 70 (by omega) rfl 16 (by decide) mw_840 rfl (x := ho) ⟨by omega, by omega⟩ (svi st_s) (tyX8_ok 16 (by decide)) rfl rfl dX8_dueOf_117 (fun H locs hw hS => ?_)
        have hw : Wo g (stM (stM (stM (stM (stM M 70012 (sm (payS v n nt E ho) 6)) 70013 6) 70014 0) 70015 (livS v n ho)) 70016 ho) H := hw
        refine lv_aload_n C.1 C.2.1 dX8_dueOf_120 rfl (lv_at hl 0 rfl) ?_
        refine lv_iconst (v := II 0) C.1 C.2.1 dX8_dueOf_121 rfl ?_
        refine p8 C hw hS 70 (by omega) rfl 17 (by decide) mw_841 rfl (x := 0) ⟨by decide, by decide⟩ (svi st_s) (tyX8_ok 17 (by decide)) rfl rfl dX8_dueOf_122 (fun H locs hw hS => ?_)
        have hw : Wo g (stM (stM (stM (stM (stM (stM M 70012 (sm (payS v n nt E ho) 6)) 70013 6) 70014 0) 70015 (livS v n ho)) 70016 ho) 70017 0) H := hw
        refine lv_aload_n C.1 C.2.1 dX8_dueOf_125 rfl (lv_at hl 0 rfl) ?_
        refine lv_aload_n C.1 C.2.1 dX8_dueOf_126 rfl (lv_at hl 0 rfl) ?_
        refine g8 C hw 70 (by omega) rfl 4 (by decide) mw_828 (svi (x := (t : Int)) ((st_n (by decide)).trans ((st_n (by decide)).trans ((st_n (by decide)).trans ((st_n (by decide)).trans ((st_n (by decide)).trans ((st_n (by decide)).trans hM.2.2.2.2.1.1))))))) dX8_dueOf_127 ?_
        refine lv_iconst (v := II 2) C.1 C.2.1 dX8_dueOf_130 rfl ?_
        refine x_ci (x_runV (n := 2) C hw hS hml hl.1 70 8 (by omega) rfl (by decide) rfl (c_X8_readE l g (stM (stM (stM (stM (stM (stM M 70012 (sm (payS v n nt E ho) 6)) 70013 6) 70014 0) 70015 (livS v n ho)) 70016 ho) 70017 0) hF t 2 (by decide) E (hM.2.2.2.2.2.1.fr (fun m hm => by have ht6 := hM.2.2.2.2.1.2; rw [st_n (by omega), st_n (by omega), st_n (by omega), st_n (by omega), st_n (by omega), st_n (by omega)])) (sm (payS v n nt E ho) 6) ((st_n (by decide)).trans ((st_n (by decide)).trans ((st_n (by decide)).trans ((st_n (by decide)).trans ((st_n (by decide)).trans st_s))))) 6 ((st_n (by decide)).trans ((st_n (by decide)).trans ((st_n (by decide)).trans ((st_n (by decide)).trans st_s)))) 0 ((st_n (by decide)).trans ((st_n (by decide)).trans ((st_n (by decide)).trans st_s))) (livS v n ho) ((st_n (by decide)).trans ((st_n (by decide)).trans st_s)) ho ((st_n (by decide)).trans st_s) 0 st_s) mw_999 mw_1001 mw_59 mw_130 mw_1002 rfl rfl (by decide +kernel) ⟨Nat.le_of_ble_eq_true rfl, Nat.le_of_ble_eq_true rfl⟩ rfl rfl (Nat.le_of_ble_eq_true rfl) dX8_dueOf_131 ⟨Nat.zero_le _, Nat.zero_le _⟩) hS (fun r131 M131 H locs hr131 hp hw hS => ?_)
        obtain ⟨er131, h131f⟩ := hp
        have g_M131 := hw.rg
        rw [er131] at hr131 ⊢
        refine lv_iconst (v := II 0) C.1 C.2.1 dX8_dueOf_134 rfl ?_
        refine lv_sipush (v := II 9999) C.1 C.2.1 dX8_dueOf_135 (by decide) ?_
        refine x_ci (x_runS (n := 3) C hw hS hml hl.1 (c_X8_within l g M131 (E 2 (sm (payS v n nt E ho) 6) 6 0 (livS v n ho) ho 0) hr131 0 ⟨by decide, by decide⟩ 9999 ⟨by decide, by decide⟩) mw_1189 mw_1190 mw_130 mw_1191 rfl rfl (by decide +kernel) ⟨Nat.le_of_ble_eq_true rfl, Nat.le_of_ble_eq_true rfl⟩ rfl rfl (Nat.le_of_ble_eq_true rfl) dX8_dueOf_138 ⟨Nat.zero_le _, Nat.zero_le _⟩) hS (fun r138 M138 H locs hr138 hp hw hS => ?_)
        obtain ⟨em138, er138⟩ := hp
        have hw : Wo g M131 H := em138 ▸ hw
        rw [er138] at hr138 ⊢
        subst hQQ; exact x_ireturn C hr hlk hw hS hr138 rfl ⟨rfl, fun m hm => by rw [h131f m (by omega), st_n (by omega), st_n (by omega), st_n (by omega), st_n (by omega), st_n (by omega), st_n (by omega)]⟩ dX8_dueOf_141
      · have hq0 := hM.2.2.1 pq (by omega)
        refine lv_iload C.1 C.2.1 dX8_dueOf_16 (lv_at hl 4 rfl) ?_
        refine lv_aload_n C.1 C.2.1 dX8_dueOf_18 rfl (lv_at hl 0 rfl) ?_
        refine g8 C hw 70 (by omega) rfl 27 (by decide) mw_851 (svi (x := gn) hM.2.2.2.2.2.2.1) dX8_dueOf_19 ?_
        refine x_icmp_eq (tgt := 88) C ⟨by omega, by omega⟩ ⟨by have := g_M 70027; have := hM.2.2.2.2.2.2.1; omega, by have := g_M 70027; have := hM.2.2.2.2.2.2.1; omega⟩ dX8_dueOf_22 (by decide) (fun c22 => ?_) (fun c22 => ?_)
        · refine lv_iinc (v := II ((pq : Int) + 1)) (lv' := [(4, .int (II ((pq : Int) + 1))), (0, .ref (gA g 70)), (1, .int (II ho)), (2, .int (II (sm (pdP v n nt E ho) pq))), (3, .int (II (cnt (fun q => decide (v q 2 = ho)) pq)))]) C.1 C.2.1 dX8_dueOf_88 hl (k := 4) rfl (II_add _ _) (by decide) rfl (fun ls hl => ?_)
          refine lv_goto (tgt := 7) C.1 C.2.1 dX8_dueOf_91 (by decide) ?_
          have hvo : v pq 2 ≠ ho := by
            first
            | (have := hM.2.1.2.1 pq (by omega) (by omega); omega)
            | omega
          have e1 : sm (pdP v n nt E ho) pq = sm (pdP v n nt E ho) (pq + 1) := by rw [sm, pdP_0 hvo]; omega
          have e2 : cnt (fun q => decide (v q 2 = ho)) pq = cnt (fun q => decide (v q 2 = ho)) (pq + 1) := cnt_f (decide_eq_false hvo)
          rw [e1, e2] at hl
          exact ih7  (pq + 1) (by omega) (by omega) _ _ _ hw hS (lv_sub hl [1, 2, 3, 4, 0] rfl)
        · refine lv_aload_n C.1 C.2.1 dX8_dueOf_25 rfl (lv_at hl 0 rfl) ?_
          refine g8 C hw 70 (by omega) rfl 10 (by decide) mw_834 (svr (hF.2 _)) dX8_dueOf_26 ?_
          refine lv_iconst (v := II 4) C.1 C.2.1 dX8_dueOf_29 rfl ?_
          refine lv_iload C.1 C.2.1 dX8_dueOf_30 (lv_at hl 4 rfl) ?_
          refine x_imul C dX8_dueOf_32 ?_
          refine lv_iconst (v := II 1) C.1 C.2.1 dX8_dueOf_33 rfl ?_
          refine x_iadd C dX8_dueOf_34 ?_
          refine x_iaload (L := 32) C hw 75 (by omega) rfl rfl (by omega) (by omega) (by decide) (x := v pq 2) ((congrArg (fun z => M (1000 * 75 + z)) (by omega)).trans ((hM.2.1.1 pq (by omega) (by omega)).2.2.1)) dX8_dueOf_35 ?_
          refine lv_iload_n C.1 C.2.1 dX8_dueOf_36 rfl (lv_at hl 1 rfl) ?_
          refine x_icmp_ne (tgt := 88) C ⟨by have := g_M (75000 + ((4 * pq) + 1)); have := ((hM.2.1.1 pq (by omega) (by omega)).2.2.1); omega, by have := g_M (75000 + ((4 * pq) + 1)); have := ((hM.2.1.1 pq (by omega) (by omega)).2.2.1); omega⟩ ⟨by omega, by omega⟩ dX8_dueOf_37 (by decide) (fun c37 => ?_) (fun c37 => ?_)
          · refine lv_iinc (v := II ((pq : Int) + 1)) (lv' := [(4, .int (II ((pq : Int) + 1))), (0, .ref (gA g 70)), (1, .int (II ho)), (2, .int (II (sm (pdP v n nt E ho) pq))), (3, .int (II (cnt (fun q => decide (v q 2 = ho)) pq)))]) C.1 C.2.1 dX8_dueOf_88 hl (k := 4) rfl (II_add _ _) (by decide) rfl (fun ls hl => ?_)
            refine lv_goto (tgt := 7) C.1 C.2.1 dX8_dueOf_91 (by decide) ?_
            have hvo : v pq 2 ≠ ho := by
              first
              | (have := hM.2.1.2.1 pq (by omega) (by omega); omega)
              | omega
            have e1 : sm (pdP v n nt E ho) pq = sm (pdP v n nt E ho) (pq + 1) := by rw [sm, pdP_0 hvo]; omega
            have e2 : cnt (fun q => decide (v q 2 = ho)) pq = cnt (fun q => decide (v q 2 = ho)) (pq + 1) := cnt_f (decide_eq_false hvo)
            rw [e1, e2] at hl
            exact ih7  (pq + 1) (by omega) (by omega) _ _ _ hw hS (lv_sub hl [1, 2, 3, 4, 0] rfl)
          · refine lv_iinc (v := II (cnt (fun q => decide (v q 2 = ho)) pq + 1)) (lv' := [(3, .int (II (cnt (fun q => decide (v q 2 = ho)) pq + 1))), (0, .ref (gA g 70)), (1, .int (II ho)), (2, .int (II (sm (pdP v n nt E ho) pq))), (4, .int (II (pq : Int)))]) C.1 C.2.1 dX8_dueOf_40 hl (k := 3) rfl (II_add _ _) (by decide) rfl (fun ls hl => ?_)
            have e0 : sm (pdP v n nt E ho) pq = sm (pdP v n nt E ho) pq + sm (fun h => pay1 v n nt E ho h pq) 0 := (Int.add_zero _).symm
            rw [e0] at hl
            refine lv_iconst (v := II 0) C.1 C.2.1 dX8_dueOf_43 rfl ?_
            refine lv_istore (lv' := [(5, .int (II 0)), (3, .int (II (cnt (fun q => decide (v q 2 = ho)) pq + 1))), (0, .ref (gA g 70)), (1, .int (II ho)), (2, .int (II (sm (pdP v n nt E ho) pq + sm (fun h => pay1 v n nt E ho h pq) 0))), (4, .int (II (pq : Int)))]) C.1 C.2.1 dX8_dueOf_44 hl (by decide) rfl (fun ls hl => ?_)
            have L46 : ∀ (f2 : Nat) (h : Nat), (6 - h) < f2 → (h ≤ 6) → ∀ (H : Heap) (locs : List Loc) (ls : Array Slot), Wo g M H → va_S (ar g) s.heap H locs → lv_has ls 6 [(0, .ref (gA g 70)), (1, .int (II ho)), (2, .int (II (sm (pdP v n nt E ho) pq + sm (fun h => pay1 v n nt E ho h pq) h))), (3, .int (II (cnt (fun q => decide (v q 2 = ho)) pq + 1))), (4, .int (II (pq : Int))), (5, .int (II (h : Int)))] → W p l e (rmm 42 930) s m args below meth c H locs 0 0 QQ (F0 m 46 ls []) := by
              intro f2
              induction f2 with
              | zero => intro h hmu; exact absurd hmu (Nat.not_lt_zero _)
              | succ f2 ih =>
                intro h hmu h7 H locs ls hw hS hl
                have ih46 := ih
                have hcp := sm_in (fun q => pay1_in v n nt E ho q pq) h
                refine lv_iload C.1 C.2.1 dX8_dueOf_46 (lv_at hl 5 rfl) ?_
                refine lv_bipush (v := II 6) C.1 C.2.1 dX8_dueOf_48 (by decide) ?_
                refine x_icmp_ge (tgt := 88) C ⟨by omega, by omega⟩ ⟨by decide, by decide⟩ dX8_dueOf_50 (by decide) (fun c50 => ?_) (fun c50 => ?_)
                · refine lv_iinc (v := II ((pq : Int) + 1)) (lv' := [(4, .int (II ((pq : Int) + 1))), (0, .ref (gA g 70)), (1, .int (II ho)), (2, .int (II (sm (pdP v n nt E ho) pq + sm (fun h => pay1 v n nt E ho h pq) h))), (3, .int (II (cnt (fun q => decide (v q 2 = ho)) pq + 1))), (5, .int (II (h : Int)))]) C.1 C.2.1 dX8_dueOf_88 hl (k := 4) rfl (II_add _ _) (by decide) rfl (fun ls hl => ?_)
                  refine lv_goto (tgt := 7) C.1 C.2.1 dX8_dueOf_91 (by decide) ?_
                  have e6 : h = 6 := by omega
                  have e1 : sm (pdP v n nt E ho) pq + sm (fun h => pay1 v n nt E ho h pq) h = sm (pdP v n nt E ho) (pq + 1) := by rw [e6]; rfl
                  have e2 : cnt (fun q => decide (v q 2 = ho)) pq + 1 = cnt (fun q => decide (v q 2 = ho)) (pq + 1) := cnt_t (decide_eq_true (by omega))
                  rw [e1, e2] at hl
                  exact ih7  (pq + 1) (by omega) (by omega) _ _ _ hw hS (lv_sub hl [1, 2, 3, 4, 0] rfl)
                · refine lv_iload_n C.1 C.2.1 dX8_dueOf_53 rfl (lv_at hl 2 rfl) ?_
                  have J80 : ∀ (z : Int), (z = pay1 v n nt E ho h pq) → ∀ (H : Heap) (locs : List Loc) (ls : Array Slot), Wo g M H → va_S (ar g) s.heap H locs → lv_has ls 6 [(0, .ref (gA g 70)), (1, .int (II ho)), (2, .int (II (sm (pdP v n nt E ho) pq + sm (fun h => pay1 v n nt E ho h pq) h))), (3, .int (II (cnt (fun q => decide (v q 2 = ho)) pq + 1))), (4, .int (II (pq : Int))), (5, .int (II (h : Int)))] → W p l e (rmm 42 930) s m args below meth c H locs 0 0 QQ (F0 m 80 ls [.int (II z), .int (II (sm (pdP v n nt E ho) pq + sm (fun h => pay1 v n nt E ho h pq) h))]) := by
                    intro z hz H locs ls hw hS hl
                    have hz01 := pay1_in v n nt E ho h pq
                    rw [← hz] at hz01
                    refine x_iadd C dX8_dueOf_80 ?_
                    refine lv_istore_n (lv' := [(2, .int (II ((sm (pdP v n nt E ho) pq + sm (fun h => pay1 v n nt E ho h pq) h) + z))), (0, .ref (gA g 70)), (1, .int (II ho)), (3, .int (II (cnt (fun q => decide (v q 2 = ho)) pq + 1))), (4, .int (II (pq : Int))), (5, .int (II (h : Int)))]) C.1 C.2.1 dX8_dueOf_81 rfl hl (by decide) rfl (fun ls hl => ?_)
                    have ecn : sm (pdP v n nt E ho) pq + sm (fun h => pay1 v n nt E ho h pq) h + z = sm (pdP v n nt E ho) pq + sm (fun h => pay1 v n nt E ho h pq) (h + 1) := by rw [hz, Int.add_assoc]; rfl
                    rw [ecn] at hl
                    refine lv_iinc (v := II ((h : Int) + 1)) (lv' := [(5, .int (II ((h : Int) + 1))), (2, .int (II (sm (pdP v n nt E ho) pq + sm (fun h => pay1 v n nt E ho h pq) (h + 1)))), (0, .ref (gA g 70)), (1, .int (II ho)), (3, .int (II (cnt (fun q => decide (v q 2 = ho)) pq + 1))), (4, .int (II (pq : Int)))]) C.1 C.2.1 dX8_dueOf_82 hl (k := 5) rfl (II_add _ _) (by decide) rfl (fun ls hl => ?_)
                    refine lv_goto (tgt := 46) C.1 C.2.1 dX8_dueOf_85 (by decide) ?_
                    exact ih46  (h + 1) (by omega) (by omega) _ _ _ hw hS (lv_sub hl [2, 3, 1, 4, 5, 0] rfl)
                  refine lv_aload_n C.1 C.2.1 dX8_dueOf_54 rfl (lv_at hl 0 rfl) ?_
                  refine lv_iload C.1 C.2.1 dX8_dueOf_55 (lv_at hl 4 rfl) ?_
                  refine x_ci (x_runV (n := 1) C hw hS hml hl.1 70 8 (by omega) rfl (by decide) rfl (c_X8_isExempt l g M hF n v nt t E gn hM pq ⟨by omega, by omega⟩) mw_1196 mw_1198 mw_106 mw_130 mw_1199 rfl rfl (by decide +kernel) ⟨Nat.le_of_ble_eq_true rfl, Nat.le_of_ble_eq_true rfl⟩ rfl rfl (Nat.le_of_ble_eq_true rfl) dX8_dueOf_57 ⟨Nat.zero_le _, Nat.zero_le _⟩) hS (fun r57 M57 H locs hr57 hp hw hS => ?_)
                  rcases hp with ⟨em57, (⟨er57, h57b⟩ | ⟨er57, h57b⟩)⟩
                  · have hw : Wo g M H := em57 ▸ hw
                    rw [er57]
                    refine x_if_eq (tgt := 67) C ⟨by decide, by decide⟩ dX8_dueOf_60 (by decide) (fun h => absurd h (by decide)) (fun _ => ?_)
                    refine lv_iconst (v := II 0) C.1 C.2.1 dX8_dueOf_63 rfl ?_
                    refine lv_goto (tgt := 80) C.1 C.2.1 dX8_dueOf_64 (by decide) ?_
                    exact J80 0 (by unfold pay1; rw [if_pos (by omega), h57b]; rfl) _ _ _ hw hS (lv_sub hl [0, 1, 2, 3, 4, 5] rfl)
                  · have hw : Wo g M H := em57 ▸ hw
                    rw [er57]
                    refine x_if_eq (tgt := 67) C ⟨by decide, by decide⟩ dX8_dueOf_60 (by decide) (fun _ => ?_) (fun h => absurd h (by decide))
                    have hsk := sighA_in v n nt E pq h
                    refine lv_aload_n C.1 C.2.1 dX8_dueOf_67 rfl (lv_at hl 0 rfl) ?_
                    refine g8 C hw 70 (by omega) rfl 29 (by decide) mw_853 (svr (hF.2 _)) dX8_dueOf_68 ?_
                    refine lv_bipush (v := II 6) C.1 C.2.1 dX8_dueOf_71 (by decide) ?_
                    refine lv_iload C.1 C.2.1 dX8_dueOf_73 (lv_at hl 4 rfl) ?_
                    refine x_imul C dX8_dueOf_75 ?_
                    refine lv_iload C.1 C.2.1 dX8_dueOf_76 (lv_at hl 5 rfl) ?_
                    refine x_iadd C dX8_dueOf_78 ?_
                    refine x_iaload (L := 48) C hw 77 (by omega) rfl rfl (by omega) (by omega) (by decide) (x := sighA v n nt E pq h) ((congrArg (fun z => M (1000 * 77 + z)) (by omega)).trans (hSg pq (by omega) (by omega) h (by omega))) dX8_dueOf_79 ?_
                    exact J80 (sighA v n nt E pq h) (by unfold pay1; rw [if_pos (by omega), h57b]; rfl) _ _ _ hw hS (lv_sub hl [0, 1, 2, 3, 4, 5] rfl)
            exact L46 _ 0 (Nat.lt_succ_self _) (by omega) _ _ _ hw hS (lv_sub hl [2, 3, 4, 1, 5, 0] rfl)
  exact L7 _ 0 (Nat.lt_succ_self _) (by omega) _ _ _ hw hS (lv_sub hl [3, 4, 2, 1, 0] rfl)

set_option maxHeartbeats 4000000 in
set_option maxRecDepth 100000 in
theorem c_X8_allDue (l : Launch) (g : Gm) (M : Nat → Int) (hF : LvF g) (n : Nat) (v : Nat → Nat → Int) (nt : Int) (t : Nat) (E : Ev) (gn : Int) (hM : MB M n v nt t E gn) : CI l ({ cls := "RatedBySighsModel", name := "allDue", desc := "()I" } : Jvm.MethodName) cX8_allDue 3 .int (rmm 44 978) g M [.ref (gA g 70)] (fun r M' => r = allS v n nt E ∧ (∀ m, ¬ scm m → M' m = M m)) := by
  refine c_start (by decide) (Nat.le_of_ble_eq_true rfl) (fun p e s m below meth c ls C hr hlk hml hw hS hl => ?_)
  have hl : lv_has ls 3 [(0, .ref (gA g 70))] := hl
  generalize ([.ref (gA g 70)] : List Value).toArray = args at C ⊢
  generalize hQQ : MQ below (postI g (fun r M' => r = allS v n nt E ∧ (∀ m, ¬ scm m → M' m = M m))) args s 0 0 (ar g) = QQ
  have g_M := hw.rg
  have hN : gN g = 84 := hF.1
  refine lv_aload_n C.1 C.2.1 dX8_allDue_0 rfl (lv_at hl 0 rfl) ?_
  refine x_cv (x_runV (n := 0) C hw hS hml hl.1 70 8 (by omega) rfl (by decide) rfl (c_X8_gathers l g M hF n v nt t E gn hM) mw_979 mw_981 mw_54 mw_130 mw_982 rfl rfl (by decide +kernel) ⟨Nat.le_of_ble_eq_true rfl, Nat.le_of_ble_eq_true rfl⟩ rfl rfl (Nat.le_of_ble_eq_true rfl) dX8_allDue_1 ⟨Nat.zero_le _, Nat.zero_le _⟩) hS (fun M1 H locs hp hw hS => ?_)
  obtain ⟨h1a, h1f⟩ := hp
  have g_M1 := hw.rg
  refine lv_iconst (v := II 0) C.1 C.2.1 dX8_allDue_4 rfl ?_
  refine lv_istore_n (lv' := [(1, .int (II 0)), (0, .ref (gA g 70))]) C.1 C.2.1 dX8_allDue_5 rfl hl (by decide) rfl (fun ls hl => ?_)
  refine lv_iconst (v := II 0) C.1 C.2.1 dX8_allDue_6 rfl ?_
  refine lv_istore_n (lv' := [(2, .int (II 0)), (1, .int (II 0)), (0, .ref (gA g 70))]) C.1 C.2.1 dX8_allDue_7 rfl hl (by decide) rfl (fun ls hl => ?_)
  have L8 : ∀ (f1 : Nat) (i : Nat) (M2 : Nat → Int), (5 - i) < f1 → (i ≤ 5) → (∀ m, ¬ (70012 ≤ m ∧ m ≤ 70026) → M2 m = M1 m) → ∀ (H : Heap) (locs : List Loc) (ls : Array Slot), Wo g M2 H → va_S (ar g) s.heap H locs → lv_has ls 3 [(0, .ref (gA g 70)), (1, .int (II (sm (fun k => dueS v n nt E (k : Int)) i))), (2, .int (II (i : Int)))] → W p l e (rmm 44 978) s m args below meth c H locs 0 0 QQ (F0 m 8 ls []) := by
    intro f1
    induction f1 with
    | zero => intro i M2 hmu; exact absurd hmu (Nat.not_lt_zero _)
    | succ f1 ih =>
      intro i M2 hmu h1 hf H locs ls hw hS hl
      have ih8 := ih
      have g_M2 := hw.rg
      have hs := sm_in (f := (fun k => dueS v n nt E (k : Int))) (B := 9999) (fun q => dueS_in v n nt E q) i
      refine lv_iload_n C.1 C.2.1 dX8_allDue_8 rfl (lv_at hl 2 rfl) ?_
      refine lv_iconst (v := II 5) C.1 C.2.1 dX8_allDue_9 rfl ?_
      refine x_icmp_ge (tgt := 27) C ⟨by omega, by omega⟩ ⟨by decide, by decide⟩ dX8_allDue_10 (by decide) (fun c10 => ?_) (fun c10 => ?_)
      · refine lv_iload_n C.1 C.2.1 dX8_allDue_27 rfl (lv_at hl 1 rfl) ?_
        subst hQQ; exact x_ireturn C hr hlk hw hS ⟨by omega, by omega⟩ rfl ⟨by rw [show i = 5 by omega]; rfl, fun m hm => (hf m (by unfold scm at hm; omega)).trans (h1f m hm)⟩ dX8_allDue_28
      · have hdi := dueS_in v n nt E (i : Int)
        refine lv_iload_n C.1 C.2.1 dX8_allDue_13 rfl (lv_at hl 1 rfl) ?_
        refine lv_aload_n C.1 C.2.1 dX8_allDue_14 rfl (lv_at hl 0 rfl) ?_
        refine lv_iload_n C.1 C.2.1 dX8_allDue_15 rfl (lv_at hl 2 rfl) ?_
        refine x_ci (x_runV (n := 1) C hw hS hml hl.1 70 8 (by omega) rfl (by decide) rfl (c_X8_dueOf l g M2 hF n v nt t E gn (hM.fr (fun m hm => (hf m (by unfold scm at hm; omega)).trans (h1f m hm))) (fun pq hp hg h hh => (hf _ (by omega)).trans (h1a pq hp hg h hh).2) (i : Int) (by first | assumption | omega | exact ⟨by omega, by omega⟩ | decide)) mw_1243 mw_1245 mw_110 mw_130 mw_1246 rfl rfl (by decide +kernel) ⟨Nat.le_of_ble_eq_true rfl, Nat.le_of_ble_eq_true rfl⟩ rfl rfl (Nat.le_of_ble_eq_true rfl) dX8_allDue_16 ⟨Nat.zero_le _, Nat.zero_le _⟩) hS (fun r16 M16 H locs hr16 hp hw hS => ?_)
        obtain ⟨er16, h16f⟩ := hp
        have g_M16 := hw.rg
        rw [er16] at hr16 ⊢
        refine x_iadd C dX8_allDue_19 ?_
        refine lv_istore_n (lv' := [(1, .int (II ((sm (fun k => dueS v n nt E (k : Int)) i) + (dueS v n nt E (i : Int))))), (0, .ref (gA g 70)), (2, .int (II (i : Int)))]) C.1 C.2.1 dX8_allDue_20 rfl hl (by decide) rfl (fun ls hl => ?_)
        refine lv_iinc (v := II ((i : Int) + 1)) (lv' := [(2, .int (II ((i : Int) + 1))), (1, .int (II ((sm (fun k => dueS v n nt E (k : Int)) i) + (dueS v n nt E (i : Int))))), (0, .ref (gA g 70))]) C.1 C.2.1 dX8_allDue_21 hl (k := 2) rfl (II_add _ _) (by decide) rfl (fun ls hl => ?_)
        refine lv_goto (tgt := 8) C.1 C.2.1 dX8_allDue_24 (by decide) ?_
        exact ih8  (i + 1) M16 (by omega) (by omega) (fun m hm => (h16f m hm).trans (hf m hm)) _ _ _ hw hS (lv_sub hl [2, 1, 0] rfl)
  exact L8 _ 0 M1 (Nat.lt_succ_self _) (by omega) (fun _ _ => rfl) _ _ _ hw hS (lv_sub hl [2, 1, 0] rfl)
