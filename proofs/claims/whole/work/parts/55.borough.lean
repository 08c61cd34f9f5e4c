theorem kdb {b : Nat} (hb : b = 2 ∨ b = 49) : (kd b = 1 ∧ kd (b + 1) = 11 ∧ ln (b + 1) = 8) ∧ ∀ i, i < 8 → kd (b + 2 + i) = 3 := by rcases hb with rfl | rfl <;> exact ⟨by decide, by decide⟩
/-- Borough's references when i of its people are made -/
def rhoB (b : Nat) (ρ : Nat → Option Nat) : Nat → Nat → Option Nat
  | 0 => stR ρ (1000 * b + 0) (b + 1)
  | i + 1 => stR (rhoB b ρ i) (1000 * (b + 1) + i) (b + 2 + i)
theorem rhoB_0 {b : Nat} {ρ : Nat → Option Nat} : ∀ i, i ≤ 8 → rhoB b ρ i (1000 * b + 0) = some (b + 1)
  | 0, _ => stR_s
  | i + 1, h => by rw [rhoB, stR_n (by omega)]; exact rhoB_0 i (by omega)
theorem rhoB_f {b : Nat} {ρ : Nat → Option Nat} {M : Nat → Int} (h : Fr M ρ (b + 2)) : ∀ i, i ≤ 8 → Fr M (rhoB b ρ i) (b + 2)
  | 0, _ => h.sR (by omega)
  | i + 1, hi => (rhoB_f h i (by omega)).sR (by omega)

set_option maxHeartbeats 4000000 in
theorem k_X1_loop (l : Launch) (g : Gm) (M : Nat → Int) (ρ : Nat → Option Nat) (b : Nat) (hb : b = 2 ∨ b = 49) (hF0 : Fr M ρ (b + 2)) {p : Program} {e : Env} {s : State} {m : MethodId} {args : Array Value} {below : List Frame} {meth : Method} {c : Code} {QQ : State → Prop} (hA : AOs s) (hml : c.maxLocals = 2) (hend : ∀ (gv : Gm) (H : Heap) (locs : List Loc) (ls : Array Slot), GX g gv → gN gv = b + 10 → Rr gv (rhoB b ρ 8) → Cx gv p c m s args cX1_init "RatedBySighs$Borough" → Wo gv M H → va_S (ar gv) s.heap H locs → W p l e { frames := 2, cells := 9, slots := 48, locals := 80 } s m args below meth c H locs 9 48 QQ (F0 m 60 ls [])) : ∀ (n i : Nat), i + n = 8 → ∀ (gv : Gm) (H : Heap) (locs : List Loc) (ls : Array Slot), GX g gv → gN gv = b + 2 + i → Rr gv (rhoB b ρ i) → Cx gv p c m s args cX1_init "RatedBySighs$Borough" → Wo gv M H → va_S (ar gv) s.heap H locs → lv_has ls 2 [(1, .int (II (i : Int))), (0, .ref (gA gv b))] → W p l e { frames := 2, cells := 9, slots := 48, locals := 80 } s m args below meth c H locs (1 + i) (8 + 5 * i) QQ (F0 m 35 ls [])
  | 0, i => fun hi gv H locs ls hX hN hR C hw hS hl => by
    obtain rfl : i = 8 := by omega
    refine lv_iload_n C.1 C.2.1 dX1_init_35 rfl (lv_at hl 0 rfl) ?_
    refine lv_bipush (v := II 8) C.1 C.2.1 dX1_init_36 (by decide) ?_
    refine x_icmp_ge (tgt := 60) C ⟨by decide, by decide⟩ ⟨by decide, by decide⟩ dX1_init_38 (by decide) (fun _ => ?_) (fun h => absurd (by decide) h)
    exact hend gv H locs ls hX hN hR C hw hS
  | n + 1, i => fun hi gv H locs ls hX hN hR C hw hS hl => by
    have hF : Fr M (rhoB b ρ i) (b + 2 + i) := (rhoB_f hF0 i (by omega)).up (by omega)
    refine lv_iload_n C.1 C.2.1 dX1_init_35 rfl (lv_at hl 0 rfl) ?_
    refine lv_bipush (v := II 8) C.1 C.2.1 dX1_init_36 (by decide) ?_
    refine x_icmp_ge (tgt := 60) C ⟨by omega, by omega⟩ ⟨by decide, by decide⟩ dX1_init_38 (by decide) (fun h => absurd h (by omega)) (fun _ => ?_)
    refine lv_aload_n C.1 C.2.1 dX1_init_41 rfl (lv_at hl 1 rfl) ?_
    refine g1 C hw b (by omega) (kdb hb).1.1 0 (by decide) mw_186 (svr (hR.ref (q := (b + 1)) (rhoB_0 i (by omega)))) dX1_init_42 ?_
    refine lv_iload_n C.1 C.2.1 dX1_init_45 rfl (lv_at hl 0 rfl) ?_
    refine y_new3 (k := b + 2 + i) C hw hS hR hN ((kdb hb).2 i (by omega)) hF mw_153 mw_155 mw_120 (by show _ ≤ (9 : Nat); omega) (by show _ ≤ (48 : Nat); omega) dX1_init_46 (fun gv1 H hX1 hN hR C hw hS => ?_)
    have hFn := hF
    have hl : lv_has ls 2 [(1, .int (II (i : Int))), (0, .ref (gA gv1 b))] := by
      have z := hl
      rw [hX1.A (k := b) (by omega)] at z
      exact z
    rw [hX1.A (k := b + 1) (by omega)]
    have hX := hX.trans hX1
    have hF := hF.up (b' := b + 2 + i + 1) (by omega)
    refine lv_dup C.1 C.2.1 dX1_init_49 rfl ?_
    refine y_call C hA hw hS hml hl.1 (b + 2 + i) (k_X3 l gv1 M (rhoB b ρ i) (b + 2 + i) ((kdb hb).2 i (by omega)) hN hR hFn) mn_156 mw_157 mw_120 mw_158 rfl ⟨by decide, by decide, by decide +kernel⟩ ⟨Nat.le_of_ble_eq_true rfl, Nat.le_of_ble_eq_true rfl⟩ (Nat.le_of_ble_eq_true rfl) dX1_init_50 ⟨by show _ + 0 ≤ (9 : Nat); omega, by show _ + 0 ≤ (48 : Nat); omega⟩ (fun gv2 H locs hX2 hN2 hR C hw hS => ?_)
    have hl : lv_has ls 2 [(1, .int (II (i : Int))), (0, .ref (gA gv2 b))] := by
      have z := hl
      rw [hX2.A (k := b) (by omega)] at z
      exact z
    rw [hX2.A (k := b + 2 + i) (by omega), hX2.A (k := b + 1) (by omega)]
    have hX := hX.trans hX2
    have hN := hN2
    refine y_aast C hw hS hR (b + 1) (by omega) 11 (kdb hb).1.2.1 (L := 8) (kdb hb).1.2.2 (i := i) (by omega) (by decide) 2 3 rfl (by decide) rfl (by decide) (b + 2 + i) (by omega) ((kdb hb).2 i (by omega)) dX1_init_53 (fun gv3 H locs hX3 hN2 hR C hw hS => ?_)
    have hl : lv_has ls 2 [(1, .int (II (i : Int))), (0, .ref (gA gv3 b))] := by
      have z := hl
      rw [hX3.A (k := b) (by omega)] at z
      exact z
    have hX := hX.trans hX3
    have hN := hN2.trans hN
    have hF := hF.sR (n := 1000 * (b + 1) + i) (q := (b + 2 + i)) (by omega)
    refine lv_iinc (v := II ((i : Int) + 1)) (lv' := [(1, .int (II ((i : Int) + 1))), (0, .ref (gA gv3 b))]) C.1 C.2.1 dX1_init_54 hl (k := 0) rfl (II_add _ _) (by decide) rfl (fun ls hl => ?_)
    refine lv_goto (tgt := 35) C.1 C.2.1 dX1_init_57 (by decide) ?_
    exact k_X1_loop l g M ρ b hb hF0 hA hml hend n (i + 1) (by omega) gv3 H locs ls hX (by omega) hR C hw hS hl

set_option maxHeartbeats 4000000 in
set_option maxRecDepth 100000 in
theorem k_X1 (l : Launch) (g : Gm) (M : Nat → Int) (ρ : Nat → Option Nat) (b : Nat) (hb : b = 2 ∨ b = 49) (hN : gN g = b + 1) (hR : Rr g ρ) (hF0 : Fr M ρ b) : CC l ({ cls := "RatedBySighs$Borough", name := "<init>", desc := "()V" } : Jvm.MethodName) cX1_init 2 { frames := 2, cells := 9, slots := 48, locals := 80 } g M [.ref (gA g b)] (M) (rhoB b ρ 8) (b + 10) := by
  refine y_start (by decide) (Nat.le_of_ble_eq_true rfl) (fun p e s m below meth c ls C hA hm hr hlk hml hw hS hl => ?_)
  have hl : lv_has ls 2 [(0, .ref (gA g b))] := hl
  generalize ([.ref (gA g b)] : List Value).toArray = args at C ⊢
  generalize hQQ : MQ below (pstQ g (M) (rhoB b ρ 8) (b + 10)) args s 9 48 (ar g) = QQ
  have hX : GX g g := GX.refl
  have hF : Fr M ρ (b + 1) := hF0.up (by omega)
  refine lv_aload_n C.1 C.2.1 dX1_init_0 rfl (lv_at hl 0 rfl) ?_
  refine y_obj C mw_152 mw_139 mw_140 (hml.trans hl.1.symm) dX1_init_1 (Nat.le_of_ble_eq_true rfl) (by decide) (Nat.le_of_ble_eq_true rfl) ?_
  refine lv_aload_n C.1 C.2.1 dX1_init_4 rfl (lv_at hl 0 rfl) ?_
  refine lv_bipush (v := II 8) C.1 C.2.1 dX1_init_5 (by decide) ?_
  refine y_newq (k := b + 1) C hw hS hR hN 11 (kdb hb).1.2.1 (L := 8) (kdb hb).1.2.2 (by decide) hF 2 rfl (by decide) hA.1 mw_153 (by decide) (by decide) dX1_init_7 (fun gv1 H hX1 hN hR C hw hS => ?_)
  have hl : lv_has ls 2 [(0, .ref (gA gv1 b))] := by
    have z := hl
    rw [hX1.A (k := b) (by omega)] at z
    exact z
  rw [hX1.A (k := b) (by omega)]
  have hX := hX.trans hX1
  have hF := hF.up (b' := b + 2) (by omega)
  refine y_pr1 C hw hS hR hm rfl b (by omega) (kdb hb).1.1 0 (by decide) rfl mw_186 rfl (b + 1) (by omega) (tyX1_ok 0 (by decide)) (fun _ => rfl) (fun _ => rfl) dX1_init_10 (fun gv2 H locs hX2 hN2 hR C hw hS => ?_)
  have hl : lv_has ls 2 [(0, .ref (gA gv2 b))] := by
    have z := hl
    rw [hX2.A (k := b) (by omega)] at z
    exact z
  have hX := hX.trans hX2
  have hN := hN2.trans hN
  have hF := hF.sR (n := 1000 * b + 0) (q := (b + 1)) (by omega)
  refine lv_aload_n C.1 C.2.1 dX1_init_13 rfl (lv_at hl 0 rfl) ?_
  refine lv_iconst (v := II 0) C.1 C.2.1 dX1_init_14 rfl ?_
  refine p1 C hw hS b (by omega) (kdb hb).1.1 1 (by decide) mw_189 rfl (x := 0) ⟨by decide, by decide⟩ (svi st_s) (tyX1_ok 1 (by decide)) rfl rfl dX1_init_15 (fun H locs hw hS => ?_)
  rw [st_same (by first | exact (hF0 _ (by omega)).1 | (rw [st_n (by omega)]; exact (hF0 _ (by omega)).1) | (rw [st_n (by omega), st_n (by omega)]; exact (hF0 _ (by omega)).1))] at hw
  refine lv_aload_n C.1 C.2.1 dX1_init_18 rfl (lv_at hl 0 rfl) ?_
  refine lv_iconst (v := II 0) C.1 C.2.1 dX1_init_19 rfl ?_
  refine p1 C hw hS b (by omega) (kdb hb).1.1 2 (by decide) mw_192 rfl (x := 0) ⟨by decide, by decide⟩ (svi st_s) (tyX1_ok 2 (by decide)) rfl rfl dX1_init_20 (fun H locs hw hS => ?_)
  rw [st_same (by first | exact (hF0 _ (by omega)).1 | (rw [st_n (by omega)]; exact (hF0 _ (by omega)).1) | (rw [st_n (by omega), st_n (by omega)]; exact (hF0 _ (by omega)).1))] at hw
  refine lv_aload_n C.1 C.2.1 dX1_init_23 rfl (lv_at hl 0 rfl) ?_
  refine lv_iconst (v := II 0) C.1 C.2.1 dX1_init_24 rfl ?_
  refine p1 C hw hS b (by omega) (kdb hb).1.1 3 (by decide) mw_195 rfl (x := 0) ⟨by decide, by decide⟩ (svi st_s) (tyX1_ok 3 (by decide)) rfl rfl dX1_init_25 (fun H locs hw hS => ?_)
  rw [st_same (by first | exact (hF0 _ (by omega)).1 | (rw [st_n (by omega)]; exact (hF0 _ (by omega)).1) | (rw [st_n (by omega), st_n (by omega)]; exact (hF0 _ (by omega)).1))] at hw
  refine lv_aload_n C.1 C.2.1 dX1_init_28 rfl (lv_at hl 0 rfl) ?_
  refine lv_iconst (v := II 0) C.1 C.2.1 dX1_init_29 rfl ?_
  refine p1 C hw hS b (by omega) (kdb hb).1.1 4 (by decide) mw_197 rfl (x := 0) ⟨by decide, by decide⟩ (svi st_s) (tyX1_ok 4 (by decide)) rfl rfl dX1_init_30 (fun H locs hw hS => ?_)
  rw [st_same (by first | exact (hF0 _ (by omega)).1 | (rw [st_n (by omega)]; exact (hF0 _ (by omega)).1) | (rw [st_n (by omega), st_n (by omega)]; exact (hF0 _ (by omega)).1))] at hw
  refine lv_iconst (v := II 0) C.1 C.2.1 dX1_init_33 rfl ?_
  refine lv_istore_n (lv' := [(1, .int (II 0)), (0, .ref (gA gv2 b))]) C.1 C.2.1 dX1_init_34 rfl hl (by decide) rfl (fun ls hl => ?_)
  refine k_X1_loop l g M ρ b hb (hF0.up (by omega)) hA hml ?_ 8 0 rfl gv2 H locs ls hX (by omega) hR C hw hS hl
  intro gv H locs ls hX hN hR C hw hS
  subst hQQ; exact y_end hX C hr hlk hw hS hR hN rfl rfl dX1_init_60
