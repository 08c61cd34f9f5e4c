theorem st_e {M : Nat → Int} {n k : Nat} {v : Int} (h : k = n) : stM M n v k = v := by subst h; exact st_s
def lt8 (x0 x1 x2 x3 x4 x5 x6 x7 : Int) (j : Nat) : Int := [x0, x1, x2, x3, x4, x5, x6, x7].getD j 0

set_option maxHeartbeats 4000000 in
set_option maxRecDepth 100000 in
theorem c_X8_spell (l : Launch) (g : Gm) (M : Nat → Int) (hg : 84 ≤ gN g ∧ gR g 70001 = some (gA g 71) ∧ gR g 70002 = some (gA g 72)) (a_ : Nat) (ha_ : a_ ≤ 32) (x0 : Int) (gx0 : rg x0) (x1 : Int) (gx1 : rg x1) (x2 : Int) (gx2 : rg x2) (x3 : Int) (gx3 : rg x3) (x4 : Int) (gx4 : rg x4) (x5 : Int) (gx5 : rg x5) (x6 : Int) (gx6 : rg x6) (x7 : Int) (gx7 : rg x7) : CV l ({ cls := "RatedBySighsModel", name := "spell", desc := "(IIIIIIIII)V" } : Jvm.MethodName) cX8_spell 10 (rmm 0 0) g M [.ref (gA g 70), .int (II (a_ : Int)), .int (II x0), .int (II x1), .int (II x2), .int (II x3), .int (II x4), .int (II x5), .int (II x6), .int (II x7)] (fun M' => (∀ m, ¬ (71000 + a_ ≤ m ∧ m < 71000 + a_ + 8) → M' m = M m) ∧ (∀ j, j < 8 → M' (71000 + (a_ + j)) = lt8 x0 x1 x2 x3 x4 x5 x6 x7 j)) := by
  refine c_start (by decide) (Nat.le_of_ble_eq_true rfl) (fun p e s m below meth c ls C hr hlk hml hw hS hl => ?_)
  have hl : lv_has ls 10 [(0, .ref (gA g 70)), (1, .int (II (a_ : Int))), (2, .int (II x0)), (3, .int (II x1)), (4, .int (II x2)), (5, .int (II x3)), (6, .int (II x4)), (7, .int (II x5)), (8, .int (II x6)), (9, .int (II x7))] := hl
  have g_M := hw.rg
  have hN := hg.1
  refine lv_aload_n C.1 C.2.1 dX8_spell_0 rfl (lv_at hl 0 rfl) ?_
  refine g8 C hw 70 (by omega) rfl 1 (by decide) mw_825 (svr hg.2.1) dX8_spell_1 ?_
  refine lv_iload_n C.1 C.2.1 dX8_spell_4 rfl (lv_at hl 1 rfl) ?_
  refine lv_iload_n C.1 C.2.1 dX8_spell_5 rfl (lv_at hl 2 rfl) ?_
  refine x_iastore (L := 960) C hw hS 71 (by omega) rfl rfl (by omega) (by omega) (by decide) (x := x0) gx0 dX8_spell_6 (fun H locs hw hS => ?_)
  have hw : Wo g (stM M (71000 + a_) x0) H := hw
  refine lv_aload_n C.1 C.2.1 dX8_spell_7 rfl (lv_at hl 0 rfl) ?_
  refine g8 C hw 70 (by omega) rfl 1 (by decide) mw_825 (svr hg.2.1) dX8_spell_8 ?_
  refine lv_iload_n C.1 C.2.1 dX8_spell_11 rfl (lv_at hl 1 rfl) ?_
  refine lv_iconst (v := II 1) C.1 C.2.1 dX8_spell_12 rfl ?_
  refine x_iadd C dX8_spell_13 ?_
  refine lv_iload_n C.1 C.2.1 dX8_spell_14 rfl (lv_at hl 3 rfl) ?_
  refine x_iastore (L := 960) C hw hS 71 (by omega) rfl rfl (by omega) (by omega) (by decide) (x := x1) gx1 dX8_spell_15 (fun H locs hw hS => ?_)
  have hw : Wo g (stM (stM M (71000 + a_) x0) (71000 + (a_ + 1)) x1) H := by rw [show 1000 * 71 + ((a_ : Int) + 1).toNat = 71000 + (a_ + 1) from by omega] at hw; exact hw
  refine lv_aload_n C.1 C.2.1 dX8_spell_16 rfl (lv_at hl 0 rfl) ?_
  refine g8 C hw 70 (by omega) rfl 1 (by decide) mw_825 (svr hg.2.1) dX8_spell_17 ?_
  refine lv_iload_n C.1 C.2.1 dX8_spell_20 rfl (lv_at hl 1 rfl) ?_
  refine lv_iconst (v := II 2) C.1 C.2.1 dX8_spell_21 rfl ?_
  refine x_iadd C dX8_spell_22 ?_
  refine lv_iload C.1 C.2.1 dX8_spell_23 (lv_at hl 4 rfl) ?_
  refine x_iastore (L := 960) C hw hS 71 (by omega) rfl rfl (by omega) (by omega) (by decide) (x := x2) gx2 dX8_spell_25 (fun H locs hw hS => ?_)
  have hw : Wo g (stM (stM (stM M (71000 + a_) x0) (71000 + (a_ + 1)) x1) (71000 + (a_ + 2)) x2) H := by rw [show 1000 * 71 + ((a_ : Int) + 2).toNat = 71000 + (a_ + 2) from by omega] at hw; exact hw
  refine lv_aload_n C.1 C.2.1 dX8_spell_26 rfl (lv_at hl 0 rfl) ?_
  refine g8 C hw 70 (by omega) rfl 1 (by decide) mw_825 (svr hg.2.1) dX8_spell_27 ?_
  refine lv_iload_n C.1 C.2.1 dX8_spell_30 rfl (lv_at hl 1 rfl) ?_
  refine lv_iconst (v := II 3) C.1 C.2.1 dX8_spell_31 rfl ?_
  refine x_iadd C dX8_spell_32 ?_
  refine lv_iload C.1 C.2.1 dX8_spell_33 (lv_at hl 5 rfl) ?_
  refine x_iastore (L := 960) C hw hS 71 (by omega) rfl rfl (by omega) (by omega) (by decide) (x := x3) gx3 dX8_spell_35 (fun H locs hw hS => ?_)
  have hw : Wo g (stM (stM (stM (stM M (71000 + a_) x0) (71000 + (a_ + 1)) x1) (71000 + (a_ + 2)) x2) (71000 + (a_ + 3)) x3) H := by rw [show 1000 * 71 + ((a_ : Int) + 3).toNat = 71000 + (a_ + 3) from by omega] at hw; exact hw
  refine lv_aload_n C.1 C.2.1 dX8_spell_36 rfl (lv_at hl 0 rfl) ?_
  refine g8 C hw 70 (by omega) rfl 1 (by decide) mw_825 (svr hg.2.1) dX8_spell_37 ?_
  refine lv_iload_n C.1 C.2.1 dX8_spell_40 rfl (lv_at hl 1 rfl) ?_
  refine lv_iconst (v := II 4) C.1 C.2.1 dX8_spell_41 rfl ?_
  refine x_iadd C dX8_spell_42 ?_
  refine lv_iload C.1 C.2.1 dX8_spell_43 (lv_at hl 6 rfl) ?_
  refine x_iastore (L := 960) C hw hS 71 (by omega) rfl rfl (by omega) (by omega) (by decide) (x := x4) gx4 dX8_spell_45 (fun H locs hw hS => ?_)
  have hw : Wo g (stM (stM (stM (stM (stM M (71000 + a_) x0) (71000 + (a_ + 1)) x1) (71000 + (a_ + 2)) x2) (71000 + (a_ + 3)) x3) (71000 + (a_ + 4)) x4) H := by rw [show 1000 * 71 + ((a_ : Int) + 4).toNat = 71000 + (a_ + 4) from by omega] at hw; exact hw
  refine lv_aload_n C.1 C.2.1 dX8_spell_46 rfl (lv_at hl 0 rfl) ?_
  refine g8 C hw 70 (by omega) rfl 1 (by decide) mw_825 (svr hg.2.1) dX8_spell_47 ?_
  refine lv_iload_n C.1 C.2.1 dX8_spell_50 rfl (lv_at hl 1 rfl) ?_
  refine lv_iconst (v := II 5) C.1 C.2.1 dX8_spell_51 rfl ?_
  refine x_iadd C dX8_spell_52 ?_
  refine lv_iload C.1 C.2.1 dX8_spell_53 (lv_at hl 7 rfl) ?_
  refine x_iastore (L := 960) C hw hS 71 (by omega) rfl rfl (by omega) (by omega) (by decide) (x := x5) gx5 dX8_spell_55 (fun H locs hw hS => ?_)
  have hw : Wo g (stM (stM (stM (stM (stM (stM M (71000 + a_) x0) (71000 + (a_ + 1)) x1) (71000 + (a_ + 2)) x2) (71000 + (a_ + 3)) x3) (71000 + (a_ + 4)) x4) (71000 + (a_ + 5)) x5) H := by rw [show 1000 * 71 + ((a_ : Int) + 5).toNat = 71000 + (a_ + 5) from by omega] at hw; exact hw
  refine lv_aload_n C.1 C.2.1 dX8_spell_56 rfl (lv_at hl 0 rfl) ?_
  refine g8 C hw 70 (by omega) rfl 1 (by decide) mw_825 (svr hg.2.1) dX8_spell_57 ?_
  refine lv_iload_n C.1 C.2.1 dX8_spell_60 rfl (lv_at hl 1 rfl) ?_
  refine lv_bipush (v := II 6) C.1 C.2.1 dX8_spell_61 (by decide) ?_
  refine x_iadd C dX8_spell_63 ?_
  refine lv_iload C.1 C.2.1 dX8_spell_64 (lv_at hl 8 rfl) ?_
  refine x_iastore (L := 960) C hw hS 71 (by omega) rfl rfl (by omega) (by omega) (by decide) (x := x6) gx6 dX8_spell_66 (fun H locs hw hS => ?_)
  have hw : Wo g (stM (stM (stM (stM (stM (stM (stM M (71000 + a_) x0) (71000 + (a_ + 1)) x1) (71000 + (a_ + 2)) x2) (71000 + (a_ + 3)) x3) (71000 + (a_ + 4)) x4) (71000 + (a_ + 5)) x5) (71000 + (a_ + 6)) x6) H := by rw [show 1000 * 71 + ((a_ : Int) + 6).toNat = 71000 + (a_ + 6) from by omega] at hw; exact hw
  refine lv_aload_n C.1 C.2.1 dX8_spell_67 rfl (lv_at hl 0 rfl) ?_
  refine g8 C hw 70 (by omega) rfl 1 (by decide) mw_825 (svr hg.2.1) dX8_spell_68 ?_
  refine lv_iload_n C.1 C.2.1 dX8_spell_71 rfl (lv_at hl 1 rfl) ?_
  refine lv_bipush (v := II 7) C.1 C.2.1 dX8_spell_72 (by decide) ?_
  refine x_iadd C dX8_spell_74 ?_
  refine lv_iload C.1 C.2.1 dX8_spell_75 (lv_at hl 9 rfl) ?_
  refine x_iastore (L := 960) C hw hS 71 (by omega) rfl rfl (by omega) (by omega) (by decide) (x := x7) gx7 dX8_spell_77 (fun H locs hw hS => ?_)
  have hw : Wo g (stM (stM (stM (stM (stM (stM (stM (stM M (71000 + a_) x0) (71000 + (a_ + 1)) x1) (71000 + (a_ + 2)) x2) (71000 + (a_ + 3)) x3) (71000 + (a_ + 4)) x4) (71000 + (a_ + 5)) x5) (71000 + (a_ + 6)) x6) (71000 + (a_ + 7)) x7) H := by rw [show 1000 * 71 + ((a_ : Int) + 7).toNat = 71000 + (a_ + 7) from by omega] at hw; exact hw
  exact x_return C hr hlk hw hS ⟨fun m hm => by rw [st_n (by omega), st_n (by omega), st_n (by omega), st_n (by omega), st_n (by omega), st_n (by omega), st_n (by omega), st_n (by omega)], fun j hj => by
      rcases (show j = 0 ∨ j = 1 ∨ j = 2 ∨ j = 3 ∨ j = 4 ∨ j = 5 ∨ j = 6 ∨ j = 7 by omega) with rfl | rfl | rfl | rfl | rfl | rfl | rfl | rfl
      · rw [st_n (by omega), st_n (by omega), st_n (by omega), st_n (by omega), st_n (by omega), st_n (by omega), st_n (by omega), st_e (by omega)]; rfl
      · rw [st_n (by omega), st_n (by omega), st_n (by omega), st_n (by omega), st_n (by omega), st_n (by omega), st_e (by omega)]; rfl
      · rw [st_n (by omega), st_n (by omega), st_n (by omega), st_n (by omega), st_n (by omega), st_e (by omega)]; rfl
      · rw [st_n (by omega), st_n (by omega), st_n (by omega), st_n (by omega), st_e (by omega)]; rfl
      · rw [st_n (by omega), st_n (by omega), st_n (by omega), st_e (by omega)]; rfl
      · rw [st_n (by omega), st_n (by omega), st_e (by omega)]; rfl
      · rw [st_n (by omega), st_e (by omega)]; rfl
      · rw [st_e (by omega)]; rfl⟩ dX8_spell_78

def sM (i : Nat) : Int := [115, 105, 103, 104, 115, 32, 53, 32, 45, 32, 109, 111, 111, 100, 32, 59, 32, 109, 111, 111, 100, 115, 32, 48, 32, 59, 32, 112, 97, 121, 115, 32, 109, 111, 111, 100, 32, 59, 32, 32].getD i 0
theorem sM_in : ∀ i, i < 40 → 0 ≤ sM i ∧ sM i ≤ 255 := by decide
theorem firstM_eq : txP sM 40 = .inr ([5, -1, -14], [0], [-1]) := by decide +kernel

def rhoM (ρ : Nat → Option Nat) : Nat → Option Nat := stR (stR (stR (stR (stR (stR (stR (stR (stR (stR (stR (stR (stR ρ (1000 * 70 + 1) 71) (1000 * 70 + 2) 72) (1000 * 70 + 5) 73) (1000 * 70 + 9) 74) (1000 * 70 + 10) 75) (1000 * 70 + 28) 76) (1000 * 70 + 29) 77) (1000 * 70 + 32) 78) (1000 * 70 + 33) 79) (1000 * 70 + 38) 80) (1000 * 70 + 39) 81) (1000 * 70 + 40) 82) (1000 * 70 + 41) 83

set_option maxHeartbeats 4000000 in
set_option maxRecDepth 100000 in
theorem k_X8_tail (l : Launch) (g : Gm) (M : Nat → Int) (hg : 84 ≤ gN g ∧ gR g 70001 = some (gA g 71) ∧ gR g 70002 = some (gA g 72)) {p : Program} {e : Env} {s : State} {m : MethodId} {args : Array Value} {below : List Frame} {meth : Method} {c : Code} {QQ : State → Prop} (C : Cx g p c m s args cX8_init "RatedBySighsModel") (hml : c.maxLocals = 1) {H : Heap} {locs : List Loc} {ls : Array Slot} (hw : Wo g M H) (hS : va_S (ar g) s.heap H locs) (hl : lv_has ls 1 [(0, .ref (gA g 70))]) (hend : ∀ (M' : Nat → Int) (H : Heap) (locs : List Loc) (ls : Array Slot), (TxB M' 0 sM 40 ∧ M' 70003 = 1 ∧ ∀ m, ¬ ((71000 ≤ m ∧ m < 72001) ∨ m = 70003) → M' m = M m) → Cx g p c m s args cX8_init "RatedBySighsModel" → Wo g M' H → va_S (ar g) s.heap H locs → W p l e { frames := 1, cells := 13, slots := 1474, locals := 60 } s m args below meth c H locs 13 1474 QQ (F0 m 240 ls [])) : W p l e { frames := 1, cells := 13, slots := 1474, locals := 60 } s m args below meth c H locs 13 1474 QQ (F0 m 118 ls []) := by
  have hN : 84 ≤ gN g := hg.1
  have g_M := hw.rg
  refine lv_aload_n C.1 C.2.1 dX8_init_118 rfl (lv_at hl 0 rfl) ?_
  refine lv_iconst (v := II 0) C.1 C.2.1 dX8_init_119 rfl ?_
  refine lv_bipush (v := II 115) C.1 C.2.1 dX8_init_120 (by decide) ?_
  refine lv_bipush (v := II 105) C.1 C.2.1 dX8_init_122 (by decide) ?_
  refine lv_bipush (v := II 103) C.1 C.2.1 dX8_init_124 (by decide) ?_
  refine lv_bipush (v := II 104) C.1 C.2.1 dX8_init_126 (by decide) ?_
  refine lv_bipush (v := II 115) C.1 C.2.1 dX8_init_128 (by decide) ?_
  refine lv_bipush (v := II 32) C.1 C.2.1 dX8_init_130 (by decide) ?_
  refine lv_bipush (v := II 53) C.1 C.2.1 dX8_init_132 (by decide) ?_
  refine lv_bipush (v := II 32) C.1 C.2.1 dX8_init_134 (by decide) ?_
  refine x_cv (x_runV (n := 9) C hw hS hml hl.1 70 8 (by omega) rfl (by decide) rfl (c_X8_spell l g M hg 0 (by decide) 115 ⟨by decide, by decide⟩ 105 ⟨by decide, by decide⟩ 103 ⟨by decide, by decide⟩ 104 ⟨by decide, by decide⟩ 115 ⟨by decide, by decide⟩ 32 ⟨by decide, by decide⟩ 53 ⟨by decide, by decide⟩ 32 ⟨by decide, by decide⟩) mw_821 mw_823 mw_52 mw_130 mw_824 rfl rfl (by decide +kernel) ⟨Nat.le_of_ble_eq_true rfl, Nat.le_of_ble_eq_true rfl⟩ rfl rfl (Nat.le_of_ble_eq_true rfl) dX8_init_136 ⟨Nat.le_of_ble_eq_true rfl, Nat.le_of_ble_eq_true rfl⟩) hS (fun M136 H locs hp hw hS => ?_)
  obtain ⟨h136f, h136v⟩ := hp
  have g_M136 := hw.rg
  refine lv_aload_n C.1 C.2.1 dX8_init_139 rfl (lv_at hl 0 rfl) ?_
  refine lv_bipush (v := II 8) C.1 C.2.1 dX8_init_140 (by decide) ?_
  refine lv_bipush (v := II 45) C.1 C.2.1 dX8_init_142 (by decide) ?_
  refine lv_bipush (v := II 32) C.1 C.2.1 dX8_init_144 (by decide) ?_
  refine lv_bipush (v := II 109) C.1 C.2.1 dX8_init_146 (by decide) ?_
  refine lv_bipush (v := II 111) C.1 C.2.1 dX8_init_148 (by decide) ?_
  refine lv_bipush (v := II 111) C.1 C.2.1 dX8_init_150 (by decide) ?_
  refine lv_bipush (v := II 100) C.1 C.2.1 dX8_init_152 (by decide) ?_
  refine lv_bipush (v := II 32) C.1 C.2.1 dX8_init_154 (by decide) ?_
  refine lv_bipush (v := II 59) C.1 C.2.1 dX8_init_156 (by decide) ?_
  refine x_cv (x_runV (n := 9) C hw hS hml hl.1 70 8 (by omega) rfl (by decide) rfl (c_X8_spell l g M136 hg 8 (by decide) 45 ⟨by decide, by decide⟩ 32 ⟨by decide, by decide⟩ 109 ⟨by decide, by decide⟩ 111 ⟨by decide, by decide⟩ 111 ⟨by decide, by decide⟩ 100 ⟨by decide, by decide⟩ 32 ⟨by decide, by decide⟩ 59 ⟨by decide, by decide⟩) mw_821 mw_823 mw_52 mw_130 mw_824 rfl rfl (by decide +kernel) ⟨Nat.le_of_ble_eq_true rfl, Nat.le_of_ble_eq_true rfl⟩ rfl rfl (Nat.le_of_ble_eq_true rfl) dX8_init_158 ⟨Nat.le_of_ble_eq_true rfl, Nat.le_of_ble_eq_true rfl⟩) hS (fun M158 H locs hp hw hS => ?_)
  obtain ⟨h158f, h158v⟩ := hp
  have g_M158 := hw.rg
  refine lv_aload_n C.1 C.2.1 dX8_init_161 rfl (lv_at hl 0 rfl) ?_
  refine lv_bipush (v := II 16) C.1 C.2.1 dX8_init_162 (by decide) ?_
  refine lv_bipush (v := II 32) C.1 C.2.1 dX8_init_164 (by decide) ?_
  refine lv_bipush (v := II 109) C.1 C.2.1 dX8_init_166 (by decide) ?_
  refine lv_bipush (v := II 111) C.1 C.2.1 dX8_init_168 (by decide) ?_
  refine lv_bipush (v := II 111) C.1 C.2.1 dX8_init_170 (by decide) ?_
  refine lv_bipush (v := II 100) C.1 C.2.1 dX8_init_172 (by decide) ?_
  refine lv_bipush (v := II 115) C.1 C.2.1 dX8_init_174 (by decide) ?_
  refine lv_bipush (v := II 32) C.1 C.2.1 dX8_init_176 (by decide) ?_
  refine lv_bipush (v := II 48) C.1 C.2.1 dX8_init_178 (by decide) ?_
  refine x_cv (x_runV (n := 9) C hw hS hml hl.1 70 8 (by omega) rfl (by decide) rfl (c_X8_spell l g M158 hg 16 (by decide) 32 ⟨by decide, by decide⟩ 109 ⟨by decide, by decide⟩ 111 ⟨by decide, by decide⟩ 111 ⟨by decide, by decide⟩ 100 ⟨by decide, by decide⟩ 115 ⟨by decide, by decide⟩ 32 ⟨by decide, by decide⟩ 48 ⟨by decide, by decide⟩) mw_821 mw_823 mw_52 mw_130 mw_824 rfl rfl (by decide +kernel) ⟨Nat.le_of_ble_eq_true rfl, Nat.le_of_ble_eq_true rfl⟩ rfl rfl (Nat.le_of_ble_eq_true rfl) dX8_init_180 ⟨Nat.le_of_ble_eq_true rfl, Nat.le_of_ble_eq_true rfl⟩) hS (fun M180 H locs hp hw hS => ?_)
  obtain ⟨h180f, h180v⟩ := hp
  have g_M180 := hw.rg
  refine lv_aload_n C.1 C.2.1 dX8_init_183 rfl (lv_at hl 0 rfl) ?_
  refine lv_bipush (v := II 24) C.1 C.2.1 dX8_init_184 (by decide) ?_
  refine lv_bipush (v := II 32) C.1 C.2.1 dX8_init_186 (by decide) ?_
  refine lv_bipush (v := II 59) C.1 C.2.1 dX8_init_188 (by decide) ?_
  refine lv_bipush (v := II 32) C.1 C.2.1 dX8_init_190 (by decide) ?_
  refine lv_bipush (v := II 112) C.1 C.2.1 dX8_init_192 (by decide) ?_
  refine lv_bipush (v := II 97) C.1 C.2.1 dX8_init_194 (by decide) ?_
  refine lv_bipush (v := II 121) C.1 C.2.1 dX8_init_196 (by decide) ?_
  refine lv_bipush (v := II 115) C.1 C.2.1 dX8_init_198 (by decide) ?_
  refine lv_bipush (v := II 32) C.1 C.2.1 dX8_init_200 (by decide) ?_
  refine x_cv (x_runV (n := 9) C hw hS hml hl.1 70 8 (by omega) rfl (by decide) rfl (c_X8_spell l g M180 hg 24 (by decide) 32 ⟨by decide, by decide⟩ 59 ⟨by decide, by decide⟩ 32 ⟨by decide, by decide⟩ 112 ⟨by decide, by decide⟩ 97 ⟨by decide, by decide⟩ 121 ⟨by decide, by decide⟩ 115 ⟨by decide, by decide⟩ 32 ⟨by decide, by decide⟩) mw_821 mw_823 mw_52 mw_130 mw_824 rfl rfl (by decide +kernel) ⟨Nat.le_of_ble_eq_true rfl, Nat.le_of_ble_eq_true rfl⟩ rfl rfl (Nat.le_of_ble_eq_true rfl) dX8_init_202 ⟨Nat.le_of_ble_eq_true rfl, Nat.le_of_ble_eq_true rfl⟩) hS (fun M202 H locs hp hw hS => ?_)
  obtain ⟨h202f, h202v⟩ := hp
  have g_M202 := hw.rg
  refine lv_aload_n C.1 C.2.1 dX8_init_205 rfl (lv_at hl 0 rfl) ?_
  refine lv_bipush (v := II 32) C.1 C.2.1 dX8_init_206 (by decide) ?_
  refine lv_bipush (v := II 109) C.1 C.2.1 dX8_init_208 (by decide) ?_
  refine lv_bipush (v := II 111) C.1 C.2.1 dX8_init_210 (by decide) ?_
  refine lv_bipush (v := II 111) C.1 C.2.1 dX8_init_212 (by decide) ?_
  refine lv_bipush (v := II 100) C.1 C.2.1 dX8_init_214 (by decide) ?_
  refine lv_bipush (v := II 32) C.1 C.2.1 dX8_init_216 (by decide) ?_
  refine lv_bipush (v := II 59) C.1 C.2.1 dX8_init_218 (by decide) ?_
  refine lv_bipush (v := II 32) C.1 C.2.1 dX8_init_220 (by decide) ?_
  refine lv_bipush (v := II 32) C.1 C.2.1 dX8_init_222 (by decide) ?_
  refine x_cv (x_runV (n := 9) C hw hS hml hl.1 70 8 (by omega) rfl (by decide) rfl (c_X8_spell l g M202 hg 32 (by decide) 109 ⟨by decide, by decide⟩ 111 ⟨by decide, by decide⟩ 111 ⟨by decide, by decide⟩ 100 ⟨by decide, by decide⟩ 32 ⟨by decide, by decide⟩ 59 ⟨by decide, by decide⟩ 32 ⟨by decide, by decide⟩ 32 ⟨by decide, by decide⟩) mw_821 mw_823 mw_52 mw_130 mw_824 rfl rfl (by decide +kernel) ⟨Nat.le_of_ble_eq_true rfl, Nat.le_of_ble_eq_true rfl⟩ rfl rfl (Nat.le_of_ble_eq_true rfl) dX8_init_224 ⟨Nat.le_of_ble_eq_true rfl, Nat.le_of_ble_eq_true rfl⟩) hS (fun M224 H locs hp hw hS => ?_)
  obtain ⟨h224f, h224v⟩ := hp
  have g_M224 := hw.rg
  refine lv_aload_n C.1 C.2.1 dX8_init_227 rfl (lv_at hl 0 rfl) ?_
  refine g8 C hw 70 (by omega) rfl 2 (by decide) mw_826 (svr hg.2.2) dX8_init_228 ?_
  refine lv_iconst (v := II 0) C.1 C.2.1 dX8_init_231 rfl ?_
  refine lv_bipush (v := II 40) C.1 C.2.1 dX8_init_232 (by decide) ?_
  refine x_iastore (L := 6) C hw hS 72 (by omega) rfl rfl (by omega) (by omega) (by decide) (x := 40) ⟨by decide, by decide⟩ dX8_init_234 (fun H locs hw hS => ?_)
  have hw : Wo g (stM M224 72000 40) H := hw
  refine lv_aload_n C.1 C.2.1 dX8_init_235 rfl (lv_at hl 0 rfl) ?_
  refine lv_iconst (v := II 1) C.1 C.2.1 dX8_init_236 rfl ?_
  refine p8 C hw hS 70 (by omega) rfl 3 (by decide) mw_827 rfl (x := 1) ⟨by decide, by decide⟩ (svi st_s) (tyX8_ok 3 (by decide)) rfl rfl dX8_init_237 (fun H locs hw hS => ?_)
  have hw : Wo g (stM (stM M224 72000 40) 70003 1) H := hw
  exact (by
      refine hend _ H locs ls ⟨⟨by decide, by decide, (st_n (by omega)).trans st_s, fun i hi => ⟨?_, sM_in i hi⟩⟩, st_s, fun m hm => ?_⟩ C hw hS
      · rcases (show i < 8 ∨ (8 ≤ i ∧ i < 16) ∨ (16 ≤ i ∧ i < 24) ∨ (24 ≤ i ∧ i < 32) ∨ 32 ≤ i by omega) with h | h | h | h | h
        · rw [st_n (by omega), st_n (by omega), h224f _ (by omega), h202f _ (by omega), h180f _ (by omega), h158f _ (by omega), show 71000 + (160 * 0 + i) = 71000 + (0 + (i - 0)) by omega, h136v (i - 0) (by omega)]
          have z := (by decide : ∀ r, r < 8 → lt8 115 105 103 104 115 32 53 32 r = sM (0 + r)) (i - 0) (by omega)
          rw [show 0 + (i - 0) = i by omega] at z
          exact z
        · rw [st_n (by omega), st_n (by omega), h224f _ (by omega), h202f _ (by omega), h180f _ (by omega), show 71000 + (160 * 0 + i) = 71000 + (8 + (i - 8)) by omega, h158v (i - 8) (by omega)]
          have z := (by decide : ∀ r, r < 8 → lt8 45 32 109 111 111 100 32 59 r = sM (8 + r)) (i - 8) (by omega)
          rw [show 8 + (i - 8) = i by omega] at z
          exact z
        · rw [st_n (by omega), st_n (by omega), h224f _ (by omega), h202f _ (by omega), show 71000 + (160 * 0 + i) = 71000 + (16 + (i - 16)) by omega, h180v (i - 16) (by omega)]
          have z := (by decide : ∀ r, r < 8 → lt8 32 109 111 111 100 115 32 48 r = sM (16 + r)) (i - 16) (by omega)
          rw [show 16 + (i - 16) = i by omega] at z
          exact z
        · rw [st_n (by omega), st_n (by omega), h224f _ (by omega), show 71000 + (160 * 0 + i) = 71000 + (24 + (i - 24)) by omega, h202v (i - 24) (by omega)]
          have z := (by decide : ∀ r, r < 8 → lt8 32 59 32 112 97 121 115 32 r = sM (24 + r)) (i - 24) (by omega)
          rw [show 24 + (i - 24) = i by omega] at z
          exact z
        · rw [st_n (by omega), st_n (by omega), show 71000 + (160 * 0 + i) = 71000 + (32 + (i - 32)) by omega, h224v (i - 32) (by omega)]
          have z := (by decide : ∀ r, r < 8 → lt8 109 111 111 100 32 59 32 32 r = sM (32 + r)) (i - 32) (by omega)
          rw [show 32 + (i - 32) = i by omega] at z
          exact z
      · rw [st_n (by omega), st_n (by omega), h224f m (by omega), h202f m (by omega), h180f m (by omega), h158f m (by omega), h136f m (by omega)])

set_option maxHeartbeats 4000000 in
set_option maxRecDepth 100000 in
theorem k_X8 (l : Launch) (g : Gm) (M : Nat → Int) (ρ : Nat → Option Nat) (hN : gN g = 71) (hR : Rr g ρ) (hF0 : Fr M ρ 70) : CD l ({ cls := "RatedBySighsModel", name := "<init>", desc := "()V" } : Jvm.MethodName) cX8_init 1 { frames := 1, cells := 13, slots := 1474, locals := 60 } g M [.ref (gA g 70)] (fun M' => TxB M' 0 sM 40 ∧ M' 70003 = 1 ∧ ∀ m, ¬ ((71000 ≤ m ∧ m < 72001) ∨ m = 70003) → M' m = (stM (stM M (1000 * 70 + 27) (-1)) (1000 * 70 + 34) (-1)) m) (rhoM ρ) 84 := by
  refine yd_start (by decide) (Nat.le_of_ble_eq_true rfl) (fun p e s m below meth c ls C hA hm hr hlk hml hw hS hl => ?_)
  have hl : lv_has ls 1 [(0, .ref (gA g 70))] := hl
  generalize ([.ref (gA g 70)] : List Value).toArray = args at C ⊢
  generalize hQQ : MQ below (postD g (fun M' => TxB M' 0 sM 40 ∧ M' 70003 = 1 ∧ ∀ m, ¬ ((71000 ≤ m ∧ m < 72001) ∨ m = 70003) → M' m = (stM (stM M (1000 * 70 + 27) (-1)) (1000 * 70 + 34) (-1)) m) (rhoM ρ) 84) args s 13 1474 (ar g) = QQ
  have hX : GX g g := GX.refl
  have hF : Fr M ρ 71 := hF0.up (by omega)
  refine lv_aload_n C.1 C.2.1 dX8_init_0 rfl (lv_at hl 0 rfl) ?_
  refine y_obj C mw_820 mw_139 mw_140 (hml.trans hl.1.symm) dX8_init_1 (Nat.le_of_ble_eq_true rfl) (by decide) (Nat.le_of_ble_eq_true rfl) ?_
  refine lv_aload_n C.1 C.2.1 dX8_init_4 rfl (lv_at hl 0 rfl) ?_
  refine lv_sipush (v := II 960) C.1 C.2.1 dX8_init_5 (by decide) ?_
  refine y_newI (k := 71) C hw hS hR hN 9 rfl (L := 960) rfl (by decide) hF (at_ := .int) (by decide) mw_236 (by decide) (by decide) dX8_init_8 (fun gv1 H hX1 hN hR C hw hS => ?_)
  have hl : lv_has ls 1 [(0, .ref (gA gv1 70))] := by
    have z := hl
    rw [hX1.A (k := 70) (by omega)] at z
    exact z
  rw [hX1.A (k := 70) (by omega)]
  have hX := hX.trans hX1
  have hF := hF.up (b' := 72) (by omega)
  refine y_pr8 C hw hS hR hm rfl 70 (by omega) rfl 1 (by decide) rfl mw_825 rfl 71 (by omega) (tyX8_ok 1 (by decide)) (fun _ => rfl) (fun _ => rfl) dX8_init_10 (fun gv2 H locs hX2 hN2 hR C hw hS => ?_)
  have hl : lv_has ls 1 [(0, .ref (gA gv2 70))] := by
    have z := hl
    rw [hX2.A (k := 70) (by omega)] at z
    exact z
  have hX := hX.trans hX2
  have hN := hN2.trans hN
  have hF := hF.sR (n := 1000 * 70 + 1) (q := 71) (by omega)
  refine lv_aload_n C.1 C.2.1 dX8_init_13 rfl (lv_at hl 0 rfl) ?_
  refine lv_bipush (v := II 6) C.1 C.2.1 dX8_init_14 (by decide) ?_
  refine y_newI (k := 72) C hw hS hR hN 9 rfl (L := 6) rfl (by decide) hF (at_ := .int) (by decide) mw_236 (by decide) (by decide) dX8_init_16 (fun gv3 H hX3 hN hR C hw hS => ?_)
  have hl : lv_has ls 1 [(0, .ref (gA gv3 70))] := by
    have z := hl
    rw [hX3.A (k := 70) (by omega)] at z
    exact z
  rw [hX3.A (k := 70) (by omega)]
  have hX := hX.trans hX3
  have hF := hF.up (b' := 73) (by omega)
  refine y_pr8 C hw hS hR hm rfl 70 (by omega) rfl 2 (by decide) rfl mw_826 rfl 72 (by omega) (tyX8_ok 2 (by decide)) (fun _ => rfl) (fun _ => rfl) dX8_init_18 (fun gv4 H locs hX4 hN2 hR C hw hS => ?_)
  have hl : lv_has ls 1 [(0, .ref (gA gv4 70))] := by
    have z := hl
    rw [hX4.A (k := 70) (by omega)] at z
    exact z
  have hX := hX.trans hX4
  have hN := hN2.trans hN
  have hF := hF.sR (n := 1000 * 70 + 2) (q := 72) (by omega)
  refine lv_aload_n C.1 C.2.1 dX8_init_21 rfl (lv_at hl 0 rfl) ?_
  refine lv_sipush (v := II 160) C.1 C.2.1 dX8_init_22 (by decide) ?_
  refine y_newI (k := 73) C hw hS hR hN 9 rfl (L := 160) rfl (by decide) hF (at_ := .int) (by decide) mw_236 (by decide) (by decide) dX8_init_25 (fun gv5 H hX5 hN hR C hw hS => ?_)
  have hl : lv_has ls 1 [(0, .ref (gA gv5 70))] := by
    have z := hl
    rw [hX5.A (k := 70) (by omega)] at z
    exact z
  rw [hX5.A (k := 70) (by omega)]
  have hX := hX.trans hX5
  have hF := hF.up (b' := 74) (by omega)
  refine y_pr8 C hw hS hR hm rfl 70 (by omega) rfl 5 (by decide) rfl mw_829 rfl 73 (by omega) (tyX8_ok 5 (by decide)) (fun _ => rfl) (fun _ => rfl) dX8_init_27 (fun gv6 H locs hX6 hN2 hR C hw hS => ?_)
  have hl : lv_has ls 1 [(0, .ref (gA gv6 70))] := by
    have z := hl
    rw [hX6.A (k := 70) (by omega)] at z
    exact z
  have hX := hX.trans hX6
  have hN := hN2.trans hN
  have hF := hF.sR (n := 1000 * 70 + 5) (q := 73) (by omega)
  refine lv_aload_n C.1 C.2.1 dX8_init_30 rfl (lv_at hl 0 rfl) ?_
  refine lv_bipush (v := II 8) C.1 C.2.1 dX8_init_31 (by decide) ?_
  refine y_newI (k := 74) C hw hS hR hN 9 rfl (L := 8) rfl (by decide) hF (at_ := .int) (by decide) mw_236 (by decide) (by decide) dX8_init_33 (fun gv7 H hX7 hN hR C hw hS => ?_)
  have hl : lv_has ls 1 [(0, .ref (gA gv7 70))] := by
    have z := hl
    rw [hX7.A (k := 70) (by omega)] at z
    exact z
  rw [hX7.A (k := 70) (by omega)]
  have hX := hX.trans hX7
  have hF := hF.up (b' := 75) (by omega)
  refine y_pr8 C hw hS hR hm rfl 70 (by omega) rfl 9 (by decide) rfl mw_833 rfl 74 (by omega) (tyX8_ok 9 (by decide)) (fun _ => rfl) (fun _ => rfl) dX8_init_35 (fun gv8 H locs hX8 hN2 hR C hw hS => ?_)
  have hl : lv_has ls 1 [(0, .ref (gA gv8 70))] := by
    have z := hl
    rw [hX8.A (k := 70) (by omega)] at z
    exact z
  have hX := hX.trans hX8
  have hN := hN2.trans hN
  have hF := hF.sR (n := 1000 * 70 + 9) (q := 74) (by omega)
  refine lv_aload_n C.1 C.2.1 dX8_init_38 rfl (lv_at hl 0 rfl) ?_
  refine lv_bipush (v := II 32) C.1 C.2.1 dX8_init_39 (by decide) ?_
  refine y_newI (k := 75) C hw hS hR hN 9 rfl (L := 32) rfl (by decide) hF (at_ := .int) (by decide) mw_236 (by decide) (by decide) dX8_init_41 (fun gv9 H hX9 hN hR C hw hS => ?_)
  have hl : lv_has ls 1 [(0, .ref (gA gv9 70))] := by
    have z := hl
    rw [hX9.A (k := 70) (by omega)] at z
    exact z
  rw [hX9.A (k := 70) (by omega)]
  have hX := hX.trans hX9
  have hF := hF.up (b' := 76) (by omega)
  refine y_pr8 C hw hS hR hm rfl 70 (by omega) rfl 10 (by decide) rfl mw_834 rfl 75 (by omega) (tyX8_ok 10 (by decide)) (fun _ => rfl) (fun _ => rfl) dX8_init_43 (fun gv10 H locs hX10 hN2 hR C hw hS => ?_)
  have hl : lv_has ls 1 [(0, .ref (gA gv10 70))] := by
    have z := hl
    rw [hX10.A (k := 70) (by omega)] at z
    exact z
  have hX := hX.trans hX10
  have hN := hN2.trans hN
  have hF := hF.sR (n := 1000 * 70 + 10) (q := 75) (by omega)
  refine lv_aload_n C.1 C.2.1 dX8_init_46 rfl (lv_at hl 0 rfl) ?_
  refine lv_iconst (v := II (-1)) C.1 C.2.1 dX8_init_47 rfl ?_
  refine p8 C hw hS 70 (by omega) rfl 27 (by decide) mw_851 rfl (x := (-1)) ⟨by decide, by decide⟩ (svi st_s) (tyX8_ok 27 (by decide)) rfl rfl dX8_init_48 (fun H locs hw hS => ?_)
  have hF := hF.st (n := 1000 * 70 + 27) (x := (-1)) (by omega)
  refine lv_aload_n C.1 C.2.1 dX8_init_51 rfl (lv_at hl 0 rfl) ?_
  refine lv_bipush (v := II 48) C.1 C.2.1 dX8_init_52 (by decide) ?_
  refine y_newI (k := 76) C hw hS hR hN 9 rfl (L := 48) rfl (by decide) hF (at_ := .int) (by decide) mw_236 (by decide) (by decide) dX8_init_54 (fun gv11 H hX11 hN hR C hw hS => ?_)
  have hl : lv_has ls 1 [(0, .ref (gA gv11 70))] := by
    have z := hl
    rw [hX11.A (k := 70) (by omega)] at z
    exact z
  rw [hX11.A (k := 70) (by omega)]
  have hX := hX.trans hX11
  have hF := hF.up (b' := 77) (by omega)
  refine y_pr8 C hw hS hR hm rfl 70 (by omega) rfl 28 (by decide) rfl mw_852 rfl 76 (by omega) (tyX8_ok 28 (by decide)) (fun _ => rfl) (fun _ => rfl) dX8_init_56 (fun gv12 H locs hX12 hN2 hR C hw hS => ?_)
  have hl : lv_has ls 1 [(0, .ref (gA gv12 70))] := by
    have z := hl
    rw [hX12.A (k := 70) (by omega)] at z
    exact z
  have hX := hX.trans hX12
  have hN := hN2.trans hN
  have hF := hF.sR (n := 1000 * 70 + 28) (q := 76) (by omega)
  refine lv_aload_n C.1 C.2.1 dX8_init_59 rfl (lv_at hl 0 rfl) ?_
  refine lv_bipush (v := II 48) C.1 C.2.1 dX8_init_60 (by decide) ?_
  refine y_newI (k := 77) C hw hS hR hN 9 rfl (L := 48) rfl (by decide) hF (at_ := .int) (by decide) mw_236 (by decide) (by decide) dX8_init_62 (fun gv13 H hX13 hN hR C hw hS => ?_)
  have hl : lv_has ls 1 [(0, .ref (gA gv13 70))] := by
    have z := hl
    rw [hX13.A (k := 70) (by omega)] at z
    exact z
  rw [hX13.A (k := 70) (by omega)]
  have hX := hX.trans hX13
  have hF := hF.up (b' := 78) (by omega)
  refine y_pr8 C hw hS hR hm rfl 70 (by omega) rfl 29 (by decide) rfl mw_853 rfl 77 (by omega) (tyX8_ok 29 (by decide)) (fun _ => rfl) (fun _ => rfl) dX8_init_64 (fun gv14 H locs hX14 hN2 hR C hw hS => ?_)
  have hl : lv_has ls 1 [(0, .ref (gA gv14 70))] := by
    have z := hl
    rw [hX14.A (k := 70) (by omega)] at z
    exact z
  have hX := hX.trans hX14
  have hN := hN2.trans hN
  have hF := hF.sR (n := 1000 * 70 + 29) (q := 77) (by omega)
  refine lv_aload_n C.1 C.2.1 dX8_init_67 rfl (lv_at hl 0 rfl) ?_
  refine lv_bipush (v := II 8) C.1 C.2.1 dX8_init_68 (by decide) ?_
  refine y_newI (k := 78) C hw hS hR hN 9 rfl (L := 8) rfl (by decide) hF (at_ := .int) (by decide) mw_236 (by decide) (by decide) dX8_init_70 (fun gv15 H hX15 hN hR C hw hS => ?_)
  have hl : lv_has ls 1 [(0, .ref (gA gv15 70))] := by
    have z := hl
    rw [hX15.A (k := 70) (by omega)] at z
    exact z
  rw [hX15.A (k := 70) (by omega)]
  have hX := hX.trans hX15
  have hF := hF.up (b' := 79) (by omega)
  refine y_pr8 C hw hS hR hm rfl 70 (by omega) rfl 32 (by decide) rfl mw_856 rfl 78 (by omega) (tyX8_ok 32 (by decide)) (fun _ => rfl) (fun _ => rfl) dX8_init_72 (fun gv16 H locs hX16 hN2 hR C hw hS => ?_)
  have hl : lv_has ls 1 [(0, .ref (gA gv16 70))] := by
    have z := hl
    rw [hX16.A (k := 70) (by omega)] at z
    exact z
  have hX := hX.trans hX16
  have hN := hN2.trans hN
  have hF := hF.sR (n := 1000 * 70 + 32) (q := 78) (by omega)
  refine lv_aload_n C.1 C.2.1 dX8_init_75 rfl (lv_at hl 0 rfl) ?_
  refine lv_bipush (v := II 32) C.1 C.2.1 dX8_init_76 (by decide) ?_
  refine y_newI (k := 79) C hw hS hR hN 9 rfl (L := 32) rfl (by decide) hF (at_ := .int) (by decide) mw_236 (by decide) (by decide) dX8_init_78 (fun gv17 H hX17 hN hR C hw hS => ?_)
  have hl : lv_has ls 1 [(0, .ref (gA gv17 70))] := by
    have z := hl
    rw [hX17.A (k := 70) (by omega)] at z
    exact z
  rw [hX17.A (k := 70) (by omega)]
  have hX := hX.trans hX17
  have hF := hF.up (b' := 80) (by omega)
  refine y_pr8 C hw hS hR hm rfl 70 (by omega) rfl 33 (by decide) rfl mw_857 rfl 79 (by omega) (tyX8_ok 33 (by decide)) (fun _ => rfl) (fun _ => rfl) dX8_init_80 (fun gv18 H locs hX18 hN2 hR C hw hS => ?_)
  have hl : lv_has ls 1 [(0, .ref (gA gv18 70))] := by
    have z := hl
    rw [hX18.A (k := 70) (by omega)] at z
    exact z
  have hX := hX.trans hX18
  have hN := hN2.trans hN
  have hF := hF.sR (n := 1000 * 70 + 33) (q := 79) (by omega)
  refine lv_aload_n C.1 C.2.1 dX8_init_83 rfl (lv_at hl 0 rfl) ?_
  refine lv_iconst (v := II (-1)) C.1 C.2.1 dX8_init_84 rfl ?_
  refine p8 C hw hS 70 (by omega) rfl 34 (by decide) mw_858 rfl (x := (-1)) ⟨by decide, by decide⟩ (svi st_s) (tyX8_ok 34 (by decide)) rfl rfl dX8_init_85 (fun H locs hw hS => ?_)
  have hF := hF.st (n := 1000 * 70 + 34) (x := (-1)) (by omega)
  refine lv_aload_n C.1 C.2.1 dX8_init_88 rfl (lv_at hl 0 rfl) ?_
  refine lv_iconst (v := II 4) C.1 C.2.1 dX8_init_89 rfl ?_
  refine y_newI (k := 80) C hw hS hR hN 10 rfl (L := 4) rfl (by decide) hF (at_ := .boolean) (by decide) mw_951 (by decide) (by decide) dX8_init_90 (fun gv19 H hX19 hN hR C hw hS => ?_)
  have hl : lv_has ls 1 [(0, .ref (gA gv19 70))] := by
    have z := hl
    rw [hX19.A (k := 70) (by omega)] at z
    exact z
  rw [hX19.A (k := 70) (by omega)]
  have hX := hX.trans hX19
  have hF := hF.up (b' := 81) (by omega)
  refine y_pr8 C hw hS hR hm rfl 70 (by omega) rfl 38 (by decide) rfl mw_862 rfl 80 (by omega) (tyX8_ok 38 (by decide)) (fun _ => rfl) (fun _ => rfl) dX8_init_92 (fun gv20 H locs hX20 hN2 hR C hw hS => ?_)
  have hl : lv_has ls 1 [(0, .ref (gA gv20 70))] := by
    have z := hl
    rw [hX20.A (k := 70) (by omega)] at z
    exact z
  have hX := hX.trans hX20
  have hN := hN2.trans hN
  have hF := hF.sR (n := 1000 * 70 + 38) (q := 80) (by omega)
  refine lv_aload_n C.1 C.2.1 dX8_init_95 rfl (lv_at hl 0 rfl) ?_
  refine lv_iconst (v := II 4) C.1 C.2.1 dX8_init_96 rfl ?_
  refine y_newI (k := 81) C hw hS hR hN 9 rfl (L := 4) rfl (by decide) hF (at_ := .int) (by decide) mw_236 (by decide) (by decide) dX8_init_97 (fun gv21 H hX21 hN hR C hw hS => ?_)
  have hl : lv_has ls 1 [(0, .ref (gA gv21 70))] := by
    have z := hl
    rw [hX21.A (k := 70) (by omega)] at z
    exact z
  rw [hX21.A (k := 70) (by omega)]
  have hX := hX.trans hX21
  have hF := hF.up (b' := 82) (by omega)
  refine y_pr8 C hw hS hR hm rfl 70 (by omega) rfl 39 (by decide) rfl mw_863 rfl 81 (by omega) (tyX8_ok 39 (by decide)) (fun _ => rfl) (fun _ => rfl) dX8_init_99 (fun gv22 H locs hX22 hN2 hR C hw hS => ?_)
  have hl : lv_has ls 1 [(0, .ref (gA gv22 70))] := by
    have z := hl
    rw [hX22.A (k := 70) (by omega)] at z
    exact z
  have hX := hX.trans hX22
  have hN := hN2.trans hN
  have hF := hF.sR (n := 1000 * 70 + 39) (q := 81) (by omega)
  refine lv_aload_n C.1 C.2.1 dX8_init_102 rfl (lv_at hl 0 rfl) ?_
  refine lv_iconst (v := II 4) C.1 C.2.1 dX8_init_103 rfl ?_
  refine y_newI (k := 82) C hw hS hR hN 9 rfl (L := 4) rfl (by decide) hF (at_ := .int) (by decide) mw_236 (by decide) (by decide) dX8_init_104 (fun gv23 H hX23 hN hR C hw hS => ?_)
  have hl : lv_has ls 1 [(0, .ref (gA gv23 70))] := by
    have z := hl
    rw [hX23.A (k := 70) (by omega)] at z
    exact z
  rw [hX23.A (k := 70) (by omega)]
  have hX := hX.trans hX23
  have hF := hF.up (b' := 83) (by omega)
  refine y_pr8 C hw hS hR hm rfl 70 (by omega) rfl 40 (by decide) rfl mw_864 rfl 82 (by omega) (tyX8_ok 40 (by decide)) (fun _ => rfl) (fun _ => rfl) dX8_init_106 (fun gv24 H locs hX24 hN2 hR C hw hS => ?_)
  have hl : lv_has ls 1 [(0, .ref (gA gv24 70))] := by
    have z := hl
    rw [hX24.A (k := 70) (by omega)] at z
    exact z
  have hX := hX.trans hX24
  have hN := hN2.trans hN
  have hF := hF.sR (n := 1000 * 70 + 40) (q := 82) (by omega)
  refine lv_aload_n C.1 C.2.1 dX8_init_109 rfl (lv_at hl 0 rfl) ?_
  refine lv_sipush (v := II 160) C.1 C.2.1 dX8_init_110 (by decide) ?_
  refine y_newI (k := 83) C hw hS hR hN 9 rfl (L := 160) rfl (by decide) hF (at_ := .int) (by decide) mw_236 (by decide) (by decide) dX8_init_113 (fun gv25 H hX25 hN hR C hw hS => ?_)
  have hl : lv_has ls 1 [(0, .ref (gA gv25 70))] := by
    have z := hl
    rw [hX25.A (k := 70) (by omega)] at z
    exact z
  rw [hX25.A (k := 70) (by omega)]
  have hX := hX.trans hX25
  have hF := hF.up (b' := 84) (by omega)
  refine y_pr8 C hw hS hR hm rfl 70 (by omega) rfl 41 (by decide) rfl mw_865 rfl 83 (by omega) (tyX8_ok 41 (by decide)) (fun _ => rfl) (fun _ => rfl) dX8_init_115 (fun gv26 H locs hX26 hN2 hR C hw hS => ?_)
  have hl : lv_has ls 1 [(0, .ref (gA gv26 70))] := by
    have z := hl
    rw [hX26.A (k := 70) (by omega)] at z
    exact z
  have hX := hX.trans hX26
  have hN := hN2.trans hN
  have hF := hF.sR (n := 1000 * 70 + 41) (q := 83) (by omega)
  refine k_X8_tail l gv26 (stM (stM M (1000 * 70 + 27) (-1)) (1000 * 70 + 34) (-1)) ⟨by omega, hR.ref (q := 71) (by rw [stR_n (by omega), stR_n (by omega), stR_n (by omega), stR_n (by omega), stR_n (by omega), stR_n (by omega), stR_n (by omega), stR_n (by omega), stR_n (by omega), stR_n (by omega), stR_n (by omega), stR_n (by omega), stR_s]), hR.ref (q := 72) (by rw [stR_n (by omega), stR_n (by omega), stR_n (by omega), stR_n (by omega), stR_n (by omega), stR_n (by omega), stR_n (by omega), stR_n (by omega), stR_n (by omega), stR_n (by omega), stR_n (by omega), stR_s])⟩ C hml hw hS hl ?_
  intro M2 H locs ls hP C hw hS
  subst hQQ; exact yd_end hX C hr hlk hw hS hR hN hP rfl dX8_init_240
