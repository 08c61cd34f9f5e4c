theorem x_scr {p : Program} {l : Launch} {e : Env} {Rm : Room} {s : State} {m : MethodId} {args : Array Value} {below : List Frame} {meth : Method} {c : Code} {H : Heap} {locs : List Loc} {cells slots : Nat} {Q : State → Prop} {cc : ByteArray} {own : String} {pc : Nat} {ls : Array Slot} {rest : List Value} {g : Gm} (C : Cx g p c m s args cc own) {b L : Nat} {xs : Nat → Int32} (hX : va_X b L xs s s.heap) (hbl : b < s.heap.size) (hbA : ¬ ar g b) (hS : va_S (ar g) s.heap H locs) (hL : L ≤ 3072) {i : Int} {k : Nat} (hk : i = (k : Int)) (h1 : k < L) (hdg : decode cc pc = .ok (.iaload, 1)) (kk : W p l e Rm s m args below meth c H locs cells slots Q (F0 m (pc + 1) ls (.int (II (xs k).toInt) :: rest))) : W p l e Rm s m args below meth c H locs cells slots Q (F0 m pc ls (.int (II i) :: .ref b :: rest)) := by
  subst hk
  have hr : rg (k : Int) := ⟨by omega, by omega⟩
  refine va_sld C.1 C.2.1 hX hbl hbA hS (by rw [vp_in_iff, II_toInt hr]; omega) hdg ?_
  rw [II_cl hr, Int.toNat_natCast, ← II_self (xs k)]
  rw [II_self] at kk ⊢
  exact kk
theorem few_one {n : Nat} {q z : Int} {P : Nat → Prop} {r1 r2 : Int} (h1 : (¬ ((0 ≤ q ∧ q < n) ∧ (0 ≤ z ∧ z ≤ 9999)) ∧ r1 = -2) ∨ (((0 ≤ q ∧ q < n) ∧ (0 ≤ z ∧ z ≤ 9999)) ∧ isFew P r1)) (h2 : (r2 = -2 ∧ ¬ ((0 ≤ q ∧ q < n) ∧ (0 ≤ z ∧ z ≤ 9999))) ∨ (((0 ≤ q ∧ q < n) ∧ (0 ≤ z ∧ z ≤ 9999)) ∧ isFew P r2)) : r1 = r2 := by
  rcases h1 with ⟨a1, a2⟩ | ⟨a1, a2⟩ <;> rcases h2 with ⟨b1, b2⟩ | ⟨b1, b2⟩
  · omega
  · exact absurd b1 a1
  · exact absurd a1 b2
  · exact isFew_u a2 b2
set_option maxHeartbeats 4000000 in
set_option maxRecDepth 100000 in
theorem law_0 (l : Launch) {g : Gm} (hF : LvF g) {M : Nat → Int} {n : Nat} {v : Nat → Nat → Int} {nt pd : Int} {t : Nat} {X : Txt} {I : Option Bor} {Sh : Sht} (hRC : RepC M (n, v, nt, pd, t) X I Sh) (hRM : RepM M (n, v, nt, pd, t) X I Sh) (hA : InvA (n, v, nt, pd, t) X I Sh) {p : Program} {e : Env} {s : State} {m : MethodId} {args : Array Value} {below : List Frame} {meth : Method} {c : Code} {QQ : State → Prop} (C : Cx g p c m s args cL_law "RatedBySighsLaw") (hml : c.maxLocals = 4) {b L : Nat} {xs : Nat → Int32} (hXs : va_X b L xs s s.heap) (hbl : b < s.heap.size) (hbA : ¬ ar g b) (hL : L ≤ 3072) {i : Nat} (hi : i + 6 ≤ L) {H : Heap} {locs : List Loc} {ls : Array Slot} (hw : Wo g M H) (hS : va_S (ar g) s.heap H locs) (hl : lv_has ls 4 [(0, .ref b), (1, .ref (gA g 0)), (2, .ref (gA g 70)), (3, .int (II (i : Int)))]) (hnext : ∀ (n : Nat) (v : Nat → Nat → Int) (nt pd : Int) (t : Nat) (X : Txt) (I : Option Bor) (Sh : Sht) (M' : Nat → Int) (H : Heap) (locs : List Loc) (ls : Array Slot), RepC M' (n, v, nt, pd, t) X I Sh → RepM M' (n, v, nt, pd, t) X I Sh → InvA (n, v, nt, pd, t) X I Sh → Wo g M' H → va_S (ar g) s.heap H locs → lv_has ls 4 [(0, .ref b), (1, .ref (gA g 0)), (2, .ref (gA g 70)), (3, .int (II (i : Int)))] → W p l e room_1 s m args below meth c H locs 84 3448 QQ (F0 m 1015 ls [])) : W p l e room_1 s m args below meth c H locs 84 3448 QQ (F0 m 160 ls []) := by
  have hN : gN g = 84 := hF.1
  refine lv_aload_n C.1 C.2.1 dL_law_160 rfl (lv_at hl 1 rfl) ?_
  refine lv_aload_n C.1 C.2.1 dL_law_161 rfl (lv_at hl 0 rfl) ?_
  refine lv_iload_n C.1 C.2.1 dL_law_162 rfl (lv_at hl 3 rfl) ?_
  refine lv_iconst (v := II 1) C.1 C.2.1 dL_law_163 rfl ?_
  refine x_iadd C dL_law_164 ?_
  refine x_scr C hXs hbl hbA hS hL (k := i + 1) (by omega) (by omega) dL_law_165 ?_
  refine lv_aload_n C.1 C.2.1 dL_law_166 rfl (lv_at hl 0 rfl) ?_
  refine lv_iload_n C.1 C.2.1 dL_law_167 rfl (lv_at hl 3 rfl) ?_
  refine lv_iconst (v := II 2) C.1 C.2.1 dL_law_168 rfl ?_
  refine x_iadd C dL_law_169 ?_
  refine x_scr C hXs hbl hbA hS hL (k := i + 2) (by omega) (by omega) dL_law_170 ?_
  refine lv_aload_n C.1 C.2.1 dL_law_171 rfl (lv_at hl 0 rfl) ?_
  refine lv_iload_n C.1 C.2.1 dL_law_172 rfl (lv_at hl 3 rfl) ?_
  refine lv_iconst (v := II 3) C.1 C.2.1 dL_law_173 rfl ?_
  refine x_iadd C dL_law_174 ?_
  refine x_scr C hXs hbl hbA hS hL (k := i + 3) (by omega) (by omega) dL_law_175 ?_
  refine x_ci (x_runV (n := 3) C hw hS hml hl.1 0 7 (by omega) rfl (by decide) rfl (c_X7_set l g M hF n v nt pd t X I Sh hRC hA ((xs (i + 1)).toInt) (rg_toInt _) ((xs (i + 2)).toInt) (rg_toInt _) ((xs (i + 3)).toInt) (rg_toInt _)) mw_509 mw_510 mw_511 mw_117 mw_512 rfl rfl (by decide +kernel) ⟨Nat.le_of_ble_eq_true rfl, Nat.le_of_ble_eq_true rfl⟩ rfl rfl (Nat.le_of_ble_eq_true rfl) dL_law_176 ⟨Nat.le_of_ble_eq_true rfl, Nat.le_of_ble_eq_true rfl⟩) hS (fun r1 M1 H locs hr1 hp hw hS => ?_)
  obtain ⟨er1, h1r, h1k⟩ := hp
  rw [er1] at hr1 ⊢
  refine lv_aload_n C.1 C.2.1 dL_law_179 rfl (lv_at hl 2 rfl) ?_
  refine lv_aload_n C.1 C.2.1 dL_law_180 rfl (lv_at hl 0 rfl) ?_
  refine lv_iload_n C.1 C.2.1 dL_law_181 rfl (lv_at hl 3 rfl) ?_
  refine lv_iconst (v := II 1) C.1 C.2.1 dL_law_182 rfl ?_
  refine x_iadd C dL_law_183 ?_
  refine x_scr C hXs hbl hbA hS hL (k := i + 1) (by omega) (by omega) dL_law_184 ?_
  refine lv_aload_n C.1 C.2.1 dL_law_185 rfl (lv_at hl 0 rfl) ?_
  refine lv_iload_n C.1 C.2.1 dL_law_186 rfl (lv_at hl 3 rfl) ?_
  refine lv_iconst (v := II 2) C.1 C.2.1 dL_law_187 rfl ?_
  refine x_iadd C dL_law_188 ?_
  refine x_scr C hXs hbl hbA hS hL (k := i + 2) (by omega) (by omega) dL_law_189 ?_
  refine lv_aload_n C.1 C.2.1 dL_law_190 rfl (lv_at hl 0 rfl) ?_
  refine lv_iload_n C.1 C.2.1 dL_law_191 rfl (lv_at hl 3 rfl) ?_
  refine lv_iconst (v := II 3) C.1 C.2.1 dL_law_192 rfl ?_
  refine x_iadd C dL_law_193 ?_
  refine x_scr C hXs hbl hbA hS hL (k := i + 3) (by omega) (by omega) dL_law_194 ?_
  refine x_ci (x_runV (n := 3) C hw hS hml hl.1 70 8 (by omega) rfl (by decide) rfl (c_X8_set l g M1 hF n v nt pd t X I Sh (hRM.far hA h1k) hA ((xs (i + 1)).toInt) (rg_toInt _) ((xs (i + 2)).toInt) (rg_toInt _) ((xs (i + 3)).toInt) (rg_toInt _)) mw_952 mw_953 mw_954 mw_130 mw_955 rfl rfl (by decide +kernel) ⟨Nat.le_of_ble_eq_true rfl, Nat.le_of_ble_eq_true rfl⟩ rfl rfl (Nat.le_of_ble_eq_true rfl) dL_law_195 ⟨Nat.le_of_ble_eq_true rfl, Nat.le_of_ble_eq_true rfl⟩) hS (fun r2 M2 H locs hr2 hp hw hS => ?_)
  obtain ⟨er2, h2r, h2k⟩ := hp
  rw [er2] at hr2 ⊢
  refine x_icmp_eq (tgt := 1015) C hr1 hr2 dL_law_198 (by decide) (fun _ => ?_) (fun h => absurd rfl h)
  have hB := hA.set ((xs (i + 1)).toInt) ((xs (i + 2)).toInt) ((xs (i + 3)).toInt)
  exact hnext n (v_set v n ((xs (i + 1)).toInt) ((xs (i + 2)).toInt) ((xs (i + 3)).toInt)) (nt_set n nt ((xs (i + 1)).toInt) ((xs (i + 2)).toInt) ((xs (i + 3)).toInt)) pd t X I Sh M2 H locs ls (h1r.far hB (fun m hm => h2k m (by omega))) h2r hB hw hS hl

set_option maxHeartbeats 4000000 in
set_option maxRecDepth 100000 in
theorem law_1 (l : Launch) {g : Gm} (hF : LvF g) {M : Nat → Int} {n : Nat} {v : Nat → Nat → Int} {nt pd : Int} {t : Nat} {X : Txt} {I : Option Bor} {Sh : Sht} (hRC : RepC M (n, v, nt, pd, t) X I Sh) (hRM : RepM M (n, v, nt, pd, t) X I Sh) (hA : InvA (n, v, nt, pd, t) X I Sh) {p : Program} {e : Env} {s : State} {m : MethodId} {args : Array Value} {below : List Frame} {meth : Method} {c : Code} {QQ : State → Prop} (C : Cx g p c m s args cL_law "RatedBySighsLaw") (hml : c.maxLocals = 4) {b L : Nat} {xs : Nat → Int32} (hXs : va_X b L xs s s.heap) (hbl : b < s.heap.size) (hbA : ¬ ar g b) (hL : L ≤ 3072) {i : Nat} (hi : i + 6 ≤ L) {H : Heap} {locs : List Loc} {ls : Array Slot} (hw : Wo g M H) (hS : va_S (ar g) s.heap H locs) (hl : lv_has ls 4 [(0, .ref b), (1, .ref (gA g 0)), (2, .ref (gA g 70)), (3, .int (II (i : Int)))]) (hnext : ∀ (n : Nat) (v : Nat → Nat → Int) (nt pd : Int) (t : Nat) (X : Txt) (I : Option Bor) (Sh : Sht) (M' : Nat → Int) (H : Heap) (locs : List Loc) (ls : Array Slot), RepC M' (n, v, nt, pd, t) X I Sh → RepM M' (n, v, nt, pd, t) X I Sh → InvA (n, v, nt, pd, t) X I Sh → Wo g M' H → va_S (ar g) s.heap H locs → lv_has ls 4 [(0, .ref b), (1, .ref (gA g 0)), (2, .ref (gA g 70)), (3, .int (II (i : Int)))] → W p l e room_1 s m args below meth c H locs 84 3448 QQ (F0 m 1015 ls [])) : W p l e room_1 s m args below meth c H locs 84 3448 QQ (F0 m 203 ls []) := by
  have hN : gN g = 84 := hF.1
  refine lv_aload_n C.1 C.2.1 dL_law_203 rfl (lv_at hl 1 rfl) ?_
  refine lv_aload_n C.1 C.2.1 dL_law_204 rfl (lv_at hl 0 rfl) ?_
  refine lv_iload_n C.1 C.2.1 dL_law_205 rfl (lv_at hl 3 rfl) ?_
  refine lv_iconst (v := II 1) C.1 C.2.1 dL_law_206 rfl ?_
  refine x_iadd C dL_law_207 ?_
  refine x_scr C hXs hbl hbA hS hL (k := i + 1) (by omega) (by omega) dL_law_208 ?_
  refine lv_aload_n C.1 C.2.1 dL_law_209 rfl (lv_at hl 0 rfl) ?_
  refine lv_iload_n C.1 C.2.1 dL_law_210 rfl (lv_at hl 3 rfl) ?_
  refine lv_iconst (v := II 2) C.1 C.2.1 dL_law_211 rfl ?_
  refine x_iadd C dL_law_212 ?_
  refine x_scr C hXs hbl hbA hS hL (k := i + 2) (by omega) (by omega) dL_law_213 ?_
  refine lv_aload_n C.1 C.2.1 dL_law_214 rfl (lv_at hl 0 rfl) ?_
  refine lv_iload_n C.1 C.2.1 dL_law_215 rfl (lv_at hl 3 rfl) ?_
  refine lv_iconst (v := II 3) C.1 C.2.1 dL_law_216 rfl ?_
  refine x_iadd C dL_law_217 ?_
  refine x_scr C hXs hbl hbA hS hL (k := i + 3) (by omega) (by omega) dL_law_218 ?_
  refine x_ci (x_runV (n := 3) C hw hS hml hl.1 0 7 (by omega) rfl (by decide) rfl (c_X7_tenant l g M hF n v nt pd t X I Sh hRC hA ((xs (i + 1)).toInt) (rg_toInt _) ((xs (i + 2)).toInt) (rg_toInt _) ((xs (i + 3)).toInt) (rg_toInt _)) mw_532 mw_533 mw_534 mw_117 mw_535 rfl rfl (by decide +kernel) ⟨Nat.le_of_ble_eq_true rfl, Nat.le_of_ble_eq_true rfl⟩ rfl rfl (Nat.le_of_ble_eq_true rfl) dL_law_219 ⟨Nat.le_of_ble_eq_true rfl, Nat.le_of_ble_eq_true rfl⟩) hS (fun r1 M1 H locs hr1 hp hw hS => ?_)
  obtain ⟨er1, h1r, h1k⟩ := hp
  rw [er1] at hr1 ⊢
  refine lv_aload_n C.1 C.2.1 dL_law_222 rfl (lv_at hl 2 rfl) ?_
  refine lv_aload_n C.1 C.2.1 dL_law_223 rfl (lv_at hl 0 rfl) ?_
  refine lv_iload_n C.1 C.2.1 dL_law_224 rfl (lv_at hl 3 rfl) ?_
  refine lv_iconst (v := II 1) C.1 C.2.1 dL_law_225 rfl ?_
  refine x_iadd C dL_law_226 ?_
  refine x_scr C hXs hbl hbA hS hL (k := i + 1) (by omega) (by omega) dL_law_227 ?_
  refine lv_aload_n C.1 C.2.1 dL_law_228 rfl (lv_at hl 0 rfl) ?_
  refine lv_iload_n C.1 C.2.1 dL_law_229 rfl (lv_at hl 3 rfl) ?_
  refine lv_iconst (v := II 2) C.1 C.2.1 dL_law_230 rfl ?_
  refine x_iadd C dL_law_231 ?_
  refine x_scr C hXs hbl hbA hS hL (k := i + 2) (by omega) (by omega) dL_law_232 ?_
  refine lv_aload_n C.1 C.2.1 dL_law_233 rfl (lv_at hl 0 rfl) ?_
  refine lv_iload_n C.1 C.2.1 dL_law_234 rfl (lv_at hl 3 rfl) ?_
  refine lv_iconst (v := II 3) C.1 C.2.1 dL_law_235 rfl ?_
  refine x_iadd C dL_law_236 ?_
  refine x_scr C hXs hbl hbA hS hL (k := i + 3) (by omega) (by omega) dL_law_237 ?_
  refine x_ci (x_runV (n := 3) C hw hS hml hl.1 70 8 (by omega) rfl (by decide) rfl (c_X8_tenant l g M1 hF n v nt pd t X I Sh (hRM.far hA h1k) hA ((xs (i + 1)).toInt) (rg_toInt _) ((xs (i + 2)).toInt) (rg_toInt _) ((xs (i + 3)).toInt) (rg_toInt _)) mw_1204 mw_1205 mw_1206 mw_130 mw_1207 rfl rfl (by decide +kernel) ⟨Nat.le_of_ble_eq_true rfl, Nat.le_of_ble_eq_true rfl⟩ rfl rfl (Nat.le_of_ble_eq_true rfl) dL_law_238 ⟨Nat.le_of_ble_eq_true rfl, Nat.le_of_ble_eq_true rfl⟩) hS (fun r2 M2 H locs hr2 hp hw hS => ?_)
  obtain ⟨er2, h2r, h2k⟩ := hp
  rw [er2] at hr2 ⊢
  refine x_icmp_eq (tgt := 1015) C hr1 hr2 dL_law_241 (by decide) (fun _ => ?_) (fun h => absurd rfl h)
  have hB := hA.ten ((xs (i + 1)).toInt) ((xs (i + 2)).toInt) ((xs (i + 3)).toInt)
  exact hnext (n_ten n ((xs (i + 1)).toInt) ((xs (i + 2)).toInt) ((xs (i + 3)).toInt)) (v_ten v n ((xs (i + 1)).toInt) ((xs (i + 2)).toInt) ((xs (i + 3)).toInt)) nt pd t X I Sh M2 H locs ls (h1r.far hB (fun m hm => h2k m (by omega))) h2r hB hw hS hl

set_option maxHeartbeats 4000000 in
set_option maxRecDepth 100000 in
theorem law_2 (l : Launch) {g : Gm} (hF : LvF g) {M : Nat → Int} {n : Nat} {v : Nat → Nat → Int} {nt pd : Int} {t : Nat} {X : Txt} {I : Option Bor} {Sh : Sht} (hRC : RepC M (n, v, nt, pd, t) X I Sh) (hRM : RepM M (n, v, nt, pd, t) X I Sh) (hA : InvA (n, v, nt, pd, t) X I Sh) {p : Program} {e : Env} {s : State} {m : MethodId} {args : Array Value} {below : List Frame} {meth : Method} {c : Code} {QQ : State → Prop} (C : Cx g p c m s args cL_law "RatedBySighsLaw") (hml : c.maxLocals = 4) {b L : Nat} {xs : Nat → Int32} (hXs : va_X b L xs s s.heap) (hbl : b < s.heap.size) (hbA : ¬ ar g b) (hL : L ≤ 3072) {i : Nat} (hi : i + 6 ≤ L) {H : Heap} {locs : List Loc} {ls : Array Slot} (hw : Wo g M H) (hS : va_S (ar g) s.heap H locs) (hl : lv_has ls 4 [(0, .ref b), (1, .ref (gA g 0)), (2, .ref (gA g 70)), (3, .int (II (i : Int)))]) (hnext : ∀ (n : Nat) (v : Nat → Nat → Int) (nt pd : Int) (t : Nat) (X : Txt) (I : Option Bor) (Sh : Sht) (M' : Nat → Int) (H : Heap) (locs : List Loc) (ls : Array Slot), RepC M' (n, v, nt, pd, t) X I Sh → RepM M' (n, v, nt, pd, t) X I Sh → InvA (n, v, nt, pd, t) X I Sh → Wo g M' H → va_S (ar g) s.heap H locs → lv_has ls 4 [(0, .ref b), (1, .ref (gA g 0)), (2, .ref (gA g 70)), (3, .int (II (i : Int)))] → W p l e room_1 s m args below meth c H locs 84 3448 QQ (F0 m 1015 ls [])) : W p l e room_1 s m args below meth c H locs 84 3448 QQ (F0 m 246 ls []) := by
  have hN : gN g = 84 := hF.1
  refine lv_aload_n C.1 C.2.1 dL_law_246 rfl (lv_at hl 1 rfl) ?_
  refine lv_aload_n C.1 C.2.1 dL_law_247 rfl (lv_at hl 0 rfl) ?_
  refine lv_iload_n C.1 C.2.1 dL_law_248 rfl (lv_at hl 3 rfl) ?_
  refine lv_iconst (v := II 1) C.1 C.2.1 dL_law_249 rfl ?_
  refine x_iadd C dL_law_250 ?_
  refine x_scr C hXs hbl hbA hS hL (k := i + 1) (by omega) (by omega) dL_law_251 ?_
  refine lv_aload_n C.1 C.2.1 dL_law_252 rfl (lv_at hl 0 rfl) ?_
  refine lv_iload_n C.1 C.2.1 dL_law_253 rfl (lv_at hl 3 rfl) ?_
  refine lv_iconst (v := II 2) C.1 C.2.1 dL_law_254 rfl ?_
  refine x_iadd C dL_law_255 ?_
  refine x_scr C hXs hbl hbA hS hL (k := i + 2) (by omega) (by omega) dL_law_256 ?_
  refine x_ci (x_runV (n := 2) C hw hS hml hl.1 0 7 (by omega) rfl (by decide) rfl (c_X7_told l g M hF n v nt pd t X I Sh hRC hA ((xs (i + 1)).toInt) (rg_toInt _) ((xs (i + 2)).toInt) (rg_toInt _)) mw_540 mw_541 mw_542 mw_117 mw_543 rfl rfl (by decide +kernel) ⟨Nat.le_of_ble_eq_true rfl, Nat.le_of_ble_eq_true rfl⟩ rfl rfl (Nat.le_of_ble_eq_true rfl) dL_law_257 ⟨Nat.le_of_ble_eq_true rfl, Nat.le_of_ble_eq_true rfl⟩) hS (fun r1 M1 H locs hr1 hp hw hS => ?_)
  obtain ⟨er1, h1r, h1k⟩ := hp
  rw [er1] at hr1 ⊢
  refine lv_aload_n C.1 C.2.1 dL_law_260 rfl (lv_at hl 2 rfl) ?_
  refine lv_aload_n C.1 C.2.1 dL_law_261 rfl (lv_at hl 0 rfl) ?_
  refine lv_iload_n C.1 C.2.1 dL_law_262 rfl (lv_at hl 3 rfl) ?_
  refine lv_iconst (v := II 1) C.1 C.2.1 dL_law_263 rfl ?_
  refine x_iadd C dL_law_264 ?_
  refine x_scr C hXs hbl hbA hS hL (k := i + 1) (by omega) (by omega) dL_law_265 ?_
  refine lv_aload_n C.1 C.2.1 dL_law_266 rfl (lv_at hl 0 rfl) ?_
  refine lv_iload_n C.1 C.2.1 dL_law_267 rfl (lv_at hl 3 rfl) ?_
  refine lv_iconst (v := II 2) C.1 C.2.1 dL_law_268 rfl ?_
  refine x_iadd C dL_law_269 ?_
  refine x_scr C hXs hbl hbA hS hL (k := i + 2) (by omega) (by omega) dL_law_270 ?_
  refine x_ci (x_runV (n := 2) C hw hS hml hl.1 70 8 (by omega) rfl (by decide) rfl (c_X8_told l g M1 hF n v nt pd t X I Sh (hRM.far hA h1k) hA ((xs (i + 1)).toInt) (rg_toInt _) ((xs (i + 2)).toInt) (rg_toInt _)) mw_1213 mw_971 mw_972 mw_130 mw_973 rfl rfl (by decide +kernel) ⟨Nat.le_of_ble_eq_true rfl, Nat.le_of_ble_eq_true rfl⟩ rfl rfl (Nat.le_of_ble_eq_true rfl) dL_law_271 ⟨Nat.le_of_ble_eq_true rfl, Nat.le_of_ble_eq_true rfl⟩) hS (fun r2 M2 H locs hr2 hp hw hS => ?_)
  obtain ⟨er2, h2r, h2k⟩ := hp
  rw [er2] at hr2 ⊢
  refine x_icmp_eq (tgt := 1015) C hr1 hr2 dL_law_274 (by decide) (fun _ => ?_) (fun h => absurd rfl h)
  have hB := hA
  exact hnext n v nt pd t X I Sh M2 H locs ls (h1r.far hB (fun m hm => h2k m (by omega))) h2r hB hw hS hl

set_option maxHeartbeats 4000000 in
set_option maxRecDepth 100000 in
theorem law_3 (l : Launch) {g : Gm} (hF : LvF g) {M : Nat → Int} {n : Nat} {v : Nat → Nat → Int} {nt pd : Int} {t : Nat} {X : Txt} {I : Option Bor} {Sh : Sht} (hRC : RepC M (n, v, nt, pd, t) X I Sh) (hRM : RepM M (n, v, nt, pd, t) X I Sh) (hA : InvA (n, v, nt, pd, t) X I Sh) {p : Program} {e : Env} {s : State} {m : MethodId} {args : Array Value} {below : List Frame} {meth : Method} {c : Code} {QQ : State → Prop} (C : Cx g p c m s args cL_law "RatedBySighsLaw") (hml : c.maxLocals = 4) {b L : Nat} {xs : Nat → Int32} (hXs : va_X b L xs s s.heap) (hbl : b < s.heap.size) (hbA : ¬ ar g b) (hL : L ≤ 3072) {i : Nat} (hi : i + 6 ≤ L) {H : Heap} {locs : List Loc} {ls : Array Slot} (hw : Wo g M H) (hS : va_S (ar g) s.heap H locs) (hl : lv_has ls 4 [(0, .ref b), (1, .ref (gA g 0)), (2, .ref (gA g 70)), (3, .int (II (i : Int)))]) (hnext : ∀ (n : Nat) (v : Nat → Nat → Int) (nt pd : Int) (t : Nat) (X : Txt) (I : Option Bor) (Sh : Sht) (M' : Nat → Int) (H : Heap) (locs : List Loc) (ls : Array Slot), RepC M' (n, v, nt, pd, t) X I Sh → RepM M' (n, v, nt, pd, t) X I Sh → InvA (n, v, nt, pd, t) X I Sh → Wo g M' H → va_S (ar g) s.heap H locs → lv_has ls 4 [(0, .ref b), (1, .ref (gA g 0)), (2, .ref (gA g 70)), (3, .int (II (i : Int)))] → W p l e room_1 s m args below meth c H locs 84 3448 QQ (F0 m 1015 ls [])) : W p l e room_1 s m args below meth c H locs 84 3448 QQ (F0 m 279 ls []) := by
  have hN : gN g = 84 := hF.1
  refine lv_aload_n C.1 C.2.1 dL_law_279 rfl (lv_at hl 1 rfl) ?_
  refine lv_aload_n C.1 C.2.1 dL_law_280 rfl (lv_at hl 0 rfl) ?_
  refine lv_iload_n C.1 C.2.1 dL_law_281 rfl (lv_at hl 3 rfl) ?_
  refine lv_iconst (v := II 1) C.1 C.2.1 dL_law_282 rfl ?_
  refine x_iadd C dL_law_283 ?_
  refine x_scr C hXs hbl hbA hS hL (k := i + 1) (by omega) (by omega) dL_law_284 ?_
  refine x_ci (x_runV (n := 1) C hw hS hml hl.1 0 7 (by omega) rfl (by decide) rfl (c_X7_feed l g M hF n v nt pd t X I Sh hRC hA ((xs (i + 1)).toInt) (rg_toInt _)) mw_597 mw_598 mw_599 mw_117 mw_600 rfl rfl (by decide +kernel) ⟨Nat.le_of_ble_eq_true rfl, Nat.le_of_ble_eq_true rfl⟩ rfl rfl (Nat.le_of_ble_eq_true rfl) dL_law_285 ⟨Nat.le_of_ble_eq_true rfl, Nat.le_of_ble_eq_true rfl⟩) hS (fun r1 M1 H locs hr1 hp hw hS => ?_)
  obtain ⟨er1, h1r, h1k⟩ := hp
  rw [er1] at hr1 ⊢
  refine lv_aload_n C.1 C.2.1 dL_law_288 rfl (lv_at hl 2 rfl) ?_
  refine lv_aload_n C.1 C.2.1 dL_law_289 rfl (lv_at hl 0 rfl) ?_
  refine lv_iload_n C.1 C.2.1 dL_law_290 rfl (lv_at hl 3 rfl) ?_
  refine lv_iconst (v := II 1) C.1 C.2.1 dL_law_291 rfl ?_
  refine x_iadd C dL_law_292 ?_
  refine x_scr C hXs hbl hbA hS hL (k := i + 1) (by omega) (by omega) dL_law_293 ?_
  refine x_ci (x_runV (n := 1) C hw hS hml hl.1 70 8 (by omega) rfl (by decide) rfl (c_X8_feed l g M1 hF n v nt pd t X I Sh (hRM.far hA h1k) hA ((xs (i + 1)).toInt) (rg_toInt _)) mw_1214 mw_1215 mw_1216 mw_130 mw_1217 rfl rfl (by decide +kernel) ⟨Nat.le_of_ble_eq_true rfl, Nat.le_of_ble_eq_true rfl⟩ rfl rfl (Nat.le_of_ble_eq_true rfl) dL_law_294 ⟨Nat.le_of_ble_eq_true rfl, Nat.le_of_ble_eq_true rfl⟩) hS (fun r2 M2 H locs hr2 hp hw hS => ?_)
  obtain ⟨er2, h2r, h2k⟩ := hp
  rw [er2] at hr2 ⊢
  refine x_icmp_eq (tgt := 1015) C hr1 hr2 dL_law_297 (by decide) (fun _ => ?_) (fun h => absurd rfl h)
  have hB := hA.feed ((xs (i + 1)).toInt)
  exact hnext n v nt pd t (x_feed X ((xs (i + 1)).toInt)) I Sh M2 H locs ls (h1r.far hB (fun m hm => h2k m (by omega))) h2r hB hw hS hl

set_option maxHeartbeats 4000000 in
set_option maxRecDepth 100000 in
theorem law_4 (l : Launch) {g : Gm} (hF : LvF g) {M : Nat → Int} {n : Nat} {v : Nat → Nat → Int} {nt pd : Int} {t : Nat} {X : Txt} {I : Option Bor} {Sh : Sht} (hRC : RepC M (n, v, nt, pd, t) X I Sh) (hRM : RepM M (n, v, nt, pd, t) X I Sh) (hA : InvA (n, v, nt, pd, t) X I Sh) {p : Program} {e : Env} {s : State} {m : MethodId} {args : Array Value} {below : List Frame} {meth : Method} {c : Code} {QQ : State → Prop} (C : Cx g p c m s args cL_law "RatedBySighsLaw") (hml : c.maxLocals = 4) {b L : Nat} {xs : Nat → Int32} (hXs : va_X b L xs s s.heap) (hbl : b < s.heap.size) (hbA : ¬ ar g b) (hL : L ≤ 3072) {i : Nat} (hi : i + 6 ≤ L) {H : Heap} {locs : List Loc} {ls : Array Slot} (hw : Wo g M H) (hS : va_S (ar g) s.heap H locs) (hl : lv_has ls 4 [(0, .ref b), (1, .ref (gA g 0)), (2, .ref (gA g 70)), (3, .int (II (i : Int)))]) (hnext : ∀ (n : Nat) (v : Nat → Nat → Int) (nt pd : Int) (t : Nat) (X : Txt) (I : Option Bor) (Sh : Sht) (M' : Nat → Int) (H : Heap) (locs : List Loc) (ls : Array Slot), RepC M' (n, v, nt, pd, t) X I Sh → RepM M' (n, v, nt, pd, t) X I Sh → InvA (n, v, nt, pd, t) X I Sh → Wo g M' H → va_S (ar g) s.heap H locs → lv_has ls 4 [(0, .ref b), (1, .ref (gA g 0)), (2, .ref (gA g 70)), (3, .int (II (i : Int)))] → W p l e room_1 s m args below meth c H locs 84 3448 QQ (F0 m 1015 ls [])) : W p l e room_1 s m args below meth c H locs 84 3448 QQ (F0 m 302 ls []) := by
  have hN : gN g = 84 := hF.1
  refine lv_aload_n C.1 C.2.1 dL_law_302 rfl (lv_at hl 1 rfl) ?_
  refine x_ci (x_runV (n := 0) C hw hS hml hl.1 0 7 (by omega) rfl (by decide) rfl (c_X7_text l g M hF n v nt pd t X I Sh hRC hA) mw_601 mw_602 mw_603 mw_117 mw_604 rfl rfl (by decide +kernel) ⟨Nat.le_of_ble_eq_true rfl, Nat.le_of_ble_eq_true rfl⟩ rfl rfl (Nat.le_of_ble_eq_true rfl) dL_law_303 ⟨Nat.le_of_ble_eq_true rfl, Nat.le_of_ble_eq_true rfl⟩) hS (fun r1 M1 H locs hr1 hp hw hS => ?_)
  obtain ⟨er1, h1r, h1k⟩ := hp
  rw [er1] at hr1 ⊢
  refine lv_aload_n C.1 C.2.1 dL_law_306 rfl (lv_at hl 2 rfl) ?_
  refine x_ci (x_runV (n := 0) C hw hS hml hl.1 70 8 (by omega) rfl (by decide) rfl (c_X8_text l g M1 hF n v nt pd t X I Sh (hRM.far hA h1k) hA) mw_1219 mw_1220 mw_1221 mw_130 mw_1222 rfl rfl (by decide +kernel) ⟨Nat.le_of_ble_eq_true rfl, Nat.le_of_ble_eq_true rfl⟩ rfl rfl (Nat.le_of_ble_eq_true rfl) dL_law_307 ⟨Nat.le_of_ble_eq_true rfl, Nat.le_of_ble_eq_true rfl⟩) hS (fun r2 M2 H locs hr2 hp hw hS => ?_)
  obtain ⟨er2, h2r, h2k⟩ := hp
  rw [er2] at hr2 ⊢
  refine x_icmp_eq (tgt := 1015) C hr1 hr2 dL_law_310 (by decide) (fun _ => ?_) (fun h => absurd rfl h)
  have hB := hA.text
  exact hnext n v nt pd t (x_text X) I Sh M2 H locs ls (h1r.far hB (fun m hm => h2k m (by omega))) h2r hB hw hS hl

set_option maxHeartbeats 4000000 in
set_option maxRecDepth 100000 in
theorem law_5 (l : Launch) {g : Gm} (hF : LvF g) {M : Nat → Int} {n : Nat} {v : Nat → Nat → Int} {nt pd : Int} {t : Nat} {X : Txt} {I : Option Bor} {Sh : Sht} (hRC : RepC M (n, v, nt, pd, t) X I Sh) (hRM : RepM M (n, v, nt, pd, t) X I Sh) (hA : InvA (n, v, nt, pd, t) X I Sh) {p : Program} {e : Env} {s : State} {m : MethodId} {args : Array Value} {below : List Frame} {meth : Method} {c : Code} {QQ : State → Prop} (C : Cx g p c m s args cL_law "RatedBySighsLaw") (hml : c.maxLocals = 4) {b L : Nat} {xs : Nat → Int32} (hXs : va_X b L xs s s.heap) (hbl : b < s.heap.size) (hbA : ¬ ar g b) (hL : L ≤ 3072) {i : Nat} (hi : i + 6 ≤ L) {H : Heap} {locs : List Loc} {ls : Array Slot} (hw : Wo g M H) (hS : va_S (ar g) s.heap H locs) (hl : lv_has ls 4 [(0, .ref b), (1, .ref (gA g 0)), (2, .ref (gA g 70)), (3, .int (II (i : Int)))]) (hnext : ∀ (n : Nat) (v : Nat → Nat → Int) (nt pd : Int) (t : Nat) (X : Txt) (I : Option Bor) (Sh : Sht) (M' : Nat → Int) (H : Heap) (locs : List Loc) (ls : Array Slot), RepC M' (n, v, nt, pd, t) X I Sh → RepM M' (n, v, nt, pd, t) X I Sh → InvA (n, v, nt, pd, t) X I Sh → Wo g M' H → va_S (ar g) s.heap H locs → lv_has ls 4 [(0, .ref b), (1, .ref (gA g 0)), (2, .ref (gA g 70)), (3, .int (II (i : Int)))] → W p l e room_1 s m args below meth c H locs 84 3448 QQ (F0 m 1015 ls [])) : W p l e room_1 s m args below meth c H locs 84 3448 QQ (F0 m 315 ls []) := by
  have hN : gN g = 84 := hF.1
  refine lv_aload_n C.1 C.2.1 dL_law_315 rfl (lv_at hl 1 rfl) ?_
  refine lv_aload_n C.1 C.2.1 dL_law_316 rfl (lv_at hl 0 rfl) ?_
  refine lv_iload_n C.1 C.2.1 dL_law_317 rfl (lv_at hl 3 rfl) ?_
  refine lv_iconst (v := II 1) C.1 C.2.1 dL_law_318 rfl ?_
  refine x_iadd C dL_law_319 ?_
  refine x_scr C hXs hbl hbA hS hL (k := i + 1) (by omega) (by omega) dL_law_320 ?_
  refine x_ci (x_runV (n := 1) C hw hS hml hl.1 0 7 (by omega) rfl (by decide) rfl (c_X7_force l g M hF n v nt pd t X I Sh hRC hA ((xs (i + 1)).toInt) (rg_toInt _)) mw_605 mw_606 mw_607 mw_117 mw_608 rfl rfl (by decide +kernel) ⟨Nat.le_of_ble_eq_true rfl, Nat.le_of_ble_eq_true rfl⟩ rfl rfl (Nat.le_of_ble_eq_true rfl) dL_law_321 ⟨Nat.le_of_ble_eq_true rfl, Nat.le_of_ble_eq_true rfl⟩) hS (fun r1 M1 H locs hr1 hp hw hS => ?_)
  obtain ⟨er1, h1r, h1k⟩ := hp
  rw [er1] at hr1 ⊢
  refine lv_aload_n C.1 C.2.1 dL_law_324 rfl (lv_at hl 2 rfl) ?_
  refine lv_aload_n C.1 C.2.1 dL_law_325 rfl (lv_at hl 0 rfl) ?_
  refine lv_iload_n C.1 C.2.1 dL_law_326 rfl (lv_at hl 3 rfl) ?_
  refine lv_iconst (v := II 1) C.1 C.2.1 dL_law_327 rfl ?_
  refine x_iadd C dL_law_328 ?_
  refine x_scr C hXs hbl hbA hS hL (k := i + 1) (by omega) (by omega) dL_law_329 ?_
  refine x_ci (x_runV (n := 1) C hw hS hml hl.1 70 8 (by omega) rfl (by decide) rfl (c_X8_force l g M1 hF n v nt pd t X I Sh (hRM.far hA h1k) hA ((xs (i + 1)).toInt) (rg_toInt _)) mw_1223 mw_1224 mw_1225 mw_130 mw_1226 rfl rfl (by decide +kernel) ⟨Nat.le_of_ble_eq_true rfl, Nat.le_of_ble_eq_true rfl⟩ rfl rfl (Nat.le_of_ble_eq_true rfl) dL_law_330 ⟨Nat.le_of_ble_eq_true rfl, Nat.le_of_ble_eq_true rfl⟩) hS (fun r2 M2 H locs hr2 hp hw hS => ?_)
  obtain ⟨er2, h2r, h2k⟩ := hp
  rw [er2] at hr2 ⊢
  refine x_icmp_eq (tgt := 1015) C hr1 hr2 dL_law_333 (by decide) (fun _ => ?_) (fun h => absurd rfl h)
  have hB := hA.force ((xs (i + 1)).toInt)
  exact hnext n v nt pd (t_force X t ((xs (i + 1)).toInt)) X I Sh M2 H locs ls (h1r.far hB (fun m hm => h2k m (by omega))) h2r hB hw hS hl

set_option maxHeartbeats 4000000 in
set_option maxRecDepth 100000 in
theorem law_6 (l : Launch) {g : Gm} (hF : LvF g) {M : Nat → Int} {n : Nat} {v : Nat → Nat → Int} {nt pd : Int} {t : Nat} {X : Txt} {I : Option Bor} {Sh : Sht} (hRC : RepC M (n, v, nt, pd, t) X I Sh) (hRM : RepM M (n, v, nt, pd, t) X I Sh) (hA : InvA (n, v, nt, pd, t) X I Sh) {p : Program} {e : Env} {s : State} {m : MethodId} {args : Array Value} {below : List Frame} {meth : Method} {c : Code} {QQ : State → Prop} (C : Cx g p c m s args cL_law "RatedBySighsLaw") (hml : c.maxLocals = 4) {b L : Nat} {xs : Nat → Int32} (hXs : va_X b L xs s s.heap) (hbl : b < s.heap.size) (hbA : ¬ ar g b) (hL : L ≤ 3072) {i : Nat} (hi : i + 6 ≤ L) {H : Heap} {locs : List Loc} {ls : Array Slot} (hw : Wo g M H) (hS : va_S (ar g) s.heap H locs) (hl : lv_has ls 4 [(0, .ref b), (1, .ref (gA g 0)), (2, .ref (gA g 70)), (3, .int (II (i : Int)))]) (hnext : ∀ (n : Nat) (v : Nat → Nat → Int) (nt pd : Int) (t : Nat) (X : Txt) (I : Option Bor) (Sh : Sht) (M' : Nat → Int) (H : Heap) (locs : List Loc) (ls : Array Slot), RepC M' (n, v, nt, pd, t) X I Sh → RepM M' (n, v, nt, pd, t) X I Sh → InvA (n, v, nt, pd, t) X I Sh → Wo g M' H → va_S (ar g) s.heap H locs → lv_has ls 4 [(0, .ref b), (1, .ref (gA g 0)), (2, .ref (gA g 70)), (3, .int (II (i : Int)))] → W p l e room_1 s m args below meth c H locs 84 3448 QQ (F0 m 1015 ls [])) : W p l e room_1 s m args below meth c H locs 84 3448 QQ (F0 m 338 ls []) := by
  have hN : gN g = 84 := hF.1
  refine lv_aload_n C.1 C.2.1 dL_law_338 rfl (lv_at hl 1 rfl) ?_
  refine lv_aload_n C.1 C.2.1 dL_law_339 rfl (lv_at hl 0 rfl) ?_
  refine lv_iload_n C.1 C.2.1 dL_law_340 rfl (lv_at hl 3 rfl) ?_
  refine lv_iconst (v := II 1) C.1 C.2.1 dL_law_341 rfl ?_
  refine x_iadd C dL_law_342 ?_
  refine x_scr C hXs hbl hbA hS hL (k := i + 1) (by omega) (by omega) dL_law_343 ?_
  refine lv_aload_n C.1 C.2.1 dL_law_344 rfl (lv_at hl 0 rfl) ?_
  refine lv_iload_n C.1 C.2.1 dL_law_345 rfl (lv_at hl 3 rfl) ?_
  refine lv_iconst (v := II 2) C.1 C.2.1 dL_law_346 rfl ?_
  refine x_iadd C dL_law_347 ?_
  refine x_scr C hXs hbl hbA hS hL (k := i + 2) (by omega) (by omega) dL_law_348 ?_
  refine x_ci (x_runV (n := 2) C hw hS hml hl.1 0 7 (by omega) rfl (by decide) rfl (c_X7_reed l g M hF n v nt pd t X I Sh hRC hA ((xs (i + 1)).toInt) (rg_toInt _) ((xs (i + 2)).toInt) (rg_toInt _)) mw_609 mw_610 mw_611 mw_117 mw_612 rfl rfl (by decide +kernel) ⟨Nat.le_of_ble_eq_true rfl, Nat.le_of_ble_eq_true rfl⟩ rfl rfl (Nat.le_of_ble_eq_true rfl) dL_law_349 ⟨Nat.le_of_ble_eq_true rfl, Nat.le_of_ble_eq_true rfl⟩) hS (fun r1 M1 H locs hr1 hp hw hS => ?_)
  obtain ⟨er1, h1r, h1k⟩ := hp
  rw [er1] at hr1 ⊢
  refine lv_aload_n C.1 C.2.1 dL_law_352 rfl (lv_at hl 2 rfl) ?_
  refine lv_aload_n C.1 C.2.1 dL_law_353 rfl (lv_at hl 0 rfl) ?_
  refine lv_iload_n C.1 C.2.1 dL_law_354 rfl (lv_at hl 3 rfl) ?_
  refine lv_iconst (v := II 1) C.1 C.2.1 dL_law_355 rfl ?_
  refine x_iadd C dL_law_356 ?_
  refine x_scr C hXs hbl hbA hS hL (k := i + 1) (by omega) (by omega) dL_law_357 ?_
  refine lv_aload_n C.1 C.2.1 dL_law_358 rfl (lv_at hl 0 rfl) ?_
  refine lv_iload_n C.1 C.2.1 dL_law_359 rfl (lv_at hl 3 rfl) ?_
  refine lv_iconst (v := II 2) C.1 C.2.1 dL_law_360 rfl ?_
  refine x_iadd C dL_law_361 ?_
  refine x_scr C hXs hbl hbA hS hL (k := i + 2) (by omega) (by omega) dL_law_362 ?_
  refine x_ci (x_runV (n := 2) C hw hS hml hl.1 70 8 (by omega) rfl (by decide) rfl (c_X8_reed l g M1 hF n v nt pd t X I Sh (hRM.far hA h1k) hA ((xs (i + 1)).toInt) (rg_toInt _) ((xs (i + 2)).toInt) (rg_toInt _)) mw_1227 mw_1228 mw_1229 mw_130 mw_1230 rfl rfl (by decide +kernel) ⟨Nat.le_of_ble_eq_true rfl, Nat.le_of_ble_eq_true rfl⟩ rfl rfl (Nat.le_of_ble_eq_true rfl) dL_law_363 ⟨Nat.le_of_ble_eq_true rfl, Nat.le_of_ble_eq_true rfl⟩) hS (fun r2 M2 H locs hr2 hp hw hS => ?_)
  obtain ⟨er2, h2r, h2k⟩ := hp
  rw [er2] at hr2 ⊢
  refine x_icmp_eq (tgt := 1015) C hr1 hr2 dL_law_366 (by decide) (fun _ => ?_) (fun h => absurd rfl h)
  have hB := hA
  exact hnext n v nt pd t X I Sh M2 H locs ls (h1r.far hB (fun m hm => h2k m (by omega))) h2r hB hw hS hl

set_option maxHeartbeats 4000000 in
set_option maxRecDepth 100000 in
theorem law_7 (l : Launch) {g : Gm} (hF : LvF g) {M : Nat → Int} {n : Nat} {v : Nat → Nat → Int} {nt pd : Int} {t : Nat} {X : Txt} {I : Option Bor} {Sh : Sht} (hRC : RepC M (n, v, nt, pd, t) X I Sh) (hRM : RepM M (n, v, nt, pd, t) X I Sh) (hA : InvA (n, v, nt, pd, t) X I Sh) {p : Program} {e : Env} {s : State} {m : MethodId} {args : Array Value} {below : List Frame} {meth : Method} {c : Code} {QQ : State → Prop} (C : Cx g p c m s args cL_law "RatedBySighsLaw") (hml : c.maxLocals = 4) {b L : Nat} {xs : Nat → Int32} (hXs : va_X b L xs s s.heap) (hbl : b < s.heap.size) (hbA : ¬ ar g b) (hL : L ≤ 3072) {i : Nat} (hi : i + 6 ≤ L) {H : Heap} {locs : List Loc} {ls : Array Slot} (hw : Wo g M H) (hS : va_S (ar g) s.heap H locs) (hl : lv_has ls 4 [(0, .ref b), (1, .ref (gA g 0)), (2, .ref (gA g 70)), (3, .int (II (i : Int)))]) (hnext : ∀ (n : Nat) (v : Nat → Nat → Int) (nt pd : Int) (t : Nat) (X : Txt) (I : Option Bor) (Sh : Sht) (M' : Nat → Int) (H : Heap) (locs : List Loc) (ls : Array Slot), RepC M' (n, v, nt, pd, t) X I Sh → RepM M' (n, v, nt, pd, t) X I Sh → InvA (n, v, nt, pd, t) X I Sh → Wo g M' H → va_S (ar g) s.heap H locs → lv_has ls 4 [(0, .ref b), (1, .ref (gA g 0)), (2, .ref (gA g 70)), (3, .int (II (i : Int)))] → W p l e room_1 s m args below meth c H locs 84 3448 QQ (F0 m 1015 ls [])) : W p l e room_1 s m args below meth c H locs 84 3448 QQ (F0 m 371 ls []) := by
  have hN : gN g = 84 := hF.1
  refine lv_aload_n C.1 C.2.1 dL_law_371 rfl (lv_at hl 1 rfl) ?_
  refine lv_aload_n C.1 C.2.1 dL_law_372 rfl (lv_at hl 0 rfl) ?_
  refine lv_iload_n C.1 C.2.1 dL_law_373 rfl (lv_at hl 3 rfl) ?_
  refine lv_iconst (v := II 1) C.1 C.2.1 dL_law_374 rfl ?_
  refine x_iadd C dL_law_375 ?_
  refine x_scr C hXs hbl hbA hS hL (k := i + 1) (by omega) (by omega) dL_law_376 ?_
  refine x_ci (x_runV (n := 1) C hw hS hml hl.1 0 7 (by omega) rfl (by decide) rfl (c_X7_due l g M hF n v nt pd t X I Sh hRC hA ((xs (i + 1)).toInt) (rg_toInt _)) mw_613 mw_614 mw_615 mw_117 mw_616 rfl rfl (by decide +kernel) ⟨Nat.le_of_ble_eq_true rfl, Nat.le_of_ble_eq_true rfl⟩ rfl rfl (Nat.le_of_ble_eq_true rfl) dL_law_377 ⟨Nat.le_of_ble_eq_true rfl, Nat.le_of_ble_eq_true rfl⟩) hS (fun r1 M1 H locs hr1 hp hw hS => ?_)
  obtain ⟨er1, h1r, h1k⟩ := hp
  rw [er1] at hr1 ⊢
  refine lv_aload_n C.1 C.2.1 dL_law_380 rfl (lv_at hl 2 rfl) ?_
  refine lv_aload_n C.1 C.2.1 dL_law_381 rfl (lv_at hl 0 rfl) ?_
  refine lv_iload_n C.1 C.2.1 dL_law_382 rfl (lv_at hl 3 rfl) ?_
  refine lv_iconst (v := II 1) C.1 C.2.1 dL_law_383 rfl ?_
  refine x_iadd C dL_law_384 ?_
  refine x_scr C hXs hbl hbA hS hL (k := i + 1) (by omega) (by omega) dL_law_385 ?_
  refine x_ci (x_runV (n := 1) C hw hS hml hl.1 70 8 (by omega) rfl (by decide) rfl (c_X8_due l g M1 hF n v nt pd t X I Sh (hRM.far hA h1k) hA ((xs (i + 1)).toInt) (rg_toInt _)) mw_1235 mw_1236 mw_1237 mw_130 mw_1238 rfl rfl (by decide +kernel) ⟨Nat.le_of_ble_eq_true rfl, Nat.le_of_ble_eq_true rfl⟩ rfl rfl (Nat.le_of_ble_eq_true rfl) dL_law_386 ⟨Nat.le_of_ble_eq_true rfl, Nat.le_of_ble_eq_true rfl⟩) hS (fun r2 M2 H locs hr2 hp hw hS => ?_)
  obtain ⟨er2, h2r, h2k⟩ := hp
  rw [er2] at hr2 ⊢
  refine x_icmp_eq (tgt := 1015) C hr1 hr2 dL_law_389 (by decide) (fun _ => ?_) (fun h => absurd rfl h)
  have hB := hA
  exact hnext n v nt pd t X I Sh M2 H locs ls (h1r.far hB (fun m hm => h2k m (by omega))) h2r hB hw hS hl

set_option maxHeartbeats 4000000 in
set_option maxRecDepth 100000 in
theorem law_8 (l : Launch) {g : Gm} (hF : LvF g) {M : Nat → Int} {n : Nat} {v : Nat → Nat → Int} {nt pd : Int} {t : Nat} {X : Txt} {I : Option Bor} {Sh : Sht} (hRC : RepC M (n, v, nt, pd, t) X I Sh) (hRM : RepM M (n, v, nt, pd, t) X I Sh) (hA : InvA (n, v, nt, pd, t) X I Sh) {p : Program} {e : Env} {s : State} {m : MethodId} {args : Array Value} {below : List Frame} {meth : Method} {c : Code} {QQ : State → Prop} (C : Cx g p c m s args cL_law "RatedBySighsLaw") (hml : c.maxLocals = 4) {b L : Nat} {xs : Nat → Int32} (hXs : va_X b L xs s s.heap) (hbl : b < s.heap.size) (hbA : ¬ ar g b) (hL : L ≤ 3072) {i : Nat} (hi : i + 6 ≤ L) {H : Heap} {locs : List Loc} {ls : Array Slot} (hw : Wo g M H) (hS : va_S (ar g) s.heap H locs) (hl : lv_has ls 4 [(0, .ref b), (1, .ref (gA g 0)), (2, .ref (gA g 70)), (3, .int (II (i : Int)))]) (hnext : ∀ (n : Nat) (v : Nat → Nat → Int) (nt pd : Int) (t : Nat) (X : Txt) (I : Option Bor) (Sh : Sht) (M' : Nat → Int) (H : Heap) (locs : List Loc) (ls : Array Slot), RepC M' (n, v, nt, pd, t) X I Sh → RepM M' (n, v, nt, pd, t) X I Sh → InvA (n, v, nt, pd, t) X I Sh → Wo g M' H → va_S (ar g) s.heap H locs → lv_has ls 4 [(0, .ref b), (1, .ref (gA g 0)), (2, .ref (gA g 70)), (3, .int (II (i : Int)))] → W p l e room_1 s m args below meth c H locs 84 3448 QQ (F0 m 1015 ls [])) : W p l e room_1 s m args below meth c H locs 84 3448 QQ (F0 m 394 ls []) := by
  have hN : gN g = 84 := hF.1
  refine lv_aload_n C.1 C.2.1 dL_law_394 rfl (lv_at hl 1 rfl) ?_
  refine x_ci (x_runV (n := 0) C hw hS hml hl.1 0 7 (by omega) rfl (by decide) rfl (c_X7_night l g M hF n v nt pd t X I Sh hRC hA) mw_622 mw_623 mw_624 mw_117 mw_625 rfl rfl (by decide +kernel) ⟨Nat.le_of_ble_eq_true rfl, Nat.le_of_ble_eq_true rfl⟩ rfl rfl (Nat.le_of_ble_eq_true rfl) dL_law_395 ⟨Nat.le_of_ble_eq_true rfl, Nat.le_of_ble_eq_true rfl⟩) hS (fun r1 M1 H locs hr1 hp hw hS => ?_)
  obtain ⟨er1, h1r, h1k⟩ := hp
  rw [er1] at hr1 ⊢
  refine lv_aload_n C.1 C.2.1 dL_law_398 rfl (lv_at hl 2 rfl) ?_
  refine x_ci (x_runV (n := 0) C hw hS hml hl.1 70 8 (by omega) rfl (by decide) rfl (c_X8_night l g M1 hF n v nt pd t X I Sh (hRM.far hA h1k) hA) mw_1247 mw_1248 mw_1249 mw_130 mw_1250 rfl rfl (by decide +kernel) ⟨Nat.le_of_ble_eq_true rfl, Nat.le_of_ble_eq_true rfl⟩ rfl rfl (Nat.le_of_ble_eq_true rfl) dL_law_399 ⟨Nat.le_of_ble_eq_true rfl, Nat.le_of_ble_eq_true rfl⟩) hS (fun r2 M2 H locs hr2 hp hw hS => ?_)
  obtain ⟨er2, h2r, h2k⟩ := hp
  rw [er2] at hr2 ⊢
  refine x_icmp_eq (tgt := 1015) C hr1 hr2 dL_law_402 (by decide) (fun _ => ?_) (fun h => absurd rfl h)
  have hB := hA.night
  exact hnext n v (nt_night nt) (pd_night v n nt (X.2.1 t) pd) t X I Sh M2 H locs ls (h1r.far hB (fun m hm => h2k m (by omega))) h2r hB hw hS hl

set_option maxHeartbeats 4000000 in
set_option maxRecDepth 100000 in
theorem law_9 (l : Launch) {g : Gm} (hF : LvF g) {M : Nat → Int} {n : Nat} {v : Nat → Nat → Int} {nt pd : Int} {t : Nat} {X : Txt} {I : Option Bor} {Sh : Sht} (hRC : RepC M (n, v, nt, pd, t) X I Sh) (hRM : RepM M (n, v, nt, pd, t) X I Sh) (hA : InvA (n, v, nt, pd, t) X I Sh) {p : Program} {e : Env} {s : State} {m : MethodId} {args : Array Value} {below : List Frame} {meth : Method} {c : Code} {QQ : State → Prop} (C : Cx g p c m s args cL_law "RatedBySighsLaw") (hml : c.maxLocals = 4) {b L : Nat} {xs : Nat → Int32} (hXs : va_X b L xs s s.heap) (hbl : b < s.heap.size) (hbA : ¬ ar g b) (hL : L ≤ 3072) {i : Nat} (hi : i + 6 ≤ L) {H : Heap} {locs : List Loc} {ls : Array Slot} (hw : Wo g M H) (hS : va_S (ar g) s.heap H locs) (hl : lv_has ls 4 [(0, .ref b), (1, .ref (gA g 0)), (2, .ref (gA g 70)), (3, .int (II (i : Int)))]) (hnext : ∀ (n : Nat) (v : Nat → Nat → Int) (nt pd : Int) (t : Nat) (X : Txt) (I : Option Bor) (Sh : Sht) (M' : Nat → Int) (H : Heap) (locs : List Loc) (ls : Array Slot), RepC M' (n, v, nt, pd, t) X I Sh → RepM M' (n, v, nt, pd, t) X I Sh → InvA (n, v, nt, pd, t) X I Sh → Wo g M' H → va_S (ar g) s.heap H locs → lv_has ls 4 [(0, .ref b), (1, .ref (gA g 0)), (2, .ref (gA g 70)), (3, .int (II (i : Int)))] → W p l e room_1 s m args below meth c H locs 84 3448 QQ (F0 m 1015 ls [])) : W p l e room_1 s m args below meth c H locs 84 3448 QQ (F0 m 407 ls []) := by
  have hN : gN g = 84 := hF.1
  refine lv_aload_n C.1 C.2.1 dL_law_407 rfl (lv_at hl 1 rfl) ?_
  refine lv_aload_n C.1 C.2.1 dL_law_408 rfl (lv_at hl 0 rfl) ?_
  refine lv_iload_n C.1 C.2.1 dL_law_409 rfl (lv_at hl 3 rfl) ?_
  refine lv_iconst (v := II 1) C.1 C.2.1 dL_law_410 rfl ?_
  refine x_iadd C dL_law_411 ?_
  refine x_scr C hXs hbl hbA hS hL (k := i + 1) (by omega) (by omega) dL_law_412 ?_
  refine x_ci (x_runV (n := 1) C hw hS hml hl.1 0 7 (by omega) rfl (by decide) rfl (c_X7_loudest l g M hF n v nt pd t X I Sh hRC hA ((xs (i + 1)).toInt) (rg_toInt _)) mw_627 mw_628 mw_629 mw_117 mw_630 rfl rfl (by decide +kernel) ⟨Nat.le_of_ble_eq_true rfl, Nat.le_of_ble_eq_true rfl⟩ rfl rfl (Nat.le_of_ble_eq_true rfl) dL_law_413 ⟨Nat.le_of_ble_eq_true rfl, Nat.le_of_ble_eq_true rfl⟩) hS (fun r1 M1 H locs hr1 hp hw hS => ?_)
  obtain ⟨er1, h1r, h1k⟩ := hp
  rw [er1] at hr1 ⊢
  refine lv_aload_n C.1 C.2.1 dL_law_416 rfl (lv_at hl 2 rfl) ?_
  refine lv_aload_n C.1 C.2.1 dL_law_417 rfl (lv_at hl 0 rfl) ?_
  refine lv_iload_n C.1 C.2.1 dL_law_418 rfl (lv_at hl 3 rfl) ?_
  refine lv_iconst (v := II 1) C.1 C.2.1 dL_law_419 rfl ?_
  refine x_iadd C dL_law_420 ?_
  refine x_scr C hXs hbl hbA hS hL (k := i + 1) (by omega) (by omega) dL_law_421 ?_
  refine x_ci (x_runV (n := 1) C hw hS hml hl.1 70 8 (by omega) rfl (by decide) rfl (c_X8_loudest l g M1 hF n v nt pd t X I Sh (hRM.far hA h1k) hA ((xs (i + 1)).toInt) (rg_toInt _)) mw_1252 mw_1253 mw_1254 mw_130 mw_1255 rfl rfl (by decide +kernel) ⟨Nat.le_of_ble_eq_true rfl, Nat.le_of_ble_eq_true rfl⟩ rfl rfl (Nat.le_of_ble_eq_true rfl) dL_law_422 ⟨Nat.le_of_ble_eq_true rfl, Nat.le_of_ble_eq_true rfl⟩) hS (fun r2 M2 H locs hr2 hp hw hS => ?_)
  obtain ⟨er2, h2r, h2k⟩ := hp
  rw [er2] at hr2 ⊢
  refine x_icmp_eq (tgt := 1015) C hr1 hr2 dL_law_425 (by decide) (fun _ => ?_) (fun h => absurd rfl h)
  have hB := hA
  exact hnext n v nt pd t X I Sh M2 H locs ls (h1r.far hB (fun m hm => h2k m (by omega))) h2r hB hw hS hl

set_option maxHeartbeats 4000000 in
set_option maxRecDepth 100000 in
theorem law_10 (l : Launch) {g : Gm} (hF : LvF g) {M : Nat → Int} {n : Nat} {v : Nat → Nat → Int} {nt pd : Int} {t : Nat} {X : Txt} {I : Option Bor} {Sh : Sht} (hRC : RepC M (n, v, nt, pd, t) X I Sh) (hRM : RepM M (n, v, nt, pd, t) X I Sh) (hA : InvA (n, v, nt, pd, t) X I Sh) {p : Program} {e : Env} {s : State} {m : MethodId} {args : Array Value} {below : List Frame} {meth : Method} {c : Code} {QQ : State → Prop} (C : Cx g p c m s args cL_law "RatedBySighsLaw") (hml : c.maxLocals = 4) {b L : Nat} {xs : Nat → Int32} (hXs : va_X b L xs s s.heap) (hbl : b < s.heap.size) (hbA : ¬ ar g b) (hL : L ≤ 3072) {i : Nat} (hi : i + 6 ≤ L) {H : Heap} {locs : List Loc} {ls : Array Slot} (hw : Wo g M H) (hS : va_S (ar g) s.heap H locs) (hl : lv_has ls 4 [(0, .ref b), (1, .ref (gA g 0)), (2, .ref (gA g 70)), (3, .int (II (i : Int)))]) (hnext : ∀ (n : Nat) (v : Nat → Nat → Int) (nt pd : Int) (t : Nat) (X : Txt) (I : Option Bor) (Sh : Sht) (M' : Nat → Int) (H : Heap) (locs : List Loc) (ls : Array Slot), RepC M' (n, v, nt, pd, t) X I Sh → RepM M' (n, v, nt, pd, t) X I Sh → InvA (n, v, nt, pd, t) X I Sh → Wo g M' H → va_S (ar g) s.heap H locs → lv_has ls 4 [(0, .ref b), (1, .ref (gA g 0)), (2, .ref (gA g 70)), (3, .int (II (i : Int)))] → W p l e room_1 s m args below meth c H locs 84 3448 QQ (F0 m 1015 ls [])) : W p l e room_1 s m args below meth c H locs 84 3448 QQ (F0 m 430 ls []) := by
  have hN : gN g = 84 := hF.1
  refine lv_aload_n C.1 C.2.1 dL_law_430 rfl (lv_at hl 1 rfl) ?_
  refine lv_aload_n C.1 C.2.1 dL_law_431 rfl (lv_at hl 0 rfl) ?_
  refine lv_iload_n C.1 C.2.1 dL_law_432 rfl (lv_at hl 3 rfl) ?_
  refine lv_iconst (v := II 1) C.1 C.2.1 dL_law_433 rfl ?_
  refine x_iadd C dL_law_434 ?_
  refine x_scr C hXs hbl hbA hS hL (k := i + 1) (by omega) (by omega) dL_law_435 ?_
  refine x_ci (x_runV (n := 1) C hw hS hml hl.1 0 7 (by omega) rfl (by decide) rfl (c_X7_cost l g M hF n v nt pd t X I Sh hRC hA ((xs (i + 1)).toInt) (rg_toInt _)) mw_634 mw_635 mw_636 mw_117 mw_637 rfl rfl (by decide +kernel) ⟨Nat.le_of_ble_eq_true rfl, Nat.le_of_ble_eq_true rfl⟩ rfl rfl (Nat.le_of_ble_eq_true rfl) dL_law_436 ⟨Nat.le_of_ble_eq_true rfl, Nat.le_of_ble_eq_true rfl⟩) hS (fun r1 M1 H locs hr1 hp hw hS => ?_)
  obtain ⟨er1, h1r, h1k⟩ := hp
  rw [er1] at hr1 ⊢
  refine lv_aload_n C.1 C.2.1 dL_law_439 rfl (lv_at hl 2 rfl) ?_
  refine lv_aload_n C.1 C.2.1 dL_law_440 rfl (lv_at hl 0 rfl) ?_
  refine lv_iload_n C.1 C.2.1 dL_law_441 rfl (lv_at hl 3 rfl) ?_
  refine lv_iconst (v := II 1) C.1 C.2.1 dL_law_442 rfl ?_
  refine x_iadd C dL_law_443 ?_
  refine x_scr C hXs hbl hbA hS hL (k := i + 1) (by omega) (by omega) dL_law_444 ?_
  refine x_ci (x_runV (n := 1) C hw hS hml hl.1 70 8 (by omega) rfl (by decide) rfl (c_X8_cost l g M1 hF n v nt pd t X I Sh (hRM.far hA h1k) hA ((xs (i + 1)).toInt) (rg_toInt _)) mw_1256 mw_1257 mw_1258 mw_130 mw_1259 rfl rfl (by decide +kernel) ⟨Nat.le_of_ble_eq_true rfl, Nat.le_of_ble_eq_true rfl⟩ rfl rfl (Nat.le_of_ble_eq_true rfl) dL_law_445 ⟨Nat.le_of_ble_eq_true rfl, Nat.le_of_ble_eq_true rfl⟩) hS (fun r2 M2 H locs hr2 hp hw hS => ?_)
  obtain ⟨er2, h2r, h2k⟩ := hp
  rw [er2] at hr2 ⊢
  refine x_icmp_eq (tgt := 1015) C hr1 hr2 dL_law_448 (by decide) (fun _ => ?_) (fun h => absurd rfl h)
  have hB := hA
  exact hnext n v nt pd t X I Sh M2 H locs ls (h1r.far hB (fun m hm => h2k m (by omega))) h2r hB hw hS hl

set_option maxHeartbeats 4000000 in
set_option maxRecDepth 100000 in
theorem law_11 (l : Launch) {g : Gm} (hF : LvF g) {M : Nat → Int} {n : Nat} {v : Nat → Nat → Int} {nt pd : Int} {t : Nat} {X : Txt} {I : Option Bor} {Sh : Sht} (hRC : RepC M (n, v, nt, pd, t) X I Sh) (hRM : RepM M (n, v, nt, pd, t) X I Sh) (hA : InvA (n, v, nt, pd, t) X I Sh) {p : Program} {e : Env} {s : State} {m : MethodId} {args : Array Value} {below : List Frame} {meth : Method} {c : Code} {QQ : State → Prop} (C : Cx g p c m s args cL_law "RatedBySighsLaw") (hml : c.maxLocals = 4) {b L : Nat} {xs : Nat → Int32} (hXs : va_X b L xs s s.heap) (hbl : b < s.heap.size) (hbA : ¬ ar g b) (hL : L ≤ 3072) {i : Nat} (hi : i + 6 ≤ L) {H : Heap} {locs : List Loc} {ls : Array Slot} (hw : Wo g M H) (hS : va_S (ar g) s.heap H locs) (hl : lv_has ls 4 [(0, .ref b), (1, .ref (gA g 0)), (2, .ref (gA g 70)), (3, .int (II (i : Int)))]) (hnext : ∀ (n : Nat) (v : Nat → Nat → Int) (nt pd : Int) (t : Nat) (X : Txt) (I : Option Bor) (Sh : Sht) (M' : Nat → Int) (H : Heap) (locs : List Loc) (ls : Array Slot), RepC M' (n, v, nt, pd, t) X I Sh → RepM M' (n, v, nt, pd, t) X I Sh → InvA (n, v, nt, pd, t) X I Sh → Wo g M' H → va_S (ar g) s.heap H locs → lv_has ls 4 [(0, .ref b), (1, .ref (gA g 0)), (2, .ref (gA g 70)), (3, .int (II (i : Int)))] → W p l e room_1 s m args below meth c H locs 84 3448 QQ (F0 m 1015 ls [])) : W p l e room_1 s m args below meth c H locs 84 3448 QQ (F0 m 453 ls []) := by
  have hN : gN g = 84 := hF.1
  refine lv_aload_n C.1 C.2.1 dL_law_453 rfl (lv_at hl 1 rfl) ?_
  refine lv_aload_n C.1 C.2.1 dL_law_454 rfl (lv_at hl 0 rfl) ?_
  refine lv_iload_n C.1 C.2.1 dL_law_455 rfl (lv_at hl 3 rfl) ?_
  refine lv_iconst (v := II 1) C.1 C.2.1 dL_law_456 rfl ?_
  refine x_iadd C dL_law_457 ?_
  refine x_scr C hXs hbl hbA hS hL (k := i + 1) (by omega) (by omega) dL_law_458 ?_
  refine x_ci (x_runV (n := 1) C hw hS hml hl.1 0 7 (by omega) rfl (by decide) rfl (c_X7_cheer l g M hF n v nt pd t X I Sh hRC hA ((xs (i + 1)).toInt) (rg_toInt _)) mw_643 mw_644 mw_645 mw_117 mw_646 rfl rfl (by decide +kernel) ⟨Nat.le_of_ble_eq_true rfl, Nat.le_of_ble_eq_true rfl⟩ rfl rfl (Nat.le_of_ble_eq_true rfl) dL_law_459 ⟨Nat.le_of_ble_eq_true rfl, Nat.le_of_ble_eq_true rfl⟩) hS (fun r1 M1 H locs hr1 hp hw hS => ?_)
  obtain ⟨er1, h1r, h1k⟩ := hp
  rw [er1] at hr1 ⊢
  refine lv_aload_n C.1 C.2.1 dL_law_462 rfl (lv_at hl 2 rfl) ?_
  refine lv_aload_n C.1 C.2.1 dL_law_463 rfl (lv_at hl 0 rfl) ?_
  refine lv_iload_n C.1 C.2.1 dL_law_464 rfl (lv_at hl 3 rfl) ?_
  refine lv_iconst (v := II 1) C.1 C.2.1 dL_law_465 rfl ?_
  refine x_iadd C dL_law_466 ?_
  refine x_scr C hXs hbl hbA hS hL (k := i + 1) (by omega) (by omega) dL_law_467 ?_
  refine x_ci (x_runV (n := 1) C hw hS hml hl.1 70 8 (by omega) rfl (by decide) rfl (c_X8_cheer l g M1 hF n v nt pd t X I Sh (hRM.far hA h1k) hA ((xs (i + 1)).toInt) (rg_toInt _)) mw_1261 mw_1262 mw_1263 mw_130 mw_1264 rfl rfl (by decide +kernel) ⟨Nat.le_of_ble_eq_true rfl, Nat.le_of_ble_eq_true rfl⟩ rfl rfl (Nat.le_of_ble_eq_true rfl) dL_law_468 ⟨Nat.le_of_ble_eq_true rfl, Nat.le_of_ble_eq_true rfl⟩) hS (fun r2 M2 H locs hr2 hp hw hS => ?_)
  obtain ⟨er2, h2r, h2k⟩ := hp
  rw [er2] at hr2 ⊢
  refine x_icmp_eq (tgt := 1015) C hr1 hr2 dL_law_471 (by decide) (fun _ => ?_) (fun h => absurd rfl h)
  have hB := hA
  exact hnext n v nt pd t X I Sh M2 H locs ls (h1r.far hB (fun m hm => h2k m (by omega))) h2r hB hw hS hl

set_option maxHeartbeats 4000000 in
set_option maxRecDepth 100000 in
theorem law_12 (l : Launch) {g : Gm} (hF : LvF g) {M : Nat → Int} {n : Nat} {v : Nat → Nat → Int} {nt pd : Int} {t : Nat} {X : Txt} {I : Option Bor} {Sh : Sht} (hRC : RepC M (n, v, nt, pd, t) X I Sh) (hRM : RepM M (n, v, nt, pd, t) X I Sh) (hA : InvA (n, v, nt, pd, t) X I Sh) {p : Program} {e : Env} {s : State} {m : MethodId} {args : Array Value} {below : List Frame} {meth : Method} {c : Code} {QQ : State → Prop} (C : Cx g p c m s args cL_law "RatedBySighsLaw") (hml : c.maxLocals = 4) {b L : Nat} {xs : Nat → Int32} (hXs : va_X b L xs s s.heap) (hbl : b < s.heap.size) (hbA : ¬ ar g b) (hL : L ≤ 3072) {i : Nat} (hi : i + 6 ≤ L) {H : Heap} {locs : List Loc} {ls : Array Slot} (hw : Wo g M H) (hS : va_S (ar g) s.heap H locs) (hl : lv_has ls 4 [(0, .ref b), (1, .ref (gA g 0)), (2, .ref (gA g 70)), (3, .int (II (i : Int)))]) (hnext : ∀ (n : Nat) (v : Nat → Nat → Int) (nt pd : Int) (t : Nat) (X : Txt) (I : Option Bor) (Sh : Sht) (M' : Nat → Int) (H : Heap) (locs : List Loc) (ls : Array Slot), RepC M' (n, v, nt, pd, t) X I Sh → RepM M' (n, v, nt, pd, t) X I Sh → InvA (n, v, nt, pd, t) X I Sh → Wo g M' H → va_S (ar g) s.heap H locs → lv_has ls 4 [(0, .ref b), (1, .ref (gA g 0)), (2, .ref (gA g 70)), (3, .int (II (i : Int)))] → W p l e room_1 s m args below meth c H locs 84 3448 QQ (F0 m 1015 ls [])) : W p l e room_1 s m args below meth c H locs 84 3448 QQ (F0 m 476 ls []) := by
  have hN : gN g = 84 := hF.1
  refine lv_aload_n C.1 C.2.1 dL_law_476 rfl (lv_at hl 1 rfl) ?_
  refine lv_aload_n C.1 C.2.1 dL_law_477 rfl (lv_at hl 0 rfl) ?_
  refine lv_iload_n C.1 C.2.1 dL_law_478 rfl (lv_at hl 3 rfl) ?_
  refine lv_iconst (v := II 1) C.1 C.2.1 dL_law_479 rfl ?_
  refine x_iadd C dL_law_480 ?_
  refine x_scr C hXs hbl hbA hS hL (k := i + 1) (by omega) (by omega) dL_law_481 ?_
  refine x_ci (x_runV (n := 1) C hw hS hml hl.1 0 7 (by omega) rfl (by decide) rfl (c_X7_cart l g M hF n v nt pd t X I Sh hRC hA ((xs (i + 1)).toInt) (rg_toInt _)) mw_663 mw_664 mw_665 mw_117 mw_666 rfl rfl (by decide +kernel) ⟨Nat.le_of_ble_eq_true rfl, Nat.le_of_ble_eq_true rfl⟩ rfl rfl (Nat.le_of_ble_eq_true rfl) dL_law_482 ⟨Nat.le_of_ble_eq_true rfl, Nat.le_of_ble_eq_true rfl⟩) hS (fun r1 M1 H locs hr1 hp hw hS => ?_)
  obtain ⟨er1, h1r, h1k⟩ := hp
  rw [er1] at hr1 ⊢
  refine lv_aload_n C.1 C.2.1 dL_law_485 rfl (lv_at hl 2 rfl) ?_
  refine lv_aload_n C.1 C.2.1 dL_law_486 rfl (lv_at hl 0 rfl) ?_
  refine lv_iload_n C.1 C.2.1 dL_law_487 rfl (lv_at hl 3 rfl) ?_
  refine lv_iconst (v := II 1) C.1 C.2.1 dL_law_488 rfl ?_
  refine x_iadd C dL_law_489 ?_
  refine x_scr C hXs hbl hbA hS hL (k := i + 1) (by omega) (by omega) dL_law_490 ?_
  refine x_ci (x_runV (n := 1) C hw hS hml hl.1 70 8 (by omega) rfl (by decide) rfl (c_X8_cart l g M1 hF n v nt pd t X I Sh (hRM.far hA h1k) hA ((xs (i + 1)).toInt) (rg_toInt _)) mw_1281 mw_1282 mw_1283 mw_130 mw_1284 rfl rfl (by decide +kernel) ⟨Nat.le_of_ble_eq_true rfl, Nat.le_of_ble_eq_true rfl⟩ rfl rfl (Nat.le_of_ble_eq_true rfl) dL_law_491 ⟨Nat.le_of_ble_eq_true rfl, Nat.le_of_ble_eq_true rfl⟩) hS (fun r2 M2 H locs hr2 hp hw hS => ?_)
  obtain ⟨er2, h2r, h2k⟩ := hp
  rw [er2] at hr2 ⊢
  refine x_icmp_eq (tgt := 1015) C hr1 hr2 dL_law_494 (by decide) (fun _ => ?_) (fun h => absurd rfl h)
  have hB := hA
  exact hnext n v nt pd t X I Sh M2 H locs ls (h1r.far hB (fun m hm => h2k m (by omega))) h2r hB hw hS hl

set_option maxHeartbeats 4000000 in
set_option maxRecDepth 100000 in
theorem law_13 (l : Launch) {g : Gm} (hF : LvF g) {M : Nat → Int} {n : Nat} {v : Nat → Nat → Int} {nt pd : Int} {t : Nat} {X : Txt} {I : Option Bor} {Sh : Sht} (hRC : RepC M (n, v, nt, pd, t) X I Sh) (hRM : RepM M (n, v, nt, pd, t) X I Sh) (hA : InvA (n, v, nt, pd, t) X I Sh) {p : Program} {e : Env} {s : State} {m : MethodId} {args : Array Value} {below : List Frame} {meth : Method} {c : Code} {QQ : State → Prop} (C : Cx g p c m s args cL_law "RatedBySighsLaw") (hml : c.maxLocals = 4) {b L : Nat} {xs : Nat → Int32} (hXs : va_X b L xs s s.heap) (hbl : b < s.heap.size) (hbA : ¬ ar g b) (hL : L ≤ 3072) {i : Nat} (hi : i + 6 ≤ L) {H : Heap} {locs : List Loc} {ls : Array Slot} (hw : Wo g M H) (hS : va_S (ar g) s.heap H locs) (hl : lv_has ls 4 [(0, .ref b), (1, .ref (gA g 0)), (2, .ref (gA g 70)), (3, .int (II (i : Int)))]) (hnext : ∀ (n : Nat) (v : Nat → Nat → Int) (nt pd : Int) (t : Nat) (X : Txt) (I : Option Bor) (Sh : Sht) (M' : Nat → Int) (H : Heap) (locs : List Loc) (ls : Array Slot), RepC M' (n, v, nt, pd, t) X I Sh → RepM M' (n, v, nt, pd, t) X I Sh → InvA (n, v, nt, pd, t) X I Sh → Wo g M' H → va_S (ar g) s.heap H locs → lv_has ls 4 [(0, .ref b), (1, .ref (gA g 0)), (2, .ref (gA g 70)), (3, .int (II (i : Int)))] → W p l e room_1 s m args below meth c H locs 84 3448 QQ (F0 m 1015 ls [])) : W p l e room_1 s m args below meth c H locs 84 3448 QQ (F0 m 499 ls []) := by
  have hN : gN g = 84 := hF.1
  refine lv_aload_n C.1 C.2.1 dL_law_499 rfl (lv_at hl 1 rfl) ?_
  refine lv_aload_n C.1 C.2.1 dL_law_500 rfl (lv_at hl 0 rfl) ?_
  refine lv_iload_n C.1 C.2.1 dL_law_501 rfl (lv_at hl 3 rfl) ?_
  refine lv_iconst (v := II 1) C.1 C.2.1 dL_law_502 rfl ?_
  refine x_iadd C dL_law_503 ?_
  refine x_scr C hXs hbl hbA hS hL (k := i + 1) (by omega) (by omega) dL_law_504 ?_
  refine lv_aload_n C.1 C.2.1 dL_law_505 rfl (lv_at hl 0 rfl) ?_
  refine lv_iload_n C.1 C.2.1 dL_law_506 rfl (lv_at hl 3 rfl) ?_
  refine lv_iconst (v := II 2) C.1 C.2.1 dL_law_507 rfl ?_
  refine x_iadd C dL_law_508 ?_
  refine x_scr C hXs hbl hbA hS hL (k := i + 2) (by omega) (by omega) dL_law_509 ?_
  refine x_ci (x_runV (n := 2) C hw hS hml hl.1 0 7 (by omega) rfl (by decide) rfl (c_X7_few l g M hF n v nt pd t X I Sh hRC hA ((xs (i + 1)).toInt) (rg_toInt _) ((xs (i + 2)).toInt) (rg_toInt _)) mw_667 mw_668 mw_669 mw_117 mw_670 rfl rfl (by decide +kernel) ⟨Nat.le_of_ble_eq_true rfl, Nat.le_of_ble_eq_true rfl⟩ rfl rfl (Nat.le_of_ble_eq_true rfl) dL_law_510 ⟨Nat.le_of_ble_eq_true rfl, Nat.le_of_ble_eq_true rfl⟩) hS (fun r1 M1 H locs hr1 hp hw hS => ?_)
  obtain ⟨er1, h1r, h1k⟩ := hp
  refine lv_aload_n C.1 C.2.1 dL_law_513 rfl (lv_at hl 2 rfl) ?_
  refine lv_aload_n C.1 C.2.1 dL_law_514 rfl (lv_at hl 0 rfl) ?_
  refine lv_iload_n C.1 C.2.1 dL_law_515 rfl (lv_at hl 3 rfl) ?_
  refine lv_iconst (v := II 1) C.1 C.2.1 dL_law_516 rfl ?_
  refine x_iadd C dL_law_517 ?_
  refine x_scr C hXs hbl hbA hS hL (k := i + 1) (by omega) (by omega) dL_law_518 ?_
  refine lv_aload_n C.1 C.2.1 dL_law_519 rfl (lv_at hl 0 rfl) ?_
  refine lv_iload_n C.1 C.2.1 dL_law_520 rfl (lv_at hl 3 rfl) ?_
  refine lv_iconst (v := II 2) C.1 C.2.1 dL_law_521 rfl ?_
  refine x_iadd C dL_law_522 ?_
  refine x_scr C hXs hbl hbA hS hL (k := i + 2) (by omega) (by omega) dL_law_523 ?_
  refine x_ci (x_runV (n := 2) C hw hS hml hl.1 70 8 (by omega) rfl (by decide) rfl (c_X8_few l g M1 hF n v nt pd t X I Sh (hRM.far hA h1k) hA ((xs (i + 1)).toInt) (rg_toInt _) ((xs (i + 2)).toInt) (rg_toInt _)) mw_1289 mw_1290 mw_1291 mw_130 mw_1292 rfl rfl (by decide +kernel) ⟨Nat.le_of_ble_eq_true rfl, Nat.le_of_ble_eq_true rfl⟩ rfl rfl (Nat.le_of_ble_eq_true rfl) dL_law_524 ⟨Nat.le_of_ble_eq_true rfl, Nat.le_of_ble_eq_true rfl⟩) hS (fun r2 M2 H locs hr2 hp hw hS => ?_)
  obtain ⟨er2, h2r, h2k⟩ := hp
  have er : r1 = r2 := few_one er1 er2
  subst er
  refine x_icmp_eq (tgt := 1015) C hr1 hr1 dL_law_527 (by decide) (fun _ => ?_) (fun h => absurd rfl h)
  have hB := hA
  exact hnext n v nt pd t X I Sh M2 H locs ls (h1r.far hB (fun m hm => h2k m (by omega))) h2r hB hw hS hl

set_option maxHeartbeats 4000000 in
set_option maxRecDepth 100000 in
theorem law_14 (l : Launch) {g : Gm} (hF : LvF g) {M : Nat → Int} {n : Nat} {v : Nat → Nat → Int} {nt pd : Int} {t : Nat} {X : Txt} {I : Option Bor} {Sh : Sht} (hRC : RepC M (n, v, nt, pd, t) X I Sh) (hRM : RepM M (n, v, nt, pd, t) X I Sh) (hA : InvA (n, v, nt, pd, t) X I Sh) {p : Program} {e : Env} {s : State} {m : MethodId} {args : Array Value} {below : List Frame} {meth : Method} {c : Code} {QQ : State → Prop} (C : Cx g p c m s args cL_law "RatedBySighsLaw") (hml : c.maxLocals = 4) {b L : Nat} {xs : Nat → Int32} (hXs : va_X b L xs s s.heap) (hbl : b < s.heap.size) (hbA : ¬ ar g b) (hL : L ≤ 3072) {i : Nat} (hi : i + 6 ≤ L) {H : Heap} {locs : List Loc} {ls : Array Slot} (hw : Wo g M H) (hS : va_S (ar g) s.heap H locs) (hl : lv_has ls 4 [(0, .ref b), (1, .ref (gA g 0)), (2, .ref (gA g 70)), (3, .int (II (i : Int)))]) (hnext : ∀ (n : Nat) (v : Nat → Nat → Int) (nt pd : Int) (t : Nat) (X : Txt) (I : Option Bor) (Sh : Sht) (M' : Nat → Int) (H : Heap) (locs : List Loc) (ls : Array Slot), RepC M' (n, v, nt, pd, t) X I Sh → RepM M' (n, v, nt, pd, t) X I Sh → InvA (n, v, nt, pd, t) X I Sh → Wo g M' H → va_S (ar g) s.heap H locs → lv_has ls 4 [(0, .ref b), (1, .ref (gA g 0)), (2, .ref (gA g 70)), (3, .int (II (i : Int)))] → W p l e room_1 s m args below meth c H locs 84 3448 QQ (F0 m 1015 ls [])) : W p l e room_1 s m args below meth c H locs 84 3448 QQ (F0 m 532 ls []) := by
  have hN : gN g = 84 := hF.1
  refine lv_aload_n C.1 C.2.1 dL_law_532 rfl (lv_at hl 1 rfl) ?_
  refine lv_aload_n C.1 C.2.1 dL_law_533 rfl (lv_at hl 0 rfl) ?_
  refine lv_iload_n C.1 C.2.1 dL_law_534 rfl (lv_at hl 3 rfl) ?_
  refine lv_iconst (v := II 1) C.1 C.2.1 dL_law_535 rfl ?_
  refine x_iadd C dL_law_536 ?_
  refine x_scr C hXs hbl hbA hS hL (k := i + 1) (by omega) (by omega) dL_law_537 ?_
  refine x_ci (x_runV (n := 1) C hw hS hml hl.1 0 7 (by omega) rfl (by decide) rfl (c_X7_move l g M hF n v nt pd t X I Sh hRC hA ((xs (i + 1)).toInt) (rg_toInt _)) mw_681 mw_682 mw_683 mw_117 mw_684 rfl rfl (by decide +kernel) ⟨Nat.le_of_ble_eq_true rfl, Nat.le_of_ble_eq_true rfl⟩ rfl rfl (Nat.le_of_ble_eq_true rfl) dL_law_538 ⟨Nat.le_of_ble_eq_true rfl, Nat.le_of_ble_eq_true rfl⟩) hS (fun r1 M1 H locs hr1 hp hw hS => ?_)
  obtain ⟨er1, h1r, h1k⟩ := hp
  rw [er1] at hr1 ⊢
  refine lv_aload_n C.1 C.2.1 dL_law_541 rfl (lv_at hl 2 rfl) ?_
  refine lv_aload_n C.1 C.2.1 dL_law_542 rfl (lv_at hl 0 rfl) ?_
  refine lv_iload_n C.1 C.2.1 dL_law_543 rfl (lv_at hl 3 rfl) ?_
  refine lv_iconst (v := II 1) C.1 C.2.1 dL_law_544 rfl ?_
  refine x_iadd C dL_law_545 ?_
  refine x_scr C hXs hbl hbA hS hL (k := i + 1) (by omega) (by omega) dL_law_546 ?_
  refine x_ci (x_runV (n := 1) C hw hS hml hl.1 70 8 (by omega) rfl (by decide) rfl (c_X8_move l g M1 hF n v nt pd t X I Sh (hRM.far hA h1k) hA ((xs (i + 1)).toInt) (rg_toInt _)) mw_1277 mw_1278 mw_1279 mw_130 mw_1280 rfl rfl (by decide +kernel) ⟨Nat.le_of_ble_eq_true rfl, Nat.le_of_ble_eq_true rfl⟩ rfl rfl (Nat.le_of_ble_eq_true rfl) dL_law_547 ⟨Nat.le_of_ble_eq_true rfl, Nat.le_of_ble_eq_true rfl⟩) hS (fun r2 M2 H locs hr2 hp hw hS => ?_)
  obtain ⟨er2, h2r, h2k⟩ := hp
  rw [er2] at hr2 ⊢
  refine x_icmp_eq (tgt := 1015) C hr1 hr2 dL_law_550 (by decide) (fun _ => ?_) (fun h => absurd rfl h)
  have hB := hA
  exact hnext n v nt pd t X I Sh M2 H locs ls (h1r.far hB (fun m hm => h2k m (by omega))) h2r hB hw hS hl

set_option maxHeartbeats 4000000 in
set_option maxRecDepth 100000 in
theorem law_15 (l : Launch) {g : Gm} (hF : LvF g) {M : Nat → Int} {n : Nat} {v : Nat → Nat → Int} {nt pd : Int} {t : Nat} {X : Txt} {I : Option Bor} {Sh : Sht} (hRC : RepC M (n, v, nt, pd, t) X I Sh) (hRM : RepM M (n, v, nt, pd, t) X I Sh) (hA : InvA (n, v, nt, pd, t) X I Sh) {p : Program} {e : Env} {s : State} {m : MethodId} {args : Array Value} {below : List Frame} {meth : Method} {c : Code} {QQ : State → Prop} (C : Cx g p c m s args cL_law "RatedBySighsLaw") (hml : c.maxLocals = 4) {b L : Nat} {xs : Nat → Int32} (hXs : va_X b L xs s s.heap) (hbl : b < s.heap.size) (hbA : ¬ ar g b) (hL : L ≤ 3072) {i : Nat} (hi : i + 6 ≤ L) {H : Heap} {locs : List Loc} {ls : Array Slot} (hw : Wo g M H) (hS : va_S (ar g) s.heap H locs) (hl : lv_has ls 4 [(0, .ref b), (1, .ref (gA g 0)), (2, .ref (gA g 70)), (3, .int (II (i : Int)))]) (hnext : ∀ (n : Nat) (v : Nat → Nat → Int) (nt pd : Int) (t : Nat) (X : Txt) (I : Option Bor) (Sh : Sht) (M' : Nat → Int) (H : Heap) (locs : List Loc) (ls : Array Slot), RepC M' (n, v, nt, pd, t) X I Sh → RepM M' (n, v, nt, pd, t) X I Sh → InvA (n, v, nt, pd, t) X I Sh → Wo g M' H → va_S (ar g) s.heap H locs → lv_has ls 4 [(0, .ref b), (1, .ref (gA g 0)), (2, .ref (gA g 70)), (3, .int (II (i : Int)))] → W p l e room_1 s m args below meth c H locs 84 3448 QQ (F0 m 1015 ls [])) : W p l e room_1 s m args below meth c H locs 84 3448 QQ (F0 m 555 ls []) := by
  have hN : gN g = 84 := hF.1
  refine lv_aload_n C.1 C.2.1 dL_law_555 rfl (lv_at hl 1 rfl) ?_
  refine lv_aload_n C.1 C.2.1 dL_law_556 rfl (lv_at hl 0 rfl) ?_
  refine lv_iload_n C.1 C.2.1 dL_law_557 rfl (lv_at hl 3 rfl) ?_
  refine lv_iconst (v := II 1) C.1 C.2.1 dL_law_558 rfl ?_
  refine x_iadd C dL_law_559 ?_
  refine x_scr C hXs hbl hbA hS hL (k := i + 1) (by omega) (by omega) dL_law_560 ?_
  refine x_ci (x_runV (n := 1) C hw hS hml hl.1 0 7 (by omega) rfl (by decide) rfl (c_X7_change l g M hF n v nt pd t X I Sh hRC hA ((xs (i + 1)).toInt) (rg_toInt _)) mw_685 mw_686 mw_687 mw_117 mw_688 rfl rfl (by decide +kernel) ⟨Nat.le_of_ble_eq_true rfl, Nat.le_of_ble_eq_true rfl⟩ rfl rfl (Nat.le_of_ble_eq_true rfl) dL_law_561 ⟨Nat.le_of_ble_eq_true rfl, Nat.le_of_ble_eq_true rfl⟩) hS (fun r1 M1 H locs hr1 hp hw hS => ?_)
  obtain ⟨er1, h1r, h1k⟩ := hp
  rw [er1] at hr1 ⊢
  refine lv_aload_n C.1 C.2.1 dL_law_564 rfl (lv_at hl 2 rfl) ?_
  refine lv_aload_n C.1 C.2.1 dL_law_565 rfl (lv_at hl 0 rfl) ?_
  refine lv_iload_n C.1 C.2.1 dL_law_566 rfl (lv_at hl 3 rfl) ?_
  refine lv_iconst (v := II 1) C.1 C.2.1 dL_law_567 rfl ?_
  refine x_iadd C dL_law_568 ?_
  refine x_scr C hXs hbl hbA hS hL (k := i + 1) (by omega) (by omega) dL_law_569 ?_
  refine x_ci (x_runV (n := 1) C hw hS hml hl.1 70 8 (by omega) rfl (by decide) rfl (c_X8_change l g M1 hF n v nt pd t X I Sh (hRM.far hA h1k) hA ((xs (i + 1)).toInt) (rg_toInt _)) mw_1285 mw_1286 mw_1287 mw_130 mw_1288 rfl rfl (by decide +kernel) ⟨Nat.le_of_ble_eq_true rfl, Nat.le_of_ble_eq_true rfl⟩ rfl rfl (Nat.le_of_ble_eq_true rfl) dL_law_570 ⟨Nat.le_of_ble_eq_true rfl, Nat.le_of_ble_eq_true rfl⟩) hS (fun r2 M2 H locs hr2 hp hw hS => ?_)
  obtain ⟨er2, h2r, h2k⟩ := hp
  rw [er2] at hr2 ⊢
  refine x_icmp_eq (tgt := 1015) C hr1 hr2 dL_law_573 (by decide) (fun _ => ?_) (fun h => absurd rfl h)
  have hB := hA
  exact hnext n v nt pd t X I Sh M2 H locs ls (h1r.far hB (fun m hm => h2k m (by omega))) h2r hB hw hS hl

set_option maxHeartbeats 4000000 in
set_option maxRecDepth 100000 in
theorem law_16 (l : Launch) {g : Gm} (hF : LvF g) {M : Nat → Int} {n : Nat} {v : Nat → Nat → Int} {nt pd : Int} {t : Nat} {X : Txt} {I : Option Bor} {Sh : Sht} (hRC : RepC M (n, v, nt, pd, t) X I Sh) (hRM : RepM M (n, v, nt, pd, t) X I Sh) (hA : InvA (n, v, nt, pd, t) X I Sh) {p : Program} {e : Env} {s : State} {m : MethodId} {args : Array Value} {below : List Frame} {meth : Method} {c : Code} {QQ : State → Prop} (C : Cx g p c m s args cL_law "RatedBySighsLaw") (hml : c.maxLocals = 4) {b L : Nat} {xs : Nat → Int32} (hXs : va_X b L xs s s.heap) (hbl : b < s.heap.size) (hbA : ¬ ar g b) (hL : L ≤ 3072) {i : Nat} (hi : i + 6 ≤ L) {H : Heap} {locs : List Loc} {ls : Array Slot} (hw : Wo g M H) (hS : va_S (ar g) s.heap H locs) (hl : lv_has ls 4 [(0, .ref b), (1, .ref (gA g 0)), (2, .ref (gA g 70)), (3, .int (II (i : Int)))]) (hnext : ∀ (n : Nat) (v : Nat → Nat → Int) (nt pd : Int) (t : Nat) (X : Txt) (I : Option Bor) (Sh : Sht) (M' : Nat → Int) (H : Heap) (locs : List Loc) (ls : Array Slot), RepC M' (n, v, nt, pd, t) X I Sh → RepM M' (n, v, nt, pd, t) X I Sh → InvA (n, v, nt, pd, t) X I Sh → Wo g M' H → va_S (ar g) s.heap H locs → lv_has ls 4 [(0, .ref b), (1, .ref (gA g 0)), (2, .ref (gA g 70)), (3, .int (II (i : Int)))] → W p l e room_1 s m args below meth c H locs 84 3448 QQ (F0 m 1015 ls [])) : W p l e room_1 s m args below meth c H locs 84 3448 QQ (F0 m 578 ls []) := by
  have hN : gN g = 84 := hF.1
  refine lv_aload_n C.1 C.2.1 dL_law_578 rfl (lv_at hl 1 rfl) ?_
  refine lv_aload_n C.1 C.2.1 dL_law_579 rfl (lv_at hl 0 rfl) ?_
  refine lv_iload_n C.1 C.2.1 dL_law_580 rfl (lv_at hl 3 rfl) ?_
  refine lv_iconst (v := II 1) C.1 C.2.1 dL_law_581 rfl ?_
  refine x_iadd C dL_law_582 ?_
  refine x_scr C hXs hbl hbA hS hL (k := i + 1) (by omega) (by omega) dL_law_583 ?_
  refine lv_aload_n C.1 C.2.1 dL_law_584 rfl (lv_at hl 0 rfl) ?_
  refine lv_iload_n C.1 C.2.1 dL_law_585 rfl (lv_at hl 3 rfl) ?_
  refine lv_iconst (v := II 2) C.1 C.2.1 dL_law_586 rfl ?_
  refine x_iadd C dL_law_587 ?_
  refine x_scr C hXs hbl hbA hS hL (k := i + 2) (by omega) (by omega) dL_law_588 ?_
  refine lv_aload_n C.1 C.2.1 dL_law_589 rfl (lv_at hl 0 rfl) ?_
  refine lv_iload_n C.1 C.2.1 dL_law_590 rfl (lv_at hl 3 rfl) ?_
  refine lv_iconst (v := II 3) C.1 C.2.1 dL_law_591 rfl ?_
  refine x_iadd C dL_law_592 ?_
  refine x_scr C hXs hbl hbA hS hL (k := i + 3) (by omega) (by omega) dL_law_593 ?_
  refine lv_aload_n C.1 C.2.1 dL_law_594 rfl (lv_at hl 0 rfl) ?_
  refine lv_iload_n C.1 C.2.1 dL_law_595 rfl (lv_at hl 3 rfl) ?_
  refine lv_iconst (v := II 4) C.1 C.2.1 dL_law_596 rfl ?_
  refine x_iadd C dL_law_597 ?_
  refine x_scr C hXs hbl hbA hS hL (k := i + 4) (by omega) (by omega) dL_law_598 ?_
  refine x_ci (x_runV (n := 4) C hw hS hml hl.1 0 7 (by omega) rfl (by decide) rfl (c_X7_tells l g M hF n v nt pd t X I Sh hRC hA ((xs (i + 1)).toInt) (rg_toInt _) ((xs (i + 2)).toInt) (rg_toInt _) ((xs (i + 3)).toInt) (rg_toInt _) ((xs (i + 4)).toInt) (rg_toInt _)) mw_693 mw_694 mw_695 mw_117 mw_696 rfl rfl (by decide +kernel) ⟨Nat.le_of_ble_eq_true rfl, Nat.le_of_ble_eq_true rfl⟩ rfl rfl (Nat.le_of_ble_eq_true rfl) dL_law_599 ⟨Nat.le_of_ble_eq_true rfl, Nat.le_of_ble_eq_true rfl⟩) hS (fun r1 M1 H locs hr1 hp hw hS => ?_)
  obtain ⟨er1, h1r, h1k⟩ := hp
  rw [er1] at hr1 ⊢
  refine lv_aload_n C.1 C.2.1 dL_law_602 rfl (lv_at hl 2 rfl) ?_
  refine lv_aload_n C.1 C.2.1 dL_law_603 rfl (lv_at hl 0 rfl) ?_
  refine lv_iload_n C.1 C.2.1 dL_law_604 rfl (lv_at hl 3 rfl) ?_
  refine lv_iconst (v := II 1) C.1 C.2.1 dL_law_605 rfl ?_
  refine x_iadd C dL_law_606 ?_
  refine x_scr C hXs hbl hbA hS hL (k := i + 1) (by omega) (by omega) dL_law_607 ?_
  refine lv_aload_n C.1 C.2.1 dL_law_608 rfl (lv_at hl 0 rfl) ?_
  refine lv_iload_n C.1 C.2.1 dL_law_609 rfl (lv_at hl 3 rfl) ?_
  refine lv_iconst (v := II 2) C.1 C.2.1 dL_law_610 rfl ?_
  refine x_iadd C dL_law_611 ?_
  refine x_scr C hXs hbl hbA hS hL (k := i + 2) (by omega) (by omega) dL_law_612 ?_
  refine lv_aload_n C.1 C.2.1 dL_law_613 rfl (lv_at hl 0 rfl) ?_
  refine lv_iload_n C.1 C.2.1 dL_law_614 rfl (lv_at hl 3 rfl) ?_
  refine lv_iconst (v := II 3) C.1 C.2.1 dL_law_615 rfl ?_
  refine x_iadd C dL_law_616 ?_
  refine x_scr C hXs hbl hbA hS hL (k := i + 3) (by omega) (by omega) dL_law_617 ?_
  refine lv_aload_n C.1 C.2.1 dL_law_618 rfl (lv_at hl 0 rfl) ?_
  refine lv_iload_n C.1 C.2.1 dL_law_619 rfl (lv_at hl 3 rfl) ?_
  refine lv_iconst (v := II 4) C.1 C.2.1 dL_law_620 rfl ?_
  refine x_iadd C dL_law_621 ?_
  refine x_scr C hXs hbl hbA hS hL (k := i + 4) (by omega) (by omega) dL_law_622 ?_
  refine x_ci (x_runV (n := 4) C hw hS hml hl.1 70 8 (by omega) rfl (by decide) rfl (c_X8_tells l g M1 hF n v nt pd t X I Sh (hRM.far hA h1k) hA ((xs (i + 1)).toInt) (rg_toInt _) ((xs (i + 2)).toInt) (rg_toInt _) ((xs (i + 3)).toInt) (rg_toInt _) ((xs (i + 4)).toInt) (rg_toInt _)) mw_1297 mw_1298 mw_1299 mw_130 mw_1300 rfl rfl (by decide +kernel) ⟨Nat.le_of_ble_eq_true rfl, Nat.le_of_ble_eq_true rfl⟩ rfl rfl (Nat.le_of_ble_eq_true rfl) dL_law_623 ⟨Nat.le_of_ble_eq_true rfl, Nat.le_of_ble_eq_true rfl⟩) hS (fun r2 M2 H locs hr2 hp hw hS => ?_)
  obtain ⟨er2, h2r, h2k⟩ := hp
  rw [er2] at hr2 ⊢
  refine x_icmp_eq (tgt := 1015) C hr1 hr2 dL_law_626 (by decide) (fun _ => ?_) (fun h => absurd rfl h)
  have hB := hA
  exact hnext n v nt pd t X I Sh M2 H locs ls (h1r.far hB (fun m hm => h2k m (by omega))) h2r hB hw hS hl

set_option maxHeartbeats 4000000 in
set_option maxRecDepth 100000 in
theorem law_17 (l : Launch) {g : Gm} (hF : LvF g) {M : Nat → Int} {n : Nat} {v : Nat → Nat → Int} {nt pd : Int} {t : Nat} {X : Txt} {I : Option Bor} {Sh : Sht} (hRC : RepC M (n, v, nt, pd, t) X I Sh) (hRM : RepM M (n, v, nt, pd, t) X I Sh) (hA : InvA (n, v, nt, pd, t) X I Sh) {p : Program} {e : Env} {s : State} {m : MethodId} {args : Array Value} {below : List Frame} {meth : Method} {c : Code} {QQ : State → Prop} (C : Cx g p c m s args cL_law "RatedBySighsLaw") (hml : c.maxLocals = 4) {b L : Nat} {xs : Nat → Int32} (hXs : va_X b L xs s s.heap) (hbl : b < s.heap.size) (hbA : ¬ ar g b) (hL : L ≤ 3072) {i : Nat} (hi : i + 6 ≤ L) {H : Heap} {locs : List Loc} {ls : Array Slot} (hw : Wo g M H) (hS : va_S (ar g) s.heap H locs) (hl : lv_has ls 4 [(0, .ref b), (1, .ref (gA g 0)), (2, .ref (gA g 70)), (3, .int (II (i : Int)))]) (hnext : ∀ (n : Nat) (v : Nat → Nat → Int) (nt pd : Int) (t : Nat) (X : Txt) (I : Option Bor) (Sh : Sht) (M' : Nat → Int) (H : Heap) (locs : List Loc) (ls : Array Slot), RepC M' (n, v, nt, pd, t) X I Sh → RepM M' (n, v, nt, pd, t) X I Sh → InvA (n, v, nt, pd, t) X I Sh → Wo g M' H → va_S (ar g) s.heap H locs → lv_has ls 4 [(0, .ref b), (1, .ref (gA g 0)), (2, .ref (gA g 70)), (3, .int (II (i : Int)))] → W p l e room_1 s m args below meth c H locs 84 3448 QQ (F0 m 1015 ls [])) : W p l e room_1 s m args below meth c H locs 84 3448 QQ (F0 m 631 ls []) := by
  have hN : gN g = 84 := hF.1
  refine lv_aload_n C.1 C.2.1 dL_law_631 rfl (lv_at hl 1 rfl) ?_
  refine lv_aload_n C.1 C.2.1 dL_law_632 rfl (lv_at hl 0 rfl) ?_
  refine lv_iload_n C.1 C.2.1 dL_law_633 rfl (lv_at hl 3 rfl) ?_
  refine lv_iconst (v := II 1) C.1 C.2.1 dL_law_634 rfl ?_
  refine x_iadd C dL_law_635 ?_
  refine x_scr C hXs hbl hbA hS hL (k := i + 1) (by omega) (by omega) dL_law_636 ?_
  refine lv_aload_n C.1 C.2.1 dL_law_637 rfl (lv_at hl 0 rfl) ?_
  refine lv_iload_n C.1 C.2.1 dL_law_638 rfl (lv_at hl 3 rfl) ?_
  refine lv_iconst (v := II 2) C.1 C.2.1 dL_law_639 rfl ?_
  refine x_iadd C dL_law_640 ?_
  refine x_scr C hXs hbl hbA hS hL (k := i + 2) (by omega) (by omega) dL_law_641 ?_
  refine x_ci (x_runV (n := 2) C hw hS hml hl.1 0 7 (by omega) rfl (by decide) rfl (c_X7_film l g M hF n v nt pd t X I Sh hRC hA ((xs (i + 1)).toInt) (rg_toInt _) ((xs (i + 2)).toInt) (rg_toInt _)) mw_728 mw_729 mw_730 mw_117 mw_731 rfl rfl (by decide +kernel) ⟨Nat.le_of_ble_eq_true rfl, Nat.le_of_ble_eq_true rfl⟩ rfl rfl (Nat.le_of_ble_eq_true rfl) dL_law_642 ⟨Nat.le_of_ble_eq_true rfl, Nat.le_of_ble_eq_true rfl⟩) hS (fun r1 M1 H locs hr1 hp hw hS => ?_)
  obtain ⟨er1, h1r, h1k⟩ := hp
  rw [er1] at hr1 ⊢
  refine lv_aload_n C.1 C.2.1 dL_law_645 rfl (lv_at hl 2 rfl) ?_
  refine lv_aload_n C.1 C.2.1 dL_law_646 rfl (lv_at hl 0 rfl) ?_
  refine lv_iload_n C.1 C.2.1 dL_law_647 rfl (lv_at hl 3 rfl) ?_
  refine lv_iconst (v := II 1) C.1 C.2.1 dL_law_648 rfl ?_
  refine x_iadd C dL_law_649 ?_
  refine x_scr C hXs hbl hbA hS hL (k := i + 1) (by omega) (by omega) dL_law_650 ?_
  refine lv_aload_n C.1 C.2.1 dL_law_651 rfl (lv_at hl 0 rfl) ?_
  refine lv_iload_n C.1 C.2.1 dL_law_652 rfl (lv_at hl 3 rfl) ?_
  refine lv_iconst (v := II 2) C.1 C.2.1 dL_law_653 rfl ?_
  refine x_iadd C dL_law_654 ?_
  refine x_scr C hXs hbl hbA hS hL (k := i + 2) (by omega) (by omega) dL_law_655 ?_
  refine x_ci (x_runV (n := 2) C hw hS hml hl.1 70 8 (by omega) rfl (by decide) rfl (c_X8_film l g M1 hF n v nt pd t X I Sh (hRM.far hA h1k) hA ((xs (i + 1)).toInt) (rg_toInt _) ((xs (i + 2)).toInt) (rg_toInt _)) mw_1310 mw_1311 mw_1312 mw_130 mw_1313 rfl rfl (by decide +kernel) ⟨Nat.le_of_ble_eq_true rfl, Nat.le_of_ble_eq_true rfl⟩ rfl rfl (Nat.le_of_ble_eq_true rfl) dL_law_656 ⟨Nat.le_of_ble_eq_true rfl, Nat.le_of_ble_eq_true rfl⟩) hS (fun r2 M2 H locs hr2 hp hw hS => ?_)
  obtain ⟨er2, h2r, h2k⟩ := hp
  rw [er2] at hr2 ⊢
  refine x_icmp_eq (tgt := 1015) C hr1 hr2 dL_law_659 (by decide) (fun _ => ?_) (fun h => absurd rfl h)
  have hB := hA.film (n := n) (v := v) (nt := nt) (X.2.1 t) ((xs (i + 1)).toInt) ((xs (i + 2)).toInt)
  exact hnext n v nt pd t X I (s_film Sh v n nt (X.2.1 t) ((xs (i + 1)).toInt) ((xs (i + 2)).toInt)) M2 H locs ls (h1r.far hB (fun m hm => h2k m (by omega))) h2r hB hw hS hl

set_option maxHeartbeats 4000000 in
set_option maxRecDepth 100000 in
theorem law_18 (l : Launch) {g : Gm} (hF : LvF g) {M : Nat → Int} {n : Nat} {v : Nat → Nat → Int} {nt pd : Int} {t : Nat} {X : Txt} {I : Option Bor} {Sh : Sht} (hRC : RepC M (n, v, nt, pd, t) X I Sh) (hRM : RepM M (n, v, nt, pd, t) X I Sh) (hA : InvA (n, v, nt, pd, t) X I Sh) {p : Program} {e : Env} {s : State} {m : MethodId} {args : Array Value} {below : List Frame} {meth : Method} {c : Code} {QQ : State → Prop} (C : Cx g p c m s args cL_law "RatedBySighsLaw") (hml : c.maxLocals = 4) {b L : Nat} {xs : Nat → Int32} (hXs : va_X b L xs s s.heap) (hbl : b < s.heap.size) (hbA : ¬ ar g b) (hL : L ≤ 3072) {i : Nat} (hi : i + 6 ≤ L) {H : Heap} {locs : List Loc} {ls : Array Slot} (hw : Wo g M H) (hS : va_S (ar g) s.heap H locs) (hl : lv_has ls 4 [(0, .ref b), (1, .ref (gA g 0)), (2, .ref (gA g 70)), (3, .int (II (i : Int)))]) (hnext : ∀ (n : Nat) (v : Nat → Nat → Int) (nt pd : Int) (t : Nat) (X : Txt) (I : Option Bor) (Sh : Sht) (M' : Nat → Int) (H : Heap) (locs : List Loc) (ls : Array Slot), RepC M' (n, v, nt, pd, t) X I Sh → RepM M' (n, v, nt, pd, t) X I Sh → InvA (n, v, nt, pd, t) X I Sh → Wo g M' H → va_S (ar g) s.heap H locs → lv_has ls 4 [(0, .ref b), (1, .ref (gA g 0)), (2, .ref (gA g 70)), (3, .int (II (i : Int)))] → W p l e room_1 s m args below meth c H locs 84 3448 QQ (F0 m 1015 ls [])) : W p l e room_1 s m args below meth c H locs 84 3448 QQ (F0 m 664 ls []) := by
  have hN : gN g = 84 := hF.1
  refine lv_aload_n C.1 C.2.1 dL_law_664 rfl (lv_at hl 1 rfl) ?_
  refine lv_aload_n C.1 C.2.1 dL_law_665 rfl (lv_at hl 0 rfl) ?_
  refine lv_iload_n C.1 C.2.1 dL_law_666 rfl (lv_at hl 3 rfl) ?_
  refine lv_iconst (v := II 1) C.1 C.2.1 dL_law_667 rfl ?_
  refine x_iadd C dL_law_668 ?_
  refine x_scr C hXs hbl hbA hS hL (k := i + 1) (by omega) (by omega) dL_law_669 ?_
  refine x_ci (x_runV (n := 1) C hw hS hml hl.1 0 7 (by omega) rfl (by decide) rfl (c_X7_drawn l g M hF n v nt pd t X I Sh hRC hA ((xs (i + 1)).toInt) (rg_toInt _)) mw_740 mw_741 mw_742 mw_117 mw_743 rfl rfl (by decide +kernel) ⟨Nat.le_of_ble_eq_true rfl, Nat.le_of_ble_eq_true rfl⟩ rfl rfl (Nat.le_of_ble_eq_true rfl) dL_law_670 ⟨Nat.le_of_ble_eq_true rfl, Nat.le_of_ble_eq_true rfl⟩) hS (fun r1 M1 H locs hr1 hp hw hS => ?_)
  obtain ⟨er1, h1r, h1k⟩ := hp
  rw [er1] at hr1 ⊢
  refine lv_aload_n C.1 C.2.1 dL_law_673 rfl (lv_at hl 2 rfl) ?_
  refine lv_aload_n C.1 C.2.1 dL_law_674 rfl (lv_at hl 0 rfl) ?_
  refine lv_iload_n C.1 C.2.1 dL_law_675 rfl (lv_at hl 3 rfl) ?_
  refine lv_iconst (v := II 1) C.1 C.2.1 dL_law_676 rfl ?_
  refine x_iadd C dL_law_677 ?_
  refine x_scr C hXs hbl hbA hS hL (k := i + 1) (by omega) (by omega) dL_law_678 ?_
  refine x_ci (x_runV (n := 1) C hw hS hml hl.1 70 8 (by omega) rfl (by decide) rfl (c_X8_drawn l g M1 hF n v nt pd t X I Sh (hRM.far hA h1k) hA ((xs (i + 1)).toInt) (rg_toInt _)) mw_1320 mw_1321 mw_1322 mw_130 mw_1323 rfl rfl (by decide +kernel) ⟨Nat.le_of_ble_eq_true rfl, Nat.le_of_ble_eq_true rfl⟩ rfl rfl (Nat.le_of_ble_eq_true rfl) dL_law_679 ⟨Nat.le_of_ble_eq_true rfl, Nat.le_of_ble_eq_true rfl⟩) hS (fun r2 M2 H locs hr2 hp hw hS => ?_)
  obtain ⟨er2, h2r, h2k⟩ := hp
  rw [er2] at hr2 ⊢
  refine x_icmp_eq (tgt := 1015) C hr1 hr2 dL_law_682 (by decide) (fun _ => ?_) (fun h => absurd rfl h)
  have hB := hA
  exact hnext n v nt pd t X I Sh M2 H locs ls (h1r.far hB (fun m hm => h2k m (by omega))) h2r hB hw hS hl

set_option maxHeartbeats 4000000 in
set_option maxRecDepth 100000 in
theorem law_19 (l : Launch) {g : Gm} (hF : LvF g) {M : Nat → Int} {n : Nat} {v : Nat → Nat → Int} {nt pd : Int} {t : Nat} {X : Txt} {I : Option Bor} {Sh : Sht} (hRC : RepC M (n, v, nt, pd, t) X I Sh) (hRM : RepM M (n, v, nt, pd, t) X I Sh) (hA : InvA (n, v, nt, pd, t) X I Sh) {p : Program} {e : Env} {s : State} {m : MethodId} {args : Array Value} {below : List Frame} {meth : Method} {c : Code} {QQ : State → Prop} (C : Cx g p c m s args cL_law "RatedBySighsLaw") (hml : c.maxLocals = 4) {b L : Nat} {xs : Nat → Int32} (hXs : va_X b L xs s s.heap) (hbl : b < s.heap.size) (hbA : ¬ ar g b) (hL : L ≤ 3072) {i : Nat} (hi : i + 6 ≤ L) {H : Heap} {locs : List Loc} {ls : Array Slot} (hw : Wo g M H) (hS : va_S (ar g) s.heap H locs) (hl : lv_has ls 4 [(0, .ref b), (1, .ref (gA g 0)), (2, .ref (gA g 70)), (3, .int (II (i : Int)))]) (hnext : ∀ (n : Nat) (v : Nat → Nat → Int) (nt pd : Int) (t : Nat) (X : Txt) (I : Option Bor) (Sh : Sht) (M' : Nat → Int) (H : Heap) (locs : List Loc) (ls : Array Slot), RepC M' (n, v, nt, pd, t) X I Sh → RepM M' (n, v, nt, pd, t) X I Sh → InvA (n, v, nt, pd, t) X I Sh → Wo g M' H → va_S (ar g) s.heap H locs → lv_has ls 4 [(0, .ref b), (1, .ref (gA g 0)), (2, .ref (gA g 70)), (3, .int (II (i : Int)))] → W p l e room_1 s m args below meth c H locs 84 3448 QQ (F0 m 1015 ls [])) : W p l e room_1 s m args below meth c H locs 84 3448 QQ (F0 m 687 ls []) := by
  have hN : gN g = 84 := hF.1
  refine lv_aload_n C.1 C.2.1 dL_law_687 rfl (lv_at hl 1 rfl) ?_
  refine lv_aload_n C.1 C.2.1 dL_law_688 rfl (lv_at hl 0 rfl) ?_
  refine lv_iload_n C.1 C.2.1 dL_law_689 rfl (lv_at hl 3 rfl) ?_
  refine lv_iconst (v := II 1) C.1 C.2.1 dL_law_690 rfl ?_
  refine x_iadd C dL_law_691 ?_
  refine x_scr C hXs hbl hbA hS hL (k := i + 1) (by omega) (by omega) dL_law_692 ?_
  refine lv_aload_n C.1 C.2.1 dL_law_693 rfl (lv_at hl 0 rfl) ?_
  refine lv_iload_n C.1 C.2.1 dL_law_694 rfl (lv_at hl 3 rfl) ?_
  refine lv_iconst (v := II 2) C.1 C.2.1 dL_law_695 rfl ?_
  refine x_iadd C dL_law_696 ?_
  refine x_scr C hXs hbl hbA hS hL (k := i + 2) (by omega) (by omega) dL_law_697 ?_
  refine lv_aload_n C.1 C.2.1 dL_law_698 rfl (lv_at hl 0 rfl) ?_
  refine lv_iload_n C.1 C.2.1 dL_law_699 rfl (lv_at hl 3 rfl) ?_
  refine lv_iconst (v := II 3) C.1 C.2.1 dL_law_700 rfl ?_
  refine x_iadd C dL_law_701 ?_
  refine x_scr C hXs hbl hbA hS hL (k := i + 3) (by omega) (by omega) dL_law_702 ?_
  refine x_cl (x_runV (n := 3) C hw hS hml hl.1 0 7 (by omega) rfl (by decide) rfl (c_X7_chance l g M hF n v nt pd t X I Sh hRC hA ((xs (i + 1)).toInt) (rg_toInt _) ((xs (i + 2)).toInt) (rg_toInt _) ((xs (i + 3)).toInt) (rg_toInt _)) mw_749 mw_750 mw_751 mw_117 mw_752 rfl rfl (by decide +kernel) ⟨Nat.le_of_ble_eq_true rfl, Nat.le_of_ble_eq_true rfl⟩ rfl rfl (Nat.le_of_ble_eq_true rfl) dL_law_703 ⟨Nat.le_of_ble_eq_true rfl, Nat.le_of_ble_eq_true rfl⟩) hS (fun r1 M1 H locs hp hw hS => ?_)
  obtain ⟨er1, h1r, h1k⟩ := hp
  rw [er1]
  refine lv_aload_n C.1 C.2.1 dL_law_706 rfl (lv_at hl 2 rfl) ?_
  refine lv_aload_n C.1 C.2.1 dL_law_707 rfl (lv_at hl 0 rfl) ?_
  refine lv_iload_n C.1 C.2.1 dL_law_708 rfl (lv_at hl 3 rfl) ?_
  refine lv_iconst (v := II 1) C.1 C.2.1 dL_law_709 rfl ?_
  refine x_iadd C dL_law_710 ?_
  refine x_scr C hXs hbl hbA hS hL (k := i + 1) (by omega) (by omega) dL_law_711 ?_
  refine lv_aload_n C.1 C.2.1 dL_law_712 rfl (lv_at hl 0 rfl) ?_
  refine lv_iload_n C.1 C.2.1 dL_law_713 rfl (lv_at hl 3 rfl) ?_
  refine lv_iconst (v := II 2) C.1 C.2.1 dL_law_714 rfl ?_
  refine x_iadd C dL_law_715 ?_
  refine x_scr C hXs hbl hbA hS hL (k := i + 2) (by omega) (by omega) dL_law_716 ?_
  refine lv_aload_n C.1 C.2.1 dL_law_717 rfl (lv_at hl 0 rfl) ?_
  refine lv_iload_n C.1 C.2.1 dL_law_718 rfl (lv_at hl 3 rfl) ?_
  refine lv_iconst (v := II 3) C.1 C.2.1 dL_law_719 rfl ?_
  refine x_iadd C dL_law_720 ?_
  refine x_scr C hXs hbl hbA hS hL (k := i + 3) (by omega) (by omega) dL_law_721 ?_
  refine x_cl (x_runV (n := 3) C hw hS hml hl.1 70 8 (by omega) rfl (by decide) rfl (c_X8_chance l g M1 hF n v nt pd t X I Sh (hRM.far hA h1k) hA ((xs (i + 1)).toInt) (rg_toInt _) ((xs (i + 2)).toInt) (rg_toInt _) ((xs (i + 3)).toInt) (rg_toInt _)) mw_1329 mw_1330 mw_1331 mw_130 mw_1332 rfl rfl (by decide +kernel) ⟨Nat.le_of_ble_eq_true rfl, Nat.le_of_ble_eq_true rfl⟩ rfl rfl (Nat.le_of_ble_eq_true rfl) dL_law_722 ⟨Nat.le_of_ble_eq_true rfl, Nat.le_of_ble_eq_true rfl⟩) hS (fun r2 M2 H locs hp hw hS => ?_)
  obtain ⟨er2, h2r, h2k⟩ := hp
  rw [er2]
  refine W.lcmp C.1 C.2.1 dL_law_725 ?_
  rw [show ∀ x : Int64, lg_cmp x x = II 0 from fun x => by unfold lg_cmp; simp; rfl]
  refine x_if_eq (tgt := 1015) C rg0 dL_law_726 (by decide) (fun _ => ?_) (fun h => absurd rfl h)
  have hB := hA
  exact hnext n v nt pd t X I Sh M2 H locs ls (h1r.far hB (fun m hm => h2k m (by omega))) h2r hB hw hS hl

set_option maxHeartbeats 4000000 in
set_option maxRecDepth 100000 in
theorem law_20 (l : Launch) {g : Gm} (hF : LvF g) {M : Nat → Int} {n : Nat} {v : Nat → Nat → Int} {nt pd : Int} {t : Nat} {X : Txt} {I : Option Bor} {Sh : Sht} (hRC : RepC M (n, v, nt, pd, t) X I Sh) (hRM : RepM M (n, v, nt, pd, t) X I Sh) (hA : InvA (n, v, nt, pd, t) X I Sh) {p : Program} {e : Env} {s : State} {m : MethodId} {args : Array Value} {below : List Frame} {meth : Method} {c : Code} {QQ : State → Prop} (C : Cx g p c m s args cL_law "RatedBySighsLaw") (hml : c.maxLocals = 4) {b L : Nat} {xs : Nat → Int32} (hXs : va_X b L xs s s.heap) (hbl : b < s.heap.size) (hbA : ¬ ar g b) (hL : L ≤ 3072) {i : Nat} (hi : i + 6 ≤ L) {H : Heap} {locs : List Loc} {ls : Array Slot} (hw : Wo g M H) (hS : va_S (ar g) s.heap H locs) (hl : lv_has ls 4 [(0, .ref b), (1, .ref (gA g 0)), (2, .ref (gA g 70)), (3, .int (II (i : Int)))]) (hnext : ∀ (n : Nat) (v : Nat → Nat → Int) (nt pd : Int) (t : Nat) (X : Txt) (I : Option Bor) (Sh : Sht) (M' : Nat → Int) (H : Heap) (locs : List Loc) (ls : Array Slot), RepC M' (n, v, nt, pd, t) X I Sh → RepM M' (n, v, nt, pd, t) X I Sh → InvA (n, v, nt, pd, t) X I Sh → Wo g M' H → va_S (ar g) s.heap H locs → lv_has ls 4 [(0, .ref b), (1, .ref (gA g 0)), (2, .ref (gA g 70)), (3, .int (II (i : Int)))] → W p l e room_1 s m args below meth c H locs 84 3448 QQ (F0 m 1015 ls [])) : W p l e room_1 s m args below meth c H locs 84 3448 QQ (F0 m 731 ls []) := by
  have hN : gN g = 84 := hF.1
  refine lv_aload_n C.1 C.2.1 dL_law_731 rfl (lv_at hl 1 rfl) ?_
  refine x_ci (x_runV (n := 0) C hw hS hml hl.1 0 7 (by omega) rfl (by decide) rfl (c_X7_image l g M hF n v nt pd t X I Sh hRC hA) mw_757 mw_758 mw_759 mw_117 mw_760 rfl rfl (by decide +kernel) ⟨Nat.le_of_ble_eq_true rfl, Nat.le_of_ble_eq_true rfl⟩ rfl rfl (Nat.le_of_ble_eq_true rfl) dL_law_732 ⟨Nat.le_of_ble_eq_true rfl, Nat.le_of_ble_eq_true rfl⟩) hS (fun r1 M1 H locs hr1 hp hw hS => ?_)
  obtain ⟨er1, h1r, h1k⟩ := hp
  rw [er1] at hr1 ⊢
  refine lv_aload_n C.1 C.2.1 dL_law_735 rfl (lv_at hl 2 rfl) ?_
  refine x_ci (x_runV (n := 0) C hw hS hml hl.1 70 8 (by omega) rfl (by decide) rfl (c_X8_image l g M1 hF n v nt pd t X I Sh (hRM.far hA h1k) hA) mw_1334 mw_1335 mw_1336 mw_130 mw_1337 rfl rfl (by decide +kernel) ⟨Nat.le_of_ble_eq_true rfl, Nat.le_of_ble_eq_true rfl⟩ rfl rfl (Nat.le_of_ble_eq_true rfl) dL_law_736 ⟨Nat.le_of_ble_eq_true rfl, Nat.le_of_ble_eq_true rfl⟩) hS (fun r2 M2 H locs hr2 hp hw hS => ?_)
  obtain ⟨er2, h2r, h2k⟩ := hp
  rw [er2] at hr2 ⊢
  refine x_icmp_eq (tgt := 1015) C hr1 hr2 dL_law_739 (by decide) (fun _ => ?_) (fun h => absurd rfl h)
  have hB := hA.image
  exact hnext n v nt pd t X (some (n, v, nt, pd, t)) Sh M2 H locs ls (h1r.far hB (fun m hm => h2k m (by omega))) h2r hB hw hS hl

set_option maxHeartbeats 4000000 in
set_option maxRecDepth 100000 in
theorem law_21 (l : Launch) {g : Gm} (hF : LvF g) {M : Nat → Int} {n : Nat} {v : Nat → Nat → Int} {nt pd : Int} {t : Nat} {X : Txt} {I : Option Bor} {Sh : Sht} (hRC : RepC M (n, v, nt, pd, t) X I Sh) (hRM : RepM M (n, v, nt, pd, t) X I Sh) (hA : InvA (n, v, nt, pd, t) X I Sh) {p : Program} {e : Env} {s : State} {m : MethodId} {args : Array Value} {below : List Frame} {meth : Method} {c : Code} {QQ : State → Prop} (C : Cx g p c m s args cL_law "RatedBySighsLaw") (hml : c.maxLocals = 4) {b L : Nat} {xs : Nat → Int32} (hXs : va_X b L xs s s.heap) (hbl : b < s.heap.size) (hbA : ¬ ar g b) (hL : L ≤ 3072) {i : Nat} (hi : i + 6 ≤ L) {H : Heap} {locs : List Loc} {ls : Array Slot} (hw : Wo g M H) (hS : va_S (ar g) s.heap H locs) (hl : lv_has ls 4 [(0, .ref b), (1, .ref (gA g 0)), (2, .ref (gA g 70)), (3, .int (II (i : Int)))]) (hnext : ∀ (n : Nat) (v : Nat → Nat → Int) (nt pd : Int) (t : Nat) (X : Txt) (I : Option Bor) (Sh : Sht) (M' : Nat → Int) (H : Heap) (locs : List Loc) (ls : Array Slot), RepC M' (n, v, nt, pd, t) X I Sh → RepM M' (n, v, nt, pd, t) X I Sh → InvA (n, v, nt, pd, t) X I Sh → Wo g M' H → va_S (ar g) s.heap H locs → lv_has ls 4 [(0, .ref b), (1, .ref (gA g 0)), (2, .ref (gA g 70)), (3, .int (II (i : Int)))] → W p l e room_1 s m args below meth c H locs 84 3448 QQ (F0 m 1015 ls [])) : W p l e room_1 s m args below meth c H locs 84 3448 QQ (F0 m 744 ls []) := by
  have hN : gN g = 84 := hF.1
  refine lv_aload_n C.1 C.2.1 dL_law_744 rfl (lv_at hl 1 rfl) ?_
  refine x_ci (x_runV (n := 0) C hw hS hml hl.1 0 7 (by omega) rfl (by decide) rfl (c_X7_back l g M hF n v nt pd t X I Sh hRC hA) mw_769 mw_770 mw_771 mw_117 mw_772 rfl rfl (by decide +kernel) ⟨Nat.le_of_ble_eq_true rfl, Nat.le_of_ble_eq_true rfl⟩ rfl rfl (Nat.le_of_ble_eq_true rfl) dL_law_745 ⟨Nat.le_of_ble_eq_true rfl, Nat.le_of_ble_eq_true rfl⟩) hS (fun r1 M1 H locs hr1 hp hw hS => ?_)
  obtain ⟨er1, h1r, h1k⟩ := hp
  rw [er1] at hr1 ⊢
  refine lv_aload_n C.1 C.2.1 dL_law_748 rfl (lv_at hl 2 rfl) ?_
  refine x_ci (x_runV (n := 0) C hw hS hml hl.1 70 8 (by omega) rfl (by decide) rfl (c_X8_back l g M1 hF n v nt pd t X I Sh (hRM.far hA h1k) hA) mw_1338 mw_1339 mw_1340 mw_130 mw_1341 rfl rfl (by decide +kernel) ⟨Nat.le_of_ble_eq_true rfl, Nat.le_of_ble_eq_true rfl⟩ rfl rfl (Nat.le_of_ble_eq_true rfl) dL_law_749 ⟨Nat.le_of_ble_eq_true rfl, Nat.le_of_ble_eq_true rfl⟩) hS (fun r2 M2 H locs hr2 hp hw hS => ?_)
  obtain ⟨er2, h2r, h2k⟩ := hp
  rw [er2] at hr2 ⊢
  refine x_icmp_eq (tgt := 1015) C hr1 hr2 dL_law_752 (by decide) (fun _ => ?_) (fun h => absurd rfl h)
  have hB := hA.back
  revert h1r h2r hB
  rcases (b_back I (n, v, nt, pd, t)) with ⟨n2, v2, nt2, pd2, t2⟩
  intro h1r h2r hB
  exact hnext n2 v2 nt2 pd2 t2 X I Sh M2 H locs ls (h1r.far hB h2k) h2r hB hw hS hl

set_option maxHeartbeats 4000000 in
set_option maxRecDepth 100000 in
theorem law_22 (l : Launch) {g : Gm} (hF : LvF g) {M : Nat → Int} {n : Nat} {v : Nat → Nat → Int} {nt pd : Int} {t : Nat} {X : Txt} {I : Option Bor} {Sh : Sht} (hRC : RepC M (n, v, nt, pd, t) X I Sh) (hRM : RepM M (n, v, nt, pd, t) X I Sh) (hA : InvA (n, v, nt, pd, t) X I Sh) {p : Program} {e : Env} {s : State} {m : MethodId} {args : Array Value} {below : List Frame} {meth : Method} {c : Code} {QQ : State → Prop} (C : Cx g p c m s args cL_law "RatedBySighsLaw") (hml : c.maxLocals = 4) {b L : Nat} {xs : Nat → Int32} (hXs : va_X b L xs s s.heap) (hbl : b < s.heap.size) (hbA : ¬ ar g b) (hL : L ≤ 3072) {i : Nat} (hi : i + 6 ≤ L) {H : Heap} {locs : List Loc} {ls : Array Slot} (hw : Wo g M H) (hS : va_S (ar g) s.heap H locs) (hl : lv_has ls 4 [(0, .ref b), (1, .ref (gA g 0)), (2, .ref (gA g 70)), (3, .int (II (i : Int)))]) (hnext : ∀ (n : Nat) (v : Nat → Nat → Int) (nt pd : Int) (t : Nat) (X : Txt) (I : Option Bor) (Sh : Sht) (M' : Nat → Int) (H : Heap) (locs : List Loc) (ls : Array Slot), RepC M' (n, v, nt, pd, t) X I Sh → RepM M' (n, v, nt, pd, t) X I Sh → InvA (n, v, nt, pd, t) X I Sh → Wo g M' H → va_S (ar g) s.heap H locs → lv_has ls 4 [(0, .ref b), (1, .ref (gA g 0)), (2, .ref (gA g 70)), (3, .int (II (i : Int)))] → W p l e room_1 s m args below meth c H locs 84 3448 QQ (F0 m 1015 ls [])) : W p l e room_1 s m args below meth c H locs 84 3448 QQ (F0 m 757 ls []) := by
  have hN : gN g = 84 := hF.1
  refine lv_aload_n C.1 C.2.1 dL_law_757 rfl (lv_at hl 1 rfl) ?_
  refine lv_aload_n C.1 C.2.1 dL_law_758 rfl (lv_at hl 0 rfl) ?_
  refine lv_iload_n C.1 C.2.1 dL_law_759 rfl (lv_at hl 3 rfl) ?_
  refine lv_iconst (v := II 1) C.1 C.2.1 dL_law_760 rfl ?_
  refine x_iadd C dL_law_761 ?_
  refine x_scr C hXs hbl hbA hS hL (k := i + 1) (by omega) (by omega) dL_law_762 ?_
  refine x_ci (x_runV (n := 1) C hw hS hml hl.1 0 7 (by omega) rfl (by decide) rfl (c_X7_count l g M hF n v nt pd t X I Sh hRC hA ((xs (i + 1)).toInt) (rg_toInt _)) mw_773 mw_774 mw_775 mw_117 mw_776 rfl rfl (by decide +kernel) ⟨Nat.le_of_ble_eq_true rfl, Nat.le_of_ble_eq_true rfl⟩ rfl rfl (Nat.le_of_ble_eq_true rfl) dL_law_763 ⟨Nat.le_of_ble_eq_true rfl, Nat.le_of_ble_eq_true rfl⟩) hS (fun r1 M1 H locs hr1 hp hw hS => ?_)
  obtain ⟨er1, h1r, h1k⟩ := hp
  rw [er1] at hr1 ⊢
  refine lv_aload_n C.1 C.2.1 dL_law_766 rfl (lv_at hl 2 rfl) ?_
  refine lv_aload_n C.1 C.2.1 dL_law_767 rfl (lv_at hl 0 rfl) ?_
  refine lv_iload_n C.1 C.2.1 dL_law_768 rfl (lv_at hl 3 rfl) ?_
  refine lv_iconst (v := II 1) C.1 C.2.1 dL_law_769 rfl ?_
  refine x_iadd C dL_law_770 ?_
  refine x_scr C hXs hbl hbA hS hL (k := i + 1) (by omega) (by omega) dL_law_771 ?_
  refine x_ci (x_runV (n := 1) C hw hS hml hl.1 70 8 (by omega) rfl (by decide) rfl (c_X8_count l g M1 hF n v nt pd t X I Sh (hRM.far hA h1k) hA ((xs (i + 1)).toInt) (rg_toInt _)) mw_1342 mw_1343 mw_1344 mw_130 mw_1345 rfl rfl (by decide +kernel) ⟨Nat.le_of_ble_eq_true rfl, Nat.le_of_ble_eq_true rfl⟩ rfl rfl (Nat.le_of_ble_eq_true rfl) dL_law_772 ⟨Nat.le_of_ble_eq_true rfl, Nat.le_of_ble_eq_true rfl⟩) hS (fun r2 M2 H locs hr2 hp hw hS => ?_)
  obtain ⟨er2, h2r, h2k⟩ := hp
  rw [er2] at hr2 ⊢
  refine x_icmp_eq (tgt := 1015) C hr1 hr2 dL_law_775 (by decide) (fun _ => ?_) (fun h => absurd rfl h)
  have hB := hA
  exact hnext n v nt pd t X I Sh M2 H locs ls (h1r.far hB (fun m hm => h2k m (by omega))) h2r hB hw hS hl

set_option maxHeartbeats 4000000 in
set_option maxRecDepth 100000 in
theorem law_23 (l : Launch) {g : Gm} (hF : LvF g) {M : Nat → Int} {n : Nat} {v : Nat → Nat → Int} {nt pd : Int} {t : Nat} {X : Txt} {I : Option Bor} {Sh : Sht} (hRC : RepC M (n, v, nt, pd, t) X I Sh) (hRM : RepM M (n, v, nt, pd, t) X I Sh) (hA : InvA (n, v, nt, pd, t) X I Sh) {p : Program} {e : Env} {s : State} {m : MethodId} {args : Array Value} {below : List Frame} {meth : Method} {c : Code} {QQ : State → Prop} (C : Cx g p c m s args cL_law "RatedBySighsLaw") (hml : c.maxLocals = 4) {b L : Nat} {xs : Nat → Int32} (hXs : va_X b L xs s s.heap) (hbl : b < s.heap.size) (hbA : ¬ ar g b) (hL : L ≤ 3072) {i : Nat} (hi : i + 6 ≤ L) {H : Heap} {locs : List Loc} {ls : Array Slot} (hw : Wo g M H) (hS : va_S (ar g) s.heap H locs) (hl : lv_has ls 4 [(0, .ref b), (1, .ref (gA g 0)), (2, .ref (gA g 70)), (3, .int (II (i : Int)))]) (hnext : ∀ (n : Nat) (v : Nat → Nat → Int) (nt pd : Int) (t : Nat) (X : Txt) (I : Option Bor) (Sh : Sht) (M' : Nat → Int) (H : Heap) (locs : List Loc) (ls : Array Slot), RepC M' (n, v, nt, pd, t) X I Sh → RepM M' (n, v, nt, pd, t) X I Sh → InvA (n, v, nt, pd, t) X I Sh → Wo g M' H → va_S (ar g) s.heap H locs → lv_has ls 4 [(0, .ref b), (1, .ref (gA g 0)), (2, .ref (gA g 70)), (3, .int (II (i : Int)))] → W p l e room_1 s m args below meth c H locs 84 3448 QQ (F0 m 1015 ls [])) : W p l e room_1 s m args below meth c H locs 84 3448 QQ (F0 m 780 ls []) := by
  have hN : gN g = 84 := hF.1
  refine lv_aload_n C.1 C.2.1 dL_law_780 rfl (lv_at hl 1 rfl) ?_
  refine lv_aload_n C.1 C.2.1 dL_law_781 rfl (lv_at hl 0 rfl) ?_
  refine lv_iload_n C.1 C.2.1 dL_law_782 rfl (lv_at hl 3 rfl) ?_
  refine lv_iconst (v := II 1) C.1 C.2.1 dL_law_783 rfl ?_
  refine x_iadd C dL_law_784 ?_
  refine x_scr C hXs hbl hbA hS hL (k := i + 1) (by omega) (by omega) dL_law_785 ?_
  refine lv_aload_n C.1 C.2.1 dL_law_786 rfl (lv_at hl 0 rfl) ?_
  refine lv_iload_n C.1 C.2.1 dL_law_787 rfl (lv_at hl 3 rfl) ?_
  refine lv_iconst (v := II 2) C.1 C.2.1 dL_law_788 rfl ?_
  refine x_iadd C dL_law_789 ?_
  refine x_scr C hXs hbl hbA hS hL (k := i + 2) (by omega) (by omega) dL_law_790 ?_
  refine lv_aload_n C.1 C.2.1 dL_law_791 rfl (lv_at hl 0 rfl) ?_
  refine lv_iload_n C.1 C.2.1 dL_law_792 rfl (lv_at hl 3 rfl) ?_
  refine lv_iconst (v := II 3) C.1 C.2.1 dL_law_793 rfl ?_
  refine x_iadd C dL_law_794 ?_
  refine x_scr C hXs hbl hbA hS hL (k := i + 3) (by omega) (by omega) dL_law_795 ?_
  refine x_ci (x_runV (n := 3) C hw hS hml hl.1 0 7 (by omega) rfl (by decide) rfl (c_X7_sheet l g M hF n v nt pd t X I Sh hRC hA ((xs (i + 1)).toInt) (rg_toInt _) ((xs (i + 2)).toInt) (rg_toInt _) ((xs (i + 3)).toInt) (rg_toInt _)) mw_781 mw_782 mw_783 mw_117 mw_784 rfl rfl (by decide +kernel) ⟨Nat.le_of_ble_eq_true rfl, Nat.le_of_ble_eq_true rfl⟩ rfl rfl (Nat.le_of_ble_eq_true rfl) dL_law_796 ⟨Nat.le_of_ble_eq_true rfl, Nat.le_of_ble_eq_true rfl⟩) hS (fun r1 M1 H locs hr1 hp hw hS => ?_)
  obtain ⟨er1, h1r, h1k⟩ := hp
  rw [er1] at hr1 ⊢
  refine lv_aload_n C.1 C.2.1 dL_law_799 rfl (lv_at hl 2 rfl) ?_
  refine lv_aload_n C.1 C.2.1 dL_law_800 rfl (lv_at hl 0 rfl) ?_
  refine lv_iload_n C.1 C.2.1 dL_law_801 rfl (lv_at hl 3 rfl) ?_
  refine lv_iconst (v := II 1) C.1 C.2.1 dL_law_802 rfl ?_
  refine x_iadd C dL_law_803 ?_
  refine x_scr C hXs hbl hbA hS hL (k := i + 1) (by omega) (by omega) dL_law_804 ?_
  refine lv_aload_n C.1 C.2.1 dL_law_805 rfl (lv_at hl 0 rfl) ?_
  refine lv_iload_n C.1 C.2.1 dL_law_806 rfl (lv_at hl 3 rfl) ?_
  refine lv_iconst (v := II 2) C.1 C.2.1 dL_law_807 rfl ?_
  refine x_iadd C dL_law_808 ?_
  refine x_scr C hXs hbl hbA hS hL (k := i + 2) (by omega) (by omega) dL_law_809 ?_
  refine lv_aload_n C.1 C.2.1 dL_law_810 rfl (lv_at hl 0 rfl) ?_
  refine lv_iload_n C.1 C.2.1 dL_law_811 rfl (lv_at hl 3 rfl) ?_
  refine lv_iconst (v := II 3) C.1 C.2.1 dL_law_812 rfl ?_
  refine x_iadd C dL_law_813 ?_
  refine x_scr C hXs hbl hbA hS hL (k := i + 3) (by omega) (by omega) dL_law_814 ?_
  refine x_ci (x_runV (n := 3) C hw hS hml hl.1 70 8 (by omega) rfl (by decide) rfl (c_X8_sheet l g M1 hF n v nt pd t X I Sh (hRM.far hA h1k) hA ((xs (i + 1)).toInt) (rg_toInt _) ((xs (i + 2)).toInt) (rg_toInt _) ((xs (i + 3)).toInt) (rg_toInt _)) mw_1346 mw_1315 mw_1316 mw_130 mw_1317 rfl rfl (by decide +kernel) ⟨Nat.le_of_ble_eq_true rfl, Nat.le_of_ble_eq_true rfl⟩ rfl rfl (Nat.le_of_ble_eq_true rfl) dL_law_815 ⟨Nat.le_of_ble_eq_true rfl, Nat.le_of_ble_eq_true rfl⟩) hS (fun r2 M2 H locs hr2 hp hw hS => ?_)
  obtain ⟨er2, h2r, h2k⟩ := hp
  rw [er2] at hr2 ⊢
  refine x_icmp_eq (tgt := 1015) C hr1 hr2 dL_law_818 (by decide) (fun _ => ?_) (fun h => absurd rfl h)
  have hB := hA.sheet ((xs (i + 1)).toInt) ((xs (i + 2)).toInt) ((xs (i + 3)).toInt)
  exact hnext n v nt pd t X I (s_sheet Sh ((xs (i + 1)).toInt) ((xs (i + 2)).toInt) ((xs (i + 3)).toInt)) M2 H locs ls (h1r.far hB (fun m hm => h2k m (by omega))) h2r hB hw hS hl

set_option maxHeartbeats 4000000 in
set_option maxRecDepth 100000 in
theorem law_24 (l : Launch) {g : Gm} (hF : LvF g) {M : Nat → Int} {n : Nat} {v : Nat → Nat → Int} {nt pd : Int} {t : Nat} {X : Txt} {I : Option Bor} {Sh : Sht} (hRC : RepC M (n, v, nt, pd, t) X I Sh) (hRM : RepM M (n, v, nt, pd, t) X I Sh) (hA : InvA (n, v, nt, pd, t) X I Sh) {p : Program} {e : Env} {s : State} {m : MethodId} {args : Array Value} {below : List Frame} {meth : Method} {c : Code} {QQ : State → Prop} (C : Cx g p c m s args cL_law "RatedBySighsLaw") (hml : c.maxLocals = 4) {b L : Nat} {xs : Nat → Int32} (hXs : va_X b L xs s s.heap) (hbl : b < s.heap.size) (hbA : ¬ ar g b) (hL : L ≤ 3072) {i : Nat} (hi : i + 6 ≤ L) {H : Heap} {locs : List Loc} {ls : Array Slot} (hw : Wo g M H) (hS : va_S (ar g) s.heap H locs) (hl : lv_has ls 4 [(0, .ref b), (1, .ref (gA g 0)), (2, .ref (gA g 70)), (3, .int (II (i : Int)))]) (hnext : ∀ (n : Nat) (v : Nat → Nat → Int) (nt pd : Int) (t : Nat) (X : Txt) (I : Option Bor) (Sh : Sht) (M' : Nat → Int) (H : Heap) (locs : List Loc) (ls : Array Slot), RepC M' (n, v, nt, pd, t) X I Sh → RepM M' (n, v, nt, pd, t) X I Sh → InvA (n, v, nt, pd, t) X I Sh → Wo g M' H → va_S (ar g) s.heap H locs → lv_has ls 4 [(0, .ref b), (1, .ref (gA g 0)), (2, .ref (gA g 70)), (3, .int (II (i : Int)))] → W p l e room_1 s m args below meth c H locs 84 3448 QQ (F0 m 1015 ls [])) : W p l e room_1 s m args below meth c H locs 84 3448 QQ (F0 m 823 ls []) := by
  have hN : gN g = 84 := hF.1
  refine lv_aload_n C.1 C.2.1 dL_law_823 rfl (lv_at hl 1 rfl) ?_
  refine lv_aload_n C.1 C.2.1 dL_law_824 rfl (lv_at hl 0 rfl) ?_
  refine lv_iload_n C.1 C.2.1 dL_law_825 rfl (lv_at hl 3 rfl) ?_
  refine lv_iconst (v := II 1) C.1 C.2.1 dL_law_826 rfl ?_
  refine x_iadd C dL_law_827 ?_
  refine x_scr C hXs hbl hbA hS hL (k := i + 1) (by omega) (by omega) dL_law_828 ?_
  refine lv_aload_n C.1 C.2.1 dL_law_829 rfl (lv_at hl 0 rfl) ?_
  refine lv_iload_n C.1 C.2.1 dL_law_830 rfl (lv_at hl 3 rfl) ?_
  refine lv_iconst (v := II 2) C.1 C.2.1 dL_law_831 rfl ?_
  refine x_iadd C dL_law_832 ?_
  refine x_scr C hXs hbl hbA hS hL (k := i + 2) (by omega) (by omega) dL_law_833 ?_
  refine lv_aload_n C.1 C.2.1 dL_law_834 rfl (lv_at hl 0 rfl) ?_
  refine lv_iload_n C.1 C.2.1 dL_law_835 rfl (lv_at hl 3 rfl) ?_
  refine lv_iconst (v := II 3) C.1 C.2.1 dL_law_836 rfl ?_
  refine x_iadd C dL_law_837 ?_
  refine x_scr C hXs hbl hbA hS hL (k := i + 3) (by omega) (by omega) dL_law_838 ?_
  refine x_ci (x_runV (n := 3) C hw hS hml hl.1 0 7 (by omega) rfl (by decide) rfl (c_X7_cell l g M hF n v nt pd t X I Sh hRC hA ((xs (i + 1)).toInt) (rg_toInt _) ((xs (i + 2)).toInt) (rg_toInt _) ((xs (i + 3)).toInt) (rg_toInt _)) mw_788 mw_789 mw_790 mw_117 mw_791 rfl rfl (by decide +kernel) ⟨Nat.le_of_ble_eq_true rfl, Nat.le_of_ble_eq_true rfl⟩ rfl rfl (Nat.le_of_ble_eq_true rfl) dL_law_839 ⟨Nat.le_of_ble_eq_true rfl, Nat.le_of_ble_eq_true rfl⟩) hS (fun r1 M1 H locs hr1 hp hw hS => ?_)
  obtain ⟨er1, h1r, h1k⟩ := hp
  rw [er1] at hr1 ⊢
  refine lv_aload_n C.1 C.2.1 dL_law_842 rfl (lv_at hl 2 rfl) ?_
  refine lv_aload_n C.1 C.2.1 dL_law_843 rfl (lv_at hl 0 rfl) ?_
  refine lv_iload_n C.1 C.2.1 dL_law_844 rfl (lv_at hl 3 rfl) ?_
  refine lv_iconst (v := II 1) C.1 C.2.1 dL_law_845 rfl ?_
  refine x_iadd C dL_law_846 ?_
  refine x_scr C hXs hbl hbA hS hL (k := i + 1) (by omega) (by omega) dL_law_847 ?_
  refine lv_aload_n C.1 C.2.1 dL_law_848 rfl (lv_at hl 0 rfl) ?_
  refine lv_iload_n C.1 C.2.1 dL_law_849 rfl (lv_at hl 3 rfl) ?_
  refine lv_iconst (v := II 2) C.1 C.2.1 dL_law_850 rfl ?_
  refine x_iadd C dL_law_851 ?_
  refine x_scr C hXs hbl hbA hS hL (k := i + 2) (by omega) (by omega) dL_law_852 ?_
  refine lv_aload_n C.1 C.2.1 dL_law_853 rfl (lv_at hl 0 rfl) ?_
  refine lv_iload_n C.1 C.2.1 dL_law_854 rfl (lv_at hl 3 rfl) ?_
  refine lv_iconst (v := II 3) C.1 C.2.1 dL_law_855 rfl ?_
  refine x_iadd C dL_law_856 ?_
  refine x_scr C hXs hbl hbA hS hL (k := i + 3) (by omega) (by omega) dL_law_857 ?_
  refine x_ci (x_runV (n := 3) C hw hS hml hl.1 70 8 (by omega) rfl (by decide) rfl (c_X8_cell l g M1 hF n v nt pd t X I Sh (hRM.far hA h1k) hA ((xs (i + 1)).toInt) (rg_toInt _) ((xs (i + 2)).toInt) (rg_toInt _) ((xs (i + 3)).toInt) (rg_toInt _)) mw_1347 mw_1348 mw_1349 mw_130 mw_1350 rfl rfl (by decide +kernel) ⟨Nat.le_of_ble_eq_true rfl, Nat.le_of_ble_eq_true rfl⟩ rfl rfl (Nat.le_of_ble_eq_true rfl) dL_law_858 ⟨Nat.le_of_ble_eq_true rfl, Nat.le_of_ble_eq_true rfl⟩) hS (fun r2 M2 H locs hr2 hp hw hS => ?_)
  obtain ⟨er2, h2r, h2k⟩ := hp
  rw [er2] at hr2 ⊢
  refine x_icmp_eq (tgt := 1015) C hr1 hr2 dL_law_861 (by decide) (fun _ => ?_) (fun h => absurd rfl h)
  have hB := hA.cell ((xs (i + 1)).toInt) ((xs (i + 2)).toInt) ((xs (i + 3)).toInt)
  exact hnext n v nt pd t X I (s_cell Sh ((xs (i + 1)).toInt) ((xs (i + 2)).toInt) ((xs (i + 3)).toInt)) M2 H locs ls (h1r.far hB (fun m hm => h2k m (by omega))) h2r hB hw hS hl

set_option maxHeartbeats 4000000 in
set_option maxRecDepth 100000 in
theorem law_25 (l : Launch) {g : Gm} (hF : LvF g) {M : Nat → Int} {n : Nat} {v : Nat → Nat → Int} {nt pd : Int} {t : Nat} {X : Txt} {I : Option Bor} {Sh : Sht} (hRC : RepC M (n, v, nt, pd, t) X I Sh) (hRM : RepM M (n, v, nt, pd, t) X I Sh) (hA : InvA (n, v, nt, pd, t) X I Sh) {p : Program} {e : Env} {s : State} {m : MethodId} {args : Array Value} {below : List Frame} {meth : Method} {c : Code} {QQ : State → Prop} (C : Cx g p c m s args cL_law "RatedBySighsLaw") (hml : c.maxLocals = 4) {b L : Nat} {xs : Nat → Int32} (hXs : va_X b L xs s s.heap) (hbl : b < s.heap.size) (hbA : ¬ ar g b) (hL : L ≤ 3072) {i : Nat} (hi : i + 6 ≤ L) {H : Heap} {locs : List Loc} {ls : Array Slot} (hw : Wo g M H) (hS : va_S (ar g) s.heap H locs) (hl : lv_has ls 4 [(0, .ref b), (1, .ref (gA g 0)), (2, .ref (gA g 70)), (3, .int (II (i : Int)))]) (hnext : ∀ (n : Nat) (v : Nat → Nat → Int) (nt pd : Int) (t : Nat) (X : Txt) (I : Option Bor) (Sh : Sht) (M' : Nat → Int) (H : Heap) (locs : List Loc) (ls : Array Slot), RepC M' (n, v, nt, pd, t) X I Sh → RepM M' (n, v, nt, pd, t) X I Sh → InvA (n, v, nt, pd, t) X I Sh → Wo g M' H → va_S (ar g) s.heap H locs → lv_has ls 4 [(0, .ref b), (1, .ref (gA g 0)), (2, .ref (gA g 70)), (3, .int (II (i : Int)))] → W p l e room_1 s m args below meth c H locs 84 3448 QQ (F0 m 1015 ls [])) : W p l e room_1 s m args below meth c H locs 84 3448 QQ (F0 m 866 ls []) := by
  have hN : gN g = 84 := hF.1
  refine lv_aload_n C.1 C.2.1 dL_law_866 rfl (lv_at hl 1 rfl) ?_
  refine lv_aload_n C.1 C.2.1 dL_law_867 rfl (lv_at hl 0 rfl) ?_
  refine lv_iload_n C.1 C.2.1 dL_law_868 rfl (lv_at hl 3 rfl) ?_
  refine lv_iconst (v := II 1) C.1 C.2.1 dL_law_869 rfl ?_
  refine x_iadd C dL_law_870 ?_
  refine x_scr C hXs hbl hbA hS hL (k := i + 1) (by omega) (by omega) dL_law_871 ?_
  refine lv_aload_n C.1 C.2.1 dL_law_872 rfl (lv_at hl 0 rfl) ?_
  refine lv_iload_n C.1 C.2.1 dL_law_873 rfl (lv_at hl 3 rfl) ?_
  refine lv_iconst (v := II 2) C.1 C.2.1 dL_law_874 rfl ?_
  refine x_iadd C dL_law_875 ?_
  refine x_scr C hXs hbl hbA hS hL (k := i + 2) (by omega) (by omega) dL_law_876 ?_
  refine lv_aload_n C.1 C.2.1 dL_law_877 rfl (lv_at hl 0 rfl) ?_
  refine lv_iload_n C.1 C.2.1 dL_law_878 rfl (lv_at hl 3 rfl) ?_
  refine lv_iconst (v := II 3) C.1 C.2.1 dL_law_879 rfl ?_
  refine x_iadd C dL_law_880 ?_
  refine x_scr C hXs hbl hbA hS hL (k := i + 3) (by omega) (by omega) dL_law_881 ?_
  refine lv_aload_n C.1 C.2.1 dL_law_882 rfl (lv_at hl 0 rfl) ?_
  refine lv_iload_n C.1 C.2.1 dL_law_883 rfl (lv_at hl 3 rfl) ?_
  refine lv_iconst (v := II 4) C.1 C.2.1 dL_law_884 rfl ?_
  refine x_iadd C dL_law_885 ?_
  refine x_scr C hXs hbl hbA hS hL (k := i + 4) (by omega) (by omega) dL_law_886 ?_
  refine lv_aload_n C.1 C.2.1 dL_law_887 rfl (lv_at hl 0 rfl) ?_
  refine lv_iload_n C.1 C.2.1 dL_law_888 rfl (lv_at hl 3 rfl) ?_
  refine lv_iconst (v := II 5) C.1 C.2.1 dL_law_889 rfl ?_
  refine x_iadd C dL_law_890 ?_
  refine x_scr C hXs hbl hbA hS hL (k := i + 5) (by omega) (by omega) dL_law_891 ?_
  refine x_ci (x_runV (n := 5) C hw hS hml hl.1 0 7 (by omega) rfl (by decide) rfl (c_X7_copy l g M hF n v nt pd t X I Sh hRC hA ((xs (i + 1)).toInt) (rg_toInt _) ((xs (i + 2)).toInt) (rg_toInt _) ((xs (i + 3)).toInt) (rg_toInt _) ((xs (i + 4)).toInt) (rg_toInt _) ((xs (i + 5)).toInt) (rg_toInt _)) mw_796 mw_797 mw_798 mw_117 mw_799 rfl rfl (by decide +kernel) ⟨Nat.le_of_ble_eq_true rfl, Nat.le_of_ble_eq_true rfl⟩ rfl rfl (Nat.le_of_ble_eq_true rfl) dL_law_892 ⟨Nat.le_of_ble_eq_true rfl, Nat.le_of_ble_eq_true rfl⟩) hS (fun r1 M1 H locs hr1 hp hw hS => ?_)
  obtain ⟨er1, h1r, h1k⟩ := hp
  rw [er1] at hr1 ⊢
  refine lv_aload_n C.1 C.2.1 dL_law_895 rfl (lv_at hl 2 rfl) ?_
  refine lv_aload_n C.1 C.2.1 dL_law_896 rfl (lv_at hl 0 rfl) ?_
  refine lv_iload_n C.1 C.2.1 dL_law_897 rfl (lv_at hl 3 rfl) ?_
  refine lv_iconst (v := II 1) C.1 C.2.1 dL_law_898 rfl ?_
  refine x_iadd C dL_law_899 ?_
  refine x_scr C hXs hbl hbA hS hL (k := i + 1) (by omega) (by omega) dL_law_900 ?_
  refine lv_aload_n C.1 C.2.1 dL_law_901 rfl (lv_at hl 0 rfl) ?_
  refine lv_iload_n C.1 C.2.1 dL_law_902 rfl (lv_at hl 3 rfl) ?_
  refine lv_iconst (v := II 2) C.1 C.2.1 dL_law_903 rfl ?_
  refine x_iadd C dL_law_904 ?_
  refine x_scr C hXs hbl hbA hS hL (k := i + 2) (by omega) (by omega) dL_law_905 ?_
  refine lv_aload_n C.1 C.2.1 dL_law_906 rfl (lv_at hl 0 rfl) ?_
  refine lv_iload_n C.1 C.2.1 dL_law_907 rfl (lv_at hl 3 rfl) ?_
  refine lv_iconst (v := II 3) C.1 C.2.1 dL_law_908 rfl ?_
  refine x_iadd C dL_law_909 ?_
  refine x_scr C hXs hbl hbA hS hL (k := i + 3) (by omega) (by omega) dL_law_910 ?_
  refine lv_aload_n C.1 C.2.1 dL_law_911 rfl (lv_at hl 0 rfl) ?_
  refine lv_iload_n C.1 C.2.1 dL_law_912 rfl (lv_at hl 3 rfl) ?_
  refine lv_iconst (v := II 4) C.1 C.2.1 dL_law_913 rfl ?_
  refine x_iadd C dL_law_914 ?_
  refine x_scr C hXs hbl hbA hS hL (k := i + 4) (by omega) (by omega) dL_law_915 ?_
  refine lv_aload_n C.1 C.2.1 dL_law_916 rfl (lv_at hl 0 rfl) ?_
  refine lv_iload_n C.1 C.2.1 dL_law_917 rfl (lv_at hl 3 rfl) ?_
  refine lv_iconst (v := II 5) C.1 C.2.1 dL_law_918 rfl ?_
  refine x_iadd C dL_law_919 ?_
  refine x_scr C hXs hbl hbA hS hL (k := i + 5) (by omega) (by omega) dL_law_920 ?_
  refine x_ci (x_runV (n := 5) C hw hS hml hl.1 70 8 (by omega) rfl (by decide) rfl (c_X8_copy l g M1 hF n v nt pd t X I Sh (hRM.far hA h1k) hA ((xs (i + 1)).toInt) (rg_toInt _) ((xs (i + 2)).toInt) (rg_toInt _) ((xs (i + 3)).toInt) (rg_toInt _) ((xs (i + 4)).toInt) (rg_toInt _) ((xs (i + 5)).toInt) (rg_toInt _)) mw_1351 mw_1352 mw_1353 mw_130 mw_1354 rfl rfl (by decide +kernel) ⟨Nat.le_of_ble_eq_true rfl, Nat.le_of_ble_eq_true rfl⟩ rfl rfl (Nat.le_of_ble_eq_true rfl) dL_law_921 ⟨Nat.le_of_ble_eq_true rfl, Nat.le_of_ble_eq_true rfl⟩) hS (fun r2 M2 H locs hr2 hp hw hS => ?_)
  obtain ⟨er2, h2r, h2k⟩ := hp
  rw [er2] at hr2 ⊢
  refine x_icmp_eq (tgt := 1015) C hr1 hr2 dL_law_924 (by decide) (fun _ => ?_) (fun h => absurd rfl h)
  have hB := hA.copy ((xs (i + 1)).toInt) ((xs (i + 2)).toInt) ((xs (i + 3)).toInt) ((xs (i + 4)).toInt) ((xs (i + 5)).toInt)
  exact hnext n v nt pd t X I (s_copy Sh ((xs (i + 1)).toInt) ((xs (i + 2)).toInt) ((xs (i + 3)).toInt) ((xs (i + 4)).toInt) ((xs (i + 5)).toInt)) M2 H locs ls (h1r.far hB (fun m hm => h2k m (by omega))) h2r hB hw hS hl

set_option maxHeartbeats 4000000 in
set_option maxRecDepth 100000 in
theorem law_26 (l : Launch) {g : Gm} (hF : LvF g) {M : Nat → Int} {n : Nat} {v : Nat → Nat → Int} {nt pd : Int} {t : Nat} {X : Txt} {I : Option Bor} {Sh : Sht} (hRC : RepC M (n, v, nt, pd, t) X I Sh) (hRM : RepM M (n, v, nt, pd, t) X I Sh) (hA : InvA (n, v, nt, pd, t) X I Sh) {p : Program} {e : Env} {s : State} {m : MethodId} {args : Array Value} {below : List Frame} {meth : Method} {c : Code} {QQ : State → Prop} (C : Cx g p c m s args cL_law "RatedBySighsLaw") (hml : c.maxLocals = 4) {b L : Nat} {xs : Nat → Int32} (hXs : va_X b L xs s s.heap) (hbl : b < s.heap.size) (hbA : ¬ ar g b) (hL : L ≤ 3072) {i : Nat} (hi : i + 6 ≤ L) {H : Heap} {locs : List Loc} {ls : Array Slot} (hw : Wo g M H) (hS : va_S (ar g) s.heap H locs) (hl : lv_has ls 4 [(0, .ref b), (1, .ref (gA g 0)), (2, .ref (gA g 70)), (3, .int (II (i : Int)))]) (hnext : ∀ (n : Nat) (v : Nat → Nat → Int) (nt pd : Int) (t : Nat) (X : Txt) (I : Option Bor) (Sh : Sht) (M' : Nat → Int) (H : Heap) (locs : List Loc) (ls : Array Slot), RepC M' (n, v, nt, pd, t) X I Sh → RepM M' (n, v, nt, pd, t) X I Sh → InvA (n, v, nt, pd, t) X I Sh → Wo g M' H → va_S (ar g) s.heap H locs → lv_has ls 4 [(0, .ref b), (1, .ref (gA g 0)), (2, .ref (gA g 70)), (3, .int (II (i : Int)))] → W p l e room_1 s m args below meth c H locs 84 3448 QQ (F0 m 1015 ls [])) : W p l e room_1 s m args below meth c H locs 84 3448 QQ (F0 m 929 ls []) := by
  have hN : gN g = 84 := hF.1
  refine lv_aload_n C.1 C.2.1 dL_law_929 rfl (lv_at hl 1 rfl) ?_
  refine lv_aload_n C.1 C.2.1 dL_law_930 rfl (lv_at hl 0 rfl) ?_
  refine lv_iload_n C.1 C.2.1 dL_law_931 rfl (lv_at hl 3 rfl) ?_
  refine lv_iconst (v := II 1) C.1 C.2.1 dL_law_932 rfl ?_
  refine x_iadd C dL_law_933 ?_
  refine x_scr C hXs hbl hbA hS hL (k := i + 1) (by omega) (by omega) dL_law_934 ?_
  refine lv_aload_n C.1 C.2.1 dL_law_935 rfl (lv_at hl 0 rfl) ?_
  refine lv_iload_n C.1 C.2.1 dL_law_936 rfl (lv_at hl 3 rfl) ?_
  refine lv_iconst (v := II 2) C.1 C.2.1 dL_law_937 rfl ?_
  refine x_iadd C dL_law_938 ?_
  refine x_scr C hXs hbl hbA hS hL (k := i + 2) (by omega) (by omega) dL_law_939 ?_
  refine lv_aload_n C.1 C.2.1 dL_law_940 rfl (lv_at hl 0 rfl) ?_
  refine lv_iload_n C.1 C.2.1 dL_law_941 rfl (lv_at hl 3 rfl) ?_
  refine lv_iconst (v := II 3) C.1 C.2.1 dL_law_942 rfl ?_
  refine x_iadd C dL_law_943 ?_
  refine x_scr C hXs hbl hbA hS hL (k := i + 3) (by omega) (by omega) dL_law_944 ?_
  refine lv_aload_n C.1 C.2.1 dL_law_945 rfl (lv_at hl 0 rfl) ?_
  refine lv_iload_n C.1 C.2.1 dL_law_946 rfl (lv_at hl 3 rfl) ?_
  refine lv_iconst (v := II 4) C.1 C.2.1 dL_law_947 rfl ?_
  refine x_iadd C dL_law_948 ?_
  refine x_scr C hXs hbl hbA hS hL (k := i + 4) (by omega) (by omega) dL_law_949 ?_
  refine x_ci (x_runV (n := 4) C hw hS hml hl.1 0 7 (by omega) rfl (by decide) rfl (c_X7_tenants l g M hF n v nt pd t X I Sh hRC hA ((xs (i + 1)).toInt) (rg_toInt _) ((xs (i + 2)).toInt) (rg_toInt _) ((xs (i + 3)).toInt) (rg_toInt _) ((xs (i + 4)).toInt) (rg_toInt _)) mw_801 mw_802 mw_803 mw_117 mw_804 rfl rfl (by decide +kernel) ⟨Nat.le_of_ble_eq_true rfl, Nat.le_of_ble_eq_true rfl⟩ rfl rfl (Nat.le_of_ble_eq_true rfl) dL_law_950 ⟨Nat.le_of_ble_eq_true rfl, Nat.le_of_ble_eq_true rfl⟩) hS (fun r1 M1 H locs hr1 hp hw hS => ?_)
  obtain ⟨er1, h1r, h1k⟩ := hp
  rw [er1] at hr1 ⊢
  refine lv_aload_n C.1 C.2.1 dL_law_953 rfl (lv_at hl 2 rfl) ?_
  refine lv_aload_n C.1 C.2.1 dL_law_954 rfl (lv_at hl 0 rfl) ?_
  refine lv_iload_n C.1 C.2.1 dL_law_955 rfl (lv_at hl 3 rfl) ?_
  refine lv_iconst (v := II 1) C.1 C.2.1 dL_law_956 rfl ?_
  refine x_iadd C dL_law_957 ?_
  refine x_scr C hXs hbl hbA hS hL (k := i + 1) (by omega) (by omega) dL_law_958 ?_
  refine lv_aload_n C.1 C.2.1 dL_law_959 rfl (lv_at hl 0 rfl) ?_
  refine lv_iload_n C.1 C.2.1 dL_law_960 rfl (lv_at hl 3 rfl) ?_
  refine lv_iconst (v := II 2) C.1 C.2.1 dL_law_961 rfl ?_
  refine x_iadd C dL_law_962 ?_
  refine x_scr C hXs hbl hbA hS hL (k := i + 2) (by omega) (by omega) dL_law_963 ?_
  refine lv_aload_n C.1 C.2.1 dL_law_964 rfl (lv_at hl 0 rfl) ?_
  refine lv_iload_n C.1 C.2.1 dL_law_965 rfl (lv_at hl 3 rfl) ?_
  refine lv_iconst (v := II 3) C.1 C.2.1 dL_law_966 rfl ?_
  refine x_iadd C dL_law_967 ?_
  refine x_scr C hXs hbl hbA hS hL (k := i + 3) (by omega) (by omega) dL_law_968 ?_
  refine lv_aload_n C.1 C.2.1 dL_law_969 rfl (lv_at hl 0 rfl) ?_
  refine lv_iload_n C.1 C.2.1 dL_law_970 rfl (lv_at hl 3 rfl) ?_
  refine lv_iconst (v := II 4) C.1 C.2.1 dL_law_971 rfl ?_
  refine x_iadd C dL_law_972 ?_
  refine x_scr C hXs hbl hbA hS hL (k := i + 4) (by omega) (by omega) dL_law_973 ?_
  refine x_ci (x_runV (n := 4) C hw hS hml hl.1 70 8 (by omega) rfl (by decide) rfl (c_X8_tenants l g M1 hF n v nt pd t X I Sh (hRM.far hA h1k) hA ((xs (i + 1)).toInt) (rg_toInt _) ((xs (i + 2)).toInt) (rg_toInt _) ((xs (i + 3)).toInt) (rg_toInt _) ((xs (i + 4)).toInt) (rg_toInt _)) mw_1355 mw_1356 mw_1357 mw_130 mw_1358 rfl rfl (by decide +kernel) ⟨Nat.le_of_ble_eq_true rfl, Nat.le_of_ble_eq_true rfl⟩ rfl rfl (Nat.le_of_ble_eq_true rfl) dL_law_974 ⟨Nat.le_of_ble_eq_true rfl, Nat.le_of_ble_eq_true rfl⟩) hS (fun r2 M2 H locs hr2 hp hw hS => ?_)
  obtain ⟨er2, h2r, h2k⟩ := hp
  rw [er2] at hr2 ⊢
  refine x_icmp_eq (tgt := 1015) C hr1 hr2 dL_law_977 (by decide) (fun _ => ?_) (fun h => absurd rfl h)
  have hB := hA.tens ((xs (i + 1)).toInt) ((xs (i + 2)).toInt) ((xs (i + 3)).toInt) ((xs (i + 4)).toInt)
  exact hnext ((s_tens n v Sh ((xs (i + 1)).toInt) ((xs (i + 2)).toInt) ((xs (i + 3)).toInt) ((xs (i + 4)).toInt)).2.1) ((s_tens n v Sh ((xs (i + 1)).toInt) ((xs (i + 2)).toInt) ((xs (i + 3)).toInt) ((xs (i + 4)).toInt)).2.2) nt pd t X I Sh M2 H locs ls (h1r.far hB (fun m hm => h2k m (by omega))) h2r hB hw hS hl

set_option maxHeartbeats 4000000 in
set_option maxRecDepth 100000 in
theorem law_27 (l : Launch) {g : Gm} (hF : LvF g) {M : Nat → Int} {n : Nat} {v : Nat → Nat → Int} {nt pd : Int} {t : Nat} {X : Txt} {I : Option Bor} {Sh : Sht} (hRC : RepC M (n, v, nt, pd, t) X I Sh) (hRM : RepM M (n, v, nt, pd, t) X I Sh) (hA : InvA (n, v, nt, pd, t) X I Sh) {p : Program} {e : Env} {s : State} {m : MethodId} {args : Array Value} {below : List Frame} {meth : Method} {c : Code} {QQ : State → Prop} (C : Cx g p c m s args cL_law "RatedBySighsLaw") (hml : c.maxLocals = 4) {b L : Nat} {xs : Nat → Int32} (hXs : va_X b L xs s s.heap) (hbl : b < s.heap.size) (hbA : ¬ ar g b) (hL : L ≤ 3072) {i : Nat} (hi : i + 6 ≤ L) {H : Heap} {locs : List Loc} {ls : Array Slot} (hw : Wo g M H) (hS : va_S (ar g) s.heap H locs) (hl : lv_has ls 4 [(0, .ref b), (1, .ref (gA g 0)), (2, .ref (gA g 70)), (3, .int (II (i : Int)))]) (hnext : ∀ (n : Nat) (v : Nat → Nat → Int) (nt pd : Int) (t : Nat) (X : Txt) (I : Option Bor) (Sh : Sht) (M' : Nat → Int) (H : Heap) (locs : List Loc) (ls : Array Slot), RepC M' (n, v, nt, pd, t) X I Sh → RepM M' (n, v, nt, pd, t) X I Sh → InvA (n, v, nt, pd, t) X I Sh → Wo g M' H → va_S (ar g) s.heap H locs → lv_has ls 4 [(0, .ref b), (1, .ref (gA g 0)), (2, .ref (gA g 70)), (3, .int (II (i : Int)))] → W p l e room_1 s m args below meth c H locs 84 3448 QQ (F0 m 1015 ls [])) : W p l e room_1 s m args below meth c H locs 84 3448 QQ (F0 m 982 ls []) := by
  have hN : gN g = 84 := hF.1
  refine lv_aload_n C.1 C.2.1 dL_law_982 rfl (lv_at hl 1 rfl) ?_
  refine lv_aload_n C.1 C.2.1 dL_law_983 rfl (lv_at hl 0 rfl) ?_
  refine lv_iload_n C.1 C.2.1 dL_law_984 rfl (lv_at hl 3 rfl) ?_
  refine lv_iconst (v := II 1) C.1 C.2.1 dL_law_985 rfl ?_
  refine x_iadd C dL_law_986 ?_
  refine x_scr C hXs hbl hbA hS hL (k := i + 1) (by omega) (by omega) dL_law_987 ?_
  refine lv_aload_n C.1 C.2.1 dL_law_988 rfl (lv_at hl 0 rfl) ?_
  refine lv_iload_n C.1 C.2.1 dL_law_989 rfl (lv_at hl 3 rfl) ?_
  refine lv_iconst (v := II 2) C.1 C.2.1 dL_law_990 rfl ?_
  refine x_iadd C dL_law_991 ?_
  refine x_scr C hXs hbl hbA hS hL (k := i + 2) (by omega) (by omega) dL_law_992 ?_
  refine x_ci (x_runV (n := 2) C hw hS hml hl.1 0 7 (by omega) rfl (by decide) rfl (c_X7_taken l g M hF n v nt pd t X I Sh hRC hA ((xs (i + 1)).toInt) (rg_toInt _) ((xs (i + 2)).toInt) (rg_toInt _)) mw_806 mw_807 mw_808 mw_117 mw_809 rfl rfl (by decide +kernel) ⟨Nat.le_of_ble_eq_true rfl, Nat.le_of_ble_eq_true rfl⟩ rfl rfl (Nat.le_of_ble_eq_true rfl) dL_law_993 ⟨Nat.le_of_ble_eq_true rfl, Nat.le_of_ble_eq_true rfl⟩) hS (fun r1 M1 H locs hr1 hp hw hS => ?_)
  obtain ⟨er1, h1r, h1k⟩ := hp
  rw [er1] at hr1 ⊢
  refine lv_aload_n C.1 C.2.1 dL_law_996 rfl (lv_at hl 2 rfl) ?_
  refine lv_aload_n C.1 C.2.1 dL_law_997 rfl (lv_at hl 0 rfl) ?_
  refine lv_iload_n C.1 C.2.1 dL_law_998 rfl (lv_at hl 3 rfl) ?_
  refine lv_iconst (v := II 1) C.1 C.2.1 dL_law_999 rfl ?_
  refine x_iadd C dL_law_1000 ?_
  refine x_scr C hXs hbl hbA hS hL (k := i + 1) (by omega) (by omega) dL_law_1001 ?_
  refine lv_aload_n C.1 C.2.1 dL_law_1002 rfl (lv_at hl 0 rfl) ?_
  refine lv_iload_n C.1 C.2.1 dL_law_1003 rfl (lv_at hl 3 rfl) ?_
  refine lv_iconst (v := II 2) C.1 C.2.1 dL_law_1004 rfl ?_
  refine x_iadd C dL_law_1005 ?_
  refine x_scr C hXs hbl hbA hS hL (k := i + 2) (by omega) (by omega) dL_law_1006 ?_
  refine x_ci (x_runV (n := 2) C hw hS hml hl.1 70 8 (by omega) rfl (by decide) rfl (c_X8_taken l g M1 hF n v nt pd t X I Sh (hRM.far hA h1k) hA ((xs (i + 1)).toInt) (rg_toInt _) ((xs (i + 2)).toInt) (rg_toInt _)) mw_1360 mw_1361 mw_1362 mw_130 mw_1363 rfl rfl (by decide +kernel) ⟨Nat.le_of_ble_eq_true rfl, Nat.le_of_ble_eq_true rfl⟩ rfl rfl (Nat.le_of_ble_eq_true rfl) dL_law_1007 ⟨Nat.le_of_ble_eq_true rfl, Nat.le_of_ble_eq_true rfl⟩) hS (fun r2 M2 H locs hr2 hp hw hS => ?_)
  obtain ⟨er2, h2r, h2k⟩ := hp
  rw [er2] at hr2 ⊢
  refine x_icmp_eq (tgt := 1015) C hr1 hr2 dL_law_1010 (by decide) (fun _ => ?_) (fun h => absurd rfl h)
  have hB := hA
  exact hnext n v nt pd t X I Sh M2 H locs ls (h1r.far hB (fun m hm => h2k m (by omega))) h2r hB hw hS hl
