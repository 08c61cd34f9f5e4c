def sl (i : Nat) : Nat := slen.getD i 0
def sb (i j : Nat) : Int := ((sbyt.getD i []).getD j 0).toInt
theorem sl_of : ∀ i, i < 13 → Int32.ofNat (slen.getD i 0) = II ((sl i : Nat) : Int) := by decide +kernel
theorem sl_in : ∀ i, i < 13 → sl i ≤ 38 := by decide
theorem sb_in : ∀ i, i < 13 → ∀ j, j < 38 → 0 ≤ sb i j ∧ sb i j ≤ 127 := by decide +kernel
theorem sb_and : ∀ i, i < 13 → ∀ j, j < 38 → (II (sb i j) &&& II 255) = II (sb i j) := by decide +kernel
theorem sb_i2c : ∀ i, i < 13 → ∀ j, j < 38 → ((II (sb i j)).toUInt32 % 65536).toInt32 = II (sb i j) := by decide +kernel
theorem sb_nar : ∀ i, i < 13 → ∀ j, j < 38 → narrow .char (.int (II (sb i j))) = .int (II (sb i j)) := by decide +kernel
theorem sl_shr : ∀ i, i < 13 → (II ((sl i : Nat) : Int) >>> (II 0 &&& 31)) = II ((sl i : Nat) : Int) := by decide +kernel
section PZ
variable {p : Program} {l : Launch} {e : Env} {Rm : Room} {s : State} {m : MethodId} {args : Array Value} {below : List Frame} {meth : Method} {c : Code} {H : Heap} {locs : List Loc} {cells slots : Nat} {Q : State → Prop}
variable {cc : ByteArray} {own : String} {pc : Nat} {ls : Array Slot} {rest : List Value} {g : Gm} {M : Nat → Int}
variable {y : MethodName} {cd : ByteArray} {mL nL idx n mc ms : Nat} {rt : Option FieldType} {rm : Room} {Qc : Array Value → State → Outcome → State → Prop} {As st0 : List Value}
theorem x_ldcS (C : Cx g p c m s args cc own) (i : Nat) (hi : i < 13) (ho : sown.getD i "" = own) (hx : sidx.getD i 0 = idx) (hdg : decode cc pc = .ok (.ldc idx, 2)) (kk : W p l e Rm s m args below meth c H locs cells slots Q (F0 m (pc + 2) ls (.ref (gX g (100 + i)) :: rest))) : W p l e Rm s m args below meth c H locs cells slots Q (F0 m pc ls (rest)) := by
  have h := C.2.2.2.2.2.1.2.2.2.1 i hi
  rw [ho, hx] at h
  exact va_ldcS C.1 C.2.1 C.2.2.1 h hdg kk
theorem x_cpt (C : Cx g p c m s args cc own) (hS : va_S (ar g) s.heap H locs) (hl : Cond.fieldLink own idx "java/lang/String" "COMPACT_STRINGS" "Z" ∈ tT) (hdg : decode cc pc = .ok (.getstatic idx, 3)) (kk : W p l e Rm s m args below meth c H locs cells slots Q (F0 m (pc + 3) ls (.int (II 1) :: rest))) : W p l e Rm s m args below meth c H locs cells slots Q (F0 m pc ls (rest)) :=
  va_gets C.1 C.2.1 C.2.2.2.2.2.1.2.2.1.1 hS C.2.2.1 (C.2.2.2.1 _ hl) (fun _ h => h) hdg kk
theorem x_sio {v : Value} (C : Cx g p c m s args cc own) (hz : va_Z "jdk/internal/util/Preconditions" "SIOOBE_FORMATTER" "Ljava/util/function/BiFunction;" v (ar g) s s.heap) (hS : va_S (ar g) s.heap H locs) (hl : Cond.fieldLink own idx "jdk/internal/util/Preconditions" "SIOOBE_FORMATTER" "Ljava/util/function/BiFunction;" ∈ tT) (hdg : decode cc pc = .ok (.getstatic idx, 3)) (kk : W p l e Rm s m args below meth c H locs cells slots Q (F0 m (pc + 3) ls (v :: rest))) : W p l e Rm s m args below meth c H locs cells slots Q (F0 m pc ls (rest)) :=
  va_gets C.1 C.2.1 hz hS C.2.2.1 (C.2.2.2.1 _ hl) (fun _ h => h) hdg kk
theorem x_scod (C : Cx g p c m s args cc own) (hS : va_S (ar g) s.heap H locs) (i : Nat) (hi : i < 13) (hl : Cond.fieldLink own idx "java/lang/String" "coder" "B" ∈ tT) (hdg : decode cc pc = .ok (.getfield idx, 3)) (kk : W p l e Rm s m args below meth c H locs cells slots Q (F0 m (pc + 3) ls (.int (II 0) :: rest))) : W p l e Rm s m args below meth c H locs cells slots Q (F0 m pc ls (.ref (gX g (100 + i)) :: rest)) :=
  vk_getf C.1 C.2.1 (C.2.2.2.2.2.1.2.2.1.2.1 i hi).2.1 hS C.2.2.1 (C.2.2.2.1 _ hl) (fun _ h => h) hdg kk
theorem x_sval (C : Cx g p c m s args cc own) (hS : va_S (ar g) s.heap H locs) (i : Nat) (hi : i < 13) (hl : Cond.fieldLink own idx "java/lang/String" "value" "[B" ∈ tT) (hdg : decode cc pc = .ok (.getfield idx, 3)) (kk : W p l e Rm s m args below meth c H locs cells slots Q (F0 m (pc + 3) ls (.ref (gX g (200 + i)) :: rest))) : W p l e Rm s m args below meth c H locs cells slots Q (F0 m pc ls (.ref (gX g (100 + i)) :: rest)) :=
  vk_getf C.1 C.2.1 (C.2.2.2.2.2.1.2.2.1.2.1 i hi).2.2.1 hS C.2.2.1 (C.2.2.2.1 _ hl) (fun _ h => h) hdg kk
theorem x_slen (C : Cx g p c m s args cc own) (hS : va_S (ar g) s.heap H locs) (i : Nat) (hi : i < 13) (hdg : decode cc pc = .ok (.arraylength, 1)) (kk : W p l e Rm s m args below meth c H locs cells slots Q (F0 m (pc + 1) ls (.int (II ((sl i : Nat) : Int)) :: rest))) : W p l e Rm s m args below meth c H locs cells slots Q (F0 m pc ls (.ref (gX g (200 + i)) :: rest)) :=
  va_tlen C.1 C.2.1 (C.2.2.2.2.2.1.2.2.1.2.1 i hi).2.2.2 hS (sl_of i hi) hdg kk
theorem x_schr (C : Cx g p c m s args cc own) (hS : va_S (ar g) s.heap H locs) (i : Nat) (hi : i < 13) (j : Nat) (hj : j < sl i) (hdg : decode cc pc = .ok (.baload, 1)) (kk : W p l e Rm s m args below meth c H locs cells slots Q (F0 m (pc + 1) ls (.int (II (sb i j)) :: rest))) : W p l e Rm s m args below meth c H locs cells slots Q (F0 m pc ls (.int (II (j : Int)) :: .ref (gX g (200 + i)) :: rest)) := by
  have h38 := sl_in i hi
  refine va_tb C.1 C.2.1 (C.2.2.2.2.2.1.2.2.1.2.1 i hi).2.2.2 hS (II_in (by omega) (show (j : Int) < (sl i : Nat) by omega) (by show sl i < _; omega)) ?_ hdg kk
  rw [II_cl ⟨by omega, by omega⟩]
  show Value.int _ = Value.int (II (sb i j))
  rw [Int.toNat_natCast]
  unfold sb
  rw [II_self]
theorem x_runVs (C : Cx g p c m s args cc own) (hw : Wo g M H) (hS : va_S (ar g) s.heap H locs) (hml : c.maxLocals = nL) (hls : ls.size = nL) (i : Nat) (hi : i < 13) (hM : Met l y (.code y cd mL rt :: tT) rm (va_Pc (.ref (gX g (100 + i)) :: As) (Wd g M)) Qc mc ms (ar g))
    (m1 : Cond.methodLink own idx y ∈ tT) (m2 : Cond.instanceMethod y ∈ tT) (m3 : Cond.selects "java/lang/String" y y ∈ tT) (m4 : Cond.initialized "java/lang/String" ∈ tT) (m5 : Cond.code y cd mL rt ∈ tT) (hrc : rm.cells = mc) (hrs : rm.slots = ms) (hd : y.cls = "java/lang/String" ∧ y.cls ≠ "java/lang/invoke/MethodHandle" ∧ y.cls ≠ "java/lang/invoke/VarHandle" ∧ (parseMethodDescriptor y.desc).map (fun d => d.parameters.length) = some n) (hR : rm.frames + 1 ≤ Rm.frames ∧ 8 + (mL + 11) + rm.locals ≤ Rm.locals)
    (hn : As.length = n) (hst : st0 = As.reverse ++ .ref (gX g (100 + i)) :: rest) (hW : (rest.map fun v => v.category).sum ≤ 8) (hdg : decode cc pc = .ok (.invokevirtual idx, 3)) (hf : cells + mc ≤ Rm.cells ∧ slots + ms ≤ Rm.slots) :
    va_Run p l e Rm s m args below meth c H locs cells slots mc ms (F0 m pc ls st0) rest (Qc (Value.ref (gX g (100 + i)) :: As).toArray) (ar g) :=
  va_runV (Ts := tT) ⟨C.1, C.2.1, hml, C.2.2.1, C.2.2.2.1⟩ hM (cwV n C.2.2.2.1 (tT_sub (fun w h => by
    rcases List.mem_append.mp h with h | h
    · simp only [List.mem_cons, List.not_mem_nil, or_false] at h
      rcases h with rfl | rfl | rfl | rfl
      · exact m1
      · exact m2
      · exact m3
      · exact m4
    · exact (List.mem_cons.mp h).elim (fun e => e ▸ m5) id)) rfl hrc hrs hd hR) ⟨Wd.blind, vk_recv (adK := fun i => gX g (100 + i)) (i := i) C.2.2.2.2.2.1.2.2.1.2 hi hS, fun U hU hW => ⟨rfl, C.wd hS hw hU hW⟩⟩ rfl hn hls hst (lv_room hW) hdg hf
end PZ
set_option maxHeartbeats 4000000 in
set_option maxRecDepth 100000 in
theorem c_J0_coder (l : Launch) (g : Gm) (M : Nat → Int) (i : Nat) (hi : i < 13) : CI l ({ cls := "java/lang/String", name := "coder", desc := "()B" } : Jvm.MethodName) cJ0_coder_7d493 1 .byte (rmm 0 0) g M [.ref (gX g (100 + i))] (fun r M' => M' = M ∧ r = 0) := by
  refine c_start (by decide) (Nat.le_of_ble_eq_true rfl) (fun p e s m below meth c ls C hr hlk hml hw hS hl => ?_)
  have hl : lv_has ls 1 [(0, .ref (gX g (100 + i)))] := hl
  have g_M := hw.rg
  refine x_cpt C hS mw_350 dJ0_coder_7d493_0 ?_
  refine x_if_eq (tgt := 13) C ⟨by decide, by decide⟩ dJ0_coder_7d493_3 (by decide) (fun h => absurd h (by decide)) (fun _ => ?_)
  refine lv_aload_n C.1 C.2.1 dJ0_coder_7d493_6 rfl (lv_at hl 0 rfl) ?_
  refine x_scod C hS i hi mw_1368 dJ0_coder_7d493_7 ?_
  refine lv_goto (tgt := 14) C.1 C.2.1 dJ0_coder_7d493_10 (by decide) ?_
  exact x_ireturn C hr hlk hw hS ⟨by decide, by decide⟩ (by decide) ⟨rfl, rfl⟩ dJ0_coder_7d493_14

set_option maxHeartbeats 4000000 in
set_option maxRecDepth 100000 in
theorem c_J0_isLatin1 (l : Launch) (g : Gm) (M : Nat → Int) (i : Nat) (hi : i < 13) : CI l ({ cls := "java/lang/String", name := "isLatin1", desc := "()Z" } : Jvm.MethodName) cJ0_isLatin1_aae02 1 .boolean (rmm 0 0) g M [.ref (gX g (100 + i))] (fun r M' => M' = M ∧ r = 1) := by
  refine c_start (by decide) (Nat.le_of_ble_eq_true rfl) (fun p e s m below meth c ls C hr hlk hml hw hS hl => ?_)
  have hl : lv_has ls 1 [(0, .ref (gX g (100 + i)))] := hl
  have g_M := hw.rg
  refine x_cpt C hS mw_350 dJ0_isLatin1_aae02_0 ?_
  refine x_if_eq (tgt := 17) C ⟨by decide, by decide⟩ dJ0_isLatin1_aae02_3 (by decide) (fun h => absurd h (by decide)) (fun _ => ?_)
  refine lv_aload_n C.1 C.2.1 dJ0_isLatin1_aae02_6 rfl (lv_at hl 0 rfl) ?_
  refine x_scod C hS i hi mw_1368 dJ0_isLatin1_aae02_7 ?_
  refine x_if_ne (tgt := 17) C ⟨by decide, by decide⟩ dJ0_isLatin1_aae02_10 (by decide) (fun h => absurd h (by decide)) (fun _ => ?_)
  refine lv_iconst (v := II 1) C.1 C.2.1 dJ0_isLatin1_aae02_13 rfl ?_
  refine lv_goto (tgt := 18) C.1 C.2.1 dJ0_isLatin1_aae02_14 (by decide) ?_
  exact x_ireturn C hr hlk hw hS ⟨by decide, by decide⟩ (by decide) ⟨rfl, rfl⟩ dJ0_isLatin1_aae02_18

set_option maxHeartbeats 4000000 in
set_option maxRecDepth 100000 in
theorem c_J0_length (l : Launch) (g : Gm) (M : Nat → Int) (i : Nat) (hi : i < 13) : CI l ({ cls := "java/lang/String", name := "length", desc := "()I" } : Jvm.MethodName) cJ0_length_8abf5 1 .int (rmm 1 20) g M [.ref (gX g (100 + i))] (fun r M' => M' = M ∧ r = ((sl i : Nat) : Int)) := by
  refine c_start (by decide) (Nat.le_of_ble_eq_true rfl) (fun p e s m below meth c ls C hr hlk hml hw hS hl => ?_)
  have hl : lv_has ls 1 [(0, .ref (gX g (100 + i)))] := hl
  have g_M := hw.rg
  have h38 := sl_in i hi
  refine lv_aload_n C.1 C.2.1 dJ0_length_8abf5_0 rfl (lv_at hl 0 rfl) ?_
  refine x_sval C hS i hi mw_1367 dJ0_length_8abf5_1 ?_
  refine x_slen C hS i hi dJ0_length_8abf5_4 ?_
  refine lv_aload_n C.1 C.2.1 dJ0_length_8abf5_5 rfl (lv_at hl 0 rfl) ?_
  refine x_ci (x_runVs (n := 0) C hw hS hml hl.1 i (by omega) (c_J0_coder l g M i (by first | assumption | omega | exact ⟨by omega, by omega⟩ | decide)) mw_346 mw_347 mw_348 mw_125 mw_349 rfl rfl (by decide +kernel) ⟨Nat.le_of_ble_eq_true rfl, Nat.le_of_ble_eq_true rfl⟩ rfl rfl (Nat.le_of_ble_eq_true rfl) dJ0_length_8abf5_6 ⟨Nat.zero_le _, Nat.zero_le _⟩) hS (fun r6 M6 H locs hr6 hp hw hS => ?_)
  obtain ⟨em6, er6⟩ := hp
  have hw : Wo g M H := em6 ▸ hw
  rw [er6] at hr6 ⊢
  refine lv_ishr C.1 C.2.1 dJ0_length_8abf5_9 ?_
  rw [sl_shr i hi]
  exact x_ireturn C hr hlk hw hS ⟨by omega, by omega⟩ rfl ⟨rfl, rfl⟩ dJ0_length_8abf5_10

set_option maxHeartbeats 4000000 in
set_option maxRecDepth 100000 in
theorem c_J3_checkN (l : Launch) (g : Gm) (M : Nat → Int) (a : Int) (b : Int) (hab : 0 ≤ a ∧ a < b ∧ b ≤ 1000) : CI l ({ cls := "jdk/internal/util/Preconditions", name := "checkIndex", desc := "(IILjava/util/function/BiFunction;)I" } : Jvm.MethodName) cJ3_checkIndex_8e157 3 .int (rmm 0 0) g M [.int (II a), .int (II b), .null] (fun r M' => M' = M ∧ r = a) := by
  refine c_start (by decide) (Nat.le_of_ble_eq_true rfl) (fun p e s m below meth c ls C hr hlk hml hw hS hl => ?_)
  have hl : lv_has ls 3 [(0, .int (II a)), (1, .int (II b)), (2, .null)] := hl
  have g_M := hw.rg
  refine lv_iload_n C.1 C.2.1 dJ3_checkIndex_8e157_0 rfl (lv_at hl 0 rfl) ?_
  refine x_if_lt (tgt := 9) C ⟨by omega, by omega⟩ dJ3_checkIndex_8e157_1 (by decide) (fun c1 => by exfalso; omega) (fun c1 => ?_)
  refine lv_iload_n C.1 C.2.1 dJ3_checkIndex_8e157_4 rfl (lv_at hl 0 rfl) ?_
  refine lv_iload_n C.1 C.2.1 dJ3_checkIndex_8e157_5 rfl (lv_at hl 1 rfl) ?_
  refine x_icmp_lt (tgt := 16) C ⟨by omega, by omega⟩ ⟨by omega, by omega⟩ dJ3_checkIndex_8e157_6 (by decide) (fun c6 => ?_) (fun c6 => by exfalso; omega)
  refine lv_iload_n C.1 C.2.1 dJ3_checkIndex_8e157_16 rfl (lv_at hl 0 rfl) ?_
  exact x_ireturn C hr hlk hw hS ⟨by omega, by omega⟩ rfl ⟨rfl, rfl⟩ dJ3_checkIndex_8e157_17

set_option maxHeartbeats 4000000 in
set_option maxRecDepth 100000 in
theorem c_J3_checkA (l : Launch) (g : Gm) (M : Nat → Int) (a : Int) (b : Int) (hab : 0 ≤ a ∧ a < b ∧ b ≤ 1000) (t : Nat) : CI l ({ cls := "jdk/internal/util/Preconditions", name := "checkIndex", desc := "(IILjava/util/function/BiFunction;)I" } : Jvm.MethodName) cJ3_checkIndex_8e157 3 .int (rmm 0 0) g M [.int (II a), .int (II b), .ref t] (fun r M' => M' = M ∧ r = a) := by
  refine c_start (by decide) (Nat.le_of_ble_eq_true rfl) (fun p e s m below meth c ls C hr hlk hml hw hS hl => ?_)
  have hl : lv_has ls 3 [(0, .int (II a)), (1, .int (II b)), (2, .ref t)] := hl
  have g_M := hw.rg
  refine lv_iload_n C.1 C.2.1 dJ3_checkIndex_8e157_0 rfl (lv_at hl 0 rfl) ?_
  refine x_if_lt (tgt := 9) C ⟨by omega, by omega⟩ dJ3_checkIndex_8e157_1 (by decide) (fun c1 => by exfalso; omega) (fun c1 => ?_)
  refine lv_iload_n C.1 C.2.1 dJ3_checkIndex_8e157_4 rfl (lv_at hl 0 rfl) ?_
  refine lv_iload_n C.1 C.2.1 dJ3_checkIndex_8e157_5 rfl (lv_at hl 1 rfl) ?_
  refine x_icmp_lt (tgt := 16) C ⟨by omega, by omega⟩ ⟨by omega, by omega⟩ dJ3_checkIndex_8e157_6 (by decide) (fun c6 => ?_) (fun c6 => by exfalso; omega)
  refine lv_iload_n C.1 C.2.1 dJ3_checkIndex_8e157_16 rfl (lv_at hl 0 rfl) ?_
  exact x_ireturn C hr hlk hw hS ⟨by omega, by omega⟩ rfl ⟨rfl, rfl⟩ dJ3_checkIndex_8e157_17

set_option maxHeartbeats 4000000 in
set_option maxRecDepth 100000 in
theorem c_J0_checkIndex (l : Launch) (g : Gm) (M : Nat → Int) (a : Int) (b : Int) (hab : 0 ≤ a ∧ a < b ∧ b ≤ 1000) : CV l ({ cls := "java/lang/String", name := "checkIndex", desc := "(II)V" } : Jvm.MethodName) cJ0_checkIndex_df160 2 (rmm 1 22) g M [.int (II a), .int (II b)] (fun M' => M' = M) := by
  refine c_start (by decide) (Nat.le_of_ble_eq_true rfl) (fun p e s m below meth c ls C hr hlk hml hw hS hl => ?_)
  have hl : lv_has ls 2 [(0, .int (II a)), (1, .int (II b))] := hl
  have g_M := hw.rg
  refine lv_iload_n C.1 C.2.1 dJ0_checkIndex_df160_0 rfl (lv_at hl 0 rfl) ?_
  refine lv_iload_n C.1 C.2.1 dJ0_checkIndex_df160_1 rfl (lv_at hl 1 rfl) ?_
  rcases C.2.2.2.2.2.1.2.2.2.2 with hz | ⟨t, hz⟩
  · refine x_sio C hz hS mw_366 dJ0_checkIndex_df160_2 ?_
    refine x_ci (x_runS (n := 3) C hw hS hml hl.1 (c_J3_checkN l g M a b (by first | assumption | omega | exact ⟨by omega, by omega⟩ | decide)) mw_368 mw_369 mw_127 mw_370 rfl rfl (by decide +kernel) ⟨Nat.le_of_ble_eq_true rfl, Nat.le_of_ble_eq_true rfl⟩ rfl rfl (Nat.le_of_ble_eq_true rfl) dJ0_checkIndex_df160_5 ⟨Nat.zero_le _, Nat.zero_le _⟩) hS (fun r5 M5 H locs hr5 hp hw hS => ?_)
    obtain ⟨em5, er5⟩ := hp
    have hw : Wo g M H := em5 ▸ hw
    rw [er5] at hr5 ⊢
    refine lv_pop C.1 C.2.1 dJ0_checkIndex_df160_8 rfl ?_
    exact x_return C hr hlk hw hS rfl dJ0_checkIndex_df160_9
  · refine x_sio C hz hS mw_366 dJ0_checkIndex_df160_2 ?_
    refine x_ci (x_runS (n := 3) C hw hS hml hl.1 (c_J3_checkA l g M a b (by first | assumption | omega | exact ⟨by omega, by omega⟩ | decide) t) mw_368 mw_369 mw_127 mw_370 rfl rfl (by decide +kernel) ⟨Nat.le_of_ble_eq_true rfl, Nat.le_of_ble_eq_true rfl⟩ rfl rfl (Nat.le_of_ble_eq_true rfl) dJ0_checkIndex_df160_5 ⟨Nat.zero_le _, Nat.zero_le _⟩) hS (fun r5 M5 H locs hr5 hp hw hS => ?_)
    obtain ⟨em5, er5⟩ := hp
    have hw : Wo g M H := em5 ▸ hw
    rw [er5] at hr5 ⊢
    refine lv_pop C.1 C.2.1 dJ0_checkIndex_df160_8 rfl ?_
    exact x_return C hr hlk hw hS rfl dJ0_checkIndex_df160_9

set_option maxHeartbeats 4000000 in
set_option maxRecDepth 100000 in
theorem c_J1_charAt (l : Launch) (g : Gm) (M : Nat → Int) (i : Nat) (hi : i < 13) (j : Nat) (hj : j < sl i) : CI l ({ cls := "java/lang/StringLatin1", name := "charAt", desc := "([BI)C" } : Jvm.MethodName) cJ1_charAt_3b067 2 .char (rmm 2 43) g M [.ref (gX g (200 + i)), .int (II (j : Int))] (fun r M' => M' = M ∧ r = sb i j) := by
  refine c_start (by decide) (Nat.le_of_ble_eq_true rfl) (fun p e s m below meth c ls C hr hlk hml hw hS hl => ?_)
  have hl : lv_has ls 2 [(0, .ref (gX g (200 + i))), (1, .int (II (j : Int)))] := hl
  have g_M := hw.rg
  have h38 := sl_in i hi
  have hsb := sb_in i hi j (by omega)
  refine lv_iload_n C.1 C.2.1 dJ1_charAt_3b067_0 rfl (lv_at hl 1 rfl) ?_
  refine lv_aload_n C.1 C.2.1 dJ1_charAt_3b067_1 rfl (lv_at hl 0 rfl) ?_
  refine x_slen C hS i hi dJ1_charAt_3b067_2 ?_
  refine x_cv (x_runS (n := 2) C hw hS hml hl.1 (c_J0_checkIndex l g M (j : Int) ((sl i : Nat) : Int) (by first | assumption | omega | exact ⟨by omega, by omega⟩ | decide)) mw_363 mw_364 mw_125 mw_365 rfl rfl (by decide +kernel) ⟨Nat.le_of_ble_eq_true rfl, Nat.le_of_ble_eq_true rfl⟩ rfl rfl (Nat.le_of_ble_eq_true rfl) dJ1_charAt_3b067_3 ⟨Nat.zero_le _, Nat.zero_le _⟩) hS (fun M3 H locs hp hw hS => ?_)
  have em3 := hp
  have hw : Wo g M H := em3 ▸ hw
  refine lv_aload_n C.1 C.2.1 dJ1_charAt_3b067_6 rfl (lv_at hl 0 rfl) ?_
  refine lv_iload_n C.1 C.2.1 dJ1_charAt_3b067_7 rfl (lv_at hl 1 rfl) ?_
  refine x_schr C hS i hi j hj dJ1_charAt_3b067_8 ?_
  refine lv_sipush (v := II 255) C.1 C.2.1 dJ1_charAt_3b067_9 (by decide) ?_
  refine lv_iand C.1 C.2.1 dJ1_charAt_3b067_12 ?_
  rw [sb_and i hi j (by omega)]
  refine lv_i2c (v := II (sb i j)) C.1 C.2.1 dJ1_charAt_3b067_13 (sb_i2c i hi j (by omega)) ?_
  exact x_ireturn C hr hlk hw hS ⟨by omega, by omega⟩ (sb_nar i hi j (by omega)) ⟨rfl, rfl⟩ dJ1_charAt_3b067_14

set_option maxHeartbeats 4000000 in
set_option maxRecDepth 100000 in
theorem c_J0_charAt (l : Launch) (g : Gm) (M : Nat → Int) (i : Nat) (hi : i < 13) (j : Nat) (hj : j < sl i) : CI l ({ cls := "java/lang/String", name := "charAt", desc := "(I)C" } : Jvm.MethodName) cJ0_charAt_5068e 2 .char (rmm 3 64) g M [.ref (gX g (100 + i)), .int (II (j : Int))] (fun r M' => M' = M ∧ r = sb i j) := by
  refine c_start (by decide) (Nat.le_of_ble_eq_true rfl) (fun p e s m below meth c ls C hr hlk hml hw hS hl => ?_)
  have hl : lv_has ls 2 [(0, .ref (gX g (100 + i))), (1, .int (II (j : Int)))] := hl
  have g_M := hw.rg
  have h38 := sl_in i hi
  have hsb := sb_in i hi j (by omega)
  refine lv_aload_n C.1 C.2.1 dJ0_charAt_5068e_0 rfl (lv_at hl 0 rfl) ?_
  refine x_ci (x_runVs (n := 0) C hw hS hml hl.1 i (by omega) (c_J0_isLatin1 l g M i (by first | assumption | omega | exact ⟨by omega, by omega⟩ | decide)) mw_356 mw_357 mw_358 mw_125 mw_359 rfl rfl (by decide +kernel) ⟨Nat.le_of_ble_eq_true rfl, Nat.le_of_ble_eq_true rfl⟩ rfl rfl (Nat.le_of_ble_eq_true rfl) dJ0_charAt_5068e_1 ⟨Nat.zero_le _, Nat.zero_le _⟩) hS (fun r1 M1 H locs hr1 hp hw hS => ?_)
  obtain ⟨em1, er1⟩ := hp
  have hw : Wo g M H := em1 ▸ hw
  rw [er1] at hr1 ⊢
  refine x_if_eq (tgt := 16) C ⟨by decide, by decide⟩ dJ0_charAt_5068e_4 (by decide) (fun h => absurd h (by decide)) (fun _ => ?_)
  refine lv_aload_n C.1 C.2.1 dJ0_charAt_5068e_7 rfl (lv_at hl 0 rfl) ?_
  refine x_sval C hS i hi mw_1367 dJ0_charAt_5068e_8 ?_
  refine lv_iload_n C.1 C.2.1 dJ0_charAt_5068e_11 rfl (lv_at hl 1 rfl) ?_
  refine x_ci (x_runS (n := 2) C hw hS hml hl.1 (c_J1_charAt l g M i (by first | assumption | omega | exact ⟨by omega, by omega⟩ | decide) j (by first | assumption | omega | exact ⟨by omega, by omega⟩ | decide)) mw_360 mw_361 mw_126 mw_362 rfl rfl (by decide +kernel) ⟨Nat.le_of_ble_eq_true rfl, Nat.le_of_ble_eq_true rfl⟩ rfl rfl (Nat.le_of_ble_eq_true rfl) dJ0_charAt_5068e_12 ⟨Nat.zero_le _, Nat.zero_le _⟩) hS (fun r12 M12 H locs hr12 hp hw hS => ?_)
  obtain ⟨em12, er12⟩ := hp
  have hw : Wo g M H := em12 ▸ hw
  rw [er12] at hr12 ⊢
  exact x_ireturn C hr hlk hw hS hr12 (sb_nar i hi j (by omega)) ⟨rfl, rfl⟩ dJ0_charAt_5068e_15
