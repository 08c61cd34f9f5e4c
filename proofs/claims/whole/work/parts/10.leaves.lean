def slotK (w : Int) : Nat := if w = 1 then 1 else if w = 2 then 2 else if w = 3 then 3 else if w = 4 then 4 else 0
set_option maxHeartbeats 4000000 in
set_option maxRecDepth 100000 in
theorem c_X0_begin (l : Launch) (g : Gm) (M : Nat → Int) (hF : LvF g) (a : Int) (ha : rg a) : CV l ({ cls := "RatedBySighs$Best", name := "begin", desc := "(I)V" } : Jvm.MethodName) cX0_begin 2 (rmm 0 0) g M [.ref (gA g 59), .int (II a)] (fun M' => M' = stM (stM M 59000 (-1)) 59001 a) := by
  refine c_start (by decide) (Nat.le_of_ble_eq_true rfl) (fun p e s m below meth c ls C hr hlk hml hw hS hl => ?_)
  have hl : lv_has ls 2 [(0, .ref (gA g 59)), (1, .int (II a))] := hl
  have g_M := hw.rg
  have hN : gN g = 84 := hF.1
  refine lv_aload_n C.1 C.2.1 dX0_begin_0 rfl (lv_at hl 0 rfl) ?_
  refine lv_iconst (v := II (-1)) C.1 C.2.1 dX0_begin_1 rfl ?_
  refine p0 C hw hS 59 (by omega) rfl 0 (by decide) mw_314 rfl (x := (-1)) ⟨by decide, by decide⟩ (svi st_s) (tyX0_ok 0 (by decide)) rfl rfl dX0_begin_2 (fun H locs hw hS => ?_)
  have hw : Wo g (stM M 59000 (-1)) H := hw
  refine lv_aload_n C.1 C.2.1 dX0_begin_5 rfl (lv_at hl 0 rfl) ?_
  refine lv_iload_n C.1 C.2.1 dX0_begin_6 rfl (lv_at hl 1 rfl) ?_
  refine p0 C hw hS 59 (by omega) rfl 1 (by decide) mw_315 rfl (x := a) ha (svi st_s) (tyX0_ok 1 (by decide)) rfl rfl dX0_begin_7 (fun H locs hw hS => ?_)
  have hw : Wo g (stM (stM M 59000 (-1)) 59001 a) H := hw
  exact x_return C hr hlk hw hS rfl dX0_begin_10

set_option maxHeartbeats 4000000 in
set_option maxRecDepth 100000 in
theorem c_X0_offer (l : Launch) (g : Gm) (M : Nat → Int) (hF : LvF g) (w : Int) (hw0 : rg w) (a : Int) (ha : rg a) : CV l ({ cls := "RatedBySighs$Best", name := "offer", desc := "(II)V" } : Jvm.MethodName) cX0_offer 3 (rmm 0 0) g M [.ref (gA g 59), .int (II w), .int (II a)] (fun M' => M' = (if a < M 59001 then stM (stM M 59000 w) 59001 a else M)) := by
  refine c_start (by decide) (Nat.le_of_ble_eq_true rfl) (fun p e s m below meth c ls C hr hlk hml hw hS hl => ?_)
  have hl : lv_has ls 3 [(0, .ref (gA g 59)), (1, .int (II w)), (2, .int (II a))] := hl
  have g_M := hw.rg
  have hN : gN g = 84 := hF.1
  refine lv_iload_n C.1 C.2.1 dX0_offer_0 rfl (lv_at hl 2 rfl) ?_
  refine lv_aload_n C.1 C.2.1 dX0_offer_1 rfl (lv_at hl 0 rfl) ?_
  refine g0 C hw 59 (by omega) rfl 1 (by decide) mw_315 (svi (x := M 59001) rfl) dX0_offer_2 ?_
  refine x_icmp_ge (tgt := 18) C ha (g_M _) dX0_offer_5 (by decide) (fun c5 => ?_) (fun c5 => ?_)
  · exact x_return C hr hlk hw hS (by first | rw [if_pos (by omega)] | rw [if_neg (by omega)]) dX0_offer_18
  · refine lv_aload_n C.1 C.2.1 dX0_offer_8 rfl (lv_at hl 0 rfl) ?_
    refine lv_iload_n C.1 C.2.1 dX0_offer_9 rfl (lv_at hl 1 rfl) ?_
    refine p0 C hw hS 59 (by omega) rfl 0 (by decide) mw_314 rfl (x := w) hw0 (svi st_s) (tyX0_ok 0 (by decide)) rfl rfl dX0_offer_10 (fun H locs hw hS => ?_)
    have hw : Wo g (stM M 59000 w) H := hw
    refine lv_aload_n C.1 C.2.1 dX0_offer_13 rfl (lv_at hl 0 rfl) ?_
    refine lv_iload_n C.1 C.2.1 dX0_offer_14 rfl (lv_at hl 2 rfl) ?_
    refine p0 C hw hS 59 (by omega) rfl 1 (by decide) mw_315 rfl (x := a) ha (svi st_s) (tyX0_ok 1 (by decide)) rfl rfl dX0_offer_15 (fun H locs hw hS => ?_)
    have hw : Wo g (stM (stM M 59000 w) 59001 a) H := hw
    exact x_return C hr hlk hw hS (by first | rw [if_pos (by omega)] | rw [if_neg (by omega)]) dX0_offer_18

set_option maxHeartbeats 4000000 in
set_option maxRecDepth 100000 in
theorem c_X0_answer (l : Launch) (g : Gm) (M : Nat → Int) (hF : LvF g) (w : Int) (hw0 : rg w) : CI l ({ cls := "RatedBySighs$Best", name := "answer", desc := "(I)I" } : Jvm.MethodName) cX0_answer 2 .int (rmm 0 0) g M [.ref (gA g 59), .int (II w)] (fun r M' => M' = M ∧ r = (if w = 0 then M 59000 else M 59001)) := by
  refine c_start (by decide) (Nat.le_of_ble_eq_true rfl) (fun p e s m below meth c ls C hr hlk hml hw hS hl => ?_)
  have hl : lv_has ls 2 [(0, .ref (gA g 59)), (1, .int (II w))] := hl
  have g_M := hw.rg
  have hN : gN g = 84 := hF.1
  refine lv_iload_n C.1 C.2.1 dX0_answer_0 rfl (lv_at hl 1 rfl) ?_
  refine x_if_ne (tgt := 11) C hw0 dX0_answer_1 (by decide) (fun c1 => ?_) (fun c1 => ?_)
  · refine lv_aload_n C.1 C.2.1 dX0_answer_11 rfl (lv_at hl 0 rfl) ?_
    refine g0 C hw 59 (by omega) rfl 1 (by decide) mw_315 (svi (x := M 59001) rfl) dX0_answer_12 ?_
    exact x_ireturn C hr hlk hw hS (g_M _) rfl ⟨rfl, by first | rw [if_pos (by omega)] | rw [if_neg (by omega)]⟩ dX0_answer_15
  · refine lv_aload_n C.1 C.2.1 dX0_answer_4 rfl (lv_at hl 0 rfl) ?_
    refine g0 C hw 59 (by omega) rfl 0 (by decide) mw_314 (svi (x := M 59000) rfl) dX0_answer_5 ?_
    refine lv_goto (tgt := 15) C.1 C.2.1 dX0_answer_8 (by decide) ?_
    exact x_ireturn C hr hlk hw hS (g_M _) rfl ⟨rfl, by first | rw [if_pos (by omega)] | rw [if_neg (by omega)]⟩ dX0_answer_15

set_option maxHeartbeats 4000000 in
set_option maxRecDepth 100000 in
theorem c_X3_come (l : Launch) (g : Gm) (M : Nat → Int) (k : Nat) (hk : k < gN g) (hkd : kd k = 3) (a : Int) (ha : rg a) (b : Int) (hb : rg b) (d : Int) (hd : rg d) : CV l ({ cls := "RatedBySighs$Person", name := "come", desc := "(III)V" } : Jvm.MethodName) cX3_come 4 (rmm 0 0) g M [.ref (gA g k), .int (II a), .int (II b), .int (II d)] (fun M' => M' = stM (stM (stM (stM (stM M (1000 * k + 0) a) (1000 * k + 1) b) (1000 * k + 2) d) (1000 * k + 3) 0) (1000 * k + 4) 0) := by
  refine c_start (by decide) (Nat.le_of_ble_eq_true rfl) (fun p e s m below meth c ls C hr hlk hml hw hS hl => ?_)
  have hl : lv_has ls 4 [(0, .ref (gA g k)), (1, .int (II a)), (2, .int (II b)), (3, .int (II d))] := hl
  have g_M := hw.rg
  refine lv_aload_n C.1 C.2.1 dX3_come_0 rfl (lv_at hl 0 rfl) ?_
  refine lv_iload_n C.1 C.2.1 dX3_come_1 rfl (lv_at hl 1 rfl) ?_
  refine p3 C hw hS k hk hkd 0 (by decide) mw_160 rfl (x := a) ha (svi st_s) (tyX3_ok 0 (by decide)) rfl rfl dX3_come_2 (fun H locs hw hS => ?_)
  have hw : Wo g (stM M (1000 * k + 0) a) H := hw
  refine lv_aload_n C.1 C.2.1 dX3_come_5 rfl (lv_at hl 0 rfl) ?_
  refine lv_iload_n C.1 C.2.1 dX3_come_6 rfl (lv_at hl 2 rfl) ?_
  refine p3 C hw hS k hk hkd 1 (by decide) mw_164 rfl (x := b) hb (svi st_s) (tyX3_ok 1 (by decide)) rfl rfl dX3_come_7 (fun H locs hw hS => ?_)
  have hw : Wo g (stM (stM M (1000 * k + 0) a) (1000 * k + 1) b) H := hw
  refine lv_aload_n C.1 C.2.1 dX3_come_10 rfl (lv_at hl 0 rfl) ?_
  refine lv_iload_n C.1 C.2.1 dX3_come_11 rfl (lv_at hl 3 rfl) ?_
  refine p3 C hw hS k hk hkd 2 (by decide) mw_167 rfl (x := d) hd (svi st_s) (tyX3_ok 2 (by decide)) rfl rfl dX3_come_12 (fun H locs hw hS => ?_)
  have hw : Wo g (stM (stM (stM M (1000 * k + 0) a) (1000 * k + 1) b) (1000 * k + 2) d) H := hw
  refine lv_aload_n C.1 C.2.1 dX3_come_15 rfl (lv_at hl 0 rfl) ?_
  refine lv_iconst (v := II 0) C.1 C.2.1 dX3_come_16 rfl ?_
  refine p3 C hw hS k hk hkd 3 (by decide) mw_170 rfl (x := 0) ⟨by decide, by decide⟩ (svi st_s) (tyX3_ok 3 (by decide)) rfl rfl dX3_come_17 (fun H locs hw hS => ?_)
  have hw : Wo g (stM (stM (stM (stM M (1000 * k + 0) a) (1000 * k + 1) b) (1000 * k + 2) d) (1000 * k + 3) 0) H := hw
  refine lv_aload_n C.1 C.2.1 dX3_come_20 rfl (lv_at hl 0 rfl) ?_
  refine lv_iconst (v := II 0) C.1 C.2.1 dX3_come_21 rfl ?_
  refine p3 C hw hS k hk hkd 4 (by decide) mw_173 rfl (x := 0) ⟨by decide, by decide⟩ (svi st_s) (tyX3_ok 4 (by decide)) rfl rfl dX3_come_22 (fun H locs hw hS => ?_)
  have hw : Wo g (stM (stM (stM (stM (stM M (1000 * k + 0) a) (1000 * k + 1) b) (1000 * k + 2) d) (1000 * k + 3) 0) (1000 * k + 4) 0) H := hw
  exact x_return C hr hlk hw hS rfl dX3_come_25

set_option maxHeartbeats 4000000 in
set_option maxRecDepth 100000 in
theorem c_X3_part (l : Launch) (g : Gm) (M : Nat → Int) (k : Nat) (hk : k < gN g) (hkd : kd k = 3) (w : Int) (hw0 : rg w) : CI l ({ cls := "RatedBySighs$Person", name := "part", desc := "(I)I" } : Jvm.MethodName) cX3_part 2 .int (rmm 0 0) g M [.ref (gA g k), .int (II w)] (fun r M' => M' = M ∧ r = M (1000 * k + slotK w)) := by
  refine c_start (by decide) (Nat.le_of_ble_eq_true rfl) (fun p e s m below meth c ls C hr hlk hml hw hS hl => ?_)
  have hl : lv_has ls 2 [(0, .ref (gA g k)), (1, .int (II w))] := hl
  have g_M := hw.rg
  refine lv_iload_n C.1 C.2.1 dX3_part_0 rfl (lv_at hl 1 rfl) ?_
  by_cases c1_1 : w = 1
  · refine x_tabIn (tgt := 32) C hw0 dX3_part_1 (by omega) (by omega) (by rw [c1_1]; rfl) (by decide) ?_
    refine lv_aload_n C.1 C.2.1 dX3_part_32 rfl (lv_at hl 0 rfl) ?_
    refine g3 C hw k hk hkd 1 (by decide) mw_164 (svi (x := M (1000 * k + 1)) rfl) dX3_part_33 ?_
    exact x_ireturn C hr hlk hw hS (g_M _) rfl ⟨rfl, by unfold slotK; (repeat' split) <;> first | rfl | omega⟩ dX3_part_36
  by_cases c1_2 : w = 2
  · refine x_tabIn (tgt := 37) C hw0 dX3_part_1 (by omega) (by omega) (by rw [c1_2]; rfl) (by decide) ?_
    refine lv_aload_n C.1 C.2.1 dX3_part_37 rfl (lv_at hl 0 rfl) ?_
    refine g3 C hw k hk hkd 2 (by decide) mw_167 (svi (x := M (1000 * k + 2)) rfl) dX3_part_38 ?_
    exact x_ireturn C hr hlk hw hS (g_M _) rfl ⟨rfl, by unfold slotK; (repeat' split) <;> first | rfl | omega⟩ dX3_part_41
  by_cases c1_3 : w = 3
  · refine x_tabIn (tgt := 42) C hw0 dX3_part_1 (by omega) (by omega) (by rw [c1_3]; rfl) (by decide) ?_
    refine lv_aload_n C.1 C.2.1 dX3_part_42 rfl (lv_at hl 0 rfl) ?_
    refine g3 C hw k hk hkd 3 (by decide) mw_170 (svi (x := M (1000 * k + 3)) rfl) dX3_part_43 ?_
    exact x_ireturn C hr hlk hw hS (g_M _) rfl ⟨rfl, by unfold slotK; (repeat' split) <;> first | rfl | omega⟩ dX3_part_46
  by_cases c1_4 : w = 4
  · refine x_tabIn (tgt := 47) C hw0 dX3_part_1 (by omega) (by omega) (by rw [c1_4]; rfl) (by decide) ?_
    refine lv_aload_n C.1 C.2.1 dX3_part_47 rfl (lv_at hl 0 rfl) ?_
    refine g3 C hw k hk hkd 4 (by decide) mw_173 (svi (x := M (1000 * k + 4)) rfl) dX3_part_48 ?_
    exact x_ireturn C hr hlk hw hS (g_M _) rfl ⟨rfl, by unfold slotK; (repeat' split) <;> first | rfl | omega⟩ dX3_part_51
  refine x_tabOut (tgt := 52) C hw0 dX3_part_1 (by omega) (by decide) ?_
  refine lv_aload_n C.1 C.2.1 dX3_part_52 rfl (lv_at hl 0 rfl) ?_
  refine g3 C hw k hk hkd 0 (by decide) mw_160 (svi (x := M (1000 * k + 0)) rfl) dX3_part_53 ?_
  exact x_ireturn C hr hlk hw hS (g_M _) rfl ⟨rfl, by unfold slotK; (repeat' split) <;> first | rfl | omega⟩ dX3_part_56

set_option maxHeartbeats 4000000 in
set_option maxRecDepth 100000 in
theorem c_X3_become (l : Launch) (g : Gm) (M : Nat → Int) (k : Nat) (hk : k < gN g) (hkd : kd k = 3) (w : Int) (hw0 : rg w) (v : Int) (hv : rg v) : CV l ({ cls := "RatedBySighs$Person", name := "become", desc := "(II)V" } : Jvm.MethodName) cX3_become 3 (rmm 0 0) g M [.ref (gA g k), .int (II w), .int (II v)] (fun M' => M' = stM M (1000 * k + slotK w) v) := by
  refine c_start (by decide) (Nat.le_of_ble_eq_true rfl) (fun p e s m below meth c ls C hr hlk hml hw hS hl => ?_)
  have hl : lv_has ls 3 [(0, .ref (gA g k)), (1, .int (II w)), (2, .int (II v))] := hl
  have g_M := hw.rg
  refine lv_iload_n C.1 C.2.1 dX3_become_0 rfl (lv_at hl 1 rfl) ?_
  by_cases c1_1 : w = 1
  · refine x_tabIn (tgt := 32) C hw0 dX3_become_1 (by omega) (by omega) (by rw [c1_1]; rfl) (by decide) ?_
    refine lv_aload_n C.1 C.2.1 dX3_become_32 rfl (lv_at hl 0 rfl) ?_
    refine lv_iload_n C.1 C.2.1 dX3_become_33 rfl (lv_at hl 2 rfl) ?_
    refine p3 C hw hS k hk hkd 1 (by decide) mw_164 rfl (x := v) hv (svi st_s) (tyX3_ok 1 (by decide)) rfl rfl dX3_become_34 (fun H locs hw hS => ?_)
    have hw : Wo g (stM M (1000 * k + 1) v) H := hw
    refine lv_goto (tgt := 69) C.1 C.2.1 dX3_become_37 (by decide) ?_
    exact x_return C hr hlk hw hS (by unfold slotK; (repeat' split) <;> first | rfl | omega) dX3_become_69
  by_cases c1_2 : w = 2
  · refine x_tabIn (tgt := 40) C hw0 dX3_become_1 (by omega) (by omega) (by rw [c1_2]; rfl) (by decide) ?_
    refine lv_aload_n C.1 C.2.1 dX3_become_40 rfl (lv_at hl 0 rfl) ?_
    refine lv_iload_n C.1 C.2.1 dX3_become_41 rfl (lv_at hl 2 rfl) ?_
    refine p3 C hw hS k hk hkd 2 (by decide) mw_167 rfl (x := v) hv (svi st_s) (tyX3_ok 2 (by decide)) rfl rfl dX3_become_42 (fun H locs hw hS => ?_)
    have hw : Wo g (stM M (1000 * k + 2) v) H := hw
    refine lv_goto (tgt := 69) C.1 C.2.1 dX3_become_45 (by decide) ?_
    exact x_return C hr hlk hw hS (by unfold slotK; (repeat' split) <;> first | rfl | omega) dX3_become_69
  by_cases c1_3 : w = 3
  · refine x_tabIn (tgt := 48) C hw0 dX3_become_1 (by omega) (by omega) (by rw [c1_3]; rfl) (by decide) ?_
    refine lv_aload_n C.1 C.2.1 dX3_become_48 rfl (lv_at hl 0 rfl) ?_
    refine lv_iload_n C.1 C.2.1 dX3_become_49 rfl (lv_at hl 2 rfl) ?_
    refine p3 C hw hS k hk hkd 3 (by decide) mw_170 rfl (x := v) hv (svi st_s) (tyX3_ok 3 (by decide)) rfl rfl dX3_become_50 (fun H locs hw hS => ?_)
    have hw : Wo g (stM M (1000 * k + 3) v) H := hw
    refine lv_goto (tgt := 69) C.1 C.2.1 dX3_become_53 (by decide) ?_
    exact x_return C hr hlk hw hS (by unfold slotK; (repeat' split) <;> first | rfl | omega) dX3_become_69
  by_cases c1_4 : w = 4
  · refine x_tabIn (tgt := 56) C hw0 dX3_become_1 (by omega) (by omega) (by rw [c1_4]; rfl) (by decide) ?_
    refine lv_aload_n C.1 C.2.1 dX3_become_56 rfl (lv_at hl 0 rfl) ?_
    refine lv_iload_n C.1 C.2.1 dX3_become_57 rfl (lv_at hl 2 rfl) ?_
    refine p3 C hw hS k hk hkd 4 (by decide) mw_173 rfl (x := v) hv (svi st_s) (tyX3_ok 4 (by decide)) rfl rfl dX3_become_58 (fun H locs hw hS => ?_)
    have hw : Wo g (stM M (1000 * k + 4) v) H := hw
    refine lv_goto (tgt := 69) C.1 C.2.1 dX3_become_61 (by decide) ?_
    exact x_return C hr hlk hw hS (by unfold slotK; (repeat' split) <;> first | rfl | omega) dX3_become_69
  refine x_tabOut (tgt := 64) C hw0 dX3_become_1 (by omega) (by decide) ?_
  refine lv_aload_n C.1 C.2.1 dX3_become_64 rfl (lv_at hl 0 rfl) ?_
  refine lv_iload_n C.1 C.2.1 dX3_become_65 rfl (lv_at hl 2 rfl) ?_
  refine p3 C hw hS k hk hkd 0 (by decide) mw_160 rfl (x := v) hv (svi st_s) (tyX3_ok 0 (by decide)) rfl rfl dX3_become_66 (fun H locs hw hS => ?_)
  have hw : Wo g (stM M (1000 * k + 0) v) H := hw
  exact x_return C hr hlk hw hS (by unfold slotK; (repeat' split) <;> first | rfl | omega) dX3_become_69

set_option maxHeartbeats 4000000 in
set_option maxRecDepth 100000 in
theorem c_X3_isOut (l : Launch) (g : Gm) (M : Nat → Int) (k : Nat) (hk : k < gN g) (hkd : kd k = 3) (o : Int) (e_o : M (1000 * k + 4) = o) (h : Nat) (hh : h < 6) (ho : 0 ≤ o ∧ o ≤ 63) : CI l ({ cls := "RatedBySighs$Person", name := "isOut", desc := "(I)Z" } : Jvm.MethodName) cX3_isOut 2 .boolean (rmm 0 0) g M [.ref (gA g k), .int (II (h : Int))] (fun r M' => M' = M ∧ ((r = 1 ∧ (bitv o h = 1)) ∨ (r = 0 ∧ (bitv o h = 0)))) := by
  refine c_start (by decide) (Nat.le_of_ble_eq_true rfl) (fun p e s m below meth c ls C hr hlk hml hw hS hl => ?_)
  have hl : lv_has ls 2 [(0, .ref (gA g k)), (1, .int (II (h : Int)))] := hl
  have g_M := hw.rg
  have h01 := bitv_01 ho.1 ho.2 hh
  refine lv_aload_n C.1 C.2.1 dX3_isOut_0 rfl (lv_at hl 0 rfl) ?_
  refine g3 C hw k hk hkd 4 (by decide) mw_173 (svi (x := o) e_o) dX3_isOut_1 ?_
  refine lv_iload_n C.1 C.2.1 dX3_isOut_4 rfl (lv_at hl 1 rfl) ?_
  refine lv_ishr C.1 C.2.1 dX3_isOut_5 ?_
  refine lv_iconst (v := II 1) C.1 C.2.1 dX3_isOut_6 rfl ?_
  refine lv_iand C.1 C.2.1 dX3_isOut_7 ?_
  rw [bitv_jvm' ho.1 ho.2 hh]
  refine lv_iconst (v := II 1) C.1 C.2.1 dX3_isOut_8 rfl ?_
  refine x_icmp_ne (tgt := 16) C ⟨by omega, by omega⟩ ⟨by decide, by decide⟩ dX3_isOut_9 (by decide) (fun c9 => ?_) (fun c9 => ?_)
  · refine lv_iconst (v := II 0) C.1 C.2.1 dX3_isOut_16 rfl ?_
    exact x_ireturn C hr hlk hw hS ⟨by decide, by decide⟩ (by decide) (by refine ⟨rfl, ?_⟩; first | exact Or.inl ⟨rfl, by omega⟩ | exact Or.inr (⟨rfl, by omega⟩)) dX3_isOut_17
  · refine lv_iconst (v := II 1) C.1 C.2.1 dX3_isOut_12 rfl ?_
    refine lv_goto (tgt := 17) C.1 C.2.1 dX3_isOut_13 (by decide) ?_
    exact x_ireturn C hr hlk hw hS ⟨by decide, by decide⟩ (by decide) (by refine ⟨rfl, ?_⟩; first | exact Or.inl ⟨rfl, by omega⟩ | exact Or.inr (⟨rfl, by omega⟩)) dX3_isOut_17

set_option maxHeartbeats 4000000 in
set_option maxRecDepth 100000 in
theorem c_X3_widowSighs (l : Launch) (g : Gm) (M : Nat → Int) (k : Nat) (hk : k < gN g) (hkd : kd k = 3) (nu : Int) (e_nu : M (1000 * k + 1) = nu) (v : Int) (hv : rg v) (nt : Int) (hnt : rg nt) (hn : 0 ≤ nu ∧ nu ≤ 9) : CI l ({ cls := "RatedBySighs$Person", name := "widowSighs", desc := "(II)I" } : Jvm.MethodName) cX3_widowSighs 3 .int (rmm 0 0) g M [.ref (gA g k), .int (II v), .int (II nt)] (fun r M' => M' = M ∧ r = wsK nu nt v) := by
  refine c_start (by decide) (Nat.le_of_ble_eq_true rfl) (fun p e s m below meth c ls C hr hlk hml hw hS hl => ?_)
  have hl : lv_has ls 3 [(0, .ref (gA g k)), (1, .int (II v)), (2, .int (II nt))] := hl
  have g_M := hw.rg
  refine lv_iload_n C.1 C.2.1 dX3_widowSighs_0 rfl (lv_at hl 2 rfl) ?_
  refine lv_bipush (v := II 10) C.1 C.2.1 dX3_widowSighs_1 (by decide) ?_
  refine lv_aload_n C.1 C.2.1 dX3_widowSighs_3 rfl (lv_at hl 0 rfl) ?_
  refine g3 C hw k hk hkd 1 (by decide) mw_164 (svi (x := nu) e_nu) dX3_widowSighs_4 ?_
  refine x_imul C dX3_widowSighs_7 ?_
  refine x_icmp_ge (tgt := 15) C hnt ⟨by have := g_M (1000 * k + 1); have := e_nu; omega, by have := g_M (1000 * k + 1); have := e_nu; omega⟩ dX3_widowSighs_8 (by decide) (fun c8 => ?_) (fun c8 => ?_)
  · refine lv_iload_n C.1 C.2.1 dX3_widowSighs_15 rfl (lv_at hl 1 rfl) ?_
    exact x_ireturn C hr hlk hw hS hv rfl ⟨rfl, by unfold wsK; (repeat' split) <;> omega⟩ dX3_widowSighs_16
  · refine lv_iconst (v := II 0) C.1 C.2.1 dX3_widowSighs_11 rfl ?_
    refine lv_goto (tgt := 16) C.1 C.2.1 dX3_widowSighs_12 (by decide) ?_
    exact x_ireturn C hr hlk hw hS ⟨by decide, by decide⟩ rfl ⟨rfl, by unfold wsK; (repeat' split) <;> omega⟩ dX3_widowSighs_16

set_option maxHeartbeats 4000000 in
set_option maxRecDepth 100000 in
theorem c_X3_sighsBy (l : Launch) (g : Gm) (M : Nat → Int) (k : Nat) (hk : k < gN g) (hkd : kd k = 3) (kn : Int) (e_kn : M (1000 * k + 0) = kn) (nu : Int) (e_nu : M (1000 * k + 1) = nu) (v : Int) (hv : 0 ≤ v ∧ v ≤ 99) (mo : Int) (hmo : rg mo) (nt : Int) (hnt : rg nt) (hn : 0 ≤ nu ∧ nu ≤ 9) : CI l ({ cls := "RatedBySighs$Person", name := "sighsBy", desc := "(III)I" } : Jvm.MethodName) cX3_sighsBy 4 .int (rmm 1 22) g M [.ref (gA g k), .int (II v), .int (II mo), .int (II nt)] (fun r M' => M' = M ∧ r = sighK kn nu nt v mo) := by
  refine c_start (by decide) (Nat.le_of_ble_eq_true rfl) (fun p e s m below meth c ls C hr hlk hml hw hS hl => ?_)
  have hl : lv_has ls 4 [(0, .ref (gA g k)), (1, .int (II v)), (2, .int (II mo)), (3, .int (II nt))] := hl
  have g_M := hw.rg
  have hwk : 0 ≤ wsK nu nt v ∧ wsK nu nt v ≤ v := by unfold wsK; split <;> omega
  refine lv_aload_n C.1 C.2.1 dX3_sighsBy_0 rfl (lv_at hl 0 rfl) ?_
  refine g3 C hw k hk hkd 0 (by decide) mw_160 (svi (x := kn) e_kn) dX3_sighsBy_1 ?_
  by_cases c4_1 : kn = 1
  · refine x_tabIn (tgt := 40) C ⟨by have := g_M (1000 * k + 0); have := e_kn; omega, by have := g_M (1000 * k + 0); have := e_kn; omega⟩ dX3_sighsBy_4 (by omega) (by omega) (by rw [c4_1]; rfl) (by decide) ?_
    refine lv_aload_n C.1 C.2.1 dX3_sighsBy_40 rfl (lv_at hl 0 rfl) ?_
    refine lv_iload_n C.1 C.2.1 dX3_sighsBy_41 rfl (lv_at hl 1 rfl) ?_
    refine lv_iload_n C.1 C.2.1 dX3_sighsBy_42 rfl (lv_at hl 3 rfl) ?_
    refine x_ci (x_runV (n := 2) C hw hS hml hl.1 k 3 hk hkd (by decide) rfl (c_X3_widowSighs l g M k hk hkd nu e_nu v ⟨by omega, by omega⟩ nt hnt (by first | assumption | omega | exact ⟨by omega, by omega⟩ | decide)) mw_588 mw_590 mw_28 mw_120 mw_591 rfl rfl (by decide +kernel) ⟨Nat.le_of_ble_eq_true rfl, Nat.le_of_ble_eq_true rfl⟩ rfl rfl (Nat.le_of_ble_eq_true rfl) dX3_sighsBy_43 ⟨Nat.zero_le _, Nat.zero_le _⟩) hS (fun r43 M43 H locs hr43 hp hw hS => ?_)
    obtain ⟨em43, er43⟩ := hp
    have hw : Wo g M H := em43 ▸ hw
    rw [er43] at hr43 ⊢
    exact x_ireturn C hr hlk hw hS hr43 rfl ⟨rfl, by unfold sighK; (repeat' split) <;> first | rfl | omega⟩ dX3_sighsBy_46
  by_cases c4_2 : kn = 2
  · refine x_tabIn (tgt := 47) C ⟨by have := g_M (1000 * k + 0); have := e_kn; omega, by have := g_M (1000 * k + 0); have := e_kn; omega⟩ dX3_sighsBy_4 (by omega) (by omega) (by rw [c4_2]; rfl) (by decide) ?_
    refine lv_iconst (v := II 3) C.1 C.2.1 dX3_sighsBy_47 rfl ?_
    refine lv_iload_n C.1 C.2.1 dX3_sighsBy_48 rfl (lv_at hl 1 rfl) ?_
    refine x_imul C dX3_sighsBy_49 ?_
    exact x_ireturn C hr hlk hw hS ⟨by omega, by omega⟩ rfl ⟨rfl, by unfold sighK; (repeat' split) <;> first | rfl | omega⟩ dX3_sighsBy_50
  by_cases c4_3 : kn = 3
  · refine x_tabIn (tgt := 51) C ⟨by have := g_M (1000 * k + 0); have := e_kn; omega, by have := g_M (1000 * k + 0); have := e_kn; omega⟩ dX3_sighsBy_4 (by omega) (by omega) (by rw [c4_3]; rfl) (by decide) ?_
    refine lv_aload_n C.1 C.2.1 dX3_sighsBy_51 rfl (lv_at hl 0 rfl) ?_
    refine lv_iload_n C.1 C.2.1 dX3_sighsBy_52 rfl (lv_at hl 1 rfl) ?_
    refine lv_iload_n C.1 C.2.1 dX3_sighsBy_53 rfl (lv_at hl 3 rfl) ?_
    refine x_ci (x_runV (n := 2) C hw hS hml hl.1 k 3 hk hkd (by decide) rfl (c_X3_widowSighs l g M k hk hkd nu e_nu v ⟨by omega, by omega⟩ nt hnt (by first | assumption | omega | exact ⟨by omega, by omega⟩ | decide)) mw_588 mw_590 mw_28 mw_120 mw_591 rfl rfl (by decide +kernel) ⟨Nat.le_of_ble_eq_true rfl, Nat.le_of_ble_eq_true rfl⟩ rfl rfl (Nat.le_of_ble_eq_true rfl) dX3_sighsBy_54 ⟨Nat.zero_le _, Nat.zero_le _⟩) hS (fun r54 M54 H locs hr54 hp hw hS => ?_)
    obtain ⟨em54, er54⟩ := hp
    have hw : Wo g M H := em54 ▸ hw
    rw [er54] at hr54 ⊢
    refine lv_iconst (v := II 2) C.1 C.2.1 dX3_sighsBy_57 rfl ?_
    refine x_idiv C (by omega) hr54 (by omega) ⟨by decide, by decide⟩ dX3_sighsBy_58 ?_
    exact x_ireturn C hr hlk hw hS ⟨by omega, by omega⟩ rfl ⟨rfl, by unfold sighK; (repeat' split) <;> first | rfl | omega⟩ dX3_sighsBy_59
  by_cases c4_4 : kn = 4
  · refine x_tabIn (tgt := 60) C ⟨by have := g_M (1000 * k + 0); have := e_kn; omega, by have := g_M (1000 * k + 0); have := e_kn; omega⟩ dX3_sighsBy_4 (by omega) (by omega) (by rw [c4_4]; rfl) (by decide) ?_
    refine lv_iload_n C.1 C.2.1 dX3_sighsBy_60 rfl (lv_at hl 2 rfl) ?_
    refine lv_iconst (v := II 5) C.1 C.2.1 dX3_sighsBy_61 rfl ?_
    refine x_icmp_le (tgt := 69) C hmo ⟨by decide, by decide⟩ dX3_sighsBy_62 (by decide) (fun c62 => ?_) (fun c62 => ?_)
    · refine lv_iconst (v := II 3) C.1 C.2.1 dX3_sighsBy_69 rfl ?_
      refine lv_iload_n C.1 C.2.1 dX3_sighsBy_70 rfl (lv_at hl 1 rfl) ?_
      refine x_imul C dX3_sighsBy_71 ?_
      exact x_ireturn C hr hlk hw hS ⟨by omega, by omega⟩ rfl ⟨rfl, by unfold sighK; (repeat' split) <;> first | rfl | omega⟩ dX3_sighsBy_72
    · refine lv_iconst (v := II 0) C.1 C.2.1 dX3_sighsBy_65 rfl ?_
      refine lv_goto (tgt := 72) C.1 C.2.1 dX3_sighsBy_66 (by decide) ?_
      exact x_ireturn C hr hlk hw hS ⟨by decide, by decide⟩ rfl ⟨rfl, by unfold sighK; (repeat' split) <;> first | rfl | omega⟩ dX3_sighsBy_72
  by_cases c4_5 : kn = 5
  · refine x_tabIn (tgt := 73) C ⟨by have := g_M (1000 * k + 0); have := e_kn; omega, by have := g_M (1000 * k + 0); have := e_kn; omega⟩ dX3_sighsBy_4 (by omega) (by omega) (by rw [c4_5]; rfl) (by decide) ?_
    refine lv_iconst (v := II 0) C.1 C.2.1 dX3_sighsBy_73 rfl ?_
    exact x_ireturn C hr hlk hw hS ⟨by decide, by decide⟩ rfl ⟨rfl, by unfold sighK; (repeat' split) <;> first | rfl | omega⟩ dX3_sighsBy_74
  refine x_tabOut (tgt := 75) C ⟨by have := g_M (1000 * k + 0); have := e_kn; omega, by have := g_M (1000 * k + 0); have := e_kn; omega⟩ dX3_sighsBy_4 (by omega) (by decide) ?_
  refine lv_iload_n C.1 C.2.1 dX3_sighsBy_75 rfl (lv_at hl 1 rfl) ?_
  exact x_ireturn C hr hlk hw hS ⟨by omega, by omega⟩ rfl ⟨rfl, by unfold sighK; (repeat' split) <;> first | rfl | omega⟩ dX3_sighsBy_76

set_option maxHeartbeats 4000000 in
set_option maxRecDepth 100000 in
theorem c_X3_swaysBy (l : Launch) (g : Gm) (M : Nat → Int) (k : Nat) (hk : k < gN g) (hkd : kd k = 3) (kn : Int) (e_kn : M (1000 * k + 0) = kn) (nu : Int) (e_nu : M (1000 * k + 1) = nu) (v : Int) (hv : -9 ≤ v ∧ v ≤ 9) (f : Int) (hf : 0 ≤ f ∧ f ≤ 8) (hn : 0 ≤ nu ∧ nu ≤ 9) : CI l ({ cls := "RatedBySighs$Person", name := "swaysBy", desc := "(II)I" } : Jvm.MethodName) cX3_swaysBy 3 .int (rmm 0 0) g M [.ref (gA g k), .int (II v), .int (II f)] (fun r M' => M' = M ∧ r = swayK kn nu v f) := by
  refine c_start (by decide) (Nat.le_of_ble_eq_true rfl) (fun p e s m below meth c ls C hr hlk hml hw hS hl => ?_)
  have hl : lv_has ls 3 [(0, .ref (gA g k)), (1, .int (II v)), (2, .int (II f))] := hl
  have g_M := hw.rg
  refine lv_aload_n C.1 C.2.1 dX3_swaysBy_0 rfl (lv_at hl 0 rfl) ?_
  refine g3 C hw k hk hkd 0 (by decide) mw_160 (svi (x := kn) e_kn) dX3_swaysBy_1 ?_
  by_cases c4_1 : kn = 1
  · refine x_tabIn (tgt := 40) C ⟨by have := g_M (1000 * k + 0); have := e_kn; omega, by have := g_M (1000 * k + 0); have := e_kn; omega⟩ dX3_swaysBy_4 (by omega) (by omega) (by rw [c4_1]; rfl) (by decide) ?_
    refine lv_iload_n C.1 C.2.1 dX3_swaysBy_40 rfl (lv_at hl 1 rfl) ?_
    exact x_ireturn C hr hlk hw hS ⟨by omega, by omega⟩ rfl ⟨rfl, by unfold swayK; (repeat' split) <;> first | rfl | omega⟩ dX3_swaysBy_41
  by_cases c4_2 : kn = 2
  · refine x_tabIn (tgt := 42) C ⟨by have := g_M (1000 * k + 0); have := e_kn; omega, by have := g_M (1000 * k + 0); have := e_kn; omega⟩ dX3_swaysBy_4 (by omega) (by omega) (by rw [c4_2]; rfl) (by decide) ?_
    refine lv_iconst (v := II 2) C.1 C.2.1 dX3_swaysBy_42 rfl ?_
    refine lv_iload_n C.1 C.2.1 dX3_swaysBy_43 rfl (lv_at hl 1 rfl) ?_
    refine lv_iload_n C.1 C.2.1 dX3_swaysBy_44 rfl (lv_at hl 2 rfl) ?_
    refine x_iadd C dX3_swaysBy_45 ?_
    refine x_imul C dX3_swaysBy_46 ?_
    exact x_ireturn C hr hlk hw hS ⟨by omega, by omega⟩ rfl ⟨rfl, by unfold swayK; (repeat' split) <;> first | rfl | omega⟩ dX3_swaysBy_47
  by_cases c4_3 : kn = 3
  · refine x_tabIn (tgt := 48) C ⟨by have := g_M (1000 * k + 0); have := e_kn; omega, by have := g_M (1000 * k + 0); have := e_kn; omega⟩ dX3_swaysBy_4 (by omega) (by omega) (by rw [c4_3]; rfl) (by decide) ?_
    refine lv_iload_n C.1 C.2.1 dX3_swaysBy_48 rfl (lv_at hl 1 rfl) ?_
    refine lv_iconst (v := II 1) C.1 C.2.1 dX3_swaysBy_49 rfl ?_
    refine x_isub C dX3_swaysBy_50 ?_
    exact x_ireturn C hr hlk hw hS ⟨by omega, by omega⟩ rfl ⟨rfl, by unfold swayK; (repeat' split) <;> first | rfl | omega⟩ dX3_swaysBy_51
  by_cases c4_4 : kn = 4
  · refine x_tabIn (tgt := 52) C ⟨by have := g_M (1000 * k + 0); have := e_kn; omega, by have := g_M (1000 * k + 0); have := e_kn; omega⟩ dX3_swaysBy_4 (by omega) (by omega) (by rw [c4_4]; rfl) (by decide) ?_
    refine lv_iconst (v := II 2) C.1 C.2.1 dX3_swaysBy_52 rfl ?_
    refine lv_iload_n C.1 C.2.1 dX3_swaysBy_53 rfl (lv_at hl 1 rfl) ?_
    refine lv_iload_n C.1 C.2.1 dX3_swaysBy_54 rfl (lv_at hl 2 rfl) ?_
    refine x_iadd C dX3_swaysBy_55 ?_
    refine x_imul C dX3_swaysBy_56 ?_
    refine lv_aload_n C.1 C.2.1 dX3_swaysBy_57 rfl (lv_at hl 0 rfl) ?_
    refine g3 C hw k hk hkd 1 (by decide) mw_164 (svi (x := nu) e_nu) dX3_swaysBy_58 ?_
    refine x_iadd C dX3_swaysBy_61 ?_
    exact x_ireturn C hr hlk hw hS ⟨by have := g_M (1000 * k + 1); have := e_nu; omega, by have := g_M (1000 * k + 1); have := e_nu; omega⟩ rfl ⟨rfl, by unfold swayK; (repeat' split) <;> first | rfl | omega⟩ dX3_swaysBy_62
  by_cases c4_5 : kn = 5
  · refine x_tabIn (tgt := 63) C ⟨by have := g_M (1000 * k + 0); have := e_kn; omega, by have := g_M (1000 * k + 0); have := e_kn; omega⟩ dX3_swaysBy_4 (by omega) (by omega) (by rw [c4_5]; rfl) (by decide) ?_
    refine lv_iconst (v := II 0) C.1 C.2.1 dX3_swaysBy_63 rfl ?_
    exact x_ireturn C hr hlk hw hS ⟨by decide, by decide⟩ rfl ⟨rfl, by unfold swayK; (repeat' split) <;> first | rfl | omega⟩ dX3_swaysBy_64
  refine x_tabOut (tgt := 65) C ⟨by have := g_M (1000 * k + 0); have := e_kn; omega, by have := g_M (1000 * k + 0); have := e_kn; omega⟩ dX3_swaysBy_4 (by omega) (by decide) ?_
  refine lv_iload_n C.1 C.2.1 dX3_swaysBy_65 rfl (lv_at hl 1 rfl) ?_
  refine lv_iload_n C.1 C.2.1 dX3_swaysBy_66 rfl (lv_at hl 2 rfl) ?_
  refine x_iadd C dX3_swaysBy_67 ?_
  exact x_ireturn C hr hlk hw hS ⟨by omega, by omega⟩ rfl ⟨rfl, by unfold swayK; (repeat' split) <;> first | rfl | omega⟩ dX3_swaysBy_68

set_option maxHeartbeats 4000000 in
set_option maxRecDepth 100000 in
theorem c_X3_isExempt (l : Launch) (g : Gm) (M : Nat → Int) (k : Nat) (hk : k < gN g) (hkd : kd k = 3) (kn : Int) (e_kn : M (1000 * k + 0) = kn) (nu : Int) (e_nu : M (1000 * k + 1) = nu) (nt : Int) (hnt : 0 ≤ nt ∧ nt ≤ 999) (hn : 0 ≤ nu ∧ nu ≤ 9) : CI l ({ cls := "RatedBySighs$Person", name := "isExempt", desc := "(I)Z" } : Jvm.MethodName) cX3_isExempt 2 .boolean (rmm 0 0) g M [.ref (gA g k), .int (II nt)] (fun r M' => M' = M ∧ ((r = 1 ∧ (exK kn nu nt)) ∨ (r = 0 ∧ (¬ exK kn nu nt)))) := by
  refine c_start (by decide) (Nat.le_of_ble_eq_true rfl) (fun p e s m below meth c ls C hr hlk hml hw hS hl => ?_)
  have hl : lv_has ls 2 [(0, .ref (gA g k)), (1, .int (II nt))] := hl
  have g_M := hw.rg
  refine lv_aload_n C.1 C.2.1 dX3_isExempt_0 rfl (lv_at hl 0 rfl) ?_
  refine g3 C hw k hk hkd 0 (by decide) mw_160 (svi (x := kn) e_kn) dX3_isExempt_1 ?_
  by_cases c4_1 : kn = 1
  · refine x_tabIn (tgt := 40) C ⟨by have := g_M (1000 * k + 0); have := e_kn; omega, by have := g_M (1000 * k + 0); have := e_kn; omega⟩ dX3_isExempt_4 (by omega) (by omega) (by rw [c4_1]; rfl) (by decide) ?_
    refine lv_aload_n C.1 C.2.1 dX3_isExempt_40 rfl (lv_at hl 0 rfl) ?_
    refine g3 C hw k hk hkd 1 (by decide) mw_164 (svi (x := nu) e_nu) dX3_isExempt_41 ?_
    refine lv_iconst (v := II 4) C.1 C.2.1 dX3_isExempt_44 rfl ?_
    refine x_icmp_le (tgt := 52) C ⟨by have := g_M (1000 * k + 1); have := e_nu; omega, by have := g_M (1000 * k + 1); have := e_nu; omega⟩ ⟨by decide, by decide⟩ dX3_isExempt_45 (by decide) (fun c45 => ?_) (fun c45 => ?_)
    · refine lv_iconst (v := II 0) C.1 C.2.1 dX3_isExempt_52 rfl ?_
      exact x_ireturn C hr hlk hw hS ⟨by decide, by decide⟩ (by decide) (by unfold exK; refine ⟨rfl, ?_⟩; first | exact Or.inl ⟨rfl, by omega⟩ | exact Or.inr ⟨rfl, by omega⟩) dX3_isExempt_53
    · refine lv_iconst (v := II 1) C.1 C.2.1 dX3_isExempt_48 rfl ?_
      refine lv_goto (tgt := 53) C.1 C.2.1 dX3_isExempt_49 (by decide) ?_
      exact x_ireturn C hr hlk hw hS ⟨by decide, by decide⟩ (by decide) (by unfold exK; refine ⟨rfl, ?_⟩; first | exact Or.inl ⟨rfl, by omega⟩ | exact Or.inr ⟨rfl, by omega⟩) dX3_isExempt_53
  by_cases c4_2 : kn = 2
  · refine x_tabIn (tgt := 77) C ⟨by have := g_M (1000 * k + 0); have := e_kn; omega, by have := g_M (1000 * k + 0); have := e_kn; omega⟩ dX3_isExempt_4 (by omega) (by omega) (by rw [c4_2]; rfl) (by decide) ?_
    refine lv_iconst (v := II 0) C.1 C.2.1 dX3_isExempt_77 rfl ?_
    exact x_ireturn C hr hlk hw hS ⟨by decide, by decide⟩ (by decide) (by unfold exK; refine ⟨rfl, ?_⟩; first | exact Or.inl ⟨rfl, by omega⟩ | exact Or.inr ⟨rfl, by omega⟩) dX3_isExempt_78
  by_cases c4_3 : kn = 3
  · refine x_tabIn (tgt := 54) C ⟨by have := g_M (1000 * k + 0); have := e_kn; omega, by have := g_M (1000 * k + 0); have := e_kn; omega⟩ dX3_isExempt_4 (by omega) (by omega) (by rw [c4_3]; rfl) (by decide) ?_
    refine lv_aload_n C.1 C.2.1 dX3_isExempt_54 rfl (lv_at hl 0 rfl) ?_
    refine g3 C hw k hk hkd 1 (by decide) mw_164 (svi (x := nu) e_nu) dX3_isExempt_55 ?_
    refine lv_iconst (v := II 4) C.1 C.2.1 dX3_isExempt_58 rfl ?_
    refine x_icmp_gt (tgt := 69) C ⟨by have := g_M (1000 * k + 1); have := e_nu; omega, by have := g_M (1000 * k + 1); have := e_nu; omega⟩ ⟨by decide, by decide⟩ dX3_isExempt_59 (by decide) (fun c59 => ?_) (fun c59 => ?_)
    · refine lv_iconst (v := II 1) C.1 C.2.1 dX3_isExempt_69 rfl ?_
      refine lv_goto (tgt := 74) C.1 C.2.1 dX3_isExempt_70 (by decide) ?_
      exact x_ireturn C hr hlk hw hS ⟨by decide, by decide⟩ (by decide) (by unfold exK; refine ⟨rfl, ?_⟩; first | exact Or.inl ⟨rfl, by omega⟩ | exact Or.inr ⟨rfl, by omega⟩) dX3_isExempt_74
    · refine lv_iload_n C.1 C.2.1 dX3_isExempt_62 rfl (lv_at hl 1 rfl) ?_
      refine lv_iconst (v := II 2) C.1 C.2.1 dX3_isExempt_63 rfl ?_
      refine x_irem C (by omega) ⟨by omega, by omega⟩ (by omega) ⟨by decide, by decide⟩ dX3_isExempt_64 ?_
      refine lv_iconst (v := II 1) C.1 C.2.1 dX3_isExempt_65 rfl ?_
      refine x_icmp_ne (tgt := 73) C ⟨by omega, by omega⟩ ⟨by decide, by decide⟩ dX3_isExempt_66 (by decide) (fun c66 => ?_) (fun c66 => ?_)
      · refine lv_iconst (v := II 0) C.1 C.2.1 dX3_isExempt_73 rfl ?_
        exact x_ireturn C hr hlk hw hS ⟨by decide, by decide⟩ (by decide) (by unfold exK; refine ⟨rfl, ?_⟩; first | exact Or.inl ⟨rfl, by omega⟩ | exact Or.inr ⟨rfl, by omega⟩) dX3_isExempt_74
      · refine lv_iconst (v := II 1) C.1 C.2.1 dX3_isExempt_69 rfl ?_
        refine lv_goto (tgt := 74) C.1 C.2.1 dX3_isExempt_70 (by decide) ?_
        exact x_ireturn C hr hlk hw hS ⟨by decide, by decide⟩ (by decide) (by unfold exK; refine ⟨rfl, ?_⟩; first | exact Or.inl ⟨rfl, by omega⟩ | exact Or.inr ⟨rfl, by omega⟩) dX3_isExempt_74
  by_cases c4_4 : kn = 4
  · refine x_tabIn (tgt := 77) C ⟨by have := g_M (1000 * k + 0); have := e_kn; omega, by have := g_M (1000 * k + 0); have := e_kn; omega⟩ dX3_isExempt_4 (by omega) (by omega) (by rw [c4_4]; rfl) (by decide) ?_
    refine lv_iconst (v := II 0) C.1 C.2.1 dX3_isExempt_77 rfl ?_
    exact x_ireturn C hr hlk hw hS ⟨by decide, by decide⟩ (by decide) (by unfold exK; refine ⟨rfl, ?_⟩; first | exact Or.inl ⟨rfl, by omega⟩ | exact Or.inr ⟨rfl, by omega⟩) dX3_isExempt_78
  by_cases c4_5 : kn = 5
  · refine x_tabIn (tgt := 75) C ⟨by have := g_M (1000 * k + 0); have := e_kn; omega, by have := g_M (1000 * k + 0); have := e_kn; omega⟩ dX3_isExempt_4 (by omega) (by omega) (by rw [c4_5]; rfl) (by decide) ?_
    refine lv_iconst (v := II 1) C.1 C.2.1 dX3_isExempt_75 rfl ?_
    exact x_ireturn C hr hlk hw hS ⟨by decide, by decide⟩ (by decide) (by unfold exK; refine ⟨rfl, ?_⟩; first | exact Or.inl ⟨rfl, by omega⟩ | exact Or.inr ⟨rfl, by omega⟩) dX3_isExempt_76
  refine x_tabOut (tgt := 77) C ⟨by have := g_M (1000 * k + 0); have := e_kn; omega, by have := g_M (1000 * k + 0); have := e_kn; omega⟩ dX3_isExempt_4 (by omega) (by decide) ?_
  refine lv_iconst (v := II 0) C.1 C.2.1 dX3_isExempt_77 rfl ?_
  exact x_ireturn C hr hlk hw hS ⟨by decide, by decide⟩ (by decide) (by unfold exK; refine ⟨rfl, ?_⟩; first | exact Or.inl ⟨rfl, by omega⟩ | exact Or.inr ⟨rfl, by omega⟩) dX3_isExempt_78

set_option maxHeartbeats 4000000 in
set_option maxRecDepth 100000 in
theorem c_X7_isZeroOrOne (l : Launch) (g : Gm) (M : Nat → Int) (w : Int) (hw0 : rg w) : CI l ({ cls := "RatedBySighs", name := "isZeroOrOne", desc := "(I)Z" } : Jvm.MethodName) cX7_isZeroOrOne 1 .boolean (rmm 0 0) g M [.int (II w)] (fun r M' => M' = M ∧ ((r = 1 ∧ (w = 0 ∨ w = 1)) ∨ (r = 0 ∧ (¬ (w = 0 ∨ w = 1))))) := by
  refine c_start (by decide) (Nat.le_of_ble_eq_true rfl) (fun p e s m below meth c ls C hr hlk hml hw hS hl => ?_)
  have hl : lv_has ls 1 [(0, .int (II w))] := hl
  have g_M := hw.rg
  refine lv_iload_n C.1 C.2.1 dX7_isZeroOrOne_0 rfl (lv_at hl 0 rfl) ?_
  refine x_if_eq (tgt := 9) C hw0 dX7_isZeroOrOne_1 (by decide) (fun c1 => ?_) (fun c1 => ?_)
  · refine lv_iconst (v := II 1) C.1 C.2.1 dX7_isZeroOrOne_9 rfl ?_
    refine lv_goto (tgt := 14) C.1 C.2.1 dX7_isZeroOrOne_10 (by decide) ?_
    exact x_ireturn C hr hlk hw hS ⟨by decide, by decide⟩ (by decide) (by refine ⟨rfl, ?_⟩; first | exact Or.inl ⟨rfl, by omega⟩ | exact Or.inr (⟨rfl, by omega⟩)) dX7_isZeroOrOne_14
  · refine lv_iload_n C.1 C.2.1 dX7_isZeroOrOne_4 rfl (lv_at hl 0 rfl) ?_
    refine lv_iconst (v := II 1) C.1 C.2.1 dX7_isZeroOrOne_5 rfl ?_
    refine x_icmp_ne (tgt := 13) C hw0 ⟨by decide, by decide⟩ dX7_isZeroOrOne_6 (by decide) (fun c6 => ?_) (fun c6 => ?_)
    · refine lv_iconst (v := II 0) C.1 C.2.1 dX7_isZeroOrOne_13 rfl ?_
      exact x_ireturn C hr hlk hw hS ⟨by decide, by decide⟩ (by decide) (by refine ⟨rfl, ?_⟩; first | exact Or.inl ⟨rfl, by omega⟩ | exact Or.inr (⟨rfl, by omega⟩)) dX7_isZeroOrOne_14
    · refine lv_iconst (v := II 1) C.1 C.2.1 dX7_isZeroOrOne_9 rfl ?_
      refine lv_goto (tgt := 14) C.1 C.2.1 dX7_isZeroOrOne_10 (by decide) ?_
      exact x_ireturn C hr hlk hw hS ⟨by decide, by decide⟩ (by decide) (by refine ⟨rfl, ?_⟩; first | exact Or.inl ⟨rfl, by omega⟩ | exact Or.inr (⟨rfl, by omega⟩)) dX7_isZeroOrOne_14

set_option maxHeartbeats 4000000 in
set_option maxRecDepth 100000 in
theorem c_X7_isSheet (l : Launch) (g : Gm) (M : Nat → Int) (w : Int) (hw0 : rg w) : CI l ({ cls := "RatedBySighs", name := "isSheet", desc := "(I)Z" } : Jvm.MethodName) cX7_isSheet 1 .boolean (rmm 0 0) g M [.int (II w)] (fun r M' => M' = M ∧ ((r = 1 ∧ (0 ≤ w ∧ w < 4)) ∨ (r = 0 ∧ (¬ (0 ≤ w ∧ w < 4))))) := by
  refine c_start (by decide) (Nat.le_of_ble_eq_true rfl) (fun p e s m below meth c ls C hr hlk hml hw hS hl => ?_)
  have hl : lv_has ls 1 [(0, .int (II w))] := hl
  have g_M := hw.rg
  refine lv_iload_n C.1 C.2.1 dX7_isSheet_0 rfl (lv_at hl 0 rfl) ?_
  refine x_if_lt (tgt := 13) C hw0 dX7_isSheet_1 (by decide) (fun c1 => ?_) (fun c1 => ?_)
  · refine lv_iconst (v := II 0) C.1 C.2.1 dX7_isSheet_13 rfl ?_
    exact x_ireturn C hr hlk hw hS ⟨by decide, by decide⟩ (by decide) (by refine ⟨rfl, ?_⟩; first | exact Or.inl ⟨rfl, by omega⟩ | exact Or.inr (⟨rfl, by omega⟩)) dX7_isSheet_14
  · refine lv_iload_n C.1 C.2.1 dX7_isSheet_4 rfl (lv_at hl 0 rfl) ?_
    refine lv_iconst (v := II 4) C.1 C.2.1 dX7_isSheet_5 rfl ?_
    refine x_icmp_ge (tgt := 13) C hw0 ⟨by decide, by decide⟩ dX7_isSheet_6 (by decide) (fun c6 => ?_) (fun c6 => ?_)
    · refine lv_iconst (v := II 0) C.1 C.2.1 dX7_isSheet_13 rfl ?_
      exact x_ireturn C hr hlk hw hS ⟨by decide, by decide⟩ (by decide) (by refine ⟨rfl, ?_⟩; first | exact Or.inl ⟨rfl, by omega⟩ | exact Or.inr (⟨rfl, by omega⟩)) dX7_isSheet_14
    · refine lv_iconst (v := II 1) C.1 C.2.1 dX7_isSheet_9 rfl ?_
      refine lv_goto (tgt := 14) C.1 C.2.1 dX7_isSheet_10 (by decide) ?_
      exact x_ireturn C hr hlk hw hS ⟨by decide, by decide⟩ (by decide) (by refine ⟨rfl, ?_⟩; first | exact Or.inl ⟨rfl, by omega⟩ | exact Or.inr (⟨rfl, by omega⟩)) dX7_isSheet_14

set_option maxHeartbeats 4000000 in
set_option maxRecDepth 100000 in
theorem c_X7_isSort (l : Launch) (g : Gm) (M : Nat → Int) (w : Int) (hw0 : rg w) : CI l ({ cls := "RatedBySighs", name := "isSort", desc := "(I)Z" } : Jvm.MethodName) cX7_isSort 1 .boolean (rmm 0 0) g M [.int (II w)] (fun r M' => M' = M ∧ ((r = 1 ∧ (0 ≤ w ∧ w ≤ 2)) ∨ (r = 0 ∧ (¬ (0 ≤ w ∧ w ≤ 2))))) := by
  refine c_start (by decide) (Nat.le_of_ble_eq_true rfl) (fun p e s m below meth c ls C hr hlk hml hw hS hl => ?_)
  have hl : lv_has ls 1 [(0, .int (II w))] := hl
  have g_M := hw.rg
  refine lv_iload_n C.1 C.2.1 dX7_isSort_0 rfl (lv_at hl 0 rfl) ?_
  refine x_if_lt (tgt := 13) C hw0 dX7_isSort_1 (by decide) (fun c1 => ?_) (fun c1 => ?_)
  · refine lv_iconst (v := II 0) C.1 C.2.1 dX7_isSort_13 rfl ?_
    exact x_ireturn C hr hlk hw hS ⟨by decide, by decide⟩ (by decide) (by refine ⟨rfl, ?_⟩; first | exact Or.inl ⟨rfl, by omega⟩ | exact Or.inr (⟨rfl, by omega⟩)) dX7_isSort_14
  · refine lv_iload_n C.1 C.2.1 dX7_isSort_4 rfl (lv_at hl 0 rfl) ?_
    refine lv_iconst (v := II 2) C.1 C.2.1 dX7_isSort_5 rfl ?_
    refine x_icmp_gt (tgt := 13) C hw0 ⟨by decide, by decide⟩ dX7_isSort_6 (by decide) (fun c6 => ?_) (fun c6 => ?_)
    · refine lv_iconst (v := II 0) C.1 C.2.1 dX7_isSort_13 rfl ?_
      exact x_ireturn C hr hlk hw hS ⟨by decide, by decide⟩ (by decide) (by refine ⟨rfl, ?_⟩; first | exact Or.inl ⟨rfl, by omega⟩ | exact Or.inr (⟨rfl, by omega⟩)) dX7_isSort_14
    · refine lv_iconst (v := II 1) C.1 C.2.1 dX7_isSort_9 rfl ?_
      refine lv_goto (tgt := 14) C.1 C.2.1 dX7_isSort_10 (by decide) ?_
      exact x_ireturn C hr hlk hw hS ⟨by decide, by decide⟩ (by decide) (by refine ⟨rfl, ?_⟩; first | exact Or.inl ⟨rfl, by omega⟩ | exact Or.inr (⟨rfl, by omega⟩)) dX7_isSort_14

set_option maxHeartbeats 4000000 in
set_option maxRecDepth 100000 in
theorem c_X7_bounded (l : Launch) (g : Gm) (M : Nat → Int) (v : Int) (hv : rg v) (lo : Int) (hlo : rg lo) (hi : Int) (hhi : rg hi) (hle : lo ≤ hi) : CI l ({ cls := "RatedBySighs", name := "bounded", desc := "(III)I" } : Jvm.MethodName) cX7_bounded 3 .int (rmm 1 21) g M [.int (II v), .int (II lo), .int (II hi)] (fun r M' => M' = M ∧ r = bnd v lo hi) := by
  refine c_start (by decide) (Nat.le_of_ble_eq_true rfl) (fun p e s m below meth c ls C hr hlk hml hw hS hl => ?_)
  have hl : lv_has ls 3 [(0, .int (II v)), (1, .int (II lo)), (2, .int (II hi))] := hl
  have g_M := hw.rg
  obtain ⟨hv1, hv2⟩ := id hv
  obtain ⟨hl1, hl2⟩ := id hlo
  obtain ⟨hi1, hi2⟩ := id hhi
  refine lv_iload_n C.1 C.2.1 dX7_bounded_0 rfl (lv_at hl 1 rfl) ?_
  refine lv_iload_n C.1 C.2.1 dX7_bounded_1 rfl (lv_at hl 2 rfl) ?_
  refine lv_iload_n C.1 C.2.1 dX7_bounded_2 rfl (lv_at hl 0 rfl) ?_
  refine x_min C hhi hv (hml.trans hl.1.symm) mw_578 mw_579 mw_131 mw_580 (Nat.le_of_ble_eq_true rfl) (Nat.le_of_ble_eq_true rfl) (Nat.zero_le _) (Nat.zero_le _) dX7_bounded_3 ?_
  refine x_max C hlo ⟨by omega, by omega⟩ (hml.trans hl.1.symm) mw_581 mw_582 mw_131 mw_583 (Nat.le_of_ble_eq_true rfl) (Nat.le_of_ble_eq_true rfl) (Nat.zero_le _) (Nat.zero_le _) dX7_bounded_6 ?_
  exact x_ireturn C hr hlk hw hS ⟨by omega, by omega⟩ rfl ⟨rfl, by unfold bnd; (repeat' split) <;> omega⟩ dX7_bounded_9

set_option maxHeartbeats 4000000 in
set_option maxRecDepth 100000 in
theorem c_X8_in (l : Launch) (g : Gm) (M : Nat → Int) (v : Int) (hv : rg v) (lo : Int) (hlo : rg lo) (hi : Int) (hhi : rg hi) : CI l ({ cls := "RatedBySighsModel", name := "in", desc := "(JJJ)Z" } : Jvm.MethodName) cX8_in 6 .boolean (rmm 0 0) g M [.long (LL v), .long (LL lo), .long (LL hi)] (fun r M' => M' = M ∧ ((r = 1 ∧ (lo ≤ v ∧ v ≤ hi)) ∨ (r = 0 ∧ (¬ (lo ≤ v ∧ v ≤ hi))))) := by
  refine c_start (by decide) (Nat.le_of_ble_eq_true rfl) (fun p e s m below meth c ls C hr hlk hml hw hS hl => ?_)
  have hl : lv_has ls 6 [(0, .long (LL v)), (2, .long (LL lo)), (4, .long (LL hi))] := hl
  have g_M := hw.rg
  refine lv_lload_n C.1 C.2.1 dX8_in_0 rfl (lv_at hl 0 rfl) ?_
  refine lv_lload_n C.1 C.2.1 dX8_in_1 rfl (lv_at hl 1 rfl) ?_
  refine x_lcmp C hv hlo dX8_in_2 ?_
  refine x_if_lt (tgt := 17) C (cmpI_rg _ _) dX8_in_3 (by decide) (fun c3 => ?_) (fun c3 => ?_)
  · have c3 := cmpI_lt.mp (c3)
    refine lv_iconst (v := II 0) C.1 C.2.1 dX8_in_17 rfl ?_
    exact x_ireturn C hr hlk hw hS ⟨by decide, by decide⟩ (by decide) (by refine ⟨rfl, ?_⟩; first | exact Or.inl ⟨rfl, by omega⟩ | exact Or.inr (⟨rfl, by omega⟩)) dX8_in_18
  · have c3 := (not_congr cmpI_lt).mp (by omega)
    refine lv_lload_n C.1 C.2.1 dX8_in_6 rfl (lv_at hl 0 rfl) ?_
    refine lv_lload C.1 C.2.1 dX8_in_7 (lv_at hl 2 rfl) ?_
    refine x_lcmp C hv hhi dX8_in_9 ?_
    refine x_if_gt (tgt := 17) C (cmpI_rg _ _) dX8_in_10 (by decide) (fun c10 => ?_) (fun c10 => ?_)
    · have c10 := cmpI_gt.mp (c10)
      refine lv_iconst (v := II 0) C.1 C.2.1 dX8_in_17 rfl ?_
      exact x_ireturn C hr hlk hw hS ⟨by decide, by decide⟩ (by decide) (by refine ⟨rfl, ?_⟩; first | exact Or.inl ⟨rfl, by omega⟩ | exact Or.inr (⟨rfl, by omega⟩)) dX8_in_18
    · have c10 := (not_congr cmpI_gt).mp (by omega)
      refine lv_iconst (v := II 1) C.1 C.2.1 dX8_in_13 rfl ?_
      refine lv_goto (tgt := 18) C.1 C.2.1 dX8_in_14 (by decide) ?_
      exact x_ireturn C hr hlk hw hS ⟨by decide, by decide⟩ (by decide) (by refine ⟨rfl, ?_⟩; first | exact Or.inl ⟨rfl, by omega⟩ | exact Or.inr (⟨rfl, by omega⟩)) dX8_in_18

set_option maxHeartbeats 4000000 in
set_option maxRecDepth 100000 in
theorem c_X8_within (l : Launch) (g : Gm) (M : Nat → Int) (v : Int) (hv : rg v) (lo : Int) (hlo : rg lo) (hi : Int) (hhi : rg hi) : CI l ({ cls := "RatedBySighsModel", name := "within", desc := "(III)I" } : Jvm.MethodName) cX8_within 3 .int (rmm 0 0) g M [.int (II v), .int (II lo), .int (II hi)] (fun r M' => M' = M ∧ r = bnd v lo hi) := by
  refine c_start (by decide) (Nat.le_of_ble_eq_true rfl) (fun p e s m below meth c ls C hr hlk hml hw hS hl => ?_)
  have hl : lv_has ls 3 [(0, .int (II v)), (1, .int (II lo)), (2, .int (II hi))] := hl
  have g_M := hw.rg
  refine lv_iload_n C.1 C.2.1 dX8_within_0 rfl (lv_at hl 0 rfl) ?_
  refine lv_iload_n C.1 C.2.1 dX8_within_1 rfl (lv_at hl 1 rfl) ?_
  refine x_icmp_ge (tgt := 9) C hv hlo dX8_within_2 (by decide) (fun c2 => ?_) (fun c2 => ?_)
  · refine lv_iload_n C.1 C.2.1 dX8_within_9 rfl (lv_at hl 0 rfl) ?_
    refine lv_iload_n C.1 C.2.1 dX8_within_10 rfl (lv_at hl 2 rfl) ?_
    refine x_icmp_le (tgt := 18) C hv hhi dX8_within_11 (by decide) (fun c11 => ?_) (fun c11 => ?_)
    · refine lv_iload_n C.1 C.2.1 dX8_within_18 rfl (lv_at hl 0 rfl) ?_
      exact x_ireturn C hr hlk hw hS hv rfl ⟨rfl, by unfold bnd; (repeat' split) <;> omega⟩ dX8_within_19
    · refine lv_iload_n C.1 C.2.1 dX8_within_14 rfl (lv_at hl 2 rfl) ?_
      refine lv_goto (tgt := 19) C.1 C.2.1 dX8_within_15 (by decide) ?_
      exact x_ireturn C hr hlk hw hS hhi rfl ⟨rfl, by unfold bnd; (repeat' split) <;> omega⟩ dX8_within_19
  · refine lv_iload_n C.1 C.2.1 dX8_within_5 rfl (lv_at hl 1 rfl) ?_
    refine lv_goto (tgt := 19) C.1 C.2.1 dX8_within_6 (by decide) ?_
    exact x_ireturn C hr hlk hw hS hlo rfl ⟨rfl, by unfold bnd; (repeat' split) <;> omega⟩ dX8_within_19
