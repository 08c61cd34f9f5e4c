theorem and31 (x : Int32) : ∃ o : Nat, o < 32 ∧ (x &&& II 31) = II (o : Int) := by
  refine ⟨(x &&& II 31).toBitVec.toNat, ?_, ?_⟩
  · have h : (x &&& II 31).toBitVec = x.toBitVec &&& (II 31).toBitVec := rfl
    rw [h, BitVec.toNat_and]
    have h2 : (II 31).toBitVec.toNat = 31 := by decide
    rw [h2]
    exact Nat.lt_succ_of_le Nat.and_le_right
  · apply Int32.toBitVec_inj.mp
    show _ = BitVec.ofInt 32 _
    rw [BitVec.ofInt_natCast, BitVec.ofNat_toNat]
    simp
theorem ofNat_II (n : Nat) : Int32.ofNat n = II (n : Int) := by
  apply Int32.toBitVec_inj.mp
  show BitVec.ofNat 32 n = BitVec.ofInt 32 n
  rw [BitVec.ofInt_natCast]
set_option maxHeartbeats 4000000 in
set_option maxRecDepth 100000 in
theorem law_loop (l : Launch) {g : Gm} (hF : LvF g) {p : Program} {e : Env} {s : State} {m : MethodId} {args : Array Value} {below : List Frame} {meth : Method} {c : Code} {QQ : State → Prop} (C : Cx g p c m s args cL_law "RatedBySighsLaw") (hml : c.maxLocals = 4) {b L : Nat} {xs : Nat → Int32} (hXs : va_X b L xs s s.heap) (hbl : b < s.heap.size) (hbA : ¬ ar g b) (hL : L ≤ 3072)
    (hend : ∀ (H : Heap) (locs : List Loc) (ls : Array Slot), va_S (ar g) s.heap H locs → W p l e room_1 s m args below meth c H locs 84 3448 QQ (F0 m 1021 ls [])) :
    ∀ (f i : Nat), L < i + f → i ≤ L → ∀ {M : Nat → Int} {n : Nat} {v : Nat → Nat → Int} {nt pd : Int} {t : Nat} {X : Txt} {I : Option Bor} {Sh : Sht}, RepC M (n, v, nt, pd, t) X I Sh → RepM M (n, v, nt, pd, t) X I Sh → InvA (n, v, nt, pd, t) X I Sh → ∀ {H : Heap} {locs : List Loc} {ls : Array Slot}, Wo g M H → va_S (ar g) s.heap H locs → lv_has ls 4 [(0, .ref b), (1, .ref (gA g 0)), (2, .ref (gA g 70)), (3, .int (II (i : Int)))] → W p l e room_1 s m args below meth c H locs 84 3448 QQ (F0 m 18 ls [])
  | 0, i => fun h1 h2 => by omega
  | f + 1, i => fun h1 h2 {M n v nt pd t X I Sh} hRC hRM hA {H locs ls} hw hS hl => by
    refine lv_iload_n C.1 C.2.1 dL_law_18 rfl (lv_at hl 3 rfl) ?_
    refine lv_aload_n C.1 C.2.1 dL_law_19 rfl (lv_at hl 0 rfl) ?_
    refine va_slen C.1 C.2.1 hXs hbl hbA hS dL_law_20 ?_
    rw [ofNat_II]
    refine lv_bipush (v := II 6) C.1 C.2.1 dL_law_21 (by decide) ?_
    refine x_isub C dL_law_23 ?_
    refine x_icmp_gt (tgt := 1021) C ⟨by omega, by omega⟩ ⟨by omega, by omega⟩ dL_law_24 (by decide) (fun _ => hend H locs ls hS) (fun hi0 => ?_)
    have hi : i + 6 ≤ L := by omega
    have hn : ∀ (n : Nat) (v : Nat → Nat → Int) (nt pd : Int) (t : Nat) (X : Txt) (I : Option Bor) (Sh : Sht) (M' : Nat → Int) (H : Heap) (locs : List Loc) (ls : Array Slot), RepC M' (n, v, nt, pd, t) X I Sh → RepM M' (n, v, nt, pd, t) X I Sh → InvA (n, v, nt, pd, t) X I Sh → Wo g M' H → va_S (ar g) s.heap H locs → lv_has ls 4 [(0, .ref b), (1, .ref (gA g 0)), (2, .ref (gA g 70)), (3, .int (II (i : Int)))] → W p l e room_1 s m args below meth c H locs 84 3448 QQ (F0 m 1015 ls []) := by
      intro n v nt pd t X I Sh M' H locs ls hRC hRM hA hw hS hl
      refine lv_iinc (v := II ((i : Int) + 6)) (lv' := [(3, .int (II ((i : Int) + 6))), (0, .ref b), (1, .ref (gA g 0)), (2, .ref (gA g 70))]) C.1 C.2.1 dL_law_1015 hl (k := 3) rfl (II_add _ _) (by decide) rfl (fun ls hl => ?_)
      refine lv_goto (tgt := 18) C.1 C.2.1 dL_law_1018 (by decide) ?_
      exact law_loop l hF C hml hXs hbl hbA hL hend f (i + 6) (by omega) (by omega) hRC hRM hA hw hS (lv_sub hl [1, 2, 3, 0] rfl)
    refine lv_aload_n C.1 C.2.1 dL_law_27 rfl (lv_at hl 0 rfl) ?_
    refine lv_iload_n C.1 C.2.1 dL_law_28 rfl (lv_at hl 3 rfl) ?_
    refine x_scr C hXs hbl hbA hS hL (k := i) rfl (by omega) dL_law_29 ?_
    refine lv_bipush (v := II 31) C.1 C.2.1 dL_law_30 (by decide) ?_
    refine lv_iand C.1 C.2.1 dL_law_32 ?_
    obtain ⟨o, ho, eo⟩ := and31 (II (xs i).toInt)
    rw [eo]
    by_cases h28 : o < 28
    · rcases (show o = 0 ∨ o = 1 ∨ o = 2 ∨ o = 3 ∨ o = 4 ∨ o = 5 ∨ o = 6 ∨ o = 7 ∨ o = 8 ∨ o = 9 ∨ o = 10 ∨ o = 11 ∨ o = 12 ∨ o = 13 ∨ o = 14 ∨ o = 15 ∨ o = 16 ∨ o = 17 ∨ o = 18 ∨ o = 19 ∨ o = 20 ∨ o = 21 ∨ o = 22 ∨ o = 23 ∨ o = 24 ∨ o = 25 ∨ o = 26 ∨ o = 27 by omega) with rfl | rfl | rfl | rfl | rfl | rfl | rfl | rfl | rfl | rfl | rfl | rfl | rfl | rfl | rfl | rfl | rfl | rfl | rfl | rfl | rfl | rfl | rfl | rfl | rfl | rfl | rfl | rfl
      · exact x_tabIn (tgt := 160) C ⟨by decide, by decide⟩ dL_law_33 (by decide) (by decide) rfl (by decide) (law_0 l hF hRC hRM hA C hml hXs hbl hbA hL hi hw hS hl hn)
      · exact x_tabIn (tgt := 203) C ⟨by decide, by decide⟩ dL_law_33 (by decide) (by decide) rfl (by decide) (law_1 l hF hRC hRM hA C hml hXs hbl hbA hL hi hw hS hl hn)
      · exact x_tabIn (tgt := 246) C ⟨by decide, by decide⟩ dL_law_33 (by decide) (by decide) rfl (by decide) (law_2 l hF hRC hRM hA C hml hXs hbl hbA hL hi hw hS hl hn)
      · exact x_tabIn (tgt := 279) C ⟨by decide, by decide⟩ dL_law_33 (by decide) (by decide) rfl (by decide) (law_3 l hF hRC hRM hA C hml hXs hbl hbA hL hi hw hS hl hn)
      · exact x_tabIn (tgt := 302) C ⟨by decide, by decide⟩ dL_law_33 (by decide) (by decide) rfl (by decide) (law_4 l hF hRC hRM hA C hml hXs hbl hbA hL hi hw hS hl hn)
      · exact x_tabIn (tgt := 315) C ⟨by decide, by decide⟩ dL_law_33 (by decide) (by decide) rfl (by decide) (law_5 l hF hRC hRM hA C hml hXs hbl hbA hL hi hw hS hl hn)
      · exact x_tabIn (tgt := 338) C ⟨by decide, by decide⟩ dL_law_33 (by decide) (by decide) rfl (by decide) (law_6 l hF hRC hRM hA C hml hXs hbl hbA hL hi hw hS hl hn)
      · exact x_tabIn (tgt := 371) C ⟨by decide, by decide⟩ dL_law_33 (by decide) (by decide) rfl (by decide) (law_7 l hF hRC hRM hA C hml hXs hbl hbA hL hi hw hS hl hn)
      · exact x_tabIn (tgt := 394) C ⟨by decide, by decide⟩ dL_law_33 (by decide) (by decide) rfl (by decide) (law_8 l hF hRC hRM hA C hml hXs hbl hbA hL hi hw hS hl hn)
      · exact x_tabIn (tgt := 407) C ⟨by decide, by decide⟩ dL_law_33 (by decide) (by decide) rfl (by decide) (law_9 l hF hRC hRM hA C hml hXs hbl hbA hL hi hw hS hl hn)
      · exact x_tabIn (tgt := 430) C ⟨by decide, by decide⟩ dL_law_33 (by decide) (by decide) rfl (by decide) (law_10 l hF hRC hRM hA C hml hXs hbl hbA hL hi hw hS hl hn)
      · exact x_tabIn (tgt := 453) C ⟨by decide, by decide⟩ dL_law_33 (by decide) (by decide) rfl (by decide) (law_11 l hF hRC hRM hA C hml hXs hbl hbA hL hi hw hS hl hn)
      · exact x_tabIn (tgt := 476) C ⟨by decide, by decide⟩ dL_law_33 (by decide) (by decide) rfl (by decide) (law_12 l hF hRC hRM hA C hml hXs hbl hbA hL hi hw hS hl hn)
      · exact x_tabIn (tgt := 499) C ⟨by decide, by decide⟩ dL_law_33 (by decide) (by decide) rfl (by decide) (law_13 l hF hRC hRM hA C hml hXs hbl hbA hL hi hw hS hl hn)
      · exact x_tabIn (tgt := 532) C ⟨by decide, by decide⟩ dL_law_33 (by decide) (by decide) rfl (by decide) (law_14 l hF hRC hRM hA C hml hXs hbl hbA hL hi hw hS hl hn)
      · exact x_tabIn (tgt := 555) C ⟨by decide, by decide⟩ dL_law_33 (by decide) (by decide) rfl (by decide) (law_15 l hF hRC hRM hA C hml hXs hbl hbA hL hi hw hS hl hn)
      · exact x_tabIn (tgt := 578) C ⟨by decide, by decide⟩ dL_law_33 (by decide) (by decide) rfl (by decide) (law_16 l hF hRC hRM hA C hml hXs hbl hbA hL hi hw hS hl hn)
      · exact x_tabIn (tgt := 631) C ⟨by decide, by decide⟩ dL_law_33 (by decide) (by decide) rfl (by decide) (law_17 l hF hRC hRM hA C hml hXs hbl hbA hL hi hw hS hl hn)
      · exact x_tabIn (tgt := 664) C ⟨by decide, by decide⟩ dL_law_33 (by decide) (by decide) rfl (by decide) (law_18 l hF hRC hRM hA C hml hXs hbl hbA hL hi hw hS hl hn)
      · exact x_tabIn (tgt := 687) C ⟨by decide, by decide⟩ dL_law_33 (by decide) (by decide) rfl (by decide) (law_19 l hF hRC hRM hA C hml hXs hbl hbA hL hi hw hS hl hn)
      · exact x_tabIn (tgt := 731) C ⟨by decide, by decide⟩ dL_law_33 (by decide) (by decide) rfl (by decide) (law_20 l hF hRC hRM hA C hml hXs hbl hbA hL hi hw hS hl hn)
      · exact x_tabIn (tgt := 744) C ⟨by decide, by decide⟩ dL_law_33 (by decide) (by decide) rfl (by decide) (law_21 l hF hRC hRM hA C hml hXs hbl hbA hL hi hw hS hl hn)
      · exact x_tabIn (tgt := 757) C ⟨by decide, by decide⟩ dL_law_33 (by decide) (by decide) rfl (by decide) (law_22 l hF hRC hRM hA C hml hXs hbl hbA hL hi hw hS hl hn)
      · exact x_tabIn (tgt := 780) C ⟨by decide, by decide⟩ dL_law_33 (by decide) (by decide) rfl (by decide) (law_23 l hF hRC hRM hA C hml hXs hbl hbA hL hi hw hS hl hn)
      · exact x_tabIn (tgt := 823) C ⟨by decide, by decide⟩ dL_law_33 (by decide) (by decide) rfl (by decide) (law_24 l hF hRC hRM hA C hml hXs hbl hbA hL hi hw hS hl hn)
      · exact x_tabIn (tgt := 866) C ⟨by decide, by decide⟩ dL_law_33 (by decide) (by decide) rfl (by decide) (law_25 l hF hRC hRM hA C hml hXs hbl hbA hL hi hw hS hl hn)
      · exact x_tabIn (tgt := 929) C ⟨by decide, by decide⟩ dL_law_33 (by decide) (by decide) rfl (by decide) (law_26 l hF hRC hRM hA C hml hXs hbl hbA hL hi hw hS hl hn)
      · exact x_tabIn (tgt := 982) C ⟨by decide, by decide⟩ dL_law_33 (by decide) (by decide) rfl (by decide) (law_27 l hF hRC hRM hA C hml hXs hbl hbA hL hi hw hS hl hn)
    · exact x_tabOut (tgt := 1015) C ⟨by omega, by omega⟩ dL_law_33 (Or.inr (by omega)) (by decide) (hn n v nt pd t X I Sh M H locs ls hRC hRM hA hw hS hl)
