/-! THE CLAIM OUT OF ONE WALK OF THE LAW'S BODY. Your part is whole_start (and what it stands on); all else here is the same for every law, but numbers. -/
def R_law : String := "RatedBySighsLaw"
def lw_P (b : Addr) (xs : List Int32) (args : Array Value) (s : State) : Prop := args = #[.ref b] ∧ s.IntsAt b xs ∧ xs.length ≤ 3072 ∧ (Jvm.Cond.and given_1 narrow_1).before args s = true
def lw_Q (_ : Array Value) (s : State) (o : Outcome) (t : State) : Prop := o = .returned (some (.int 1)) ∧ Framed s o t [] 600000 7302250
def lw_Z (below : List Frame) (a : Array Value) (s : State) : State → Prop := fun t => ∃ o, t.status = .running ∧ Ended t below o ∧ lw_Q a s o t
/-- the law's own end, with 1 on the stack, nothing written that was there before, its room as the claim has it -/
theorem lw_ret {p : Program} {l : Launch} {e : Env} {s : State} {m : MethodId} {below : List Frame} {meth : Method} {c : Code} {b : Nat} (hx : p.tables.exec = Jvm.exec) (hb : c.code = code) (hr : meth.sig.returnType = ret) (hlocks : meth.locks = false) {pc : Nat} {H : Heap} {ls : Array Slot} (hdg : decode code pc = .ok (.ireturn, 1)) : W p l e room_1 s m #[Value.ref b] below meth c H [] 600000 7302250 (lw_Z below #[Value.ref b] s) (F0 m pc ls [.int 1]) := by
  intro T hT X
  obtain ⟨fs, hret, hrun, hended, hW, hframe⟩ := X.leave (v := some (.int 1)) (hlocks := hlocks) (fun h => by rw [hr] at h; cases h)
  have hmeth' : T.vm.method? m = some meth := X.method'
  refine ⟨T.setFrames fs, ?_, .returned (some (.int 1)), hrun, hended, rfl, ⟨_, rfl⟩, hW, hframe⟩
  jvm_step X.here [X.here.top, hx, hb, hdg, hmeth', hr, ret, narrow_b1]
  (try refine ⟨rfl, ?_⟩); (try refine ⟨rfl, ?_⟩)
  first | (intro acts; rw [hret _ acts rfl rfl rfl]) | rw [hret _ _ rfl rfl rfl]
  exact Steps.refl _
/-- what holds at the law's entry: the machine, the code, the tables' words (any of lw_tbl by 'hts w (by decide +kernel)'), the script of L ints xs at the cell b, what the Statement gives of the start (any of its parts by flat_of_before) -/
def lw_At (p : Program) (s : State) (m : MethodId) (meth : Method) (c : Code) (b L : Nat) (xs : Nat → Int32) : Prop :=
  p.tables.exec = Jvm.exec ∧ c.code = code ∧ meth.sig.returnType = ret ∧ c.maxLocals = 4 ∧ s.vm.findClass R_law = some m.cls ∧ (∀ w ∈ lw_tbl, w.before #[Value.ref b] s = true) ∧ va_X b L xs s s.heap ∧ b < s.heap.size ∧ meth.locks = false ∧ (Jvm.Cond.and given_1 narrow_1).before #[Value.ref b] s = true
section PF
variable {p : Program} {l : Launch} {e : Env} {Rm : Room} {s : State} {m : MethodId} {args : Array Value} {below : List Frame} {meth : Method} {c : Code} {H : Heap} {locs : List Loc} {cells slots : Nat} {Q : State → Prop}
variable {cc : ByteArray} {own : String} {pc : Nat} {ls : Array Slot} {rest : List Value} {g : Gm} {M : Nat → Int} {ρ : Nat → Option Nat}
theorem yp_call {y : MethodName} {cd : ByteArray} {mL nL idx : Nat} {rm : Room} {P : (Nat → Int) → Prop} {ρ' : Nat → Option Nat} {n' : Nat} (C : Cx g p c m s args cc own) (hA : AOs s) (hw : Wo g M H) (hS : va_S (ar g) s.heap H locs) (hml : c.maxLocals = nL) (hls : ls.size = nL) (k : Nat) (hM : CD l y cd mL rm g M [.ref (gA g k)] P ρ' n')
    (m1 : Cond.methodLink own idx y ∈ tT) (m2 : Cond.instanceMethod y ∈ tT) (m4 : Cond.initialized y.cls ∈ tT) (m5 : Cond.code y cd mL none ∈ tT) (hy : y.name = "<init>") (hd : y.cls ≠ "java/lang/invoke/MethodHandle" ∧ y.cls ≠ "java/lang/invoke/VarHandle" ∧ (parseMethodDescriptor y.desc).map (fun d => d.parameters.length) = some 0) (hRm : rm.frames + 1 ≤ Rm.frames ∧ 8 + (mL + 11) + rm.locals ≤ Rm.locals)
    (hW : (rest.map fun v => v.category).sum ≤ 8) (hdg : decode cc pc = .ok (.invokespecial idx, 3)) (hf : cells + rm.cells ≤ Rm.cells ∧ slots + rm.slots ≤ Rm.slots)
    (kk : ∀ (g' : Gm) (M' : Nat → Int) (H1 : Heap) (locs1 : List Loc), GX g g' → gN g' = n' → Rr g' ρ' → P M' → Cx g' p c m s args cc own → Wo g' M' H1 → va_S (ar g') s.heap H1 locs1 → W p l e Rm s m args below meth c H1 locs1 (cells + rm.cells) (slots + rm.slots) Q (F0 m (pc + 3) ls rest)) : W p l e Rm s m args below meth c H locs cells slots Q (F0 m pc ls (.ref (gA g k) :: rest)) := by
  refine va_callv (va_runI (Ts := tT) ⟨C.1, C.2.1, hml, C.2.2.1, C.2.2.2.1⟩ hM (cwI 0 C.2.2.2.1 (tT_sub (fun w h => (List.mem_cons.mp h).elim (fun e => e ▸ m5) id)) rfl rfl rfl (C.2.2.2.1 _ m4) (C.2.2.2.1 _ m1) (C.2.2.2.1 _ m2) hy hd hRm) ⟨WdA.blind, fun U hU hW => ⟨rfl, C.wd hS hw hU hW, hA.moved hW.alike⟩⟩ rfl rfl hls rfl (lv_room hW) hdg hf) hS (fun _ _ h => h) (fun _ h => h) (fun u t H1 locs1 ht _ hp hB _ _ hS1 => ?_)
  exact kk u.1 u.2 H1 locs1 hp.1 hp.2.1 hp.2.2.1 hp.2.2.2 (hp.1.cx C) (ht ▸ hB) (by rw [hp.1.ar]; exact hS1)
end PF
theorem rho7_far {n : Nat} (h : 70000 ≤ n) : rhoS (rho7 (fun _ => none)) 4 n = none := by
  simp only [rhoS]
  rw [stR_n (by omega), stR_n (by omega), stR_n (by omega), stR_n (by omega), stR_n (by omega), stR_n (by omega), stR_n (by omega), stR_n (by omega)]
  unfold rho7
  rw [stR_n (by omega), stR_n (by omega), stR_n (by omega), stR_n (by omega), rhoB_n (by omega) (by omega) 8 (by omega), stR_n (by omega), stR_n (by omega), stR_n (by omega), stR_n (by omega), stR_n (by omega), stR_n (by omega), stR_n (by omega)]
  unfold rhoE
  rw [stR_n (by omega), stR_n (by omega), mulR_n (by omega), stR_n (by omega), mulR_n (by omega), stR_n (by omega)]
  unfold rhoT
  rw [stR_n (by omega), stR_n (by omega), stR_n (by omega), mulR_n (by omega), stR_n (by omega), mulR_n (by omega)]
  rw [stR_n (by omega), rhoB_n (by omega) (by omega) 8 (by omega)]
set_option maxHeartbeats 4000000 in
set_option maxRecDepth 100000 in
theorem law_from (l : Launch) {p : Program} {e : Env} {s : State} {m : MethodId} {below : List Frame} {meth : Method} {c : Code} {b L : Nat} {xs : Nat → Int32} (hL : L ≤ 3072) (C0 : lw_At p s m meth c b L xs) {g : Gm} (hg0 : gN g = 0) (hgB : gB g = s.heap.size) (hgR : ∀ n, gR g n = none) (hK : va_K (gD g) vwCl (tyl (gC g)) s) (hE : En g s) (hA : AOs s) : W p l e room_1 s m #[Value.ref b] below meth c s.heap [] 0 0 (lw_Z below #[Value.ref b] s) (entryFrame m ([Value.ref b] : List Value).toArray 4) := by
  obtain ⟨hx, hb, hr, hml, hown, hts, hXs, hbl, hlk, -⟩ := C0
  have htT : ∀ w ∈ tT, w.before #[Value.ref b] s = true := fun w hw => hts w (List.mem_filter.mp hw).1
  have C : Cx g p c m s #[Value.ref b] cL_law "RatedBySighsLaw" := ⟨hx, hb, hown, htT, hK, hE, by rw [hgB]; exact Nat.le_refl _⟩
  have hem : wsl g (fun _ => 0) = [] := by unfold wsl; rw [hg0]; rfl
  have hw : Wo g (fun _ => 0) s.heap := ⟨by rw [hem]; exact fun k q h => by simp at h, by rw [hem]; exact ⟨fun i j a b h => by simp at h, fun k q h => by simp at h⟩, fun _ => rg0⟩
  have hR : Rr g (fun _ => none) := ⟨fun n => hgR n, fun n q e => by cases e⟩
  have hF : Fr (fun _ => 0) (fun _ => none) 0 := fun _ _ => ⟨rfl, rfl⟩
  have hS : va_S (ar g) s.heap s.heap [] := va_S.rf
  rw [lg_entry_eq]
  have hl : lv_has _ 4 (lv_args 0 [Value.ref b]) := lv_entry (n := 4) [Value.ref b] (Nat.le_of_ble_eq_true rfl)
  have hl2 : lv_has _ 4 [(0, .ref b)] := hl
  revert hl2
  generalize ((lg_sl [Value.ref b] ++ List.replicate (4 - (lg_sl [Value.ref b]).length) Slot.unset).toArray) = ls
  intro hl
  refine y_new7 C hw hS hR hg0 rfl hF mw_133 mw_134 mw_117 (Nat.le_of_ble_eq_true rfl) (Nat.le_of_ble_eq_true rfl) dL_law_0 (fun g1 H hX1 hN1 hR1 C hw hS => ?_)
  refine lv_dup C.1 C.2.1 dL_law_3 rfl ?_
  refine yp_call C hA hw hS hml hl.1 0 (k_X7 l g1 (fun _ => 0) (fun _ => none) hN1 hR1 hF) mw_135 mw_136 mw_117 mw_137 rfl ⟨by decide, by decide, by decide +kernel⟩ ⟨Nat.le_of_ble_eq_true rfl, Nat.le_of_ble_eq_true rfl⟩ (Nat.le_of_ble_eq_true rfl) dL_law_4 ⟨Nat.le_of_ble_eq_true rfl, Nat.le_of_ble_eq_true rfl⟩ (fun g2 M7 H locs hX2 hN2 hR2 hP7 C hw hS => ?_)
  rw [hX2.A (k := 0) (by omega)]
  refine lv_astore_n (lv' := [(1, .ref (gA g2 0)), (0, .ref b)]) C.1 C.2.1 dL_law_7 rfl hl (by decide) rfl (fun ls hl => ?_)
  have hz7 : ∀ n, 70000 ≤ n → M7 n = 0 := fun n hn => by
    rw [hP7.2 n (by omega), mS_n (by omega) 4 (by decide), st_n (by omega), st_n (by omega)]
  have hF7 : Fr M7 (rhoS (rho7 (fun _ => none)) 4) 70 := fun n hn => ⟨hz7 n (by omega), rho7_far (by omega)⟩
  refine y_new8 (k := 70) C hw hS hR2 hN2 rfl hF7 mw_815 mw_816 mw_130 (Nat.le_of_ble_eq_true rfl) (Nat.le_of_ble_eq_true rfl) dL_law_8 (fun g3 H hX3 hN3 hR3 C hw hS => ?_)
  have hl : lv_has ls 4 [(1, .ref (gA g3 0)), (0, .ref b)] := by
    have z := hl
    rw [hX3.A (k := 0) (by omega)] at z
    exact z
  refine lv_dup C.1 C.2.1 dL_law_11 rfl ?_
  refine yp_call C hA hw hS hml hl.1 70 (k_X8 l g3 M7 _ hN3 hR3 hF7) mw_817 mw_818 mw_130 mw_819 rfl ⟨by decide, by decide, by decide +kernel⟩ ⟨Nat.le_of_ble_eq_true rfl, Nat.le_of_ble_eq_true rfl⟩ (Nat.le_of_ble_eq_true rfl) dL_law_12 ⟨Nat.le_of_ble_eq_true rfl, Nat.le_of_ble_eq_true rfl⟩ (fun g4 M8 H locs hX4 hN4 hR4 hP8 C hw hS => ?_)
  have hl : lv_has ls 4 [(1, .ref (gA g4 0)), (0, .ref b)] := by
    have z := hl
    rw [hX4.A (k := 0) (by omega)] at z
    exact z
  rw [hX4.A (k := 70) (by omega)]
  refine lv_astore_n (lv' := [(2, .ref (gA g4 70)), (1, .ref (gA g4 0)), (0, .ref b)]) C.1 C.2.1 dL_law_15 rfl hl (by decide) rfl (fun ls hl => ?_)
  refine lv_iconst (v := II 0) C.1 C.2.1 dL_law_16 rfl ?_
  refine lv_istore_n (lv' := [(3, .int (II ((0 : Nat) : Int))), (2, .ref (gA g4 70)), (1, .ref (gA g4 0)), (0, .ref b)]) C.1 C.2.1 dL_law_17 rfl hl (by decide) rfl (fun ls hl => ?_)
  have hXX : GX g g4 := ((hX1.trans hX2).trans hX3).trans hX4
  have hB4 : gB g4 = s.heap.size := by rw [hXX.2.2.1, hgB]
  have hbA : ¬ ar g4 b := fun h => by
    have h2 : gB g4 ≤ b := h
    omega
  have hLF : LvF g4 := LvF.made hR4 hN4
  have hRC : RepC M8 b0f X0f none Sh0f := rep0C (M := fun _ => 0) (fun _ => rfl) hP7 (fun n hn => by rw [hP8.2.2 n (by omega), st_n (by omega), st_n (by omega)])
  have hRM : RepM M8 b0f X0f none Sh0f := rep0M hz7 hP8
  refine W.widen (k := 84) (n := 3448) (Nat.le_of_ble_eq_true rfl) (Nat.le_of_ble_eq_true rfl) ?_
  refine law_loop l hLF C hml hXs hbl hbA hL (fun H locs ls hS => ?_) (L + 1) 0 (by omega) (by omega) hRC hRM inv0f hw hS (lv_sub hl [3, 2, 1, 0] rfl)
  refine lv_iconst (v := II 1) C.1 C.2.1 dL_law_1021 rfl ?_
  refine va_forget (fun q hq => ?_) ?_
  · have h2 : gB g4 ≤ q.base := hS.2.2 q hq
    omega
  · exact W.widen (k := 600000) (n := 7302250) (by decide) (by decide) (lw_ret hx hb hr hlk dL_law_1022)
theorem whole_start {p : Program} {e : Env} {s : State} {m : MethodId} {below : List Frame} {meth : Method} {c : Code} (l : Launch) (hflags : l.flags = flags0) {b L : Nat} {xs : Nat → Int32} (hL : L ≤ 3072) (C0 : lw_At p s m meth c b L xs) : W p l e room_1 s m #[Value.ref b] below meth c s.heap [] 0 0 (lw_Z below #[Value.ref b] s) (entryFrame m ([Value.ref b] : List Value).toArray 4) := by
  have hts := C0.2.2.2.2.2.1
  have hgv := C0.2.2.2.2.2.2.2.2.2
  have htT : ∀ w ∈ tT, w.before #[Value.ref b] s = true := fun w hw => hts w (List.mem_filter.mp hw).1
  have hAO : AOs s := ⟨va_AO.of (hts _ mn_154), va_AO.of (hts _ mn_322), (show va_Nw (Cond.arrayOver (.array .int)) s from hts _ mn_218)⟩
  obtain ⟨D, ca, hK⟩ := start_K htT hAO
  obtain ⟨X, hE⟩ := start_En hts hgv D ca
  exact law_from l hL C0 (g := (D, ca, s.heap.size, 0, (fun _ => 0), (fun _ => none), X)) rfl rfl (fun _ => rfl) hK hE hAO
set_option maxHeartbeats 4000000 in
theorem lw_walk (l : Launch) (hflags : l.flags = flags0) (b : Addr) (xs : List Int32) : MetFree l x (headSpec (Jvm.Cond.code x code maxLocals ret :: tables_1) room_1) (lw_P b xs) (fun _ _ _ _ _ => True) lw_Q := by
  refine MetFree.of_bodyS (code := code) (maxLocals := maxLocals) (ret := ret) (by decide) ?_ ?_
  · intro args s m h hn
    obtain ⟨meth, c, h1, h2, h3, h4, h5, h6, -, -⟩ := Cond.code_spec hn (atoms_spec (ws := Jvm.Cond.code x code maxLocals ret :: tables_1) h _ List.mem_cons_self)
    exact ⟨meth, c, h1, h2, h3, h4, h5, h6⟩
  · intro p e s m args below meth c s₁ B hml0 hP _
    obtain ⟨rfl, hx, hbd, hgv⟩ := hP
    obtain ⟨scr, harrAt, hlist, hof, hsmall⟩ := hx
    obtain ⟨hcb, hkn, -, -⟩ := State.arrayAt?_spec harrAt
    have hown : s.vm.findClass R_law = some m.cls := findClass_of_methodNamed B.named
    have hts0 : ∀ c ∈ (Jvm.Cond.code x code maxLocals ret :: tables_1), c.before #[Value.ref b] s = true := atoms_spec (ws := Jvm.Cond.code x code maxLocals ret :: tables_1) B.pre
    have hts : ∀ w ∈ lw_tbl, w.before #[Value.ref b] s = true := k2_hts_sels lw_privs (fun w hw => hts0 w (List.mem_cons_of_mem _ hw)) lw_privs_ok
    have hml : c.maxLocals = 4 := B.maxLocals_eq (hts0 _ List.mem_cons_self)
    have X₀ : Stand p l e room_1 s m #[Value.ref b] below meth c s₁ [] 0 0 := Stand.of_body B
    have hh0 : s₁.heap = s.heap := by rw [B.state]; rfl
    have hsz : scr.slots.size = xs.length := by rw [← Array.length_toList, hlist, List.length_map]
    have hval : ∀ j : Nat, j < xs.length → scr.slots[j]? = some (.int (xs.getD j 0)) := fun j hj => by
      rw [← Array.getElem?_toList, hlist]
      simp [hj]
    have hbl : b < s.heap.size := (Array.getElem?_eq_some_iff.mp hcb).1
    have hX : va_X b xs.length (fun j => xs.getD j 0) s s.heap := ⟨scr, hcb, hof, hkn, hsz, hval⟩
    have K : W p l e room_1 s m #[Value.ref b] below meth c s₁.heap [] 0 0 (lw_Z below #[Value.ref b] s) (entryFrame m ([Value.ref b] : List Value).toArray 4) := by
      rw [hh0]
      exact whole_start l hflags hbd ⟨B.exec, B.bytes, B.returns, hml, hown, hts, hX, hbl, B.notSynchronized, hgv⟩
    obtain ⟨t, a1, o, b1, b2, b3⟩ := K s₁ rfl X₀
    exact ⟨t, o, a1, b1, b2, b3⟩
theorem lw_pre_spec {args : Array Value} {s : State} (h : (Jvm.Cond.and given_1 narrow_1).before args s = true) (hr : rest_1_c.before args s = true) : ∃ (b : Addr) (xs : List Int32), lw_P b xs args s := by
  have hs := flat_of_before _ h
  have hq := flat_of_before _ hr
  have hc : (Cond.count 1).before args s = true := hs _ (by decide +kernel)
  have harr : (Cond.arrayOf (.arg 0) .int).before args s = true := hs _ (by decide +kernel)
  have hle : (Cond.le (.length (.arg 0)) (.int 3072)).before args s = true := hs _ (by decide +kernel)
  have hlen : (Cond.isInt (.length (.arg 0))).before args s = true := hq _ (by decide +kernel)
  have hall : (Cond.all (.arg 0) (.isInt (.elem (.arg 0) (.index 0)))).before args s = true := hq _ (by decide +kernel)
  obtain ⟨b, xs, hb, hx⟩ := State.ints_of_pre rfl harr hlen hall
  have hsm : xs.length < 2 ^ 31 := hx.choose_spec.2.2.2
  have hev : (Term.length (.arg 0)).eval args s none [] s = some (.int xs.length.toInt32) := hx.length_eval hb
  have hv := Cond.le_ints hev (show (Term.int 3072).eval args s none [] s = some (.int 3072) from rfl)
  have hd : xs.length.toInt32 ≤ 3072 := by
    simpa [Cond.before, Cond.holds, hv] using hle
  have hN : xs.length ≤ 3072 := (Int32.ofNat_le_ofNat hsm (by decide)).mp (show Int32.ofNat xs.length ≤ Int32.ofNat 3072 from hd)
  exact ⟨b, xs, Cond.one_arg hc (show args[0]? = some (.ref b) from hb), hx, hN, h⟩
theorem lw_comes (l : Launch) (hflags : l.flags = flags0) : Comes l x (Jvm.Cond.code x code maxLocals ret :: tables_1) room_1 (fun tb e args s => Calls_1 tb e args s ∧ rest_1 tb e args s ∧ Pre_1 tb e args s)
    (fun _ _ args s o t => lw_Q args s o t) := by
  intro p e ha hc hk s m args below hf hfit hheap happ hpre
  obtain ⟨b, xs, hP⟩ := lw_pre_spec hpre.2.2 hpre.2.1
  obtain ⟨k, o, h1, h2, h3, hQ⟩ := lw_walk l hflags b xs p e ha hc hk s m args below hf ((Spec.applies_iff_loose hf).mp happ).1 hP trivial
  exact ⟨k, o, h1, h2, h3, hQ⟩
theorem lw_frame {s t : State} {o : Outcome} {args : Array Value} (h : Framed s o t [] 600000 7302250) :
    Framed s o t (fieldLocs frame_1_writes args s ++ arrayLocs frame_1_arrays args s ++ staticLocs frame_1_statics s) 600000 7302250 := h
theorem lw_limb (L : Cond) (hL : ∀ (args : Array Value) (s t : State), L.after args s (.returned (some (.int 1))) t = true) :
    ArmFor flags0 classFile x code maxLocals ret World_1 tables_1 room_1 Calls_1 rest_1 Pre_1
      (fun tb e a s o t => postC L tb e a s o t ∧ Framed s o t (fieldLocs frame_1_writes a s ++ arrayLocs frame_1_arrays a s ++ staticLocs frame_1_statics s) 600000 7302250) := by
  intro l hflags _ _ p e ha hc hk s m args below hf hfit hheap happ hpre
  obtain ⟨k, o, h1, h2, h3, rfl, hF⟩ := lw_comes l hflags p e ha hc hk s m args below hf hfit hheap happ hpre
  exact ⟨k, _, h1, h2, h3, hL args s _, lw_frame hF⟩
theorem i_vc : Claimed_1_1 ∧ Claimed_1_2 := ⟨lw_limb limb_1_1 (fun args s t => by simp [limb_1_1, Cond.after, Cond.holds, Cond.value]), lw_limb limb_1_2 (fun args s t => Cond.after_iff.mpr (by
  first | (rw [show limb_1_2 = Cond.eq .result (.int 1) from rfl, Cond.eq_ints (x := 1) (y := 1) rfl rfl]; simp; done) | (simp [limb_1_2, Cond.value, Term.eval]; done)))⟩
