/-! contracts of constructors whose memory is told by a predicate -/
def postD (g : Gm) (P : (Nat → Int) → Prop) (ρ' : Nat → Option Nat) (n' : Nat) : Array Value → State → Outcome → State → Prop := va_Qv (S := Gm × (Nat → Int)) (fun u => GX g u.1 ∧ gN u.1 = n' ∧ Rr u.1 ρ' ∧ P u.2) (fun u t => Wo u.1 u.2 t.heap) (ar g)
def CD (l : Launch) (y : MethodName) (cd : ByteArray) (mL : Nat) (rm : Room) (g : Gm) (M : Nat → Int) (as : List Value) (P : (Nat → Int) → Prop) (ρ' : Nat → Option Nat) (n' : Nat) : Prop :=
  Met l y (.code y cd mL none :: tT) rm (va_Pc as (fun U => Wd g M U ∧ AOs U)) (postD g P ρ' n') rm.cells rm.slots (ar g)
theorem yd_start {l : Launch} {y : MethodName} {cd : ByteArray} {mL : Nat} {rm : Room} {g : Gm} {M : Nat → Int} {as : List Value} {P : (Nat → Int) → Prop} {ρ' : Nat → Option Nat} {n' : Nat} (hy : plainName y.cls = true) (hn : (lg_sl as).length ≤ mL)
    (body : ∀ (p : Program) (e : Env) (s : State) (m : MethodId) (below : List Frame) (meth : Method) (c : Code) (ls : Array Slot), Cx g p c m s as.toArray cd y.cls → AOs s → meth.name = y.name → meth.sig.returnType = none → meth.locks = false → c.maxLocals = mL → Wo g M s.heap → va_S (ar g) s.heap s.heap [] → lv_has ls mL (lv_args 0 as) →
      W p l e rm s m as.toArray below meth c s.heap [] 0 0 (MQ below (postD g P ρ' n') as.toArray s rm.cells rm.slots (ar g)) (F0 m 0 ls [])) : CD l y cd mL rm g M as P ρ' n' := by
  refine Met.ofW (cc := cd) (maxL := mL) (ret := none) hy rfl ?_
  intro p e s m args below meth c s₁ B hml hv
  obtain ⟨rfl, ⟨h1, h2, h3, h4⟩, h5⟩ := hv
  have hts := atoms_spec (ws := .code y cd mL none :: tT) B.pre
  rw [lg_entry_eq]
  exact body p e s m below meth c _ ⟨B.exec, B.bytes, findClass_of_methodNamed B.named, fun w hw => hts w (List.mem_cons_of_mem _ hw), h1, h2, h3⟩ h5 (name_of_methodNamed B.named B.method).1 B.returns B.notSynchronized hml h4 va_S.rf (lv_entry as hn)
section PD
variable {p : Program} {l : Launch} {e : Env} {Rm : Room} {s : State} {m : MethodId} {args : Array Value} {below : List Frame} {meth : Method} {c : Code} {H : Heap} {locs : List Loc} {cells slots : Nat} {Q : State → Prop}
variable {cc : ByteArray} {own : String} {pc : Nat} {ls : Array Slot} {rest : List Value} {g : Gm} {M : Nat → Int} {ρ : Nat → Option Nat}
theorem yd_end {g0 : Gm} {P : (Nat → Int) → Prop} {ρ1 ρ' : Nat → Option Nat} {n' : Nat} (hX : GX g0 g) (C : Cx g p c m s args cc own) (hr : meth.sig.returnType = none) (hlk : meth.locks = false) (hw : Wo g M H) (hS : va_S (ar g) s.heap H locs) (hR : Rr g ρ1) (hN : gN g = n') (hP : P M) (hρ : ρ1 = ρ') (hdg : decode cc pc = .ok (.return_, 1)) :
    W p l e Rm s m args below meth c H locs cells slots (MQ below (postD g0 P ρ' n') args s cells slots (ar g0)) (F0 m pc ls []) := by
  subst hρ
  rw [hX.ar] at hS
  exact W.vret C.1 C.2.1 hr (fun t ht _ => ⟨⟨(g, M), rfl, ⟨hX, hN, hR, hP⟩, by show Wo g M t.heap; rw [ht]; exact hw⟩, hS.F ht⟩) hS.2.2 hdg hlk
theorem yd_call {y : MethodName} {cd : ByteArray} {mL nL idx : Nat} {rm : Room} {P : (Nat → Int) → Prop} {ρ' : Nat → Option Nat} {n' : Nat} (C : Cx g p c m s args cc own) (hA : AOs s) (hw : Wo g M H) (hS : va_S (ar g) s.heap H locs) (hml : c.maxLocals = nL) (hls : ls.size = nL) (k : Nat) (hM : CD l y cd mL rm g M [.ref (gA g k)] P ρ' n')
    (m1 : Cond.methodLinkNest own idx y "RatedBySighs" ∈ lw_tbl) (m2 : Cond.instanceMethod y ∈ tT) (m4 : Cond.initialized y.cls ∈ tT) (m5 : Cond.code y cd mL none ∈ tT) (hy : y.name = "<init>") (hd : y.cls ≠ "java/lang/invoke/MethodHandle" ∧ y.cls ≠ "java/lang/invoke/VarHandle" ∧ (parseMethodDescriptor y.desc).map (fun d => d.parameters.length) = some 0) (hRm : rm.frames + 1 ≤ Rm.frames ∧ 8 + (mL + 11) + rm.locals ≤ Rm.locals)
    (hW : (rest.map fun v => v.category).sum ≤ 8) (hdg : decode cc pc = .ok (.invokespecial idx, 3)) (hf : cells + rm.cells ≤ Rm.cells ∧ slots + rm.slots ≤ Rm.slots)
    (kk : ∀ (g' : Gm) (M' : Nat → Int) (H1 : Heap) (locs1 : List Loc), GX g g' → gN g' = n' → Rr g' ρ' → P M' → Cx g' p c m s args cc own → Wo g' M' H1 → va_S (ar g') s.heap H1 locs1 → W p l e Rm s m args below meth c H1 locs1 (cells + rm.cells) (slots + rm.slots) Q (F0 m (pc + 3) ls rest)) : W p l e Rm s m args below meth c H locs cells slots Q (F0 m pc ls (.ref (gA g k) :: rest)) := by
  refine va_callv (va_runIN (Ts := tT) ⟨C.1, C.2.1, hml, C.2.2.1, C.2.2.2.1⟩ hM ⟨va_cnB 0 C.2.2.2.1 (tT_sub (fun w h => (List.mem_cons.mp h).elim (fun e => e ▸ m5) id)) rfl rfl rfl (C.nest m1 rfl) (C.2.2.2.1 _ m4) hd hRm, hy, C.2.2.2.1 _ m2⟩ ⟨WdA.blind, fun U hU hW => ⟨rfl, C.wd hS hw hU hW, hA.moved hW.alike⟩⟩ rfl rfl hls rfl (lv_room hW) hdg hf) hS (fun _ _ h => h) (fun _ h => h) (fun u t H1 locs1 ht _ hp hB _ _ hS1 => ?_)
  exact kk u.1 u.2 H1 locs1 hp.1 hp.2.1 hp.2.2.1 hp.2.2.2 (hp.1.cx C) (ht ▸ hB) (by rw [hp.1.ar]; exact hS1)
end PD
theorem Fr.mR {M : Nat → Int} {ρ : Nat → Option Nat} {b k N : Nat} (h : Fr M ρ b) (hk : k < b) (hN : N < 1000) : Fr M (mulR ρ k N) b := fun n hn => ⟨(h n hn).1, by rw [mulR_n (by omega)]; exact (h n hn).2⟩
theorem stR_c {ρ ρ' : Nat → Option Nat} {n q k : Nat} (h : ρ k = ρ' k) : stR ρ n q k = stR ρ' n q k := by unfold stR; rw [h]
theorem mulR_c {ρ ρ' : Nat → Option Nat} {a N k : Nat} (h : ρ k = ρ' k) : mulR ρ a N k = mulR ρ' a N k := by unfold mulR; rw [h]
