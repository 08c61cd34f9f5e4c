/-! multianewarray of two dimensions out of the machine's own words: an array of N rows of K ints each -/
def mnO (h i : Nat) : Nat → Value := fun j => if j < i then .ref (h + 1 + j) else .null
theorem mnO_next (cA : ClassId) (N h i : Nat) : (arrV cA N (mnO h i)).setSlot i (.ref (h + 1 + i)) = arrV cA N (mnO h (i + 1)) := by
  rw [arrV_store]
  refine congrArg (arrV cA N) (funext fun j => ?_)
  unfold updV mnO
  by_cases e : j = i
  · rw [if_pos e, if_pos (by omega), e]
  · rw [if_neg e]
    by_cases h1 : j < i
    · rw [if_pos h1, if_pos (by omega)]
    · rw [if_neg h1, if_neg (by omega)]
/-- what has been reached after i rows: F has grown out of T -/
def mnI (T F : State) (cA cy : ClassId) (N K i : Nat) : Prop := F.vm = T.vm ∧ F.heap.size = T.heap.size + 1 + i ∧ F.slotsUsed = T.slotsUsed + N + i * K ∧ (∀ x : Nat, x < T.heap.size → F.heap[x]? = T.heap[x]?) ∧ F.heap[T.heap.size]? = some (arrV cA N (mnO T.heap.size i)) ∧ ∀ j : Nat, j < i → F.heap[T.heap.size + 1 + j]? = some (arrV cy K (fun _ => .int 0))
theorem mnI_0 (T : State) (cA cy : ClassId) (N K : Nat) : mnI T (T.pushCell (arrV cA N (mnO T.heap.size 0))) cA cy N K 0 := by
  refine ⟨rfl, by simp, ?_, fun x hx => State.heap_pushCell_of_lt _ _ hx, State.heap_pushCell_size _ _, fun j hj => absurd hj (Nat.not_lt_zero _)⟩
  have h := arrV_size cA N (mnO T.heap.size 0)
  simp [h]
theorem mnI_s {T F : State} {cA cy : ClassId} {N K i : Nat} (h : mnI T F cA cy N K i) : mnI T ((F.pushCell (arrV cy K (fun _ => .int 0))).setCell T.heap.size (arrV cA N (mnO T.heap.size (i + 1)))) cA cy N K (i + 1) := by
  obtain ⟨a1, a2, a3, a4, a5, a6⟩ := h
  have hz := arrV_size cy K (fun _ => .int 0)
  have h0 : T.heap.size < F.heap.size := by rw [a2]; omega
  have h1 : (F.pushCell (arrV cy K (fun _ => .int 0))).heap[T.heap.size]? = some (arrV cA N (mnO T.heap.size i)) := (State.heap_pushCell_of_lt _ _ h0).trans a5
  refine ⟨a1, ?_, ?_, fun x hx => ?_, State.heap_setCell_self h1, fun j hj => ?_⟩
  · simp [State.setCell, a2]
    omega
  · have e : (i + 1) * K = i * K + K := Nat.succ_mul i K
    simp [a3, hz, e]
    omega
  · rw [State.heap_setCell_other (Nat.ne_of_gt hx), State.heap_pushCell_of_lt _ _ (Nat.lt_trans hx h0)]
    exact a4 x hx
  · rw [State.heap_setCell_other (show T.heap.size ≠ T.heap.size + 1 + j by omega)]
    by_cases e : j = i
    · rw [e, ← a2]
      exact State.heap_pushCell_size _ _
    · rw [State.heap_pushCell_of_lt _ _ (show T.heap.size + 1 + j < F.heap.size by omega)]
      exact a6 j (by omega)
section MN
variable {Ec : CtlPost} {e : Env} {d : Bool} {acts : List Action} {U : State}
theorem mn_new {cA comp : ClassId} {kc : Class} {ty : FieldType} {n : Nat} {x : Value} {Q : Addr → Pre} (hk : U.vm.classes[cA]? = some kc) (hkd : kc.kind = .array comp ty) (hl : n ≤ e.platform.arrayLengthLimit) (hb : n * componentBytes ty ≤ e.platform.maxHeapBytes) (hf : fits ty x = true) (h1 : U.heap.size < e.platform.maxCells) (h2 : U.slotsUsed + n ≤ e.platform.maxSlots)
    (hq : ∀ acts', Q U.heap.size d acts' (U.pushCell (arrV cA n (fun _ => x)))) : wp (Jvm.newArray cA n x) Q Ec e d acts U := by
  have b1 : ¬ n > e.platform.arrayLengthLimit := by omega
  have b2 : ¬ n * componentBytes ty > e.platform.maxHeapBytes := by omega
  have b3 : ¬ n > e.platform.maxSlots := by omega
  have hfit : ∀ (i : Nat) (v : Value), (Array.replicate n x)[i]? = some v → U.fitsSlot cA .none i v = true := fun i v hv => by
    have hx : v = x := by
      rw [Array.getElem?_replicate] at hv
      split at hv
      · exact (Option.some.inj hv).symm
      · cases hv
    rw [hx]
    simp [State.fitsSlot, State.slotType?, hk, hkd, hf]
  unfold Jvm.newArray Jvm.arrayFits
  simp only [wp_bind', W.ask, W.ite, b1, b3, if_false, wp_pure', W.theClass, W.stop]
  refine ⟨kc, hk, ?_⟩
  simp only [hkd, wp_bind', W.ask, W.ite, b2, b3, if_false, wp_pure', W.alloc, Array.size_replicate]
  refine ⟨h1, h2, hfit, ?_⟩
  rw [arrV_new]
  exact hq _
theorem mn_row {cy cc : ClassId} {kc : Class} {k : Int32} {K : Nat} {Q : Addr → Pre} (hk : U.vm.classes[cy]? = some kc) (hkd : kc.kind = .array cc .int) (h0 : ¬ k < 0) (hK : k.toNatClampNeg = K) (hl : K ≤ e.platform.arrayLengthLimit) (hb : K * 4 ≤ e.platform.maxHeapBytes) (h1 : U.heap.size < e.platform.maxCells) (h2 : U.slotsUsed + K ≤ e.platform.maxSlots)
    (hq : ∀ acts', Q U.heap.size d acts' (U.pushCell (arrV cy K (fun _ => .int 0)))) : wp (multianewarray.make cy [k]) Q Ec e d acts U := by
  rw [multianewarray.make]
  simp only [wp_bind', W.ite, h0, if_false, wp_pure', W.theClass]
  refine ⟨kc, hk, ?_⟩
  simp only [hkd]
  rw [hK]
  exact mn_new hk hkd hl hb rfl h1 h2 hq
end MN
section MS
variable {p : Program} {l : Launch} {e : Env} {Rm : Room} {s : State} {m : MethodId} {args : Array Value} {below : List Frame} {meth : Method} {c : Code} {T : State} {locs : List Loc} {cells slots : Nat}
theorem mn_loop {cA cy : ClassId} {N K : Nat} (b : Nat → PUnit → Sem (ForInStep PUnit)) (f : JFrame) (hsz : s.heap.size ≤ T.heap.size)
    (hb : ∀ (Ec : CtlPost) (i : Nat) (U : State) (d : Bool) (acts : List Action) (Q : ForInStep PUnit → Pre), i < N → U.vm = T.vm → U.heap.size = T.heap.size + 1 + i → U.heap.size < e.platform.maxCells → U.slotsUsed + K ≤ e.platform.maxSlots → U.heap[T.heap.size]? = some (arrV cA N (mnO T.heap.size i)) → (∀ d' acts', Q (.yield PUnit.unit) d' acts' ((U.pushCell (arrV cy K (fun _ => .int 0))).setCell T.heap.size (arrV cA N (mnO T.heap.size (i + 1))))) → wp (b i PUnit.unit) Q Ec e d acts U)
    (hC : T.heap.size + 1 + N ≤ e.platform.maxCells) (hSl : T.slotsUsed + N + N * K ≤ e.platform.maxSlots) : ∀ (r i : Nat) (F : State), i + r = N → mnI T F cA cy N K i → Stand p l e Rm s m args below meth c F locs (cells + 1 + i) (slots + N + i * K) →
      ∃ G, mnI T G cA cy N K N ∧ Stand p l e Rm s m args below meth c G locs (cells + 1 + N) (slots + N + N * K) ∧ ∀ (Ec : CtlPost) (Q : PUnit → Pre) (d : Bool) (acts : List Action), (∀ d' acts', Q PUnit.unit d' acts' (G.setTop f)) → wp (forIn (List.range' i r 1) PUnit.unit b) Q Ec e d acts (F.setTop f)
  | 0, i, F, hi, hI, X => by
    have hi : i = N := hi
    subst hi
    refine ⟨F, hI, X, fun Ec Q d acts hq => ?_⟩
    rw [List.range'_zero, List.forIn_nil, wp_pure']
    exact hq _ _
  | r + 1, i, F, hi, hI, X => by
    obtain ⟨a1, a2, a3, a4, a5, a6⟩ := hI
    have h0 : T.heap.size < F.heap.size := by rw [a2]; omega
    have hm : i * K + K ≤ N * K := by
      rw [← Nat.succ_mul]
      exact Nat.mul_le_mul_right K (by omega)
    have X1 := (X.pushed (arrV cy K (fun _ => .int 0))).stored (a := T.heap.size) ((State.heap_pushCell_of_lt _ _ h0).trans a5) i (.ref (T.heap.size + 1 + i))
    rw [mnO_next, arrV_size] at X1
    have X2 := X1.dropFresh (fun x hx => by rw [List.mem_singleton.mp hx]; exact hsz)
    rw [show cells + 1 + i + 1 = cells + 1 + (i + 1) by omega, show slots + N + i * K + K = slots + N + (i + 1) * K by rw [Nat.succ_mul]; omega] at X2
    obtain ⟨G, b1, b2, b3⟩ := mn_loop b f hsz hb hC hSl r (i + 1) _ (by omega) (mnI_s ⟨a1, a2, a3, a4, a5, a6⟩) X2
    refine ⟨G, b1, b2, fun Ec Q d acts hq => ?_⟩
    rw [List.range'_succ, List.forIn_cons, wp_bind']
    exact hb Ec i (F.setTop f) d acts _ (by omega) a1 a2 (by show F.heap.size < _; omega) (by show F.slotsUsed + K ≤ _; omega) a5 (fun d' acts' => b3 Ec Q d' acts' hq)
/-- what the machine does for one row -/
def mnB (h : Addr) (cy : ClassId) (k : Int32) : Nat → PUnit → Sem (ForInStep PUnit) := fun i _ => do
  let q ← multianewarray.make cy [k]
  writeLoc h i (.ref q)
  Pure.pure (ForInStep.yield PUnit.unit)
theorem mn_make {cA cy cc : ClassId} {k0 kc : Class} {N K : Nat} {n k : Int32} (f : JFrame) (X : Stand p l e Rm s m args below meth c T locs cells slots) (hk : T.vm.classes[cA]? = some k0) (hkd : k0.kind = .array cy (.array .int)) (hkc : T.vm.classes[cy]? = some kc) (hkcd : kc.kind = .array cc .int) (hn0 : ¬ n < 0) (hk0 : ¬ k < 0) (hN : n.toNatClampNeg = N) (hK : k.toNatClampNeg = K)
    (l1 : N ≤ e.platform.arrayLengthLimit) (l2 : N * 4 ≤ e.platform.maxHeapBytes) (l3 : K ≤ e.platform.arrayLengthLimit) (l4 : K * 4 ≤ e.platform.maxHeapBytes) (hC : T.heap.size + 1 + N ≤ e.platform.maxCells) (hSl : T.slotsUsed + N + N * K ≤ e.platform.maxSlots) :
    ∃ G, mnI T G cA cy N K N ∧ Stand p l e Rm s m args below meth c G locs (cells + 1 + N) (slots + N + N * K) ∧ ∀ (Ec : CtlPost) (Q : Addr → Pre) (d : Bool) (acts : List Action), (∀ d' acts', Q T.heap.size d' acts' (G.setTop f)) → wp (multianewarray.make cA [n, k]) Q Ec e d acts (T.setTop f) := by
  have X0 := X.pushed (arrV cA N (mnO T.heap.size 0))
  rw [arrV_size] at X0
  have hb : ∀ (Ec : CtlPost) (i : Nat) (U : State) (d : Bool) (acts : List Action) (Q : ForInStep PUnit → Pre), i < N → U.vm = T.vm → U.heap.size = T.heap.size + 1 + i → U.heap.size < e.platform.maxCells → U.slotsUsed + K ≤ e.platform.maxSlots → U.heap[T.heap.size]? = some (arrV cA N (mnO T.heap.size i)) → (∀ d' acts', Q (.yield PUnit.unit) d' acts' ((U.pushCell (arrV cy K (fun _ => .int 0))).setCell T.heap.size (arrV cA N (mnO T.heap.size (i + 1))))) → wp (mnB T.heap.size cy k i PUnit.unit) Q Ec e d acts U := by
    intro Ec i U d acts Q hi hv hs h1 h2 hc hq
    unfold mnB
    simp only [wp_bind']
    refine mn_row (by rw [hv]; exact hkc) hkcd hk0 hK l3 l4 h1 h2 (fun acts' => ?_)
    simp only [wp_bind', W.writeLoc, wp_pure']
    have h0 : T.heap.size < U.heap.size := by omega
    refine ⟨arrV cA N (mnO T.heap.size i), (State.heap_pushCell_of_lt _ _ h0).trans hc, by simp [arrV], by rw [arrV_size]; exact hi, ?_, ?_⟩
    · simp [State.fitsSlot, State.slotType?, arrV, hv, hk, hkd]
      rfl
    · rw [hs, mnO_next]
      exact hq _ _
  obtain ⟨G, b1, b2, b3⟩ := mn_loop (cA := cA) (cy := cy) (N := N) (K := K) _ f X.heapGrown hb hC hSl N 0 _ (by omega) (mnI_0 T cA cy N K) (by rw [Nat.zero_mul]; exact X0)
  refine ⟨G, b1, b2, fun Ec Q d acts hq => ?_⟩
  have hfind : ([k].find? (· < 0)) = none := by simp [hk0]
  rw [multianewarray.make]
  simp only [wp_bind', W.ite, hn0, if_false, wp_pure', W.theClass]
  refine ⟨k0, hk, ?_⟩
  simp only [hkd, hN, wp_bind']
  refine mn_new (ty := .array .int) hk hkd l1 l2 rfl (by show T.heap.size < _; omega) (by show T.slotsUsed + N ≤ _; omega) (fun acts' => ?_)
  simp only [hfind, ite_self, wp_bind', wp_pure', Std.Legacy.Range.forIn_eq_forIn_range', Std.Legacy.Range.size]
  have e2 : mnO T.heap.size 0 = fun _ => Value.null := funext fun j => if_neg (Nat.not_lt_zero j)
  rw [show (N - 0 + 1 - 1) / 1 = N by omega]
  rw [e2] at b3
  refine b3 Ec _ d acts' (fun d2 acts2 => ?_)
  rw [wp_pure']
  exact hq d2 acts2
theorem mn_over {args : Array Value} {s : State} (h : (Cond.arrayOver (.array .int)).before args s = true) : ∃ (cy cA : ClassId) (k : Class), s.vm.findClass (FieldType.array .int).toString = some cy ∧ s.vm.classes[cA]? = some k ∧ k.kind = .array cy (.array .int) ∧ s.vm.findClass ("[" ++ (FieldType.array .int).toString) = some cA := by
  simp only [Cond.before, Cond.holds, Cond.value, beq_iff_eq] at h
  obtain ⟨cy, hy, h⟩ := Option.bind_eq_some_iff.mp h
  obtain ⟨cA, hi, h⟩ := Option.bind_eq_some_iff.mp h
  obtain ⟨k, hk, h⟩ := Option.map_eq_some_iff.mp h
  obtain ⟨hlt, hp, -⟩ := Array.findIdx?_eq_some_iff_getElem.mp hi
  rw [(Array.getElem?_eq_some_iff.mp hk).2] at hp
  refine ⟨cy, cA, k, hy, hk, ?_⟩
  cases hq : k.kind with
  | array cq ty =>
    rw [hq] at hp h
    simp at hp h
    exact ⟨by rw [hp, h.1], h.2⟩
  | _ => rw [hq] at h; simp at h
theorem z_mna (X : Stand p l e Rm s m args below meth c T locs cells slots) (hexec : p.tables.exec = Jvm.exec) {own : String} {idx : Nat} (hown : s.vm.findClass own = some m.cls) (hcl : (Cond.classLink own idx ("[" ++ (FieldType.array .int).toString)).before args s = true) (hov : (Cond.arrayOver (.array .int)).before args s = true) (har : (Cond.arrayClass .int).before args s = true)
    {pc : Nat} {ls : Array Slot} {rest : List Value} {N K : Nat} {n k : Int32} (hdg : decode c.code pc = .ok (.multianewarray idx 2, 4)) (hn0 : ¬ n < 0) (hk0 : ¬ k < 0) (hN : n.toNatClampNeg = N) (hK : k.toNatClampNeg = K) (hN2 : N < 1000) (hK2 : K < 1000) (hcells : cells + (1 + N) ≤ Rm.cells) (hslots : slots + (N + N * K) ≤ Rm.slots) :
    ∃ (cA cy : ClassId) (G : State), s.vm.findClass ("[" ++ (FieldType.array .int).toString) = some cA ∧ s.vm.findClass (FieldType.array .int).toString = some cy ∧ G.heap.size = T.heap.size + 1 + N ∧ (∀ x : Nat, x < T.heap.size → G.heap[x]? = T.heap[x]?) ∧ G.heap[T.heap.size]? = some (arrV cA N (mnO T.heap.size N)) ∧ (∀ j : Nat, j < N → G.heap[T.heap.size + 1 + j]? = some (arrV cy K (fun _ => .int 0))) ∧
      Stand p l e Rm s m args below meth c G locs (cells + 1 + N) (slots + N + N * K) ∧ ∀ t, Steps p.tables e below (G.setTop (F0 m (pc + 4) ls (.ref T.heap.size :: rest))) t → Steps p.tables e below (T.setTop (F0 m pc ls (.int k :: .int n :: rest))) t := by
  have hpl : e.platform.magicAccessors = ({} : Platform).magicAccessors := by rw [X.admits.platform]
  obtain ⟨cy, cA, kA, f1, k1, q1, f2⟩ := mn_over hov
  obtain ⟨cz, kC, cc, f3, k2, q2⟩ := Cond.arrayClass_spec har
  have e1 : cz = cy := Option.some.inj (f3.symm.trans f1)
  subst e1
  obtain ⟨c0, f4, hln⟩ := Cond.classLink_spec hown hcl e.platform hpl
  have e2 : c0 = cA := Option.some.inj (f4.symm.trans f2)
  subst e2
  obtain ⟨g1, w1, r1⟩ := State.classEntry (e := e) X.warmed hln
  generalize T.vm.noted m.cls idx (.cls c0) = vm₁ at g1 w1 r1
  obtain ⟨kA1, hA1, eA1⟩ := w1.alike.2.2 _ _ k1
  obtain ⟨kC1, hC1, eC1⟩ := w1.alike.2.2 _ _ k2
  obtain ⟨z1, z2⟩ := X.roomAbove hcells hslots
  have y1 := Launch.admits_arrayLengthLimit X.admits
  have y2 := Launch.admits_maxHeapBytes X.admits
  have X1 : Stand p l e Rm s m args below meth c (T.setVm vm₁) locs cells slots := X.noted w1
  obtain ⟨G, b1, b2, b3⟩ := mn_make (T := T.setVm vm₁) (F0 m pc ls rest) X1 hA1 (by rw [eA1]; exact q1) hC1 (by rw [eC1]; exact q2) hn0 hk0 hN hK (by rw [y1]; omega) (by rw [y2]; omega) (by rw [y1]; omega) (by rw [y2]; omega) (by show T.heap.size + 1 + N ≤ _; omega) (by show T.slotsUsed + N + N * K ≤ _; omega)
  obtain ⟨-, a2, -, a4, a5, a6⟩ := b1
  refine ⟨c0, cz, G, f2, f1, a2, a4, a5, a6, b2, fun t ht => ?_⟩
  jvm_step X.here [hexec, hdg]
  simp only [multianewarray.sem, wp_bind', W.resolveClassAt_links (State.method?_setTop (F0 m pc ls (.int k :: .int n :: rest)) X.here.top) g1]
  rw [W.popN, if_neg (by decide)]
  refine ⟨F0 m pc ls (.int k :: .int n :: rest), State.topJava?_setTop' (s := T.setVm vm₁) _ X1.here.top, [.int n, .int k], rest, rfl, rfl, ?_⟩
  simp only [List.mapM_cons, List.mapM_nil, wp_bind', wp_pure']
  have e3 : ((T.setTop (F0 m pc ls (.int k :: .int n :: rest))).setVm vm₁).setTop (F0 m pc ls rest) = (T.setVm vm₁).setTop (F0 m pc ls rest) := by
    show ((T.setVm vm₁).setTop _).setTop _ = _
    rw [State.setTop_setTop]
  rw [e3]
  refine b3 _ _ _ _ (fun d' acts' => ?_)
  simp only [wp_bind', W.mark, W.pushRef, State.topJava?_setTop' _ b2.here.top, Option.some.injEq, exists_eq_left', State.setTop_setTop]
  intro acts2
  simp [jvm, b2.here.top]
  exact ht
end MS
