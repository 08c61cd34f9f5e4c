/-! making: the geometry grows. g' comes after g: places of g keep their addresses -/
def GX (g g' : Gm) : Prop := gD g' = gD g ∧ gC g' = gC g ∧ gB g' = gB g ∧ gX g' = gX g ∧ gN g ≤ gN g' ∧ ∀ k, k < gN g → gA g' k = gA g k
theorem GX.refl {g : Gm} : GX g g := ⟨rfl, rfl, rfl, rfl, Nat.le_refl _, fun _ _ => rfl⟩
theorem GX.trans {g g' g'' : Gm} (h1 : GX g g') (h2 : GX g' g'') : GX g g'' := by
  obtain ⟨a1, a2, a3, a4, a5, a6⟩ := h1
  obtain ⟨b1, b2, b3, b4, b5, b6⟩ := h2
  exact ⟨b1.trans a1, b2.trans a2, b3.trans a3, b4.trans a4, Nat.le_trans a5 b5, fun k hk => (b6 k (Nat.lt_of_lt_of_le hk a5)).trans (a6 k hk)⟩
theorem GX.A {g g' : Gm} (h : GX g g') {k : Nat} (hk : k < gN g) : gA g k = gA g' k := (h.2.2.2.2.2 k hk).symm
theorem GX.ar {g g' : Gm} (h : GX g g') : ar g' = ar g := by
  unfold Pilot.CRatedBySighsLaw_law_r3387_9c704d.ar
  rw [h.2.2.1]
def stR (ρ : Nat → Option Nat) (n q : Nat) : Nat → Option Nat := fun k => if k = n then some q else ρ k
theorem stR_s {ρ : Nat → Option Nat} {n q : Nat} : stR ρ n q n = some q := if_pos rfl
theorem stR_n {ρ : Nat → Option Nat} {n q k : Nat} (h : k ≠ n) : stR ρ n q k = ρ k := if_neg h
/-- the references of g, by places -/
def Rr (g : Gm) (ρ : Nat → Option Nat) : Prop := (∀ n, gR g n = (ρ n).map (gA g)) ∧ ∀ n q, ρ n = some q → q < gN g
/-- nothing has been put from place b on -/
def Fr (M : Nat → Int) (ρ : Nat → Option Nat) (b : Nat) : Prop := ∀ n, 1000 * b ≤ n → M n = 0 ∧ ρ n = none
theorem Fr.up {M : Nat → Int} {ρ : Nat → Option Nat} {b b' : Nat} (h : Fr M ρ b) (hb : b ≤ b') : Fr M ρ b' := fun n hn => h n (by omega)
theorem Fr.st {M : Nat → Int} {ρ : Nat → Option Nat} {b n : Nat} {x : Int} (h : Fr M ρ b) (hn : n < 1000 * b) : Fr (stM M n x) ρ b := fun k hk => ⟨by rw [st_n (by omega)]; exact (h k hk).1, (h k hk).2⟩
theorem Fr.sR {M : Nat → Int} {ρ : Nat → Option Nat} {b n q : Nat} (h : Fr M ρ b) (hn : n < 1000 * b) : Fr M (stR ρ n q) b := fun k hk => ⟨(h k hk).1, by rw [stR_n (by omega)]; exact (h k hk).2⟩
theorem st_same {M : Nat → Int} {n : Nat} {x : Int} (h : M n = x) : stM M n x = M := by
  funext k
  unfold stM
  split
  · rename_i e; rw [e, h]
  · rfl
theorem Rr.ref {g : Gm} {ρ : Nat → Option Nat} (h : Rr g ρ) {n q : Nat} (e : ρ n = some q) : gR g n = some (gA g q) := by rw [h.1, e]; rfl
/-- one more place -/
def gPush (g : Gm) (a : Nat) : Gm := (gD g, gC g, gB g, gN g + 1, (fun k => if k = gN g then a else gA g k), gR g, gX g)
theorem gPush_X {g : Gm} {a : Nat} : GX g (gPush g a) := ⟨rfl, rfl, rfl, rfl, Nat.le_succ _, fun k hk => if_neg (Nat.ne_of_lt hk)⟩
theorem gPush_R {g : Gm} {a : Nat} {ρ : Nat → Option Nat} (h : Rr g ρ) : Rr (gPush g a) ρ := by
  refine ⟨fun n => ?_, fun n q e => Nat.lt_succ_of_lt (h.2 n q e)⟩
  show gR g n = (ρ n).map (gA (gPush g a))
  rw [h.1]
  cases e : ρ n with
  | none => rfl
  | some q => exact congrArg some (gPush_X.A (h.2 n q e))
theorem wsl_push {g : Gm} {a : Nat} {M : Nat → Int} : wsl (gPush g a) M = wsl g M ++ [(a, cellE (gC g) (gR g) M (gN g))] := by
  unfold wsl
  show (List.range (gN g + 1)).map _ = _
  rw [List.range_succ, List.map_append]
  congr 1
  · apply List.map_congr_left
    intro k hk
    have hk := List.mem_range.mp hk
    show ((if k = gN g then a else gA g k), _) = _
    rw [if_neg (Nat.ne_of_lt hk)]
    rfl
  · show [((if gN g = gN g then a else gA g (gN g)), _)] = _
    rw [if_pos rfl]
    rfl
theorem Wo.push {g : Gm} {a : Nat} {M : Nat → Int} {H H1 : Heap} (hw : Wo g M H) {e : va_E} (he : cellE (gC g) (gR g) M (gN g) = e) (hP : va_P (gD g) vwCl (wsl g M ++ [(a, e)]) H1) (hD : va_D (ar g) (wsl g M ++ [(a, e)])) : Wo (gPush g a) M H1 := by
  subst he
  rw [← wsl_push] at hP hD
  exact ⟨hP, hD, hw.2.2⟩
/-- a reference is put -/
def upR (R : Nat → Option Nat) (n a : Nat) : Nat → Option Nat := fun i => if i = n then some a else R i
def gSetR (g : Gm) (n a : Nat) : Gm := (gD g, gC g, gB g, gN g, gA g, upR (gR g) n a, gX g)
theorem gSetR_X {g : Gm} {n a : Nat} : GX g (gSetR g n a) := ⟨rfl, rfl, rfl, rfl, Nat.le_refl _, fun _ _ => rfl⟩
theorem gSetR_R {g : Gm} {n q : Nat} {ρ : Nat → Option Nat} (h : Rr g ρ) (hq : q < gN g) : Rr (gSetR g n (gA g q)) (stR ρ n q) := by
  refine ⟨fun i => ?_, fun i x e => ?_⟩
  · show (if i = n then some (gA g q) else gR g i) = (if i = n then some q else ρ i).map (gA g)
    by_cases e : i = n
    · rw [if_pos e, if_pos e]; rfl
    · rw [if_neg e, if_neg e]; exact h.1 i
  · unfold stR at e
    split at e
    · cases e; exact hq
    · exact h.2 i x e
theorem objs_sR {R : Nat → Option Nat} {M : Nat → Int} {ci k n a : Nat} (h : n / 1000 ≠ k) : objs (upR R n a) M ci k = objs R M ci k := by
  unfold objs
  apply List.map_congr_left
  intro j hj
  have hj := List.mem_range.mp hj
  have := tg_le ci
  have hne : 1000 * k + j ≠ n := by omega
  unfold sv
  split <;> simp [upR, hne]
theorem arR_sR {R : Nat → Option Nat} {k n a : Nat} (h : n / 1000 ≠ k) : arR (upR R n a) k = arR R k := by
  funext j
  unfold arR
  by_cases hj : j < 1000
  · rw [if_pos hj, if_pos hj]; exact if_neg (by omega)
  · rw [if_neg hj, if_neg hj]
theorem cellE_sR {ca : Nat → ClassId} {R : Nat → Option Nat} {M : Nat → Int} {k n a : Nat} (h : n / 1000 ≠ k) : cellE ca (upR R n a) M k = cellE ca R M k := by
  unfold cellE
  rw [objs_sR h, arR_sR h]
theorem wsl_sR {g : Gm} {M : Nat → Int} {k n a : Nat} {q : Nat × va_E} (h : k < gN g) (hn : n / 1000 = k) (hq : q = (gA g k, cellE (gC g) (upR (gR g) n a) M k)) : (wsl g M).set k q = wsl (gSetR g n a) M := by
  apply List.ext_getElem?
  intro i
  by_cases hi : i < gN g
  · by_cases e : i = k
    · subst e
      rw [List.getElem?_set_self (by simpa [wsl] using hi), wsl_get (g := gSetR g n a) hi, hq]
      rfl
    · rw [List.getElem?_set_ne (Ne.symm e), wsl_get hi, wsl_get (g := gSetR g n a) hi]
      show some (gA g i, cellE (gC g) (gR g) M i) = some (gA g i, cellE (gC g) (upR (gR g) n a) M i)
      rw [cellE_sR (by omega)]
  · rw [List.getElem?_eq_none (by simpa [wsl] using hi), List.getElem?_eq_none (by simpa [wsl, gSetR] using hi)]
theorem objs_setR {R : Nat → Option Nat} {M : Nat → Int} {ci k j a : Nat} (h : j < (tg ci).length) (ht : (tg ci).getD j 0 = 1) : (objs R M ci k).set j (.ref a) = objs (upR R (1000 * k + j) a) M ci k := by
  apply List.ext_getElem?
  intro i
  by_cases hi : i < (tg ci).length
  · by_cases e : i = j
    · subst e
      rw [List.getElem?_set_self (by rw [objs_len]; exact hi), objs_get hi, ht]
      show _ = some (va_rf (upR R (1000 * k + i) a (1000 * k + i)))
      unfold upR
      rw [if_pos rfl]
      rfl
    · rw [List.getElem?_set_ne (Ne.symm e), objs_get hi, objs_get hi]
      unfold sv
      split <;> simp [upR, e]
  · rw [List.getElem?_eq_none (by rw [List.length_set, objs_len]; omega), List.getElem?_eq_none (by rw [objs_len]; omega)]
theorem arR_set {R : Nat → Option Nat} {k j a : Nat} (h : j < 1000) : va_up (arR R k) j (some a) = arR (upR R (1000 * k + j) a) k := by
  funext i
  unfold va_up arR
  by_cases e : i = j
  · subst e
    rw [if_pos rfl, if_pos h]
    exact (if_pos rfl).symm
  · rw [if_neg e]
    by_cases hi : i < 1000
    · rw [if_pos hi, if_pos hi]
      exact (if_neg (by omega)).symm
    · rw [if_neg hi, if_neg hi]
def svd (t : Nat) : Value := match t with
  | 0 => .int 0
  | 1 => .null
  | _ => .long 0
theorem sv_0 {R : Nat → Option Nat} {M : Nat → Int} {t n : Nat} (h1 : M n = 0) (h2 : R n = none) : sv R M t n = svd t := by
  rcases t with _ | _ | t
  · show Value.int (II (M n)) = _; rw [h1]; rfl
  · show va_rf (R n) = _; rw [h2]; rfl
  · show Value.long (LL (M n)) = _; rw [h1]; rfl
/-! what the tables say of arrays of references, kept -/
theorem aoa_moved {t : FieldType} {u U : State} (hvm : u.vm.Alike U.vm) (h : va_Nw (Cond.arrayOver (.array t)) u) : va_Nw (Cond.arrayOver (.array t)) U := by
  unfold va_Nw Cond.before Cond.holds at h ⊢
  simp only [Cond.value, beq_iff_eq, Option.bind_eq_some_iff, Option.map_eq_some_iff] at h ⊢
  obtain ⟨a, h1, c, h2, k, h3, h4⟩ := h
  obtain ⟨k', hk', he⟩ := hvm.2.2 _ _ h3
  refine ⟨a, by rw [hvm.findClass]; exact h1, c, ?_, k', hk', ?_⟩
  · have e1 := va_idx_bare U.vm a
    have e2 := va_idx_bare u.vm a
    have eb : U.vm.bare = u.vm.bare := by first | exact hvm.bare_eq | exact hvm.bare_eq.symm
    rw [eb] at e1
    exact e1.symm.trans (e2.trans h2)
  · rw [he, hvm.findClass]
    exact h4
def AOs (U : State) : Prop := va_AO "RatedBySighs$Person" U ∧ va_AO "RatedBySighs$Sheet" U ∧ va_Nw (Cond.arrayOver (.array .int)) U
theorem AOs.moved {u U : State} (hvm : u.vm.Alike U.vm) (h : AOs u) : AOs U := ⟨h.1.moved hvm, h.2.1.moved hvm, aoa_moved hvm h.2.2⟩
/-! contracts of constructors -/
def pstQ (g : Gm) (M' : Nat → Int) (ρ' : Nat → Option Nat) (n' : Nat) : Array Value → State → Outcome → State → Prop := va_Qv (fun g' => GX g g' ∧ gN g' = n' ∧ Rr g' ρ') (fun g' t => Wo g' M' t.heap) (ar g)
def CC (l : Launch) (y : MethodName) (cd : ByteArray) (mL : Nat) (rm : Room) (g : Gm) (M : Nat → Int) (as : List Value) (M' : Nat → Int) (ρ' : Nat → Option Nat) (n' : Nat) : Prop :=
  Met l y (.code y cd mL none :: tT) rm (va_Pc as (fun U => Wd g M U ∧ AOs U)) (pstQ g M' ρ' n') rm.cells rm.slots (ar g)
theorem WdA.blind {g : Gm} {M : Nat → Int} {as : List Value} : FrameBlind (va_Pc as (fun U => Wd g M U ∧ AOs U)) := by
  intro a U f mk h
  obtain ⟨h0, ⟨h1, h2, h3, h4⟩, h5⟩ := h
  exact ⟨h0, ⟨va_K.moved (u := U) (U := U.calling f mk a) (Vm.Alike.refl U.vm) h1, En.same h2 rfl rfl, h3, h4⟩, AOs.moved (u := U) (U := U.calling f mk a) (Vm.Alike.refl U.vm) h5⟩
theorem y_start {l : Launch} {y : MethodName} {cd : ByteArray} {mL : Nat} {rm : Room} {g : Gm} {M : Nat → Int} {as : List Value} {M' : Nat → Int} {ρ' : Nat → Option Nat} {n' : Nat} (hy : plainName y.cls = true) (hn : (lg_sl as).length ≤ mL)
    (body : ∀ (p : Program) (e : Env) (s : State) (m : MethodId) (below : List Frame) (meth : Method) (c : Code) (ls : Array Slot), Cx g p c m s as.toArray cd y.cls → AOs s → meth.name = y.name → meth.sig.returnType = none → meth.locks = false → c.maxLocals = mL → Wo g M s.heap → va_S (ar g) s.heap s.heap [] → lv_has ls mL (lv_args 0 as) →
      W p l e rm s m as.toArray below meth c s.heap [] 0 0 (MQ below (pstQ g M' ρ' n') as.toArray s rm.cells rm.slots (ar g)) (F0 m 0 ls [])) : CC l y cd mL rm g M as M' ρ' n' := by
  refine Met.ofW (cc := cd) (maxL := mL) (ret := none) hy rfl ?_
  intro p e s m args below meth c s₁ B hml hv
  obtain ⟨rfl, ⟨h1, h2, h3, h4⟩, h5⟩ := hv
  have hts := atoms_spec (ws := .code y cd mL none :: tT) B.pre
  rw [lg_entry_eq]
  exact body p e s m below meth c _ ⟨B.exec, B.bytes, findClass_of_methodNamed B.named, fun w hw => hts w (List.mem_cons_of_mem _ hw), h1, h2, h3⟩ h5 (name_of_methodNamed B.named B.method).1 B.returns B.notSynchronized hml h4 va_S.rf (lv_entry as hn)
section PY
variable {p : Program} {l : Launch} {e : Env} {Rm : Room} {s : State} {m : MethodId} {args : Array Value} {below : List Frame} {meth : Method} {c : Code} {H : Heap} {locs : List Loc} {cells slots : Nat} {Q : State → Prop}
variable {cc : ByteArray} {own : String} {pc : Nat} {ls : Array Slot} {rest : List Value} {g : Gm} {M : Nat → Int} {ρ : Nat → Option Nat}
theorem GX.cx {g' : Gm} (h : GX g g') (C : Cx g p c m s args cc own) : Cx g' p c m s args cc own := by
  obtain ⟨d, ca, b, n, a, r, x⟩ := g
  obtain ⟨d', ca', b', n', a', r', x'⟩ := g'
  obtain ⟨h1, h2, h3, h4, -, -⟩ := h
  cases h1; cases h2; cases h3; cases h4
  exact C
theorem Cx.fresh (C : Cx g p c m s args cc own) : ∀ q, s.heap.size ≤ q → ar g q := fun _ h => Nat.le_trans C.2.2.2.2.2.2 h
theorem y_end {g0 : Gm} {M1 M' : Nat → Int} {ρ1 ρ' : Nat → Option Nat} {n' : Nat} (hX : GX g0 g) (C : Cx g p c m s args cc own) (hr : meth.sig.returnType = none) (hlk : meth.locks = false) (hw : Wo g M1 H) (hS : va_S (ar g) s.heap H locs) (hR : Rr g ρ1) (hN : gN g = n') (hM : M1 = M') (hρ : ρ1 = ρ') (hdg : decode cc pc = .ok (.return_, 1)) :
    W p l e Rm s m args below meth c H locs cells slots (MQ below (pstQ g0 M' ρ' n') args s cells slots (ar g0)) (F0 m pc ls []) := by
  subst hM
  subst hρ
  rw [hX.ar] at hS
  exact W.vret C.1 C.2.1 hr (fun t ht _ => ⟨⟨g, rfl, ⟨hX, hN, hR⟩, by show Wo g M1 t.heap; rw [ht]; exact hw⟩, hS.F ht⟩) hS.2.2 hdg hlk
theorem y_obj (C : Cx g p c m s args cc own) {idx : Nat} (m1 : Cond.methodLink own idx Lib.objectInit ∈ tT) (m2 : Cond.instanceMethod Lib.objectInit ∈ tT) (m3 : Cond.code Lib.objectInit ⟨#[0xb1]⟩ 1 none ∈ tT) (hml : c.maxLocals = ls.size) {a : Addr} (hdg : decode cc pc = .ok (.invokespecial idx, 3)) (hf : 1 ≤ Rm.frames) (hlo : (rest.map fun v => v.category).sum ≤ 8) (hlo2 : 40 ≤ Rm.locals)
    (kk : W p l e Rm s m args below meth c H locs cells slots Q (F0 m (pc + 3) ls rest)) : W p l e Rm s m args below meth c H locs cells slots Q (F0 m pc ls (.ref a :: rest)) :=
  W.objInit C.1 C.2.1 C.2.2.1 (C.2.2.2.1 _ m1) (C.2.2.2.1 _ m2) (C.2.2.2.1 _ m3) rfl hml.symm rfl hdg hf (Nat.le_trans (Nat.add_le_add_right (lv_room hlo) 12) (by omega)) kk
/-! new arrays -/
theorem y_newI (C : Cx g p c m s args cc own) (hw : Wo g M H) (hS : va_S (ar g) s.heap H locs) (hR : Rr g ρ) {k : Nat} (hN : gN g = k) (ci : Nat) (hkd : kd k = ci) {L : Nat} (hL : ln k = L) (hL2 : L < 1000) (hF : Fr M ρ k) {at_ : ArrayType} (hat : (ci = 9 ∧ at_ = .int) ∨ (ci = 10 ∧ at_ = .boolean)) (m1 : Cond.arrayClass (newarray.typeOf at_) ∈ tT) (hcells : cells + 1 ≤ Rm.cells) (hslots : slots + L ≤ Rm.slots) (hdg : decode cc pc = .ok (.newarray at_, 2))
    (kk : ∀ (g' : Gm) (H1 : Heap), GX g g' → gN g' = k + 1 → Rr g' ρ → Cx g' p c m s args cc own → Wo g' M H1 → va_S (ar g') s.heap H1 locs → W p l e Rm s m args below meth c H1 locs (cells + 1) (slots + L) Q (F0 m (pc + 2) ls (.ref (gA g' k) :: rest))) : W p l e Rm s m args below meth c H locs cells slots Q (F0 m pc ls (.int (II (L : Int)) :: rest)) := by
  have hn0 : ¬ II (L : Int) < 0 := fun h => by have := (II_lt (a := (L : Int)) (b := 0) ⟨by omega, by omega⟩ rg0).mp h; omega
  have hcl : (II (L : Int)).toNatClampNeg = L := by rw [II_cl ⟨by omega, by omega⟩]; omega
  have hz : arI M k = fun _ => 0 := by
    funext j
    unfold arI
    by_cases h : j < 1000
    · rw [if_pos h, (hF _ (by omega)).1]; rfl
    · rw [if_neg h]
  have main : ∀ (ty : FieldType) (t0 : Nat), newarray.typeOf at_ = ty → defaultValue ty = .int 0 → componentBytes ty ≤ 4 → (tyl (gC g))[t0]? = some (gC g ci, ty) → (∀ cA, va_RA s cA ty = (s.vm.findClass ("[" ++ ty.toString) = some cA)) → ¬ ci < 9 → ci < 11 → W p l e Rm s m args below meth c H locs cells slots Q (F0 m pc ls (.int (II (L : Int)) :: rest)) := by
    intro ty t0 hty hdf hby ht hra c1 c2
    subst hty
    refine va_newaK C.1 C.2.1 (C.2.2.2.1 _ m1) rfl hdg rfl hn0 hcl (Nat.le_trans (Nat.mul_le_mul_left _ hby) (by omega)) hcells hslots rfl fun H1 cA e1 z1 o1 hAr hNm => ?_
    have hca : cA = gC g ci := by
      have h2 := (C.2.2.2.2.1.2 t0 _ ht).2
      rw [hra] at h2
      exact Option.some.inj (hNm.symm.trans h2)
    subst hca
    have hk : ∀ (i : Nat) (x : Nat × va_E), (wsl g M)[i]? = some x → H1[x.1]? = H[x.1]? := fun i x hx => o1 x.1 ((hw.1 i x hx).lt)
    have hS1 : va_S (ar g) s.heap H1 locs := ⟨Nat.le_trans hS.1 (by omega), fun x h1 h2 => (o1 x (Nat.lt_of_lt_of_le h1 hS.1)).trans (hS.2.1 x h1 h2), hS.2.2⟩
    have hce : cellE (gC g) (gR g) M (gN g) = .inl (gC g ci, L, .inl (fun _ => 0)) := by
      unfold cellE
      rw [hN, hkd, if_neg c1, if_pos c2, hL, hz]
    have hW := Wo.push (a := H.size) (H1 := H1) hw hce ((hw.1.kept hk).app (fun i x hx => by
      have hz : i < 1 := (List.getElem?_eq_some_iff.mp hx).1
      rw [show i = 0 by omega] at hx
      cases hx
      show H1[H.size]? = some (vp_cell _ _)
      rw [e1, hdf]
      rfl)) (hw.2.1.push hw.1 rfl (C.fresh _ hS.1))
    have hq := kk (gPush g H.size) H1 gPush_X (by show gN g + 1 = _; rw [hN]) (gPush_R hR) (gPush_X.cx C) hW (by rw [gPush_X.ar]; exact hS1)
    have ha : gA (gPush g H.size) k = H.size := if_pos hN.symm
    rw [ha] at hq
    exact hq
  rcases hat with ⟨rfl, rfl⟩ | ⟨rfl, rfl⟩
  · exact main .int 0 rfl rfl (by decide) rfl (fun _ => rfl) (by decide) (by decide)
  · exact main .boolean 1 rfl rfl (by decide) rfl (fun _ => rfl) (by decide) (by decide)
theorem y_newq (C : Cx g p c m s args cc own) (hw : Wo g M H) (hS : va_S (ar g) s.heap H locs) (hR : Rr g ρ) {k : Nat} (hN : gN g = k) (ci : Nat) (hkd : kd k = ci) {L : Nat} (hL : ln k = L) (hL2 : L < 1000) (hF : Fr M ρ k) {Cn : String} (t0 : Nat) (ht : (tyl (gC g))[t0]? = some (gC g ci, .object Cn)) (hci : ¬ ci < 11) (hAO : va_AO Cn s) {idx : Nat} (m1 : Cond.classLink own idx Cn ∈ tT) (hcells : cells + 1 ≤ Rm.cells) (hslots : slots + L ≤ Rm.slots) (hdg : decode cc pc = .ok (.anewarray idx, 3))
    (kk : ∀ (g' : Gm) (H1 : Heap), GX g g' → gN g' = k + 1 → Rr g' ρ → Cx g' p c m s args cc own → Wo g' M H1 → va_S (ar g') s.heap H1 locs → W p l e Rm s m args below meth c H1 locs (cells + 1) (slots + L) Q (F0 m (pc + 3) ls (.ref (gA g' k) :: rest))) : W p l e Rm s m args below meth c H locs cells slots Q (F0 m pc ls (.int (II (L : Int)) :: rest)) := by
  have hn0 : ¬ II (L : Int) < 0 := fun h => by have := (II_lt (a := (L : Int)) (b := 0) ⟨by omega, by omega⟩ rg0).mp h; omega
  have hcl : (II (L : Int)).toNatClampNeg = L := by rw [II_cl ⟨by omega, by omega⟩]; omega
  have hz : arR (gR g) k = fun _ => none := by
    funext j
    unfold arR
    by_cases h : j < 1000
    · rw [if_pos h, hR.1, (hF _ (by omega)).2]; rfl
    · rw [if_neg h]
  refine va_newq C.1 C.2.1 C.2.2.1 (C.2.2.2.1 _ m1) hAO C.2.2.2.2.1 hw.1 hw.2.1 hS C.fresh hn0 hcl (by omega) hcells hslots hdg (fun q cA H1 hK hP hD hS1 => ?_)
  have hca : cA = gC g ci := by
    obtain ⟨_, _, -, -, -, h2⟩ := (C.2.2.2.2.1.2 t0 _ ht).2
    obtain ⟨_, _, -, -, -, h3⟩ := (hK.2 (tyl (gC g)).length (cA, .object Cn) (by simp)).2
    exact Option.some.inj (h3.symm.trans h2)
  subst hca
  have hce : cellE (gC g) (gR g) M (gN g) = .inl (gC g ci, L, .inr (.inr (.inr (.inr (fun _ => none))))) := by
    unfold cellE
    rw [hN, hkd, if_neg (by omega), if_neg hci, hL, hz]
  have hq := kk (gPush g q) H1 gPush_X (by show gN g + 1 = _; rw [hN]) (gPush_R hR) (gPush_X.cx C) (hw.push hce hP hD) (by rw [gPush_X.ar]; exact hS1)
  have ha : gA (gPush g q) k = q := if_pos hN.symm
  rw [ha] at hq
  exact hq
/-! a reference is put into an array -/
theorem y_aast (C : Cx g p c m s args cc own) (hw : Wo g M H) (hS : va_S (ar g) s.heap H locs) (hR : Rr g ρ) (k : Nat) (hk : k < gN g) (ci : Nat) (hkd : kd k = ci) {L : Nat} (hL : ln k = L) {i : Nat} (h1 : i < L) (hL2 : L < 1000) (t0 cq : Nat) {r : vw_C} (hc : vwCl[cq]? = some r) (hcq : cq < 9) (ht : (tyl (gC g))[t0]? = some (gC g ci, .object r.1)) (hci : ¬ ci < 11) (q : Nat) (hq : q < gN g) (hkq : kd q = cq) (hdg : decode cc pc = .ok (.aastore, 1))
    (kk : ∀ (g' : Gm) (H1 : Heap) (locs1 : List Loc), GX g g' → gN g' = gN g → Rr g' (stR ρ (1000 * k + i) q) → Cx g' p c m s args cc own → Wo g' M H1 → va_S (ar g') s.heap H1 locs1 → W p l e Rm s m args below meth c H1 locs1 cells slots Q (F0 m (pc + 1) ls rest)) : W p l e Rm s m args below meth c H locs cells slots Q (F0 m pc ls (.ref (gA g q) :: .int (II (i : Int)) :: .ref (gA g k) :: rest)) := by
  have hcl : (II (i : Int)).toNatClampNeg = i := by rw [II_cl ⟨by omega, by omega⟩]; omega
  refine va_astq C.1 C.2.1 C.2.2.2.2.1 hw.1 hw.2.1 hS k t0 q cq (wsl_ar hk hkd hci) ht (wsl_obj hq hkq hcq) hc (by rw [hL]; exact II_in (by omega) (by omega) (by omega)) hdg (fun H1 locs1 hP hD hS1 => ?_)
  rw [hcl, arR_set (by omega)] at hP hD
  have e : (wsl g M).set k (gA g k, .inl (gC g ci, ln k, .inr (.inr (.inr (.inr (arR (upR (gR g) (1000 * k + i) (gA g q)) k)))))) = wsl (gSetR g (1000 * k + i) (gA g q)) M := by
    refine wsl_sR hk (by omega) ?_
    unfold cellE
    rw [hkd, if_neg (by omega), if_neg hci]
  rw [e] at hP hD
  exact kk (gSetR g (1000 * k + i) (gA g q)) H1 locs1 gSetR_X rfl (gSetR_R hR hq) (gSetR_X.cx C) ⟨hP, hD, hw.2.2⟩ hS1
/-! a constructor is called -/
theorem y_call {y : MethodName} {cd : ByteArray} {mL nL idx : Nat} {rm : Room} {M' : Nat → Int} {ρ' : Nat → Option Nat} {n' : Nat} (C : Cx g p c m s args cc own) (hA : AOs s) (hw : Wo g M H) (hS : va_S (ar g) s.heap H locs) (hml : c.maxLocals = nL) (hls : ls.size = nL) (k : Nat) (hM : CC l y cd mL rm g M [.ref (gA g k)] M' ρ' n')
    (m1 : Cond.methodLinkNest own idx y "RatedBySighs" ∈ lw_tbl) (m2 : Cond.instanceMethod y ∈ tT) (m4 : Cond.initialized y.cls ∈ tT) (m5 : Cond.code y cd mL none ∈ tT) (hy : y.name = "<init>") (hd : y.cls ≠ "java/lang/invoke/MethodHandle" ∧ y.cls ≠ "java/lang/invoke/VarHandle" ∧ (parseMethodDescriptor y.desc).map (fun d => d.parameters.length) = some 0) (hRm : rm.frames + 1 ≤ Rm.frames ∧ 8 + (mL + 11) + rm.locals ≤ Rm.locals)
    (hW : (rest.map fun v => v.category).sum ≤ 8) (hdg : decode cc pc = .ok (.invokespecial idx, 3)) (hf : cells + rm.cells ≤ Rm.cells ∧ slots + rm.slots ≤ Rm.slots)
    (kk : ∀ (g' : Gm) (H1 : Heap) (locs1 : List Loc), GX g g' → gN g' = n' → Rr g' ρ' → Cx g' p c m s args cc own → Wo g' M' H1 → va_S (ar g') s.heap H1 locs1 → W p l e Rm s m args below meth c H1 locs1 (cells + rm.cells) (slots + rm.slots) Q (F0 m (pc + 3) ls rest)) : W p l e Rm s m args below meth c H locs cells slots Q (F0 m pc ls (.ref (gA g k) :: rest)) := by
  refine va_callv (va_runIN (Ts := tT) ⟨C.1, C.2.1, hml, C.2.2.1, C.2.2.2.1⟩ hM ⟨va_cnB 0 C.2.2.2.1 (tT_sub (fun w h => (List.mem_cons.mp h).elim (fun e => e ▸ m5) id)) rfl rfl rfl (C.nest m1 rfl) (C.2.2.2.1 _ m4) hd hRm, hy, C.2.2.2.1 _ m2⟩ ⟨WdA.blind, fun U hU hW => ⟨rfl, C.wd hS hw hU hW, hA.moved hW.alike⟩⟩ rfl rfl hls rfl (lv_room hW) hdg hf) hS (fun _ _ h => h) (fun _ h => h) (fun g' t H1 locs1 ht _ hp hB _ _ hS1 => ?_)
  exact kk g' H1 locs1 hp.1 hp.2.1 hp.2.2 (hp.1.cx C) (ht ▸ hB) (by rw [hp.1.ar]; exact hS1)
theorem df0 : ∀ j, j < 2 → defaultValue (tyX0 j) = svd ((tg 0).getD j 0) := by
  intro j hj
  have : j = 0 ∨ j = 1 := by omega
  rcases this with rfl | rfl <;> rfl
theorem y_new0 (C : Cx g p c m s args cc own) (hw : Wo g M H) (hS : va_S (ar g) s.heap H locs) (hR : Rr g ρ) {k : Nat} (hN : gN g = k) (hkd : kd k = 0) (hF : Fr M ρ k) {idx : Nat} (m1 : Cond.classLink own idx RX0 ∈ tT) (m2 : Cond.instantiable RX0 2 ∈ tT) (m3 : Cond.initialized RX0 ∈ tT) (hcells : cells + 1 ≤ Rm.cells) (hslots : slots + 2 ≤ Rm.slots) (hdg : decode cc pc = .ok (.new idx, 3))
    (kk : ∀ (g' : Gm) (H1 : Heap), GX g g' → gN g' = k + 1 → Rr g' ρ → Cx g' p c m s args cc own → Wo g' M H1 → va_S (ar g') s.heap H1 locs → W p l e Rm s m args below meth c H1 locs (cells + 1) (slots + 2) Q (F0 m (pc + 3) ls (.ref (gA g' k) :: rest))) : W p l e Rm s m args below meth c H locs cells slots Q (F0 m pc ls rest) := by
  refine va_new (ci := 0) (fs := objs (gR g) M 0 k) C.1 C.2.1 C.2.2.2.1 inT0 tyX0 tyX0_ok C.2.2.1 (C.2.2.2.1 _ m1) (C.2.2.2.1 _ m2) (C.2.2.2.1 _ m3) C.2.2.2.2.1 hw.1 hw.2.1 hS C.fresh rfl (fun j hj => ?_) hcells hslots hdg (fun q H1 hP hD hS1 => ?_)
  · have hj2 : j < (tg 0).length := hj
    unfold vp_V
    rw [List.getD_eq_getElem?_getD, objs_get hj2, df0 j hj]
    exact (sv_0 (hF _ (by omega)).1 (by rw [hR.1, (hF _ (by omega)).2]; rfl)).symm
  · have hce : cellE (gC g) (gR g) M (gN g) = .inr (0, objs (gR g) M 0 k) := by
      unfold cellE
      rw [hN, hkd, if_pos (by decide)]
    have hq := kk (gPush g q) H1 gPush_X (by show gN g + 1 = _; rw [hN]) (gPush_R hR) (gPush_X.cx C) (hw.push hce hP hD) (by rw [gPush_X.ar]; exact hS1)
    have ha : gA (gPush g q) k = q := if_pos hN.symm
    rw [ha] at hq
    exact hq
theorem df1 : ∀ j, j < 5 → defaultValue (tyX1 j) = svd ((tg 1).getD j 0) := by
  intro j hj
  have : j = 0 ∨ j = 1 ∨ j = 2 ∨ j = 3 ∨ j = 4 := by omega
  rcases this with rfl | rfl | rfl | rfl | rfl <;> rfl
theorem y_new1 (C : Cx g p c m s args cc own) (hw : Wo g M H) (hS : va_S (ar g) s.heap H locs) (hR : Rr g ρ) {k : Nat} (hN : gN g = k) (hkd : kd k = 1) (hF : Fr M ρ k) {idx : Nat} (m1 : Cond.classLink own idx RX1 ∈ tT) (m2 : Cond.instantiable RX1 5 ∈ tT) (m3 : Cond.initialized RX1 ∈ tT) (hcells : cells + 1 ≤ Rm.cells) (hslots : slots + 5 ≤ Rm.slots) (hdg : decode cc pc = .ok (.new idx, 3))
    (kk : ∀ (g' : Gm) (H1 : Heap), GX g g' → gN g' = k + 1 → Rr g' ρ → Cx g' p c m s args cc own → Wo g' M H1 → va_S (ar g') s.heap H1 locs → W p l e Rm s m args below meth c H1 locs (cells + 1) (slots + 5) Q (F0 m (pc + 3) ls (.ref (gA g' k) :: rest))) : W p l e Rm s m args below meth c H locs cells slots Q (F0 m pc ls rest) := by
  refine va_new (ci := 1) (fs := objs (gR g) M 1 k) C.1 C.2.1 C.2.2.2.1 inT1 tyX1 tyX1_ok C.2.2.1 (C.2.2.2.1 _ m1) (C.2.2.2.1 _ m2) (C.2.2.2.1 _ m3) C.2.2.2.2.1 hw.1 hw.2.1 hS C.fresh rfl (fun j hj => ?_) hcells hslots hdg (fun q H1 hP hD hS1 => ?_)
  · have hj2 : j < (tg 1).length := hj
    unfold vp_V
    rw [List.getD_eq_getElem?_getD, objs_get hj2, df1 j hj]
    exact (sv_0 (hF _ (by omega)).1 (by rw [hR.1, (hF _ (by omega)).2]; rfl)).symm
  · have hce : cellE (gC g) (gR g) M (gN g) = .inr (1, objs (gR g) M 1 k) := by
      unfold cellE
      rw [hN, hkd, if_pos (by decide)]
    have hq := kk (gPush g q) H1 gPush_X (by show gN g + 1 = _; rw [hN]) (gPush_R hR) (gPush_X.cx C) (hw.push hce hP hD) (by rw [gPush_X.ar]; exact hS1)
    have ha : gA (gPush g q) k = q := if_pos hN.symm
    rw [ha] at hq
    exact hq
theorem y_pr1 (C : Cx g p c m s args cc own) (hw : Wo g M H) (hS : va_S (ar g) s.heap H locs) (hR : Rr g ρ) (hm : meth.name = "<init>") (ho : own = RX1) (k : Nat) (hk : k < gN g) (hkd : kd k = 1) (j : Nat) (hj : j < 5) (htg : (tg 1).getD j 0 = 1) {idx : Nat} (hl : Cond.fieldLink own idx RX1 (TX1 j).2.1 (TX1 j).2.2.1 ∈ tT) (hfin : (TX1 j).2.2.2 = true) (q : Nat) (hq : q < gN g) {ty : FieldType} (hd : parseFieldDescriptor (TX1 j).2.2.1 = some ty) (hn : ∀ a, narrow ty (.ref a) = .ref a) (hfit : ∀ a, fits ty (.ref a) = true) (hdg : decode cc pc = .ok (.putfield idx, 3))
    (kk : ∀ (g' : Gm) (H1 : Heap) (locs1 : List Loc), GX g g' → gN g' = gN g → Rr g' (stR ρ (1000 * k + j) q) → Cx g' p c m s args cc own → Wo g' M H1 → va_S (ar g') s.heap H1 locs1 → W p l e Rm s m args below meth c H1 locs1 cells slots Q (F0 m (pc + 3) ls rest)) : W p l e Rm s m args below meth c H locs cells slots Q (F0 m pc ls (.ref (gA g q) :: .ref (gA g k) :: rest)) := by
  refine va_putF C.1 C.2.1 C.2.2.2.1 inT1 tyX1 tyX1_ok nmX1 C.2.2.1 C.2.2.2.2.1 hw.1 hw.2.1 hS k (wsl_obj hk hkd (by decide)) rfl j hj (C.2.2.2.1 _ hl) (fun x h => by rw [tcX1] at h; exact h) hfin hm (by rw [tcX1, ho]) hd (hn _) (hfit _) (by rw [objs_len]; exact hj) hdg (fun H1 locs1 hP hD hS1 => ?_)
  have e : (wsl g M).set k (gA g k, .inr (1, (objs (gR g) M 1 k).set j (.ref (gA g q)))) = wsl (gSetR g (1000 * k + j) (gA g q)) M := by
    refine wsl_sR hk (by omega) ?_
    rw [objs_setR hj htg]
    unfold cellE
    rw [hkd, if_pos (by decide)]
  rw [e] at hP hD
  exact kk (gSetR g (1000 * k + j) (gA g q)) H1 locs1 gSetR_X rfl (gSetR_R hR hq) (gSetR_X.cx C) ⟨hP, hD, hw.2.2⟩ hS1
theorem df2 : ∀ j, j < 8 → defaultValue (tyX2 j) = svd ((tg 2).getD j 0) := by
  intro j hj
  have : j = 0 ∨ j = 1 ∨ j = 2 ∨ j = 3 ∨ j = 4 ∨ j = 5 ∨ j = 6 ∨ j = 7 := by omega
  rcases this with rfl | rfl | rfl | rfl | rfl | rfl | rfl | rfl <;> rfl
theorem y_new2 (C : Cx g p c m s args cc own) (hw : Wo g M H) (hS : va_S (ar g) s.heap H locs) (hR : Rr g ρ) {k : Nat} (hN : gN g = k) (hkd : kd k = 2) (hF : Fr M ρ k) {idx : Nat} (m1 : Cond.classLink own idx RX2 ∈ tT) (m2 : Cond.instantiable RX2 8 ∈ tT) (m3 : Cond.initialized RX2 ∈ tT) (hcells : cells + 1 ≤ Rm.cells) (hslots : slots + 8 ≤ Rm.slots) (hdg : decode cc pc = .ok (.new idx, 3))
    (kk : ∀ (g' : Gm) (H1 : Heap), GX g g' → gN g' = k + 1 → Rr g' ρ → Cx g' p c m s args cc own → Wo g' M H1 → va_S (ar g') s.heap H1 locs → W p l e Rm s m args below meth c H1 locs (cells + 1) (slots + 8) Q (F0 m (pc + 3) ls (.ref (gA g' k) :: rest))) : W p l e Rm s m args below meth c H locs cells slots Q (F0 m pc ls rest) := by
  refine va_new (ci := 2) (fs := objs (gR g) M 2 k) C.1 C.2.1 C.2.2.2.1 inT2 tyX2 tyX2_ok C.2.2.1 (C.2.2.2.1 _ m1) (C.2.2.2.1 _ m2) (C.2.2.2.1 _ m3) C.2.2.2.2.1 hw.1 hw.2.1 hS C.fresh rfl (fun j hj => ?_) hcells hslots hdg (fun q H1 hP hD hS1 => ?_)
  · have hj2 : j < (tg 2).length := hj
    unfold vp_V
    rw [List.getD_eq_getElem?_getD, objs_get hj2, df2 j hj]
    exact (sv_0 (hF _ (by omega)).1 (by rw [hR.1, (hF _ (by omega)).2]; rfl)).symm
  · have hce : cellE (gC g) (gR g) M (gN g) = .inr (2, objs (gR g) M 2 k) := by
      unfold cellE
      rw [hN, hkd, if_pos (by decide)]
    have hq := kk (gPush g q) H1 gPush_X (by show gN g + 1 = _; rw [hN]) (gPush_R hR) (gPush_X.cx C) (hw.push hce hP hD) (by rw [gPush_X.ar]; exact hS1)
    have ha : gA (gPush g q) k = q := if_pos hN.symm
    rw [ha] at hq
    exact hq
theorem y_pr2 (C : Cx g p c m s args cc own) (hw : Wo g M H) (hS : va_S (ar g) s.heap H locs) (hR : Rr g ρ) (hm : meth.name = "<init>") (ho : own = RX2) (k : Nat) (hk : k < gN g) (hkd : kd k = 2) (j : Nat) (hj : j < 8) (htg : (tg 2).getD j 0 = 1) {idx : Nat} (hl : Cond.fieldLink own idx RX2 (TX2 j).2.1 (TX2 j).2.2.1 ∈ tT) (hfin : (TX2 j).2.2.2 = true) (q : Nat) (hq : q < gN g) {ty : FieldType} (hd : parseFieldDescriptor (TX2 j).2.2.1 = some ty) (hn : ∀ a, narrow ty (.ref a) = .ref a) (hfit : ∀ a, fits ty (.ref a) = true) (hdg : decode cc pc = .ok (.putfield idx, 3))
    (kk : ∀ (g' : Gm) (H1 : Heap) (locs1 : List Loc), GX g g' → gN g' = gN g → Rr g' (stR ρ (1000 * k + j) q) → Cx g' p c m s args cc own → Wo g' M H1 → va_S (ar g') s.heap H1 locs1 → W p l e Rm s m args below meth c H1 locs1 cells slots Q (F0 m (pc + 3) ls rest)) : W p l e Rm s m args below meth c H locs cells slots Q (F0 m pc ls (.ref (gA g q) :: .ref (gA g k) :: rest)) := by
  refine va_putF C.1 C.2.1 C.2.2.2.1 inT2 tyX2 tyX2_ok nmX2 C.2.2.1 C.2.2.2.2.1 hw.1 hw.2.1 hS k (wsl_obj hk hkd (by decide)) rfl j hj (C.2.2.2.1 _ hl) (fun x h => by rw [tcX2] at h; exact h) hfin hm (by rw [tcX2, ho]) hd (hn _) (hfit _) (by rw [objs_len]; exact hj) hdg (fun H1 locs1 hP hD hS1 => ?_)
  have e : (wsl g M).set k (gA g k, .inr (2, (objs (gR g) M 2 k).set j (.ref (gA g q)))) = wsl (gSetR g (1000 * k + j) (gA g q)) M := by
    refine wsl_sR hk (by omega) ?_
    rw [objs_setR hj htg]
    unfold cellE
    rw [hkd, if_pos (by decide)]
  rw [e] at hP hD
  exact kk (gSetR g (1000 * k + j) (gA g q)) H1 locs1 gSetR_X rfl (gSetR_R hR hq) (gSetR_X.cx C) ⟨hP, hD, hw.2.2⟩ hS1
theorem df3 : ∀ j, j < 5 → defaultValue (tyX3 j) = svd ((tg 3).getD j 0) := by
  intro j hj
  have : j = 0 ∨ j = 1 ∨ j = 2 ∨ j = 3 ∨ j = 4 := by omega
  rcases this with rfl | rfl | rfl | rfl | rfl <;> rfl
theorem y_new3 (C : Cx g p c m s args cc own) (hw : Wo g M H) (hS : va_S (ar g) s.heap H locs) (hR : Rr g ρ) {k : Nat} (hN : gN g = k) (hkd : kd k = 3) (hF : Fr M ρ k) {idx : Nat} (m1 : Cond.classLink own idx RX3 ∈ tT) (m2 : Cond.instantiable RX3 5 ∈ tT) (m3 : Cond.initialized RX3 ∈ tT) (hcells : cells + 1 ≤ Rm.cells) (hslots : slots + 5 ≤ Rm.slots) (hdg : decode cc pc = .ok (.new idx, 3))
    (kk : ∀ (g' : Gm) (H1 : Heap), GX g g' → gN g' = k + 1 → Rr g' ρ → Cx g' p c m s args cc own → Wo g' M H1 → va_S (ar g') s.heap H1 locs → W p l e Rm s m args below meth c H1 locs (cells + 1) (slots + 5) Q (F0 m (pc + 3) ls (.ref (gA g' k) :: rest))) : W p l e Rm s m args below meth c H locs cells slots Q (F0 m pc ls rest) := by
  refine va_new (ci := 3) (fs := objs (gR g) M 3 k) C.1 C.2.1 C.2.2.2.1 inT3 tyX3 tyX3_ok C.2.2.1 (C.2.2.2.1 _ m1) (C.2.2.2.1 _ m2) (C.2.2.2.1 _ m3) C.2.2.2.2.1 hw.1 hw.2.1 hS C.fresh rfl (fun j hj => ?_) hcells hslots hdg (fun q H1 hP hD hS1 => ?_)
  · have hj2 : j < (tg 3).length := hj
    unfold vp_V
    rw [List.getD_eq_getElem?_getD, objs_get hj2, df3 j hj]
    exact (sv_0 (hF _ (by omega)).1 (by rw [hR.1, (hF _ (by omega)).2]; rfl)).symm
  · have hce : cellE (gC g) (gR g) M (gN g) = .inr (3, objs (gR g) M 3 k) := by
      unfold cellE
      rw [hN, hkd, if_pos (by decide)]
    have hq := kk (gPush g q) H1 gPush_X (by show gN g + 1 = _; rw [hN]) (gPush_R hR) (gPush_X.cx C) (hw.push hce hP hD) (by rw [gPush_X.ar]; exact hS1)
    have ha : gA (gPush g q) k = q := if_pos hN.symm
    rw [ha] at hq
    exact hq
theorem df4 : ∀ j, j < 9 → defaultValue (tyX4 j) = svd ((tg 4).getD j 0) := by
  intro j hj
  have : j = 0 ∨ j = 1 ∨ j = 2 ∨ j = 3 ∨ j = 4 ∨ j = 5 ∨ j = 6 ∨ j = 7 ∨ j = 8 := by omega
  rcases this with rfl | rfl | rfl | rfl | rfl | rfl | rfl | rfl | rfl <;> rfl
theorem y_new4 (C : Cx g p c m s args cc own) (hw : Wo g M H) (hS : va_S (ar g) s.heap H locs) (hR : Rr g ρ) {k : Nat} (hN : gN g = k) (hkd : kd k = 4) (hF : Fr M ρ k) {idx : Nat} (m1 : Cond.classLink own idx RX4 ∈ tT) (m2 : Cond.instantiable RX4 9 ∈ tT) (m3 : Cond.initialized RX4 ∈ tT) (hcells : cells + 1 ≤ Rm.cells) (hslots : slots + 9 ≤ Rm.slots) (hdg : decode cc pc = .ok (.new idx, 3))
    (kk : ∀ (g' : Gm) (H1 : Heap), GX g g' → gN g' = k + 1 → Rr g' ρ → Cx g' p c m s args cc own → Wo g' M H1 → va_S (ar g') s.heap H1 locs → W p l e Rm s m args below meth c H1 locs (cells + 1) (slots + 9) Q (F0 m (pc + 3) ls (.ref (gA g' k) :: rest))) : W p l e Rm s m args below meth c H locs cells slots Q (F0 m pc ls rest) := by
  refine va_new (ci := 4) (fs := objs (gR g) M 4 k) C.1 C.2.1 C.2.2.2.1 inT4 tyX4 tyX4_ok C.2.2.1 (C.2.2.2.1 _ m1) (C.2.2.2.1 _ m2) (C.2.2.2.1 _ m3) C.2.2.2.2.1 hw.1 hw.2.1 hS C.fresh rfl (fun j hj => ?_) hcells hslots hdg (fun q H1 hP hD hS1 => ?_)
  · have hj2 : j < (tg 4).length := hj
    unfold vp_V
    rw [List.getD_eq_getElem?_getD, objs_get hj2, df4 j hj]
    exact (sv_0 (hF _ (by omega)).1 (by rw [hR.1, (hF _ (by omega)).2]; rfl)).symm
  · have hce : cellE (gC g) (gR g) M (gN g) = .inr (4, objs (gR g) M 4 k) := by
      unfold cellE
      rw [hN, hkd, if_pos (by decide)]
    have hq := kk (gPush g q) H1 gPush_X (by show gN g + 1 = _; rw [hN]) (gPush_R hR) (gPush_X.cx C) (hw.push hce hP hD) (by rw [gPush_X.ar]; exact hS1)
    have ha : gA (gPush g q) k = q := if_pos hN.symm
    rw [ha] at hq
    exact hq
theorem y_pr4 (C : Cx g p c m s args cc own) (hw : Wo g M H) (hS : va_S (ar g) s.heap H locs) (hR : Rr g ρ) (hm : meth.name = "<init>") (ho : own = RX4) (k : Nat) (hk : k < gN g) (hkd : kd k = 4) (j : Nat) (hj : j < 9) (htg : (tg 4).getD j 0 = 1) {idx : Nat} (hl : Cond.fieldLink own idx RX4 (TX4 j).2.1 (TX4 j).2.2.1 ∈ tT) (hfin : (TX4 j).2.2.2 = true) (q : Nat) (hq : q < gN g) {ty : FieldType} (hd : parseFieldDescriptor (TX4 j).2.2.1 = some ty) (hn : ∀ a, narrow ty (.ref a) = .ref a) (hfit : ∀ a, fits ty (.ref a) = true) (hdg : decode cc pc = .ok (.putfield idx, 3))
    (kk : ∀ (g' : Gm) (H1 : Heap) (locs1 : List Loc), GX g g' → gN g' = gN g → Rr g' (stR ρ (1000 * k + j) q) → Cx g' p c m s args cc own → Wo g' M H1 → va_S (ar g') s.heap H1 locs1 → W p l e Rm s m args below meth c H1 locs1 cells slots Q (F0 m (pc + 3) ls rest)) : W p l e Rm s m args below meth c H locs cells slots Q (F0 m pc ls (.ref (gA g q) :: .ref (gA g k) :: rest)) := by
  refine va_putF C.1 C.2.1 C.2.2.2.1 inT4 tyX4 tyX4_ok nmX4 C.2.2.1 C.2.2.2.2.1 hw.1 hw.2.1 hS k (wsl_obj hk hkd (by decide)) rfl j hj (C.2.2.2.1 _ hl) (fun x h => by rw [tcX4] at h; exact h) hfin hm (by rw [tcX4, ho]) hd (hn _) (hfit _) (by rw [objs_len]; exact hj) hdg (fun H1 locs1 hP hD hS1 => ?_)
  have e : (wsl g M).set k (gA g k, .inr (4, (objs (gR g) M 4 k).set j (.ref (gA g q)))) = wsl (gSetR g (1000 * k + j) (gA g q)) M := by
    refine wsl_sR hk (by omega) ?_
    rw [objs_setR hj htg]
    unfold cellE
    rw [hkd, if_pos (by decide)]
  rw [e] at hP hD
  exact kk (gSetR g (1000 * k + j) (gA g q)) H1 locs1 gSetR_X rfl (gSetR_R hR hq) (gSetR_X.cx C) ⟨hP, hD, hw.2.2⟩ hS1
theorem df5 : ∀ j, j < 3 → defaultValue (tyX5 j) = svd ((tg 5).getD j 0) := by
  intro j hj
  have : j = 0 ∨ j = 1 ∨ j = 2 := by omega
  rcases this with rfl | rfl | rfl <;> rfl
theorem y_new5 (C : Cx g p c m s args cc own) (hw : Wo g M H) (hS : va_S (ar g) s.heap H locs) (hR : Rr g ρ) {k : Nat} (hN : gN g = k) (hkd : kd k = 5) (hF : Fr M ρ k) {idx : Nat} (m1 : Cond.classLink own idx RX5 ∈ tT) (m2 : Cond.instantiable RX5 3 ∈ tT) (m3 : Cond.initialized RX5 ∈ tT) (hcells : cells + 1 ≤ Rm.cells) (hslots : slots + 3 ≤ Rm.slots) (hdg : decode cc pc = .ok (.new idx, 3))
    (kk : ∀ (g' : Gm) (H1 : Heap), GX g g' → gN g' = k + 1 → Rr g' ρ → Cx g' p c m s args cc own → Wo g' M H1 → va_S (ar g') s.heap H1 locs → W p l e Rm s m args below meth c H1 locs (cells + 1) (slots + 3) Q (F0 m (pc + 3) ls (.ref (gA g' k) :: rest))) : W p l e Rm s m args below meth c H locs cells slots Q (F0 m pc ls rest) := by
  refine va_new (ci := 5) (fs := objs (gR g) M 5 k) C.1 C.2.1 C.2.2.2.1 inT5 tyX5 tyX5_ok C.2.2.1 (C.2.2.2.1 _ m1) (C.2.2.2.1 _ m2) (C.2.2.2.1 _ m3) C.2.2.2.2.1 hw.1 hw.2.1 hS C.fresh rfl (fun j hj => ?_) hcells hslots hdg (fun q H1 hP hD hS1 => ?_)
  · have hj2 : j < (tg 5).length := hj
    unfold vp_V
    rw [List.getD_eq_getElem?_getD, objs_get hj2, df5 j hj]
    exact (sv_0 (hF _ (by omega)).1 (by rw [hR.1, (hF _ (by omega)).2]; rfl)).symm
  · have hce : cellE (gC g) (gR g) M (gN g) = .inr (5, objs (gR g) M 5 k) := by
      unfold cellE
      rw [hN, hkd, if_pos (by decide)]
    have hq := kk (gPush g q) H1 gPush_X (by show gN g + 1 = _; rw [hN]) (gPush_R hR) (gPush_X.cx C) (hw.push hce hP hD) (by rw [gPush_X.ar]; exact hS1)
    have ha : gA (gPush g q) k = q := if_pos hN.symm
    rw [ha] at hq
    exact hq
theorem y_pr5 (C : Cx g p c m s args cc own) (hw : Wo g M H) (hS : va_S (ar g) s.heap H locs) (hR : Rr g ρ) (hm : meth.name = "<init>") (ho : own = RX5) (k : Nat) (hk : k < gN g) (hkd : kd k = 5) (j : Nat) (hj : j < 3) (htg : (tg 5).getD j 0 = 1) {idx : Nat} (hl : Cond.fieldLink own idx RX5 (TX5 j).2.1 (TX5 j).2.2.1 ∈ tT) (hfin : (TX5 j).2.2.2 = true) (q : Nat) (hq : q < gN g) {ty : FieldType} (hd : parseFieldDescriptor (TX5 j).2.2.1 = some ty) (hn : ∀ a, narrow ty (.ref a) = .ref a) (hfit : ∀ a, fits ty (.ref a) = true) (hdg : decode cc pc = .ok (.putfield idx, 3))
    (kk : ∀ (g' : Gm) (H1 : Heap) (locs1 : List Loc), GX g g' → gN g' = gN g → Rr g' (stR ρ (1000 * k + j) q) → Cx g' p c m s args cc own → Wo g' M H1 → va_S (ar g') s.heap H1 locs1 → W p l e Rm s m args below meth c H1 locs1 cells slots Q (F0 m (pc + 3) ls rest)) : W p l e Rm s m args below meth c H locs cells slots Q (F0 m pc ls (.ref (gA g q) :: .ref (gA g k) :: rest)) := by
  refine va_putF C.1 C.2.1 C.2.2.2.1 inT5 tyX5 tyX5_ok nmX5 C.2.2.1 C.2.2.2.2.1 hw.1 hw.2.1 hS k (wsl_obj hk hkd (by decide)) rfl j hj (C.2.2.2.1 _ hl) (fun x h => by rw [tcX5] at h; exact h) hfin hm (by rw [tcX5, ho]) hd (hn _) (hfit _) (by rw [objs_len]; exact hj) hdg (fun H1 locs1 hP hD hS1 => ?_)
  have e : (wsl g M).set k (gA g k, .inr (5, (objs (gR g) M 5 k).set j (.ref (gA g q)))) = wsl (gSetR g (1000 * k + j) (gA g q)) M := by
    refine wsl_sR hk (by omega) ?_
    rw [objs_setR hj htg]
    unfold cellE
    rw [hkd, if_pos (by decide)]
  rw [e] at hP hD
  exact kk (gSetR g (1000 * k + j) (gA g q)) H1 locs1 gSetR_X rfl (gSetR_R hR hq) (gSetR_X.cx C) ⟨hP, hD, hw.2.2⟩ hS1
theorem df6 : ∀ j, j < 5 → defaultValue (tyX6 j) = svd ((tg 6).getD j 0) := by
  intro j hj
  have : j = 0 ∨ j = 1 ∨ j = 2 ∨ j = 3 ∨ j = 4 := by omega
  rcases this with rfl | rfl | rfl | rfl | rfl <;> rfl
theorem y_new6 (C : Cx g p c m s args cc own) (hw : Wo g M H) (hS : va_S (ar g) s.heap H locs) (hR : Rr g ρ) {k : Nat} (hN : gN g = k) (hkd : kd k = 6) (hF : Fr M ρ k) {idx : Nat} (m1 : Cond.classLink own idx RX6 ∈ tT) (m2 : Cond.instantiable RX6 5 ∈ tT) (m3 : Cond.initialized RX6 ∈ tT) (hcells : cells + 1 ≤ Rm.cells) (hslots : slots + 5 ≤ Rm.slots) (hdg : decode cc pc = .ok (.new idx, 3))
    (kk : ∀ (g' : Gm) (H1 : Heap), GX g g' → gN g' = k + 1 → Rr g' ρ → Cx g' p c m s args cc own → Wo g' M H1 → va_S (ar g') s.heap H1 locs → W p l e Rm s m args below meth c H1 locs (cells + 1) (slots + 5) Q (F0 m (pc + 3) ls (.ref (gA g' k) :: rest))) : W p l e Rm s m args below meth c H locs cells slots Q (F0 m pc ls rest) := by
  refine va_new (ci := 6) (fs := objs (gR g) M 6 k) C.1 C.2.1 C.2.2.2.1 inT6 tyX6 tyX6_ok C.2.2.1 (C.2.2.2.1 _ m1) (C.2.2.2.1 _ m2) (C.2.2.2.1 _ m3) C.2.2.2.2.1 hw.1 hw.2.1 hS C.fresh rfl (fun j hj => ?_) hcells hslots hdg (fun q H1 hP hD hS1 => ?_)
  · have hj2 : j < (tg 6).length := hj
    unfold vp_V
    rw [List.getD_eq_getElem?_getD, objs_get hj2, df6 j hj]
    exact (sv_0 (hF _ (by omega)).1 (by rw [hR.1, (hF _ (by omega)).2]; rfl)).symm
  · have hce : cellE (gC g) (gR g) M (gN g) = .inr (6, objs (gR g) M 6 k) := by
      unfold cellE
      rw [hN, hkd, if_pos (by decide)]
    have hq := kk (gPush g q) H1 gPush_X (by show gN g + 1 = _; rw [hN]) (gPush_R hR) (gPush_X.cx C) (hw.push hce hP hD) (by rw [gPush_X.ar]; exact hS1)
    have ha : gA (gPush g q) k = q := if_pos hN.symm
    rw [ha] at hq
    exact hq
theorem y_pr6 (C : Cx g p c m s args cc own) (hw : Wo g M H) (hS : va_S (ar g) s.heap H locs) (hR : Rr g ρ) (hm : meth.name = "<init>") (ho : own = RX6) (k : Nat) (hk : k < gN g) (hkd : kd k = 6) (j : Nat) (hj : j < 5) (htg : (tg 6).getD j 0 = 1) {idx : Nat} (hl : Cond.fieldLink own idx RX6 (TX6 j).2.1 (TX6 j).2.2.1 ∈ tT) (hfin : (TX6 j).2.2.2 = true) (q : Nat) (hq : q < gN g) {ty : FieldType} (hd : parseFieldDescriptor (TX6 j).2.2.1 = some ty) (hn : ∀ a, narrow ty (.ref a) = .ref a) (hfit : ∀ a, fits ty (.ref a) = true) (hdg : decode cc pc = .ok (.putfield idx, 3))
    (kk : ∀ (g' : Gm) (H1 : Heap) (locs1 : List Loc), GX g g' → gN g' = gN g → Rr g' (stR ρ (1000 * k + j) q) → Cx g' p c m s args cc own → Wo g' M H1 → va_S (ar g') s.heap H1 locs1 → W p l e Rm s m args below meth c H1 locs1 cells slots Q (F0 m (pc + 3) ls rest)) : W p l e Rm s m args below meth c H locs cells slots Q (F0 m pc ls (.ref (gA g q) :: .ref (gA g k) :: rest)) := by
  refine va_putF C.1 C.2.1 C.2.2.2.1 inT6 tyX6 tyX6_ok nmX6 C.2.2.1 C.2.2.2.2.1 hw.1 hw.2.1 hS k (wsl_obj hk hkd (by decide)) rfl j hj (C.2.2.2.1 _ hl) (fun x h => by rw [tcX6] at h; exact h) hfin hm (by rw [tcX6, ho]) hd (hn _) (hfit _) (by rw [objs_len]; exact hj) hdg (fun H1 locs1 hP hD hS1 => ?_)
  have e : (wsl g M).set k (gA g k, .inr (6, (objs (gR g) M 6 k).set j (.ref (gA g q)))) = wsl (gSetR g (1000 * k + j) (gA g q)) M := by
    refine wsl_sR hk (by omega) ?_
    rw [objs_setR hj htg]
    unfold cellE
    rw [hkd, if_pos (by decide)]
  rw [e] at hP hD
  exact kk (gSetR g (1000 * k + j) (gA g q)) H1 locs1 gSetR_X rfl (gSetR_R hR hq) (gSetR_X.cx C) ⟨hP, hD, hw.2.2⟩ hS1
theorem df7 : ∀ j, j < 9 → defaultValue (tyX7 j) = svd ((tg 7).getD j 0) := by
  intro j hj
  have : j = 0 ∨ j = 1 ∨ j = 2 ∨ j = 3 ∨ j = 4 ∨ j = 5 ∨ j = 6 ∨ j = 7 ∨ j = 8 := by omega
  rcases this with rfl | rfl | rfl | rfl | rfl | rfl | rfl | rfl | rfl <;> rfl
theorem y_new7 (C : Cx g p c m s args cc own) (hw : Wo g M H) (hS : va_S (ar g) s.heap H locs) (hR : Rr g ρ) {k : Nat} (hN : gN g = k) (hkd : kd k = 7) (hF : Fr M ρ k) {idx : Nat} (m1 : Cond.classLink own idx RX7 ∈ tT) (m2 : Cond.instantiable RX7 9 ∈ tT) (m3 : Cond.initialized RX7 ∈ tT) (hcells : cells + 1 ≤ Rm.cells) (hslots : slots + 9 ≤ Rm.slots) (hdg : decode cc pc = .ok (.new idx, 3))
    (kk : ∀ (g' : Gm) (H1 : Heap), GX g g' → gN g' = k + 1 → Rr g' ρ → Cx g' p c m s args cc own → Wo g' M H1 → va_S (ar g') s.heap H1 locs → W p l e Rm s m args below meth c H1 locs (cells + 1) (slots + 9) Q (F0 m (pc + 3) ls (.ref (gA g' k) :: rest))) : W p l e Rm s m args below meth c H locs cells slots Q (F0 m pc ls rest) := by
  refine va_new (ci := 7) (fs := objs (gR g) M 7 k) C.1 C.2.1 C.2.2.2.1 inT7 tyX7 tyX7_ok C.2.2.1 (C.2.2.2.1 _ m1) (C.2.2.2.1 _ m2) (C.2.2.2.1 _ m3) C.2.2.2.2.1 hw.1 hw.2.1 hS C.fresh rfl (fun j hj => ?_) hcells hslots hdg (fun q H1 hP hD hS1 => ?_)
  · have hj2 : j < (tg 7).length := hj
    unfold vp_V
    rw [List.getD_eq_getElem?_getD, objs_get hj2, df7 j hj]
    exact (sv_0 (hF _ (by omega)).1 (by rw [hR.1, (hF _ (by omega)).2]; rfl)).symm
  · have hce : cellE (gC g) (gR g) M (gN g) = .inr (7, objs (gR g) M 7 k) := by
      unfold cellE
      rw [hN, hkd, if_pos (by decide)]
    have hq := kk (gPush g q) H1 gPush_X (by show gN g + 1 = _; rw [hN]) (gPush_R hR) (gPush_X.cx C) (hw.push hce hP hD) (by rw [gPush_X.ar]; exact hS1)
    have ha : gA (gPush g q) k = q := if_pos hN.symm
    rw [ha] at hq
    exact hq
theorem y_pr7 (C : Cx g p c m s args cc own) (hw : Wo g M H) (hS : va_S (ar g) s.heap H locs) (hR : Rr g ρ) (hm : meth.name = "<init>") (ho : own = RX7) (k : Nat) (hk : k < gN g) (hkd : kd k = 7) (j : Nat) (hj : j < 9) (htg : (tg 7).getD j 0 = 1) {idx : Nat} (hl : Cond.fieldLink own idx RX7 (TX7 j).2.1 (TX7 j).2.2.1 ∈ tT) (hfin : (TX7 j).2.2.2 = true) (q : Nat) (hq : q < gN g) {ty : FieldType} (hd : parseFieldDescriptor (TX7 j).2.2.1 = some ty) (hn : ∀ a, narrow ty (.ref a) = .ref a) (hfit : ∀ a, fits ty (.ref a) = true) (hdg : decode cc pc = .ok (.putfield idx, 3))
    (kk : ∀ (g' : Gm) (H1 : Heap) (locs1 : List Loc), GX g g' → gN g' = gN g → Rr g' (stR ρ (1000 * k + j) q) → Cx g' p c m s args cc own → Wo g' M H1 → va_S (ar g') s.heap H1 locs1 → W p l e Rm s m args below meth c H1 locs1 cells slots Q (F0 m (pc + 3) ls rest)) : W p l e Rm s m args below meth c H locs cells slots Q (F0 m pc ls (.ref (gA g q) :: .ref (gA g k) :: rest)) := by
  refine va_putF C.1 C.2.1 C.2.2.2.1 inT7 tyX7 tyX7_ok nmX7 C.2.2.1 C.2.2.2.2.1 hw.1 hw.2.1 hS k (wsl_obj hk hkd (by decide)) rfl j hj (C.2.2.2.1 _ hl) (fun x h => by rw [tcX7] at h; exact h) hfin hm (by rw [tcX7, ho]) hd (hn _) (hfit _) (by rw [objs_len]; exact hj) hdg (fun H1 locs1 hP hD hS1 => ?_)
  have e : (wsl g M).set k (gA g k, .inr (7, (objs (gR g) M 7 k).set j (.ref (gA g q)))) = wsl (gSetR g (1000 * k + j) (gA g q)) M := by
    refine wsl_sR hk (by omega) ?_
    rw [objs_setR hj htg]
    unfold cellE
    rw [hkd, if_pos (by decide)]
  rw [e] at hP hD
  exact kk (gSetR g (1000 * k + j) (gA g q)) H1 locs1 gSetR_X rfl (gSetR_R hR hq) (gSetR_X.cx C) ⟨hP, hD, hw.2.2⟩ hS1
theorem df8 : ∀ j, j < 42 → defaultValue (tyX8 j) = svd ((tg 8).getD j 0) := by
  intro j hj
  have : j = 0 ∨ j = 1 ∨ j = 2 ∨ j = 3 ∨ j = 4 ∨ j = 5 ∨ j = 6 ∨ j = 7 ∨ j = 8 ∨ j = 9 ∨ j = 10 ∨ j = 11 ∨ j = 12 ∨ j = 13 ∨ j = 14 ∨ j = 15 ∨ j = 16 ∨ j = 17 ∨ j = 18 ∨ j = 19 ∨ j = 20 ∨ j = 21 ∨ j = 22 ∨ j = 23 ∨ j = 24 ∨ j = 25 ∨ j = 26 ∨ j = 27 ∨ j = 28 ∨ j = 29 ∨ j = 30 ∨ j = 31 ∨ j = 32 ∨ j = 33 ∨ j = 34 ∨ j = 35 ∨ j = 36 ∨ j = 37 ∨ j = 38 ∨ j = 39 ∨ j = 40 ∨ j = 41 := by omega
  rcases this with rfl | rfl | rfl | rfl | rfl | rfl | rfl | rfl | rfl | rfl | rfl | rfl | rfl | rfl | rfl | rfl | rfl | rfl | rfl | rfl | rfl | rfl | rfl | rfl | rfl | rfl | rfl | rfl | rfl | rfl | rfl | rfl | rfl | rfl | rfl | rfl | rfl | rfl | rfl | rfl | rfl | rfl <;> rfl
theorem y_new8 (C : Cx g p c m s args cc own) (hw : Wo g M H) (hS : va_S (ar g) s.heap H locs) (hR : Rr g ρ) {k : Nat} (hN : gN g = k) (hkd : kd k = 8) (hF : Fr M ρ k) {idx : Nat} (m1 : Cond.classLink own idx RX8 ∈ tT) (m2 : Cond.instantiable RX8 42 ∈ tT) (m3 : Cond.initialized RX8 ∈ tT) (hcells : cells + 1 ≤ Rm.cells) (hslots : slots + 42 ≤ Rm.slots) (hdg : decode cc pc = .ok (.new idx, 3))
    (kk : ∀ (g' : Gm) (H1 : Heap), GX g g' → gN g' = k + 1 → Rr g' ρ → Cx g' p c m s args cc own → Wo g' M H1 → va_S (ar g') s.heap H1 locs → W p l e Rm s m args below meth c H1 locs (cells + 1) (slots + 42) Q (F0 m (pc + 3) ls (.ref (gA g' k) :: rest))) : W p l e Rm s m args below meth c H locs cells slots Q (F0 m pc ls rest) := by
  refine va_new (ci := 8) (fs := objs (gR g) M 8 k) C.1 C.2.1 C.2.2.2.1 inT8 tyX8 tyX8_ok C.2.2.1 (C.2.2.2.1 _ m1) (C.2.2.2.1 _ m2) (C.2.2.2.1 _ m3) C.2.2.2.2.1 hw.1 hw.2.1 hS C.fresh rfl (fun j hj => ?_) hcells hslots hdg (fun q H1 hP hD hS1 => ?_)
  · have hj2 : j < (tg 8).length := hj
    unfold vp_V
    rw [List.getD_eq_getElem?_getD, objs_get hj2, df8 j hj]
    exact (sv_0 (hF _ (by omega)).1 (by rw [hR.1, (hF _ (by omega)).2]; rfl)).symm
  · have hce : cellE (gC g) (gR g) M (gN g) = .inr (8, objs (gR g) M 8 k) := by
      unfold cellE
      rw [hN, hkd, if_pos (by decide)]
    have hq := kk (gPush g q) H1 gPush_X (by show gN g + 1 = _; rw [hN]) (gPush_R hR) (gPush_X.cx C) (hw.push hce hP hD) (by rw [gPush_X.ar]; exact hS1)
    have ha : gA (gPush g q) k = q := if_pos hN.symm
    rw [ha] at hq
    exact hq
theorem y_pr8 (C : Cx g p c m s args cc own) (hw : Wo g M H) (hS : va_S (ar g) s.heap H locs) (hR : Rr g ρ) (hm : meth.name = "<init>") (ho : own = RX8) (k : Nat) (hk : k < gN g) (hkd : kd k = 8) (j : Nat) (hj : j < 42) (htg : (tg 8).getD j 0 = 1) {idx : Nat} (hl : Cond.fieldLink own idx RX8 (TX8 j).2.1 (TX8 j).2.2.1 ∈ tT) (hfin : (TX8 j).2.2.2 = true) (q : Nat) (hq : q < gN g) {ty : FieldType} (hd : parseFieldDescriptor (TX8 j).2.2.1 = some ty) (hn : ∀ a, narrow ty (.ref a) = .ref a) (hfit : ∀ a, fits ty (.ref a) = true) (hdg : decode cc pc = .ok (.putfield idx, 3))
    (kk : ∀ (g' : Gm) (H1 : Heap) (locs1 : List Loc), GX g g' → gN g' = gN g → Rr g' (stR ρ (1000 * k + j) q) → Cx g' p c m s args cc own → Wo g' M H1 → va_S (ar g') s.heap H1 locs1 → W p l e Rm s m args below meth c H1 locs1 cells slots Q (F0 m (pc + 3) ls rest)) : W p l e Rm s m args below meth c H locs cells slots Q (F0 m pc ls (.ref (gA g q) :: .ref (gA g k) :: rest)) := by
  refine va_putF C.1 C.2.1 C.2.2.2.1 inT8 tyX8 tyX8_ok nmX8 C.2.2.1 C.2.2.2.2.1 hw.1 hw.2.1 hS k (wsl_obj hk hkd (by decide)) rfl j hj (C.2.2.2.1 _ hl) (fun x h => by rw [tcX8] at h; exact h) hfin hm (by rw [tcX8, ho]) hd (hn _) (hfit _) (by rw [objs_len]; exact hj) hdg (fun H1 locs1 hP hD hS1 => ?_)
  have e : (wsl g M).set k (gA g k, .inr (8, (objs (gR g) M 8 k).set j (.ref (gA g q)))) = wsl (gSetR g (1000 * k + j) (gA g q)) M := by
    refine wsl_sR hk (by omega) ?_
    rw [objs_setR hj htg]
    unfold cellE
    rw [hkd, if_pos (by decide)]
  rw [e] at hP hD
  exact kk (gSetR g (1000 * k + j) (gA g q)) H1 locs1 gSetR_X rfl (gSetR_R hR hq) (gSetR_X.cx C) ⟨hP, hD, hw.2.2⟩ hS1
end PY
