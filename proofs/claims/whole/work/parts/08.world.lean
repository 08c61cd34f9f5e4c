/-! numbers: an int on the stack is II a, a whole number a -/
abbrev II (a : Int) : Int32 := Int32.ofInt a
abbrev LL (a : Int) : Int64 := Int64.ofInt a
def rg (a : Int) : Prop := -2147483648 ≤ a ∧ a ≤ 2147483647
theorem II_toInt {a : Int} (h : rg a) : (II a).toInt = a := Int32.toInt_ofInt_of_le (by have := h.1; omega) (by have := h.2; omega)
theorem LL_toInt {a : Int} (h : rg a) : (LL a).toInt = a := Int64.toInt_ofInt_of_le (by have := h.1; omega) (by have := h.2; omega)
theorem II_self (x : Int32) : II x.toInt = x := Int32.ofInt_toInt x
theorem rg_toInt (x : Int32) : rg x.toInt := ⟨by have := Int32.le_toInt x; omega, by have := Int32.toInt_lt x; omega⟩
theorem II_add (a b : Int) : II a + II b = II (a + b) := (Int32.ofInt_add a b).symm
theorem II_sub (a b : Int) : II a - II b = II (a - b) := (Int32.ofInt_sub a b).symm
theorem II_mul (a b : Int) : II a * II b = II (a * b) := (Int32.ofInt_mul a b).symm
theorem II_neg (a : Int) : -II a = II (-a) := (Int32.ofInt_neg a).symm
theorem II_lt {a b : Int} (ha : rg a) (hb : rg b) : II a < II b ↔ a < b := by rw [Int32.lt_iff_toInt_lt, II_toInt ha, II_toInt hb]
theorem II_le {a b : Int} (ha : rg a) (hb : rg b) : II a ≤ II b ↔ a ≤ b := by rw [Int32.le_iff_toInt_le, II_toInt ha, II_toInt hb]
theorem II_eq {a b : Int} (ha : rg a) (hb : rg b) : II a = II b ↔ a = b := by rw [← Int32.toInt_inj, II_toInt ha, II_toInt hb]
theorem rg0 : rg 0 := ⟨by decide, by decide⟩
theorem II_cl {a : Int} (h : rg a) : (II a).toNatClampNeg = a.toNat := by
  show (II a).toInt.toNat = _
  rw [II_toInt h]
theorem II_in {a : Int} {n : Nat} (h0 : 0 ≤ a) (h1 : a < n) (hn : n < 2000) : vp_in (II a) n := by
  have hr : rg a := ⟨by omega, by omega⟩
  rw [vp_in_iff, II_toInt hr]
  exact ⟨h0, h1⟩
/-! the memory: place k's slot j at 1000 * k + j -/
def stM (M : Nat → Int) (n : Nat) (v : Int) : Nat → Int := fun k => if k = n then v else M k
theorem st_s {M : Nat → Int} {n : Nat} {v : Int} : stM M n v n = v := if_pos rfl
theorem st_n {M : Nat → Int} {n k : Nat} {v : Int} (h : k ≠ n) : stM M n v k = M k := if_neg h
theorem st_rg {M : Nat → Int} {n : Nat} {v : Int} (h : ∀ k, rg (M k)) (hv : rg v) : ∀ k, rg (stM M n v k) := by
  intro k
  unfold stM
  split
  · exact hv
  · exact h k
def kdT : List Nat := [7, 2, 1, 11, 3, 3, 3, 3, 3, 3, 3, 3, 6, 13, 9, 9, 9, 9, 9, 9, 13, 9, 9, 9, 9, 9, 9, 9, 9, 13, 9, 9, 9, 9, 9, 9, 9, 13, 9, 9, 9, 9, 9, 9, 9, 4, 9, 9, 9, 1, 11, 3, 3, 3, 3, 3, 3, 3, 3, 0, 12, 9, 5, 9, 5, 9, 5, 9, 5, 9, 8, 9, 9, 9, 9, 9, 9, 9, 9, 9, 10, 9, 9, 9]
def lnT : List Nat := [0, 0, 0, 8, 0, 0, 0, 0, 0, 0, 0, 0, 0, 6, 160, 160, 160, 160, 160, 160, 6, 4, 4, 4, 4, 4, 4, 6, 160, 7, 8, 8, 8, 8, 8, 8, 8, 6, 8, 8, 8, 8, 8, 8, 6, 0, 160, 160, 4, 0, 8, 0, 0, 0, 0, 0, 0, 0, 0, 0, 4, 8, 0, 40, 0, 40, 0, 40, 0, 40, 0, 960, 6, 160, 8, 32, 48, 48, 8, 32, 4, 4, 4, 160]
def kd (k : Nat) : Nat := kdT.getD k 0
def ln (k : Nat) : Nat := lnT.getD k 0
def tg (c : Nat) : List Nat := ([[0, 0], [1, 0, 0, 0, 0], [1, 1, 1, 1, 1, 0, 0, 0], [0, 0, 0, 0, 0], [1, 0, 0, 0, 0, 0, 1, 1, 0], [1, 0, 0], [1, 1, 1, 1, 0], [1, 1, 1, 1, 1, 0, 1, 1, 1], [0, 1, 1, 0, 0, 1, 0, 0, 0, 1, 1, 0, 0, 0, 0, 0, 0, 0, 0, 0, 0, 0, 0, 2, 0, 0, 0, 0, 1, 1, 0, 0, 1, 1, 0, 0, 0, 0, 1, 1, 1, 1]] : List (List Nat)).getD c []
theorem tg_le (c : Nat) : (tg c).length ≤ 42 := by
  unfold tg
  rcases Nat.lt_or_ge c 9 with h | h
  · have : ∀ c, c < 9 → (([[0, 0], [1, 0, 0, 0, 0], [1, 1, 1, 1, 1, 0, 0, 0], [0, 0, 0, 0, 0], [1, 0, 0, 0, 0, 0, 1, 1, 0], [1, 0, 0], [1, 1, 1, 1, 0], [1, 1, 1, 1, 1, 0, 1, 1, 1], [0, 1, 1, 0, 0, 1, 0, 0, 0, 1, 1, 0, 0, 0, 0, 0, 0, 0, 0, 0, 0, 0, 0, 2, 0, 0, 0, 0, 1, 1, 0, 0, 1, 1, 0, 0, 0, 0, 1, 1, 1, 1]] : List (List Nat)).getD c []).length ≤ 42 := by decide
    exact this c h
  · rw [List.getD_eq_getElem?_getD, List.getElem?_eq_none (by simpa using h)]
    exact Nat.zero_le _
def sv (R : Nat → Option Nat) (M : Nat → Int) (t n : Nat) : Value := match t with
  | 0 => .int (II (M n))
  | 1 => va_rf (R n)
  | _ => .long (LL (M n))
def objs (R : Nat → Option Nat) (M : Nat → Int) (ci k : Nat) : List Value := (List.range (tg ci).length).map (fun j => sv R M ((tg ci).getD j 0) (1000 * k + j))
def arI (M : Nat → Int) (k : Nat) : Nat → Int32 := fun j => if j < 1000 then II (M (1000 * k + j)) else 0
def arR (R : Nat → Option Nat) (k : Nat) : Nat → Option Nat := fun j => if j < 1000 then R (1000 * k + j) else none
def cellE (ca : Nat → ClassId) (R : Nat → Option Nat) (M : Nat → Int) (k : Nat) : va_E :=
  if kd k < 9 then .inr (kd k, objs R M (kd k) k)
  else if kd k < 11 then .inl (ca (kd k), ln k, .inl (arI M k))
  else .inl (ca (kd k), ln k, .inr (.inr (.inr (.inr (arR R k)))))
theorem objs_get {R : Nat → Option Nat} {M : Nat → Int} {ci k j : Nat} (h : j < (tg ci).length) : (objs R M ci k)[j]? = some (sv R M ((tg ci).getD j 0) (1000 * k + j)) := by
  unfold objs
  rw [List.getElem?_map, List.getElem?_range h]
  rfl
theorem objs_len {R : Nat → Option Nat} {M : Nat → Int} {ci k : Nat} : (objs R M ci k).length = (tg ci).length := by simp [objs]
theorem objs_st {R : Nat → Option Nat} {M : Nat → Int} {ci k n : Nat} {v : Int} (h : n / 1000 ≠ k) : objs R (stM M n v) ci k = objs R M ci k := by
  unfold objs
  apply List.map_congr_left
  intro j hj
  have hj := List.mem_range.mp hj
  have := tg_le ci
  have hne : 1000 * k + j ≠ n := by omega
  unfold sv
  split <;> simp [stM, hne]
theorem arI_st {M : Nat → Int} {k n : Nat} {v : Int} (h : n / 1000 ≠ k) : arI (stM M n v) k = arI M k := by
  funext j
  unfold arI
  by_cases hj : j < 1000
  · rw [if_pos hj, if_pos hj, st_n (by omega)]
  · rw [if_neg hj, if_neg hj]
theorem cellE_st {ca : Nat → ClassId} {R : Nat → Option Nat} {M : Nat → Int} {k n : Nat} {v : Int} (h : n / 1000 ≠ k) : cellE ca R (stM M n v) k = cellE ca R M k := by
  unfold cellE
  rw [objs_st h, arI_st h]
theorem objs_set {R : Nat → Option Nat} {M : Nat → Int} {ci k j : Nat} {v : Int} {w : Value} (h : j < (tg ci).length) (hw : sv R (stM M (1000 * k + j) v) ((tg ci).getD j 0) (1000 * k + j) = w) : (objs R M ci k).set j w = objs R (stM M (1000 * k + j) v) ci k := by
  apply List.ext_getElem?
  intro i
  by_cases hi : i < (tg ci).length
  · by_cases e : i = j
    · subst e
      rw [List.getElem?_set_self (by rw [objs_len]; exact hi), objs_get hi, hw]
    · rw [List.getElem?_set_ne (Ne.symm e), objs_get hi, objs_get hi]
      unfold sv
      split <;> simp [stM, e]
  · rw [List.getElem?_eq_none (by rw [List.length_set, objs_len]; omega), List.getElem?_eq_none (by rw [objs_len]; omega)]
theorem arI_set {M : Nat → Int} {k j : Nat} {v : Int} (h : j < 1000) : upd (arI M k) j (II v) = arI (stM M (1000 * k + j) v) k := by
  funext i
  unfold upd arI
  by_cases e : i = j
  · subst e
    rw [if_pos rfl, if_pos h, st_s]
  · rw [if_neg e]
    by_cases hi : i < 1000
    · rw [if_pos hi, if_pos hi, st_n (by omega)]
    · rw [if_neg hi, if_neg hi]
/-! the geometry: slots and classes, array classes, the first new address, how many places, their addresses, the references, addresses of what was there before -/
abbrev Gm : Type := va_G × (Nat → ClassId) × Nat × Nat × (Nat → Nat) × (Nat → Option Nat) × (Nat → Nat)
abbrev gD (g : Gm) : va_G := g.1
abbrev gC (g : Gm) : Nat → ClassId := g.2.1
abbrev gB (g : Gm) : Nat := g.2.2.1
abbrev gN (g : Gm) : Nat := g.2.2.2.1
abbrev gA (g : Gm) : Nat → Nat := g.2.2.2.2.1
abbrev gR (g : Gm) : Nat → Option Nat := g.2.2.2.2.2.1
abbrev gX (g : Gm) : Nat → Nat := g.2.2.2.2.2.2
def ar (g : Gm) : Nat → Prop := fun q => gB g ≤ q
def wsl (g : Gm) (M : Nat → Int) : va_W := (List.range (gN g)).map (fun k => (gA g k, cellE (gC g) (gR g) M k))
theorem wsl_get {g : Gm} {M : Nat → Int} {k : Nat} (h : k < gN g) : (wsl g M)[k]? = some (gA g k, cellE (gC g) (gR g) M k) := by
  unfold wsl
  rw [List.getElem?_map, List.getElem?_range h]
  rfl
theorem wsl_obj {g : Gm} {M : Nat → Int} {k ci : Nat} (h : k < gN g) (hk : kd k = ci) (hc : ci < 9) : (wsl g M)[k]? = some (gA g k, .inr (ci, objs (gR g) M ci k)) := by
  rw [wsl_get h]
  unfold cellE
  rw [hk, if_pos hc]
theorem wsl_ai {g : Gm} {M : Nat → Int} {k ci : Nat} (h : k < gN g) (hk : kd k = ci) (hc : ¬ ci < 9) (hc2 : ci < 11) : (wsl g M)[k]? = some (gA g k, .inl (gC g ci, ln k, .inl (arI M k))) := by
  rw [wsl_get h]
  unfold cellE
  rw [hk, if_neg hc, if_pos hc2]
theorem wsl_ar {g : Gm} {M : Nat → Int} {k ci : Nat} (h : k < gN g) (hk : kd k = ci) (hc2 : ¬ ci < 11) : (wsl g M)[k]? = some (gA g k, .inl (gC g ci, ln k, .inr (.inr (.inr (.inr (arR (gR g) k)))))) := by
  rw [wsl_get h]
  unfold cellE
  rw [hk, if_neg (by omega), if_neg hc2]
theorem wsl_st {g : Gm} {M : Nat → Int} {k n : Nat} {v : Int} {q : Nat × va_E} (h : k < gN g) (hn : n / 1000 = k) (hq : q = (gA g k, cellE (gC g) (gR g) (stM M n v) k)) : (wsl g M).set k q = wsl g (stM M n v) := by
  apply List.ext_getElem?
  intro i
  by_cases hi : i < gN g
  · by_cases e : i = k
    · subst e
      rw [List.getElem?_set_self (by simpa [wsl] using hi), wsl_get hi, hq]
    · rw [List.getElem?_set_ne (Ne.symm e), wsl_get hi, wsl_get hi, cellE_st (by omega)]
  · rw [List.getElem?_eq_none (by simpa [wsl] using hi), List.getElem?_eq_none (by simpa [wsl] using hi)]
def Wo (g : Gm) (M : Nat → Int) (H : Heap) : Prop := va_P (gD g) vwCl (wsl g M) H ∧ va_D (ar g) (wsl g M) ∧ ∀ n, rg (M n)
theorem Wo.rg {g : Gm} {M : Nat → Int} {H : Heap} (h : Wo g M H) (n : Nat) : -2147483648 ≤ M n ∧ M n ≤ 2147483647 := h.2.2 n
def tyl (ca : Nat → ClassId) : List (ClassId × FieldType) := [(ca 9, .int), (ca 10, .boolean), (ca 11, .object "RatedBySighs$Person"), (ca 12, .object "RatedBySighs$Sheet"), (ca 13, .array .int)]
/-! what was there before: nest links, static arrays, texts -/
def isNestW : Cond → Bool
  | .fieldLinkNest .. => true
  | .methodLinkNest .. => true
  | _ => false
def nT : List Cond := lw_tbl.filter isNestW
def snT : List String := ["LOWEST", "HIGHEST", "UNDER"]
def stT : List (List Int) := [[0, 0, 0, -20, 0, 0], [999, 9, 4, 20, 63, 5], [-1, 0, 0, 1, 2, 0]]
def sown : List String := ["RatedBySighs", "RatedBySighs$Reader", "RatedBySighs$Reader", "RatedBySighs$Reader", "RatedBySighs$Reader", "RatedBySighs$Reader", "RatedBySighs$Reader", "RatedBySighs$Reader", "RatedBySighs$Reader", "RatedBySighs$Reader", "RatedBySighs$Reader", "RatedBySighs$Reader", "RatedBySighs$Reader"]
def sidx : List Nat := [61, 90, 96, 98, 100, 102, 104, 106, 108, 110, 112, 114, 116]
def stxt : List String := ["sighs 5 - mood ; moods 0 ; pays mood ;", "sighs", "moods", "pays", "or", "and", "not", "mood", "hour", "number", "others", "house", "fools"]
def slen : List Nat := [38, 5, 5, 4, 2, 3, 3, 4, 4, 6, 6, 5, 5]
def sbyt : List (List Int32) := [[115, 105, 103, 104, 115, 32, 53, 32, 45, 32, 109, 111, 111, 100, 32, 59, 32, 109, 111, 111, 100, 115, 32, 48, 32, 59, 32, 112, 97, 121, 115, 32, 109, 111, 111, 100, 32, 59], [115, 105, 103, 104, 115], [109, 111, 111, 100, 115], [112, 97, 121, 115], [111, 114], [97, 110, 100], [110, 111, 116], [109, 111, 111, 100], [104, 111, 117, 114], [110, 117, 109, 98, 101, 114], [111, 116, 104, 101, 114, 115], [104, 111, 117, 115, 101], [102, 111, 111, 108, 115]]
def En (g : Gm) (s : State) : Prop := (∀ w ∈ nT, va_Nw w s) ∧ (∀ i, i < 3 → va_Z "RatedBySighs" (snT.getD i "") "[I" (.ref (gX g i)) (ar g) s s.heap ∧ va_T .int (gX g i) 6 (fun j => .int (II ((stT.getD i []).getD j 0))) (ar g) s s.heap) ∧
  (va_Z "java/lang/String" "COMPACT_STRINGS" "Z" (.int 1) (ar g) s s.heap ∧ vk_S 13 slen sbyt (fun i => gX g (100 + i)) (fun i => gX g (200 + i)) (ar g) s s.heap) ∧ (∀ i, i < 13 → vk_R (sown.getD i "") (sidx.getD i 0) (stxt.getD i "") (gX g (100 + i)) s) ∧ va_Zq "jdk/internal/util/Preconditions" "SIOOBE_FORMATTER" "Ljava/util/function/BiFunction;" (ar g) s s.heap
theorem En.moved {g : Gm} {s U : State} {H : Heap} {locs : List Loc} (h : En g s) (hS : va_S (ar g) s.heap H locs) (hU : U.heap = H) (hW : s.WarmedH U.vm) : En g U := by
  obtain ⟨h1, h2, ⟨h3, h4⟩, h5, h6⟩ := h
  subst hU
  refine ⟨fun w hw => ?_, fun i hi => ⟨(va_Z.moved hW.alike (h2 i hi).1).kept hS.2.1, (va_T.moved hW.alike (h2 i hi).2).kept hS.2.1⟩, ⟨(va_Z.moved hW.alike h3).kept hS.2.1, (vk_S.moved hW.alike h4).kept hS.2.1⟩, fun i hi => (h5 i hi).warm hW, (va_Zq.moved hW.alike h6).kept hS.2.1⟩
  have hz := h1 w hw
  have hn := (List.mem_filter.mp hw).2
  cases w <;> first | exact va_Nw.warmF hW hz | exact va_Nw.warmM hW hz | (simp [isNestW] at hn; done)
theorem En.same {g : Gm} {s U : State} (h : En g s) (hh : U.heap = s.heap) (hv : U.vm = s.vm) : En g U := by
  obtain ⟨h1, h2, ⟨h3, h4⟩, h5, h6⟩ := h
  have ha : s.vm.Alike U.vm := by rw [hv]; exact Vm.Alike.refl _
  rw [← hh] at h2 h3 h4 h6
  refine ⟨fun w hw => ?_, fun i hi => ⟨va_Z.moved ha (h2 i hi).1, va_T.moved ha (h2 i hi).2⟩, ⟨va_Z.moved ha h3, vk_S.moved ha h4⟩, fun i hi => (h5 i hi).same hv, va_Zq.moved ha h6⟩
  have hn := (List.mem_filter.mp hw).2
  refine va_Nw.same ?_ hv.symm (h1 w hw)
  cases w <;> first | rfl | (simp [isNestW] at hn; done)
/-- a method's world at its start -/
def Wd (g : Gm) (M : Nat → Int) (U : State) : Prop := va_K (gD g) vwCl (tyl (gC g)) U ∧ En g U ∧ gB g ≤ U.heap.size ∧ Wo g M U.heap
theorem Wd.blind {g : Gm} {M : Nat → Int} {as : List Value} : FrameBlind (va_Pc as (Wd g M)) := by
  intro a U f mk h
  obtain ⟨h0, h1, h2, h3, h4⟩ := h
  exact ⟨h0, va_K.moved (u := U) (U := U.calling f mk a) (Vm.Alike.refl U.vm) h1, En.same h2 rfl rfl, h3, h4⟩
/-- the fixed things of a method's body -/
def Cx (g : Gm) (p : Program) (c : Code) (m : MethodId) (s : State) (args : Array Value) (cc : ByteArray) (own : String) : Prop :=
  p.tables.exec = Jvm.exec ∧ c.code = cc ∧ s.vm.findClass own = some m.cls ∧ (∀ w ∈ tT, w.before args s = true) ∧ va_K (gD g) vwCl (tyl (gC g)) s ∧ En g s ∧ gB g ≤ s.heap.size
theorem Cx.nest {g : Gm} {p : Program} {c : Code} {m : MethodId} {s : State} {args : Array Value} {cc : ByteArray} {own : String} (C : Cx g p c m s args cc own) {w : Cond} (h : w ∈ lw_tbl) (hn : isNestW w = true) : va_Nw w s := C.2.2.2.2.2.1.1 w (List.mem_filter.mpr ⟨h, hn⟩)
theorem Cx.wd {g : Gm} {p : Program} {c : Code} {m : MethodId} {s U : State} {args : Array Value} {cc : ByteArray} {own : String} {M : Nat → Int} {H : Heap} {locs : List Loc} (C : Cx g p c m s args cc own) (hS : va_S (ar g) s.heap H locs) (hw : Wo g M H) (hU : U.heap = H) (hW : s.WarmedH U.vm) : Wd g M U :=
  ⟨va_K.moved hW.alike C.2.2.2.2.1, C.2.2.2.2.2.1.moved hS hU hW, by rw [hU]; exact Nat.le_trans C.2.2.2.2.2.2 hS.1, by rw [hU]; exact hw⟩
/-! contracts: int (boolean, byte ..), long, void -/
def postI (g : Gm) (post : Int → (Nat → Int) → Prop) : Array Value → State → Outcome → State → Prop := va_Qi (fun r M' => ∃ x, r = II x ∧ rg x ∧ post x M') (fun M' t => Wo g M' t.heap) (ar g)
def postL (g : Gm) (post : Int64 → (Nat → Int) → Prop) : Array Value → State → Outcome → State → Prop := va_Ql post (fun M' t => Wo g M' t.heap) (ar g)
def postV (g : Gm) (post : (Nat → Int) → Prop) : Array Value → State → Outcome → State → Prop := va_Qv post (fun M' t => Wo g M' t.heap) (ar g)
def CI (l : Launch) (y : MethodName) (cd : ByteArray) (mL : Nat) (rt : FieldType) (rm : Room) (g : Gm) (M : Nat → Int) (as : List Value) (post : Int → (Nat → Int) → Prop) : Prop :=
  Met l y (.code y cd mL (some rt) :: tT) rm (va_Pc as (Wd g M)) (postI g post) 0 0 (ar g)
def CL (l : Launch) (y : MethodName) (cd : ByteArray) (mL : Nat) (rm : Room) (g : Gm) (M : Nat → Int) (as : List Value) (post : Int64 → (Nat → Int) → Prop) : Prop :=
  Met l y (.code y cd mL (some .long) :: tT) rm (va_Pc as (Wd g M)) (postL g post) 0 0 (ar g)
def CV (l : Launch) (y : MethodName) (cd : ByteArray) (mL : Nat) (rm : Room) (g : Gm) (M : Nat → Int) (as : List Value) (post : (Nat → Int) → Prop) : Prop :=
  Met l y (.code y cd mL none :: tT) rm (va_Pc as (Wd g M)) (postV g post) 0 0 (ar g)
/-- a room without new cells -/
abbrev rmm (f n : Nat) : Room := { frames := f, cells := 0, slots := 0, locals := n }
theorem c_start {l : Launch} {y : MethodName} {cd : ByteArray} {mL : Nat} {rt : Option FieldType} {rm : Room} {g : Gm} {M : Nat → Int} {as : List Value} {Qc : Array Value → State → Outcome → State → Prop} {mc ms : Nat} (hy : plainName y.cls = true) (hn : (lg_sl as).length ≤ mL)
    (body : ∀ (p : Program) (e : Env) (s : State) (m : MethodId) (below : List Frame) (meth : Method) (c : Code) (ls : Array Slot), Cx g p c m s as.toArray cd y.cls → meth.sig.returnType = rt → meth.locks = false → c.maxLocals = mL → Wo g M s.heap → va_S (ar g) s.heap s.heap [] → lv_has ls mL (lv_args 0 as) →
      W p l e rm s m as.toArray below meth c s.heap [] 0 0 (MQ below Qc as.toArray s mc ms (ar g)) (F0 m 0 ls [])) : Met l y (.code y cd mL rt :: tT) rm (va_Pc as (Wd g M)) Qc mc ms (ar g) := by
  refine Met.ofW (cc := cd) (maxL := mL) (ret := rt) hy rfl ?_
  intro p e s m args below meth c s₁ B hml hv
  obtain ⟨rfl, h1, h2, h3, h4⟩ := hv
  have hts := atoms_spec (ws := .code y cd mL rt :: tT) B.pre
  rw [lg_entry_eq]
  exact body p e s m below meth c _ ⟨B.exec, B.bytes, findClass_of_methodNamed B.named, fun w hw => hts w (List.mem_cons_of_mem _ hw), h1, h2, h3⟩ B.returns B.notSynchronized hml h4 va_S.rf (lv_entry as hn)
section PX
variable {p : Program} {l : Launch} {e : Env} {Rm : Room} {s : State} {m : MethodId} {args : Array Value} {below : List Frame} {meth : Method} {c : Code} {H : Heap} {locs : List Loc} {cells slots : Nat} {Q : State → Prop}
variable {cc : ByteArray} {own : String} {pc : Nat} {ls : Array Slot} {rest : List Value} {g : Gm} {M : Nat → Int}
/-! ends -/
theorem x_ireturn {post : Int → (Nat → Int) → Prop} {x : Int} {M' : Nat → Int} {rt : FieldType} (C : Cx g p c m s args cc own) (hr : meth.sig.returnType = some rt) (hlk : meth.locks = false) (hw : Wo g M' H) (hS : va_S (ar g) s.heap H locs) (hx : rg x) (hn : narrow rt (.int (II x)) = .int (II x)) (hp : post x M') (hdg : decode cc pc = .ok (.ireturn, 1)) :
    W p l e Rm s m args below meth c H locs cells slots (MQ below (postI g post) args s cells slots (ar g)) (F0 m pc ls [.int (II x)]) :=
  W.zret C.1 C.2.1 hr hn (fun t ht _ => ⟨⟨II x, M', rfl, ⟨x, rfl, hx, hp⟩, by show Wo g M' t.heap; rw [ht]; exact hw⟩, hS.F ht⟩) hS.2.2 hdg hlk
theorem x_lreturn {post : Int64 → (Nat → Int) → Prop} {x : Int64} {M' : Nat → Int} (C : Cx g p c m s args cc own) (hr : meth.sig.returnType = some .long) (hlk : meth.locks = false) (hw : Wo g M' H) (hS : va_S (ar g) s.heap H locs) (hp : post x M') (hdg : decode cc pc = .ok (.lreturn, 1)) :
    W p l e Rm s m args below meth c H locs cells slots (MQ below (postL g post) args s cells slots (ar g)) (F0 m pc ls [.long x]) :=
  W.lret C.1 C.2.1 hr (fun t ht _ => ⟨⟨x, M', rfl, hp, by show Wo g M' t.heap; rw [ht]; exact hw⟩, hS.F ht⟩) hS.2.2 hdg hlk
theorem x_return {post : (Nat → Int) → Prop} {M' : Nat → Int} (C : Cx g p c m s args cc own) (hr : meth.sig.returnType = none) (hlk : meth.locks = false) (hw : Wo g M' H) (hS : va_S (ar g) s.heap H locs) (hp : post M') (hdg : decode cc pc = .ok (.return_, 1)) :
    W p l e Rm s m args below meth c H locs cells slots (MQ below (postV g post) args s cells slots (ar g)) (F0 m pc ls []) :=
  W.vret C.1 C.2.1 hr (fun t ht _ => ⟨⟨M', rfl, hp, by show Wo g M' t.heap; rw [ht]; exact hw⟩, hS.F ht⟩) hS.2.2 hdg hlk
/-! arithmetic -/
theorem x_iadd {a b : Int} (C : Cx g p c m s args cc own) (hdg : decode cc pc = .ok (.iadd, 1)) (k : W p l e Rm s m args below meth c H locs cells slots Q (F0 m (pc + 1) ls (.int (II (a + b)) :: rest))) : W p l e Rm s m args below meth c H locs cells slots Q (F0 m pc ls (.int (II b) :: .int (II a) :: rest)) := lv_iadd C.1 C.2.1 hdg (by rw [II_add]; exact k)
theorem x_isub {a b : Int} (C : Cx g p c m s args cc own) (hdg : decode cc pc = .ok (.isub, 1)) (k : W p l e Rm s m args below meth c H locs cells slots Q (F0 m (pc + 1) ls (.int (II (a - b)) :: rest))) : W p l e Rm s m args below meth c H locs cells slots Q (F0 m pc ls (.int (II b) :: .int (II a) :: rest)) := lv_isub C.1 C.2.1 hdg (by rw [II_sub]; exact k)
theorem x_imul {a b : Int} (C : Cx g p c m s args cc own) (hdg : decode cc pc = .ok (.imul, 1)) (k : W p l e Rm s m args below meth c H locs cells slots Q (F0 m (pc + 1) ls (.int (II (a * b)) :: rest))) : W p l e Rm s m args below meth c H locs cells slots Q (F0 m pc ls (.int (II b) :: .int (II a) :: rest)) := lv_imul C.1 C.2.1 hdg (by rw [II_mul]; exact k)
theorem x_ineg {a : Int} (C : Cx g p c m s args cc own) (hdg : decode cc pc = .ok (.ineg, 1)) (k : W p l e Rm s m args below meth c H locs cells slots Q (F0 m (pc + 1) ls (.int (II (-a)) :: rest))) : W p l e Rm s m args below meth c H locs cells slots Q (F0 m pc ls (.int (II a) :: rest)) := lv_ineg C.1 C.2.1 hdg (by rw [II_neg]; exact k)
/-- a number by another name -/
theorem x_top {a b : Int} (h : II a = II b) (k : W p l e Rm s m args below meth c H locs cells slots Q (F0 m pc ls (.int (II b) :: rest))) : W p l e Rm s m args below meth c H locs cells slots Q (F0 m pc ls (.int (II a) :: rest)) := by rw [h]; exact k
/-! branches: of whole numbers in the range -/
theorem x_if_eq {a : Int} (C : Cx g p c m s args cc own) (ha : rg a) {off : Int} {tgt : Nat} (hdg : decode cc pc = .ok (.ifCond .eq off, 3)) (ht : (pc : Int) + off = (tgt : Int)) (kt : a = 0 → W p l e Rm s m args below meth c H locs cells slots Q (F0 m tgt ls rest)) (kf : ¬ a = 0 → W p l e Rm s m args below meth c H locs cells slots Q (F0 m (pc + 3) ls rest)) : W p l e Rm s m args below meth c H locs cells slots Q (F0 m pc ls (.int (II a) :: rest)) := lv_if_eq C.1 C.2.1 hdg ht (fun h => kt ((II_eq ha rg0).mp h)) (fun h => kf (fun q => h ((II_eq ha rg0).mpr q)))
theorem x_if_ne {a : Int} (C : Cx g p c m s args cc own) (ha : rg a) {off : Int} {tgt : Nat} (hdg : decode cc pc = .ok (.ifCond .ne off, 3)) (ht : (pc : Int) + off = (tgt : Int)) (kt : ¬ a = 0 → W p l e Rm s m args below meth c H locs cells slots Q (F0 m tgt ls rest)) (kf : a = 0 → W p l e Rm s m args below meth c H locs cells slots Q (F0 m (pc + 3) ls rest)) : W p l e Rm s m args below meth c H locs cells slots Q (F0 m pc ls (.int (II a) :: rest)) := lv_if_ne C.1 C.2.1 hdg ht (fun h => kt (fun q => h ((II_eq ha rg0).mpr q))) (fun h => kf ((II_eq ha rg0).mp h))
theorem x_if_lt {a : Int} (C : Cx g p c m s args cc own) (ha : rg a) {off : Int} {tgt : Nat} (hdg : decode cc pc = .ok (.ifCond .lt off, 3)) (ht : (pc : Int) + off = (tgt : Int)) (kt : a < 0 → W p l e Rm s m args below meth c H locs cells slots Q (F0 m tgt ls rest)) (kf : ¬ a < 0 → W p l e Rm s m args below meth c H locs cells slots Q (F0 m (pc + 3) ls rest)) : W p l e Rm s m args below meth c H locs cells slots Q (F0 m pc ls (.int (II a) :: rest)) := lv_if_lt C.1 C.2.1 hdg ht (fun h => kt ((II_lt ha rg0).mp h)) (fun h => kf (fun q => h ((II_lt ha rg0).mpr q)))
theorem x_if_ge {a : Int} (C : Cx g p c m s args cc own) (ha : rg a) {off : Int} {tgt : Nat} (hdg : decode cc pc = .ok (.ifCond .ge off, 3)) (ht : (pc : Int) + off = (tgt : Int)) (kt : 0 ≤ a → W p l e Rm s m args below meth c H locs cells slots Q (F0 m tgt ls rest)) (kf : ¬ 0 ≤ a → W p l e Rm s m args below meth c H locs cells slots Q (F0 m (pc + 3) ls rest)) : W p l e Rm s m args below meth c H locs cells slots Q (F0 m pc ls (.int (II a) :: rest)) := lv_if_ge C.1 C.2.1 hdg ht (fun h => kt ((II_le rg0 ha).mp h)) (fun h => kf (fun q => h ((II_le rg0 ha).mpr q)))
theorem x_if_gt {a : Int} (C : Cx g p c m s args cc own) (ha : rg a) {off : Int} {tgt : Nat} (hdg : decode cc pc = .ok (.ifCond .gt off, 3)) (ht : (pc : Int) + off = (tgt : Int)) (kt : 0 < a → W p l e Rm s m args below meth c H locs cells slots Q (F0 m tgt ls rest)) (kf : ¬ 0 < a → W p l e Rm s m args below meth c H locs cells slots Q (F0 m (pc + 3) ls rest)) : W p l e Rm s m args below meth c H locs cells slots Q (F0 m pc ls (.int (II a) :: rest)) := lv_if_gt C.1 C.2.1 hdg ht (fun h => kt ((II_lt rg0 ha).mp h)) (fun h => kf (fun q => h ((II_lt rg0 ha).mpr q)))
theorem x_if_le {a : Int} (C : Cx g p c m s args cc own) (ha : rg a) {off : Int} {tgt : Nat} (hdg : decode cc pc = .ok (.ifCond .le off, 3)) (ht : (pc : Int) + off = (tgt : Int)) (kt : a ≤ 0 → W p l e Rm s m args below meth c H locs cells slots Q (F0 m tgt ls rest)) (kf : ¬ a ≤ 0 → W p l e Rm s m args below meth c H locs cells slots Q (F0 m (pc + 3) ls rest)) : W p l e Rm s m args below meth c H locs cells slots Q (F0 m pc ls (.int (II a) :: rest)) := lv_if_le C.1 C.2.1 hdg ht (fun h => kt ((II_le ha rg0).mp h)) (fun h => kf (fun q => h ((II_le ha rg0).mpr q)))
theorem x_icmp_eq {a b : Int} (C : Cx g p c m s args cc own) (ha : rg a) (hb : rg b) {off : Int} {tgt : Nat} (hdg : decode cc pc = .ok (.if_icmp .eq off, 3)) (ht : (pc : Int) + off = (tgt : Int)) (kt : a = b → W p l e Rm s m args below meth c H locs cells slots Q (F0 m tgt ls rest)) (kf : ¬ a = b → W p l e Rm s m args below meth c H locs cells slots Q (F0 m (pc + 3) ls rest)) : W p l e Rm s m args below meth c H locs cells slots Q (F0 m pc ls (.int (II b) :: .int (II a) :: rest)) := lv_icmp_eq C.1 C.2.1 hdg ht (fun h => kt ((II_eq ha hb).mp h)) (fun h => kf (fun q => h ((II_eq ha hb).mpr q)))
theorem x_icmp_ne {a b : Int} (C : Cx g p c m s args cc own) (ha : rg a) (hb : rg b) {off : Int} {tgt : Nat} (hdg : decode cc pc = .ok (.if_icmp .ne off, 3)) (ht : (pc : Int) + off = (tgt : Int)) (kt : ¬ a = b → W p l e Rm s m args below meth c H locs cells slots Q (F0 m tgt ls rest)) (kf : a = b → W p l e Rm s m args below meth c H locs cells slots Q (F0 m (pc + 3) ls rest)) : W p l e Rm s m args below meth c H locs cells slots Q (F0 m pc ls (.int (II b) :: .int (II a) :: rest)) := lv_icmp_ne C.1 C.2.1 hdg ht (fun h => kt (fun q => h ((II_eq ha hb).mpr q))) (fun h => kf ((II_eq ha hb).mp h))
theorem x_icmp_lt {a b : Int} (C : Cx g p c m s args cc own) (ha : rg a) (hb : rg b) {off : Int} {tgt : Nat} (hdg : decode cc pc = .ok (.if_icmp .lt off, 3)) (ht : (pc : Int) + off = (tgt : Int)) (kt : a < b → W p l e Rm s m args below meth c H locs cells slots Q (F0 m tgt ls rest)) (kf : ¬ a < b → W p l e Rm s m args below meth c H locs cells slots Q (F0 m (pc + 3) ls rest)) : W p l e Rm s m args below meth c H locs cells slots Q (F0 m pc ls (.int (II b) :: .int (II a) :: rest)) := lv_icmp_lt C.1 C.2.1 hdg ht (fun h => kt ((II_lt ha hb).mp h)) (fun h => kf (fun q => h ((II_lt ha hb).mpr q)))
theorem x_icmp_ge {a b : Int} (C : Cx g p c m s args cc own) (ha : rg a) (hb : rg b) {off : Int} {tgt : Nat} (hdg : decode cc pc = .ok (.if_icmp .ge off, 3)) (ht : (pc : Int) + off = (tgt : Int)) (kt : b ≤ a → W p l e Rm s m args below meth c H locs cells slots Q (F0 m tgt ls rest)) (kf : ¬ b ≤ a → W p l e Rm s m args below meth c H locs cells slots Q (F0 m (pc + 3) ls rest)) : W p l e Rm s m args below meth c H locs cells slots Q (F0 m pc ls (.int (II b) :: .int (II a) :: rest)) := lv_icmp_ge C.1 C.2.1 hdg ht (fun h => kt ((II_le hb ha).mp h)) (fun h => kf (fun q => h ((II_le hb ha).mpr q)))
theorem x_icmp_gt {a b : Int} (C : Cx g p c m s args cc own) (ha : rg a) (hb : rg b) {off : Int} {tgt : Nat} (hdg : decode cc pc = .ok (.if_icmp .gt off, 3)) (ht : (pc : Int) + off = (tgt : Int)) (kt : b < a → W p l e Rm s m args below meth c H locs cells slots Q (F0 m tgt ls rest)) (kf : ¬ b < a → W p l e Rm s m args below meth c H locs cells slots Q (F0 m (pc + 3) ls rest)) : W p l e Rm s m args below meth c H locs cells slots Q (F0 m pc ls (.int (II b) :: .int (II a) :: rest)) := lv_icmp_gt C.1 C.2.1 hdg ht (fun h => kt ((II_lt hb ha).mp h)) (fun h => kf (fun q => h ((II_lt hb ha).mpr q)))
theorem x_icmp_le {a b : Int} (C : Cx g p c m s args cc own) (ha : rg a) (hb : rg b) {off : Int} {tgt : Nat} (hdg : decode cc pc = .ok (.if_icmp .le off, 3)) (ht : (pc : Int) + off = (tgt : Int)) (kt : a ≤ b → W p l e Rm s m args below meth c H locs cells slots Q (F0 m tgt ls rest)) (kf : ¬ a ≤ b → W p l e Rm s m args below meth c H locs cells slots Q (F0 m (pc + 3) ls rest)) : W p l e Rm s m args below meth c H locs cells slots Q (F0 m pc ls (.int (II b) :: .int (II a) :: rest)) := lv_icmp_le C.1 C.2.1 hdg ht (fun h => kt ((II_le ha hb).mp h)) (fun h => kf (fun q => h ((II_le ha hb).mpr q)))
/-! arrays of ints -/
theorem x_iaload (C : Cx g p c m s args cc own) (hw : Wo g M H) (k : Nat) (hk : k < gN g) (hkd : kd k = 9) {L : Nat} (hL : ln k = L) {i : Int} (h0 : 0 ≤ i) (h1 : i < L) (hL2 : L < 1000) {x : Int} (hx : M (1000 * k + i.toNat) = x) (hdg : decode cc pc = .ok (.iaload, 1)) (kk : W p l e Rm s m args below meth c H locs cells slots Q (F0 m (pc + 1) ls (.int (II x) :: rest))) : W p l e Rm s m args below meth c H locs cells slots Q (F0 m pc ls (.int (II i) :: .ref (gA g k) :: rest)) := by
  refine va_iald C.1 C.2.1 C.2.2.2.2.1 hw.1 k 0 (wsl_ai hk hkd (by decide) (by decide)) rfl (by rw [hL]; exact II_in h0 h1 (by omega)) hdg ?_
  rw [II_cl ⟨by omega, by omega⟩, arI, if_pos (by omega), hx]
  exact kk
theorem x_iastore (C : Cx g p c m s args cc own) (hw : Wo g M H) (hS : va_S (ar g) s.heap H locs) (k : Nat) (hk : k < gN g) (hkd : kd k = 9) {L : Nat} (hL : ln k = L) {i : Int} (h0 : 0 ≤ i) (h1 : i < L) (hL2 : L < 1000) {x : Int} (hx : rg x) (hdg : decode cc pc = .ok (.iastore, 1)) (kk : ∀ (H1 : Heap) (locs1 : List Loc), Wo g (stM M (1000 * k + i.toNat) x) H1 → va_S (ar g) s.heap H1 locs1 → W p l e Rm s m args below meth c H1 locs1 cells slots Q (F0 m (pc + 1) ls rest)) : W p l e Rm s m args below meth c H locs cells slots Q (F0 m pc ls (.int (II x) :: .int (II i) :: .ref (gA g k) :: rest)) := by
  refine va_iast C.1 C.2.1 C.2.2.2.2.1 hw.1 hw.2.1 hS k 0 (wsl_ai hk hkd (by decide) (by decide)) rfl (by rw [hL]; exact II_in h0 h1 (by omega)) hdg (fun H1 locs1 hP hD hS => ?_)
  have e : (wsl g M).set k (gA g k, .inl (gC g 9, ln k, .inl (upd (arI M k) (II i).toNatClampNeg (II x)))) = wsl g (stM M (1000 * k + i.toNat) x) := by
    refine wsl_st hk (by omega) ?_
    rw [II_cl ⟨by omega, by omega⟩, arI_set (by omega)]
    unfold cellE
    rw [hkd, if_neg (by decide), if_pos (by decide)]
  rw [e] at hP hD
  exact kk H1 locs1 ⟨hP, hD, st_rg hw.2.2 hx⟩ hS
theorem x_baload (C : Cx g p c m s args cc own) (hw : Wo g M H) (k : Nat) (hk : k < gN g) (hkd : kd k = 10) {L : Nat} (hL : ln k = L) {i : Int} (h0 : 0 ≤ i) (h1 : i < L) (hL2 : L < 1000) {x : Int} (hx : M (1000 * k + i.toNat) = x) (hdg : decode cc pc = .ok (.baload, 1)) (kk : W p l e Rm s m args below meth c H locs cells slots Q (F0 m (pc + 1) ls (.int (II x) :: rest))) : W p l e Rm s m args below meth c H locs cells slots Q (F0 m pc ls (.int (II i) :: .ref (gA g k) :: rest)) := by
  refine va_zald C.1 C.2.1 C.2.2.2.2.1 hw.1 k 1 (wsl_ai hk hkd (by decide) (by decide)) rfl (by rw [hL]; exact II_in h0 h1 (by omega)) hdg ?_
  rw [II_cl ⟨by omega, by omega⟩, arI, if_pos (by omega), hx]
  exact kk
/-! arrays of references -/
theorem x_aaload (C : Cx g p c m s args cc own) (hw : Wo g M H) (k : Nat) (hk : k < gN g) (ci : Nat) (hkd : kd k = ci) (hci : ci = 11 ∨ ci = 12 ∨ ci = 13) {L : Nat} (hL : ln k = L) {i : Int} (h0 : 0 ≤ i) (h1 : i < L) (hL2 : L < 1000) {b : Nat} (hx : gR g (1000 * k + i.toNat) = some b) (hdg : decode cc pc = .ok (.aaload, 1)) (kk : W p l e Rm s m args below meth c H locs cells slots Q (F0 m (pc + 1) ls (.ref b :: rest))) : W p l e Rm s m args below meth c H locs cells slots Q (F0 m pc ls (.int (II i) :: .ref (gA g k) :: rest)) := by
  have hv : va_rf (arR (gR g) k (II i).toNatClampNeg) = .ref b := by
    rw [II_cl ⟨by omega, by omega⟩, arR, if_pos (by omega), hx]
    rfl
  have hlt : (II i).toNatClampNeg < ln k := by
    rw [II_cl ⟨by omega, by omega⟩]
    omega
  have hi : ¬ (II i < 0 ∨ ln k ≤ (II i).toNatClampNeg) := by rw [hL]; exact II_in h0 h1 (by omega)
  have hP := hw.1 k _ (wsl_ar hk hkd (by omega))
  have hA : ∃ ty, refKind ty = true ∧ ArrOfT s (gC g ci) ty := by
    rcases hci with rfl | rfl | rfl
    · exact ⟨_, rfl, (C.2.2.2.2.1.2 2 _ rfl).1⟩
    · exact ⟨_, rfl, (C.2.2.2.2.1.2 3 _ rfl).1⟩
    · exact ⟨_, rfl, (C.2.2.2.2.1.2 4 _ rfl).1⟩
  obtain ⟨ty, hrk, hAr⟩ := hA
  exact W.aald (v := .ref b) (ty := ty) C.1 C.2.1 hP (hAr _ _) hrk (fun q => by cases q) (by show ¬ (II i < 0 ∨ (arrV _ _ _).slots.size ≤ _); rw [arrV_size]; exact hi) (by show (arrV _ _ _).slots[_]? = _; rw [arrV_read _ _ hlt, hv]) rfl rfl hdg kk
theorem tcX0 (j : Nat) : (TX0 j).1 = RX0 := by unfold TX0; split <;> rfl
theorem g0 (C : Cx g p c m s args cc own) (hw : Wo g M H) (k : Nat) (hk : k < gN g) (hkd : kd k = 0) (j : Nat) (hj : j < 2) {idx : Nat} (hl : Cond.fieldLink own idx RX0 (TX0 j).2.1 (TX0 j).2.2.1 ∈ tT) {v : Value} (hv : sv (gR g) M ((tg 0).getD j 0) (1000 * k + j) = v) (hdg : decode cc pc = .ok (.getfield idx, 3))
    (kk : W p l e Rm s m args below meth c H locs cells slots Q (F0 m (pc + 3) ls (v :: rest))) : W p l e Rm s m args below meth c H locs cells slots Q (F0 m pc ls (.ref (gA g k) :: rest)) :=
  va_get C.1 C.2.1 C.2.2.2.1 inT0 C.2.2.1 C.2.2.2.2.1 hw.1 k (wsl_obj hk hkd (by decide)) rfl j hj (C.2.2.2.1 _ hl) (fun x h => by rw [tcX0] at h; exact h) (by rw [objs_get hj, hv]) hdg kk
theorem gn0 (C : Cx g p c m s args cc own) (hw : Wo g M H) (k : Nat) (hk : k < gN g) (hkd : kd k = 0) (j : Nat) (hj : j < 2) {idx : Nat} (hl : Cond.fieldLinkNest own idx RX0 (TX0 j).2.1 (TX0 j).2.2.1 "RatedBySighs" ∈ lw_tbl) {v : Value} (hv : sv (gR g) M ((tg 0).getD j 0) (1000 * k + j) = v) (hdg : decode cc pc = .ok (.getfield idx, 3))
    (kk : W p l e Rm s m args below meth c H locs cells slots Q (F0 m (pc + 3) ls (v :: rest))) : W p l e Rm s m args below meth c H locs cells slots Q (F0 m pc ls (.ref (gA g k) :: rest)) :=
  va_getN C.1 C.2.1 C.2.2.2.1 inT0 C.2.2.1 C.2.2.2.2.1 hw.1 k (wsl_obj hk hkd (by decide)) rfl j hj (va_Nw.use rfl (C.nest hl rfl)) (fun x h => by rw [tcX0] at h; exact h) (by rw [objs_get hj, hv]) hdg kk
theorem e0 {k j : Nat} {x : Int} {v : Value} (hk : k < gN g) (hkd : kd k = 0) (hj : j < 2) (hv : sv (gR g) (stM M (1000 * k + j) x) ((tg 0).getD j 0) (1000 * k + j) = v) : (wsl g M).set k (gA g k, .inr (0, (objs (gR g) M 0 k).set j v)) = wsl g (stM M (1000 * k + j) x) := by
  refine wsl_st hk (by omega) ?_
  rw [objs_set hj hv]
  unfold cellE
  rw [hkd, if_pos (by decide)]
theorem p0 (C : Cx g p c m s args cc own) (hw : Wo g M H) (hS : va_S (ar g) s.heap H locs) (k : Nat) (hk : k < gN g) (hkd : kd k = 0) (j : Nat) (hj : j < 2) {idx : Nat} (hl : Cond.fieldLink own idx RX0 (TX0 j).2.1 (TX0 j).2.2.1 ∈ tT) (hfin : (TX0 j).2.2.2 = false) {x : Int} {v : Value} (hx : rg x) (hv : sv (gR g) (stM M (1000 * k + j) x) ((tg 0).getD j 0) (1000 * k + j) = v) {ty : FieldType} (hd : parseFieldDescriptor (TX0 j).2.2.1 = some ty) (hn : narrow ty v = v) (hfit : fits ty v = true) (hdg : decode cc pc = .ok (.putfield idx, 3))
    (kk : ∀ (H1 : Heap) (locs1 : List Loc), Wo g (stM M (1000 * k + j) x) H1 → va_S (ar g) s.heap H1 locs1 → W p l e Rm s m args below meth c H1 locs1 cells slots Q (F0 m (pc + 3) ls rest)) : W p l e Rm s m args below meth c H locs cells slots Q (F0 m pc ls (v :: .ref (gA g k) :: rest)) := by
  refine va_put C.1 C.2.1 C.2.2.2.1 inT0 tyX0 tyX0_ok nmX0 C.2.2.1 C.2.2.2.2.1 hw.1 hw.2.1 hS k (wsl_obj hk hkd (by decide)) rfl j hj (C.2.2.2.1 _ hl) (fun x h => by rw [tcX0] at h; exact h) hfin hd hn hfit (by rw [objs_len]; exact hj) hdg (fun H1 locs1 hP hD hS => ?_)
  rw [e0 hk hkd hj hv] at hP hD
  exact kk H1 locs1 ⟨hP, hD, st_rg hw.2.2 hx⟩ hS
theorem pn0 (C : Cx g p c m s args cc own) (hw : Wo g M H) (hS : va_S (ar g) s.heap H locs) (k : Nat) (hk : k < gN g) (hkd : kd k = 0) (j : Nat) (hj : j < 2) {idx : Nat} (hl : Cond.fieldLinkNest own idx RX0 (TX0 j).2.1 (TX0 j).2.2.1 "RatedBySighs" ∈ lw_tbl) (hfin : (TX0 j).2.2.2 = false) {x : Int} {v : Value} (hx : rg x) (hv : sv (gR g) (stM M (1000 * k + j) x) ((tg 0).getD j 0) (1000 * k + j) = v) {ty : FieldType} (hd : parseFieldDescriptor (TX0 j).2.2.1 = some ty) (hn : narrow ty v = v) (hfit : fits ty v = true) (hdg : decode cc pc = .ok (.putfield idx, 3))
    (kk : ∀ (H1 : Heap) (locs1 : List Loc), Wo g (stM M (1000 * k + j) x) H1 → va_S (ar g) s.heap H1 locs1 → W p l e Rm s m args below meth c H1 locs1 cells slots Q (F0 m (pc + 3) ls rest)) : W p l e Rm s m args below meth c H locs cells slots Q (F0 m pc ls (v :: .ref (gA g k) :: rest)) := by
  refine va_putN C.1 C.2.1 C.2.2.2.1 inT0 tyX0 tyX0_ok nmX0 C.2.2.1 C.2.2.2.2.1 hw.1 hw.2.1 hS k (wsl_obj hk hkd (by decide)) rfl j hj (va_Nw.use rfl (C.nest hl rfl)) (fun x h => by rw [tcX0] at h; exact h) hfin hd hn hfit (by rw [objs_len]; exact hj) hdg (fun H1 locs1 hP hD hS => ?_)
  rw [e0 hk hkd hj hv] at hP hD
  exact kk H1 locs1 ⟨hP, hD, st_rg hw.2.2 hx⟩ hS

theorem tcX1 (j : Nat) : (TX1 j).1 = RX1 := by unfold TX1; split <;> rfl
theorem g1 (C : Cx g p c m s args cc own) (hw : Wo g M H) (k : Nat) (hk : k < gN g) (hkd : kd k = 1) (j : Nat) (hj : j < 5) {idx : Nat} (hl : Cond.fieldLink own idx RX1 (TX1 j).2.1 (TX1 j).2.2.1 ∈ tT) {v : Value} (hv : sv (gR g) M ((tg 1).getD j 0) (1000 * k + j) = v) (hdg : decode cc pc = .ok (.getfield idx, 3))
    (kk : W p l e Rm s m args below meth c H locs cells slots Q (F0 m (pc + 3) ls (v :: rest))) : W p l e Rm s m args below meth c H locs cells slots Q (F0 m pc ls (.ref (gA g k) :: rest)) :=
  va_get C.1 C.2.1 C.2.2.2.1 inT1 C.2.2.1 C.2.2.2.2.1 hw.1 k (wsl_obj hk hkd (by decide)) rfl j hj (C.2.2.2.1 _ hl) (fun x h => by rw [tcX1] at h; exact h) (by rw [objs_get hj, hv]) hdg kk
theorem gn1 (C : Cx g p c m s args cc own) (hw : Wo g M H) (k : Nat) (hk : k < gN g) (hkd : kd k = 1) (j : Nat) (hj : j < 5) {idx : Nat} (hl : Cond.fieldLinkNest own idx RX1 (TX1 j).2.1 (TX1 j).2.2.1 "RatedBySighs" ∈ lw_tbl) {v : Value} (hv : sv (gR g) M ((tg 1).getD j 0) (1000 * k + j) = v) (hdg : decode cc pc = .ok (.getfield idx, 3))
    (kk : W p l e Rm s m args below meth c H locs cells slots Q (F0 m (pc + 3) ls (v :: rest))) : W p l e Rm s m args below meth c H locs cells slots Q (F0 m pc ls (.ref (gA g k) :: rest)) :=
  va_getN C.1 C.2.1 C.2.2.2.1 inT1 C.2.2.1 C.2.2.2.2.1 hw.1 k (wsl_obj hk hkd (by decide)) rfl j hj (va_Nw.use rfl (C.nest hl rfl)) (fun x h => by rw [tcX1] at h; exact h) (by rw [objs_get hj, hv]) hdg kk
theorem e1 {k j : Nat} {x : Int} {v : Value} (hk : k < gN g) (hkd : kd k = 1) (hj : j < 5) (hv : sv (gR g) (stM M (1000 * k + j) x) ((tg 1).getD j 0) (1000 * k + j) = v) : (wsl g M).set k (gA g k, .inr (1, (objs (gR g) M 1 k).set j v)) = wsl g (stM M (1000 * k + j) x) := by
  refine wsl_st hk (by omega) ?_
  rw [objs_set hj hv]
  unfold cellE
  rw [hkd, if_pos (by decide)]
theorem p1 (C : Cx g p c m s args cc own) (hw : Wo g M H) (hS : va_S (ar g) s.heap H locs) (k : Nat) (hk : k < gN g) (hkd : kd k = 1) (j : Nat) (hj : j < 5) {idx : Nat} (hl : Cond.fieldLink own idx RX1 (TX1 j).2.1 (TX1 j).2.2.1 ∈ tT) (hfin : (TX1 j).2.2.2 = false) {x : Int} {v : Value} (hx : rg x) (hv : sv (gR g) (stM M (1000 * k + j) x) ((tg 1).getD j 0) (1000 * k + j) = v) {ty : FieldType} (hd : parseFieldDescriptor (TX1 j).2.2.1 = some ty) (hn : narrow ty v = v) (hfit : fits ty v = true) (hdg : decode cc pc = .ok (.putfield idx, 3))
    (kk : ∀ (H1 : Heap) (locs1 : List Loc), Wo g (stM M (1000 * k + j) x) H1 → va_S (ar g) s.heap H1 locs1 → W p l e Rm s m args below meth c H1 locs1 cells slots Q (F0 m (pc + 3) ls rest)) : W p l e Rm s m args below meth c H locs cells slots Q (F0 m pc ls (v :: .ref (gA g k) :: rest)) := by
  refine va_put C.1 C.2.1 C.2.2.2.1 inT1 tyX1 tyX1_ok nmX1 C.2.2.1 C.2.2.2.2.1 hw.1 hw.2.1 hS k (wsl_obj hk hkd (by decide)) rfl j hj (C.2.2.2.1 _ hl) (fun x h => by rw [tcX1] at h; exact h) hfin hd hn hfit (by rw [objs_len]; exact hj) hdg (fun H1 locs1 hP hD hS => ?_)
  rw [e1 hk hkd hj hv] at hP hD
  exact kk H1 locs1 ⟨hP, hD, st_rg hw.2.2 hx⟩ hS
theorem pn1 (C : Cx g p c m s args cc own) (hw : Wo g M H) (hS : va_S (ar g) s.heap H locs) (k : Nat) (hk : k < gN g) (hkd : kd k = 1) (j : Nat) (hj : j < 5) {idx : Nat} (hl : Cond.fieldLinkNest own idx RX1 (TX1 j).2.1 (TX1 j).2.2.1 "RatedBySighs" ∈ lw_tbl) (hfin : (TX1 j).2.2.2 = false) {x : Int} {v : Value} (hx : rg x) (hv : sv (gR g) (stM M (1000 * k + j) x) ((tg 1).getD j 0) (1000 * k + j) = v) {ty : FieldType} (hd : parseFieldDescriptor (TX1 j).2.2.1 = some ty) (hn : narrow ty v = v) (hfit : fits ty v = true) (hdg : decode cc pc = .ok (.putfield idx, 3))
    (kk : ∀ (H1 : Heap) (locs1 : List Loc), Wo g (stM M (1000 * k + j) x) H1 → va_S (ar g) s.heap H1 locs1 → W p l e Rm s m args below meth c H1 locs1 cells slots Q (F0 m (pc + 3) ls rest)) : W p l e Rm s m args below meth c H locs cells slots Q (F0 m pc ls (v :: .ref (gA g k) :: rest)) := by
  refine va_putN C.1 C.2.1 C.2.2.2.1 inT1 tyX1 tyX1_ok nmX1 C.2.2.1 C.2.2.2.2.1 hw.1 hw.2.1 hS k (wsl_obj hk hkd (by decide)) rfl j hj (va_Nw.use rfl (C.nest hl rfl)) (fun x h => by rw [tcX1] at h; exact h) hfin hd hn hfit (by rw [objs_len]; exact hj) hdg (fun H1 locs1 hP hD hS => ?_)
  rw [e1 hk hkd hj hv] at hP hD
  exact kk H1 locs1 ⟨hP, hD, st_rg hw.2.2 hx⟩ hS

theorem tcX2 (j : Nat) : (TX2 j).1 = RX2 := by unfold TX2; split <;> rfl
theorem g2 (C : Cx g p c m s args cc own) (hw : Wo g M H) (k : Nat) (hk : k < gN g) (hkd : kd k = 2) (j : Nat) (hj : j < 8) {idx : Nat} (hl : Cond.fieldLink own idx RX2 (TX2 j).2.1 (TX2 j).2.2.1 ∈ tT) {v : Value} (hv : sv (gR g) M ((tg 2).getD j 0) (1000 * k + j) = v) (hdg : decode cc pc = .ok (.getfield idx, 3))
    (kk : W p l e Rm s m args below meth c H locs cells slots Q (F0 m (pc + 3) ls (v :: rest))) : W p l e Rm s m args below meth c H locs cells slots Q (F0 m pc ls (.ref (gA g k) :: rest)) :=
  va_get C.1 C.2.1 C.2.2.2.1 inT2 C.2.2.1 C.2.2.2.2.1 hw.1 k (wsl_obj hk hkd (by decide)) rfl j hj (C.2.2.2.1 _ hl) (fun x h => by rw [tcX2] at h; exact h) (by rw [objs_get hj, hv]) hdg kk
theorem gn2 (C : Cx g p c m s args cc own) (hw : Wo g M H) (k : Nat) (hk : k < gN g) (hkd : kd k = 2) (j : Nat) (hj : j < 8) {idx : Nat} (hl : Cond.fieldLinkNest own idx RX2 (TX2 j).2.1 (TX2 j).2.2.1 "RatedBySighs" ∈ lw_tbl) {v : Value} (hv : sv (gR g) M ((tg 2).getD j 0) (1000 * k + j) = v) (hdg : decode cc pc = .ok (.getfield idx, 3))
    (kk : W p l e Rm s m args below meth c H locs cells slots Q (F0 m (pc + 3) ls (v :: rest))) : W p l e Rm s m args below meth c H locs cells slots Q (F0 m pc ls (.ref (gA g k) :: rest)) :=
  va_getN C.1 C.2.1 C.2.2.2.1 inT2 C.2.2.1 C.2.2.2.2.1 hw.1 k (wsl_obj hk hkd (by decide)) rfl j hj (va_Nw.use rfl (C.nest hl rfl)) (fun x h => by rw [tcX2] at h; exact h) (by rw [objs_get hj, hv]) hdg kk
theorem e2 {k j : Nat} {x : Int} {v : Value} (hk : k < gN g) (hkd : kd k = 2) (hj : j < 8) (hv : sv (gR g) (stM M (1000 * k + j) x) ((tg 2).getD j 0) (1000 * k + j) = v) : (wsl g M).set k (gA g k, .inr (2, (objs (gR g) M 2 k).set j v)) = wsl g (stM M (1000 * k + j) x) := by
  refine wsl_st hk (by omega) ?_
  rw [objs_set hj hv]
  unfold cellE
  rw [hkd, if_pos (by decide)]
theorem p2 (C : Cx g p c m s args cc own) (hw : Wo g M H) (hS : va_S (ar g) s.heap H locs) (k : Nat) (hk : k < gN g) (hkd : kd k = 2) (j : Nat) (hj : j < 8) {idx : Nat} (hl : Cond.fieldLink own idx RX2 (TX2 j).2.1 (TX2 j).2.2.1 ∈ tT) (hfin : (TX2 j).2.2.2 = false) {x : Int} {v : Value} (hx : rg x) (hv : sv (gR g) (stM M (1000 * k + j) x) ((tg 2).getD j 0) (1000 * k + j) = v) {ty : FieldType} (hd : parseFieldDescriptor (TX2 j).2.2.1 = some ty) (hn : narrow ty v = v) (hfit : fits ty v = true) (hdg : decode cc pc = .ok (.putfield idx, 3))
    (kk : ∀ (H1 : Heap) (locs1 : List Loc), Wo g (stM M (1000 * k + j) x) H1 → va_S (ar g) s.heap H1 locs1 → W p l e Rm s m args below meth c H1 locs1 cells slots Q (F0 m (pc + 3) ls rest)) : W p l e Rm s m args below meth c H locs cells slots Q (F0 m pc ls (v :: .ref (gA g k) :: rest)) := by
  refine va_put C.1 C.2.1 C.2.2.2.1 inT2 tyX2 tyX2_ok nmX2 C.2.2.1 C.2.2.2.2.1 hw.1 hw.2.1 hS k (wsl_obj hk hkd (by decide)) rfl j hj (C.2.2.2.1 _ hl) (fun x h => by rw [tcX2] at h; exact h) hfin hd hn hfit (by rw [objs_len]; exact hj) hdg (fun H1 locs1 hP hD hS => ?_)
  rw [e2 hk hkd hj hv] at hP hD
  exact kk H1 locs1 ⟨hP, hD, st_rg hw.2.2 hx⟩ hS
theorem pn2 (C : Cx g p c m s args cc own) (hw : Wo g M H) (hS : va_S (ar g) s.heap H locs) (k : Nat) (hk : k < gN g) (hkd : kd k = 2) (j : Nat) (hj : j < 8) {idx : Nat} (hl : Cond.fieldLinkNest own idx RX2 (TX2 j).2.1 (TX2 j).2.2.1 "RatedBySighs" ∈ lw_tbl) (hfin : (TX2 j).2.2.2 = false) {x : Int} {v : Value} (hx : rg x) (hv : sv (gR g) (stM M (1000 * k + j) x) ((tg 2).getD j 0) (1000 * k + j) = v) {ty : FieldType} (hd : parseFieldDescriptor (TX2 j).2.2.1 = some ty) (hn : narrow ty v = v) (hfit : fits ty v = true) (hdg : decode cc pc = .ok (.putfield idx, 3))
    (kk : ∀ (H1 : Heap) (locs1 : List Loc), Wo g (stM M (1000 * k + j) x) H1 → va_S (ar g) s.heap H1 locs1 → W p l e Rm s m args below meth c H1 locs1 cells slots Q (F0 m (pc + 3) ls rest)) : W p l e Rm s m args below meth c H locs cells slots Q (F0 m pc ls (v :: .ref (gA g k) :: rest)) := by
  refine va_putN C.1 C.2.1 C.2.2.2.1 inT2 tyX2 tyX2_ok nmX2 C.2.2.1 C.2.2.2.2.1 hw.1 hw.2.1 hS k (wsl_obj hk hkd (by decide)) rfl j hj (va_Nw.use rfl (C.nest hl rfl)) (fun x h => by rw [tcX2] at h; exact h) hfin hd hn hfit (by rw [objs_len]; exact hj) hdg (fun H1 locs1 hP hD hS => ?_)
  rw [e2 hk hkd hj hv] at hP hD
  exact kk H1 locs1 ⟨hP, hD, st_rg hw.2.2 hx⟩ hS

theorem tcX3 (j : Nat) : (TX3 j).1 = RX3 := by unfold TX3; split <;> rfl
theorem g3 (C : Cx g p c m s args cc own) (hw : Wo g M H) (k : Nat) (hk : k < gN g) (hkd : kd k = 3) (j : Nat) (hj : j < 5) {idx : Nat} (hl : Cond.fieldLink own idx RX3 (TX3 j).2.1 (TX3 j).2.2.1 ∈ tT) {v : Value} (hv : sv (gR g) M ((tg 3).getD j 0) (1000 * k + j) = v) (hdg : decode cc pc = .ok (.getfield idx, 3))
    (kk : W p l e Rm s m args below meth c H locs cells slots Q (F0 m (pc + 3) ls (v :: rest))) : W p l e Rm s m args below meth c H locs cells slots Q (F0 m pc ls (.ref (gA g k) :: rest)) :=
  va_get C.1 C.2.1 C.2.2.2.1 inT3 C.2.2.1 C.2.2.2.2.1 hw.1 k (wsl_obj hk hkd (by decide)) rfl j hj (C.2.2.2.1 _ hl) (fun x h => by rw [tcX3] at h; exact h) (by rw [objs_get hj, hv]) hdg kk
theorem gn3 (C : Cx g p c m s args cc own) (hw : Wo g M H) (k : Nat) (hk : k < gN g) (hkd : kd k = 3) (j : Nat) (hj : j < 5) {idx : Nat} (hl : Cond.fieldLinkNest own idx RX3 (TX3 j).2.1 (TX3 j).2.2.1 "RatedBySighs" ∈ lw_tbl) {v : Value} (hv : sv (gR g) M ((tg 3).getD j 0) (1000 * k + j) = v) (hdg : decode cc pc = .ok (.getfield idx, 3))
    (kk : W p l e Rm s m args below meth c H locs cells slots Q (F0 m (pc + 3) ls (v :: rest))) : W p l e Rm s m args below meth c H locs cells slots Q (F0 m pc ls (.ref (gA g k) :: rest)) :=
  va_getN C.1 C.2.1 C.2.2.2.1 inT3 C.2.2.1 C.2.2.2.2.1 hw.1 k (wsl_obj hk hkd (by decide)) rfl j hj (va_Nw.use rfl (C.nest hl rfl)) (fun x h => by rw [tcX3] at h; exact h) (by rw [objs_get hj, hv]) hdg kk
theorem e3 {k j : Nat} {x : Int} {v : Value} (hk : k < gN g) (hkd : kd k = 3) (hj : j < 5) (hv : sv (gR g) (stM M (1000 * k + j) x) ((tg 3).getD j 0) (1000 * k + j) = v) : (wsl g M).set k (gA g k, .inr (3, (objs (gR g) M 3 k).set j v)) = wsl g (stM M (1000 * k + j) x) := by
  refine wsl_st hk (by omega) ?_
  rw [objs_set hj hv]
  unfold cellE
  rw [hkd, if_pos (by decide)]
theorem p3 (C : Cx g p c m s args cc own) (hw : Wo g M H) (hS : va_S (ar g) s.heap H locs) (k : Nat) (hk : k < gN g) (hkd : kd k = 3) (j : Nat) (hj : j < 5) {idx : Nat} (hl : Cond.fieldLink own idx RX3 (TX3 j).2.1 (TX3 j).2.2.1 ∈ tT) (hfin : (TX3 j).2.2.2 = false) {x : Int} {v : Value} (hx : rg x) (hv : sv (gR g) (stM M (1000 * k + j) x) ((tg 3).getD j 0) (1000 * k + j) = v) {ty : FieldType} (hd : parseFieldDescriptor (TX3 j).2.2.1 = some ty) (hn : narrow ty v = v) (hfit : fits ty v = true) (hdg : decode cc pc = .ok (.putfield idx, 3))
    (kk : ∀ (H1 : Heap) (locs1 : List Loc), Wo g (stM M (1000 * k + j) x) H1 → va_S (ar g) s.heap H1 locs1 → W p l e Rm s m args below meth c H1 locs1 cells slots Q (F0 m (pc + 3) ls rest)) : W p l e Rm s m args below meth c H locs cells slots Q (F0 m pc ls (v :: .ref (gA g k) :: rest)) := by
  refine va_put C.1 C.2.1 C.2.2.2.1 inT3 tyX3 tyX3_ok nmX3 C.2.2.1 C.2.2.2.2.1 hw.1 hw.2.1 hS k (wsl_obj hk hkd (by decide)) rfl j hj (C.2.2.2.1 _ hl) (fun x h => by rw [tcX3] at h; exact h) hfin hd hn hfit (by rw [objs_len]; exact hj) hdg (fun H1 locs1 hP hD hS => ?_)
  rw [e3 hk hkd hj hv] at hP hD
  exact kk H1 locs1 ⟨hP, hD, st_rg hw.2.2 hx⟩ hS
theorem pn3 (C : Cx g p c m s args cc own) (hw : Wo g M H) (hS : va_S (ar g) s.heap H locs) (k : Nat) (hk : k < gN g) (hkd : kd k = 3) (j : Nat) (hj : j < 5) {idx : Nat} (hl : Cond.fieldLinkNest own idx RX3 (TX3 j).2.1 (TX3 j).2.2.1 "RatedBySighs" ∈ lw_tbl) (hfin : (TX3 j).2.2.2 = false) {x : Int} {v : Value} (hx : rg x) (hv : sv (gR g) (stM M (1000 * k + j) x) ((tg 3).getD j 0) (1000 * k + j) = v) {ty : FieldType} (hd : parseFieldDescriptor (TX3 j).2.2.1 = some ty) (hn : narrow ty v = v) (hfit : fits ty v = true) (hdg : decode cc pc = .ok (.putfield idx, 3))
    (kk : ∀ (H1 : Heap) (locs1 : List Loc), Wo g (stM M (1000 * k + j) x) H1 → va_S (ar g) s.heap H1 locs1 → W p l e Rm s m args below meth c H1 locs1 cells slots Q (F0 m (pc + 3) ls rest)) : W p l e Rm s m args below meth c H locs cells slots Q (F0 m pc ls (v :: .ref (gA g k) :: rest)) := by
  refine va_putN C.1 C.2.1 C.2.2.2.1 inT3 tyX3 tyX3_ok nmX3 C.2.2.1 C.2.2.2.2.1 hw.1 hw.2.1 hS k (wsl_obj hk hkd (by decide)) rfl j hj (va_Nw.use rfl (C.nest hl rfl)) (fun x h => by rw [tcX3] at h; exact h) hfin hd hn hfit (by rw [objs_len]; exact hj) hdg (fun H1 locs1 hP hD hS => ?_)
  rw [e3 hk hkd hj hv] at hP hD
  exact kk H1 locs1 ⟨hP, hD, st_rg hw.2.2 hx⟩ hS

theorem tcX4 (j : Nat) : (TX4 j).1 = RX4 := by unfold TX4; split <;> rfl
theorem g4 (C : Cx g p c m s args cc own) (hw : Wo g M H) (k : Nat) (hk : k < gN g) (hkd : kd k = 4) (j : Nat) (hj : j < 9) {idx : Nat} (hl : Cond.fieldLink own idx RX4 (TX4 j).2.1 (TX4 j).2.2.1 ∈ tT) {v : Value} (hv : sv (gR g) M ((tg 4).getD j 0) (1000 * k + j) = v) (hdg : decode cc pc = .ok (.getfield idx, 3))
    (kk : W p l e Rm s m args below meth c H locs cells slots Q (F0 m (pc + 3) ls (v :: rest))) : W p l e Rm s m args below meth c H locs cells slots Q (F0 m pc ls (.ref (gA g k) :: rest)) :=
  va_get C.1 C.2.1 C.2.2.2.1 inT4 C.2.2.1 C.2.2.2.2.1 hw.1 k (wsl_obj hk hkd (by decide)) rfl j hj (C.2.2.2.1 _ hl) (fun x h => by rw [tcX4] at h; exact h) (by rw [objs_get hj, hv]) hdg kk
theorem gn4 (C : Cx g p c m s args cc own) (hw : Wo g M H) (k : Nat) (hk : k < gN g) (hkd : kd k = 4) (j : Nat) (hj : j < 9) {idx : Nat} (hl : Cond.fieldLinkNest own idx RX4 (TX4 j).2.1 (TX4 j).2.2.1 "RatedBySighs" ∈ lw_tbl) {v : Value} (hv : sv (gR g) M ((tg 4).getD j 0) (1000 * k + j) = v) (hdg : decode cc pc = .ok (.getfield idx, 3))
    (kk : W p l e Rm s m args below meth c H locs cells slots Q (F0 m (pc + 3) ls (v :: rest))) : W p l e Rm s m args below meth c H locs cells slots Q (F0 m pc ls (.ref (gA g k) :: rest)) :=
  va_getN C.1 C.2.1 C.2.2.2.1 inT4 C.2.2.1 C.2.2.2.2.1 hw.1 k (wsl_obj hk hkd (by decide)) rfl j hj (va_Nw.use rfl (C.nest hl rfl)) (fun x h => by rw [tcX4] at h; exact h) (by rw [objs_get hj, hv]) hdg kk
theorem e4 {k j : Nat} {x : Int} {v : Value} (hk : k < gN g) (hkd : kd k = 4) (hj : j < 9) (hv : sv (gR g) (stM M (1000 * k + j) x) ((tg 4).getD j 0) (1000 * k + j) = v) : (wsl g M).set k (gA g k, .inr (4, (objs (gR g) M 4 k).set j v)) = wsl g (stM M (1000 * k + j) x) := by
  refine wsl_st hk (by omega) ?_
  rw [objs_set hj hv]
  unfold cellE
  rw [hkd, if_pos (by decide)]
theorem p4 (C : Cx g p c m s args cc own) (hw : Wo g M H) (hS : va_S (ar g) s.heap H locs) (k : Nat) (hk : k < gN g) (hkd : kd k = 4) (j : Nat) (hj : j < 9) {idx : Nat} (hl : Cond.fieldLink own idx RX4 (TX4 j).2.1 (TX4 j).2.2.1 ∈ tT) (hfin : (TX4 j).2.2.2 = false) {x : Int} {v : Value} (hx : rg x) (hv : sv (gR g) (stM M (1000 * k + j) x) ((tg 4).getD j 0) (1000 * k + j) = v) {ty : FieldType} (hd : parseFieldDescriptor (TX4 j).2.2.1 = some ty) (hn : narrow ty v = v) (hfit : fits ty v = true) (hdg : decode cc pc = .ok (.putfield idx, 3))
    (kk : ∀ (H1 : Heap) (locs1 : List Loc), Wo g (stM M (1000 * k + j) x) H1 → va_S (ar g) s.heap H1 locs1 → W p l e Rm s m args below meth c H1 locs1 cells slots Q (F0 m (pc + 3) ls rest)) : W p l e Rm s m args below meth c H locs cells slots Q (F0 m pc ls (v :: .ref (gA g k) :: rest)) := by
  refine va_put C.1 C.2.1 C.2.2.2.1 inT4 tyX4 tyX4_ok nmX4 C.2.2.1 C.2.2.2.2.1 hw.1 hw.2.1 hS k (wsl_obj hk hkd (by decide)) rfl j hj (C.2.2.2.1 _ hl) (fun x h => by rw [tcX4] at h; exact h) hfin hd hn hfit (by rw [objs_len]; exact hj) hdg (fun H1 locs1 hP hD hS => ?_)
  rw [e4 hk hkd hj hv] at hP hD
  exact kk H1 locs1 ⟨hP, hD, st_rg hw.2.2 hx⟩ hS
theorem pn4 (C : Cx g p c m s args cc own) (hw : Wo g M H) (hS : va_S (ar g) s.heap H locs) (k : Nat) (hk : k < gN g) (hkd : kd k = 4) (j : Nat) (hj : j < 9) {idx : Nat} (hl : Cond.fieldLinkNest own idx RX4 (TX4 j).2.1 (TX4 j).2.2.1 "RatedBySighs" ∈ lw_tbl) (hfin : (TX4 j).2.2.2 = false) {x : Int} {v : Value} (hx : rg x) (hv : sv (gR g) (stM M (1000 * k + j) x) ((tg 4).getD j 0) (1000 * k + j) = v) {ty : FieldType} (hd : parseFieldDescriptor (TX4 j).2.2.1 = some ty) (hn : narrow ty v = v) (hfit : fits ty v = true) (hdg : decode cc pc = .ok (.putfield idx, 3))
    (kk : ∀ (H1 : Heap) (locs1 : List Loc), Wo g (stM M (1000 * k + j) x) H1 → va_S (ar g) s.heap H1 locs1 → W p l e Rm s m args below meth c H1 locs1 cells slots Q (F0 m (pc + 3) ls rest)) : W p l e Rm s m args below meth c H locs cells slots Q (F0 m pc ls (v :: .ref (gA g k) :: rest)) := by
  refine va_putN C.1 C.2.1 C.2.2.2.1 inT4 tyX4 tyX4_ok nmX4 C.2.2.1 C.2.2.2.2.1 hw.1 hw.2.1 hS k (wsl_obj hk hkd (by decide)) rfl j hj (va_Nw.use rfl (C.nest hl rfl)) (fun x h => by rw [tcX4] at h; exact h) hfin hd hn hfit (by rw [objs_len]; exact hj) hdg (fun H1 locs1 hP hD hS => ?_)
  rw [e4 hk hkd hj hv] at hP hD
  exact kk H1 locs1 ⟨hP, hD, st_rg hw.2.2 hx⟩ hS

theorem tcX5 (j : Nat) : (TX5 j).1 = RX5 := by unfold TX5; split <;> rfl
theorem g5 (C : Cx g p c m s args cc own) (hw : Wo g M H) (k : Nat) (hk : k < gN g) (hkd : kd k = 5) (j : Nat) (hj : j < 3) {idx : Nat} (hl : Cond.fieldLink own idx RX5 (TX5 j).2.1 (TX5 j).2.2.1 ∈ tT) {v : Value} (hv : sv (gR g) M ((tg 5).getD j 0) (1000 * k + j) = v) (hdg : decode cc pc = .ok (.getfield idx, 3))
    (kk : W p l e Rm s m args below meth c H locs cells slots Q (F0 m (pc + 3) ls (v :: rest))) : W p l e Rm s m args below meth c H locs cells slots Q (F0 m pc ls (.ref (gA g k) :: rest)) :=
  va_get C.1 C.2.1 C.2.2.2.1 inT5 C.2.2.1 C.2.2.2.2.1 hw.1 k (wsl_obj hk hkd (by decide)) rfl j hj (C.2.2.2.1 _ hl) (fun x h => by rw [tcX5] at h; exact h) (by rw [objs_get hj, hv]) hdg kk
theorem gn5 (C : Cx g p c m s args cc own) (hw : Wo g M H) (k : Nat) (hk : k < gN g) (hkd : kd k = 5) (j : Nat) (hj : j < 3) {idx : Nat} (hl : Cond.fieldLinkNest own idx RX5 (TX5 j).2.1 (TX5 j).2.2.1 "RatedBySighs" ∈ lw_tbl) {v : Value} (hv : sv (gR g) M ((tg 5).getD j 0) (1000 * k + j) = v) (hdg : decode cc pc = .ok (.getfield idx, 3))
    (kk : W p l e Rm s m args below meth c H locs cells slots Q (F0 m (pc + 3) ls (v :: rest))) : W p l e Rm s m args below meth c H locs cells slots Q (F0 m pc ls (.ref (gA g k) :: rest)) :=
  va_getN C.1 C.2.1 C.2.2.2.1 inT5 C.2.2.1 C.2.2.2.2.1 hw.1 k (wsl_obj hk hkd (by decide)) rfl j hj (va_Nw.use rfl (C.nest hl rfl)) (fun x h => by rw [tcX5] at h; exact h) (by rw [objs_get hj, hv]) hdg kk
theorem e5 {k j : Nat} {x : Int} {v : Value} (hk : k < gN g) (hkd : kd k = 5) (hj : j < 3) (hv : sv (gR g) (stM M (1000 * k + j) x) ((tg 5).getD j 0) (1000 * k + j) = v) : (wsl g M).set k (gA g k, .inr (5, (objs (gR g) M 5 k).set j v)) = wsl g (stM M (1000 * k + j) x) := by
  refine wsl_st hk (by omega) ?_
  rw [objs_set hj hv]
  unfold cellE
  rw [hkd, if_pos (by decide)]
theorem p5 (C : Cx g p c m s args cc own) (hw : Wo g M H) (hS : va_S (ar g) s.heap H locs) (k : Nat) (hk : k < gN g) (hkd : kd k = 5) (j : Nat) (hj : j < 3) {idx : Nat} (hl : Cond.fieldLink own idx RX5 (TX5 j).2.1 (TX5 j).2.2.1 ∈ tT) (hfin : (TX5 j).2.2.2 = false) {x : Int} {v : Value} (hx : rg x) (hv : sv (gR g) (stM M (1000 * k + j) x) ((tg 5).getD j 0) (1000 * k + j) = v) {ty : FieldType} (hd : parseFieldDescriptor (TX5 j).2.2.1 = some ty) (hn : narrow ty v = v) (hfit : fits ty v = true) (hdg : decode cc pc = .ok (.putfield idx, 3))
    (kk : ∀ (H1 : Heap) (locs1 : List Loc), Wo g (stM M (1000 * k + j) x) H1 → va_S (ar g) s.heap H1 locs1 → W p l e Rm s m args below meth c H1 locs1 cells slots Q (F0 m (pc + 3) ls rest)) : W p l e Rm s m args below meth c H locs cells slots Q (F0 m pc ls (v :: .ref (gA g k) :: rest)) := by
  refine va_put C.1 C.2.1 C.2.2.2.1 inT5 tyX5 tyX5_ok nmX5 C.2.2.1 C.2.2.2.2.1 hw.1 hw.2.1 hS k (wsl_obj hk hkd (by decide)) rfl j hj (C.2.2.2.1 _ hl) (fun x h => by rw [tcX5] at h; exact h) hfin hd hn hfit (by rw [objs_len]; exact hj) hdg (fun H1 locs1 hP hD hS => ?_)
  rw [e5 hk hkd hj hv] at hP hD
  exact kk H1 locs1 ⟨hP, hD, st_rg hw.2.2 hx⟩ hS
theorem pn5 (C : Cx g p c m s args cc own) (hw : Wo g M H) (hS : va_S (ar g) s.heap H locs) (k : Nat) (hk : k < gN g) (hkd : kd k = 5) (j : Nat) (hj : j < 3) {idx : Nat} (hl : Cond.fieldLinkNest own idx RX5 (TX5 j).2.1 (TX5 j).2.2.1 "RatedBySighs" ∈ lw_tbl) (hfin : (TX5 j).2.2.2 = false) {x : Int} {v : Value} (hx : rg x) (hv : sv (gR g) (stM M (1000 * k + j) x) ((tg 5).getD j 0) (1000 * k + j) = v) {ty : FieldType} (hd : parseFieldDescriptor (TX5 j).2.2.1 = some ty) (hn : narrow ty v = v) (hfit : fits ty v = true) (hdg : decode cc pc = .ok (.putfield idx, 3))
    (kk : ∀ (H1 : Heap) (locs1 : List Loc), Wo g (stM M (1000 * k + j) x) H1 → va_S (ar g) s.heap H1 locs1 → W p l e Rm s m args below meth c H1 locs1 cells slots Q (F0 m (pc + 3) ls rest)) : W p l e Rm s m args below meth c H locs cells slots Q (F0 m pc ls (v :: .ref (gA g k) :: rest)) := by
  refine va_putN C.1 C.2.1 C.2.2.2.1 inT5 tyX5 tyX5_ok nmX5 C.2.2.1 C.2.2.2.2.1 hw.1 hw.2.1 hS k (wsl_obj hk hkd (by decide)) rfl j hj (va_Nw.use rfl (C.nest hl rfl)) (fun x h => by rw [tcX5] at h; exact h) hfin hd hn hfit (by rw [objs_len]; exact hj) hdg (fun H1 locs1 hP hD hS => ?_)
  rw [e5 hk hkd hj hv] at hP hD
  exact kk H1 locs1 ⟨hP, hD, st_rg hw.2.2 hx⟩ hS

theorem tcX6 (j : Nat) : (TX6 j).1 = RX6 := by unfold TX6; split <;> rfl
theorem g6 (C : Cx g p c m s args cc own) (hw : Wo g M H) (k : Nat) (hk : k < gN g) (hkd : kd k = 6) (j : Nat) (hj : j < 5) {idx : Nat} (hl : Cond.fieldLink own idx RX6 (TX6 j).2.1 (TX6 j).2.2.1 ∈ tT) {v : Value} (hv : sv (gR g) M ((tg 6).getD j 0) (1000 * k + j) = v) (hdg : decode cc pc = .ok (.getfield idx, 3))
    (kk : W p l e Rm s m args below meth c H locs cells slots Q (F0 m (pc + 3) ls (v :: rest))) : W p l e Rm s m args below meth c H locs cells slots Q (F0 m pc ls (.ref (gA g k) :: rest)) :=
  va_get C.1 C.2.1 C.2.2.2.1 inT6 C.2.2.1 C.2.2.2.2.1 hw.1 k (wsl_obj hk hkd (by decide)) rfl j hj (C.2.2.2.1 _ hl) (fun x h => by rw [tcX6] at h; exact h) (by rw [objs_get hj, hv]) hdg kk
theorem gn6 (C : Cx g p c m s args cc own) (hw : Wo g M H) (k : Nat) (hk : k < gN g) (hkd : kd k = 6) (j : Nat) (hj : j < 5) {idx : Nat} (hl : Cond.fieldLinkNest own idx RX6 (TX6 j).2.1 (TX6 j).2.2.1 "RatedBySighs" ∈ lw_tbl) {v : Value} (hv : sv (gR g) M ((tg 6).getD j 0) (1000 * k + j) = v) (hdg : decode cc pc = .ok (.getfield idx, 3))
    (kk : W p l e Rm s m args below meth c H locs cells slots Q (F0 m (pc + 3) ls (v :: rest))) : W p l e Rm s m args below meth c H locs cells slots Q (F0 m pc ls (.ref (gA g k) :: rest)) :=
  va_getN C.1 C.2.1 C.2.2.2.1 inT6 C.2.2.1 C.2.2.2.2.1 hw.1 k (wsl_obj hk hkd (by decide)) rfl j hj (va_Nw.use rfl (C.nest hl rfl)) (fun x h => by rw [tcX6] at h; exact h) (by rw [objs_get hj, hv]) hdg kk
theorem e6 {k j : Nat} {x : Int} {v : Value} (hk : k < gN g) (hkd : kd k = 6) (hj : j < 5) (hv : sv (gR g) (stM M (1000 * k + j) x) ((tg 6).getD j 0) (1000 * k + j) = v) : (wsl g M).set k (gA g k, .inr (6, (objs (gR g) M 6 k).set j v)) = wsl g (stM M (1000 * k + j) x) := by
  refine wsl_st hk (by omega) ?_
  rw [objs_set hj hv]
  unfold cellE
  rw [hkd, if_pos (by decide)]
theorem p6 (C : Cx g p c m s args cc own) (hw : Wo g M H) (hS : va_S (ar g) s.heap H locs) (k : Nat) (hk : k < gN g) (hkd : kd k = 6) (j : Nat) (hj : j < 5) {idx : Nat} (hl : Cond.fieldLink own idx RX6 (TX6 j).2.1 (TX6 j).2.2.1 ∈ tT) (hfin : (TX6 j).2.2.2 = false) {x : Int} {v : Value} (hx : rg x) (hv : sv (gR g) (stM M (1000 * k + j) x) ((tg 6).getD j 0) (1000 * k + j) = v) {ty : FieldType} (hd : parseFieldDescriptor (TX6 j).2.2.1 = some ty) (hn : narrow ty v = v) (hfit : fits ty v = true) (hdg : decode cc pc = .ok (.putfield idx, 3))
    (kk : ∀ (H1 : Heap) (locs1 : List Loc), Wo g (stM M (1000 * k + j) x) H1 → va_S (ar g) s.heap H1 locs1 → W p l e Rm s m args below meth c H1 locs1 cells slots Q (F0 m (pc + 3) ls rest)) : W p l e Rm s m args below meth c H locs cells slots Q (F0 m pc ls (v :: .ref (gA g k) :: rest)) := by
  refine va_put C.1 C.2.1 C.2.2.2.1 inT6 tyX6 tyX6_ok nmX6 C.2.2.1 C.2.2.2.2.1 hw.1 hw.2.1 hS k (wsl_obj hk hkd (by decide)) rfl j hj (C.2.2.2.1 _ hl) (fun x h => by rw [tcX6] at h; exact h) hfin hd hn hfit (by rw [objs_len]; exact hj) hdg (fun H1 locs1 hP hD hS => ?_)
  rw [e6 hk hkd hj hv] at hP hD
  exact kk H1 locs1 ⟨hP, hD, st_rg hw.2.2 hx⟩ hS
theorem pn6 (C : Cx g p c m s args cc own) (hw : Wo g M H) (hS : va_S (ar g) s.heap H locs) (k : Nat) (hk : k < gN g) (hkd : kd k = 6) (j : Nat) (hj : j < 5) {idx : Nat} (hl : Cond.fieldLinkNest own idx RX6 (TX6 j).2.1 (TX6 j).2.2.1 "RatedBySighs" ∈ lw_tbl) (hfin : (TX6 j).2.2.2 = false) {x : Int} {v : Value} (hx : rg x) (hv : sv (gR g) (stM M (1000 * k + j) x) ((tg 6).getD j 0) (1000 * k + j) = v) {ty : FieldType} (hd : parseFieldDescriptor (TX6 j).2.2.1 = some ty) (hn : narrow ty v = v) (hfit : fits ty v = true) (hdg : decode cc pc = .ok (.putfield idx, 3))
    (kk : ∀ (H1 : Heap) (locs1 : List Loc), Wo g (stM M (1000 * k + j) x) H1 → va_S (ar g) s.heap H1 locs1 → W p l e Rm s m args below meth c H1 locs1 cells slots Q (F0 m (pc + 3) ls rest)) : W p l e Rm s m args below meth c H locs cells slots Q (F0 m pc ls (v :: .ref (gA g k) :: rest)) := by
  refine va_putN C.1 C.2.1 C.2.2.2.1 inT6 tyX6 tyX6_ok nmX6 C.2.2.1 C.2.2.2.2.1 hw.1 hw.2.1 hS k (wsl_obj hk hkd (by decide)) rfl j hj (va_Nw.use rfl (C.nest hl rfl)) (fun x h => by rw [tcX6] at h; exact h) hfin hd hn hfit (by rw [objs_len]; exact hj) hdg (fun H1 locs1 hP hD hS => ?_)
  rw [e6 hk hkd hj hv] at hP hD
  exact kk H1 locs1 ⟨hP, hD, st_rg hw.2.2 hx⟩ hS

theorem tcX7 (j : Nat) : (TX7 j).1 = RX7 := by unfold TX7; split <;> rfl
theorem g7 (C : Cx g p c m s args cc own) (hw : Wo g M H) (k : Nat) (hk : k < gN g) (hkd : kd k = 7) (j : Nat) (hj : j < 9) {idx : Nat} (hl : Cond.fieldLink own idx RX7 (TX7 j).2.1 (TX7 j).2.2.1 ∈ tT) {v : Value} (hv : sv (gR g) M ((tg 7).getD j 0) (1000 * k + j) = v) (hdg : decode cc pc = .ok (.getfield idx, 3))
    (kk : W p l e Rm s m args below meth c H locs cells slots Q (F0 m (pc + 3) ls (v :: rest))) : W p l e Rm s m args below meth c H locs cells slots Q (F0 m pc ls (.ref (gA g k) :: rest)) :=
  va_get C.1 C.2.1 C.2.2.2.1 inT7 C.2.2.1 C.2.2.2.2.1 hw.1 k (wsl_obj hk hkd (by decide)) rfl j hj (C.2.2.2.1 _ hl) (fun x h => by rw [tcX7] at h; exact h) (by rw [objs_get hj, hv]) hdg kk
theorem gn7 (C : Cx g p c m s args cc own) (hw : Wo g M H) (k : Nat) (hk : k < gN g) (hkd : kd k = 7) (j : Nat) (hj : j < 9) {idx : Nat} (hl : Cond.fieldLinkNest own idx RX7 (TX7 j).2.1 (TX7 j).2.2.1 "RatedBySighs" ∈ lw_tbl) {v : Value} (hv : sv (gR g) M ((tg 7).getD j 0) (1000 * k + j) = v) (hdg : decode cc pc = .ok (.getfield idx, 3))
    (kk : W p l e Rm s m args below meth c H locs cells slots Q (F0 m (pc + 3) ls (v :: rest))) : W p l e Rm s m args below meth c H locs cells slots Q (F0 m pc ls (.ref (gA g k) :: rest)) :=
  va_getN C.1 C.2.1 C.2.2.2.1 inT7 C.2.2.1 C.2.2.2.2.1 hw.1 k (wsl_obj hk hkd (by decide)) rfl j hj (va_Nw.use rfl (C.nest hl rfl)) (fun x h => by rw [tcX7] at h; exact h) (by rw [objs_get hj, hv]) hdg kk
theorem e7 {k j : Nat} {x : Int} {v : Value} (hk : k < gN g) (hkd : kd k = 7) (hj : j < 9) (hv : sv (gR g) (stM M (1000 * k + j) x) ((tg 7).getD j 0) (1000 * k + j) = v) : (wsl g M).set k (gA g k, .inr (7, (objs (gR g) M 7 k).set j v)) = wsl g (stM M (1000 * k + j) x) := by
  refine wsl_st hk (by omega) ?_
  rw [objs_set hj hv]
  unfold cellE
  rw [hkd, if_pos (by decide)]
theorem p7 (C : Cx g p c m s args cc own) (hw : Wo g M H) (hS : va_S (ar g) s.heap H locs) (k : Nat) (hk : k < gN g) (hkd : kd k = 7) (j : Nat) (hj : j < 9) {idx : Nat} (hl : Cond.fieldLink own idx RX7 (TX7 j).2.1 (TX7 j).2.2.1 ∈ tT) (hfin : (TX7 j).2.2.2 = false) {x : Int} {v : Value} (hx : rg x) (hv : sv (gR g) (stM M (1000 * k + j) x) ((tg 7).getD j 0) (1000 * k + j) = v) {ty : FieldType} (hd : parseFieldDescriptor (TX7 j).2.2.1 = some ty) (hn : narrow ty v = v) (hfit : fits ty v = true) (hdg : decode cc pc = .ok (.putfield idx, 3))
    (kk : ∀ (H1 : Heap) (locs1 : List Loc), Wo g (stM M (1000 * k + j) x) H1 → va_S (ar g) s.heap H1 locs1 → W p l e Rm s m args below meth c H1 locs1 cells slots Q (F0 m (pc + 3) ls rest)) : W p l e Rm s m args below meth c H locs cells slots Q (F0 m pc ls (v :: .ref (gA g k) :: rest)) := by
  refine va_put C.1 C.2.1 C.2.2.2.1 inT7 tyX7 tyX7_ok nmX7 C.2.2.1 C.2.2.2.2.1 hw.1 hw.2.1 hS k (wsl_obj hk hkd (by decide)) rfl j hj (C.2.2.2.1 _ hl) (fun x h => by rw [tcX7] at h; exact h) hfin hd hn hfit (by rw [objs_len]; exact hj) hdg (fun H1 locs1 hP hD hS => ?_)
  rw [e7 hk hkd hj hv] at hP hD
  exact kk H1 locs1 ⟨hP, hD, st_rg hw.2.2 hx⟩ hS
theorem pn7 (C : Cx g p c m s args cc own) (hw : Wo g M H) (hS : va_S (ar g) s.heap H locs) (k : Nat) (hk : k < gN g) (hkd : kd k = 7) (j : Nat) (hj : j < 9) {idx : Nat} (hl : Cond.fieldLinkNest own idx RX7 (TX7 j).2.1 (TX7 j).2.2.1 "RatedBySighs" ∈ lw_tbl) (hfin : (TX7 j).2.2.2 = false) {x : Int} {v : Value} (hx : rg x) (hv : sv (gR g) (stM M (1000 * k + j) x) ((tg 7).getD j 0) (1000 * k + j) = v) {ty : FieldType} (hd : parseFieldDescriptor (TX7 j).2.2.1 = some ty) (hn : narrow ty v = v) (hfit : fits ty v = true) (hdg : decode cc pc = .ok (.putfield idx, 3))
    (kk : ∀ (H1 : Heap) (locs1 : List Loc), Wo g (stM M (1000 * k + j) x) H1 → va_S (ar g) s.heap H1 locs1 → W p l e Rm s m args below meth c H1 locs1 cells slots Q (F0 m (pc + 3) ls rest)) : W p l e Rm s m args below meth c H locs cells slots Q (F0 m pc ls (v :: .ref (gA g k) :: rest)) := by
  refine va_putN C.1 C.2.1 C.2.2.2.1 inT7 tyX7 tyX7_ok nmX7 C.2.2.1 C.2.2.2.2.1 hw.1 hw.2.1 hS k (wsl_obj hk hkd (by decide)) rfl j hj (va_Nw.use rfl (C.nest hl rfl)) (fun x h => by rw [tcX7] at h; exact h) hfin hd hn hfit (by rw [objs_len]; exact hj) hdg (fun H1 locs1 hP hD hS => ?_)
  rw [e7 hk hkd hj hv] at hP hD
  exact kk H1 locs1 ⟨hP, hD, st_rg hw.2.2 hx⟩ hS

theorem tcX8 (j : Nat) : (TX8 j).1 = RX8 := by unfold TX8; split <;> rfl
theorem g8 (C : Cx g p c m s args cc own) (hw : Wo g M H) (k : Nat) (hk : k < gN g) (hkd : kd k = 8) (j : Nat) (hj : j < 42) {idx : Nat} (hl : Cond.fieldLink own idx RX8 (TX8 j).2.1 (TX8 j).2.2.1 ∈ tT) {v : Value} (hv : sv (gR g) M ((tg 8).getD j 0) (1000 * k + j) = v) (hdg : decode cc pc = .ok (.getfield idx, 3))
    (kk : W p l e Rm s m args below meth c H locs cells slots Q (F0 m (pc + 3) ls (v :: rest))) : W p l e Rm s m args below meth c H locs cells slots Q (F0 m pc ls (.ref (gA g k) :: rest)) :=
  va_get C.1 C.2.1 C.2.2.2.1 inT8 C.2.2.1 C.2.2.2.2.1 hw.1 k (wsl_obj hk hkd (by decide)) rfl j hj (C.2.2.2.1 _ hl) (fun x h => by rw [tcX8] at h; exact h) (by rw [objs_get hj, hv]) hdg kk
theorem gn8 (C : Cx g p c m s args cc own) (hw : Wo g M H) (k : Nat) (hk : k < gN g) (hkd : kd k = 8) (j : Nat) (hj : j < 42) {idx : Nat} (hl : Cond.fieldLinkNest own idx RX8 (TX8 j).2.1 (TX8 j).2.2.1 "RatedBySighs" ∈ lw_tbl) {v : Value} (hv : sv (gR g) M ((tg 8).getD j 0) (1000 * k + j) = v) (hdg : decode cc pc = .ok (.getfield idx, 3))
    (kk : W p l e Rm s m args below meth c H locs cells slots Q (F0 m (pc + 3) ls (v :: rest))) : W p l e Rm s m args below meth c H locs cells slots Q (F0 m pc ls (.ref (gA g k) :: rest)) :=
  va_getN C.1 C.2.1 C.2.2.2.1 inT8 C.2.2.1 C.2.2.2.2.1 hw.1 k (wsl_obj hk hkd (by decide)) rfl j hj (va_Nw.use rfl (C.nest hl rfl)) (fun x h => by rw [tcX8] at h; exact h) (by rw [objs_get hj, hv]) hdg kk
theorem e8 {k j : Nat} {x : Int} {v : Value} (hk : k < gN g) (hkd : kd k = 8) (hj : j < 42) (hv : sv (gR g) (stM M (1000 * k + j) x) ((tg 8).getD j 0) (1000 * k + j) = v) : (wsl g M).set k (gA g k, .inr (8, (objs (gR g) M 8 k).set j v)) = wsl g (stM M (1000 * k + j) x) := by
  refine wsl_st hk (by omega) ?_
  rw [objs_set hj hv]
  unfold cellE
  rw [hkd, if_pos (by decide)]
theorem p8 (C : Cx g p c m s args cc own) (hw : Wo g M H) (hS : va_S (ar g) s.heap H locs) (k : Nat) (hk : k < gN g) (hkd : kd k = 8) (j : Nat) (hj : j < 42) {idx : Nat} (hl : Cond.fieldLink own idx RX8 (TX8 j).2.1 (TX8 j).2.2.1 ∈ tT) (hfin : (TX8 j).2.2.2 = false) {x : Int} {v : Value} (hx : rg x) (hv : sv (gR g) (stM M (1000 * k + j) x) ((tg 8).getD j 0) (1000 * k + j) = v) {ty : FieldType} (hd : parseFieldDescriptor (TX8 j).2.2.1 = some ty) (hn : narrow ty v = v) (hfit : fits ty v = true) (hdg : decode cc pc = .ok (.putfield idx, 3))
    (kk : ∀ (H1 : Heap) (locs1 : List Loc), Wo g (stM M (1000 * k + j) x) H1 → va_S (ar g) s.heap H1 locs1 → W p l e Rm s m args below meth c H1 locs1 cells slots Q (F0 m (pc + 3) ls rest)) : W p l e Rm s m args below meth c H locs cells slots Q (F0 m pc ls (v :: .ref (gA g k) :: rest)) := by
  refine va_put C.1 C.2.1 C.2.2.2.1 inT8 tyX8 tyX8_ok nmX8 C.2.2.1 C.2.2.2.2.1 hw.1 hw.2.1 hS k (wsl_obj hk hkd (by decide)) rfl j hj (C.2.2.2.1 _ hl) (fun x h => by rw [tcX8] at h; exact h) hfin hd hn hfit (by rw [objs_len]; exact hj) hdg (fun H1 locs1 hP hD hS => ?_)
  rw [e8 hk hkd hj hv] at hP hD
  exact kk H1 locs1 ⟨hP, hD, st_rg hw.2.2 hx⟩ hS
theorem pn8 (C : Cx g p c m s args cc own) (hw : Wo g M H) (hS : va_S (ar g) s.heap H locs) (k : Nat) (hk : k < gN g) (hkd : kd k = 8) (j : Nat) (hj : j < 42) {idx : Nat} (hl : Cond.fieldLinkNest own idx RX8 (TX8 j).2.1 (TX8 j).2.2.1 "RatedBySighs" ∈ lw_tbl) (hfin : (TX8 j).2.2.2 = false) {x : Int} {v : Value} (hx : rg x) (hv : sv (gR g) (stM M (1000 * k + j) x) ((tg 8).getD j 0) (1000 * k + j) = v) {ty : FieldType} (hd : parseFieldDescriptor (TX8 j).2.2.1 = some ty) (hn : narrow ty v = v) (hfit : fits ty v = true) (hdg : decode cc pc = .ok (.putfield idx, 3))
    (kk : ∀ (H1 : Heap) (locs1 : List Loc), Wo g (stM M (1000 * k + j) x) H1 → va_S (ar g) s.heap H1 locs1 → W p l e Rm s m args below meth c H1 locs1 cells slots Q (F0 m (pc + 3) ls rest)) : W p l e Rm s m args below meth c H locs cells slots Q (F0 m pc ls (v :: .ref (gA g k) :: rest)) := by
  refine va_putN C.1 C.2.1 C.2.2.2.1 inT8 tyX8 tyX8_ok nmX8 C.2.2.1 C.2.2.2.2.1 hw.1 hw.2.1 hS k (wsl_obj hk hkd (by decide)) rfl j hj (va_Nw.use rfl (C.nest hl rfl)) (fun x h => by rw [tcX8] at h; exact h) hfin hd hn hfit (by rw [objs_len]; exact hj) hdg (fun H1 locs1 hP hD hS => ?_)
  rw [e8 hk hkd hj hv] at hP hD
  exact kk H1 locs1 ⟨hP, hD, st_rg hw.2.2 hx⟩ hS
/-! switches -/
theorem x_tabIn {a : Int} (C : Cx g p c m s args cc own) (ha : rg a) {dflt lo hi : Int} {offs : Array Int} {len : Nat} {off : Int} {tgt : Nat} (hdg : decode cc pc = .ok (.tableswitch dflt lo hi offs, len)) (h1 : lo ≤ a) (h2 : a ≤ hi) (ho : offs[(a - lo).toNat]? = some off) (ht : (pc : Int) + off = (tgt : Int)) (k : W p l e Rm s m args below meth c H locs cells slots Q (F0 m tgt ls rest)) : W p l e Rm s m args below meth c H locs cells slots Q (F0 m pc ls (.int (II a) :: rest)) :=
  lv_tableIn C.1 C.2.1 hdg (by rw [II_toInt ha]; omega) (by rw [II_toInt ha]; omega) (by rw [II_toInt ha]; exact ho) ht k
theorem x_tabOut {a : Int} (C : Cx g p c m s args cc own) (ha : rg a) {dflt lo hi : Int} {offs : Array Int} {len : Nat} {tgt : Nat} (hdg : decode cc pc = .ok (.tableswitch dflt lo hi offs, len)) (h1 : a < lo ∨ hi < a) (ht : (pc : Int) + dflt = (tgt : Int)) (k : W p l e Rm s m args below meth c H locs cells slots Q (F0 m tgt ls rest)) : W p l e Rm s m args below meth c H locs cells slots Q (F0 m pc ls (.int (II a) :: rest)) :=
  lv_tableOut C.1 C.2.1 hdg (by rw [II_toInt ha]; exact h1) ht k
/-! longs -/
def cmpI (a b : Int) : Int := if a < b then -1 else if a = b then 0 else 1
theorem cmpI_rg (a b : Int) : rg (cmpI a b) := by unfold cmpI rg; split <;> (try split) <;> omega
theorem cmpI_lt {a b : Int} : cmpI a b < 0 ↔ a < b := by unfold cmpI; split <;> (try split) <;> omega
theorem cmpI_gt {a b : Int} : 0 < cmpI a b ↔ b < a := by unfold cmpI; split <;> (try split) <;> omega
theorem cmpI_eq {a b : Int} : cmpI a b = 0 ↔ a = b := by unfold cmpI; split <;> (try split) <;> omega
theorem x_i2l {a : Int} (C : Cx g p c m s args cc own) (ha : rg a) (hdg : decode cc pc = .ok (.i2l, 1)) (k : W p l e Rm s m args below meth c H locs cells slots Q (F0 m (pc + 1) ls (.long (LL a) :: rest))) : W p l e Rm s m args below meth c H locs cells slots Q (F0 m pc ls (.int (II a) :: rest)) :=
  lv_i2l C.1 C.2.1 hdg (Int64.toInt_inj.mp (by rw [Int32.toInt_toInt64, II_toInt ha, LL_toInt ha])) k
theorem x_l2i {a : Int} (C : Cx g p c m s args cc own) (ha : rg a) (hdg : decode cc pc = .ok (.l2i, 1)) (k : W p l e Rm s m args below meth c H locs cells slots Q (F0 m (pc + 1) ls (.int (II a) :: rest))) : W p l e Rm s m args below meth c H locs cells slots Q (F0 m pc ls (.long (LL a) :: rest)) :=
  lv_l2i C.1 C.2.1 hdg (Int32.toInt_inj.mp (by rw [Int64.toInt_toInt32, LL_toInt ha, II_toInt ha]; have := ha.1; have := ha.2; rw [Int.bmod_def]; split <;> omega)) k
theorem x_lcmp {a b : Int} (C : Cx g p c m s args cc own) (ha : rg a) (hb : rg b) (hdg : decode cc pc = .ok (.lcmp, 1)) (k : W p l e Rm s m args below meth c H locs cells slots Q (F0 m (pc + 1) ls (.int (II (cmpI a b)) :: rest))) : W p l e Rm s m args below meth c H locs cells slots Q (F0 m pc ls (.long (LL b) :: .long (LL a) :: rest)) := by
  refine W.lcmp C.1 C.2.1 hdg ?_
  have e : lg_cmp (LL a) (LL b) = II (cmpI a b) := by
    unfold lg_cmp cmpI
    simp only [Int64.lt_iff_toInt_lt, ← Int64.toInt_inj, LL_toInt ha, LL_toInt hb]
    split <;> (try split) <;> (try split) <;> first | rfl | omega
  rw [e]
  exact k
/-! static arrays -/
theorem x_gets (C : Cx g p c m s args cc own) (hS : va_S (ar g) s.heap H locs) (i : Nat) (hi : i < 3) {idx : Nat} (hl : Cond.fieldLink own idx "RatedBySighs" (snT.getD i "") "[I" ∈ tT) (hdg : decode cc pc = .ok (.getstatic idx, 3)) (kk : W p l e Rm s m args below meth c H locs cells slots Q (F0 m (pc + 3) ls (.ref (gX g i) :: rest))) : W p l e Rm s m args below meth c H locs cells slots Q (F0 m pc ls rest) :=
  va_gets C.1 C.2.1 (C.2.2.2.2.2.1.2.1 i hi).1 hS C.2.2.1 (C.2.2.2.1 _ hl) (fun _ h => h) hdg kk
theorem x_sald (C : Cx g p c m s args cc own) (hS : va_S (ar g) s.heap H locs) (i : Nat) (hi : i < 3) {a : Int} (h0 : 0 ≤ a) (h1 : a < 6) {x : Int} (hx : (stT.getD i []).getD a.toNat 0 = x) (hdg : decode cc pc = .ok (.iaload, 1)) (kk : W p l e Rm s m args below meth c H locs cells slots Q (F0 m (pc + 1) ls (.int (II x) :: rest))) : W p l e Rm s m args below meth c H locs cells slots Q (F0 m pc ls (.int (II a) :: .ref (gX g i) :: rest)) :=
  va_ti C.1 C.2.1 (C.2.2.2.2.2.1.2.1 i hi).2 hS (II_in h0 h1 (by decide)) (by rw [II_cl ⟨by omega, by omega⟩, hx]) hdg kk
/-! Math.max, Math.min -/
theorem x_max {a b : Int} (C : Cx g p c m s args cc own) (ha : rg a) (hb : rg b) (hml : c.maxLocals = ls.size) {idx : Nat} (hlink : Cond.methodLink own idx Lib.Math.max.name ∈ tT) (hstat : Cond.static Lib.Math.max.name ∈ tT) (hini : Cond.initialized "java/lang/Math" ∈ tT) (hcode : Cond.code Lib.Math.max.name Lib.Math.max.code 2 (some .int) ∈ tT) (hf : 1 ≤ Rm.frames) (hlo : (rest.map fun v => v.category).sum + 13 ≤ Rm.locals) (hc : cells ≤ Rm.cells) (hs : slots ≤ Rm.slots) (hdg : decode cc pc = .ok (.invokestatic idx, 3))
    (kk : W p l e Rm s m args below meth c H locs cells slots Q (F0 m (pc + 3) ls (.int (II (if a < b then b else a)) :: rest))) : W p l e Rm s m args below meth c H locs cells slots Q (F0 m pc ls (.int (II b) :: .int (II a) :: rest)) := by
  refine va_mmax C.1 C.2.1 hml C.2.2.1 (C.2.2.2.1 _ hlink) (C.2.2.2.1 _ hstat) (C.2.2.2.1 _ hini) (C.2.2.2.1 _ hcode) hf hlo hc hs hdg ?_
  have e : (if II a < II b then II b else II a) = II (if a < b then b else a) := by
    by_cases h : a < b
    · rw [if_pos h, if_pos ((II_lt ha hb).mpr h)]
    · rw [if_neg h, if_neg (fun q => h ((II_lt ha hb).mp q))]
  rw [e]
  exact kk
theorem x_min {a b : Int} (C : Cx g p c m s args cc own) (ha : rg a) (hb : rg b) (hml : c.maxLocals = ls.size) {idx : Nat} (hlink : Cond.methodLink own idx Lib.Math.min.name ∈ tT) (hstat : Cond.static Lib.Math.min.name ∈ tT) (hini : Cond.initialized "java/lang/Math" ∈ tT) (hcode : Cond.code Lib.Math.min.name Lib.Math.min.code 2 (some .int) ∈ tT) (hf : 1 ≤ Rm.frames) (hlo : (rest.map fun v => v.category).sum + 13 ≤ Rm.locals) (hc : cells ≤ Rm.cells) (hs : slots ≤ Rm.slots) (hdg : decode cc pc = .ok (.invokestatic idx, 3))
    (kk : W p l e Rm s m args below meth c H locs cells slots Q (F0 m (pc + 3) ls (.int (II (if b < a then b else a)) :: rest))) : W p l e Rm s m args below meth c H locs cells slots Q (F0 m pc ls (.int (II b) :: .int (II a) :: rest)) := by
  refine va_mmin C.1 C.2.1 hml C.2.2.1 (C.2.2.2.1 _ hlink) (C.2.2.2.1 _ hstat) (C.2.2.2.1 _ hini) (C.2.2.2.1 _ hcode) hf hlo hc hs hdg ?_
  have e : (if II b < II a then II b else II a) = II (if b < a then b else a) := by
    by_cases h : b < a
    · rw [if_pos h, if_pos ((II_lt hb ha).mpr h)]
    · rw [if_neg h, if_neg (fun q => h ((II_lt hb ha).mp q))]
  rw [e]
  exact kk
/-! calls -/
theorem tT_sub {ws : List Cond} (h : ∀ w ∈ ws, w ∈ tT) : GoodIn tT ws := fun w hw => ⟨h w hw, good_of_word (List.mem_filter.mp (h w hw)).2⟩
section CALLS
variable {y : MethodName} {cd : ByteArray} {mL nL idx n mc ms : Nat} {rt : Option FieldType} {rm : Room} {Qc : Array Value → State → Outcome → State → Prop} {As st0 : List Value}
theorem x_runV (C : Cx g p c m s args cc own) (hw : Wo g M H) (hS : va_S (ar g) s.heap H locs) (hml : c.maxLocals = nL) (hls : ls.size = nL) (k ci : Nat) (hk : k < gN g) (hkd : kd k = ci) (hci : ci < 9) {q : vw_C} (hcl : vwCl[ci]? = some q) (hM : Met l y (.code y cd mL rt :: tT) rm (va_Pc (.ref (gA g k) :: As) (Wd g M)) Qc mc ms (ar g))
    (m1 : Cond.methodLink own idx y ∈ tT) (m2 : Cond.instanceMethod y ∈ tT) (m3 : Cond.selects q.1 y y ∈ tT) (m4 : Cond.initialized q.1 ∈ tT) (m5 : Cond.code y cd mL rt ∈ tT) (hrc : rm.cells = mc) (hrs : rm.slots = ms) (hd : y.cls = q.1 ∧ y.cls ≠ "java/lang/invoke/MethodHandle" ∧ y.cls ≠ "java/lang/invoke/VarHandle" ∧ (parseMethodDescriptor y.desc).map (fun d => d.parameters.length) = some n) (hR : rm.frames + 1 ≤ Rm.frames ∧ 8 + (mL + 11) + rm.locals ≤ Rm.locals)
    (hn : As.length = n) (hst : st0 = As.reverse ++ .ref (gA g k) :: rest) (hW : (rest.map fun v => v.category).sum ≤ 8) (hdg : decode cc pc = .ok (.invokevirtual idx, 3)) (hf : cells + mc ≤ Rm.cells ∧ slots + ms ≤ Rm.slots) :
    va_Run p l e Rm s m args below meth c H locs cells slots mc ms (F0 m pc ls st0) rest (Qc (Value.ref (gA g k) :: As).toArray) (ar g) :=
  va_runV (Ts := tT) ⟨C.1, C.2.1, hml, C.2.2.1, C.2.2.2.1⟩ hM (cwV n C.2.2.2.1 (tT_sub (fun w h => by
    rcases List.mem_append.mp h with h | h
    · simp only [List.mem_cons, List.not_mem_nil, or_false] at h
      rcases h with rfl | rfl | rfl | rfl
      · exact m1
      · exact m2
      · exact m3
      · exact m4
    · exact (List.mem_cons.mp h).elim (fun e => e ▸ m5) id)) rfl hrc hrs hd hR) ⟨Wd.blind, va_recv C.2.2.2.2.1 hw.1 hcl (wsl_obj hk hkd hci), fun U hU hW => ⟨rfl, C.wd hS hw hU hW⟩⟩ rfl hn hls hst (lv_room hW) hdg hf
theorem x_runVN (C : Cx g p c m s args cc own) (hw : Wo g M H) (hS : va_S (ar g) s.heap H locs) (hml : c.maxLocals = nL) (hls : ls.size = nL) (k ci : Nat) (hk : k < gN g) (hkd : kd k = ci) (hci : ci < 9) {q : vw_C} (hcl : vwCl[ci]? = some q) (hM : Met l y (.code y cd mL rt :: tT) rm (va_Pc (.ref (gA g k) :: As) (Wd g M)) Qc mc ms (ar g))
    (m1 : Cond.methodLinkNest own idx y "RatedBySighs" ∈ lw_tbl) (m2 : Cond.instanceMethod y ∈ tT) (m3 : Cond.selects q.1 y y ∈ tT) (m4 : Cond.initialized y.cls ∈ tT) (m5 : Cond.code y cd mL rt ∈ tT) (hrc : rm.cells = mc) (hrs : rm.slots = ms) (hd : y.cls = q.1 ∧ y.cls ≠ "java/lang/invoke/MethodHandle" ∧ y.cls ≠ "java/lang/invoke/VarHandle" ∧ (parseMethodDescriptor y.desc).map (fun d => d.parameters.length) = some n) (hR : rm.frames + 1 ≤ Rm.frames ∧ 8 + (mL + 11) + rm.locals ≤ Rm.locals)
    (hn : As.length = n) (hst : st0 = As.reverse ++ .ref (gA g k) :: rest) (hW : (rest.map fun v => v.category).sum ≤ 8) (hdg : decode cc pc = .ok (.invokevirtual idx, 3)) (hf : cells + mc ≤ Rm.cells ∧ slots + ms ≤ Rm.slots) :
    va_Run p l e Rm s m args below meth c H locs cells slots mc ms (F0 m pc ls st0) rest (Qc (Value.ref (gA g k) :: As).toArray) (ar g) :=
  va_runVN (Ts := tT) ⟨C.1, C.2.1, hml, C.2.2.1, C.2.2.2.1⟩ hM ⟨va_cnB n C.2.2.2.1 (tT_sub (fun w h => (List.mem_cons.mp h).elim (fun e => e ▸ m5) id)) rfl hrc hrs (C.nest m1 rfl) (C.2.2.2.1 _ m4) hd.2 hR, C.2.2.2.1 _ m2, C.2.2.2.1 _ m3⟩ ⟨Wd.blind, va_recv C.2.2.2.2.1 hw.1 hcl (wsl_obj hk hkd hci), fun U hU hW => ⟨rfl, C.wd hS hw hU hW⟩⟩ rfl hn hls hst (lv_room hW) hdg hf
theorem x_runS (C : Cx g p c m s args cc own) (hw : Wo g M H) (hS : va_S (ar g) s.heap H locs) (hml : c.maxLocals = nL) (hls : ls.size = nL) (hM : Met l y (.code y cd mL rt :: tT) rm (va_Pc As (Wd g M)) Qc mc ms (ar g))
    (m1 : Cond.methodLink own idx y ∈ tT) (m2 : Cond.static y ∈ tT) (m4 : Cond.initialized y.cls ∈ tT) (m5 : Cond.code y cd mL rt ∈ tT) (hrc : rm.cells = mc) (hrs : rm.slots = ms) (hd : y.cls ≠ "java/lang/invoke/MethodHandle" ∧ y.cls ≠ "java/lang/invoke/VarHandle" ∧ (parseMethodDescriptor y.desc).map (fun d => d.parameters.length) = some n) (hR : rm.frames + 1 ≤ Rm.frames ∧ 8 + (mL + 11) + rm.locals ≤ Rm.locals)
    (hn : As.length = n) (hst : st0 = As.reverse ++ rest) (hW : (rest.map fun v => v.category).sum ≤ 8) (hdg : decode cc pc = .ok (.invokestatic idx, 3)) (hf : cells + mc ≤ Rm.cells ∧ slots + ms ≤ Rm.slots) :
    va_Run p l e Rm s m args below meth c H locs cells slots mc ms (F0 m pc ls st0) rest (Qc As.toArray) (ar g) :=
  va_runS (Ts := tT) ⟨C.1, C.2.1, hml, C.2.2.1, C.2.2.2.1⟩ hM (va_cwS n C.2.2.2.1 (tT_sub (fun w h => by
    rcases List.mem_append.mp h with h | h
    · simp only [List.mem_cons, List.not_mem_nil, or_false] at h
      rcases h with rfl | rfl | rfl
      · exact m1
      · exact m2
      · exact m4
    · exact (List.mem_cons.mp h).elim (fun e => e ▸ m5) id)) rfl hrc hrs hd hR) ⟨Wd.blind, fun U hU hW => ⟨rfl, C.wd hS hw hU hW⟩⟩ rfl hn hls hst (lv_room hW) hdg hf
theorem x_runSN (C : Cx g p c m s args cc own) (hw : Wo g M H) (hS : va_S (ar g) s.heap H locs) (hml : c.maxLocals = nL) (hls : ls.size = nL) (hM : Met l y (.code y cd mL rt :: tT) rm (va_Pc As (Wd g M)) Qc mc ms (ar g))
    (m1 : Cond.methodLinkNest own idx y "RatedBySighs" ∈ lw_tbl) (m2 : Cond.static y ∈ tT) (m4 : Cond.initialized y.cls ∈ tT) (m5 : Cond.code y cd mL rt ∈ tT) (hrc : rm.cells = mc) (hrs : rm.slots = ms) (hd : y.cls ≠ "java/lang/invoke/MethodHandle" ∧ y.cls ≠ "java/lang/invoke/VarHandle" ∧ (parseMethodDescriptor y.desc).map (fun d => d.parameters.length) = some n) (hR : rm.frames + 1 ≤ Rm.frames ∧ 8 + (mL + 11) + rm.locals ≤ Rm.locals)
    (hn : As.length = n) (hst : st0 = As.reverse ++ rest) (hW : (rest.map fun v => v.category).sum ≤ 8) (hdg : decode cc pc = .ok (.invokestatic idx, 3)) (hf : cells + mc ≤ Rm.cells ∧ slots + ms ≤ Rm.slots) :
    va_Run p l e Rm s m args below meth c H locs cells slots mc ms (F0 m pc ls st0) rest (Qc As.toArray) (ar g) :=
  va_runSN (Ts := tT) ⟨C.1, C.2.1, hml, C.2.2.1, C.2.2.2.1⟩ hM ⟨va_cnB n C.2.2.2.1 (tT_sub (fun w h => (List.mem_cons.mp h).elim (fun e => e ▸ m5) id)) rfl hrc hrs (C.nest m1 rfl) (C.2.2.2.1 _ m4) hd hR, C.2.2.2.1 _ m2, trivial⟩ ⟨Wd.blind, fun U hU hW => ⟨rfl, C.wd hS hw hU hW⟩⟩ rfl hn hls hst (lv_room hW) hdg hf
end CALLS
theorem x_ci {st0 : List Value} {a : Array Value} {post : Int → (Nat → Int) → Prop} (hr : va_Run p l e Rm s m args below meth c H locs cells slots 0 0 (F0 m pc ls st0) rest (postI g post a) (ar g)) (hS : va_S (ar g) s.heap H locs)
    (kk : ∀ (x : Int) (M' : Nat → Int) (H1 : Heap) (locs1 : List Loc), rg x → post x M' → Wo g M' H1 → va_S (ar g) s.heap H1 locs1 → W p l e Rm s m args below meth c H1 locs1 cells slots Q (F0 m (pc + 3) ls (.int (II x) :: rest))) : W p l e Rm s m args below meth c H locs cells slots Q (F0 m pc ls st0) :=
  va_calli hr hS (fun _ _ h => h) (fun _ h => h) (fun r M' t H1 locs1 ht _ hp hB _ _ hS1 => by
    obtain ⟨x, rfl, hx, hp⟩ := hp
    exact kk x M' H1 locs1 hx hp (ht ▸ hB) hS1)
theorem x_cl {st0 : List Value} {a : Array Value} {post : Int64 → (Nat → Int) → Prop} (hr : va_Run p l e Rm s m args below meth c H locs cells slots 0 0 (F0 m pc ls st0) rest (postL g post a) (ar g)) (hS : va_S (ar g) s.heap H locs)
    (kk : ∀ (x : Int64) (M' : Nat → Int) (H1 : Heap) (locs1 : List Loc), post x M' → Wo g M' H1 → va_S (ar g) s.heap H1 locs1 → W p l e Rm s m args below meth c H1 locs1 cells slots Q (F0 m (pc + 3) ls (.long x :: rest))) : W p l e Rm s m args below meth c H locs cells slots Q (F0 m pc ls st0) :=
  va_calll hr hS (fun _ _ h => h) (fun _ h => h) (fun r M' t H1 locs1 ht _ hp hB _ _ hS1 => kk r M' H1 locs1 hp (ht ▸ hB) hS1)
theorem x_cv {st0 : List Value} {a : Array Value} {post : (Nat → Int) → Prop} (hr : va_Run p l e Rm s m args below meth c H locs cells slots 0 0 (F0 m pc ls st0) rest (postV g post a) (ar g)) (hS : va_S (ar g) s.heap H locs)
    (kk : ∀ (M' : Nat → Int) (H1 : Heap) (locs1 : List Loc), post M' → Wo g M' H1 → va_S (ar g) s.heap H1 locs1 → W p l e Rm s m args below meth c H1 locs1 cells slots Q (F0 m (pc + 3) ls rest)) : W p l e Rm s m args below meth c H locs cells slots Q (F0 m pc ls st0) :=
  va_callv hr hS (fun _ _ h => h) (fun _ h => h) (fun M' t H1 locs1 ht _ hp hB _ _ hS1 => kk M' H1 locs1 hp (ht ▸ hB) hS1)
theorem svr {R : Nat → Option Nat} {n a : Nat} (h : R n = some a) : sv R M 1 n = .ref a := by unfold sv; rw [h]; rfl
end PX
