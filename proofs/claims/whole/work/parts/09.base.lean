def rtab : List (Nat × Nat × Nat × Nat) := [(0, 1, 1, 0), (1, 1, 2, 0), (2, 1, 12, 0), (3, 1, 45, 0), (4, 1, 49, 0), (6, 1, 59, 0), (7, 1, 60, 0), (8, 1, 61, 0), (1000, 1, 2, 0), (1001, 1, 12, 0), (1002, 1, 29, 0), (1003, 1, 37, 0), (1004, 1, 44, 0), (2000, 1, 3, 0), (12000, 1, 13, 0), (12001, 1, 20, 0), (12002, 1, 27, 0), (12003, 1, 28, 0), (45000, 1, 46, 0), (45006, 1, 47, 0), (45007, 1, 48, 0), (49000, 1, 50, 0), (62000, 1, 63, 0), (64000, 1, 65, 0), (66000, 1, 67, 0), (68000, 1, 69, 0), (70001, 1, 71, 0), (70002, 1, 72, 0), (70005, 1, 73, 0), (70009, 1, 74, 0), (70010, 1, 75, 0), (70028, 1, 76, 0), (70029, 1, 77, 0), (70032, 1, 78, 0), (70033, 1, 79, 0), (70038, 1, 80, 0), (70039, 1, 81, 0), (70040, 1, 82, 0), (70041, 1, 83, 0), (3000, 8, 4, 1), (13000, 6, 14, 1), (20000, 6, 21, 1), (29000, 7, 30, 1), (37000, 6, 38, 1), (50000, 8, 51, 1), (60000, 4, 62, 2)]
/-- the place to which a reference leads, once all is made -/
def R0 (n : Nat) : Option Nat := (rtab.find? (fun q => decide (q.1 ≤ n ∧ n < q.1 + q.2.1))).map (fun q => q.2.2.1 + q.2.2.2 * (n - q.1))
/-- all is made -/
def LvF (g : Gm) : Prop := gN g = 84 ∧ ∀ n, gR g n = (R0 n).map (gA g)
theorem svi {R : Nat → Option Nat} {M : Nat → Int} {n : Nat} {x : Int} (h : M n = x) : sv R M 0 n = .int (II x) := by rw [← h]; rfl
theorem svl {R : Nat → Option Nat} {M : Nat → Int} {n : Nat} {x : Int} (h : M n = x) : sv R M 2 n = .long (LL x) := by rw [← h]; rfl
theorem kd_p {i : Nat} (h : i < 8) : kd (4 + i) = 3 := (by decide : ∀ i, i < 8 → kd (4 + i) = 3) i h
theorem kd_q {i : Nat} (h : i < 8) : kd (51 + i) = 3 := (by decide : ∀ i, i < 8 → kd (51 + i) = 3) i h
theorem kd_c {i : Nat} (h : i < 6) : kd (14 + i) = 9 := (by decide : ∀ i, i < 6 → kd (14 + i) = 9) i h
theorem kd_s {i : Nat} (h : i < 6) : kd (21 + i) = 9 := (by decide : ∀ i, i < 6 → kd (21 + i) = 9) i h
theorem kd_m {i : Nat} (h : i < 7) : kd (30 + i) = 9 := (by decide : ∀ i, i < 7 → kd (30 + i) = 9) i h
theorem kd_g {i : Nat} (h : i < 6) : kd (38 + i) = 9 := (by decide : ∀ i, i < 6 → kd (38 + i) = 9) i h
theorem kd_h {i : Nat} (h : i < 4) : kd (62 + 2 * i) = 5 := (by decide : ∀ i, i < 4 → kd (62 + 2 * i) = 5) i h
theorem kd_r {i : Nat} (h : i < 4) : kd (63 + 2 * i) = 9 := (by decide : ∀ i, i < 4 → kd (63 + 2 * i) = 9) i h
theorem ln_c {i : Nat} (h : i < 6) : ln (14 + i) = 160 := (by decide : ∀ i, i < 6 → ln (14 + i) = 160) i h
theorem ln_s {i : Nat} (h : i < 6) : ln (21 + i) = 4 := (by decide : ∀ i, i < 6 → ln (21 + i) = 4) i h
theorem ln_m {i : Nat} (h : i < 7) : ln (30 + i) = 8 := (by decide : ∀ i, i < 7 → ln (30 + i) = 8) i h
theorem ln_g {i : Nat} (h : i < 6) : ln (38 + i) = 8 := (by decide : ∀ i, i < 6 → ln (38 + i) = 8) i h
theorem ln_r {i : Nat} (h : i < 4) : ln (63 + 2 * i) = 40 := (by decide : ∀ i, i < 4 → ln (63 + 2 * i) = 40) i h
theorem rP {g : Gm} (hF : LvF g) (i : Nat) (h : i < 8) : gR g (3000 + i) = some (gA g (4 + i)) := by rw [hF.2, (by decide : ∀ i, i < 8 → R0 (3000 + i) = some (4 + i)) i h]; rfl
theorem rC {g : Gm} (hF : LvF g) (i : Nat) (h : i < 6) : gR g (13000 + i) = some (gA g (14 + i)) := by rw [hF.2, (by decide : ∀ i, i < 6 → R0 (13000 + i) = some (14 + i)) i h]; rfl
theorem rS {g : Gm} (hF : LvF g) (i : Nat) (h : i < 6) : gR g (20000 + i) = some (gA g (21 + i)) := by rw [hF.2, (by decide : ∀ i, i < 6 → R0 (20000 + i) = some (21 + i)) i h]; rfl
theorem rM {g : Gm} (hF : LvF g) (i : Nat) (h : i < 7) : gR g (29000 + i) = some (gA g (30 + i)) := by rw [hF.2, (by decide : ∀ i, i < 7 → R0 (29000 + i) = some (30 + i)) i h]; rfl
theorem rG {g : Gm} (hF : LvF g) (i : Nat) (h : i < 6) : gR g (37000 + i) = some (gA g (38 + i)) := by rw [hF.2, (by decide : ∀ i, i < 6 → R0 (37000 + i) = some (38 + i)) i h]; rfl
theorem rQ {g : Gm} (hF : LvF g) (i : Nat) (h : i < 8) : gR g (50000 + i) = some (gA g (51 + i)) := by rw [hF.2, (by decide : ∀ i, i < 8 → R0 (50000 + i) = some (51 + i)) i h]; rfl
theorem rH {g : Gm} (hF : LvF g) (i : Nat) (h : i < 4) : gR g (60000 + i) = some (gA g (62 + 2 * i)) := by rw [hF.2, (by decide : ∀ i, i < 4 → R0 (60000 + i) = some (62 + 2 * i)) i h]; rfl
theorem rRow {g : Gm} (hF : LvF g) (i : Nat) (h : i < 4) : gR g (1000 * (62 + 2 * i) + 0) = some (gA g (63 + 2 * i)) := by rw [hF.2, (by decide : ∀ i, i < 4 → R0 (1000 * (62 + 2 * i) + 0) = some (63 + 2 * i)) i h]; rfl
/-! bits of who is out -/
def bitv (o : Int) (h : Nat) : Int := o / 2 ^ h % 2
theorem bitv_jvm : ∀ o, o < 64 → ∀ h, h < 6 → (II (o : Nat) >>> (II (h : Nat) &&& 31)) &&& II 1 = II (bitv (o : Nat) h) := by decide +kernel
theorem bitv_or : ∀ o, o < 64 → ∀ h, h < 6 → (bitv (o : Nat) h = 0 ∨ bitv (o : Nat) h = 1) := by decide +kernel
theorem bitv_jvm' {o : Int} {h : Nat} (h0 : 0 ≤ o) (h1 : o ≤ 63) (h2 : h < 6) : (II o >>> (II (h : Int) &&& 31)) &&& II 1 = II (bitv o h) := by
  obtain ⟨n, rfl⟩ : ∃ n : Nat, o = n := ⟨o.toNat, by omega⟩
  exact bitv_jvm n (by omega) h h2
theorem bitv_01 {o : Int} {h : Nat} (h0 : 0 ≤ o) (h1 : o ≤ 63) (h2 : h < 6) : bitv o h = 0 ∨ bitv o h = 1 := by
  obtain ⟨n, rfl⟩ : ∃ n : Nat, o = n := ⟨o.toNat, by omega⟩
  exact bitv_or n (by omega) h h2
/-- a number within bounds -/
def bnd (v lo hi : Int) : Int := if v < lo then lo else if hi < v then hi else v
theorem bnd_in {v lo hi : Int} (h : lo ≤ hi) : lo ≤ bnd v lo hi ∧ bnd v lo hi ≤ hi := by unfold bnd; split <;> (try split) <;> omega
theorem bnd_mm {v lo hi : Int} (h : lo ≤ hi) : (if lo < (if v < hi then v else hi) then (if v < hi then v else hi) else lo) = bnd v lo hi := by unfold bnd; (repeat' split) <;> omega
/-! kinds: what one sighs, sways, whether exempt -/
def wsK (num nt v : Int) : Int := if nt < 10 * num then 0 else v
def sighK (k num nt v mo : Int) : Int := if k = 1 then wsK num nt v else if k = 2 then 3 * v else if k = 3 then wsK num nt v / 2 else if k = 4 then (if 5 < mo then 0 else 3 * v) else if k = 5 then 0 else v
def swayK (k num v f : Int) : Int := if k = 1 then v else if k = 2 then 2 * (v + f) else if k = 3 then v - 1 else if k = 4 then 2 * (v + f) + num else if k = 5 then 0 else v + f
def exK (k num nt : Int) : Prop := k = 5 ∨ ((k = 1 ∨ k = 3) ∧ 4 < num) ∨ (k = 3 ∧ nt % 2 = 1)
theorem II_nI (n : Nat) : II (n : Int) = nI n := by
  apply Int32.toBitVec_inj.mp
  show BitVec.ofInt 32 (n : Int) = BitVec.ofNat 32 n
  exact BitVec.ofInt_natCast 32 n
theorem II_div {a b : Int} (h0 : 0 ≤ a) (ha : rg a) (h1 : 0 < b) (hb : rg b) : II a / II b = II (a / b) := by
  obtain ⟨n, rfl⟩ : ∃ n : Nat, a = n := ⟨a.toNat, by omega⟩
  obtain ⟨d, rfl⟩ : ∃ n : Nat, b = n := ⟨b.toNat, by omega⟩
  have := ha.2
  have := hb.2
  rw [II_nI, II_nI, pk_div (by omega) (by omega) (by omega), ← II_nI]
  rfl
theorem II_rem {a b : Int} (h0 : 0 ≤ a) (ha : rg a) (h1 : 0 < b) (hb : rg b) : II a - II a / II b * II b = II (a % b) := by
  obtain ⟨n, rfl⟩ : ∃ n : Nat, a = n := ⟨a.toNat, by omega⟩
  obtain ⟨d, rfl⟩ : ∃ n : Nat, b = n := ⟨b.toNat, by omega⟩
  have := ha.2
  have := hb.2
  rw [II_nI, II_nI, pk_rem (by omega) (by omega) (by omega), ← II_nI]
  rfl
section PY
variable {p : Program} {l : Launch} {e : Env} {Rm : Room} {s : State} {m : MethodId} {args : Array Value} {below : List Frame} {meth : Method} {c : Code} {H : Heap} {locs : List Loc} {cells slots : Nat} {Q : State → Prop}
variable {cc : ByteArray} {own : String} {pc : Nat} {ls : Array Slot} {rest : List Value} {g : Gm} {M : Nat → Int}
theorem x_idiv {a b : Int} (C : Cx g p c m s args cc own) (h0 : 0 ≤ a) (ha : rg a) (h1 : 0 < b) (hb : rg b) (hdg : decode cc pc = .ok (.idiv, 1)) (k : W p l e Rm s m args below meth c H locs cells slots Q (F0 m (pc + 1) ls (.int (II (a / b)) :: rest))) : W p l e Rm s m args below meth c H locs cells slots Q (F0 m pc ls (.int (II b) :: .int (II a) :: rest)) := lv_idiv C.1 C.2.1 hdg (fun q => by have := (II_eq hb rg0).mp q; omega) (by rw [II_div h0 ha h1 hb]; exact k)
theorem x_irem {a b : Int} (C : Cx g p c m s args cc own) (h0 : 0 ≤ a) (ha : rg a) (h1 : 0 < b) (hb : rg b) (hdg : decode cc pc = .ok (.irem, 1)) (k : W p l e Rm s m args below meth c H locs cells slots Q (F0 m (pc + 1) ls (.int (II (a % b)) :: rest))) : W p l e Rm s m args below meth c H locs cells slots Q (F0 m pc ls (.int (II b) :: .int (II a) :: rest)) := lv_irem C.1 C.2.1 hdg (fun q => by have := (II_eq hb rg0).mp q; omega) (by rw [II_rem h0 ha h1 hb]; exact k)
end PY
