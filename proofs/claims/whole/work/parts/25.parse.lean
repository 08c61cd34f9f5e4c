/-! TOKENS of b, n bytes -/
def blB (c : Int) : Bool := decide (c = 32 ∨ c = 10)
def ltB (c : Int) : Bool := decide (97 ≤ c ∧ c ≤ 122)
def dgB (c : Int) : Bool := decide (48 ≤ c ∧ c ≤ 57)
def skF (P : Int → Bool) (b : Nat → Int) (n : Nat) : Nat → Nat → Nat
  | 0, i => i
  | f + 1, i => if i < n ∧ P (b i) = true then skF P b n f (i + 1) else i
/-- the first place from i on whose byte isn't so -/
def sk (P : Int → Bool) (b : Nat → Int) (n i : Nat) : Nat := skF P b n (n - i) i
theorem sk_s {P : Int → Bool} {b : Nat → Int} {n i : Nat} (h : i < n) (hp : P (b i) = true) : sk P b n i = sk P b n (i + 1) := by
  unfold sk
  rw [show n - i = (n - (i + 1)) + 1 by omega, skF, if_pos ⟨h, hp⟩]
theorem sk_e {P : Int → Bool} {b : Nat → Int} {n i : Nat} (h : ¬ (i < n ∧ P (b i) = true)) : sk P b n i = i := by
  unfold sk
  cases n - i with
  | zero => rfl
  | succ k => rw [skF, if_neg h]
theorem skF_in {P : Int → Bool} {b : Nat → Int} {n : Nat} : ∀ (f i : Nat), i ≤ n → i ≤ skF P b n f i ∧ skF P b n f i ≤ n
  | 0, i, h => ⟨Nat.le_refl _, h⟩
  | f + 1, i, h => by
    rw [skF]
    split
    · next q =>
      have h3 := q.1
      have h4 := skF_in (P := P) (b := b) (n := n) f (i + 1) (by omega)
      exact ⟨by omega, h4.2⟩
    · exact ⟨Nat.le_refl _, h⟩
theorem sk_in {P : Int → Bool} {b : Nat → Int} {n i : Nat} (h : i ≤ n) : i ≤ sk P b n i ∧ sk P b n i ≤ n := skF_in _ _ h
/-- whether the bytes from s on begin with these -/
def eqL : List Int → (Nat → Int) → Nat → Bool
  | [], _, _ => true
  | c :: r, b, s => decide (b s = c) && eqL r b (s + 1)
def spw (w : List Int) (b : Nat → Int) (s e : Nat) : Bool := decide (e - s = w.length) && eqL w b s
/-- which word: its token -/
def wdT (b : Nat → Int) (s e : Nat) : Int :=
  if spw [115, 105, 103, 104, 115] b s e then 1 else if spw [109, 111, 111, 100, 115] b s e then 2 else if spw [112, 97, 121, 115] b s e then 3
  else if spw [111, 114] b s e then -9 else if spw [97, 110, 100] b s e then -10 else if spw [110, 111, 116] b s e then -8
  else if spw [109, 111, 111, 100] b s e then -1 else if spw [104, 111, 117, 114] b s e then -2 else if spw [110, 117, 109, 98, 101, 114] b s e then -3
  else if spw [111, 116, 104, 101, 114, 115] b s e then -4 else if spw [104, 111, 117, 115, 101] b s e then -5 else if spw [102, 111, 111, 108, 115] b s e then -6 else 8
def sgT (c : Int) : Int := if c = 40 then 4 else if c = 41 then 5 else if c = 59 then 6 else if c = 43 then -13 else if c = 45 then -14 else if c = 42 then -15 else if c = 60 then -11 else if c = 61 then -12 else 8
def vlD (b : Nat → Int) (s : Nat) : Nat → Int
  | 0 => 0
  | k + 1 => 10 * vlD b s k + (b (s + k) - 48)
/-- of the token that is read from place i on: where it begins, where it ends, which it is, the number that it is -/
def tS (b : Nat → Int) (n i : Nat) : Nat := sk blB b n i
def tE (b : Nat → Int) (n i : Nat) : Nat := if n ≤ tS b n i then tS b n i else if ltB (b (tS b n i)) then sk ltB b n (tS b n i) else if dgB (b (tS b n i)) then sk dgB b n (tS b n i) else tS b n i + 1
def tK (b : Nat → Int) (n i : Nat) : Int := if n ≤ tS b n i then 7 else if ltB (b (tS b n i)) then wdT b (tS b n i) (tE b n i) else if dgB (b (tS b n i)) then (if 4 < tE b n i - tS b n i then 8 else 0) else sgT (b (tS b n i))
def tV (b : Nat → Int) (n i : Nat) : Int := vlD b (tS b n i) (tE b n i - tS b n i)
theorem tS_in {b : Nat → Int} {n i : Nat} (h : i ≤ n) : i ≤ tS b n i ∧ tS b n i ≤ n := sk_in h
theorem tE_in {b : Nat → Int} {n i : Nat} (h : i ≤ n) : tS b n i ≤ tE b n i ∧ tE b n i ≤ n ∧ (tK b n i ≠ 7 → tS b n i < tE b n i) := by
  have h1 := tS_in (b := b) h
  unfold tE tK
  by_cases h2 : n ≤ tS b n i
  · rw [if_pos h2, if_pos h2]; exact ⟨Nat.le_refl _, h1.2, fun q => absurd rfl q⟩
  · rw [if_neg h2]
    by_cases h3 : ltB (b (tS b n i)) = true
    · rw [if_pos h3, sk_s (by omega) h3]
      have := sk_in (P := ltB) (b := b) (n := n) (i := tS b n i + 1) (by omega)
      omega
    · rw [if_neg h3]
      by_cases h4 : dgB (b (tS b n i)) = true
      · rw [if_pos h4, sk_s (by omega) h4]
        have := sk_in (P := dgB) (b := b) (n := n) (i := tS b n i + 1) (by omega)
        omega
      · rw [if_neg h4]; omega
/-! THE PARSER: a fault's place, or the code and the place behind -/
abbrev Res : Type := Nat ⊕ (List Int × Nat)
def lpP (b : Nat → Int) (n : Nat) (it : Nat → Res) (op : Int → Bool) : Nat → List Int → Nat → Res
  | 0, c, j => .inr (c, j)
  | f + 1, c, j => if op (tK b n j) then (match it (tE b n j) with
    | .inl q => .inl q
    | .inr (c2, j2) => lpP b n it op f (c ++ c2 ++ [tK b n j]) j2) else .inr (c, j)
def chP (b : Nat → Int) (n : Nat) (it : Nat → Res) (op : Int → Bool) (i : Nat) : Res := match it i with
  | .inl q => .inl q
  | .inr (c, j) => lpP b n it op 161 c j
def oTi (k : Int) : Bool := decide (k = -15)
def oPl (k : Int) : Bool := decide (k = -13 ∨ k = -14)
def oAn (k : Int) : Bool := decide (k = -10)
def oOr (k : Int) : Bool := decide (k = -9)
def p1P (b : Nat → Int) (n : Nat) (s1 sE : Nat → Res) (can : Bool) (i : Nat) : Res :=
  if tK b n i = 0 then .inr ([tV b n i], tE b n i) else if tK b n i < 0 ∧ -6 ≤ tK b n i then .inr ([tK b n i], tE b n i)
  else if tK b n i = -14 then (if can then (match s1 (tE b n i) with
    | .inl q => .inl q
    | .inr (c, j) => .inr (c ++ [-7], j)) else .inl (tS b n i))
  else if tK b n i = 4 ∧ can = true then (match sE (tE b n i) with
    | .inl q => .inl q
    | .inr (c, j) => if tK b n j = 5 then .inr (c, tE b n j) else .inl (tS b n j))
  else .inl (tS b n i)
def pNP (b : Nat → Int) (n : Nat) (sN : Nat → Res) (can : Bool) (pS : Nat → Res) (i : Nat) : Res :=
  if tK b n i = -8 then (if can then (match sN (tE b n i) with
    | .inl q => .inl q
    | .inr (c, j) => .inr (c ++ [-8], j)) else .inl (tS b n i))
  else (match pS i with
    | .inl q => .inl q
    | .inr (c, j) => if tK b n j = -11 ∨ tK b n j = -12 then (match pS (tE b n j) with
      | .inl q => .inl q
      | .inr (c2, j2) => .inr (c ++ c2 ++ [tK b n j], j2)) else .inr (c, j))
/-- one level, over the deeper one: ONE, NOT, E -/
def lvP (b : Nat → Int) (n : Nat) (s : (Nat → Res) × (Nat → Res) × (Nat → Res)) (can : Bool) : (Nat → Res) × (Nat → Res) × (Nat → Res) :=
  (p1P b n s.1 s.2.2 can, pNP b n s.2.1 can (chP b n (chP b n (p1P b n s.1 s.2.2 can) oTi) oPl), chP b n (chP b n (pNP b n s.2.1 can (chP b n (chP b n (p1P b n s.1 s.2.2 can) oTi) oPl)) oAn) oOr)
def lev (b : Nat → Int) (n : Nat) : Nat → (Nat → Res) × (Nat → Res) × (Nat → Res)
  | 0 => lvP b n (fun _ => .inl 0, fun _ => .inl 0, fun _ => .inl 0) false
  | d + 1 => lvP b n (lev b n d) true
def q1 (b : Nat → Int) (n d : Nat) : Nat → Res := (lev b n d).1
def qT (b : Nat → Int) (n d : Nat) : Nat → Res := chP b n (q1 b n d) oTi
def qS (b : Nat → Int) (n d : Nat) : Nat → Res := chP b n (qT b n d) oPl
def qN (b : Nat → Int) (n d : Nat) : Nat → Res := (lev b n d).2.1
def qA (b : Nat → Int) (n d : Nat) : Nat → Res := chP b n (qN b n d) oAn
def qE (b : Nat → Int) (n d : Nat) : Nat → Res := (lev b n d).2.2
theorem qE_eq (b : Nat → Int) (n d : Nat) : qE b n d = chP b n (qA b n d) oOr := by cases d <;> rfl
/-- a part: its key, an E, a ; -/
def ptP (b : Nat → Int) (n : Nat) (key : Int) (i : Nat) : Res := if tK b n i = key then (match qE b n 5 (tE b n i) with
    | .inl q => .inl q
    | .inr (c, j) => if tK b n j = 6 then .inr (c, tE b n j) else .inl (tS b n j)) else .inl (tS b n i)
/-- a whole text: its fault, or its three codes -/
def txP (b : Nat → Int) (n : Nat) : Nat ⊕ (List Int × List Int × List Int) := match ptP b n 1 0 with
  | .inl q => .inl q
  | .inr (c0, i1) => match ptP b n 2 i1 with
    | .inl q => .inl q
    | .inr (c1, i2) => match ptP b n 3 i2 with
      | .inl q => .inl q
      | .inr (c2, i3) => if tK b n i3 = 7 then .inr (c0, c1, c2) else .inl (tS b n i3)
/-! what a code says -/
def rnL (nm : Nat → Int) : List Int → List Int → Option (List Int)
  | [], S => some S
  | w :: c, S => match stepW nm w S with
    | none => none
    | some S' => rnL nm c S'
theorem rnL_app (nm : Nat → Int) : ∀ (c d S : List Int), rnL nm (c ++ d) S = (rnL nm c S).bind (rnL nm d)
  | [], d, S => rfl
  | w :: c, d, S => by
    show (match stepW nm w S with | none => none | some S' => rnL nm (c ++ d) S') = _
    rw [rnL]
    cases stepW nm w S with
    | none => rfl
    | some S' => exact rnL_app nm c d S'
def vC (nm : Nat → Int) (c : List Int) : Int := match rnL nm c [] with
  | some (x :: _) => x
  | _ => 0
/-- a code that leaves one number -/
def gdC (c : List Int) : Prop := ∀ (nm : Nat → Int) (S : List Int), rnL nm c S = some (vC nm c :: S)
theorem gd_of {c : List Int} {f : (Nat → Int) → Int} (h : ∀ (nm : Nat → Int) (S : List Int), rnL nm c S = some (f nm :: S)) : gdC c ∧ ∀ nm, vC nm c = f nm := by
  have e : ∀ nm, vC nm c = f nm := fun nm => by unfold vC; rw [h nm []]
  exact ⟨fun nm S => by rw [e]; exact h nm S, e⟩
theorem gd_num {x : Int} (h : 0 ≤ x) : gdC [x] ∧ ∀ nm, vC nm [x] = x := gd_of (f := fun _ => x) (fun nm S => by simp [rnL, stepW, h])
theorem gd_nam {x : Int} (h : x < 0 ∧ -6 ≤ x) : gdC [x] ∧ ∀ nm, vC nm [x] = nm (-1 - x).toNat := gd_of (f := fun nm => nm (-1 - x).toNat) (fun nm S => by simp [rnL, stepW, h.2, show ¬ 0 ≤ x by omega])
theorem gd_neg {c : List Int} (h : gdC c) : gdC (c ++ [-7]) ∧ ∀ nm, vC nm (c ++ [-7]) = wr (-vC nm c) := gd_of (f := fun nm => wr (-vC nm c)) (fun nm S => by rw [rnL_app, h nm S]; simp [rnL, stepW])
theorem gd_not {c : List Int} (h : gdC c) : gdC (c ++ [-8]) ∧ ∀ nm, vC nm (c ++ [-8]) = (if vC nm c = 0 then 1 else 0) := gd_of (f := fun nm => if vC nm c = 0 then 1 else 0) (fun nm S => by rw [rnL_app, h nm S]; simp [rnL, stepW])
theorem gd_op {c d : List Int} {w : Int} (h : gdC c) (h2 : gdC d) (hw : w < -8) : gdC (c ++ d ++ [w]) ∧ ∀ nm, vC nm (c ++ d ++ [w]) = joinK w (vC nm c) (vC nm d) := gd_of (f := fun nm => joinK w (vC nm c) (vC nm d)) (fun nm S => by rw [rnL_app, rnL_app, h nm S]; simp [h2 nm (vC nm c :: S), rnL, stepW, show ¬ 0 ≤ w by omega, show ¬ -6 ≤ w by omega, show ¬ w = -7 by omega, show ¬ w = -8 by omega])
theorem vlD_pos {b : Nat → Int} {s : Nat} : ∀ {k : Nat}, (∀ j, j < k → dgB (b (s + j)) = true) → 0 ≤ vlD b s k
  | 0, _ => Int.le_refl 0
  | k + 1, h => by
    have h1 := vlD_pos (k := k) (fun j hj => h j (by omega))
    have h2 := h k (by omega)
    simp only [dgB, decide_eq_true_eq] at h2
    rw [vlD]
    omega
theorem skF_P {P : Int → Bool} {b : Nat → Int} {n : Nat} : ∀ (f i : Nat), ∀ j, i ≤ j → j < skF P b n f i → P (b j) = true
  | 0, i, j, h1, h2 => by rw [skF] at h2; omega
  | f + 1, i, j, h1, h2 => by
    rw [skF] at h2
    split at h2
    · next q =>
      by_cases e : j = i
      · rw [e]; exact q.2
      · exact skF_P f (i + 1) j (by omega) h2
    · omega
theorem tV_pos {b : Nat → Int} {n i : Nat} (h : tK b n i = 0) : 0 ≤ tV b n i := by
  unfold tV
  apply vlD_pos
  intro j hj
  unfold tK at h
  unfold tE at hj h
  by_cases h2 : n ≤ tS b n i
  · rw [if_pos h2] at h; omega
  · rw [if_neg h2] at hj h
    by_cases h3 : ltB (b (tS b n i)) = true
    · rw [if_pos h3] at h
      exfalso
      unfold wdT at h
      (repeat' split at h) <;> omega
    · rw [if_neg h3] at h hj
      by_cases h4 : dgB (b (tS b n i)) = true
      · rw [if_pos h4] at hj
        exact skF_P _ _ _ (by omega) (show tS b n i + j < sk dgB b n (tS b n i) by rw [if_neg h3, if_pos h4] at *; omega)
      · rw [if_neg h4] at h
        exfalso
        unfold sgT at h
        (repeat' split at h) <;> omega
/-! what holds of what the parser gives: its code leaves one number, is no longer than the bytes read -/
def okR (i n : Nat) (r : Res) : Prop := match r with
  | .inl q => i ≤ q ∧ q ≤ n
  | .inr (c, j) => gdC c ∧ i + c.length ≤ j ∧ j ≤ n
def okP (n : Nat) (p : Nat → Res) : Prop := ∀ i, i ≤ n → okR i n (p i)
theorem tK_7 {b : Nat → Int} {n i : Nat} (h : i ≤ n) (h2 : tK b n i ≠ 7) : i < tE b n i ∧ tE b n i ≤ n := by
  have h3 := tE_in (b := b) h
  have h4 := tS_in (b := b) h
  have h5 := h3.2.2 h2
  omega
theorem okR_lp {b : Nat → Int} {n : Nat} {it : Nat → Res} {op : Int → Bool} (hi : okP n it) (ho : ∀ k, op k = true → k < -8) : ∀ (f : Nat) (c : List Int) (i j : Nat), gdC c → i + c.length ≤ j → j ≤ n → okR i n (lpP b n it op f c j)
  | 0, c, i, j, h1, h2, h3 => ⟨h1, h2, h3⟩
  | f + 1, c, i, j, h1, h2, h3 => by
    rw [lpP]
    by_cases ho1 : op (tK b n j) = true
    · rw [if_pos ho1]
      have hk := ho _ ho1
      have ht := tK_7 (b := b) h3 (show tK b n j ≠ 7 by omega)
      have h4 := hi (tE b n j) ht.2
      cases hr : it (tE b n j) with
      | inl q => rw [hr] at h4; exact ⟨Nat.le_trans (by omega) h4.1, h4.2⟩
      | inr x =>
        obtain ⟨c2, j2⟩ := x
        rw [hr] at h4
        have h5 : tE b n j + c2.length ≤ j2 := h4.2.1
        exact okR_lp hi ho f _ i j2 (gd_op h1 h4.1 hk).1 (by simp only [List.length_append, List.length_cons, List.length_nil]; omega) h4.2.2
    · rw [if_neg ho1]; exact ⟨h1, h2, h3⟩
theorem okP_ch {b : Nat → Int} {n : Nat} {it : Nat → Res} {op : Int → Bool} (hi : okP n it) (ho : ∀ k, op k = true → k < -8) : okP n (chP b n it op) := by
  intro i h
  have h4 := hi i h
  unfold chP
  cases hr : it i with
  | inl q => rw [hr] at h4; exact h4
  | inr x =>
    obtain ⟨c, j⟩ := x
    rw [hr] at h4
    exact okR_lp hi ho _ c i j h4.1 h4.2.1 h4.2.2
theorem okP_1 {b : Nat → Int} {n : Nat} {s1 sE : Nat → Res} {can : Bool} (h1 : can = true → okP n s1) (hE : can = true → okP n sE) : okP n (p1P b n s1 sE can) := by
  intro i h
  have h3 := tE_in (b := b) h
  have h4 := tS_in (b := b) h
  have hf : okR i n (.inl (tS b n i)) := ⟨h4.1, h4.2⟩
  unfold p1P
  by_cases a0 : tK b n i = 0
  · rw [if_pos a0]
    have := tK_7 (b := b) h (by omega)
    exact ⟨(gd_num (tV_pos a0)).1, by simp only [List.length_cons, List.length_nil]; omega, this.2⟩
  · rw [if_neg a0]
    by_cases a1 : tK b n i < 0 ∧ -6 ≤ tK b n i
    · rw [if_pos a1]
      have := tK_7 (b := b) h (by omega)
      exact ⟨(gd_nam a1).1, by simp only [List.length_cons, List.length_nil]; omega, this.2⟩
    · rw [if_neg a1]
      by_cases a2 : tK b n i = -14
      · rw [if_pos a2]
        have ht := tK_7 (b := b) h (by omega)
        cases can with
        | false => exact hf
        | true =>
          have h5 := h1 rfl (tE b n i) ht.2
          show okR i n (match s1 (tE b n i) with | .inl q => .inl q | .inr (c, j) => .inr (c ++ [-7], j))
          cases hr : s1 (tE b n i) with
          | inl q => rw [hr] at h5; exact ⟨Nat.le_trans (by omega) h5.1, h5.2⟩
          | inr x =>
            obtain ⟨c, j⟩ := x
            rw [hr] at h5
            have h6 : tE b n i + c.length ≤ j := h5.2.1
            exact ⟨(gd_neg h5.1).1, by simp only [List.length_append, List.length_cons, List.length_nil]; omega, h5.2.2⟩
      · rw [if_neg a2]
        by_cases a3 : tK b n i = 4 ∧ can = true
        · rw [if_pos a3]
          have ht := tK_7 (b := b) h (by omega)
          have h5 := hE a3.2 (tE b n i) ht.2
          cases hr : sE (tE b n i) with
          | inl q => rw [hr] at h5; exact ⟨Nat.le_trans (by omega) h5.1, h5.2⟩
          | inr x =>
            obtain ⟨c, j⟩ := x
            rw [hr] at h5
            have h6 : tE b n i + c.length ≤ j := h5.2.1
            have h7 : j ≤ n := h5.2.2
            show okR i n (if tK b n j = 5 then .inr (c, tE b n j) else .inl (tS b n j))
            by_cases a5 : tK b n j = 5
            · rw [if_pos a5]
              have := tK_7 (b := b) h7 (by omega)
              exact ⟨h5.1, by omega, this.2⟩
            · rw [if_neg a5]
              have := tS_in (b := b) h7
              exact ⟨by omega, this.2⟩
        · rw [if_neg a3]; exact hf
theorem okP_N {b : Nat → Int} {n : Nat} {sN pS : Nat → Res} {can : Bool} (h1 : can = true → okP n sN) (hS : okP n pS) : okP n (pNP b n sN can pS) := by
  intro i h
  have h4 := tS_in (b := b) h
  have hf : okR i n (.inl (tS b n i)) := ⟨h4.1, h4.2⟩
  unfold pNP
  by_cases a2 : tK b n i = -8
  · rw [if_pos a2]
    have ht := tK_7 (b := b) h (by omega)
    cases can with
    | false => exact hf
    | true =>
      have h5 := h1 rfl (tE b n i) ht.2
      show okR i n (match sN (tE b n i) with | .inl q => .inl q | .inr (c, j) => .inr (c ++ [-8], j))
      cases hr : sN (tE b n i) with
      | inl q => rw [hr] at h5; exact ⟨Nat.le_trans (by omega) h5.1, h5.2⟩
      | inr x =>
        obtain ⟨c, j⟩ := x
        rw [hr] at h5
        have h6 : tE b n i + c.length ≤ j := h5.2.1
        exact ⟨(gd_not h5.1).1, by simp only [List.length_append, List.length_cons, List.length_nil]; omega, h5.2.2⟩
  · rw [if_neg a2]
    have h5 := hS i h
    cases hr : pS i with
    | inl q => rw [hr] at h5; exact h5
    | inr x =>
      obtain ⟨c, j⟩ := x
      rw [hr] at h5
      have h6 : i + c.length ≤ j := h5.2.1
      have h7 : j ≤ n := h5.2.2
      show okR i n (if tK b n j = -11 ∨ tK b n j = -12 then (match pS (tE b n j) with | .inl q => .inl q | .inr (c2, j2) => .inr (c ++ c2 ++ [tK b n j], j2)) else .inr (c, j))
      by_cases a5 : tK b n j = -11 ∨ tK b n j = -12
      · rw [if_pos a5]
        have ht := tK_7 (b := b) h7 (by omega)
        have h8 := hS (tE b n j) ht.2
        cases hr2 : pS (tE b n j) with
        | inl q => rw [hr2] at h8; exact ⟨Nat.le_trans (by omega) h8.1, h8.2⟩
        | inr x =>
          obtain ⟨c2, j2⟩ := x
          rw [hr2] at h8
          have h9 : tE b n j + c2.length ≤ j2 := h8.2.1
          exact ⟨(gd_op h5.1 h8.1 (by omega)).1, by simp only [List.length_append, List.length_cons, List.length_nil]; omega, h8.2.2⟩
      · rw [if_neg a5]; exact h5
theorem o_Ti : ∀ k, oTi k = true → k < -8 := by intro k h; simp only [oTi, decide_eq_true_eq] at h; omega
theorem o_Pl : ∀ k, oPl k = true → k < -8 := by intro k h; simp only [oPl, decide_eq_true_eq] at h; omega
theorem o_An : ∀ k, oAn k = true → k < -8 := by intro k h; simp only [oAn, decide_eq_true_eq] at h; omega
theorem o_Or : ∀ k, oOr k = true → k < -8 := by intro k h; simp only [oOr, decide_eq_true_eq] at h; omega
theorem okP_lv {b : Nat → Int} {n : Nat} {s : (Nat → Res) × (Nat → Res) × (Nat → Res)} {can : Bool} (h : can = true → okP n s.1 ∧ okP n s.2.1 ∧ okP n s.2.2) : okP n (lvP b n s can).1 ∧ okP n (lvP b n s can).2.1 ∧ okP n (lvP b n s can).2.2 := by
  have a1 : okP n (p1P b n s.1 s.2.2 can) := okP_1 (fun q => (h q).1) (fun q => (h q).2.2)
  have a2 := okP_ch (b := b) (okP_ch (b := b) a1 o_Ti) o_Pl
  have a3 : okP n (pNP b n s.2.1 can (chP b n (chP b n (p1P b n s.1 s.2.2 can) oTi) oPl)) := okP_N (fun q => (h q).2.1) a2
  exact ⟨a1, a3, okP_ch (okP_ch a3 o_An) o_Or⟩
theorem okP_lev (b : Nat → Int) (n : Nat) : ∀ d, okP n (lev b n d).1 ∧ okP n (lev b n d).2.1 ∧ okP n (lev b n d).2.2
  | 0 => okP_lv (fun q => absurd q (by decide))
  | d + 1 => okP_lv (fun _ => okP_lev b n d)
theorem ok_q1 (b : Nat → Int) (n d : Nat) : okP n (q1 b n d) := (okP_lev b n d).1
theorem ok_qN (b : Nat → Int) (n d : Nat) : okP n (qN b n d) := (okP_lev b n d).2.1
theorem ok_qE (b : Nat → Int) (n d : Nat) : okP n (qE b n d) := (okP_lev b n d).2.2
theorem ok_qT (b : Nat → Int) (n d : Nat) : okP n (qT b n d) := okP_ch (ok_q1 b n d) o_Ti
theorem ok_qS (b : Nat → Int) (n d : Nat) : okP n (qS b n d) := okP_ch (ok_qT b n d) o_Pl
theorem ok_qA (b : Nat → Int) (n d : Nat) : okP n (qA b n d) := okP_ch (ok_qN b n d) o_An
theorem q1_0 (b : Nat → Int) (n : Nat) : q1 b n 0 = p1P b n (fun _ => .inl 0) (fun _ => .inl 0) false := rfl
theorem q1_s (b : Nat → Int) (n d : Nat) : q1 b n (d + 1) = p1P b n (q1 b n d) (qE b n d) true := rfl
theorem qN_0 (b : Nat → Int) (n : Nat) : qN b n 0 = pNP b n (fun _ => .inl 0) false (qS b n 0) := rfl
theorem qN_s (b : Nat → Int) (n d : Nat) : qN b n (d + 1) = pNP b n (qN b n d) true (qS b n (d + 1)) := rfl
