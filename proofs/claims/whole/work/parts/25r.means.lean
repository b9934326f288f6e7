/-! WHAT A TEXT OF RULES MEANS: a meaning is a function of the letters' values; none: refused. No trees: a piece of code means F when every family of pieces that is closed under the rules has it -/
abbrev Mng : Type := (Nat → Int32) → Option Int32
def isLt (l : Nat) : Prop := l = 107 ∨ l = 97 ∨ l = 112 ∨ l = 122 ∨ l = 119 ∨ l = 109 ∨ l = 116 ∨ l = 110 ∨ l = 121 ∨ l = 101 ∨ l = 118 ∨ l = 104 ∨ l = 100 ∨ l = 115 ∨ l = 108 ∨ l = 113 ∨ l = 99
def fN (v : Int32) : Mng := fun _ => some v
def fL (l : Nat) : Mng := fun e => some (e l)
def vNot (a : Option Int32) : Option Int32 := match a with
  | some v => some (1 - v)
  | none => none
def fNot (a : Mng) : Mng := fun e => vNot (a e)
/-- a sign at work -/
def wkd (s : Nat) (a b : Int32) : Option Int32 := match s with
  | 43 => some (a + b)
  | 45 => some (a - b)
  | 42 => some (a * b)
  | 47 => if b = 0 then none else some (a / b)
  | 37 => if b = 0 then none else some (a - a / b * b)
  | 60 => some (if a < b then 1 else 0)
  | 62 => some (if b < a then 1 else 0)
  | _ => some (if a = b then 1 else 0)
def vBin (s : Nat) (a b : Option Int32) : Option Int32 := match a, b with
  | some x, some y => wkd s x y
  | _, _ => none
def fBin (s : Nat) (a b : Mng) : Mng := fun e => vBin s (a e) (b e)
def vAnd (a b : Option Int32) : Option Int32 := match a with
  | some x => if x = 1 then b else some x
  | none => none
def vOr (a b : Option Int32) : Option Int32 := match a with
  | some x => if x = 0 then b else some x
  | none => none
def fAnd (a b : Mng) : Mng := fun e => vAnd (a e) (b e)
def fOr (a b : Mng) : Mng := fun e => vOr (a e) (b e)
def isTm (s : Nat) : Prop := s = 42 ∨ s = 47 ∨ s = 37
def isPl (s : Nat) : Prop := s = 43 ∨ s = 45
def isAr (s : Nat) : Prop := s = 43 ∨ s = 45 ∨ s = 42 ∨ s = 47 ∨ s = 37
def isCm (s : Nat) : Prop := s = 60 ∨ s = 62 ∨ s = 61
/-- the reference's code: behind its operands each sign -/
def ClR (c a : Nat → Int32) (P : Nat → Nat → Bool → Mng → Prop) : Prop :=
  (∀ i, c i = nI 0 → P i (i + 1) false (fN (a i))) ∧
  (∀ i l, c i = nI 1 → isLt l → a i = nI l → P i (i + 1) false (fL l)) ∧
  (∀ i k F, P i k true F → c k = nI 2 → P i (k + 1) true (fNot F)) ∧
  (∀ i k l F1 F2 s, P i k false F1 → P k l false F2 → c l = nI s → isAr s → P i (l + 1) false (fBin s F1 F2)) ∧
  (∀ i k l F1 F2 s, P i k false F1 → P k l false F2 → c l = nI s → isCm s → P i (l + 1) true (fBin s F1 F2)) ∧
  (∀ i k l F1 F2, P i k true F1 → P k l true F2 → c l = nI 38 → P i (l + 1) true (fAnd F1 F2)) ∧
  (∀ i k l F1 F2, P i k true F1 → P k l true F2 → c l = nI 124 → P i (l + 1) true (fOr F1 F2))
def SR (c a : Nat → Int32) (i j : Nat) (b : Bool) (F : Mng) : Prop := ∀ P : Nat → Nat → Bool → Mng → Prop, ClR c a P → P i j b F
/-- the class's steps: & and | stand between, and jump -/
def ClC (s o : Nat → Int32) (P : Nat → Nat → Bool → Mng → Prop) : Prop :=
  (∀ i, s i = nI 48 → P i (i + 1) false (fN (o i))) ∧
  (∀ i l, s i = nI 97 → isLt l → o i = nI (l - 97) → P i (i + 1) false (fL l)) ∧
  (∀ i k F, P i k true F → s k = nI 33 → P i (k + 1) true (fNot F)) ∧
  (∀ i k l F1 F2 g, P i k false F1 → P k l false F2 → s l = nI g → isAr g → P i (l + 1) false (fBin g F1 F2)) ∧
  (∀ i k l F1 F2 g, P i k false F1 → P k l false F2 → s l = nI g → isCm g → P i (l + 1) true (fBin g F1 F2)) ∧
  (∀ i k l F1 F2, P i k true F1 → P (k + 1) l true F2 → s k = nI 38 → o k = nI l → P i l true (fAnd F1 F2)) ∧
  (∀ i k l F1 F2, P i k true F1 → P (k + 1) l true F2 → s k = nI 124 → o k = nI l → P i l true (fOr F1 F2))
def SC (s o : Nat → Int32) (i j : Nat) (b : Bool) (F : Mng) : Prop := ∀ P : Nat → Nat → Bool → Mng → Prop, ClC s o P → P i j b F
theorem SR.num {c a : Nat → Int32} {i : Nat} (h : c i = nI 0) : SR c a i (i + 1) false (fN (a i)) := fun _ q => q.1 i h
theorem SR.let {c a : Nat → Int32} {i l : Nat} (h : c i = nI 1) (h2 : isLt l) (h3 : a i = nI l) : SR c a i (i + 1) false (fL l) := fun _ q => q.2.1 i l h h2 h3
theorem SR.non {c a : Nat → Int32} {i k : Nat} {F : Mng} (h : SR c a i k true F) (h2 : c k = nI 2) : SR c a i (k + 1) true (fNot F) := fun P q => q.2.2.1 i k F (h P q) h2
theorem SR.ari {c a : Nat → Int32} {i k l s : Nat} {F1 F2 : Mng} (h : SR c a i k false F1) (h1 : SR c a k l false F2) (h2 : c l = nI s) (h3 : isAr s) : SR c a i (l + 1) false (fBin s F1 F2) := fun P q => q.2.2.2.1 i k l F1 F2 s (h P q) (h1 P q) h2 h3
theorem SR.cmp {c a : Nat → Int32} {i k l s : Nat} {F1 F2 : Mng} (h : SR c a i k false F1) (h1 : SR c a k l false F2) (h2 : c l = nI s) (h3 : isCm s) : SR c a i (l + 1) true (fBin s F1 F2) := fun P q => q.2.2.2.2.1 i k l F1 F2 s (h P q) (h1 P q) h2 h3
theorem SR.con {c a : Nat → Int32} {i k l : Nat} {F1 F2 : Mng} (h : SR c a i k true F1) (h1 : SR c a k l true F2) (h2 : c l = nI 38) : SR c a i (l + 1) true (fAnd F1 F2) := fun P q => q.2.2.2.2.2.1 i k l F1 F2 (h P q) (h1 P q) h2
theorem SR.dis {c a : Nat → Int32} {i k l : Nat} {F1 F2 : Mng} (h : SR c a i k true F1) (h1 : SR c a k l true F2) (h2 : c l = nI 124) : SR c a i (l + 1) true (fOr F1 F2) := fun P q => q.2.2.2.2.2.2 i k l F1 F2 (h P q) (h1 P q) h2
theorem SC.num {c a : Nat → Int32} {i : Nat} (h : c i = nI 48) : SC c a i (i + 1) false (fN (a i)) := fun _ q => q.1 i h
theorem SC.let {c a : Nat → Int32} {i l : Nat} (h : c i = nI 97) (h2 : isLt l) (h3 : a i = nI (l - 97)) : SC c a i (i + 1) false (fL l) := fun _ q => q.2.1 i l h h2 h3
theorem SC.non {c a : Nat → Int32} {i k : Nat} {F : Mng} (h : SC c a i k true F) (h2 : c k = nI 33) : SC c a i (k + 1) true (fNot F) := fun P q => q.2.2.1 i k F (h P q) h2
theorem SC.ari {c a : Nat → Int32} {i k l s : Nat} {F1 F2 : Mng} (h : SC c a i k false F1) (h1 : SC c a k l false F2) (h2 : c l = nI s) (h3 : isAr s) : SC c a i (l + 1) false (fBin s F1 F2) := fun P q => q.2.2.2.1 i k l F1 F2 s (h P q) (h1 P q) h2 h3
theorem SC.cmp {c a : Nat → Int32} {i k l s : Nat} {F1 F2 : Mng} (h : SC c a i k false F1) (h1 : SC c a k l false F2) (h2 : c l = nI s) (h3 : isCm s) : SC c a i (l + 1) true (fBin s F1 F2) := fun P q => q.2.2.2.2.1 i k l F1 F2 s (h P q) (h1 P q) h2 h3
theorem SC.con {c a : Nat → Int32} {i k l : Nat} {F1 F2 : Mng} (h : SC c a i k true F1) (h1 : SC c a (k + 1) l true F2) (h2 : c k = nI 38) (h3 : a k = nI l) : SC c a i l true (fAnd F1 F2) := fun P q => q.2.2.2.2.2.1 i k l F1 F2 (h P q) (h1 P q) h2 h3
theorem SC.dis {c a : Nat → Int32} {i k l : Nat} {F1 F2 : Mng} (h : SC c a i k true F1) (h1 : SC c a (k + 1) l true F2) (h2 : c k = nI 124) (h3 : a k = nI l) : SC c a i l true (fOr F1 F2) := fun P q => q.2.2.2.2.2.2 i k l F1 F2 (h P q) (h1 P q) h2 h3
/-- a piece that means something has a step -/
theorem SR.lt {c a : Nat → Int32} {i j : Nat} {b : Bool} {F : Mng} (h : SR c a i j b F) : i < j := by
  refine h (fun i j _ _ => i < j) ⟨?_, ?_, ?_, ?_, ?_, ?_, ?_⟩
  · intro i _
    exact Nat.lt_succ_self i
  · intro i l _ _ _
    exact Nat.lt_succ_self i
  · intro i k F q _
    exact Nat.lt_succ_of_lt q
  · intro i k l F1 F2 s q r _ _
    omega
  · intro i k l F1 F2 s q r _ _
    omega
  · intro i k l F1 F2 q r _
    omega
  · intro i k l F1 F2 q r _
    omega
theorem SC.lt {c a : Nat → Int32} {i j : Nat} {b : Bool} {F : Mng} (h : SC c a i j b F) : i < j := by
  refine h (fun i j _ _ => i < j) ⟨?_, ?_, ?_, ?_, ?_, ?_, ?_⟩
  · intro i _
    exact Nat.lt_succ_self i
  · intro i l _ _ _
    exact Nat.lt_succ_self i
  · intro i k F q _
    exact Nat.lt_succ_of_lt q
  · intro i k l F1 F2 s q r _ _
    omega
  · intro i k l F1 F2 s q r _ _
    omega
  · intro i k l F1 F2 q r _ _
    omega
  · intro i k l F1 F2 q r _ _
    omega
/-- the steps of a piece alone count -/
theorem SR.congr {c a c' a' : Nat → Int32} {i j : Nat} {b : Bool} {F : Mng} (h : SR c a i j b F) : ∀ {u v : Nat}, u ≤ i → j ≤ v → (∀ q, u ≤ q → q < v → c' q = c q) → (∀ q, u ≤ q → q < v → a' q = a q) → SR c' a' i j b F := by
  have key : i < j ∧ ∀ u v : Nat, u ≤ i → j ≤ v → (∀ q, u ≤ q → q < v → c' q = c q) → (∀ q, u ≤ q → q < v → a' q = a q) → SR c' a' i j b F := by
    refine h (fun i j b F => i < j ∧ ∀ u v : Nat, u ≤ i → j ≤ v → (∀ q, u ≤ q → q < v → c' q = c q) → (∀ q, u ≤ q → q < v → a' q = a q) → SR c' a' i j b F) ⟨?_, ?_, ?_, ?_, ?_, ?_, ?_⟩
    · intro i h1
      refine ⟨Nat.lt_succ_self i, fun u v hu hv e1 e2 => ?_⟩
      rw [← e2 i hu (by omega)]
      exact SR.num ((e1 i hu (by omega)).trans h1)
    · intro i l h1 h2 h3
      exact ⟨Nat.lt_succ_self i, fun u v hu hv e1 e2 => SR.let ((e1 i hu (by omega)).trans h1) h2 ((e2 i hu (by omega)).trans h3)⟩
    · intro i k F q h1
      exact ⟨Nat.lt_succ_of_lt q.1, fun u v hu hv e1 e2 => SR.non (q.2 u v hu (by omega) e1 e2) ((e1 k (by omega) (by omega)).trans h1)⟩
    · intro i k l F1 F2 s q r h1 h2
      exact ⟨by omega, fun u v hu hv e1 e2 => SR.ari (q.2 u v hu (by omega) e1 e2) (r.2 u v (by omega) (by omega) e1 e2) ((e1 l (by omega) (by omega)).trans h1) h2⟩
    · intro i k l F1 F2 s q r h1 h2
      exact ⟨by omega, fun u v hu hv e1 e2 => SR.cmp (q.2 u v hu (by omega) e1 e2) (r.2 u v (by omega) (by omega) e1 e2) ((e1 l (by omega) (by omega)).trans h1) h2⟩
    · intro i k l F1 F2 q r h1
      exact ⟨by omega, fun u v hu hv e1 e2 => SR.con (q.2 u v hu (by omega) e1 e2) (r.2 u v (by omega) (by omega) e1 e2) ((e1 l (by omega) (by omega)).trans h1)⟩
    · intro i k l F1 F2 q r h1
      exact ⟨by omega, fun u v hu hv e1 e2 => SR.dis (q.2 u v hu (by omega) e1 e2) (r.2 u v (by omega) (by omega) e1 e2) ((e1 l (by omega) (by omega)).trans h1)⟩
  intro u v
  exact key.2 u v
theorem SC.congr {c a c' a' : Nat → Int32} {i j : Nat} {b : Bool} {F : Mng} (h : SC c a i j b F) : ∀ {u v : Nat}, u ≤ i → j ≤ v → (∀ q, u ≤ q → q < v → c' q = c q) → (∀ q, u ≤ q → q < v → a' q = a q) → SC c' a' i j b F := by
  have key : i < j ∧ ∀ u v : Nat, u ≤ i → j ≤ v → (∀ q, u ≤ q → q < v → c' q = c q) → (∀ q, u ≤ q → q < v → a' q = a q) → SC c' a' i j b F := by
    refine h (fun i j b F => i < j ∧ ∀ u v : Nat, u ≤ i → j ≤ v → (∀ q, u ≤ q → q < v → c' q = c q) → (∀ q, u ≤ q → q < v → a' q = a q) → SC c' a' i j b F) ⟨?_, ?_, ?_, ?_, ?_, ?_, ?_⟩
    · intro i h1
      refine ⟨Nat.lt_succ_self i, fun u v hu hv e1 e2 => ?_⟩
      rw [← e2 i hu (by omega)]
      exact SC.num ((e1 i hu (by omega)).trans h1)
    · intro i l h1 h2 h3
      exact ⟨Nat.lt_succ_self i, fun u v hu hv e1 e2 => SC.let ((e1 i hu (by omega)).trans h1) h2 ((e2 i hu (by omega)).trans h3)⟩
    · intro i k F q h1
      exact ⟨Nat.lt_succ_of_lt q.1, fun u v hu hv e1 e2 => SC.non (q.2 u v hu (by omega) e1 e2) ((e1 k (by omega) (by omega)).trans h1)⟩
    · intro i k l F1 F2 s q r h1 h2
      exact ⟨by omega, fun u v hu hv e1 e2 => SC.ari (q.2 u v hu (by omega) e1 e2) (r.2 u v (by omega) (by omega) e1 e2) ((e1 l (by omega) (by omega)).trans h1) h2⟩
    · intro i k l F1 F2 s q r h1 h2
      exact ⟨by omega, fun u v hu hv e1 e2 => SC.cmp (q.2 u v hu (by omega) e1 e2) (r.2 u v (by omega) (by omega) e1 e2) ((e1 l (by omega) (by omega)).trans h1) h2⟩
    · intro i k l F1 F2 q r h1 h2
      exact ⟨by omega, fun u v hu hv e1 e2 => SC.con (q.2 u v hu (by omega) e1 e2) (r.2 u v (by omega) (by omega) e1 e2) ((e1 k (by omega) (by omega)).trans h1) ((e2 k (by omega) (by omega)).trans h2)⟩
    · intro i k l F1 F2 q r h1 h2
      exact ⟨by omega, fun u v hu hv e1 e2 => SC.dis (q.2 u v hu (by omega) e1 e2) (r.2 u v (by omega) (by omega) e1 e2) ((e1 k (by omega) (by omega)).trans h1) ((e2 k (by omega) (by omega)).trans h2)⟩
  intro u v
  exact key.2 u v
/-- a truth: refused, 0 or 1 -/
def isB (v : Option Int32) : Prop := v = none ∨ v = some 0 ∨ v = some 1
theorem isB_not {v : Option Int32} (h : isB v) : isB (vNot v) := by
  rcases h with h | h | h <;> rw [h]
  · exact Or.inl rfl
  · exact Or.inr (Or.inr rfl)
  · exact Or.inr (Or.inl rfl)
theorem isB_cmp {s : Nat} (hs : isCm s) (a b : Option Int32) : isB (vBin s a b) := by
  rcases a with _ | x
  · exact Or.inl rfl
  · rcases b with _ | y
    · exact Or.inl rfl
    · rcases hs with rfl | rfl | rfl
      · show isB (some (if x < y then 1 else 0))
        by_cases q : x < y
        · rw [if_pos q]; exact Or.inr (Or.inr rfl)
        · rw [if_neg q]; exact Or.inr (Or.inl rfl)
      · show isB (some (if y < x then 1 else 0))
        by_cases q : y < x
        · rw [if_pos q]; exact Or.inr (Or.inr rfl)
        · rw [if_neg q]; exact Or.inr (Or.inl rfl)
      · show isB (some (if x = y then 1 else 0))
        by_cases q : x = y
        · rw [if_pos q]; exact Or.inr (Or.inr rfl)
        · rw [if_neg q]; exact Or.inr (Or.inl rfl)
theorem isB_and {a b : Option Int32} (ha : isB a) (hb : isB b) : isB (vAnd a b) := by
  rcases ha with h | h | h <;> rw [h]
  · exact Or.inl rfl
  · exact Or.inr (Or.inl rfl)
  · exact hb
theorem isB_or {a b : Option Int32} (ha : isB a) (hb : isB b) : isB (vOr a b) := by
  rcases ha with h | h | h <;> rw [h]
  · exact Or.inl rfl
  · exact hb
  · exact Or.inr (Or.inr rfl)
theorem SR.isb {c a : Nat → Int32} {i j : Nat} {F : Mng} (h : SR c a i j true F) (e : Nat → Int32) : isB (F e) := by
  have key : true = true → isB (F e) := by
    refine h (fun _ _ b F => b = true → isB (F e)) ⟨?_, ?_, ?_, ?_, ?_, ?_, ?_⟩
    · intro i _ q
      cases q
    · intro i l _ _ _ q
      cases q
    · intro i k F r _ _
      exact isB_not (r rfl)
    · intro i k l F1 F2 s _ _ _ _ q
      cases q
    · intro i k l F1 F2 s _ _ _ hs _
      exact isB_cmp hs _ _
    · intro i k l F1 F2 r1 r2 _ _
      exact isB_and (r1 rfl) (r2 rfl)
    · intro i k l F1 F2 r1 r2 _ _
      exact isB_or (r1 rfl) (r2 rfl)
  exact key rfl
theorem SC.isb {c a : Nat → Int32} {i j : Nat} {F : Mng} (h : SC c a i j true F) (e : Nat → Int32) : isB (F e) := by
  have key : true = true → isB (F e) := by
    refine h (fun _ _ b F => b = true → isB (F e)) ⟨?_, ?_, ?_, ?_, ?_, ?_, ?_⟩
    · intro i _ q
      cases q
    · intro i l _ _ _ q
      cases q
    · intro i k F r _ _
      exact isB_not (r rfl)
    · intro i k l F1 F2 s _ _ _ _ q
      cases q
    · intro i k l F1 F2 s _ _ _ hs _
      exact isB_cmp hs _ _
    · intro i k l F1 F2 r1 r2 _ _ _
      exact isB_and (r1 rfl) (r2 rfl)
    · intro i k l F1 F2 r1 r2 _ _ _
      exact isB_or (r1 rfl) (r2 rfl)
  exact key rfl
/-- the letters whose clauses have a sum -/
def isV (x : Int32) : Prop := x = nI 100 ∨ x = nI 102 ∨ x = nI 112 ∨ x = nI 110
/-- the standing rules' meanings: of each clause its condition and its sum -/
abbrev Rm : Type := Nat → Mng × Mng
def WR (m : St) (R : Rm) : Prop := ∀ k, k < nC m → ∃ x y z : Nat, m 132 k = nI x ∧ m 133 k = nI y ∧ m 134 k = nI z ∧ z ≤ 200 ∧ SR (m 135) (m 136) y z true (R k).1 ∧ (isV (m 131 k) → SR (m 135) (m 136) x y false (R k).2)
def CT (m : St) (h : Hp) (R : Rm) (i : Nat) : Prop := h.1 (6, i) 10 = m 1 30 ∧ ∀ k, k < nC m → h.1 (37, i) k = m 131 k ∧ ∃ x y z : Nat, h.1 (38, i) k = nI x ∧ h.1 (39, i) k = nI y ∧ h.1 (40, i) k = nI z ∧ z ≤ 200 ∧ SC (h.1 (35, i)) (h.1 (36, i)) y z true (R k).1 ∧ (isV (m 131 k) → SC (h.1 (35, i)) (h.1 (36, i)) x y false (R k).2)
/-- the class's standing text is (6, i), the spare one the other -/
def CR (m : St) (h : Hp) (R : Rm) : Prop := ∃ i, i ≤ 1 ∧ h.2.1 (7, 0) 2 = some (6, i) ∧ h.2.1 (0, 0) 5 = some (6, 1 - i) ∧ CT m h R i
/-! forgiving: the fine of a family's last toy that came back, before act n -/
noncomputable def lastF (m : St) (f : Nat) : Nat → Int32
  | 0 => 0
  | n + 1 => cif (¬ m 178 n = 0 ∧ m 176 n = nI f) (m 177 n) (lastF m f n)
def fgP (m : St) (w f i : Nat) : Prop := (¬ m 178 i = 0 ∧ m 176 i = nI f) ∧ lastF m f i = nI (1 + w / 2) ∧ (w % 2 = 0 ∨ ¬ m 179 i = 0)
def smN (f : Nat → Nat) : Nat → Nat
  | 0 => 0
  | n + 1 => smN f n + f n
noncomputable def fgv (m : St) (w : Nat) : Nat := smN (fun f => cnt (fgP m w f) (nA m)) (nF m)
