/-! WHAT A TEXT OF RULES SAYS: one reading of its signs, from which both sides are told. A result: a fault's number (0: none; 9: the fuel ran out), a place, a meaning -/
abbrev Rs : Type := Nat × Nat × Mng
def HB (b : Nat → Nat) (n : Nat) : Prop := n ≤ 200 ∧ (∀ j, b j < 256) ∧ ∀ j, n ≤ j → b j = 0
def dgt (x : Nat) : Prop := 48 ≤ x ∧ x ≤ 57
theorem cif_i {α : Type} {c : Prop} {P : α → Prop} {x y : α} (h1 : c → P x) (h2 : ¬ c → P y) : P (cif c x y) := by
  by_cases q : c
  · rw [cif_t q]; exact h1 q
  · rw [cif_f q]; exact h2 q
noncomputable def numS (b : Nat → Nat) : Nat → Nat → Nat → Nat × Nat
  | 0, p, v => (p, v)
  | k + 1, p, v => cif (dgt (b p)) (numS b k (p + 1) (10 * v + b p - 48)) (p, v)
noncomputable def bnd (r : Rs) (k : Nat → Mng → Rs) : Rs := cif (r.1 = 0) (k r.2.1 r.2.2) r
theorem bnd_t {r : Rs} {k : Nat → Mng → Rs} (h : r.1 = 0) : bnd r k = k r.2.1 r.2.2 := cif_t h
theorem bnd_f {r : Rs} {k : Nat → Mng → Rs} (h : ¬ r.1 = 0) : bnd r k = r := cif_f h
theorem bnd_i {r : Rs} {k : Nat → Mng → Rs} {P : Rs → Prop} (h1 : r.1 = 0 → P (k r.2.1 r.2.2)) (h2 : ¬ r.1 = 0 → P r) : P (bnd r k) := cif_i h1 h2
theorem bnd_9 {r : Rs} {k : Nat → Mng → Rs} (h : (bnd r k).1 ≠ 9) : r.1 ≠ 9 := fun e => by
  rw [bnd_f (by omega)] at h
  exact h e
/-- sums: 0 a factor, 1 a term, 2 more factors, 3 a sum, 4 more terms -/
noncomputable def px (b : Nat → Nat) : Nat → Nat → Mng → Nat → Nat → Rs
  | 0, _, A, _, p => (9, p, A)
  | u + 1, 0, A, o, p => cif (dgt (b p)) (cif (dgt (b (numS b 5 p 0).1)) (2, (numS b 5 p 0).1, A) (0, (numS b 5 p 0).1, fN (nI (numS b 5 p 0).2))) (cif (isLt (b p)) (0, p + 1, fL (b p)) (cif (b p = 91) (cif (6 ≤ o) (5, p, A) (bnd (px b u 3 A (o + 1) (p + 1)) fun q F => cif (b q = 93) (0, q + 1, F) (1, q, F))) (1, p, A)))
  | u + 1, 1, A, o, p => bnd (px b u 0 A o p) fun q F => px b u 2 F o q
  | u + 1, 2, A, o, p => cif (isTm (b p)) (bnd (px b u 0 A o (p + 1)) fun q F => px b u 2 (fBin (b p) A F) o q) (0, p, A)
  | u + 1, 3, A, o, p => bnd (px b u 1 A o p) fun q F => px b u 4 F o q
  | u + 1, _ + 4, A, o, p => cif (isPl (b p)) (bnd (px b u 1 A o (p + 1)) fun q F => px b u 4 (fBin (b p) A F) o q) (0, p, A)
section PX
variable {b : Nat → Nat} {u o p : Nat} {A : Mng}
theorem px_0 : px b (u + 1) 0 A o p = cif (dgt (b p)) (cif (dgt (b (numS b 5 p 0).1)) (2, (numS b 5 p 0).1, A) (0, (numS b 5 p 0).1, fN (nI (numS b 5 p 0).2))) (cif (isLt (b p)) (0, p + 1, fL (b p)) (cif (b p = 91) (cif (6 ≤ o) (5, p, A) (bnd (px b u 3 A (o + 1) (p + 1)) fun q F => cif (b q = 93) (0, q + 1, F) (1, q, F))) (1, p, A))) := rfl
theorem px_1 : px b (u + 1) 1 A o p = bnd (px b u 0 A o p) fun q F => px b u 2 F o q := rfl
theorem px_2 : px b (u + 1) 2 A o p = cif (isTm (b p)) (bnd (px b u 0 A o (p + 1)) fun q F => px b u 2 (fBin (b p) A F) o q) (0, p, A) := rfl
theorem px_3 : px b (u + 1) 3 A o p = bnd (px b u 1 A o p) fun q F => px b u 4 F o q := rfl
theorem px_4 {k : Nat} : px b (u + 1) (k + 4) A o p = cif (isPl (b p)) (bnd (px b u 1 A o (p + 1)) fun q F => px b u 4 (fBin (b p) A F) o q) (0, p, A) := rfl
end PX
def Pg (n p : Nat) (st : Prop) (r : Rs) : Prop := r.2.1 ≤ n ∧ r.1 ≤ 9 ∧ (r.1 = 0 → p ≤ r.2.1 ∧ (st → p < r.2.1))
theorem Pg.bad {n p f : Nat} {st : Prop} {A : Mng} (hf : 0 < f) (hf9 : f ≤ 9) (hp : p ≤ n) {p0 : Nat} : Pg n p0 st (f, p, A) := ⟨hp, hf9, fun e => by have : f = 0 := e; omega⟩
theorem HB.lt {b : Nat → Nat} {n p : Nat} (hb : HB b n) (h : b p ≠ 0) : p < n := Classical.byContradiction fun z => h (hb.2.2 p (by omega))
theorem dgt_ne {x : Nat} (h : dgt x) : x ≠ 0 := by unfold dgt at h; omega
theorem isTm_ne {x : Nat} (h : isTm x) : x ≠ 0 := by unfold isTm at h; omega
theorem isPl_ne {x : Nat} (h : isPl x) : x ≠ 0 := by unfold isPl at h; omega
theorem isLt_ne {x : Nat} (h : isLt x) : x ≠ 0 := by unfold isLt at h; omega
theorem isCm_ne {x : Nat} (h : isCm x) : x ≠ 0 := by unfold isCm at h; omega
theorem numS_p {b : Nat → Nat} {n : Nat} (hb : HB b n) : ∀ k p v, p ≤ n → p ≤ (numS b k p v).1 ∧ (numS b k p v).1 ≤ n ∧ (numS b k p v).1 ≤ p + k
  | 0, p, v, hp => ⟨Nat.le_refl _, hp, Nat.le_refl _⟩
  | k + 1, p, v, hp => by
    unfold numS
    refine cif_i (P := fun r : Nat × Nat => p ≤ r.1 ∧ r.1 ≤ n ∧ r.1 ≤ p + (k + 1)) (fun q => ?_) (fun _ => ⟨Nat.le_refl _, hp, by omega⟩)
    have := hb.lt (dgt_ne q)
    have ih := numS_p hb k (p + 1) (10 * v + b p - 48) (by omega)
    omega
theorem numS_pos {b : Nat → Nat} {n p : Nat} (hb : HB b n) (hp : p ≤ n) (h : dgt (b p)) : p < (numS b 5 p 0).1 := by
  have e : numS b 5 p 0 = numS b 4 (p + 1) (10 * 0 + b p - 48) := cif_t h
  have := hb.lt (dgt_ne h)
  have q := numS_p hb 4 (p + 1) (10 * 0 + b p - 48) (by omega)
  rw [e]
  omega
theorem px_ok {b : Nat → Nat} {n : Nat} (hb : HB b n) : ∀ (u md : Nat) (A : Mng) (o p : Nat), p ≤ n → Pg n p (md = 0 ∨ md = 1 ∨ md = 3) (px b u md A o p) := by
  intro u
  induction u with
  | zero => intro md A o p hp; exact Pg.bad (by decide) (by decide) hp
  | succ u ih =>
    intro md A o p hp
    match md with
    | 0 =>
      rw [px_0]
      refine cif_i (fun q => ?_) (fun q => ?_)
      · have h1 := numS_p hb 5 p 0 hp
        have h2 := numS_pos hb hp q
        exact cif_i (fun _ => Pg.bad (by decide) (by decide) h1.2.1) (fun _ => ⟨h1.2.1, Nat.zero_le _, fun _ => ⟨h1.1, fun _ => h2⟩⟩)
      · refine cif_i (fun q => ?_) (fun q => ?_)
        · have := hb.lt (isLt_ne q)
          exact ⟨by show p + 1 ≤ n; omega, Nat.zero_le _, fun _ => ⟨Nat.le_succ p, fun _ => Nat.lt_succ_self p⟩⟩
        · refine cif_i (fun q => ?_) (fun q => Pg.bad (by decide) (by decide) hp)
          refine cif_i (fun q => Pg.bad (by decide) (by decide) hp) (fun q2 => ?_)
          have := hb.lt (p := p) (by omega)
          have i1 := ih 3 A (o + 1) (p + 1) (by omega)
          refine bnd_i (fun e => ?_) (fun e => ⟨i1.1, i1.2.1, fun z => absurd z e⟩)
          have i2 := i1.2.2 e
          refine cif_i (fun q => ?_) (fun q => Pg.bad (by decide) (by decide) i1.1)
          have := hb.lt (p := (px b u 3 A (o + 1) (p + 1)).2.1) (by omega)
          exact ⟨by show _ + 1 ≤ n; omega, Nat.zero_le _, fun _ => ⟨by show p ≤ _ + 1; omega, fun _ => by show p < _ + 1; omega⟩⟩
    | 1 =>
      rw [px_1]
      have i1 := ih 0 A o p hp
      refine bnd_i (fun e => ?_) (fun e => ⟨i1.1, i1.2.1, fun z => absurd z e⟩)
      have i2 := i1.2.2 e
      have i3 := ih 2 (px b u 0 A o p).2.2 o _ i1.1
      exact ⟨i3.1, i3.2.1, fun z => ⟨Nat.le_trans i2.1 (i3.2.2 z).1, fun _ => Nat.lt_of_lt_of_le (i2.2 (Or.inl rfl)) (i3.2.2 z).1⟩⟩
    | 2 =>
      rw [px_2]
      refine cif_i (fun q => ?_) (fun q => ⟨hp, Nat.zero_le _, fun _ => ⟨Nat.le_refl _, fun z => by omega⟩⟩)
      have := hb.lt (isTm_ne q)
      have i1 := ih 0 A o (p + 1) (by omega)
      refine bnd_i (fun e => ?_) (fun e => ⟨i1.1, i1.2.1, fun z => absurd z e⟩)
      have i2 := i1.2.2 e
      have i3 := ih 2 (fBin (b p) A (px b u 0 A o (p + 1)).2.2) o _ i1.1
      exact ⟨i3.1, i3.2.1, fun z => ⟨by have := (i3.2.2 z).1; omega, fun z => by omega⟩⟩
    | 3 =>
      rw [px_3]
      have i1 := ih 1 A o p hp
      refine bnd_i (fun e => ?_) (fun e => ⟨i1.1, i1.2.1, fun z => absurd z e⟩)
      have i2 := i1.2.2 e
      have i3 := ih 4 (px b u 1 A o p).2.2 o _ i1.1
      exact ⟨i3.1, i3.2.1, fun z => ⟨Nat.le_trans i2.1 (i3.2.2 z).1, fun _ => Nat.lt_of_lt_of_le (i2.2 (Or.inr (Or.inl rfl))) (i3.2.2 z).1⟩⟩
    | k + 4 =>
      rw [px_4]
      refine cif_i (fun q => ?_) (fun q => ⟨hp, Nat.zero_le _, fun _ => ⟨Nat.le_refl _, fun z => by omega⟩⟩)
      have := hb.lt (isPl_ne q)
      have i1 := ih 1 A o (p + 1) (by omega)
      refine bnd_i (fun e => ?_) (fun e => ⟨i1.1, i1.2.1, fun z => absurd z e⟩)
      have i2 := i1.2.2 e
      have i3 := ih 4 (fBin (b p) A (px b u 1 A o (p + 1)).2.2) o _ i1.1
      exact ⟨i3.1, i3.2.1, fun z => ⟨by have := (i3.2.2 z).1; omega, fun z => by omega⟩⟩
def mu (md : Nat) : Nat := match md with
  | 0 => 1
  | 1 => 2
  | 2 => 1
  | 3 => 3
  | _ => 1
theorem px_t {b : Nat → Nat} {n : Nat} (hb : HB b n) : ∀ (u md : Nat) (A : Mng) (o p : Nat), p ≤ n → 4 * (n - p) + mu md ≤ u → (px b u md A o p).1 ≠ 9 := by
  intro u
  induction u with
  | zero =>
    intro md A o p hp hm
    have : 1 ≤ mu md := by
      unfold mu
      split <;> omega
    omega
  | succ u ih =>
    intro md A o p hp hm
    match md with
    | 0 =>
      have hm : 4 * (n - p) + 1 ≤ u + 1 := hm
      rw [px_0]
      refine cif_i (P := fun r : Rs => r.1 ≠ 9) (fun q => ?_) (fun q => ?_)
      · exact cif_i (P := fun r : Rs => r.1 ≠ 9) (fun _ => by show (2 : Nat) ≠ 9; decide) (fun _ => by show (0 : Nat) ≠ 9; decide)
      · refine cif_i (P := fun r : Rs => r.1 ≠ 9) (fun q => by show (0 : Nat) ≠ 9; decide) (fun q => ?_)
        refine cif_i (P := fun r : Rs => r.1 ≠ 9) (fun q => ?_) (fun q => by show (1 : Nat) ≠ 9; decide)
        refine cif_i (P := fun r : Rs => r.1 ≠ 9) (fun q => by show (5 : Nat) ≠ 9; decide) (fun q2 => ?_)
        have := hb.lt (p := p) (by omega)
        refine bnd_i (P := fun r : Rs => r.1 ≠ 9) (fun e => ?_) (fun e => ih 3 A (o + 1) (p + 1) (by omega) (by show 4 * (n - (p + 1)) + 3 ≤ u; omega))
        exact cif_i (P := fun r : Rs => r.1 ≠ 9) (fun _ => by show (0 : Nat) ≠ 9; decide) (fun _ => by show (1 : Nat) ≠ 9; decide)
    | 1 =>
      have hm : 4 * (n - p) + 2 ≤ u + 1 := hm
      rw [px_1]
      have i1 := px_ok hb u 0 A o p hp
      refine bnd_i (P := fun r : Rs => r.1 ≠ 9) (fun e => ?_) (fun e => ih 0 A o p hp (by show 4 * (n - p) + 1 ≤ u; omega))
      have i2 := i1.2.2 e
      exact ih 2 _ o _ i1.1 (by show 4 * (n - _) + 1 ≤ u; omega)
    | 2 =>
      have hm : 4 * (n - p) + 1 ≤ u + 1 := hm
      rw [px_2]
      refine cif_i (P := fun r : Rs => r.1 ≠ 9) (fun q => ?_) (fun q => by show (0 : Nat) ≠ 9; decide)
      have := hb.lt (isTm_ne q)
      have i1 := px_ok hb u 0 A o (p + 1) (by omega)
      refine bnd_i (P := fun r : Rs => r.1 ≠ 9) (fun e => ?_) (fun e => ih 0 A o (p + 1) (by omega) (by show 4 * (n - (p + 1)) + 1 ≤ u; omega))
      have i2 := i1.2.2 e
      exact ih 2 _ o _ i1.1 (by show 4 * (n - _) + 1 ≤ u; omega)
    | 3 =>
      have hm : 4 * (n - p) + 3 ≤ u + 1 := hm
      rw [px_3]
      have i1 := px_ok hb u 1 A o p hp
      refine bnd_i (P := fun r : Rs => r.1 ≠ 9) (fun e => ?_) (fun e => ih 1 A o p hp (by show 4 * (n - p) + 2 ≤ u; omega))
      have i2 := i1.2.2 e
      exact ih 4 _ o _ i1.1 (by show 4 * (n - _) + 1 ≤ u; omega)
    | k + 4 =>
      have hm : 4 * (n - p) + 1 ≤ u + 1 := hm
      rw [px_4]
      refine cif_i (P := fun r : Rs => r.1 ≠ 9) (fun q => ?_) (fun q => by show (0 : Nat) ≠ 9; decide)
      have := hb.lt (isPl_ne q)
      have i1 := px_ok hb u 1 A o (p + 1) (by omega)
      refine bnd_i (P := fun r : Rs => r.1 ≠ 9) (fun e => ?_) (fun e => ih 1 A o (p + 1) (by omega) (by show 4 * (n - (p + 1)) + 2 ≤ u; omega))
      have i2 := i1.2.2 e
      exact ih 4 _ o _ i1.1 (by show 4 * (n - _) + 1 ≤ u; omega)
/-- conditions: 0 a comparison, 1 a piece, 2 in brackets, 3 a condition, 4 a part, 5 more parts, 6 more pieces -/
noncomputable def pc (b : Nat → Nat) : Nat → Nat → Mng → Nat → Nat → Rs
  | 0, _, A, _, p => (9, p, A)
  | _ + 1, 0, A, o, p => bnd (px b 1000 3 A o p) fun q F => cif (isCm (b q)) (bnd (px b 1000 3 A o (q + 1)) fun q2 F2 => (0, q2, fBin (b q) F F2)) (1, q, F)
  | u + 1, 1, A, o, p => cif (b p = 40) (pc b u 2 A o p) (cif (b p = 33) (cif (6 ≤ o) (5, p, A) (bnd (pc b u 1 A (o + 1) (p + 1)) fun q F => (0, q, fNot F))) (pc b u 0 A o p))
  | u + 1, 2, A, o, p => cif (b p = 40) (cif (6 ≤ o) (5, p, A) (bnd (pc b u 3 A (o + 1) (p + 1)) fun q F => cif (b q = 41) (0, q + 1, F) (1, q, F))) (1, p, A)
  | u + 1, 3, A, o, p => bnd (pc b u 4 A o p) fun q F => pc b u 5 F o q
  | u + 1, 4, A, o, p => bnd (pc b u 1 A o p) fun q F => pc b u 6 F o q
  | u + 1, 5, A, o, p => cif (b p = 124) (bnd (pc b u 4 A o (p + 1)) fun q F => pc b u 5 (fOr A F) o q) (0, p, A)
  | u + 1, _ + 6, A, o, p => cif (b p = 38) (bnd (pc b u 1 A o (p + 1)) fun q F => pc b u 6 (fAnd A F) o q) (0, p, A)
section PC
variable {b : Nat → Nat} {u o p : Nat} {A : Mng}
theorem pc_0 : pc b (u + 1) 0 A o p = bnd (px b 1000 3 A o p) fun q F => cif (isCm (b q)) (bnd (px b 1000 3 A o (q + 1)) fun q2 F2 => (0, q2, fBin (b q) F F2)) (1, q, F) := rfl
theorem pc_1 : pc b (u + 1) 1 A o p = cif (b p = 40) (pc b u 2 A o p) (cif (b p = 33) (cif (6 ≤ o) (5, p, A) (bnd (pc b u 1 A (o + 1) (p + 1)) fun q F => (0, q, fNot F))) (pc b u 0 A o p)) := rfl
theorem pc_2 : pc b (u + 1) 2 A o p = cif (b p = 40) (cif (6 ≤ o) (5, p, A) (bnd (pc b u 3 A (o + 1) (p + 1)) fun q F => cif (b q = 41) (0, q + 1, F) (1, q, F))) (1, p, A) := rfl
theorem pc_3 : pc b (u + 1) 3 A o p = bnd (pc b u 4 A o p) fun q F => pc b u 5 F o q := rfl
theorem pc_4 : pc b (u + 1) 4 A o p = bnd (pc b u 1 A o p) fun q F => pc b u 6 F o q := rfl
theorem pc_5 : pc b (u + 1) 5 A o p = cif (b p = 124) (bnd (pc b u 4 A o (p + 1)) fun q F => pc b u 5 (fOr A F) o q) (0, p, A) := rfl
theorem pc_6 {k : Nat} : pc b (u + 1) (k + 6) A o p = cif (b p = 38) (bnd (pc b u 1 A o (p + 1)) fun q F => pc b u 6 (fAnd A F) o q) (0, p, A) := rfl
end PC
theorem pc_ok {b : Nat → Nat} {n : Nat} (hb : HB b n) : ∀ (u md : Nat) (A : Mng) (o p : Nat), p ≤ n → Pg n p (md < 5) (pc b u md A o p) := by
  intro u
  induction u with
  | zero => intro md A o p hp; exact Pg.bad (by decide) (by decide) hp
  | succ u ih =>
    intro md A o p hp
    match md with
    | 0 =>
      rw [pc_0]
      have i1 := px_ok hb 1000 3 A o p hp
      refine bnd_i (fun e => ?_) (fun e => ⟨i1.1, i1.2.1, fun z => absurd z e⟩)
      have i2 := i1.2.2 e
      refine cif_i (fun q => ?_) (fun q => Pg.bad (by decide) (by decide) i1.1)
      have := hb.lt (isCm_ne q)
      have i3 := px_ok hb 1000 3 A o ((px b 1000 3 A o p).2.1 + 1) (by omega)
      refine bnd_i (fun e => ?_) (fun e => ⟨i3.1, i3.2.1, fun z => absurd z e⟩)
      have i4 := i3.2.2 e
      exact ⟨i3.1, Nat.zero_le _, fun _ => ⟨by show p ≤ (px b 1000 3 A o ((px b 1000 3 A o p).2.1 + 1)).2.1; omega, fun _ => by show p < (px b 1000 3 A o ((px b 1000 3 A o p).2.1 + 1)).2.1; omega⟩⟩
    | 1 =>
      rw [pc_1]
      refine cif_i (fun q => ?_) (fun q => ?_)
      · have i1 := ih 2 A o p hp
        exact ⟨i1.1, i1.2.1, fun z => ⟨(i1.2.2 z).1, fun _ => (i1.2.2 z).2 (by decide)⟩⟩
      · refine cif_i (fun q2 => ?_) (fun q2 => ?_)
        · refine cif_i (fun q => Pg.bad (by decide) (by decide) hp) (fun q3 => ?_)
          have := hb.lt (p := p) (by omega)
          have i1 := ih 1 A (o + 1) (p + 1) (by omega)
          refine bnd_i (fun e => ?_) (fun e => ⟨i1.1, i1.2.1, fun z => absurd z e⟩)
          have i2 := i1.2.2 e
          exact ⟨i1.1, Nat.zero_le _, fun _ => ⟨by show p ≤ (pc b u 1 A (o + 1) (p + 1)).2.1; omega, fun _ => by show p < (pc b u 1 A (o + 1) (p + 1)).2.1; omega⟩⟩
        · have i1 := ih 0 A o p hp
          exact ⟨i1.1, i1.2.1, fun z => ⟨(i1.2.2 z).1, fun _ => (i1.2.2 z).2 (by decide)⟩⟩
    | 2 =>
      rw [pc_2]
      refine cif_i (fun q => ?_) (fun q => Pg.bad (by decide) (by decide) hp)
      refine cif_i (fun q => Pg.bad (by decide) (by decide) hp) (fun q3 => ?_)
      have := hb.lt (p := p) (by omega)
      have i1 := ih 3 A (o + 1) (p + 1) (by omega)
      refine bnd_i (fun e => ?_) (fun e => ⟨i1.1, i1.2.1, fun z => absurd z e⟩)
      have i2 := i1.2.2 e
      refine cif_i (fun q => ?_) (fun q => Pg.bad (by decide) (by decide) i1.1)
      have := hb.lt (p := (pc b u 3 A (o + 1) (p + 1)).2.1) (by omega)
      exact ⟨by show _ + 1 ≤ n; omega, Nat.zero_le _, fun _ => ⟨by show p ≤ _ + 1; omega, fun _ => by show p < _ + 1; omega⟩⟩
    | 3 =>
      rw [pc_3]
      have i1 := ih 4 A o p hp
      refine bnd_i (fun e => ?_) (fun e => ⟨i1.1, i1.2.1, fun z => absurd z e⟩)
      have i2 := i1.2.2 e
      have i3 := ih 5 (pc b u 4 A o p).2.2 o _ i1.1
      exact ⟨i3.1, i3.2.1, fun z => ⟨Nat.le_trans i2.1 (i3.2.2 z).1, fun _ => Nat.lt_of_lt_of_le (i2.2 (by decide)) (i3.2.2 z).1⟩⟩
    | 4 =>
      rw [pc_4]
      have i1 := ih 1 A o p hp
      refine bnd_i (fun e => ?_) (fun e => ⟨i1.1, i1.2.1, fun z => absurd z e⟩)
      have i2 := i1.2.2 e
      have i3 := ih 6 (pc b u 1 A o p).2.2 o _ i1.1
      exact ⟨i3.1, i3.2.1, fun z => ⟨Nat.le_trans i2.1 (i3.2.2 z).1, fun _ => Nat.lt_of_lt_of_le (i2.2 (by decide)) (i3.2.2 z).1⟩⟩
    | 5 =>
      rw [pc_5]
      refine cif_i (fun q => ?_) (fun q => ⟨hp, Nat.zero_le _, fun _ => ⟨Nat.le_refl _, fun z => by omega⟩⟩)
      have := hb.lt (p := p) (by omega)
      have i1 := ih 4 A o (p + 1) (by omega)
      refine bnd_i (fun e => ?_) (fun e => ⟨i1.1, i1.2.1, fun z => absurd z e⟩)
      have i2 := i1.2.2 e
      have i3 := ih 5 (fOr A (pc b u 4 A o (p + 1)).2.2) o _ i1.1
      exact ⟨i3.1, i3.2.1, fun z => ⟨by have := (i3.2.2 z).1; omega, fun z => by omega⟩⟩
    | k + 6 =>
      rw [pc_6]
      refine cif_i (fun q => ?_) (fun q => ⟨hp, Nat.zero_le _, fun _ => ⟨Nat.le_refl _, fun z => by omega⟩⟩)
      have := hb.lt (p := p) (by omega)
      have i1 := ih 1 A o (p + 1) (by omega)
      refine bnd_i (fun e => ?_) (fun e => ⟨i1.1, i1.2.1, fun z => absurd z e⟩)
      have i2 := i1.2.2 e
      have i3 := ih 6 (fAnd A (pc b u 1 A o (p + 1)).2.2) o _ i1.1
      exact ⟨i3.1, i3.2.1, fun z => ⟨by have := (i3.2.2 z).1; omega, fun z => by omega⟩⟩
def nu (md : Nat) : Nat := match md with
  | 0 => 1
  | 1 => 3
  | 2 => 2
  | 3 => 5
  | 4 => 4
  | 5 => 1
  | _ => 1
theorem pc_t {b : Nat → Nat} {n : Nat} (hb : HB b n) : ∀ (u md : Nat) (A : Mng) (o p : Nat), p ≤ n → 6 * (n - p) + nu md ≤ u → (pc b u md A o p).1 ≠ 9 := by
  intro u
  have hn := hb.1
  induction u with
  | zero =>
    intro md A o p hp hm
    have : 1 ≤ nu md := by
      unfold nu
      split <;> omega
    omega
  | succ u ih =>
    intro md A o p hp hm
    match md with
    | 0 =>
      rw [pc_0]
      have i1 := px_ok hb 1000 3 A o p hp
      refine bnd_i (P := fun r : Rs => r.1 ≠ 9) (fun e => ?_) (fun e => px_t hb 1000 3 A o p hp (by show 4 * (n - p) + 3 ≤ 1000; omega))
      refine cif_i (P := fun r : Rs => r.1 ≠ 9) (fun q => ?_) (fun q => by show (1 : Nat) ≠ 9; decide)
      have := hb.lt (isCm_ne q)
      refine bnd_i (P := fun r : Rs => r.1 ≠ 9) (fun e => ?_) (fun e => px_t hb 1000 3 A o _ (by omega) (by show 4 * (n - (_ + 1)) + 3 ≤ 1000; omega))
      show (0 : Nat) ≠ 9
      decide
    | 1 =>
      have hm : 6 * (n - p) + 3 ≤ u + 1 := hm
      rw [pc_1]
      refine cif_i (P := fun r : Rs => r.1 ≠ 9) (fun q => ?_) (fun q => ?_)
      · exact ih 2 A o p hp (by show 6 * (n - p) + 2 ≤ u; omega)
      · refine cif_i (P := fun r : Rs => r.1 ≠ 9) (fun q2 => ?_) (fun q2 => ?_)
        · refine cif_i (P := fun r : Rs => r.1 ≠ 9) (fun q => by show (5 : Nat) ≠ 9; decide) (fun q3 => ?_)
          have := hb.lt (p := p) (by omega)
          refine bnd_i (P := fun r : Rs => r.1 ≠ 9) (fun e => ?_) (fun e => ih 1 A (o + 1) (p + 1) (by omega) (by show 6 * (n - (p + 1)) + 3 ≤ u; omega))
          show (0 : Nat) ≠ 9
          decide
        · exact ih 0 A o p hp (by show 6 * (n - p) + 1 ≤ u; omega)
    | 2 =>
      have hm : 6 * (n - p) + 2 ≤ u + 1 := hm
      rw [pc_2]
      refine cif_i (P := fun r : Rs => r.1 ≠ 9) (fun q => ?_) (fun q => by show (1 : Nat) ≠ 9; decide)
      refine cif_i (P := fun r : Rs => r.1 ≠ 9) (fun q => by show (5 : Nat) ≠ 9; decide) (fun q3 => ?_)
      have := hb.lt (p := p) (by omega)
      refine bnd_i (P := fun r : Rs => r.1 ≠ 9) (fun e => ?_) (fun e => ih 3 A (o + 1) (p + 1) (by omega) (by show 6 * (n - (p + 1)) + 5 ≤ u; omega))
      exact cif_i (P := fun r : Rs => r.1 ≠ 9) (fun _ => by show (0 : Nat) ≠ 9; decide) (fun _ => by show (1 : Nat) ≠ 9; decide)
    | 3 =>
      have hm : 6 * (n - p) + 5 ≤ u + 1 := hm
      rw [pc_3]
      have i1 := pc_ok hb u 4 A o p hp
      refine bnd_i (P := fun r : Rs => r.1 ≠ 9) (fun e => ?_) (fun e => ih 4 A o p hp (by show 6 * (n - p) + 4 ≤ u; omega))
      have i2 := i1.2.2 e
      exact ih 5 _ o _ i1.1 (by show 6 * (n - _) + 1 ≤ u; omega)
    | 4 =>
      have hm : 6 * (n - p) + 4 ≤ u + 1 := hm
      rw [pc_4]
      have i1 := pc_ok hb u 1 A o p hp
      refine bnd_i (P := fun r : Rs => r.1 ≠ 9) (fun e => ?_) (fun e => ih 1 A o p hp (by show 6 * (n - p) + 3 ≤ u; omega))
      have i2 := i1.2.2 e
      exact ih 6 _ o _ i1.1 (by show 6 * (n - _) + 1 ≤ u; omega)
    | 5 =>
      have hm : 6 * (n - p) + 1 ≤ u + 1 := hm
      rw [pc_5]
      refine cif_i (P := fun r : Rs => r.1 ≠ 9) (fun q => ?_) (fun q => by show (0 : Nat) ≠ 9; decide)
      have := hb.lt (p := p) (by omega)
      have i1 := pc_ok hb u 4 A o (p + 1) (by omega)
      refine bnd_i (P := fun r : Rs => r.1 ≠ 9) (fun e => ?_) (fun e => ih 4 A o (p + 1) (by omega) (by show 6 * (n - (p + 1)) + 4 ≤ u; omega))
      have i2 := i1.2.2 e
      exact ih 5 _ o _ i1.1 (by show 6 * (n - _) + 1 ≤ u; omega)
    | k + 6 =>
      have hm : 6 * (n - p) + 1 ≤ u + 1 := hm
      rw [pc_6]
      refine cif_i (P := fun r : Rs => r.1 ≠ 9) (fun q => ?_) (fun q => by show (0 : Nat) ≠ 9; decide)
      have := hb.lt (p := p) (by omega)
      have i1 := pc_ok hb u 1 A o (p + 1) (by omega)
      refine bnd_i (P := fun r : Rs => r.1 ≠ 9) (fun e => ?_) (fun e => ih 1 A o (p + 1) (by omega) (by show 6 * (n - (p + 1)) + 3 ≤ u; omega))
      have i2 := i1.2.2 e
      exact ih 6 _ o _ i1.1 (by show 6 * (n - _) + 1 ≤ u; omega)
/-! a clause, and all of them -/
def isVn (x : Nat) : Prop := x = 100 ∨ x = 102 ∨ x = 112 ∨ x = 110
def isNv (x : Nat) : Prop := x = 97 ∨ x = 119 ∨ x = 111 ∨ x = 117
noncomputable def pib (b : Nat → Nat) (q : Nat) (S : Mng) : Nat × Nat × Mng × Mng := ((pc b 1300 2 (fN 0) 0 q).1, (pc b 1300 2 (fN 0) 0 q).2.1, (pc b 1300 2 (fN 0) 0 q).2.2, S)
noncomputable def pcl (b : Nat → Nat) (k p : Nat) : Nat × Nat × Mng × Mng :=
  cif (isVn (b p) ∨ isNv (b p)) (cif (16 ≤ k) (4, p, fN 0, fN 0) (cif (isVn (b p)) (cif ((px b 1000 3 (fN 0) 0 (p + 1)).1 = 0) (pib b (px b 1000 3 (fN 0) 0 (p + 1)).2.1 (px b 1000 3 (fN 0) 0 (p + 1)).2.2) ((px b 1000 3 (fN 0) 0 (p + 1)).1, (px b 1000 3 (fN 0) 0 (p + 1)).2.1, fN 0, fN 0)) (pib b (p + 1) (fN 0)))) (1, p, fN 0, fN 0)
def pud {α : Type} (f : Nat → α) (k : Nat) (x : α) : Nat → α := fun j => if j = k then x else f j
noncomputable def prl (b : Nat → Nat) (n : Nat) : Nat → Nat → Nat → Rm → (Nat → Nat) → Nat × Nat × Rm × (Nat → Nat)
  | 0, _, p, R, l => (9, p, R, l)
  | u + 1, k, p, R, l => cif ((pcl b k p).1 = 0) (cif (n ≤ (pcl b k p).2.1) (0, k + 1, pud R k ((pcl b k p).2.2.1, (pcl b k p).2.2.2), pud l k (b p)) (cif (b (pcl b k p).2.1 = 59) (prl b n u (k + 1) ((pcl b k p).2.1 + 1) (pud R k ((pcl b k p).2.2.1, (pcl b k p).2.2.2)) (pud l k (b p))) (1, (pcl b k p).2.1, R, l))) ((pcl b k p).1, (pcl b k p).2.1, R, l)
/-- the answer: how many clauses, or what is wrong -/
def bdv (f q : Nat) : Int32 := -1000 * nI f - nI q
theorem bdv_i {f q : Nat} (hf : f ≤ 9) (hq : q ≤ 300) : (bdv f q).toInt = - (1000 * (f : Int)) - (q : Int) := by
  unfold bdv
  rw [Int32.toInt_sub, Int32.toInt_mul, nI_toInt (by omega), nI_toInt (by omega)]
  rw [show ((-1000 : Int32)).toInt = -1000 from rfl]
  rw [Int.bmod_eq_of_le (n := -1000 * (f : Int)) (by omega) (by omega), Int.bmod_eq_of_le (by omega) (by omega)]
  omega
theorem bdv_neg {f q : Nat} (hf0 : 0 < f) (hf : f ≤ 9) (hq : q ≤ 300) : bdv f q < 0 := by
  rw [Int32.lt_iff_toInt_lt, bdv_i hf hq]
  show _ < (0 : Int)
  omega
theorem bdv_ne {f q : Nat} (hf0 : 0 < f) (hf : f ≤ 9) (hq : q ≤ 300) : ¬ bdv f q = 0 := fun e => by
  have := bdv_neg hf0 hf hq
  rw [e] at this
  exact absurd this (by decide)
theorem pib_ok {b : Nat → Nat} {n q : Nat} (hb : HB b n) (hq : q ≤ n) (S : Mng) : (pib b q S).2.1 ≤ n ∧ (pib b q S).1 < 9 ∧ ((pib b q S).1 = 0 → q < (pib b q S).2.1) := by
  have i := pc_ok hb 1300 2 (fN 0) 0 q hq
  have t := pc_t hb 1300 2 (fN 0) 0 q hq (by show 6 * (n - q) + 2 ≤ 1300; have := hb.1; omega)
  refine ⟨i.1, ?_, fun e => (i.2.2 e).2 (by decide)⟩
  have := i.2.1
  show (pc b 1300 2 (fN 0) 0 q).1 < 9
  omega
theorem pcl_ok {b : Nat → Nat} {n p : Nat} (hb : HB b n) (hp : p ≤ n) (k : Nat) : (pcl b k p).2.1 ≤ n ∧ (pcl b k p).1 < 9 ∧ ((pcl b k p).1 = 0 → p < (pcl b k p).2.1 ∧ k < 16) := by
  unfold pcl
  refine cif_i (P := fun r : Nat × Nat × Mng × Mng => r.2.1 ≤ n ∧ r.1 < 9 ∧ (r.1 = 0 → p < r.2.1 ∧ k < 16)) (fun q => ?_) (fun q => ⟨hp, by show (1 : Nat) < 9; decide, fun z => absurd (show (1 : Nat) = 0 from z) (by decide)⟩)
  refine cif_i (P := fun r : Nat × Nat × Mng × Mng => r.2.1 ≤ n ∧ r.1 < 9 ∧ (r.1 = 0 → p < r.2.1 ∧ k < 16)) (fun q => ⟨hp, by show (4 : Nat) < 9; decide, fun z => absurd (show (4 : Nat) = 0 from z) (by decide)⟩) (fun q2 => ?_)
  have hp1 : p < n := hb.lt (by unfold isVn isNv at q; omega)
  refine cif_i (P := fun r : Nat × Nat × Mng × Mng => r.2.1 ≤ n ∧ r.1 < 9 ∧ (r.1 = 0 → p < r.2.1 ∧ k < 16)) (fun q3 => ?_) (fun q3 => ?_)
  · have i := px_ok hb 1000 3 (fN 0) 0 (p + 1) (by omega)
    have t := px_t hb 1000 3 (fN 0) 0 (p + 1) (by omega) (by show 4 * (n - (p + 1)) + 3 ≤ 1000; have := hb.1; omega)
    refine cif_i (P := fun r : Nat × Nat × Mng × Mng => r.2.1 ≤ n ∧ r.1 < 9 ∧ (r.1 = 0 → p < r.2.1 ∧ k < 16)) (fun e => ?_) (fun e => ⟨i.1, by have := i.2.1; show (px b 1000 3 (fN 0) 0 (p + 1)).1 < 9; omega, fun z => absurd z e⟩)
    have j := pib_ok hb i.1 (px b 1000 3 (fN 0) 0 (p + 1)).2.2
    exact ⟨j.1, j.2.1, fun z => ⟨by have := j.2.2 z; have := (i.2.2 e).1; omega, by omega⟩⟩
  · have j := pib_ok hb (q := p + 1) (by omega) (fN 0)
    exact ⟨j.1, j.2.1, fun z => ⟨by have := j.2.2 z; omega, by omega⟩⟩
theorem prl_ok {b : Nat → Nat} {n : Nat} (hb : HB b n) : ∀ (u k p : Nat) (R : Rm) (l : Nat → Nat), p ≤ n → u + k = 17 → (prl b n u k p R l).1 = 0 ∧ (prl b n u k p R l).2.1 ≤ 16 ∧ k < (prl b n u k p R l).2.1 ∨ (prl b n u k p R l).1 ≠ 0 ∧ ((prl b n u k p R l).1 ≤ 9 ∧ (prl b n u k p R l).2.1 ≤ n)
  | 0, k, p, R, l, hp, _ => Or.inr ⟨by show (9 : Nat) ≠ 0; decide, by show (9 : Nat) ≤ 9; decide, hp⟩
  | u + 1, k, p, R, l, hp, hu => by
    unfold prl
    have i := pcl_ok hb hp k
    refine cif_i (P := fun r : Nat × Nat × Rm × (Nat → Nat) => r.1 = 0 ∧ r.2.1 ≤ 16 ∧ k < r.2.1 ∨ r.1 ≠ 0 ∧ (r.1 ≤ 9 ∧ r.2.1 ≤ n)) (fun e => ?_) (fun e => Or.inr ⟨e, Nat.le_of_lt i.2.1, i.1⟩)
    have j := i.2.2 e
    refine cif_i (P := fun r : Nat × Nat × Rm × (Nat → Nat) => r.1 = 0 ∧ r.2.1 ≤ 16 ∧ k < r.2.1 ∨ r.1 ≠ 0 ∧ (r.1 ≤ 9 ∧ r.2.1 ≤ n)) (fun e2 => Or.inl ⟨rfl, by show k + 1 ≤ 16; omega, Nat.lt_succ_self k⟩) (fun e2 => ?_)
    refine cif_i (P := fun r : Nat × Nat × Rm × (Nat → Nat) => r.1 = 0 ∧ r.2.1 ≤ 16 ∧ k < r.2.1 ∨ r.1 ≠ 0 ∧ (r.1 ≤ 9 ∧ r.2.1 ≤ n)) (fun e3 => ?_) (fun e3 => Or.inr ⟨by show (1 : Nat) ≠ 0; decide, by show (1 : Nat) ≤ 9; decide, i.1⟩)
    have q := prl_ok hb u (k + 1) ((pcl b k p).2.1 + 1) (pud R k ((pcl b k p).2.2.1, (pcl b k p).2.2.2)) (pud l k (b p)) (by omega) (by omega)
    rcases q with ⟨q1, q2, q3⟩ | q
    · exact Or.inl ⟨q1, q2, by omega⟩
    · exact Or.inr q
