/-! BITS -/
def bt (x : Int32) (j : Nat) : Bool := x.toBitVec.getLsbD j
theorem bt_ext {x y : Int32} (h : ∀ j, j < 32 → bt x j = bt y j) : x = y := Int32.toBitVec_inj.mp (BitVec.eq_of_getLsbD_eq h)
theorem bt_or (x y : Int32) (j : Nat) : bt (x ||| y) j = (bt x j || bt y j) := by
  show (x ||| y).toBitVec.getLsbD j = _
  rw [Int32.toBitVec_or, BitVec.getLsbD_or]
  rfl
theorem bt_and (x y : Int32) (j : Nat) : bt (x &&& y) j = (bt x j && bt y j) := by
  show (x &&& y).toBitVec.getLsbD j = _
  rw [Int32.toBitVec_and, BitVec.getLsbD_and]
  rfl
theorem bt_neg (x : Int32) {j : Nat} (hj : j < 32) : bt (x ^^^ (-1)) j = !(bt x j) := by
  show (x ^^^ (-1)).toBitVec.getLsbD j = _
  rw [Int32.toBitVec_xor, BitVec.getLsbD_xor]
  have e : ((-1 : Int32)).toBitVec = BitVec.allOnes 32 := by decide
  rw [e, BitVec.getLsbD_allOnes, decide_eq_true hj]
  show (x.toBitVec.getLsbD j ^^ true) = !(x.toBitVec.getLsbD j)
  cases x.toBitVec.getLsbD j <;> rfl
theorem bt_0 (j : Nat) : bt 0 j = false := by
  show ((0 : Int32)).toBitVec.getLsbD j = false
  have e : ((0 : Int32)).toBitVec = 0#32 := rfl
  rw [e, BitVec.getLsbD_zero]
theorem bt_big {x : Int32} {j : Nat} (hj : 32 ≤ j) : bt x j = false := BitVec.getLsbD_of_ge _ _ hj
theorem bt_one {g : Nat} (hg : g < 32) (j : Nat) : bt ((1 : Int32) <<< (nI g &&& 31)) j = decide (j = g) := by
  have key : ∀ g, g < 32 → ∀ j, j < 32 → bt ((1 : Int32) <<< (nI g &&& 31)) j = decide (j = g) := by decide +kernel
  by_cases hj : j < 32
  · exact key g hg j hj
  · rw [bt_big (by omega)]
    exact (decide_eq_false (by omega)).symm
theorem bt_orr (f : Nat → Int32) (j : Nat) : ∀ n, bt (orr f n) j = true ↔ ∃ i, i < n ∧ bt (f i) j = true
  | 0 => by
    show bt 0 j = true ↔ _
    rw [bt_0]
    exact ⟨(fun z => by cases z), fun ⟨i, hi, _⟩ => absurd hi (Nat.not_lt_zero i)⟩
  | n + 1 => by
    show bt (orr f n ||| f n) j = true ↔ _
    rw [bt_or, Bool.or_eq_true, bt_orr f j n]
    constructor
    · rintro (⟨i, hi, q⟩ | q)
      · exact ⟨i, by omega, q⟩
      · exact ⟨n, Nat.lt_succ_self n, q⟩
    · rintro ⟨i, hi, q⟩
      by_cases e : i = n
      · subst e; exact Or.inr q
      · exact Or.inl ⟨i, by omega, q⟩
theorem bt_eq {x y : Int32} (h : ∀ j, j < 32 → (bt x j = true ↔ bt y j = true)) : x = y := bt_ext fun j hj => by
  have q := h j hj
  cases a : bt x j <;> cases b : bt y j
  · rfl
  · exact absurd (q.mpr b) (by rw [a]; decide)
  · exact absurd (q.mp a) (by rw [b]; decide)
  · rfl
theorem bt_cif {P : Prop} {a : Int32} {j : Nat} : bt (cif P a 0) j = true ↔ P ∧ bt a j = true := by
  by_cases q : P
  · rw [cif_t q]
    exact ⟨fun z => ⟨q, z⟩, fun z => z.2⟩
  · rw [cif_f q, bt_0]
    exact ⟨(fun z => by cases z), fun z => absurd z.1 q⟩
theorem sar_bt (x : Int32) {k : Nat} (hk : k < 32) : (x >>> (nI k &&& 31)).toBitVec = x.toBitVec.sshiftRight k := by
  rcases (show k = 0 ∨ k = 1 ∨ k = 2 ∨ k = 3 ∨ k = 4 ∨ k = 5 ∨ k = 6 ∨ k = 7 ∨ k = 8 ∨ k = 9 ∨ k = 10 ∨ k = 11 ∨ k = 12 ∨ k = 13 ∨ k = 14 ∨ k = 15 ∨ k = 16 ∨ k = 17 ∨ k = 18 ∨ k = 19 ∨ k = 20 ∨ k = 21 ∨ k = 22 ∨ k = 23 ∨ k = 24 ∨ k = 25 ∨ k = 26 ∨ k = 27 ∨ k = 28 ∨ k = 29 ∨ k = 30 ∨ k = 31 by omega) with rfl | rfl | rfl | rfl | rfl | rfl | rfl | rfl | rfl | rfl | rfl | rfl | rfl | rfl | rfl | rfl | rfl | rfl | rfl | rfl | rfl | rfl | rfl | rfl | rfl | rfl | rfl | rfl | rfl | rfl | rfl | rfl
  all_goals rfl
theorem and1_iff (y : Int32) : y &&& nI 1 = nI 1 ↔ bt y 0 = true := by
  have e1 : ∀ j, bt (nI 1) j = decide (j = 0) := fun j => by
    by_cases hj : j < 32
    · have key : ∀ j, j < 32 → bt (nI 1) j = decide (j = 0) := by decide +kernel
      exact key j hj
    · rw [bt_big (by omega)]
      exact (decide_eq_false (by omega)).symm
  constructor
  · intro h
    have q := congrArg (fun z => bt z 0) h
    simp only [bt_and, e1] at q
    simpa using q
  · intro h
    refine bt_ext fun j hj => ?_
    rw [bt_and, e1]
    by_cases z : j = 0
    · subst z; rw [h]; rfl
    · rw [decide_eq_false z]; cases bt y j <;> rfl
theorem hasB_iff (x : Int32) {k : Nat} (hk : k < 32) : hasB x k ↔ bt x k = true := by
  unfold hasB
  rw [and1_iff]
  show (x >>> (nI k &&& 31)).toBitVec.getLsbD 0 = true ↔ x.toBitVec.getLsbD k = true
  rw [sar_bt x hk, BitVec.getLsbD_sshiftRight]
  simp [hk]
