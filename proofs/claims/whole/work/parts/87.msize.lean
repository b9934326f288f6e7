theorem cnt_0s (p : Nat → Prop) : ∀ n, cnt p (n + 1) = (cif (p 0) 1 0) + cnt (fun k => p (k + 1)) n
  | 0 => by
    by_cases z : p 0
    · rw [cnt_t z, cif_t z]; show 0 + 1 = 1 + 0; rfl
    · rw [cnt_f z, cif_f z]; show 0 + 0 = 0 + 0; rfl
  | n + 1 => by
    have ih := cnt_0s p n
    by_cases z : p (n + 1)
    · rw [cnt_t z, cnt_t (p := fun k => p (k + 1)) z, ih]; omega
    · rw [cnt_f z, cnt_f (p := fun k => p (k + 1)) z, ih]; omega
theorem tb_s (x k : Nat) : tb x (k + 1) ↔ tb (x / 2) k := by
  show x.testBit (k + 1) = true ↔ (x / 2).testBit k = true
  rw [Nat.testBit_succ]
theorem tb_z (x : Nat) : tb x 0 ↔ x % 2 = 1 := by
  show x.testBit 0 = true ↔ _
  rw [Nat.testBit_zero, decide_eq_true_eq]
theorem cnt_2 (x n : Nat) : cnt (tb x) (n + 1) = x % 2 + cnt (tb (x / 2)) n := by
  rw [cnt_0s, cnt_congr (p := fun k => tb x (k + 1)) (q := tb (x / 2)) (fun k _ => tb_s x k)]
  by_cases z : x % 2 = 1
  · rw [cif_t ((tb_z x).mpr z), z]
  · rw [cif_f (fun q => z ((tb_z x).mp q)), show x % 2 = 0 by omega]
theorem land_h (x y : Nat) : (x &&& y) / 2 = (x / 2) &&& (y / 2) := Nat.eq_of_testBit_eq fun j => by
  rw [← Nat.testBit_succ, Nat.testBit_and, Nat.testBit_and, Nat.testBit_succ, Nat.testBit_succ]
theorem land_m (x y : Nat) : (x &&& y) % 2 = cif (x % 2 = 1 ∧ y % 2 = 1) 1 0 := by
  have q := tb_z (x &&& y)
  have e : tb (x &&& y) 0 ↔ x % 2 = 1 ∧ y % 2 = 1 := by
    show (x &&& y).testBit 0 = true ↔ _
    rw [Nat.testBit_and, Bool.and_eq_true]
    exact and_congr (tb_z x) (tb_z y)
  by_cases z : x % 2 = 1 ∧ y % 2 = 1
  · rw [cif_t z]; exact q.mp (e.mpr z)
  · rw [cif_f z]
    have : ¬ (x &&& y) % 2 = 1 := fun w => z (e.mp (q.mpr w))
    omega
/-- the lowest bit away -/
theorem low_1 : ∀ n v, 0 < v → v < p2 n → cnt (tb (v &&& (v - 1))) n + 1 = cnt (tb v) n
  | 0, v, h0, h => by have : p2 0 = 1 := rfl; omega
  | n + 1, v, h0, h => by
    have e := p2_s n
    rw [cnt_2, cnt_2, land_h, land_m]
    by_cases z : v % 2 = 1
    · rw [cif_f (by omega), show (v - 1) / 2 = v / 2 by omega, Nat.and_self]
      omega
    · have ih := low_1 n (v / 2) (by omega) (by omega)
      rw [cif_f (by omega), show (v - 1) / 2 = v / 2 - 1 by omega]
      omega
set_option maxRecDepth 4000 in
theorem lm_sizeOf {E : En} (hok : EOK E) {h h0 : Hp} (p0 : Int32) {d : Nat} {Q : Option V → Hp → Prop} {r : Nat} (hr : r ≤ 16) (hQ : Q (some (vI (nI r))) h) : ∀ k v c : Nat, cnt (tb v) 16 = k → v < 65536 → c + k = r → G E m_X12_sizeOf d 0 0 Q h0 4 [some (vI p0), some (vI (nI c)), some (vI (nI v))] [] h 0 0 := by
  intro k
  induction k with
  | zero =>
    intro v c hk hv hc
    have v0 : v = 0 := Classical.byContradiction fun z => by have := low_1 16 v (by omega) hv; omega
    refine g_iload_n (pc' := 5) dX12_sizeOf_4 rfl rfl ?_
    refine g_if_eqN (tgt := 20) (pc' := 8) dX12_sizeOf_5 rfl (by decide) (by omega) (fun c5 => ?_) (fun c5 => ?_)
    ·
      refine g_iload_n (pc' := 21) dX12_sizeOf_20 rfl rfl ?_
      refine g_iret dX12_sizeOf_21 rfl (by decide) (by decide) ?_
      rw [show c = r by omega]
      exact hQ
    · exact absurd v0 c5
  | succ k ih =>
    intro v c hk hv hc
    have hl := low_1 16 v
    have hcl := cnt_le (tb v) 16
    refine g_iload_n (pc' := 5) dX12_sizeOf_4 rfl rfl ?_
    refine g_if_eqN (tgt := 20) (pc' := 8) dX12_sizeOf_5 rfl (by decide) (by omega) (fun c5 => ?_) (fun c5 => ?_)
    · exact absurd hk (by rw [c5, cnt_none (fun j _ => by rw [show tb 0 j ↔ False from ⟨fun z => Bool.false_ne_true ((Nat.zero_testBit j).symm.trans z), fun z => z.elim⟩]; exact fun z => z)]; omega)
    ·
      refine g_iincN (k := 1) (pc' := 11) dX12_sizeOf_8 rfl rfl (by decide) rfl ?_
      try simp only [List.set]
      refine g_iload_n (pc' := 12) dX12_sizeOf_11 rfl rfl ?_
      refine g_iload_n (pc' := 13) dX12_sizeOf_12 rfl rfl ?_
      refine g_iconstN (n := 1) (pc' := 14) dX12_sizeOf_13 rfl ?_
      refine g_isubN (pc' := 15) dX12_sizeOf_14 rfl (by omega) ?_
      refine g_iand (pc' := 16) dX12_sizeOf_15 rfl ?_
      refine g_istore_n (pc' := 17) dX12_sizeOf_16 rfl (by decide) rfl ?_
      try simp only [List.set]
      refine g_goto (tgt := 4) dX12_sizeOf_17 (by decide) ?_
      rw [and_nI]
      exact ih (v &&& (v - 1)) (c + 1) (by have := hl (by omega) hv; omega) (Nat.lt_of_le_of_lt Nat.and_le_left hv) (by omega)
set_option maxRecDepth 4000 in
theorem cm_sizeOf {E : En} (hok : EOK E) {h : Hp} {x : Nat} (hx : x < 65536) : Call E m_X12_sizeOf 0 0 0 [vI (nI x)] h (fun r0 h' => r0 = some (vI (nI (cnt (tb x) 16))) ∧ h = h') := by
  have hcl := cnt_le (tb x) 16
  refine Call.enter hok (by decide) (Nat.le_of_ble_eq_true rfl) ?_
  show G E m_X12_sizeOf 0 0 0 _ h 0 [some (vI (nI x)), none, none] [] h 0 0
  refine g_iconstN (n := 0) (pc' := 1) dX12_sizeOf_0 rfl ?_
  refine g_istore_n (pc' := 2) dX12_sizeOf_1 rfl (by decide) rfl ?_
  try simp only [List.set]
  refine g_iload_n (pc' := 3) dX12_sizeOf_2 rfl rfl ?_
  refine g_istore_n (pc' := 4) dX12_sizeOf_3 rfl (by decide) rfl ?_
  try simp only [List.set]
  exact lm_sizeOf hok _ hcl ⟨rfl, rfl⟩ _ x 0 rfl hx (Nat.zero_add _)
