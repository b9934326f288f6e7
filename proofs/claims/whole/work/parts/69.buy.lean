/-! buying -/
def q4 (n : Nat) : Nat := 4 ^ n
theorem q4_s (n : Nat) : q4 (n + 1) = 4 * q4 n := by unfold q4; rw [Nat.pow_succ]; omega
theorem q4_pos (n : Nat) : 0 < q4 n := Nat.pow_pos (by decide)
theorem q4_add (a b : Nat) : q4 (a + b) = q4 a * q4 b := Nat.pow_add 4 a b
theorem q4_p2 (n : Nat) : q4 n = p2 (2 * n) := by unfold q4 p2; rw [Nat.pow_mul]
theorem q4_8 {n : Nat} (h : n ≤ 8) : q4 n ≤ 65536 := Nat.pow_le_pow_right (n := 4) (by decide) h
def dg (K k x : Nat) : Nat := x / q4 (K - 1 - k) % 4
theorem dg_lt (K k x : Nat) : dg K k x < 4 := Nat.mod_lt _ (by decide)
theorem dg_le (K k x : Nat) : dg K k x ≤ 3 := Nat.le_of_lt_succ (dg_lt K k x)
theorem shr_dg {x e : Nat} (he : e ≤ 7) : (nI x >>> (nI (2 * e) &&& 31)) &&& nI 3 = if x < 2 ^ 31 then nI (x / q4 e % 4) else (nI x >>> (nI (2 * e) &&& 31)) &&& nI 3 := by
  by_cases hx : x < 2 ^ 31
  · rw [if_pos hx]
    refine bt_ext fun j hj => ?_
    have e3 : ∀ j, j < 32 → bt (nI 3) j = decide (j < 2) := by decide +kernel
    rw [bt_and, e3 j hj, bt_nI _ hj]
    have e1 : bt (nI x >>> (nI (2 * e) &&& 31)) j = ((nI x).toBitVec.sshiftRight (2 * e)).getLsbD j := by
      show (nI x >>> (nI (2 * e) &&& 31)).toBitVec.getLsbD j = _
      rw [sar_bt _ (by omega)]
    rw [show (x / q4 e % 4).testBit j = (decide (j < 2) && (x / q4 e).testBit j) from by rw [show (4 : Nat) = 2 ^ 2 from rfl, Nat.testBit_mod_two_pow]]
    by_cases q : j < 2
    · rw [e1, BitVec.getLsbD_sshiftRight, if_pos (by omega), decide_eq_false (show ¬ 32 ≤ j by omega), q4_p2]
      show (!false && bt (nI x) (2 * e + j) && _) = _
      rw [bt_nI x (by omega), decide_eq_true q]
      unfold p2
      rw [Nat.testBit_div_two_pow, Nat.add_comm]
      simp
    · rw [decide_eq_false q, Bool.and_false, Bool.false_and]
  · rw [if_neg hx]
theorem shr_d {x K k : Nat} (hK : K ≤ 8) (hx : x < 2 ^ 31) : (nI x >>> (nI (2 * (K - 1 - k)) &&& 31)) &&& nI 3 = nI (dg K k x) := by
  rw [shr_dg (show K - 1 - k ≤ 7 by omega), if_pos hx]
  rfl
/-- digits above and below -/
theorem dg_hi {K k j a y : Nat} (hk : k ≤ K) (hj : j < k) (hy : y < q4 (K - k)) : dg K j (q4 (K - k) * a + y) = dg K j (q4 (K - k) * a) := by
  unfold dg
  have e : q4 (K - 1 - j) = q4 (K - k) * q4 (k - 1 - j) := by rw [← q4_add]; congr 1; omega
  rw [e, ← Nat.div_div_eq_div_mul, ← Nat.div_div_eq_div_mul, Nat.mul_add_div (q4_pos _), Nat.div_eq_of_lt hy, Nat.add_zero, Nat.mul_div_cancel_left _ (q4_pos _)]
theorem dg_lo {K k j a y : Nat} (hk : k ≤ j) (hj : j < K) : dg K j (q4 (K - k) * a + y) = dg K j y := by
  unfold dg
  have e : q4 (K - k) = q4 (K - 1 - j) * (4 * q4 (j - k)) := by rw [← q4_s, ← q4_add]; congr 1; omega
  rw [e, Nat.mul_assoc, Nat.mul_add_div (q4_pos _), Nat.mul_assoc, Nat.mul_add_mod]
noncomputable def th (m : St) (k : Nat) : Nat := cnt (fun t => kd m t = k ∧ m 118 t < nI 2 ∧ ¬ isRec m t) (nT m)
noncomputable def sv (m : St) (w k j : Nat) : Nat := cif ((th m k + j) * w / 3 < wfr m k) ((th m k + j) * w / 3) (wfr m k)
theorem sv_le {m : St} (hw : Wf m) (w k j : Nat) : sv m w k j ≤ 10 := by
  have a : wfr m k ≤ nF m := cnt_le _ _
  have b := hw.f.2
  unfold sv
  by_cases q : (th m k + j) * w / 3 < wfr m k
  · rw [cif_t q]; omega
  · rw [cif_f q]; omega
theorem sv_mono {m : St} {w k i j : Nat} (h : i ≤ j) : sv m w k i ≤ sv m w k j := by
  have a : (th m k + i) * w / 3 ≤ (th m k + j) * w / 3 := Nat.div_le_div_right (Nat.mul_le_mul_right w (by omega))
  unfold sv
  by_cases q : (th m k + j) * w / 3 < wfr m k
  · rw [cif_t q, cif_t (show (th m k + i) * w / 3 < wfr m k by omega)]; exact a
  · rw [cif_f q]
    by_cases z : (th m k + i) * w / 3 < wfr m k
    · rw [cif_t z]; omega
    · rw [cif_f z]; exact Nat.le_refl _
def prN (m : St) (k : Nat) : Nat := (m 109 k).toNatClampNeg
theorem pr_n {m : St} (hx : Wx m) {k : Nat} (hk : k < nK m) : m 109 k = nI (prN m k) ∧ prN m k ≤ 20000 := by
  have q := hx.pr k hk
  exact cl_of (n := 20000) rfl (by decide) ⟨Int32.le_trans (by decide) q.1, q.2⟩
noncomputable def preS (m : St) (w k x : Nat) : Nat := smN (fun j => sv m w j (dg (nK m) j x)) k
noncomputable def preC (m : St) (k x : Nat) : Nat := smN (fun j => dg (nK m) j x * prN m j) k
theorem preS_le {m : St} (hw : Wf m) {w k x : Nat} (hk : k ≤ nK m) : preS m w k x ≤ 80 := by
  have a := smN_b (f := fun j => sv m w j (dg (nK m) j x)) (B := 10) (n := k) (fun j _ => sv_le hw _ _ _)
  have b := hw.k.2
  unfold preS
  omega
theorem preC_le {m : St} (hw : Wf m) (hx : Wx m) {k x : Nat} (hk : k ≤ nK m) : preC m k x ≤ 480000 := by
  have a := smN_b (f := fun j => dg (nK m) j x * prN m j) (B := 60000) (n := k) (fun j hj => Nat.le_trans (Nat.mul_le_mul (dg_le _ _ _) (pr_n hx (by omega)).2) (by decide))
  have b := hw.k.2
  unfold preC
  omega
theorem preS_s (m : St) (w k x : Nat) : preS m w (k + 1) x = preS m w k x + sv m w k (dg (nK m) k x) := rfl
theorem preC_s (m : St) (k x : Nat) : preC m (k + 1) x = preC m k x + dg (nK m) k x * prN m k := rfl
theorem preS_hi {m : St} {w k a S y : Nat} (hk : k ≤ nK m) (hS : S = q4 (nK m - k) * a) (hy : y < q4 (nK m - k)) : preS m w k (S + y) = preS m w k S := by
  refine smN_congr fun j hj => ?_
  rw [hS, dg_hi hk hj hy]
theorem preC_hi {m : St} {k a S y : Nat} (hk : k ≤ nK m) (hS : S = q4 (nK m - k) * a) (hy : y < q4 (nK m - k)) : preC m k (S + y) = preC m k S := by
  refine smN_congr fun j hj => ?_
  rw [hS, dg_hi hk hj hy]
/-- served at most from kind k on -/
noncomputable def sF (m : St) (w k : Nat) : Nat := smN (fun j => cif (k ≤ j) (sv m w j 3) 0) (nK m)
theorem sF_s {m : St} {w k : Nat} (hk : k < nK m) : sF m w k = sF m w (k + 1) + sv m w k 3 :=
  smN_add1 (b := k) hk (cif_f (by omega)) (cif_t (Nat.le_refl k)) (fun j _ hj => by
    by_cases q : k ≤ j
    · rw [cif_t q, cif_t (by omega)]
    · rw [cif_f q, cif_f (by omega)])
theorem sF_K (m : St) (w : Nat) : sF m w (nK m) = 0 := by
  unfold sF
  rw [smN_congr (g := fun _ => 0) (fun j hj => cif_f (by omega)), smN_0]
theorem sF_le {m : St} (hw : Wf m) (w k : Nat) : sF m w k ≤ 80 := by
  have a := smN_b (f := fun j => cif (k ≤ j) (sv m w j 3) 0) (B := 10) (n := nK m) (fun j _ => by
    have := sv_le hw w j 3
    by_cases q : k ≤ j
    · show cif _ _ _ ≤ _
      rw [cif_t q]; exact this
    · show cif _ _ _ ≤ _
      rw [cif_f q]; omega)
  have b := hw.k.2
  unfold sF
  omega
theorem preS_up {m : St} {w k x : Nat} (hk : k ≤ nK m) : preS m w (nK m) x ≤ preS m w k x + sF m w k := by
  have e : preS m w k x = smN (fun j => cif (j < k) (sv m w j (dg (nK m) j x)) 0) (nK m) := by
    rw [smN_ext hk (fun j h1 h2 => cif_f (by omega))]
    exact smN_congr (fun j hj => (cif_t hj).symm)
  rw [e]
  unfold preS sF
  rw [← smN_two (e := fun j => cif (j < k) (sv m w j (dg (nK m) j x)) 0 + cif (k ≤ j) (sv m w j 3) 0) (fun j _ => rfl)]
  refine smN_mono fun j hj => ?_
  by_cases q : j < k
  · rw [cif_t q, cif_f (by omega)]; exact Nat.le_refl _
  · rw [cif_f q, cif_t (by omega), Nat.zero_add]; exact sv_mono (dg_le _ _ _)
theorem preC_up {m : St} {k x : Nat} (hk : k ≤ nK m) : preC m k x ≤ preC m (nK m) x := by
  have e : preC m k x = smN (fun j => cif (j < k) (dg (nK m) j x * prN m j) 0) (nK m) := by
    rw [smN_ext hk (fun j h1 h2 => cif_f (by omega))]
    exact smN_congr (fun j hj => (cif_t hj).symm)
  rw [e]
  refine smN_mono fun j hj => ?_
  by_cases q : j < k
  · rw [cif_t q]; exact Nat.le_refl _
  · rw [cif_f q]; exact Nat.zero_le _
noncomputable def sX (m : St) (w x : Nat) : Nat := preS m w (nK m) x
noncomputable def pX (m : St) (x : Nat) : Nat := preC m (nK m) x
noncomputable def stB (m : St) (w A : Nat) (b : Nat × Nat × Nat) (x : Nat) : Nat × Nat × Nat := cif (pX m x ≤ A ∧ ¬ (sX m w x < b.2.1 ∨ (sX m w x = b.2.1 ∧ b.2.2 ≤ pX m x))) (x, sX m w x, pX m x) b
noncomputable def buF (m : St) (w A x : Nat) : Nat × Nat × Nat := fo (stB m w A) 0 x (0, sX m w 0, 0)
theorem dg_0 (K k : Nat) : dg K k 0 = 0 := by unfold dg; rw [Nat.zero_div]
theorem pX_0 (m : St) : pX m 0 = 0 := by
  unfold pX preC
  rw [smN_congr (g := fun _ => 0) (fun j _ => by rw [dg_0, Nat.zero_mul]), smN_0]
theorem bu_1 (m : St) (w A : Nat) : buF m w A 1 = (0, sX m w 0, 0) := by
  show stB m w A (0, sX m w 0, 0) (0 + 0) = _
  exact cif_f (fun z => z.2 (Or.inr ⟨rfl, Nat.zero_le _⟩))
theorem bu_s (m : St) (w A x : Nat) : buF m w A (x + 1) = stB m w A (buF m w A x) x := by
  show stB m w A (buF m w A x) (0 + x) = _
  rw [Nat.zero_add]
def bdB (m : St) (b : Nat × Nat × Nat) : Prop := b.1 < q4 (nK m) ∧ b.2.1 ≤ 80 ∧ b.2.2 ≤ 480000
theorem stB_bd {m : St} (hw : Wf m) (hx : Wx m) {w A x : Nat} {b : Nat × Nat × Nat} (hb : bdB m b) (h : x < q4 (nK m)) : bdB m (stB m w A b x) := by
  unfold stB
  by_cases q : pX m x ≤ A ∧ ¬ (sX m w x < b.2.1 ∨ (sX m w x = b.2.1 ∧ b.2.2 ≤ pX m x))
  · rw [cif_t q]; exact ⟨h, preS_le hw (Nat.le_refl _), preC_le hw hx (Nat.le_refl _)⟩
  · rw [cif_f q]; exact hb
theorem foB_bd {m : St} (hw : Wf m) (hx : Wx m) {w A S : Nat} {b : Nat × Nat × Nat} (hb : bdB m b) : ∀ n, S + n ≤ q4 (nK m) → bdB m (fo (stB m w A) S n b)
  | 0, _ => hb
  | n + 1, h => by
    rw [fo_s]
    exact stB_bd hw hx (foB_bd hw hx hb n (by omega)) (by omega)
theorem bu_bd {m : St} (hw : Wf m) (hx : Wx m) (w A : Nat) {x : Nat} (h : x ≤ q4 (nK m)) : bdB m (buF m w A x) := foB_bd hw hx ⟨q4_pos _, preS_le hw (Nat.le_refl _), Nat.zero_le _⟩ x (by omega)
/-- nothing before S is better -/
def dom (m : St) (w A : Nat) (b : Nat × Nat × Nat) (S : Nat) : Prop := ∀ x, x < S → pX m x ≤ A → sX m w x < b.2.1 ∨ (sX m w x = b.2.1 ∧ b.2.2 ≤ pX m x)
theorem dom_s {m : St} {w A S : Nat} {b : Nat × Nat × Nat} (h : dom m w A b S) : dom m w A (stB m w A b S) (S + 1) := by
  intro x hx hp
  unfold stB
  by_cases q : pX m S ≤ A ∧ ¬ (sX m w S < b.2.1 ∨ (sX m w S = b.2.1 ∧ b.2.2 ≤ pX m S))
  · rw [cif_t q]
    show sX m w x < sX m w S ∨ (sX m w x = sX m w S ∧ pX m S ≤ pX m x)
    by_cases e : x = S
    · rw [e]; exact Or.inr ⟨rfl, Nat.le_refl _⟩
    · have z := h x (by omega) hp
      have y := q.2
      omega
  · rw [cif_f q]
    by_cases e : x = S
    · rw [e] at hp ⊢
      exact Classical.byContradiction fun z => q ⟨hp, z⟩
    · exact h x (by omega) hp
theorem dom_fo {m : St} {w A S : Nat} {b : Nat × Nat × Nat} (h : dom m w A b S) : ∀ n, dom m w A (fo (stB m w A) S n b) (S + n)
  | 0 => h
  | n + 1 => dom_s (dom_fo h n)
theorem bu_pr1 {m : St} {w A k a S : Nat} {b : Nat × Nat × Nat} (hk : k ≤ nK m) (hS : S = q4 (nK m - k) * a) (h : A < preC m k S) : fo (stB m w A) S (q4 (nK m - k)) b = b := fo_id fun x h1 h2 => by
  obtain ⟨y, rfl⟩ : ∃ y, x = S + y := ⟨x - S, by omega⟩
  refine cif_f (fun z => ?_)
  have q := preC_up (m := m) (k := k) (x := S + y) hk
  rw [preC_hi hk hS (by omega)] at q
  have := z.1
  unfold pX at this
  omega
theorem bu_pr2 {m : St} {w A k a S : Nat} {b : Nat × Nat × Nat} (hk : k ≤ nK m) (hS : S = q4 (nK m - k) * a) (h : preS m w k S + sF m w k < b.2.1 ∨ (preS m w k S + sF m w k = b.2.1 ∧ b.2.2 ≤ preC m k S)) : fo (stB m w A) S (q4 (nK m - k)) b = b := fo_id fun x h1 h2 => by
  obtain ⟨y, rfl⟩ : ∃ y, x = S + y := ⟨x - S, by omega⟩
  refine cif_f (fun z => z.2 ?_)
  have q := preC_up (m := m) (k := k) (x := S + y) hk
  rw [preC_hi hk hS (by omega)] at q
  have q2 := preS_up (m := m) (w := w) (k := k) (x := S + y) hk
  rw [preS_hi hk hS (by omega)] at q2
  unfold sX pX
  omega
/-- one more of kind k that serves nobody more -/
theorem bu_skip {m : St} {w A k a S n : Nat} {b : Nat × Nat × Nat} (hk : k < nK m) (hS : S = q4 (nK m - k) * a) (hn : 0 < n) (hn3 : n ≤ 3) (hd : dom m w A b (S + n * q4 (nK m - (k + 1)))) (h : sv m w k n ≤ sv m w k (n - 1)) : fo (stB m w A) (S + n * q4 (nK m - (k + 1))) (q4 (nK m - (k + 1))) b = b := fo_id fun x h1 h2 => by
  have e4 : q4 (nK m - k) = 4 * q4 (nK m - (k + 1)) := by rw [← q4_s]; congr 1; omega
  generalize hQ : q4 (nK m - (k + 1)) = Q at *
  obtain ⟨y, hy⟩ : ∃ y, x = S + n * Q + y := ⟨x - (S + n * Q), by omega⟩
  obtain ⟨n', rfl⟩ : ∃ n', n = n' + 1 := ⟨n - 1, by omega⟩
  rw [Nat.add_sub_cancel] at h
  have eN : (n' + 1) * Q = n' * Q + Q := by rw [Nat.add_mul, Nat.one_mul]
  have n3 : n' * Q ≤ 2 * Q := Nat.mul_le_mul_right Q (by omega)
  have ly : y < Q := by omega
  have Qp : 0 < Q := by omega
  -- x, and the one with one less
  have dk : ∀ i, i ≤ 3 → dg (nK m) k (S + (i * Q + y)) = i := fun i hi => by
    rw [hS, dg_lo (Nat.le_refl k) hk]
    unfold dg
    rw [show nK m - 1 - k = nK m - (k + 1) by omega, hQ, Nat.mul_comm i Q, Nat.mul_add_div Qp, Nat.div_eq_of_lt ly, Nat.add_zero]
    exact Nat.mod_eq_of_lt (by omega)
  have dl : ∀ i j, i ≤ 3 → j < nK m → j ≠ k → dg (nK m) j (S + (i * Q + y)) = dg (nK m) j (S + y) := fun i j hi hj hjk => by
    have i3 : i * Q ≤ 3 * Q := Nat.mul_le_mul_right Q hi
    rw [hS]
    rcases Nat.lt_or_gt_of_ne hjk with q | q
    · rw [dg_hi (Nat.le_of_lt hk) q (by omega), dg_hi (Nat.le_of_lt hk) q (by omega)]
    · rw [dg_lo (Nat.le_of_lt q) hj, dg_lo (Nat.le_of_lt q) hj, Nat.mul_comm i Q, ← hQ, dg_lo q hj]
  have ss : ∀ i, i ≤ 3 → sX m w (S + (i * Q + y)) = smN (fun j => cif (j = k) 0 (sv m w j (dg (nK m) j (S + y)))) (nK m) + sv m w k i := fun i hi =>
    smN_add1 (b := k) hk (cif_t rfl) (by rw [dk i hi]) (fun j hj hjk => by rw [dl i j hi hj hjk, cif_f hjk])
  have pp : ∀ i, i ≤ 3 → pX m (S + (i * Q + y)) = smN (fun j => cif (j = k) 0 (dg (nK m) j (S + y) * prN m j)) (nK m) + i * prN m k := fun i hi =>
    smN_add1 (b := k) hk (cif_t rfl) (by rw [dk i hi]) (fun j hj hjk => by rw [dl i j hi hj hjk, cif_f hjk])
  have ex : x = S + ((n' + 1) * Q + y) := by omega
  have s1 := ss (n' + 1) hn3
  have s0 := ss n' (by omega)
  have p1 := pp (n' + 1) hn3
  have p0 := pp n' (by omega)
  have ep : (n' + 1) * prN m k = n' * prN m k + prN m k := by rw [Nat.add_mul, Nat.one_mul]
  rw [ex]
  refine cif_f (fun z => z.2 ?_)
  have q := hd (S + (n' * Q + y)) (by omega) (by have := z.1; omega)
  omega
noncomputable def buA (m : St) (w A : Nat) (x : Int32) : Int32 := cif (x = -1) (nI (buF m w A (q4 (nK m))).2.1 - nI (sX m w 0)) (cif (x = nI 8) (nI (buF m w A (q4 (nK m))).2.2) (nI (dg (nK m) x.toNatClampNeg (buF m w A (q4 (nK m))).1)))
noncomputable def sBuying (m : St) (a0 w0 x : Int32) : Int32 × St := cif ((0 ≤ a0 ∧ a0 ≤ 60000) ∧ (1 ≤ w0 ∧ w0 ≤ 99) ∧ (x = -1 ∨ x = nI 8 ∨ ∃ j : Nat, j < nK m ∧ x = nI j)) (buA m w0.toNatClampNeg a0.toNatClampNeg x, m) (-1, m)
