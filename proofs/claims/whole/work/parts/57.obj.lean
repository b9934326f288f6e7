/-! cells that come: what stays -/
theorem sh13 (j i : Nat) : sh 13 j i = none := rfl
theorem sh61 (j i : Nat) : sh 61 j i = none := rfl
theorem sh62 (j i : Nat) : sh 62 j i = none := rfl
theorem sh63 (j i : Nat) : sh 63 j i = none := rfl
def Fr (S : Ad → Prop) (h h' : Hp) : Prop := ∀ b, ¬ S b → h'.1 b = h.1 b ∧ h'.2.1 b = h.2.1 b ∧ h'.2.2 b = h.2.2 b
theorem Fr.rf (S : Ad → Prop) (h : Hp) : Fr S h h := fun _ _ => ⟨rfl, rfl, rfl⟩
theorem Fr.tr {S : Ad → Prop} {a b c : Hp} (x : Fr S a b) (y : Fr S b c) : Fr S a c := fun q z => ⟨(y q z).1.trans (x q z).1, (y q z).2.1.trans (x q z).2.1, (y q z).2.2.trans (x q z).2.2⟩
theorem Fr.up {S T : Ad → Prop} {a b : Hp} (x : Fr S a b) (k : ∀ q, S q → T q) : Fr T a b := fun q z => x q (fun y => z (k q y))
theorem Fr.wI {S : Ad → Prop} {h h' : Hp} {a : Ad} {j : Nat} {x : Int32} (k : Fr S h h') (ha : S a) : Fr S h (wI h' a j x) := fun b z => ⟨(wI_off h' a j x b (fun y => z (y ▸ ha))).trans (k b z).1, (k b z).2.1, (k b z).2.2⟩
theorem Fr.wR {S : Ad → Prop} {h h' : Hp} {a : Ad} {j : Nat} {x : Option Ad} (k : Fr S h h') (ha : S a) : Fr S h (wR h' a j x) := fun b z => ⟨(k b z).1, (wR_off h' a j x b (fun y => z (y ▸ ha))).trans (k b z).2.1, (k b z).2.2⟩
theorem Fr.nH {S : Ad → Prop} {h h' : Hp} {a : Ad} (k : Fr S h h') (ha : S a) : Fr S h (nH h' a) := fun b z => ⟨(nH_1 h' a (b := b) (fun (y : b = a) => z (y ▸ ha))).trans (k b z).1, (nH_2 h' a (b := b) (fun (y : b = a) => z (y ▸ ha))).trans (k b z).2.1, (nH_a h' a (b := b) (fun (y : b = a) => z (y ▸ ha))).trans (k b z).2.2⟩
theorem Fr.wQ {S : Ad → Prop} {h h' : Hp} {a : Ad} {f : Nat → Option Ad} (k : Fr S h h') (ha : S a) : Fr S h (wQ h' a f) := fun b z => ⟨(k b z).1, (wQ_off h' a f (b := b) (fun (y : b = a) => z (y ▸ ha))).trans (k b z).2.1, (k b z).2.2⟩
theorem Fr.wF {S : Ad → Prop} {h h' : Hp} {a : Ad} {f : Nat → Int32} (k : Fr S h h') (ha : S a) : Fr S h (wF h' a f) := fun b z => ⟨(wF_off h' a f (b := b) (fun (y : b = a) => z (y ▸ ha))).trans (k b z).1, (k b z).2.1, (k b z).2.2⟩
theorem Fr.wN {S : Ad → Prop} {h h' : Hp} {a : Ad} {c : Nat} {f : Nat → Int32} (k : Fr S h h') (ha : S a) : ∀ n, Fr S h (wN h' a c f n)
  | 0 => k
  | n + 1 => (Fr.wN k ha n).wI ha
def LsA (h : Hp) (i n s : Nat) : Prop := h.1 (13, i) 2 = nI n ∧ h.2.1 (13, i) 1 = some (dN i n) ∧ (∀ j, j < n → h.2.1 (dN i n) j = some (s, j)) ∧ (n = 0 → h.2.2 (61, i) = false) ∧ (n ≤ 10 → h.2.2 (62, i) = false) ∧ (n ≤ 15 → h.2.2 (63, i) = false)
theorem Ls.a {h : Hp} {i n s : Nat} (l : Ls h i n s) : LsA h i n s := ⟨l.1, l.2.1, l.2.2.1, l.2.2.2.2⟩
theorem LsA.ls {h : Hp} {i n s : Nat} (l : LsA h i n s) (q : ∀ j, n ≤ j → h.2.2 (s, j) = false) : Ls h i n s := ⟨l.1, l.2.1, l.2.2.1, q, l.2.2.2⟩
theorem dN_0 (i : Nat) : dN i 0 = (91, 0) := if_pos rfl
theorem dN_1 {i n : Nat} (h : 0 < n) (h1 : n ≤ 10) : dN i n = (61, i) := by unfold dN; rw [if_neg (by omega), if_pos h1]
theorem dN_2 {i n : Nat} (h : 10 < n) (h1 : n ≤ 15) : dN i n = (62, i) := by unfold dN; rw [if_neg (by omega), if_neg (by omega), if_pos h1]
theorem dN_3 {i n : Nat} (h : 15 < n) : dN i n = (63, i) := by unfold dN; rw [if_neg (by omega), if_neg (by omega), if_neg (by omega)]
/-- list i's own cells, and the new ones of index n -/
def SK (i : Nat) (ss : List Nat) (n : Nat) (b : Ad) : Prop := (b.1 = 13 ∧ b.2 = i) ∨ (61 ≤ b.1 ∧ b.1 ≤ 63 ∧ b.2 = i) ∨ (b.1 ∈ ss ∧ b.2 = n)
theorem nS {i n s j : Nat} {ss : List Nat} (h1 : s ≠ 13 ∨ j ≠ i) (h2 : s < 61 ∨ 63 < s ∨ j ≠ i) (h3 : s ∉ ss ∨ j ≠ n) : ¬ SK i ss n (s, j) := by
  rintro (⟨a, b⟩ | ⟨a, b, c⟩ | ⟨a, b⟩)
  · have a' : s = 13 := a
    have b' : j = i := b
    omega
  · have a' : 61 ≤ s := a
    have b' : s ≤ 63 := b
    have c' : j = i := c
    omega
  · rcases h3 with q | q
    · exact q a
    · exact q b
theorem LsA.fr {h h' : Hp} {i n s : Nat} {S : Ad → Prop} (l : LsA h i n s) (fr : Fr S h h') (z : ∀ b : Ad, (b = (91, 0) ∨ b = (13, i) ∨ b = (61, i) ∨ b = (62, i) ∨ b = (63, i)) → ¬ S b) : LsA h' i n s := by
  have eD : h'.2.1 (dN i n) = h.2.1 (dN i n) := by
    refine (fr _ (z _ ?_)).2.1
    unfold dN
    split
    · exact Or.inl rfl
    · split
      · exact Or.inr (Or.inr (Or.inl rfl))
      · split
        · exact Or.inr (Or.inr (Or.inr (Or.inl rfl)))
        · exact Or.inr (Or.inr (Or.inr (Or.inr rfl)))
  unfold LsA at *
  rw [eD, (fr (13, i) (z _ (Or.inr (Or.inl rfl)))).1, (fr (13, i) (z _ (Or.inr (Or.inl rfl)))).2.1, (fr (61, i) (z _ (Or.inr (Or.inr (Or.inl rfl))))).2.2, (fr (62, i) (z _ (Or.inr (Or.inr (Or.inr (Or.inl rfl)))))).2.2, (fr (63, i) (z _ (Or.inr (Or.inr (Or.inr (Or.inr rfl)))))).2.2]
  exact l
/-- a list that is not i's -/
theorem Ls.fr {h h' : Hp} {i k n s nn : Nat} {ss : List Nat} (l : Ls h k n s) (fr : Fr (SK i ss nn) h h') (hk : k ≠ i) (hs : s ∉ ss) (hs2 : s < 13) (ha : ∀ q ∈ ss, q < 61 ∧ q ≠ 13) : Ls h' k n s := by
  refine (l.a.fr fr ?_).ls fun j hj => ?_
  · have nm : ∀ q, 61 ≤ q → q ∉ ss := fun q hq z => absurd (ha q z).1 (by omega)
    rintro b (rfl | rfl | rfl | rfl | rfl)
    · exact nS (Or.inl (by decide)) (Or.inr (Or.inl (by decide))) (Or.inl (nm _ (by decide)))
    · exact nS (Or.inr hk) (Or.inl (by decide)) (Or.inl (fun z => (ha 13 z).2 rfl))
    · exact nS (Or.inl (by decide)) (Or.inr (Or.inr hk)) (Or.inl (nm _ (by decide)))
    · exact nS (Or.inl (by decide)) (Or.inr (Or.inr hk)) (Or.inl (nm _ (by decide)))
    · exact nS (Or.inl (by decide)) (Or.inr (Or.inr hk)) (Or.inl (nm _ (by decide)))
  · rw [(fr (s, j) (nS (Or.inl (by omega)) (Or.inl (by omega)) (Or.inl hs))).2.2]
    exact l.2.2.2.1 j hj
theorem add_post {h : Hp} {i n s N : Nat} {D : Ad} {z : Int32} (l : LsA h i n s) (h0 : 0 < n) (eD : dN i n = D) (eD' : dN i (n + 1) = D) (hD : D = (61, i) ∨ D = (62, i) ∨ D = (63, i)) (hn : n < 16) : LsA (wI (wR (wI h (13, i) 0 z) D n (some (s, n))) (13, i) 2 (nI (n + 1))) i (n + 1) s ∧ Fr (SK i [] 0) h (wI (wR (wI h (13, i) 0 z) D n (some (s, n))) (13, i) 2 (nI (n + 1))) := by
  have s13 : SK i [] 0 (13, i) := Or.inl ⟨rfl, rfl⟩
  have sD : SK i [] 0 D := by rcases hD with rfl | rfl | rfl <;> exact Or.inr (Or.inl ⟨Nat.le_of_ble_eq_true rfl, Nat.le_of_ble_eq_true rfl, rfl⟩)
  have nD : D ≠ (13, i) := by rcases hD with rfl | rfl | rfl <;> exact (fun z => absurd (congrArg Prod.fst z) (Nat.ne_of_beq_eq_false rfl))
  refine ⟨⟨wI_same _ _ _ _, ?_, fun j hj => ?_, fun q => absurd q (by omega), fun q => l.2.2.2.2.1 (by omega), fun q => l.2.2.2.2.2 (by omega)⟩, (((Fr.rf _ h).wI s13).wR sD).wI s13⟩
  · show (wR (wI h (13, i) 0 z) D n (some (s, n))).2.1 (13, i) 1 = _
    rw [wR_off _ _ _ _ (13, i) (Ne.symm nD), eD', ← eD]
    exact l.2.1
  · show (wR (wI h (13, i) 0 z) D n (some (s, n))).2.1 (dN i (n + 1)) j = _
    rw [eD', wR_at]
    by_cases q : j = n
    · rw [if_pos ⟨rfl, q⟩, q]
    · rw [if_neg (fun y => q y.2)]
      have := l.2.2.1 j (by omega)
      rw [eD] at this
      exact this
theorem first_post {h : Hp} {i n s : Nat} {z : Int32} (l : LsA h i n s) (hn : n = 0) : LsA (wI (wR (wR (nH (wI h (13, i) 0 z) (61, i)) (13, i) 1 (some (61, i))) (61, i) 0 (some (s, n))) (13, i) 2 (nI 1)) i (n + 1) s ∧ Fr (SK i [] 0) h (wI (wR (wR (nH (wI h (13, i) 0 z) (61, i)) (13, i) 1 (some (61, i))) (61, i) 0 (some (s, n))) (13, i) 2 (nI 1)) := by
  subst hn
  have s13 : SK i [] 0 (13, i) := Or.inl ⟨rfl, rfl⟩
  have sD : SK i [] 0 (61, i) := Or.inr (Or.inl ⟨Nat.le_of_ble_eq_true rfl, Nat.le_of_ble_eq_true rfl, rfl⟩)
  have eD : dN i (0 + 1) = (61, i) := dN_1 (by decide) (by decide)
  refine ⟨⟨wI_same _ _ _ _, ?_, fun j hj => ?_, fun q => absurd q (by decide), fun q => l.2.2.2.2.1 (by decide), fun q => l.2.2.2.2.2 (by decide)⟩, (((((Fr.rf _ h).wI s13).nH sD).wR s13).wR sD).wI s13⟩
  · show (wR (wR (nH (wI h (13, i) 0 z) (61, i)) (13, i) 1 (some (61, i))) (61, i) 0 (some (s, 0))).2.1 (13, i) 1 = _
    rw [wR_off _ _ _ _ (13, i) (ad_ne (show (13 : Nat) ≠ 61 by decide)), wR_at, if_pos ⟨rfl, rfl⟩, eD]
  · show (wR (wR (nH (wI h (13, i) 0 z) (61, i)) (13, i) 1 (some (61, i))) (61, i) 0 (some (s, 0))).2.1 (dN i (0 + 1)) j = _
    rw [eD, wR_at, if_pos ⟨rfl, by omega⟩, show j = 0 by omega]
theorem grow_post {h : Hp} {i n N0 s : Nat} {D0 D1 : Ad} {z : Int32} (l : LsA h i n s) (h0 : 0 < n) (hN0 : n = N0) (eD : dN i n = D0) (eD' : dN i (n + 1) = D1) (hD : (D0 = (61, i) ∧ D1 = (62, i) ∧ n = 10) ∨ (D0 = (62, i) ∧ D1 = (63, i) ∧ n = 15)) : LsA (wI (wR (wR (wQ (nH (wI h (13, i) 0 z) D1) D1 (va_cpy ((wI h (13, i) 0 z).2.1 D0) (fun _ => none) 0 0 N0)) (13, i) 1 (some D1)) D1 N0 (some (s, n))) (13, i) 2 (nI (N0 + 1))) i (n + 1) s ∧ Fr (SK i [] 0) h (wI (wR (wR (wQ (nH (wI h (13, i) 0 z) D1) D1 (va_cpy ((wI h (13, i) 0 z).2.1 D0) (fun _ => none) 0 0 N0)) (13, i) 1 (some D1)) D1 N0 (some (s, n))) (13, i) 2 (nI (N0 + 1))) := by
  subst hN0
  have s13 : SK i [] 0 (13, i) := Or.inl ⟨rfl, rfl⟩
  have sD : SK i [] 0 D1 := by rcases hD with ⟨-, rfl, -⟩ | ⟨-, rfl, -⟩ <;> exact Or.inr (Or.inl ⟨Nat.le_of_ble_eq_true rfl, Nat.le_of_ble_eq_true rfl, rfl⟩)
  have nD : D1 ≠ (13, i) := by rcases hD with ⟨-, rfl, -⟩ | ⟨-, rfl, -⟩ <;> exact (fun z => absurd (congrArg Prod.fst z) (Nat.ne_of_beq_eq_false rfl))
  have hn : n = 10 ∨ n = 15 := by rcases hD with ⟨-, -, q⟩ | ⟨-, -, q⟩ <;> omega
  refine ⟨⟨wI_same _ _ _ _, ?_, fun j hj => ?_, fun q => absurd q (by omega), fun q => absurd q (by omega), fun q => ?_⟩, ((((((Fr.rf _ h).wI s13).nH sD).wQ sD).wR s13).wR sD).wI s13⟩
  · show (wR (wR _ (13, i) 1 (some D1)) D1 n (some (s, n))).2.1 (13, i) 1 = _
    rw [wR_off _ _ _ _ (13, i) (Ne.symm nD), wR_at, if_pos ⟨rfl, rfl⟩, eD']
  · show (wR (wR (wQ _ D1 _) (13, i) 1 (some D1)) D1 n (some (s, n))).2.1 (dN i (n + 1)) j = _
    rw [eD', wR_at]
    by_cases q : j = n
    · rw [if_pos ⟨rfl, q⟩, q]
    · rw [if_neg (fun y => q y.2), wR_off _ _ _ _ D1 nD, wQ_same]
      unfold va_cpy
      rw [if_pos ⟨Nat.zero_le _, by omega⟩, Nat.zero_add, Nat.sub_zero]
      have := l.2.2.1 j (by omega)
      rw [eD] at this
      exact this
  · have hne : D1 ≠ (63, i) := by rcases hD with ⟨-, rfl, -⟩ | ⟨-, -, q2⟩; exact (fun z => absurd (congrArg Prod.fst z) (Nat.ne_of_beq_eq_false rfl)); omega
    show (nH _ D1).2.2 (63, i) = false
    rw [nH_a _ _ (Ne.symm hne)]
    exact l.2.2.2.2.2 (by omega)
set_option maxRecDepth 4000 in
theorem lx_fill {E : En} (hok : EOK E) {h h0 : Hp} {a : Ad} {N : Nat} (hm : mt a = (20, N)) (hN : N < 1000) (v : Int32) {d : Nat} {Q : Option V → Hp → Prop} (hQ : Q none (wN h a 0 (fun _ => v) N)) : ∀ n i : Nat, i ≤ N → N - i = n → G E m_J7_fill_53178 d 0 0 Q h0 5 [some (vR a), some (vI v), some (vI (nI i)), some (vI (nI N))] [] (wN h a 0 (fun _ => v) i) 0 0 := by
  intro n
  induction n with
  | zero =>
    intro i h1 h2
    refine g_iload_n (pc' := 6) dJ7_fill_53178_5 rfl rfl ?_
    refine g_iload_n (pc' := 7) dJ7_fill_53178_6 rfl rfl ?_
    refine g_icmp_geN (tgt := 20) (pc' := 10) dJ7_fill_53178_7 rfl (by decide) (by omega) (by omega) (fun c7 => ?_) (fun c7 => ?_)
    · refine g_vret dJ7_fill_53178_20 rfl (by decide) (by decide) ?_
      have e : i = N := by omega
      subst e
      exact hQ
    · exact absurd c7 (by omega)
  | succ n ih =>
    intro i h1 h2
    refine g_iload_n (pc' := 6) dJ7_fill_53178_5 rfl rfl ?_
    refine g_iload_n (pc' := 7) dJ7_fill_53178_6 rfl rfl ?_
    refine g_icmp_geN (tgt := 20) (pc' := 10) dJ7_fill_53178_7 rfl (by decide) (by omega) (by omega) (fun c7 => ?_) (fun c7 => ?_)
    · exact absurd c7 (by omega)
    · refine g_aload_n (pc' := 11) dJ7_fill_53178_10 rfl rfl ?_
      refine g_iload_n (pc' := 12) dJ7_fill_53178_11 rfl rfl ?_
      refine g_iload_n (pc' := 13) dJ7_fill_53178_12 rfl rfl ?_
      refine g_iastN (pc' := 14) dJ7_fill_53178_13 rfl hm (by omega) (by omega) ?_
      refine g_iincN (k := 1) (pc' := 17) dJ7_fill_53178_14 rfl rfl (by decide) rfl ?_
      try simp only [List.set]
      refine g_goto (tgt := 5) dJ7_fill_53178_17 (by decide) ?_
      have q := ih (i + 1) (by omega) (by omega)
      rw [wN_0s] at q
      exact q
set_option maxRecDepth 4000 in
theorem cx_fill {E : En} (hok : EOK E) {h : Hp} {a : Ad} {N : Nat} (hm : mt a = (20, N)) (hN : N < 1000) (v : Int32) : Call E m_J7_fill_53178 0 0 0 [vR a, vI v] h (fun r h' => r = none ∧ wN h a 0 (fun _ => v) N = h') := by
  refine Call.enter hok (by decide) (Nat.le_of_ble_eq_true rfl) ?_
  show G E m_J7_fill_53178 0 0 0 _ h 0 [some (vR a), some (vI v), none, none] [] h 0 0
  refine g_iconstN (n := 0) (pc' := 1) dJ7_fill_53178_0 rfl ?_
  refine g_istore_n (pc' := 2) dJ7_fill_53178_1 rfl (by decide) rfl ?_
  try simp only [List.set]
  refine g_aload_n (pc' := 3) dJ7_fill_53178_2 rfl rfl ?_
  refine g_alen (pc' := 4) (v := nI N) dJ7_fill_53178_3 rfl hm (by omega) rfl ?_
  refine g_istore_n (pc' := 5) dJ7_fill_53178_4 rfl (by decide) rfl ?_
  try simp only [List.set]
  exact lx_fill hok hm hN v ⟨rfl, rfl⟩ _ 0 (Nat.zero_le _) rfl
def kiH (h : Hp) (k : Nat) (n a p z mk b : Int32) : Hp := wR (nH (wR (nH (wI (wI (wI (wI (wI (wI h (2, k) 0 n) (2, k) 1 a) (2, k) 2 p) (2, k) 3 z) (2, k) 4 mk) (2, k) 5 b) (24, k)) (2, k) 6 (some (24, k))) (25, k)) (2, k) 7 (some (25, k))
set_option maxRecDepth 4000 in
theorem cx_kindInit {E : En} (hok : EOK E) {h : Hp} {k : Nat} (hf1 : h.2.2 (24, k) = false) (hf2 : h.2.2 (25, k) = false) (n a p z mk b : Int32) : Call E m_X2_init 1 2 12 [vR (2, k), vI n, vI a, vI p, vI z, vI mk, vI b] h (fun r h' => r = none ∧ kiH h k n a p z mk b = h') := by
  refine Call.enter hok (by decide) (Nat.le_of_ble_eq_true rfl) ?_
  show G E m_X2_init 1 2 12 _ h 0 [some (vR (2, k)), some (vI n), some (vI a), some (vI p), some (vI z), some (vI mk), some (vI b)] [] h 0 0
  refine g_aload_n (pc' := 1) dX2_init_0 rfl rfl ?_
  refine g_objInit (pc' := 4) dX2_init_1 rfl ml_X2_3 oi_i oi_c (by omega) (Nat.le_of_ble_eq_true rfl) ?_
  refine g_aload_n (pc' := 5) dX2_init_4 rfl rfl ?_
  refine g_iload_n (pc' := 6) dX2_init_5 rfl rfl ?_
  refine g_putIF (pc' := 9) (k := 0) dX2_init_6 rfl rfl ck_3 (by decide) fl_X2_9 rfl rfl rfl rfl rfl rfl ?_
  refine g_aload_n (pc' := 10) dX2_init_9 rfl rfl ?_
  refine g_iload_n (pc' := 11) dX2_init_10 rfl rfl ?_
  refine g_putIF (pc' := 14) (k := 1) dX2_init_11 rfl rfl ck_3 (by decide) fl_X2_15 rfl rfl rfl rfl rfl rfl ?_
  refine g_aload_n (pc' := 15) dX2_init_14 rfl rfl ?_
  refine g_iload_n (pc' := 16) dX2_init_15 rfl rfl ?_
  refine g_putIF (pc' := 19) (k := 2) dX2_init_16 rfl rfl ck_3 (by decide) fl_X2_18 rfl rfl rfl rfl rfl rfl ?_
  refine g_aload_n (pc' := 20) dX2_init_19 rfl rfl ?_
  refine g_iload (pc' := 22) dX2_init_20 rfl rfl ?_
  refine g_putIF (pc' := 25) (k := 3) dX2_init_22 rfl rfl ck_3 (by decide) fl_X2_21 rfl rfl rfl rfl rfl rfl ?_
  refine g_aload_n (pc' := 26) dX2_init_25 rfl rfl ?_
  refine g_iload (pc' := 28) dX2_init_26 rfl rfl ?_
  refine g_putIF (pc' := 31) (k := 4) dX2_init_28 rfl rfl ck_3 (by decide) fl_X2_24 rfl rfl rfl rfl rfl rfl ?_
  refine g_aload_n (pc' := 32) dX2_init_31 rfl rfl ?_
  refine g_iload (pc' := 34) dX2_init_32 rfl rfl ?_
  refine g_putIF (pc' := 37) (k := 5) dX2_init_34 rfl rfl ck_3 (by decide) fl_X2_27 rfl rfl rfl rfl rfl rfl ?_
  refine g_aload_n (pc' := 38) dX2_init_37 rfl rfl ?_
  refine g_bipushN (n := 6) (pc' := 40) dX2_init_38 rfl (by decide) ?_
  refine g_newI (24, k) (hf1) (pc' := 42) dX2_init_40 rfl rfl (by decide) (by decide) (by decide) ?_
  refine g_putRF (pc' := 45) (k := 6) dX2_init_42 rfl rfl ck_3 (by decide) fl_X2_30 rfl rfl rfl rfl ?_
  refine g_aload_n (pc' := 46) dX2_init_45 rfl rfl ?_
  refine g_bipushN (n := 6) (pc' := 48) dX2_init_46 rfl (by decide) ?_
  refine g_newI (25, k) (hf2) (pc' := 50) dX2_init_48 rfl rfl (by decide) (by decide) (by decide) ?_
  refine g_putRF (pc' := 53) (k := 7) dX2_init_50 rfl rfl ck_3 (by decide) fl_X2_34 rfl rfl rfl rfl ?_
  refine g_vret dX2_init_53 rfl (by decide) (by decide) ?_
  exact ⟨rfl, rfl⟩
def faH (h : Hp) (f : Nat) (n a p z : Int32) : Hp := wN (wR (nH (wI (wI (wI (wI h (4, f) 0 n) (4, f) 1 a) (4, f) 2 p) (4, f) 3 z) (29, f)) (4, f) 4 (some (29, f))) (29, f) 0 (fun _ => -1) 8
def reH (h : Hp) (r : Nat) (n a p z : Int32) : Hp := wN (wR (nH (wI (wI (wI (wI h (5, r) 0 n) (5, r) 1 a) (5, r) 2 p) (5, r) 3 z) (30, r)) (5, r) 4 (some (30, r))) (30, r) 0 (fun _ => -1) 10
set_option maxRecDepth 4000 in
theorem cx_familyInit {E : En} (hok : EOK E) {h : Hp} {f : Nat} (hf1 : h.2.2 (29, f) = false) (n a p z : Int32) : Call E m_X1_init 1 1 8 [vR (4, f), vI n, vI a, vI p, vI z] h (fun r0 h' => r0 = none ∧ faH h f n a p z = h') := by
  refine Call.enter hok (by decide) (Nat.le_of_ble_eq_true rfl) ?_
  show G E m_X1_init 1 1 8 _ h 0 [some (vR (4, f)), some (vI n), some (vI a), some (vI p), some (vI z)] [] h 0 0
  refine g_aload_n (pc' := 1) dX1_init_0 rfl rfl ?_
  refine g_objInit (pc' := 4) dX1_init_1 rfl ml_X1_3 oi_i oi_c (by omega) (Nat.le_of_ble_eq_true rfl) ?_
  refine g_aload_n (pc' := 5) dX1_init_4 rfl rfl ?_
  refine g_iload_n (pc' := 6) dX1_init_5 rfl rfl ?_
  refine g_putIF (pc' := 9) (k := 0) dX1_init_6 rfl rfl ck_2 (by decide) fl_X1_9 rfl rfl rfl rfl rfl rfl ?_
  refine g_aload_n (pc' := 10) dX1_init_9 rfl rfl ?_
  refine g_iload_n (pc' := 11) dX1_init_10 rfl rfl ?_
  refine g_putIF (pc' := 14) (k := 1) dX1_init_11 rfl rfl ck_2 (by decide) fl_X1_15 rfl rfl rfl rfl rfl rfl ?_
  refine g_aload_n (pc' := 15) dX1_init_14 rfl rfl ?_
  refine g_iload_n (pc' := 16) dX1_init_15 rfl rfl ?_
  refine g_putIF (pc' := 19) (k := 2) dX1_init_16 rfl rfl ck_2 (by decide) fl_X1_18 rfl rfl rfl rfl rfl rfl ?_
  refine g_aload_n (pc' := 20) dX1_init_19 rfl rfl ?_
  refine g_iload (pc' := 22) dX1_init_20 rfl rfl ?_
  refine g_putIF (pc' := 25) (k := 3) dX1_init_22 rfl rfl ck_2 (by decide) fl_X1_21 rfl rfl rfl rfl rfl rfl ?_
  refine g_aload_n (pc' := 26) dX1_init_25 rfl rfl ?_
  refine g_bipushN (n := 8) (pc' := 28) dX1_init_26 rfl (by decide) ?_
  refine g_newI (29, f) (hf1) (pc' := 30) dX1_init_28 rfl rfl (by decide) (by decide) (by decide) ?_
  refine g_putRF (pc' := 33) (k := 4) dX1_init_30 rfl rfl ck_2 (by decide) fl_X1_24 rfl rfl rfl rfl ?_
  refine g_aload_n (pc' := 34) dX1_init_33 rfl rfl ?_
  refine g_getR (pc' := 37) (k := 4) (r := some (29, f)) dX1_init_34 rfl rfl ck_2 (by decide) fl_X1_24 rfl (by simp [wR_at]) ?_
  refine g_iconst (v := -1) (pc' := 38) dX1_init_37 rfl (by decide) ?_
  refine g_invS (pc' := 41) (cx_fill hok (a := (29, f)) rfl (by decide) _) dX1_init_38 rfl ml_X1_28 st_J7_fill_53178 in_J7 co_J7_fill_53178 pd_J7_fill_53178 rfl (by omega) (by decide) ⟨by decide, by decide⟩ (Nat.le_of_ble_eq_true rfl) ?_
  rintro _ _ ⟨rfl, rfl⟩ -
  refine g_vret dX1_init_41 rfl (by decide) (by decide) ?_
  exact ⟨rfl, rfl⟩
set_option maxRecDepth 4000 in
theorem cx_recallInit {E : En} (hok : EOK E) {h : Hp} {r : Nat} (hf1 : h.2.2 (30, r) = false) (n a p z : Int32) : Call E m_X4_init 1 1 10 [vR (5, r), vI n, vI a, vI p, vI z] h (fun r0 h' => r0 = none ∧ reH h r n a p z = h') := by
  refine Call.enter hok (by decide) (Nat.le_of_ble_eq_true rfl) ?_
  show G E m_X4_init 1 1 10 _ h 0 [some (vR (5, r)), some (vI n), some (vI a), some (vI p), some (vI z)] [] h 0 0
  refine g_aload_n (pc' := 1) dX4_init_0 rfl rfl ?_
  refine g_objInit (pc' := 4) dX4_init_1 rfl ml_X4_3 oi_i oi_c (by omega) (Nat.le_of_ble_eq_true rfl) ?_
  refine g_aload_n (pc' := 5) dX4_init_4 rfl rfl ?_
  refine g_iload_n (pc' := 6) dX4_init_5 rfl rfl ?_
  refine g_putIF (pc' := 9) (k := 0) dX4_init_6 rfl rfl ck_5 (by decide) fl_X4_9 rfl rfl rfl rfl rfl rfl ?_
  refine g_aload_n (pc' := 10) dX4_init_9 rfl rfl ?_
  refine g_iload_n (pc' := 11) dX4_init_10 rfl rfl ?_
  refine g_putIF (pc' := 14) (k := 1) dX4_init_11 rfl rfl ck_5 (by decide) fl_X4_15 rfl rfl rfl rfl rfl rfl ?_
  refine g_aload_n (pc' := 15) dX4_init_14 rfl rfl ?_
  refine g_iload_n (pc' := 16) dX4_init_15 rfl rfl ?_
  refine g_putIF (pc' := 19) (k := 2) dX4_init_16 rfl rfl ck_5 (by decide) fl_X4_18 rfl rfl rfl rfl rfl rfl ?_
  refine g_aload_n (pc' := 20) dX4_init_19 rfl rfl ?_
  refine g_iload (pc' := 22) dX4_init_20 rfl rfl ?_
  refine g_putIF (pc' := 25) (k := 3) dX4_init_22 rfl rfl ck_5 (by decide) fl_X4_21 rfl rfl rfl rfl rfl rfl ?_
  refine g_aload_n (pc' := 26) dX4_init_25 rfl rfl ?_
  refine g_bipushN (n := 10) (pc' := 28) dX4_init_26 rfl (by decide) ?_
  refine g_newI (30, r) (hf1) (pc' := 30) dX4_init_28 rfl rfl (by decide) (by decide) (by decide) ?_
  refine g_putRF (pc' := 33) (k := 4) dX4_init_30 rfl rfl ck_5 (by decide) fl_X4_24 rfl rfl rfl rfl ?_
  refine g_aload_n (pc' := 34) dX4_init_33 rfl rfl ?_
  refine g_getR (pc' := 37) (k := 4) (r := some (30, r)) dX4_init_34 rfl rfl ck_5 (by decide) fl_X4_24 rfl (by simp [wR_at]) ?_
  refine g_iconst (v := -1) (pc' := 38) dX4_init_37 rfl (by decide) ?_
  refine g_invS (pc' := 41) (cx_fill hok (a := (30, r)) rfl (by decide) _) dX4_init_38 rfl ml_X4_28 st_J7_fill_53178 in_J7 co_J7_fill_53178 pd_J7_fill_53178 rfl (by omega) (by decide) ⟨by decide, by decide⟩ (Nat.le_of_ble_eq_true rfl) ?_
  rintro _ _ ⟨rfl, rfl⟩ -
  refine g_vret dX4_init_41 rfl (by decide) (by decide) ?_
  exact ⟨rfl, rfl⟩
def tyH (h : Hp) (t k : Nat) (n b y : Int32) : Hp := wI (wI (wI (wI (wR (nH (wR (nH (wR (wF (nH (wI (wR (wI h (3, t) 0 n) (3, t) 1 (some (2, k))) (3, t) 2 b) (26, t)) (26, t) (h.1 (24, k))) (3, t) 3 (some (26, t))) (27, t)) (3, t) 4 (some (27, t))) (28, t)) (3, t) 5 (some (28, t))) (3, t) 7 0) (3, t) 8 (-1)) (3, t) 9 (-1)) (3, t) 11 y
section GCA
variable {E : En} {y : Mt} {d mc ms : Nat} {Q : Option V → Hp → Prop} {h0 : Hp} {pc pc' : Nat} {L : List (Option V)} {st : List V} {h : Hp} {cu su : Nat}
theorem g_castI {n N : Nat} {a : Ad} (hd : decode y.2.1 pc = .ok (.checkcast n, 3)) (hp : pc + 3 = pc') (hm : mt a = (20, N)) (w1 : Cond.classLink y.1.cls n "[I" ∈ tw) (K : G E y d mc ms Q h0 pc' L (vR a :: st) h cu su) : G E y d mc ms Q h0 pc L (vR a :: st) h cu su := by
  subst hp
  intro p e s m args below meth c adr0 adr H locs ls CC hE hS hW ho hoL hl
  obtain ⟨hx, hb, hml, hr, hlk', hown, hnm, hts, hK, hN, hX, hbs, hok⟩ := id CC
  obtain ⟨⟨nl, hn, hP, hD⟩, hcl⟩ := id hS
  have ha : h.2.2 a = true := okS_hd ho a rfl
  obtain ⟨k0, hk0, hw⟩ := Sm.at (E := E) (adr := adr) hn ha (by rw [hm]; show 20 < 25; omega)
  rw [cE_A hm (by decide) (by decide)] at hw
  have hnmI : s.vm.findClass "[I" = some (E.2.2.2.1 20) := by
    have q := (hK.2 0 (E.2.2.2.1 20, .int) rfl).2
    have z : ("[" ++ FieldType.int.toString) = "[I" := by decide
    unfold va_RA at q
    simp only at q
    rw [z] at q
    exact q
  exact va_castA hx hb hown (hts _ w1) hP k0 hw hnmI hd (K p e s m args below meth c adr0 adr H locs ls CC hE hS hW ho hoL hl)
end GCA
set_option maxRecDepth 4000 in
theorem cx_toyInit {E : En} (hok : EOK E) {h : Hp} {t k : Nat} (h6 : h.2.1 (2, k) 6 = some (24, k)) (hf1 : h.2.2 (26, t) = false) (hf2 : h.2.2 (27, t) = false) (hf3 : h.2.2 (28, t) = false) (n b y : Int32) : Call E m_X8_init 1 3 46 [vR (3, t), vI n, vR (2, k), vI b, vI y] h (fun r h' => r = none ∧ tyH h t k n b y = h') := by
  refine Call.enter hok (by decide) (Nat.le_of_ble_eq_true rfl) ?_
  show G E m_X8_init 1 3 46 _ h 0 [some (vR (3, t)), some (vI n), some (vR (2, k)), some (vI b), some (vI y)] [] h 0 0
  refine g_aload_n (pc' := 1) dX8_init_0 rfl rfl ?_
  refine g_objInit (pc' := 4) dX8_init_1 rfl ml_X8_3 oi_i oi_c (by omega) (Nat.le_of_ble_eq_true rfl) ?_
  refine g_aload_n (pc' := 5) dX8_init_4 rfl rfl ?_
  refine g_iload_n (pc' := 6) dX8_init_5 rfl rfl ?_
  refine g_putIF (pc' := 9) (k := 0) dX8_init_6 rfl rfl ck_9 (by decide) fl_X8_9 rfl rfl rfl rfl rfl rfl ?_
  refine g_aload_n (pc' := 10) dX8_init_9 rfl rfl ?_
  refine g_aload_n (pc' := 11) dX8_init_10 rfl rfl ?_
  refine g_putRF (pc' := 14) (k := 1) dX8_init_11 rfl rfl ck_9 (by decide) fl_X8_15 rfl rfl rfl rfl ?_
  refine g_aload_n (pc' := 15) dX8_init_14 rfl rfl ?_
  refine g_iload_n (pc' := 16) dX8_init_15 rfl rfl ?_
  refine g_putIF (pc' := 19) (k := 2) dX8_init_16 rfl rfl ck_9 (by decide) fl_X8_19 rfl rfl rfl rfl rfl rfl ?_
  refine g_aload_n (pc' := 20) dX8_init_19 rfl rfl ?_
  refine g_aload_n (pc' := 21) dX8_init_20 rfl rfl ?_
  refine g_getR (pc' := 24) (k := 6) (r := some (24, k)) dX8_init_21 rfl rfl ck_3 (by decide) fl_X8_22 rfl (h6) ?_
  refine g_clone (26, t) (hf1) (pc' := 27) dX8_init_24 rfl rfl rfl ml_X8_28 (by omega) (Nat.le_of_ble_eq_true rfl) (by decide) (by decide) ?_
  refine g_castI (pc' := 30) dX8_init_27 rfl rfl cl_X8_29 ?_
  refine g_putRF (pc' := 33) (k := 3) dX8_init_30 rfl rfl ck_9 (by decide) fl_X8_33 rfl rfl rfl rfl ?_
  refine g_aload_n (pc' := 34) dX8_init_33 rfl rfl ?_
  refine g_bipushN (n := 20) (pc' := 36) dX8_init_34 rfl (by decide) ?_
  refine g_newI (27, t) (hf2) (pc' := 38) dX8_init_36 rfl rfl (by decide) (by decide) (by decide) ?_
  refine g_putRF (pc' := 41) (k := 4) dX8_init_38 rfl rfl ck_9 (by decide) fl_X8_36 rfl rfl rfl rfl ?_
  refine g_aload_n (pc' := 42) dX8_init_41 rfl rfl ?_
  refine g_bipushN (n := 20) (pc' := 44) dX8_init_42 rfl (by decide) ?_
  refine g_newI (28, t) (hf3) (pc' := 46) dX8_init_44 rfl rfl (by decide) (by decide) (by decide) ?_
  refine g_putRF (pc' := 49) (k := 5) dX8_init_46 rfl rfl ck_9 (by decide) fl_X8_39 rfl rfl rfl rfl ?_
  refine g_aload_n (pc' := 50) dX8_init_49 rfl rfl ?_
  refine g_iconstN (n := 0) (pc' := 51) dX8_init_50 rfl ?_
  refine g_putI (pc' := 54) (k := 7) dX8_init_51 rfl rfl ck_9 (by decide) fl_X8_42 rfl rfl rfl rfl ?_
  refine g_aload_n (pc' := 55) dX8_init_54 rfl rfl ?_
  refine g_iconst (v := -1) (pc' := 56) dX8_init_55 rfl (by decide) ?_
  refine g_putI (pc' := 59) (k := 8) dX8_init_56 rfl rfl ck_9 (by decide) fl_X8_45 rfl rfl rfl rfl ?_
  refine g_aload_n (pc' := 60) dX8_init_59 rfl rfl ?_
  refine g_iconst (v := -1) (pc' := 61) dX8_init_60 rfl (by decide) ?_
  refine g_putI (pc' := 64) (k := 9) dX8_init_61 rfl rfl ck_9 (by decide) fl_X8_48 rfl rfl rfl rfl ?_
  refine g_aload_n (pc' := 65) dX8_init_64 rfl rfl ?_
  refine g_iload (pc' := 67) dX8_init_65 rfl rfl ?_
  refine g_putI (pc' := 70) (k := 11) dX8_init_67 rfl rfl ck_9 (by decide) fl_X8_51 rfl rfl rfl rfl ?_
  refine g_vret dX8_init_70 rfl (by decide) (by decide) ?_
  exact ⟨rfl, rfl⟩
