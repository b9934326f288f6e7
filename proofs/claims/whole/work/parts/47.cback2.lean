theorem wN_at (h : Hp) (a : Ad) (b : Nat) (f : Nat → Int32) {j : Nat} : ∀ n, j < n → (wN h a b f n).1 a (b + j) = f j
  | 0, q => absurd q (Nat.not_lt_zero j)
  | n + 1, q => by
    show (wI (wN h a b f n) a (b + n) (f n)).1 a (b + j) = f j
    rw [wI_at]
    by_cases e : j = n
    · rw [if_pos ⟨rfl, by rw [e]⟩, e]
    · rw [if_neg (fun z => e (by omega)), wN_at h a b f n (by omega)]
theorem stN_s (m : St) (s b : Nat) (f : Nat → Int32) {s' : Nat} (hs : s' ≠ s) : ∀ n, stN m s b f n s' = m s'
  | 0 => rfl
  | n + 1 => by
    show stU (stN m s b f n) s (b + n) (f n) s' = m s'
    unfold stU
    rw [if_neg hs, stN_s m s b f hs n]
theorem stN_at (m : St) (s b : Nat) (f : Nat → Int32) {j : Nat} : ∀ n, j < n → stN m s b f n s (b + j) = f j
  | 0, q => absurd q (Nat.not_lt_zero j)
  | n + 1, q => by
    show stU (stN m s b f n) s (b + n) (f n) s (b + j) = f j
    rw [stU_at]
    by_cases e : j = n
    · rw [if_pos ⟨rfl, by rw [e]⟩, e]
    · rw [if_neg (fun z => e (by omega)), stN_at m s b f n (by omega)]
theorem stN_out (m : St) (s b : Nat) (f : Nat → Int32) {i : Nat} : ∀ n, i < b ∨ b + n ≤ i → stN m s b f n s i = m s i
  | 0, _ => rfl
  | n + 1, q => by
    show stU (stN m s b f n) s (b + n) (f n) s i = m s i
    rw [stU_at, if_neg (fun z => by omega), stN_out m s b f n (by omega)]
/-- a toy came back: its pieces and its wear -/
noncomputable def cmS (m : St) (t : Nat) : St := stU (stN m 125 (6 * t) (fun s => m 100 s &&& nI 255) 6) 117 t (m 117 t + bkW m t)
theorem C6_come {m : St} {h : Hp} (c : C6 m h) {t : Nat} (w : ¬ m 118 t = 0) : C6 (cmS m t) (cbH m h t) := by
  have e26 : ∀ u, u ≠ t → (cbH m h t).1 (26, u) = h.1 (26, u) := fun u hu => by
    unfold cbH
    rw [wI_off _ _ _ _ (26, u) (ad_ne (show (26 : Nat) ≠ 3 by decide)), wI_off _ _ _ _ (26, u) (ad_ne (show (26 : Nat) ≠ 3 by decide)), wN_off _ _ _ _ (fun z => hu (congrArg Prod.snd z))]
  have e3 : ∀ u j, (cbH m h t).1 (3, u) j = if u = t ∧ j = 11 then m 1 2 else if u = t ∧ j = 12 then m 117 t + bkW m t else h.1 (3, u) j := fun u j => by
    unfold cbH
    rw [wI_at, wI_at, wN_off _ _ _ _ (ad_ne (show (3 : Nat) ≠ 26 by decide))]
    simp
  have e2 : (cbH m h t).2 = h.2 := wN_2 h (26, t) 0 (fun s => m 100 s &&& nI 255) 6
  have e13 : ∀ i, (cbH m h t).1 (13, i) = h.1 (13, i) := fun i => by
    unfold cbH
    rw [wI_off _ _ _ _ (13, i) (ad_ne (show (13 : Nat) ≠ 3 by decide)), wI_off _ _ _ _ (13, i) (ad_ne (show (13 : Nat) ≠ 3 by decide)), wN_off _ _ _ _ (ad_ne (show (13 : Nat) ≠ 26 by decide))]
  have ms : ∀ s, s ≠ 125 → s ≠ 117 → cmS m t s = m s := fun s a b => by
    unfold cmS stU
    rw [if_neg b, stN_s _ _ _ _ a]
  have m117 : ∀ u, cmS m t 117 u = if u = t then m 117 t + bkW m t else m 117 u := fun u => by
    unfold cmS
    rw [stU_at, stN_s _ _ _ _ (by decide)]
    simp
  have hT : nT (cmS m t) = nT m := by unfold nT; rw [ms 1 (by decide) (by decide)]
  have hk : ∀ u, kd (cmS m t) u = kd m u := fun u => by unfold kd; rw [ms 115 (by decide) (by decide)]
  refine ⟨?_, fun u hu => ?_, fun u hu => ?_⟩
  · have q := c.1
    unfold Ls at *
    rw [hT, e13, e2]
    exact q
  · rw [hT] at hu
    have a := c.2.1 u hu
    refine ⟨by rw [e2, hk]; exact a.1, ?_, fun j hj => ?_⟩
    · have q := a.2.1
      simp only [e3, m117, ms 116 (by decide) (by decide), ms 118 (by decide) (by decide), ms 119 (by decide) (by decide), ms 120 (by decide) (by decide), ms 121 (by decide) (by decide), ms 122 (by decide) (by decide), ms 123 (by decide) (by decide), ms 124 (by decide) (by decide)]
      by_cases e : u = t
      · subst e
        simp
        exact ⟨q.1, q.2.1, q.2.2.1, q.2.2.2.1, q.2.2.2.2.1, q.2.2.2.2.2.1, fun z => absurd z w, q.2.2.2.2.2.2.2.2⟩
      · simp [e]
        exact q
    · by_cases e : u = t
      · subst e
        have e1 : (cbH m h u).1 (26, u) j = m 100 j &&& nI 255 := by
          unfold cbH
          rw [wI_off _ _ _ _ (26, u) (ad_ne (show (26 : Nat) ≠ 3 by decide)), wI_off _ _ _ _ (26, u) (ad_ne (show (26 : Nat) ≠ 3 by decide))]
          have q := wN_at h (26, u) 0 (fun s => m 100 s &&& nI 255) 6 hj
          rw [Nat.zero_add] at q
          exact q
        rw [e1]
        show _ = stU _ 117 u _ 125 (6 * u + j)
        rw [stU_at, if_neg (fun z => absurd z.1 (by decide))]
        exact (stN_at m 125 (6 * u) (fun s => m 100 s &&& nI 255) 6 hj).symm
      · rw [e26 u e, a.2.2 j hj]
        show _ = stU _ 117 t _ 125 (6 * u + j)
        rw [stU_at, if_neg (fun z => absurd z.1 (by decide))]
        exact (stN_out m 125 (6 * t) _ 6 (by omega)).symm
  · rw [hT] at hu
    rw [e2]
    exact c.2.2 u hu
theorem Cp.come {m : St} {h : Hp} (hc : Cp m h) {t : Nat} (w : ¬ m 118 t = 0) : Cp (cmS m t) (cbH m h t) := by
  have e1 : ∀ s, s ≠ 3 → s ≠ 26 → ∀ i, (cbH m h t).1 (s, i) = h.1 (s, i) := fun s a b i => by
    unfold cbH
    rw [wI_off _ _ _ _ (s, i) (ad_ne a), wI_off _ _ _ _ (s, i) (ad_ne a), wN_off _ _ _ _ (ad_ne b)]
  have e2 : (cbH m h t).2 = h.2 := wN_2 h (26, t) 0 (fun s => m 100 s &&& nI 255) 6
  have ms : ∀ s, s ≠ 125 → s ≠ 117 → cmS m t s = m s := fun s a b => by
    unfold cmS stU
    rw [if_neg b, stN_s _ _ _ _ a]
  have m1 := ms 1 (by decide) (by decide)
  have e36 : ∀ i, (cbH m h t).1 (3, i) 6 = h.1 (3, i) 6 := fun i => by
    unfold cbH
    rw [wI_j (by decide), wI_j (by decide), wN_off _ _ _ _ (ad_ne (show (3 : Nat) ≠ 26 by decide))]
  have f0 := e1 0 (by decide) (by decide) 0
  refine Cp.upd hc e2 ?_ ?_ (C6_come hc.c6 w) (hc.c7.same e36 (e1 27 (by decide) (by decide)) (e1 28 (by decide) (by decide)) (ms 167 (by decide) (by decide)) (ms 168 (by decide) (by decide)) (ms 169 (by decide) (by decide)) (by unfold nT; rw [m1]) (by unfold nGf; rw [m1])) (hc.c8.same e2 (fun i j _ => by rw [e1 4 (by decide) (by decide)]) (e1 13 (by decide) (by decide)) (e1 29 (by decide) (by decide)) (ms 126 (by decide) (by decide)) (ms 127 (by decide) (by decide)) (ms 128 (by decide) (by decide)) (ms 129 (by decide) (by decide)) (ms 186 (by decide) (by decide)) (by unfold nF; rw [m1])) (hc.c10.same (e1 8 (by decide) (by decide)) (by rw [m1]) (by rw [m1]) (e1 31 (by decide) (by decide)) (e1 32 (by decide) (by decide)) (e1 33 (by decide) (by decide)) (e1 34 (by decide) (by decide)) (ms 172 (by decide) (by decide)) (ms 173 (by decide) (by decide)) (ms 174 (by decide) (by decide)) (ms 175 (by decide) (by decide)) (by unfold nA; rw [m1])) (hc.c11.same (ms 176 (by decide) (by decide)) (ms 177 (by decide) (by decide)) (ms 178 (by decide) (by decide)) (ms 179 (by decide) (by decide)) (by unfold nF; rw [m1]) (by unfold nA; rw [m1]) (fun f => by rw [e1 4 (by decide) (by decide)]) (e1 23 (by decide) (by decide) 0)) ?_ (e1 21 (by decide) (by decide)) (e1 22 (by decide) (by decide)) (e1 13 (by decide) (by decide)) (e1 2 (by decide) (by decide)) (e1 24 (by decide) (by decide)) (e1 25 (by decide) (by decide)) (e1 5 (by decide) (by decide)) (e1 30 (by decide) (by decide)) (e1 6 (by decide) (by decide)) (e1 35 (by decide) (by decide)) (e1 36 (by decide) (by decide)) (e1 37 (by decide) (by decide)) (e1 38 (by decide) (by decide)) (e1 39 (by decide) (by decide)) (e1 40 (by decide) (by decide)) (ms 191 (by decide) (by decide)) (ms 187 (by decide) (by decide)) (ms 108 (by decide) (by decide)) (ms 109 (by decide) (by decide)) (ms 110 (by decide) (by decide)) (ms 111 (by decide) (by decide)) (ms 112 (by decide) (by decide)) (ms 113 (by decide) (by decide)) (ms 114 (by decide) (by decide)) (ms 161 (by decide) (by decide)) (ms 162 (by decide) (by decide)) (ms 163 (by decide) (by decide)) (ms 164 (by decide) (by decide)) (ms 165 (by decide) (by decide)) (ms 166 (by decide) (by decide)) (ms 131 (by decide) (by decide)) (ms 132 (by decide) (by decide)) (ms 133 (by decide) (by decide)) (ms 134 (by decide) (by decide)) (ms 135 (by decide) (by decide)) (ms 136 (by decide) (by decide)) (by rw [m1]) (by rw [m1]) (by rw [m1])
  · have q := hc.c1
    unfold C1 at *
    rw [f0, m1]
    exact q
  · have q := hc.c2
    unfold C2 at *
    rw [e1 20 (by decide) (by decide) 0, ms 100 (by decide) (by decide)]
    exact q
  · have q := hc.c13
    unfold C13 at *
    rw [e2, e1 46 (by decide) (by decide) 0, e1 47 (by decide) (by decide) 0, e1 48 (by decide) (by decide) 0, e1 58 (by decide) (by decide) 0]
    exact q
/-- numbers in their bounds stay there -/
theorem and255 (x : Int32) : 0 ≤ x &&& nI 255 := by
  rw [Int32.le_iff_toInt_le]
  show (0 : Int) ≤ (x &&& nI 255).toInt
  have e : (x &&& nI 255).toBitVec = x.toBitVec &&& 255#32 := rfl
  have : (x &&& nI 255).toBitVec.toNat < 2 ^ 31 := by
    rw [e, BitVec.toNat_and]
    have := @Nat.and_le_right x.toBitVec.toNat (255#32).toNat
    have h2 : (255#32 : BitVec 32).toNat = 255 := rfl
    omega
  show (0 : Int) ≤ (x &&& nI 255).toBitVec.toInt
  rw [BitVec.toInt_eq_toNat_of_lt (by omega)]
  omega
theorem Wx_cm {m : St} (hx : Wx m) (hw : Wf m) {t : Nat} (ht : t < nT m) (q : bkOK m t) : Wx (cmS m t) := by
  have ms : ∀ s, s ≠ 125 → s ≠ 117 → cmS m t s = m s := fun s a b => by
    unfold cmS stU
    rw [if_neg b, stN_s _ _ _ _ a]
  have m1 := ms 1 (by decide) (by decide)
  have eT : nT (cmS m t) = nT m := by unfold nT; rw [m1]
  have eF : nF (cmS m t) = nF m := by unfold nF; rw [m1]
  have eK : nK (cmS m t) = nK m := by unfold nK; rw [m1]
  have eR : nR (cmS m t) = nR m := by unfold nR; rw [m1]
  have eG : nGf (cmS m t) = nGf m := by unfold nGf; rw [m1]
  have eA : nA (cmS m t) = nA m := by unfold nA; rw [m1]
  have ek : ∀ u, kd (cmS m t) u = kd m u := fun u => by unfold kd; rw [ms 115 (by decide) (by decide)]
  unfold Wx
  simp only [eT, eF, eK, eR, eG, eA, ek, m1, ms 168 (by decide) (by decide), ms 118 (by decide) (by decide), ms 119 (by decide) (by decide), ms 123 (by decide) (by decide), ms 186 (by decide) (by decide), ms 178 (by decide) (by decide), ms 176 (by decide) (by decide), ms 113 (by decide) (by decide), ms 114 (by decide) (by decide), ms 191 (by decide) (by decide), ms 109 (by decide) (by decide), ms 120 (by decide) (by decide), ms 121 (by decide) (by decide), ms 122 (by decide) (by decide), ms 124 (by decide) (by decide), ms 129 (by decide) (by decide), ms 166 (by decide) (by decide), ms 177 (by decide) (by decide)]
  refine ⟨hx.gf, hx.ho, hx.ca, hx.si, hx.ac, hx.pc, fun u s hu hs => ?_, hx.mi, hx.pr, hx.bg, hx.le, hx.du, hx.zk, fun u hu => ?_, hx.zf, hx.zr, hx.wh, hx.fi, trivial⟩
  · have e : cmS m t 125 (6 * u + s) = if u = t then m 100 s &&& nI 255 else m 125 (6 * u + s) := by
      show stU _ 117 t _ 125 (6 * u + s) = _
      rw [stU_at, if_neg (fun z => absurd z.1 (by decide))]
      by_cases e : u = t
      · subst e
        rw [if_pos rfl]
        exact stN_at m 125 (6 * u) (fun s => m 100 s &&& nI 255) 6 hs
      · rw [if_neg e]
        exact stN_out m 125 (6 * t) _ 6 (by omega)
    rw [e]
    by_cases z : u = t
    · subst z
      rw [if_pos rfl]
      exact ⟨and255 _, Int32.le_trans (q s hs) (hx.ha u s hu hs).2⟩
    · rw [if_neg z]
      exact hx.ha u s hu hs
  · have e : cmS m t 117 u = m 117 u := by
      show stU _ 117 t _ 117 u = _
      rw [stU_at, if_neg (fun z => by omega), stN_s _ _ _ _ (by decide)]
    rw [e]
    exact hx.zt u hu
theorem late_eq {m : St} (hx : Wx m) (hw : Wf m) {t : Nat} (ht : t < nT m) : (if nI 0 < m 1 2 - m 120 t then m 1 2 - m 120 t else nI 0) = bkL m t := by
  have d := hx.du t ht
  have iff : nI 0 < m 1 2 - m 120 t ↔ ¬ m 1 2 ≤ m 120 t := by
    rw [hw.w.1]
    have hW := hw.w.2
    simp only [Int32.lt_iff_toInt_lt, Int32.le_iff_toInt_le] at *
    have a : (-1 : Int) ≤ (m 120 t).toInt := d.1
    have b : (m 120 t).toInt ≤ (899 : Int) := d.2
    have c : (nI (nW m) - m 120 t).toInt = (nW m : Int) - (m 120 t).toInt := by
      rw [Int32.toInt_sub, nI_toInt (by omega)]
      exact Int.bmod_eq_of_le (by omega) (by omega)
    have e0 : (nI 0).toInt = 0 := rfl
    have eW : (nI (nW m)).toInt = (nW m : Int) := nI_toInt (by omega)
    rw [c, e0, eW]
    omega
  unfold bkL
  by_cases q : m 1 2 ≤ m 120 t
  · rw [cif_t q, if_neg (fun z => iff.mp z q)]
  · rw [cif_f q, if_pos (iff.mpr q)]
