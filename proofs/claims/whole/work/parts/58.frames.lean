theorem Fr.s {h h' : Hp} {i nn : Nat} {ss : List Nat} (fr : Fr (SK i ss nn) h h') (s : Nat) (h1 : s ∉ ss) (h2 : s ≠ 13) (h3 : s < 61) (j : Nat) : h'.1 (s, j) = h.1 (s, j) ∧ h'.2.1 (s, j) = h.2.1 (s, j) ∧ h'.2.2 (s, j) = h.2.2 (s, j) := fr (s, j) (nS (Or.inl h2) (Or.inl h3) (Or.inl h1))
theorem C5.fr {m m' : St} {h h' : Hp} {i nn : Nat} {ss : List Nat} (c : C5 m h) (fr : Fr (SK i ss nn) h h') (hi : 0 ≠ i) (n2 : 2 ∉ ss) (n24 : 24 ∉ ss) (n25 : 25 ∉ ss) (ha : ∀ q ∈ ss, q < 61 ∧ q ≠ 13) (m108 : m' 108 = m 108) (m109 : m' 109 = m 109) (m110 : m' 110 = m 110) (m111 : m' 111 = m 111) (m112 : m' 112 = m 112) (m113 : m' 113 = m 113) (m114 : m' 114 = m 114) (cn : nK m' = nK m) : C5 m' h' := by
  have e2 : ∀ k, h'.1 (2, k) = h.1 (2, k) := fun k => (fr.s 2 n2 (by decide) (by decide) k).1
  have e24 : ∀ k, h'.1 (24, k) = h.1 (24, k) := fun k => (fr.s 24 n24 (by decide) (by decide) k).1
  have e25 : ∀ k, h'.1 (25, k) = h.1 (25, k) := fun k => (fr.s 25 n25 (by decide) (by decide) k).1
  have a24 : ∀ k, h'.2.2 (24, k) = h.2.2 (24, k) := fun k => (fr.s 24 n24 (by decide) (by decide) k).2.2
  have a25 : ∀ k, h'.2.2 (25, k) = h.2.2 (25, k) := fun k => (fr.s 25 n25 (by decide) (by decide) k).2.2
  refine ⟨by rw [cn]; exact c.1.fr fr hi n2 (by decide) ha, fun k hk => ?_, fun k hk => ?_⟩
  · rw [cn] at hk
    have a := c.2.1 k hk
    simp only [e2, e24, e25, m108, m109, m110, m111, m112, m113, m114]
    exact a
  · rw [cn] at hk
    simp only [a24, a25]
    exact c.2.2 k hk
theorem C6.fr {m m' : St} {h h' : Hp} {i nn : Nat} {ss : List Nat} (c : C6 m h) (fr : Fr (SK i ss nn) h h') (hi : 1 ≠ i) (n3 : 3 ∉ ss) (n26 : 26 ∉ ss) (n27 : 27 ∉ ss) (n28 : 28 ∉ ss) (ha : ∀ q ∈ ss, q < 61 ∧ q ≠ 13) (m115 : m' 115 = m 115) (m116 : m' 116 = m 116) (m117 : m' 117 = m 117) (m118 : m' 118 = m 118) (m119 : m' 119 = m 119) (m120 : m' 120 = m 120) (m121 : m' 121 = m 121) (m122 : m' 122 = m 122) (m123 : m' 123 = m 123) (m124 : m' 124 = m 124) (m125 : m' 125 = m 125) (cn : nT m' = nT m) : C6 m' h' := by
  have e3 : ∀ k, h'.1 (3, k) = h.1 (3, k) := fun k => (fr.s 3 n3 (by decide) (by decide) k).1
  have e26 : ∀ k, h'.1 (26, k) = h.1 (26, k) := fun k => (fr.s 26 n26 (by decide) (by decide) k).1
  have e27 : ∀ k, h'.1 (27, k) = h.1 (27, k) := fun k => (fr.s 27 n27 (by decide) (by decide) k).1
  have e28 : ∀ k, h'.1 (28, k) = h.1 (28, k) := fun k => (fr.s 28 n28 (by decide) (by decide) k).1
  have a26 : ∀ k, h'.2.2 (26, k) = h.2.2 (26, k) := fun k => (fr.s 26 n26 (by decide) (by decide) k).2.2
  have a27 : ∀ k, h'.2.2 (27, k) = h.2.2 (27, k) := fun k => (fr.s 27 n27 (by decide) (by decide) k).2.2
  have a28 : ∀ k, h'.2.2 (28, k) = h.2.2 (28, k) := fun k => (fr.s 28 n28 (by decide) (by decide) k).2.2
  have r3 : ∀ k, h'.2.1 (3, k) = h.2.1 (3, k) := fun k => (fr.s 3 n3 (by decide) (by decide) k).2.1
  have ek : ∀ t, kd m' t = kd m t := fun t => by unfold kd; rw [m115]
  refine ⟨by rw [cn]; exact c.1.fr fr hi n3 (by decide) ha, fun k hk => ?_, fun k hk => ?_⟩
  · rw [cn] at hk
    have a := c.2.1 k hk
    simp only [e3, e26, e27, e28, r3, m115, m116, m117, m118, m119, m120, m121, m122, m123, m124, m125, ek]
    exact a
  · rw [cn] at hk
    simp only [a26, a27, a28]
    exact c.2.2 k hk
theorem C8.fr {m m' : St} {h h' : Hp} {i nn : Nat} {ss : List Nat} (c : C8 m h) (fr : Fr (SK i ss nn) h h') (hi : 2 ≠ i) (n4 : 4 ∉ ss) (n29 : 29 ∉ ss) (ha : ∀ q ∈ ss, q < 61 ∧ q ≠ 13) (m126 : m' 126 = m 126) (m127 : m' 127 = m 127) (m128 : m' 128 = m 128) (m129 : m' 129 = m 129) (m186 : m' 186 = m 186) (cn : nF m' = nF m) : C8 m' h' := by
  have e4 : ∀ k, h'.1 (4, k) = h.1 (4, k) := fun k => (fr.s 4 n4 (by decide) (by decide) k).1
  have e29 : ∀ k, h'.1 (29, k) = h.1 (29, k) := fun k => (fr.s 29 n29 (by decide) (by decide) k).1
  have a29 : ∀ k, h'.2.2 (29, k) = h.2.2 (29, k) := fun k => (fr.s 29 n29 (by decide) (by decide) k).2.2
  refine ⟨by rw [cn]; exact c.1.fr fr hi n4 (by decide) ha, fun k hk => ?_, fun k hk => ?_⟩
  · rw [cn] at hk
    have a := c.2.1 k hk
    simp only [e4, e29, m126, m127, m128, m129, m186]
    exact a
  · rw [cn] at hk
    simp only [a29]
    exact c.2.2 k hk
theorem C9.fr {m m' : St} {h h' : Hp} {i nn : Nat} {ss : List Nat} (c : C9 m h) (fr : Fr (SK i ss nn) h h') (hi : 3 ≠ i) (n5 : 5 ∉ ss) (n30 : 30 ∉ ss) (ha : ∀ q ∈ ss, q < 61 ∧ q ≠ 13) (m161 : m' 161 = m 161) (m162 : m' 162 = m 162) (m163 : m' 163 = m 163) (m164 : m' 164 = m 164) (m165 : m' 165 = m 165) (m166 : m' 166 = m 166) (cn : nR m' = nR m) : C9 m' h' := by
  have e5 : ∀ k, h'.1 (5, k) = h.1 (5, k) := fun k => (fr.s 5 n5 (by decide) (by decide) k).1
  have e30 : ∀ k, h'.1 (30, k) = h.1 (30, k) := fun k => (fr.s 30 n30 (by decide) (by decide) k).1
  have a30 : ∀ k, h'.2.2 (30, k) = h.2.2 (30, k) := fun k => (fr.s 30 n30 (by decide) (by decide) k).2.2
  refine ⟨by rw [cn]; exact c.1.fr fr hi n5 (by decide) ha, fun k hk => ?_, fun k hk => ?_⟩
  · rw [cn] at hk
    have a := c.2.1 k hk
    simp only [e5, e30, m161, m162, m163, m164, m165, m166]
    exact a
  · rw [cn] at hk
    simp only [a30]
    exact c.2.2 k hk
theorem CR.fr {m m' : St} {h h' : Hp} {i nn : Nat} {ss : List Nat} {R : Rm} (c : CR m h R) (fr : Fr (SK i ss nn) h h') (hz : ∀ q ∈ ss, q = 2 ∨ q = 3 ∨ q = 4 ∨ q = 5 ∨ (24 ≤ q ∧ q ≤ 30)) (m131 : m' 131 = m 131) (g30 : m' 1 30 = m 1 30) : CR m' h' R := by
  have ns : ∀ q, q = 0 ∨ q = 6 ∨ q = 7 ∨ (35 ≤ q ∧ q ≤ 40) → q ∉ ss := fun q hq z => by have := hz q z; omega
  have f : ∀ q, q = 0 ∨ q = 6 ∨ q = 7 ∨ (35 ≤ q ∧ q ≤ 40) → ∀ k, h'.1 (q, k) = h.1 (q, k) ∧ h'.2.1 (q, k) = h.2.1 (q, k) := fun q hq k => ⟨(fr.s q (ns q hq) (by omega) (by omega) k).1, (fr.s q (ns q hq) (by omega) (by omega) k).2.1⟩
  have eC : nC m' = nC m := by unfold nC; rw [g30]
  obtain ⟨k, h1, h2, h3, h4⟩ := c
  refine ⟨k, h1, ?_, ?_, ?_⟩
  · rw [(f 7 (by omega) 0).2]; exact h2
  · rw [(f 0 (by omega) 0).2]; exact h3
  · unfold CT at *
    rw [(f 6 (by omega) k).1, (f 35 (by omega) k).1, (f 36 (by omega) k).1, (f 37 (by omega) k).1, (f 38 (by omega) k).1, (f 39 (by omega) k).1, (f 40 (by omega) k).1, m131, g30, eC]
    exact h4
theorem Shp.fr {h h' : Hp} {i nn : Nat} {ss : List Nat} (hs : Shp h.2) (fr : Fr (SK i ss nn) h h') (hn : ∀ s ∈ ss, ∀ j b, sh s j nn = some b → h'.2.1 (s, nn) j = some b) : Shp h'.2 := by
  intro s j k b q al
  by_cases z : SK i ss nn (s, k)
  · rcases z with ⟨z, -⟩ | ⟨z1, z2, -⟩ | ⟨z, z2⟩
    · have z' : s = 13 := z
      subst z'
      rw [sh13] at q
      cases q
    · have y1 : 61 ≤ s := z1
      have y2 : s ≤ 63 := z2
      rcases (show s = 61 ∨ s = 62 ∨ s = 63 by omega) with rfl | rfl | rfl
      · rw [sh61] at q; cases q
      · rw [sh62] at q; cases q
      · rw [sh63] at q; cases q
    · have y : k = nn := z2
      subst y
      exact hn s z j b q
  · have f := fr (s, k) z
    rw [f.2.1]
    exact hs s j k b q (by rw [← f.2.2]; exact al)
theorem C7.fr {m m' : St} {h h' : Hp} {i nn : Nat} {ss : List Nat} (c : C7 m h) (fr : Fr (SK i ss nn) h h') (n3 : 3 ∉ ss) (n27 : 27 ∉ ss) (n28 : 28 ∉ ss) (m167 : m' 167 = m 167) (m168 : m' 168 = m 168) (m169 : m' 169 = m 169) (cnT : nT m' = nT m) (cnG : nGf m' = nGf m) : C7 m' h' :=
  c.same (fun k => by rw [(fr.s 3 n3 (by decide) (by decide) k).1]) (fun k => (fr.s 27 n27 (by decide) (by decide) k).1) (fun k => (fr.s 28 n28 (by decide) (by decide) k).1) m167 m168 m169 cnT cnG
theorem Cp.fr {m m' : St} {h h' : Hp} {i nn : Nat} {ss : List Nat} (hc : Cp m h) (fr : Fr (SK i ss nn) h h') (hz : ∀ q ∈ ss, q = 2 ∨ q = 3 ∨ q = 4 ∨ q = 5 ∨ (24 ≤ q ∧ q ≤ 30)) (hn : ∀ s ∈ ss, ∀ j b, sh s j nn = some b → h'.2.1 (s, nn) j = some b) (k5 : C5 m' h') (k6 : C6 m' h') (k7 : C7 m' h') (k8 : C8 m' h') (k9 : C9 m' h') (k11 : C11 m' h')
    (g2 : m' 1 2 = m 1 2) (g6 : m' 1 6 = m 1 6) (g7 : m' 1 7 = m 1 7) (g60 : m' 1 60 = m 1 60) (g1 : m' 1 1 = m 1 1) (g70 : m' 1 70 = m 1 70) (g71 : m' 1 71 = m 1 71) (g30 : m' 1 30 = m 1 30) (m100 : m' 100 = m 100) (m191 : m' 191 = m 191) (m187 : m' 187 = m 187) (m172 : m' 172 = m 172) (m173 : m' 173 = m 173) (m174 : m' 174 = m 174) (m175 : m' 175 = m 175) (m131 : m' 131 = m 131) (m132 : m' 132 = m 132) (m133 : m' 133 = m 133) (m134 : m' 134 = m 134) (m135 : m' 135 = m 135) (m136 : m' 136 = m 136) : Cp m' h' := by
  have ns : ∀ q, q = 0 ∨ q = 8 ∨ (20 ≤ q ∧ q ≤ 23) ∨ 31 ≤ q → q ∉ ss := fun q hq z => by have := hz q z; omega
  have f : ∀ q, q = 0 ∨ q = 8 ∨ (20 ≤ q ∧ q ≤ 23) ∨ 31 ≤ q → q < 61 → ∀ k, h'.1 (q, k) = h.1 (q, k) ∧ h'.2.1 (q, k) = h.2.1 (q, k) ∧ h'.2.2 (q, k) = h.2.2 (q, k) := fun q hq h6 k => fr.s q (ns q hq) (by omega) h6 k
  have al : ∀ q, 91 ≤ q → h'.2.2 (q, 0) = h.2.2 (q, 0) := fun q hq => (fr (q, 0) (nS (Or.inl (by omega)) (Or.inr (Or.inl (by omega))) (Or.inl (fun z => by have := hz q z; omega)))).2.2
  have eA : nA m' = nA m := by unfold nA; rw [g70]
  have eC : nC m' = nC m := by unfold nC; rw [g30]
  refine ⟨hc.s.fr fr hn, ?_, ?_, ?_, ?_, ?_, k5, k6, k7, k8, k9, ?_, k11, ?_, ?_⟩
  · have q := hc.e
    unfold Al at *
    rw [al 91 (by decide), al 92 (by decide), al 93 (by decide), al 94 (by decide)]
    exact q
  · have q := hc.c1
    unfold C1 at *
    rw [(f 0 (by omega) (by decide) 0).1, g2, g6, g7, g60, g1]
    exact q
  · have q := hc.c2
    unfold C2 at *
    rw [(f 20 (by omega) (by decide) 0).1, m100]
    exact q
  · exact hc.c3.same (fun k => (f 21 (by omega) (by decide) k).1) m191
  · exact hc.c4.same (fun k => (f 22 (by omega) (by decide) k).1) m187
  · exact hc.c10.same (fun k => (f 8 (by omega) (by decide) k).1) g70 g71 (fun k => (f 31 (by omega) (by decide) k).1) (fun k => (f 32 (by omega) (by decide) k).1) (fun k => (f 33 (by omega) (by decide) k).1) (fun k => (f 34 (by omega) (by decide) k).1) m172 m173 m174 m175 eA
  · obtain ⟨R, w, c⟩ := hc.c12
    exact ⟨R, w.same m131 m132 m133 m134 m135 m136 eC, c.fr fr hz m131 g30⟩
  · have q := hc.c13
    unfold C13 at *
    rw [(f 46 (by omega) (by decide) 0).1, (f 47 (by omega) (by decide) 0).1, (f 48 (by omega) (by decide) 0).1, (f 58 (by omega) (by decide) 0).1, (f 50 (by omega) (by decide) 0).2.1]
    exact q
