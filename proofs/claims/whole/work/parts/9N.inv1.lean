/-! WHAT STAYS: the invariants of the reference's numbers behind c calls -/
def In (c : Nat) (m : St) : Prop := Wf m ∧ Wx m ∧ Wg m ∧ nA m ≤ c ∧ ∀ w, w < 53 → ∃ k : Nat, k ≤ c ∧ m 187 w = nI k
theorem wkU {c : Nat} {m : St} (h : ∀ w, w < 53 → ∃ k : Nat, k ≤ c ∧ m 187 w = nI k) : ∀ w, w < 53 → ∃ k : Nat, k ≤ c + 1 ∧ m 187 w = nI k := fun w hw => by
  obtain ⟨k, h1, h2⟩ := h w hw
  exact ⟨k, by omega, h2⟩
theorem In.up {c : Nat} {m : St} (h : In c m) : In (c + 1) m := ⟨h.1, h.2.1, h.2.2.1, Nat.le_succ_of_le h.2.2.2.1, wkU h.2.2.2.2⟩
theorem In.n {c : Nat} {m : St} (h : In c m) (hc : c ≤ 512) : Wn m := fun w hw => by
  obtain ⟨k, h1, h2⟩ := h.2.2.2.2 w hw
  exact ⟨k, by omega, h2⟩
theorem in_cif {c : Nat} {m m' : St} {P : Prop} {v v' : Int32} (hi : In c m) (K : P → In (c + 1) m') : In (c + 1) (cif P (v, m') (v', m)).2 := by
  by_cases q : P
  · rw [cif_t q]; exact K q
  · rw [cif_f q]; exact hi.up
theorem in_id {c : Nat} {m : St} {P : Prop} {v v' : Int32} (hi : In c m) : In (c + 1) (cif P (v, m) (v', m)).2 := in_cif hi (fun _ => hi.up)
theorem rngN {x : Int32} {N : Nat} (hN : N < 2 ^ 31) (h0 : 0 ≤ x) (h1 : x ≤ nI N) : ∃ j : Nat, j ≤ N ∧ x = nI j := nI_of2 (nI_toInt hN) (Int32.not_lt.mpr h0) h1
theorem nIc {j : Nat} (h : j < 2 ^ 31) : nI j = nI (nI j).toNatClampNeg := by rw [nI_clamp h]
theorem nI0 {n : Nat} (h : n < 2 ^ 31) : (0 : Int32) ≤ nI n := nI_pos' h
theorem in_nowS {c : Nat} {m : St} (hi : In c m) (hc : c < 512) {x : Int32} (q : m 1 2 ≤ x ∧ x ≤ 699) : In (c + 1) (stU m 1 2 x) := by
  obtain ⟨hw, hx, hg, ha, hk⟩ := hi
  have b2 := hw.w.2
  have b3 := hw.k.2
  have b4 := hw.t.2
  have b5 := hw.f.2
  have b59 := hw.r.2
  have b60 := hw.g.2
  have b70 := hw.a.2
  have b1 := hw.tl.2
  have p0 : (0 : Int32) ≤ x := Int32.le_trans (by rw [hw.w.1]; exact nI0 (by omega)) q.1
  obtain ⟨j, hj, rfl⟩   := rngN (N := 699) (by decide) p0 q.2
  exact ⟨⟨⟨nIc (by omega), by show (nI j).toNatClampNeg ≤ 699; rw [nI_clamp (by omega)]; exact hj⟩, hw.c, hw.tl, hw.k, hw.t, hw.f, hw.r, hw.g, hw.a, fun t ht => hw.kd ht⟩, ⟨hx.gf, hx.ho, hx.ca, hx.si, hx.ac, hx.pc, hx.ha, hx.mi, hx.pr, hx.bg, hx.le, hx.du, hx.zk, hx.zt, hx.zf, hx.zr, hx.wh, hx.fi, trivial⟩, hg, Nat.le_succ_of_le ha, wkU hk⟩
theorem in_bagS {c : Nat} {m : St} (hi : In c m) (hc : c < 512) {x : Int32} (q : 0 ≤ x ∧ x ≤ 2000) : In (c + 1) (stU m 1 6 x) := by
  obtain ⟨hw, hx, hg, ha, hk⟩ := hi
  have b2 := hw.w.2
  have b3 := hw.k.2
  have b4 := hw.t.2
  have b5 := hw.f.2
  have b59 := hw.r.2
  have b60 := hw.g.2
  have b70 := hw.a.2
  have b1 := hw.tl.2
  exact ⟨⟨hw.w, hw.c, hw.tl, hw.k, hw.t, hw.f, hw.r, hw.g, hw.a, fun t ht => hw.kd ht⟩, ⟨hx.gf, hx.ho, hx.ca, hx.si, hx.ac, hx.pc, hx.ha, hx.mi, hx.pr, q, hx.le, hx.du, hx.zk, hx.zt, hx.zf, hx.zr, hx.wh, hx.fi, trivial⟩, hg, Nat.le_succ_of_le ha, wkU hk⟩
theorem in_telS {c : Nat} {m : St} (hi : In c m) (hc : c < 512) {x : Int32} : In (c + 1) (stU m 1 7 x) := by
  obtain ⟨hw, hx, hg, ha, hk⟩ := hi
  have b2 := hw.w.2
  have b3 := hw.k.2
  have b4 := hw.t.2
  have b5 := hw.f.2
  have b59 := hw.r.2
  have b60 := hw.g.2
  have b70 := hw.a.2
  have b1 := hw.tl.2
  exact ⟨⟨hw.w, hw.c, hw.tl, hw.k, hw.t, hw.f, hw.r, hw.g, hw.a, fun t ht => hw.kd ht⟩, ⟨hx.gf, hx.ho, hx.ca, hx.si, hx.ac, hx.pc, hx.ha, hx.mi, hx.pr, hx.bg, hx.le, hx.du, hx.zk, hx.zt, hx.zf, hx.zr, hx.wh, hx.fi, trivial⟩, hg, Nat.le_succ_of_le ha, wkU hk⟩
theorem stU_s (m : St) (s j : Nat) (x : Int32) (i : Nat) : stU m s j x s i = if i = j then x else m s i := by
  rw [stU_at]
  by_cases e : i = j
  · rw [if_pos ⟨rfl, e⟩, if_pos e]
  · rw [if_neg (fun z => e z.2), if_neg e]
theorem in_minS {c : Nat} {m : St} (hi : In c m) (hc : c < 512) {x : Nat} {n : Int32} (q : 0 ≤ n ∧ n ≤ 600) : In (c + 1) (stU m 191 x n) := by
  obtain ⟨hw, hx, hg, ha, hk⟩ := hi
  have b2 := hw.w.2
  have b3 := hw.k.2
  have b4 := hw.t.2
  have b5 := hw.f.2
  have b59 := hw.r.2
  have b60 := hw.g.2
  have b70 := hw.a.2
  have b1 := hw.tl.2
  exact ⟨⟨hw.w, hw.c, hw.tl, hw.k, hw.t, hw.f, hw.r, hw.g, hw.a, fun t ht => hw.kd ht⟩, ⟨hx.gf, hx.ho, hx.ca, hx.si, hx.ac, hx.pc, hx.ha, fun s hs => by rw [stU_s]; split; exact q; exact hx.mi s hs, hx.pr, hx.bg, hx.le, hx.du, hx.zk, hx.zt, hx.zf, hx.zr, hx.wh, hx.fi, trivial⟩, hg, Nat.le_succ_of_le ha, wkU hk⟩
theorem in_cullS {c : Nat} {m : St} (hi : In c m) (hc : c < 512) {x : Nat} (hq : x < nT m) (q : m 118 x = 0) : In (c + 1) (stU m 118 x 3) := by
  obtain ⟨hw, hx, hg, ha, hk⟩ := hi
  have b2 := hw.w.2
  have b3 := hw.k.2
  have b4 := hw.t.2
  have b5 := hw.f.2
  have b59 := hw.r.2
  have b60 := hw.g.2
  have b70 := hw.a.2
  have b1 := hw.tl.2
  exact ⟨⟨hw.w, hw.c, hw.tl, hw.k, hw.t, hw.f, hw.r, hw.g, hw.a, fun t ht => hw.kd ht⟩, ⟨hx.gf, fun t ht => if e : t = x then (by rw [stU_s, if_pos e, e]; exact ⟨fun _ => (hx.ho x hq).1 (by rw [q]; decide), fun z => absurd z (by decide)⟩) else (by rw [stU_s, if_neg e]; exact hx.ho t ht), hx.ca, hx.si, hx.ac, hx.pc, hx.ha, hx.mi, hx.pr, hx.bg, hx.le, hx.du, hx.zk, hx.zt, hx.zf, hx.zr, fun t ht => by rw [stU_s]; split; exact ⟨by decide, by decide⟩; exact hx.wh t ht, hx.fi, trivial⟩, hg, Nat.le_succ_of_le ha, wkU hk⟩
theorem in_washS {c : Nat} {m : St} (hi : In c m) (hc : c < 512) {x : Nat} (hq : x < nT m) : In (c + 1) (stU m 124 x 0) := by
  obtain ⟨hw, hx, hg, ha, hk⟩ := hi
  have b2 := hw.w.2
  have b3 := hw.k.2
  have b4 := hw.t.2
  have b5 := hw.f.2
  have b59 := hw.r.2
  have b60 := hw.g.2
  have b70 := hw.a.2
  have b1 := hw.tl.2
  exact ⟨⟨hw.w, hw.c, hw.tl, hw.k, hw.t, hw.f, hw.r, hw.g, hw.a, fun t ht => hw.kd ht⟩, ⟨hx.gf, hx.ho, hx.ca, hx.si, hx.ac, hx.pc, hx.ha, hx.mi, hx.pr, hx.bg, hx.le, hx.du, hx.zk, fun t ht => ⟨(hx.zt t ht).1, (hx.zt t ht).2.1, (hx.zt t ht).2.2.1, by rw [stU_s, if_neg (fun e => by have : nT m ≤ t := ht; omega)]; exact (hx.zt t ht).2.2.2⟩, hx.zf, hx.zr, hx.wh, hx.fi, trivial⟩, hg, Nat.le_succ_of_le ha, wkU hk⟩
theorem in_payS {c : Nat} {m : St} (hi : In c m) (hc : c < 512) {x : Nat} {v : Int32} (hq : x < nF m) : In (c + 1) (stU m 129 x v) := by
  obtain ⟨hw, hx, hg, ha, hk⟩ := hi
  have b2 := hw.w.2
  have b3 := hw.k.2
  have b4 := hw.t.2
  have b5 := hw.f.2
  have b59 := hw.r.2
  have b60 := hw.g.2
  have b70 := hw.a.2
  have b1 := hw.tl.2
  exact ⟨⟨hw.w, hw.c, hw.tl, hw.k, hw.t, hw.f, hw.r, hw.g, hw.a, fun t ht => hw.kd ht⟩, ⟨hx.gf, hx.ho, hx.ca, hx.si, hx.ac, hx.pc, hx.ha, hx.mi, hx.pr, hx.bg, hx.le, hx.du, hx.zk, hx.zt, fun f hf => ⟨by rw [stU_s, if_neg (fun e => by have : nF m ≤ f := hf; omega)]; exact (hx.zf f hf).1, (hx.zf f hf).2⟩, hx.zr, hx.wh, hx.fi, trivial⟩, hg, Nat.le_succ_of_le ha, wkU hk⟩
theorem n86 {f k f1 k1 : Nat} (hk : k < 8) (hk1 : k1 < 8) : 8 * f + k = 8 * f1 + k1 ↔ f = f1 ∧ k = k1 := by omega
theorem in_setS {c : Nat} {m : St} (hi : In c m) (hc : c < 512) {f1 k1 : Nat} {v : Int32} (hq : f1 < nF m) (hk1 : k1 < 8) (hv : v = -1 ∨ (0 ≤ v ∧ v ≤ 699)) : In (c + 1) (stU m 186 (8 * f1 + k1) v) := by
  obtain ⟨hw, hx, hg, ha, hk⟩ := hi
  have b2 := hw.w.2
  have b3 := hw.k.2
  have b4 := hw.t.2
  have b5 := hw.f.2
  have b59 := hw.r.2
  have b60 := hw.g.2
  have b70 := hw.a.2
  have b1 := hw.tl.2
  exact ⟨⟨hw.w, hw.c, hw.tl, hw.k, hw.t, hw.f, hw.r, hw.g, hw.a, fun t ht => hw.kd ht⟩, ⟨hx.gf, hx.ho, hx.ca, fun f k hf hk => by rw [stU_s]; split; exact hv; exact hx.si f k hf hk, hx.ac, hx.pc, hx.ha, hx.mi, hx.pr, hx.bg, hx.le, hx.du, hx.zk, hx.zt, fun f hf => ⟨(hx.zf f hf).1, fun k hk => by rw [stU_s, if_neg (fun e => by have : nF m ≤ f := hf; have := (n86 hk hk1).mp e; omega)]; exact (hx.zf f hf).2 k hk⟩, hx.zr, hx.wh, hx.fi, trivial⟩, hg, Nat.le_succ_of_le ha, wkU hk⟩
theorem in_toldS {c : Nat} {m : St} (hi : In c m) (hc : c < 512) {r1 f1 : Nat} {v : Int32} (hr : r1 < nR m) (hf : f1 < nF m) : In (c + 1) (stU m 166 (10 * r1 + f1) v) := by
  obtain ⟨hw, hx, hg, ha, hk⟩ := hi
  have b2 := hw.w.2
  have b3 := hw.k.2
  have b4 := hw.t.2
  have b5 := hw.f.2
  have b59 := hw.r.2
  have b60 := hw.g.2
  have b70 := hw.a.2
  have b1 := hw.tl.2
  exact ⟨⟨hw.w, hw.c, hw.tl, hw.k, hw.t, hw.f, hw.r, hw.g, hw.a, fun t ht => hw.kd ht⟩, ⟨hx.gf, hx.ho, hx.ca, hx.si, hx.ac, hx.pc, hx.ha, hx.mi, hx.pr, hx.bg, hx.le, hx.du, hx.zk, hx.zt, hx.zf, fun r f h hf => by rw [stU_s, if_neg (fun e => by have : nR m ≤ r ∨ nF m ≤ f := h; omega)]; exact hx.zr r f h hf, hx.wh, hx.fi, trivial⟩, hg, Nat.le_succ_of_le ha, wkU hk⟩
theorem in_tapeS {c : Nat} {m : St} (hi : In c m) (hc : c < 512) {T : Nat} {v : Int32} : In (c + 1) (stU m 100 T v) := by
  obtain ⟨hw, hx, hg, ha, hk⟩ := hi
  have b2 := hw.w.2
  have b3 := hw.k.2
  have b4 := hw.t.2
  have b5 := hw.f.2
  have b59 := hw.r.2
  have b60 := hw.g.2
  have b70 := hw.a.2
  have b1 := hw.tl.2
  exact ⟨⟨hw.w, hw.c, hw.tl, hw.k, hw.t, hw.f, hw.r, hw.g, hw.a, fun t ht => hw.kd ht⟩, ⟨hx.gf, hx.ho, hx.ca, hx.si, hx.ac, hx.pc, hx.ha, hx.mi, hx.pr, hx.bg, hx.le, hx.du, hx.zk, hx.zt, hx.zf, hx.zr, hx.wh, hx.fi, trivial⟩, hg, Nat.le_succ_of_le ha, wkU hk⟩
theorem in_lenS {c : Nat} {m : St} (hi : In c m) (hc : c < 512) {T : Nat} (hT : T ≤ 220) : In (c + 1) (stU m 1 1 (nI T)) := by
  obtain ⟨hw, hx, hg, ha, hk⟩ := hi
  have b2 := hw.w.2
  have b3 := hw.k.2
  have b4 := hw.t.2
  have b5 := hw.f.2
  have b59 := hw.r.2
  have b60 := hw.g.2
  have b70 := hw.a.2
  have b1 := hw.tl.2
  exact ⟨⟨hw.w, hw.c, ⟨nIc (by omega), by show (nI T).toNatClampNeg ≤ 220; rw [nI_clamp (by omega)]; exact hT⟩, hw.k, hw.t, hw.f, hw.r, hw.g, hw.a, fun t ht => hw.kd ht⟩, ⟨hx.gf, hx.ho, hx.ca, hx.si, hx.ac, hx.pc, hx.ha, hx.mi, hx.pr, hx.bg, hx.le, hx.du, hx.zk, hx.zt, hx.zf, hx.zr, hx.wh, hx.fi, trivial⟩, hg, Nat.le_succ_of_le ha, wkU hk⟩
theorem in_kindS {c : Nat} {m : St} (hi : In c m) (hc : c < 512) {a p z k b : Int32} (h8 : ¬ nK m = 8) (hp : 1 ≤ p ∧ p ≤ 20000) : In (c + 1) (stU (stU (stU (stU (stU (stU (m) 108 (nK m) (a)) 109 (nK m) (p)) 110 (nK m) (z)) 111 (nK m) (k)) 112 (nK m) (b)) 1 (3) (nI (nK m + 1))) := by
  obtain ⟨hw, hx, hg, ha, hk⟩ := hi
  have b2 := hw.w.2
  have b3 := hw.k.2
  have b4 := hw.t.2
  have b5 := hw.f.2
  have b59 := hw.r.2
  have b60 := hw.g.2
  have b70 := hw.a.2
  have b1 := hw.tl.2
  have eK : nK (stU (stU (stU (stU (stU (stU (m) 108 (nK m) (a)) 109 (nK m) (p)) 110 (nK m) (z)) 111 (nK m) (k)) 112 (nK m) (b)) 1 (3) (nI (nK m + 1))) = nK m + 1 := nI_clamp (by omega)
  exact ⟨⟨hw.w, hw.c, hw.tl, ⟨by rw [eK]; rfl, by rw [eK]; omega⟩, hw.t, hw.f, hw.r, hw.g, hw.a, fun t ht => ⟨(hw.kd ht).1, by rw [eK]; have : kd m t < nK m := (hw.kd ht).2; exact Nat.lt_succ_of_lt this⟩⟩, ⟨hx.gf, hx.ho, hx.ca, hx.si, hx.ac, fun j s hj hs => (Nat.lt_or_ge j (nK m)).elim (fun y => hx.pc j s y hs) (fun y => by have y2 := hx.zk j s y hs; show (0 ≤ m 113 (6 * j + s) ∧ m 113 (6 * j + s) ≤ 6) ∧ (0 ≤ m 114 (6 * j + s) ∧ m 114 (6 * j + s) ≤ 400); rw [y2.1, y2.2]; decide), hx.ha, hx.mi, fun j hj => if e : j = nK m then (by show 1 ≤ stU m 109 (nK m) p 109 j ∧ stU m 109 (nK m) p 109 j ≤ 20000; rw [stU_s, if_pos e]; exact hp) else (by rw [eK] at hj; show 1 ≤ stU m 109 (nK m) p 109 j ∧ stU m 109 (nK m) p 109 j ≤ 20000; rw [stU_s, if_neg e]; exact hx.pr j (by omega)), hx.bg, hx.le, hx.du, fun j s hj hs => by rw [eK] at hj; exact hx.zk j s (by omega) hs, hx.zt, hx.zf, hx.zr, hx.wh, hx.fi, trivial⟩, hg, Nat.le_succ_of_le ha, wkU hk⟩
theorem in_famS {c : Nat} {m : St} (hi : In c m) (hc : c < 512) {a p z : Int32} (h8 : ¬ nF m = 10) : In (c + 1) (stU (stU (stU (stU (m) 126 (nF m) (a)) 127 (nF m) (p)) 128 (nF m) (z)) 1 (5) (nI (nF m + 1))) := by
  obtain ⟨hw, hx, hg, ha, hk⟩ := hi
  have b2 := hw.w.2
  have b3 := hw.k.2
  have b4 := hw.t.2
  have b5 := hw.f.2
  have b59 := hw.r.2
  have b60 := hw.g.2
  have b70 := hw.a.2
  have b1 := hw.tl.2
  have eF : nF (stU (stU (stU (stU (m) 126 (nF m) (a)) 127 (nF m) (p)) 128 (nF m) (z)) 1 (5) (nI (nF m + 1))) = nF m + 1 := nI_clamp (by omega)
  exact ⟨⟨hw.w, hw.c, hw.tl, hw.k, hw.t, ⟨by rw [eF]; rfl, by rw [eF]; omega⟩, hw.r, hw.g, hw.a, fun t ht => hw.kd ht⟩, ⟨hx.gf, fun t ht => ⟨(hx.ho t ht).1, fun e => by obtain ⟨f, h1, h2⟩ := (hx.ho t ht).2 e; exact ⟨f, by rw [eF]; omega, h2⟩⟩, hx.ca, fun f k hf hk => (Nat.lt_or_ge f (nF m)).elim (fun y => hx.si f k y hk) (fun y => Or.inl ((hx.zf f y).2 k hk)), fun i hi2 e => by obtain ⟨g, h1, h2⟩ := hx.ac i hi2 e; exact ⟨g, by rw [eF]; omega, h2⟩, hx.pc, hx.ha, hx.mi, hx.pr, hx.bg, hx.le, hx.du, hx.zk, hx.zt, fun f hf => by rw [eF] at hf; exact hx.zf f (by omega), fun r f h hf => by rw [eF] at h; exact hx.zr r f (by rcases h with h | h; exact Or.inl h; exact Or.inr (by omega)) hf, hx.wh, hx.fi, trivial⟩, hg, Nat.le_succ_of_le ha, wkU hk⟩
theorem in_waitS {c : Nat} {m : St} (hi : In c m) (hc : c < 512) {f1 k1 w : Nat} (hq : f1 < nF m) (hk1 : k1 < 8) : In (c + 1) (stU (stU (m) 186 (8 * f1 + k1) (m 1 2)) 187 w (m 187 w + nI 1)) := by
  obtain ⟨hw, hx, hg, ha, hk⟩ := hi
  have b2 := hw.w.2
  have b3 := hw.k.2
  have b4 := hw.t.2
  have b5 := hw.f.2
  have b59 := hw.r.2
  have b60 := hw.g.2
  have b70 := hw.a.2
  have b1 := hw.tl.2
  have v0 : (0 : Int32) ≤ m 1 2 ∧ m 1 2 ≤ 699 := by
    rw [hw.w.1]
    exact ⟨nI0 (by omega), nI_le (by omega) (by decide)⟩
  exact ⟨⟨hw.w, hw.c, hw.tl, hw.k, hw.t, hw.f, hw.r, hw.g, hw.a, fun t ht => hw.kd ht⟩, ⟨hx.gf, hx.ho, hx.ca, fun f k hf hk => by show stU m 186 (8 * f1 + k1) (m 1 2) 186 (8 * f + k) = -1 ∨ (0 ≤ stU m 186 (8 * f1 + k1) (m 1 2) 186 (8 * f + k) ∧ stU m 186 (8 * f1 + k1) (m 1 2) 186 (8 * f + k) ≤ 699); rw [stU_s]; exact if e : 8 * f + k = 8 * f1 + k1 then (by rw [if_pos e]; exact Or.inr v0) else (by rw [if_neg e]; exact hx.si f k hf hk), hx.ac, hx.pc, hx.ha, hx.mi, hx.pr, hx.bg, hx.le, hx.du, hx.zk, hx.zt, fun f hf => ⟨(hx.zf f hf).1, fun k hk => by show stU m 186 (8 * f1 + k1) (m 1 2) 186 (8 * f + k) = -1; rw [stU_s, if_neg (fun e => by have : nF m ≤ f := hf; have := (n86 hk hk1).mp e; omega)]; exact (hx.zf f hf).2 k hk⟩, hx.zr, hx.wh, hx.fi, trivial⟩, hg, Nat.le_succ_of_le ha, fun w1 h1 => by obtain ⟨k, e1, e2⟩ := hk w1 h1; show ∃ k : Nat, k ≤ c + 1 ∧ stU (stU (m) 186 (8 * f1 + k1) (m 1 2)) 187 w (m 187 w + nI 1) 187 w1 = nI k; rw [stU_s]; exact if e : w1 = w then (by rw [if_pos e, ← e, e2]; exact ⟨k + 1, by omega, nI_add k 1⟩) else (by rw [if_neg e]; exact ⟨k, by omega, e2⟩)⟩
theorem in_recS {c : Nat} {m : St} (hi : In c m) (hc : c < 512) {a p z v : Int32} (h8 : ¬ nR m = 10) : In (c + 1) (stU (stU (st4 m a p z) 165 (nR m) v) 1 59 (nI (nR m + 1))) := by
  obtain ⟨hw, hx, hg, ha, hk⟩ := hi
  have b2 := hw.w.2
  have b3 := hw.k.2
  have b4 := hw.t.2
  have b5 := hw.f.2
  have b59 := hw.r.2
  have b60 := hw.g.2
  have b70 := hw.a.2
  have b1 := hw.tl.2
  have eR : nR (stU (stU (st4 m a p z) 165 (nR m) v) 1 59 (nI (nR m + 1))) = nR m + 1 := nI_clamp (by omega)
  exact ⟨⟨hw.w, hw.c, hw.tl, hw.k, hw.t, hw.f, ⟨by rw [eR]; rfl, by rw [eR]; omega⟩, hw.g, hw.a, fun t ht => hw.kd ht⟩, ⟨hx.gf, hx.ho, hx.ca, hx.si, hx.ac, hx.pc, hx.ha, hx.mi, hx.pr, hx.bg, hx.le, hx.du, hx.zk, hx.zt, hx.zf, fun r f h hf => by rw [eR] at h; exact hx.zr r f (by rcases h with h | h; exact Or.inl (by omega); exact Or.inr h) hf, hx.wh, hx.fi, trivial⟩, hg, Nat.le_succ_of_le ha, wkU hk⟩
