/-! what stays: pieces, gifts, toys, mending, lending, coming back, losing, rules -/
theorem n66 {k s k1 s1 : Nat} (hs : s < 6) (hs1 : s1 < 6) : 6 * k + s = 6 * k1 + s1 ↔ k = k1 ∧ s = s1 := by omega
theorem in_pieS {c : Nat} {m : St} (hi : In c m) (hc : c < 512) {k1 s1 : Nat} {n w : Int32} (hk1 : k1 < nK m) (hs1 : s1 < 6) (hn : 0 ≤ n ∧ n ≤ 6) (hw1 : 1 ≤ w ∧ w ≤ 400) (hno : ∀ t, t < nT m → ¬ kd m t = k1) : In (c + 1) (stU (stU (m) 113 (6 * k1 + s1) n) 114 (6 * k1 + s1) w) := by
  obtain ⟨hw, hx, hg, ha, hk⟩ := hi
  have b2 := hw.w.2
  have b3 := hw.k.2
  have b4 := hw.t.2
  have b5 := hw.f.2
  have b59 := hw.r.2
  have b60 := hw.g.2
  have b70 := hw.a.2
  have b1 := hw.tl.2
  have w0 : (0 : Int32) ≤ w ∧ w ≤ 400 := ⟨Int32.le_trans (by decide) hw1.1, hw1.2⟩
  exact ⟨⟨hw.w, hw.c, hw.tl, hw.k, hw.t, hw.f, hw.r, hw.g, hw.a, fun t ht => hw.kd ht⟩, ⟨hx.gf, hx.ho, hx.ca, hx.si, hx.ac, fun k s hk2 hs => ⟨by show 0 ≤ stU m 113 (6 * k1 + s1) n 113 (6 * k + s) ∧ stU m 113 (6 * k1 + s1) n 113 (6 * k + s) ≤ 6; rw [stU_s]; split; exact hn; exact (hx.pc k s hk2 hs).1, by show 0 ≤ stU (stU (m) 113 (6 * k1 + s1) n) 114 (6 * k1 + s1) w 114 (6 * k + s) ∧ stU (stU (m) 113 (6 * k1 + s1) n) 114 (6 * k1 + s1) w 114 (6 * k + s) ≤ 400; rw [stU_s]; split; exact w0; exact (hx.pc k s hk2 hs).2⟩, fun t s ht hs => ⟨(hx.ha t s ht hs).1, by show m 125 (6 * t + s) ≤ stU m 113 (6 * k1 + s1) n 113 (6 * kd m t + s); rw [stU_s, if_neg (fun e => hno t ht ((n66 hs hs1).mp e).1)]; exact (hx.ha t s ht hs).2⟩, hx.mi, hx.pr, hx.bg, hx.le, hx.du, fun k s hk2 hs => ⟨by show stU m 113 (6 * k1 + s1) n 113 (6 * k + s) = 0; rw [stU_s, if_neg (fun e => by have : nK m ≤ k := hk2; have := (n66 hs hs1).mp e; omega)]; exact (hx.zk k s hk2 hs).1, by show stU (stU (m) 113 (6 * k1 + s1) n) 114 (6 * k1 + s1) w 114 (6 * k + s) = 0; rw [stU_s, if_neg (fun e => by have : nK m ≤ k := hk2; have := (n66 hs hs1).mp e; omega)]; exact (hx.zk k s hk2 hs).2⟩, hx.zt, hx.zf, hx.zr, hx.wh, hx.fi, trivial⟩, hg, Nat.le_succ_of_le ha, wkU hk⟩
theorem in_gifS {c : Nat} {m : St} (hi : In c m) (hc : c < 512) {j : Nat} {g n : Int32} (h20 : ¬ nGf m = 20) (hj : j < nT m) (hg1 : 0 ≤ g ∧ g ≤ 3) : In (c + 1) (stU (stU (stU (stU (m) 167 (nGf m) (nI j)) 168 (nGf m) (g)) 169 (nGf m) (n)) 1 (60) (nI (nGf m + 1))) := by
  obtain ⟨hw, hx, hg, ha, hk⟩ := hi
  have b2 := hw.w.2
  have b3 := hw.k.2
  have b4 := hw.t.2
  have b5 := hw.f.2
  have b59 := hw.r.2
  have b60 := hw.g.2
  have b70 := hw.a.2
  have b1 := hw.tl.2
  have eG : nGf (stU (stU (stU (stU (m) 167 (nGf m) (nI j)) 168 (nGf m) (g)) 169 (nGf m) (n)) 1 (60) (nI (nGf m + 1))) = nGf m + 1 := nI_clamp (by omega)
  exact ⟨⟨hw.w, hw.c, hw.tl, hw.k, hw.t, hw.f, hw.r, ⟨by rw [eG]; rfl, by rw [eG]; omega⟩, hw.a, fun t ht => hw.kd ht⟩, ⟨fun i hi2 => if e : i = nGf m then (by show 0 ≤ stU m 168 (nGf m) g 168 i ∧ stU m 168 (nGf m) g 168 i ≤ 3; rw [stU_s, if_pos e]; exact hg1) else (by rw [eG] at hi2; show 0 ≤ stU m 168 (nGf m) g 168 i ∧ stU m 168 (nGf m) g 168 i ≤ 3; rw [stU_s, if_neg e]; exact hx.gf i (by omega)), hx.ho, hx.ca, hx.si, hx.ac, hx.pc, hx.ha, hx.mi, hx.pr, hx.bg, hx.le, hx.du, hx.zk, hx.zt, hx.zf, hx.zr, hx.wh, hx.fi, trivial⟩, fun i hi2 => if e : i = nGf m then ⟨j, hj, by show stU m 167 (nGf m) (nI j) 167 i = nI j; rw [stU_s, if_pos e]⟩ else (by rw [eG] at hi2; obtain ⟨t, h1, h2⟩ := hg i (by omega); exact ⟨t, h1, by show stU m 167 (nGf m) (nI j) 167 i = nI t; rw [stU_s, if_neg e]; exact h2⟩), Nat.le_succ_of_le ha, wkU hk⟩
theorem in_toyS {c : Nat} {m : St} (hi : In c m) (hc : c < 512) {k : Nat} {b : Int32} (h16 : ¬ nT m = 16) (hk1 : k < nK m) : In (c + 1) (stU (stN (stToy m (nI k) b) 125 (6 * nT m) (fun s => m 113 (6 * k + s)) 6) 1 4 (nI (nT m + 1))) := by
  obtain ⟨hw, hx, hg, ha, hk⟩ := hi
  have b2 := hw.w.2
  have b3 := hw.k.2
  have b4 := hw.t.2
  have b5 := hw.f.2
  have b59 := hw.r.2
  have b60 := hw.g.2
  have b70 := hw.a.2
  have b1 := hw.tl.2
  have eT : nT (stU (stN (stToy m (nI k) b) 125 (6 * nT m) (fun s => m 113 (6 * k + s)) 6) 1 4 (nI (nT m + 1))) = nT m + 1 := nI_clamp (by omega)
  have v0 : (0 : Int32) ≤ m 1 2 ∧ m 1 2 ≤ 699 := by
    rw [hw.w.1]
    exact ⟨nI0 (by omega), nI_le (by omega) (by decide)⟩
  have e115 : ∀ t, (stU (stN (stToy m (nI k) b) 125 (6 * nT m) (fun s => m 113 (6 * k + s)) 6) 1 4 (nI (nT m + 1))) 115 t = if t = nT m then nI k else m 115 t := fun t => stU_s m 115 (nT m) (nI k) t
  have e125 : ∀ i, (stU (stN (stToy m (nI k) b) 125 (6 * nT m) (fun s => m 113 (6 * k + s)) 6) 1 4 (nI (nT m + 1))) 125 i = stN (stToy m (nI k) b) 125 (6 * nT m) (fun s => m 113 (6 * k + s)) 6 125 i := fun i => rfl
  have kdN : kd (stU (stN (stToy m (nI k) b) 125 (6 * nT m) (fun s => m 113 (6 * k + s)) 6) 1 4 (nI (nT m + 1))) (nT m) = k := by unfold kd; rw [e115, if_pos rfl]; exact nI_clamp (by omega)
  have kdO : ∀ t, t ≠ nT m → kd (stU (stN (stToy m (nI k) b) 125 (6 * nT m) (fun s => m 113 (6 * k + s)) 6) 1 4 (nI (nT m + 1))) t = kd m t := fun t h => by unfold kd; rw [e115, if_neg h]
  exact ⟨⟨hw.w, hw.c, hw.tl, hw.k, ⟨by rw [eT]; rfl, by rw [eT]; omega⟩, hw.f, hw.r, hw.g, hw.a, fun t ht => if e : t = nT m then (by subst e; rw [kdN]; exact ⟨by rw [e115, if_pos rfl], hk1⟩) else (by rw [eT] at ht; rw [kdO t e, e115, if_neg e]; exact hw.kd (by omega))⟩, ⟨hx.gf, fun t ht => if e : t = nT m then (by show (¬ stU m 118 (nT m) 0 118 t = 1 → stU m 119 (nT m) (-1) 119 t = -1) ∧ (stU m 118 (nT m) 0 118 t = 1 → _); rw [stU_s, stU_s, if_pos e, if_pos e]; exact ⟨fun _ => rfl, fun z => absurd z (by decide)⟩) else (by rw [eT] at ht; show (¬ stU m 118 (nT m) 0 118 t = 1 → stU m 119 (nT m) (-1) 119 t = -1) ∧ (stU m 118 (nT m) 0 118 t = 1 → ∃ f : Nat, f < nF m ∧ stU m 119 (nT m) (-1) 119 t = nI f); rw [stU_s, stU_s, if_neg e, if_neg e]; exact hx.ho t (by omega)), fun t ht => if e : t = nT m then (by show 0 ≤ stU m 123 (nT m) (m 1 2) 123 t ∧ stU m 123 (nT m) (m 1 2) 123 t ≤ 699; rw [stU_s, if_pos e]; exact v0) else (by rw [eT] at ht; show 0 ≤ stU m 123 (nT m) (m 1 2) 123 t ∧ stU m 123 (nT m) (m 1 2) 123 t ≤ 699; rw [stU_s, if_neg e]; exact hx.ca t (by omega)), hx.si, hx.ac, hx.pc, fun t s ht hs => if e : t = nT m then (by subst e; rw [kdN, e125, stN_at _ _ _ _ 6 hs]; exact ⟨(hx.pc k s hk1 hs).1.1, Int32.le_refl _⟩) else (by rw [eT] at ht; rw [kdO t e, e125, stN_out _ _ _ _ 6 (by omega)]; exact hx.ha t s (by omega) hs), hx.mi, hx.pr, hx.bg, hx.le, fun t ht => if e : t = nT m then (by show -1 ≤ stU m 120 (nT m) (-1) 120 t ∧ stU m 120 (nT m) (-1) 120 t ≤ 899; rw [stU_s, if_pos e]; exact ⟨by decide, by decide⟩) else (by rw [eT] at ht; show -1 ≤ stU m 120 (nT m) (-1) 120 t ∧ stU m 120 (nT m) (-1) 120 t ≤ 899; rw [stU_s, if_neg e]; exact hx.du t (by omega)), hx.zk, fun t ht => by rw [eT] at ht; exact hx.zt t (by omega), hx.zf, hx.zr, fun t ht => if e : t = nT m then (by show 0 ≤ stU m 118 (nT m) (0) 118 t ∧ stU m 118 (nT m) (0) 118 t ≤ 3; rw [stU_s, if_pos e]; exact ⟨by decide, by decide⟩) else (by rw [eT] at ht; show 0 ≤ stU m 118 (nT m) (0) 118 t ∧ stU m 118 (nT m) (0) 118 t ≤ 3; rw [stU_s, if_neg e]; exact hx.wh t (by omega)), hx.fi, trivial⟩, fun i hi2 => by obtain ⟨t, h1, h2⟩ := hg i hi2; exact ⟨t, by rw [eT]; omega, h2⟩, Nat.le_succ_of_le ha, wkU hk⟩
theorem in_hasS {c : Nat} {m : St} (hi : In c m) {t1 : Nat} {f : Nat → Int32} (ht1 : t1 < nT m) (hf : ∀ s, s < 6 → 0 ≤ f s ∧ f s ≤ m 113 (6 * kd m t1 + s)) : In (c) (stN m 125 (6 * t1) f 6) := by
  obtain ⟨hw, hx, hg, ha, hk⟩ := hi
  have b2 := hw.w.2
  have b3 := hw.k.2
  have b4 := hw.t.2
  have b5 := hw.f.2
  have b59 := hw.r.2
  have b60 := hw.g.2
  have b70 := hw.a.2
  have b1 := hw.tl.2
  exact ⟨⟨hw.w, hw.c, hw.tl, hw.k, hw.t, hw.f, hw.r, hw.g, hw.a, fun t ht => hw.kd ht⟩, ⟨hx.gf, hx.ho, hx.ca, hx.si, hx.ac, hx.pc, fun t s ht hs => if e : t = t1 then (by subst e; show 0 ≤ stN m 125 (6 * t) f 6 125 (6 * t + s) ∧ stN m 125 (6 * t) f 6 125 (6 * t + s) ≤ m 113 (6 * kd m t + s); rw [stN_at _ _ _ _ 6 hs]; exact hf s hs) else (by show 0 ≤ stN m 125 (6 * t1) f 6 125 (6 * t + s) ∧ stN m 125 (6 * t1) f 6 125 (6 * t + s) ≤ m 113 (6 * kd m t + s); rw [stN_out _ _ _ _ 6 (by omega)]; exact hx.ha t s ht hs), hx.mi, hx.pr, hx.bg, hx.le, hx.du, hx.zk, hx.zt, hx.zf, hx.zr, hx.wh, hx.fi, trivial⟩, hg, ha, hk⟩
theorem in_len0 {c : Nat} {m : St} (hi : In c m) {T : Nat} (hT : T ≤ 220) : In (c) (stU m 1 1 (nI T)) := by
  obtain ⟨hw, hx, hg, ha, hk⟩ := hi
  have b2 := hw.w.2
  have b3 := hw.k.2
  have b4 := hw.t.2
  have b5 := hw.f.2
  have b59 := hw.r.2
  have b60 := hw.g.2
  have b70 := hw.a.2
  have b1 := hw.tl.2
  exact ⟨⟨hw.w, hw.c, ⟨nIc (by omega), by show (nI T).toNatClampNeg ≤ 220; rw [nI_clamp (by omega)]; exact hT⟩, hw.k, hw.t, hw.f, hw.r, hw.g, hw.a, fun t ht => hw.kd ht⟩, ⟨hx.gf, hx.ho, hx.ca, hx.si, hx.ac, hx.pc, hx.ha, hx.mi, hx.pr, hx.bg, hx.le, hx.du, hx.zk, hx.zt, hx.zf, hx.zr, hx.wh, hx.fi, trivial⟩, hg, ha, hk⟩
theorem in_tape0 {c : Nat} {m : St} (hi : In c m) {T : Nat} {v : Int32} : In (c) (stU m 100 T v) := by
  obtain ⟨hw, hx, hg, ha, hk⟩ := hi
  have b2 := hw.w.2
  have b3 := hw.k.2
  have b4 := hw.t.2
  have b5 := hw.f.2
  have b59 := hw.r.2
  have b60 := hw.g.2
  have b70 := hw.a.2
  have b1 := hw.tl.2
  exact ⟨⟨hw.w, hw.c, hw.tl, hw.k, hw.t, hw.f, hw.r, hw.g, hw.a, fun t ht => hw.kd ht⟩, ⟨hx.gf, hx.ho, hx.ca, hx.si, hx.ac, hx.pc, hx.ha, hx.mi, hx.pr, hx.bg, hx.le, hx.du, hx.zk, hx.zt, hx.zf, hx.zr, hx.wh, hx.fi, trivial⟩, hg, ha, hk⟩
theorem in_wear0 {c : Nat} {m : St} (hi : In c m) {t1 : Nat} {v : Int32} (ht1 : t1 < nT m) : In (c) (stU m 117 t1 v) := by
  obtain ⟨hw, hx, hg, ha, hk⟩ := hi
  have b2 := hw.w.2
  have b3 := hw.k.2
  have b4 := hw.t.2
  have b5 := hw.f.2
  have b59 := hw.r.2
  have b60 := hw.g.2
  have b70 := hw.a.2
  have b1 := hw.tl.2
  exact ⟨⟨hw.w, hw.c, hw.tl, hw.k, hw.t, hw.f, hw.r, hw.g, hw.a, fun t ht => hw.kd ht⟩, ⟨hx.gf, hx.ho, hx.ca, hx.si, hx.ac, hx.pc, hx.ha, hx.mi, hx.pr, hx.bg, hx.le, hx.du, hx.zk, fun t ht => ⟨by rw [stU_s, if_neg (fun e => by have : nT m ≤ t := ht; omega)]; exact (hx.zt t ht).1, (hx.zt t ht).2⟩, hx.zf, hx.zr, hx.wh, hx.fi, trivial⟩, hg, ha, hk⟩
theorem in_dirt0 {c : Nat} {m : St} (hi : In c m) {t1 : Nat} {v : Int32} (ht1 : t1 < nT m) : In (c) (stU m 124 t1 v) := by
  obtain ⟨hw, hx, hg, ha, hk⟩ := hi
  have b2 := hw.w.2
  have b3 := hw.k.2
  have b4 := hw.t.2
  have b5 := hw.f.2
  have b59 := hw.r.2
  have b60 := hw.g.2
  have b70 := hw.a.2
  have b1 := hw.tl.2
  exact ⟨⟨hw.w, hw.c, hw.tl, hw.k, hw.t, hw.f, hw.r, hw.g, hw.a, fun t ht => hw.kd ht⟩, ⟨hx.gf, hx.ho, hx.ca, hx.si, hx.ac, hx.pc, hx.ha, hx.mi, hx.pr, hx.bg, hx.le, hx.du, hx.zk, fun t ht => ⟨(hx.zt t ht).1, (hx.zt t ht).2.1, (hx.zt t ht).2.2.1, by rw [stU_s, if_neg (fun e => by have : nT m ≤ t := ht; omega)]; exact (hx.zt t ht).2.2.2⟩, hx.zf, hx.zr, hx.wh, hx.fi, trivial⟩, hg, ha, hk⟩
theorem in_owe0 {c : Nat} {m : St} (hi : In c m) {x : Nat} {v : Int32} (hq : x < nF m) : In (c) (stU m 129 x v) := by
  obtain ⟨hw, hx, hg, ha, hk⟩ := hi
  have b2 := hw.w.2
  have b3 := hw.k.2
  have b4 := hw.t.2
  have b5 := hw.f.2
  have b59 := hw.r.2
  have b60 := hw.g.2
  have b70 := hw.a.2
  have b1 := hw.tl.2
  exact ⟨⟨hw.w, hw.c, hw.tl, hw.k, hw.t, hw.f, hw.r, hw.g, hw.a, fun t ht => hw.kd ht⟩, ⟨hx.gf, hx.ho, hx.ca, hx.si, hx.ac, hx.pc, hx.ha, hx.mi, hx.pr, hx.bg, hx.le, hx.du, hx.zk, hx.zt, fun f hf => ⟨by rw [stU_s, if_neg (fun e => by have : nF m ≤ f := hf; omega)]; exact (hx.zf f hf).1, (hx.zf f hf).2⟩, hx.zr, hx.wh, hx.fi, trivial⟩, hg, ha, hk⟩
theorem in_set0 {c : Nat} {m : St} (hi : In c m) {f1 k1 : Nat} (hq : f1 < nF m) (hk1 : k1 < 8) : In (c) (stU m 186 (8 * f1 + k1) (-1)) := by
  obtain ⟨hw, hx, hg, ha, hk⟩ := hi
  have b2 := hw.w.2
  have b3 := hw.k.2
  have b4 := hw.t.2
  have b5 := hw.f.2
  have b59 := hw.r.2
  have b60 := hw.g.2
  have b70 := hw.a.2
  have b1 := hw.tl.2
  exact ⟨⟨hw.w, hw.c, hw.tl, hw.k, hw.t, hw.f, hw.r, hw.g, hw.a, fun t ht => hw.kd ht⟩, ⟨hx.gf, hx.ho, hx.ca, fun f k hf hk => by rw [stU_s]; split; exact Or.inl rfl; exact hx.si f k hf hk, hx.ac, hx.pc, hx.ha, hx.mi, hx.pr, hx.bg, hx.le, hx.du, hx.zk, hx.zt, fun f hf => ⟨(hx.zf f hf).1, fun k hk => by rw [stU_s, if_neg (fun e => by have : nF m ≤ f := hf; have := (n86 hk hk1).mp e; omega)]; exact (hx.zf f hf).2 k hk⟩, hx.zr, hx.wh, hx.fi, trivial⟩, hg, ha, hk⟩
theorem in_cms0 {c : Nat} {m : St} (hi : In c m) {t1 : Nat} {v : Int32} (hv : v = 0 ∨ v = 2) : In (c) (cmsS m t1 v) := by
  obtain ⟨hw, hx, hg, ha, hk⟩ := hi
  have b2 := hw.w.2
  have b3 := hw.k.2
  have b4 := hw.t.2
  have b5 := hw.f.2
  have b59 := hw.r.2
  have b60 := hw.g.2
  have b70 := hw.a.2
  have b1 := hw.tl.2
  have v0 : (0 : Int32) ≤ m 1 2 ∧ m 1 2 ≤ 699 := by
    rw [hw.w.1]
    exact ⟨nI0 (by omega), nI_le (by omega) (by decide)⟩
  have v1 : ¬ v = 1 := by rcases hv with rfl | rfl <;> decide
  have v3 : (0 : Int32) ≤ v ∧ v ≤ 3 := by rcases hv with rfl | rfl <;> decide
  exact ⟨⟨hw.w, hw.c, hw.tl, hw.k, hw.t, hw.f, hw.r, hw.g, hw.a, fun t ht => hw.kd ht⟩, ⟨hx.gf, fun t ht => if e : t = t1 then (by show (¬ stU m 118 t1 v 118 t = 1 → stU m 119 t1 (-1) 119 t = -1) ∧ (stU m 118 t1 v 118 t = 1 → _); rw [stU_s, stU_s, if_pos e, if_pos e]; exact ⟨fun _ => rfl, fun z => absurd z v1⟩) else (by show (¬ stU m 118 t1 v 118 t = 1 → stU m 119 t1 (-1) 119 t = -1) ∧ (stU m 118 t1 v 118 t = 1 → ∃ f : Nat, f < nF m ∧ stU m 119 t1 (-1) 119 t = nI f); rw [stU_s, stU_s, if_neg e, if_neg e]; exact hx.ho t ht), fun t ht => if e : t = t1 then (by show 0 ≤ stU m 123 t1 (m 1 2) 123 t ∧ stU m 123 t1 (m 1 2) 123 t ≤ 699; rw [stU_s, if_pos e]; exact v0) else (by show 0 ≤ stU m 123 t1 (m 1 2) 123 t ∧ stU m 123 t1 (m 1 2) 123 t ≤ 699; rw [stU_s, if_neg e]; exact hx.ca t ht), hx.si, hx.ac, hx.pc, hx.ha, hx.mi, hx.pr, hx.bg, hx.le, fun t ht => if e : t = t1 then (by show -1 ≤ stU m 120 t1 (-1) 120 t ∧ stU m 120 t1 (-1) 120 t ≤ 899; rw [stU_s, if_pos e]; exact ⟨by decide, by decide⟩) else (by show -1 ≤ stU m 120 t1 (-1) 120 t ∧ stU m 120 t1 (-1) 120 t ≤ 899; rw [stU_s, if_neg e]; exact hx.du t ht), hx.zk, hx.zt, hx.zf, hx.zr, fun t ht => if e : t = t1 then (by show 0 ≤ stU m 118 t1 (v) 118 t ∧ stU m 118 t1 (v) 118 t ≤ 3; rw [stU_s, if_pos e]; exact v3) else (by show 0 ≤ stU m 118 t1 (v) 118 t ∧ stU m 118 t1 (v) 118 t ≤ 3; rw [stU_s, if_neg e]; exact hx.wh t ht), hx.fi, trivial⟩, hg, ha, hk⟩
theorem in_actS {c : Nat} {m : St} (hi : In c m) (hc : c < 512) {t2 w2 a2 d2 : Int32} : In (c + 1) (stU (stU (stU (stU (stU (stU m 172 (nA m) t2) 173 (nA m) w2) 174 (nA m) a2) 175 (nA m) d2) 178 (nA m) 0) 1 70 (nI (nA m + 1))) := by
  obtain ⟨hw, hx, hg, ha, hk⟩ := hi
  have b2 := hw.w.2
  have b3 := hw.k.2
  have b4 := hw.t.2
  have b5 := hw.f.2
  have b59 := hw.r.2
  have b60 := hw.g.2
  have b70 := hw.a.2
  have b1 := hw.tl.2
  have eA : nA (stU (stU (stU (stU (stU (stU m 172 (nA m) t2) 173 (nA m) w2) 174 (nA m) a2) 175 (nA m) d2) 178 (nA m) 0) 1 70 (nI (nA m + 1))) = nA m + 1 := nI_clamp (by omega)
  exact ⟨⟨hw.w, hw.c, hw.tl, hw.k, hw.t, hw.f, hw.r, hw.g, ⟨by rw [eA]; rfl, by rw [eA]; omega⟩, fun t ht => hw.kd ht⟩, ⟨hx.gf, hx.ho, hx.ca, hx.si, fun i hi2 hne => if e : i = nA m then absurd (show stU m 178 (nA m) 0 178 i = 0 by rw [stU_s, if_pos e]) hne else (by rw [eA] at hi2; exact hx.ac i (by omega) (fun z => hne (show stU m 178 (nA m) 0 178 i = 0 by rw [stU_s, if_neg e]; exact z))), hx.pc, hx.ha, hx.mi, hx.pr, hx.bg, hx.le, hx.du, hx.zk, hx.zt, hx.zf, hx.zr, hx.wh, fun i hi2 hne => if e : i = nA m then absurd (show stU m 178 (nA m) 0 178 i = 0 by rw [stU_s, if_pos e]) hne else (by rw [eA] at hi2; exact hx.fi i (by omega) (fun z => hne (show stU m 178 (nA m) 0 178 i = 0 by rw [stU_s, if_neg e]; exact z))), trivial⟩, hg, (by rw [eA]; omega), wkU hk⟩
theorem in_bakS {c : Nat} {m : St} (hi : In c m) (hc : c < 512) {f n : Nat} {t2 w2 a2 d2 c2 l2 : Int32} (en : n = nA m) (hf : f < nF m) (hc2 : c2 = 0 ∨ c2 = 1 ∨ c2 = 2) : In (c + 1) (stU (stU (stU (stU (stU (stU (stU (stU (stU (stU m 172 n t2) 173 n w2) 174 n a2) 175 n d2) 178 n 0) 1 70 (nI (n + 1))) 178 n 1) 176 n (nI f)) 177 n c2) 179 n l2) := by
  obtain ⟨hw, hx, hg, ha, hk⟩ := hi
  have b2 := hw.w.2
  have b3 := hw.k.2
  have b4 := hw.t.2
  have b5 := hw.f.2
  have b59 := hw.r.2
  have b60 := hw.g.2
  have b70 := hw.a.2
  have b1 := hw.tl.2
  subst en
  have eA : nA (stU (stU (stU (stU (stU (stU (stU (stU (stU (stU m 172 (nA m) t2) 173 (nA m) w2) 174 (nA m) a2) 175 (nA m) d2) 178 (nA m) 0) 1 70 (nI (nA m + 1))) 178 (nA m) 1) 176 (nA m) (nI f)) 177 (nA m) c2) 179 (nA m) l2) = nA m + 1 := nI_clamp (by omega)
  have e178 : ∀ i, i ≠ nA m → (stU (stU (stU (stU (stU (stU (stU (stU (stU (stU m 172 (nA m) t2) 173 (nA m) w2) 174 (nA m) a2) 175 (nA m) d2) 178 (nA m) 0) 1 70 (nI (nA m + 1))) 178 (nA m) 1) 176 (nA m) (nI f)) 177 (nA m) c2) 179 (nA m) l2) 178 i = m 178 i := fun i hi2 => by show stU (stU m 178 (nA m) 0) 178 (nA m) 1 178 i = m 178 i; rw [stU_s, if_neg hi2, stU_s, if_neg hi2]
  exact ⟨⟨hw.w, hw.c, hw.tl, hw.k, hw.t, hw.f, hw.r, hw.g, ⟨by rw [eA]; rfl, by rw [eA]; omega⟩, fun t ht => hw.kd ht⟩, ⟨hx.gf, hx.ho, hx.ca, hx.si, fun i hi2 hne => if e : i = nA m then ⟨f, hf, by show stU m 176 (nA m) (nI f) 176 i = nI f; rw [stU_s, if_pos e]⟩ else (by rw [eA] at hi2; rw [e178 i e] at hne; obtain ⟨g, h1, h2⟩ := hx.ac i (by omega) hne; exact ⟨g, h1, by show stU m 176 (nA m) (nI f) 176 i = nI g; rw [stU_s, if_neg e]; exact h2⟩), hx.pc, hx.ha, hx.mi, hx.pr, hx.bg, hx.le, hx.du, hx.zk, hx.zt, hx.zf, hx.zr, hx.wh, fun i hi2 hne => if e : i = nA m then (by show stU m 177 (nA m) c2 177 i = 0 ∨ stU m 177 (nA m) c2 177 i = 1 ∨ stU m 177 (nA m) c2 177 i = 2; rw [stU_s, if_pos e]; exact hc2) else (by rw [eA] at hi2; rw [e178 i e] at hne; show stU m 177 (nA m) c2 177 i = 0 ∨ stU m 177 (nA m) c2 177 i = 1 ∨ stU m 177 (nA m) c2 177 i = 2; rw [stU_s, if_neg e]; exact hx.fi i (by omega) hne), trivial⟩, hg, (by rw [eA]; omega), wkU hk⟩
theorem in_out0 {c : Nat} {m : St} (hi : In c m) {t1 f : Nat} {du x1 x2 : Int32} (ht1 : t1 < nT m) (hf : f < nF m) (hdu : -1 ≤ du ∧ du ≤ 899) : In (c) (stU (stU (stU (stU (stU m 120 t1 du) 118 t1 (nI 1)) 119 t1 (nI f)) 121 t1 x1) 122 t1 x2) := by
  obtain ⟨hw, hx, hg, ha, hk⟩ := hi
  have b2 := hw.w.2
  have b3 := hw.k.2
  have b4 := hw.t.2
  have b5 := hw.f.2
  have b59 := hw.r.2
  have b60 := hw.g.2
  have b70 := hw.a.2
  have b1 := hw.tl.2
  exact ⟨⟨hw.w, hw.c, hw.tl, hw.k, hw.t, hw.f, hw.r, hw.g, hw.a, fun t ht => hw.kd ht⟩, ⟨hx.gf, fun t ht => if e : t = t1 then (by show (¬ stU m 118 t1 (nI 1) 118 t = 1 → _) ∧ (_ → ∃ g : Nat, g < nF m ∧ stU m 119 t1 (nI f) 119 t = nI g); rw [stU_s, stU_s, if_pos e, if_pos e]; exact ⟨fun z => absurd rfl z, fun _ => ⟨f, hf, rfl⟩⟩) else (by show (¬ stU m 118 t1 (nI 1) 118 t = 1 → stU m 119 t1 (nI f) 119 t = -1) ∧ (stU m 118 t1 (nI 1) 118 t = 1 → ∃ g : Nat, g < nF m ∧ stU m 119 t1 (nI f) 119 t = nI g); rw [stU_s, stU_s, if_neg e, if_neg e]; exact hx.ho t ht), hx.ca, hx.si, hx.ac, hx.pc, hx.ha, hx.mi, hx.pr, hx.bg, hx.le, fun t ht => if e : t = t1 then (by show -1 ≤ stU m 120 t1 (du) 120 t ∧ stU m 120 t1 (du) 120 t ≤ 899; rw [stU_s, if_pos e]; exact hdu) else (by show -1 ≤ stU m 120 t1 (du) 120 t ∧ stU m 120 t1 (du) 120 t ≤ 899; rw [stU_s, if_neg e]; exact hx.du t ht), hx.zk, fun t ht => ⟨(hx.zt t ht).1, by show stU m 121 t1 x1 121 t = 0; rw [stU_s, if_neg (fun e => by have : nT m ≤ t := ht; omega)]; exact (hx.zt t ht).2.1, by show stU m 122 t1 x2 122 t = 0; rw [stU_s, if_neg (fun e => by have : nT m ≤ t := ht; omega)]; exact (hx.zt t ht).2.2.1, (hx.zt t ht).2.2.2⟩, hx.zf, hx.zr, fun t ht => if e : t = t1 then (by show 0 ≤ stU m 118 t1 (nI 1) 118 t ∧ stU m 118 t1 (nI 1) 118 t ≤ 3; rw [stU_s, if_pos e]; exact ⟨by decide, by decide⟩) else (by show 0 ≤ stU m 118 t1 (nI 1) 118 t ∧ stU m 118 t1 (nI 1) 118 t ≤ 3; rw [stU_s, if_neg e]; exact hx.wh t ht), hx.fi, trivial⟩, hg, ha, hk⟩
theorem in_len71 {c : Nat} {m : St} (hi : In c m) {n : Nat} (hn : n ≤ 300) : In (c) (stU m 1 71 (nI n)) := by
  obtain ⟨hw, hx, hg, ha, hk⟩ := hi
  have b2 := hw.w.2
  have b3 := hw.k.2
  have b4 := hw.t.2
  have b5 := hw.f.2
  have b59 := hw.r.2
  have b60 := hw.g.2
  have b70 := hw.a.2
  have b1 := hw.tl.2
  exact ⟨⟨hw.w, hw.c, hw.tl, hw.k, hw.t, hw.f, hw.r, hw.g, hw.a, fun t ht => hw.kd ht⟩, ⟨hx.gf, hx.ho, hx.ca, hx.si, hx.ac, hx.pc, hx.ha, hx.mi, hx.pr, hx.bg, ⟨n, hn, rfl⟩, hx.du, hx.zk, hx.zt, hx.zf, hx.zr, hx.wh, hx.fi, trivial⟩, hg, ha, hk⟩
