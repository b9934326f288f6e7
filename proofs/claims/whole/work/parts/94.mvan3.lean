theorem mx_ext {A B : Nat → Nat → Prop} {F G T : Nat} (h : ∀ t f, t < T → ((f < F ∧ A t f) ↔ (f < G ∧ B t f))) (S : Nat → Prop) : mx A F T S = mx B G T S := by
  have tr : ∀ {A B : Nat → Nat → Prop} {F G : Nat} {U : Nat → Prop}, (∀ t f, t < T → ((f < F ∧ A t f) → (f < G ∧ B t f))) → Mb A F T U → Mb B G T U := fun h ⟨φ, h1, h2⟩ => ⟨φ, fun t ht u => h t _ ht (h1 t ht u), h2⟩
  refine mx_of ?_ (fun W a b => mx_up a (tr (fun t f ht => (h t f ht).mp) b))
  obtain ⟨W, a, b, c⟩ := mx_in B G T S
  exact ⟨W, a, tr (fun t f ht => (h t f ht).mpr) b, c⟩
theorem ac_iff {m : St} (hw : Wf m) {R : Rm} {v : Int32} {h : Hp} (cm : CM m R v (nF m) h) {t f : Nat} (ht : t < nT m) : (f < nF m ∧ Ac h t f) ↔ (f < 10 ∧ vA m R v t f) := by
  have hTb := hw.t.2
  have hFb := hw.f.2
  have key : f < nF m → (Ac h t f ↔ vW0 m R v t f) := fun hf => by
    show hasB (h.1 (190, 0) f) t ↔ _
    rw [cm f hf, hasB_iff _ (show t < 32 by omega), bt_cdM hTb]
    exact ⟨fun z => z.2, fun z => ⟨ht, z⟩⟩
  exact ⟨fun z => ⟨by omega, z.1, (key z.1).mp z.2⟩, fun z => ⟨z.2.1, (key z.2.1).mpr z.2.2⟩⟩
theorem any_iff {m : St} (hw : Wf m) {R : Rm} {v : Int32} {s : Nat} (hs : s < p2 (nT m)) : nI s &&& ((orr (fun g => cdM m R v g (nT m)) (nF m)) ^^^ (-1)) = 0 ↔ ∀ t, t < nT m → tb s t → ∃ f, f < 10 ∧ vA m R v t f := by
  have hTb := hw.t.2
  have hFb := hw.f.2
  have ka : ∀ t, bt (orr (fun g => cdM m R v g (nT m)) (nF m)) t = true ↔ ∃ g, g < nF m ∧ t < nT m ∧ vW0 m R v t g := fun t => by
    rw [bt_orr]
    exact ⟨fun ⟨g, hg, q⟩ => ⟨g, hg, (bt_cdM hTb).mp q⟩, fun ⟨g, hg, q⟩ => ⟨g, hg, (bt_cdM hTb).mpr q⟩⟩
  constructor
  · intro e t ht st
    have q := congrArg (fun z => bt z t) e
    change bt _ t = bt 0 t at q
    rw [bt_and, bt_nI s (show t < 32 by omega), bt_neg _ (show t < 32 by omega), bt_0, show s.testBit t = true from st, Bool.true_and] at q
    obtain ⟨g, hg, _, w⟩ := (ka t).mp (by cases z : bt (orr (fun g => cdM m R v g (nT m)) (nF m)) t <;> simp_all)
    exact ⟨g, by omega, hg, w⟩
  · intro q
    refine bt_eq fun j hj => ?_
    rw [bt_and, bt_nI s hj, bt_neg _ hj, bt_0, Bool.and_eq_true]
    refine ⟨fun z => ?_, fun z => absurd z Bool.false_ne_true⟩
    have jt : j < nT m := Classical.byContradiction fun y => vtb_hi (Nat.lt_of_lt_of_le hs (p2_le (show nT m ≤ j by omega))) z.1
    obtain ⟨f, _, hf, w⟩ := q j jt z.1
    have a := (ka j).mpr ⟨f, hf, jt, w⟩
    rw [a] at z
    exact absurd z.2 (by decide)
theorem VP.mk {h h' : Hp} (k : VP h h') : Mk h h' := ⟨k.1, fun a _ h2 => k.2 a (fun z => by rw [z] at h2; exact absurd h2 (by decide))⟩
set_option maxRecDepth 4000 in
theorem lm_vE {E : En} (hok : EOK E) {hb h0 : Hp} {m : St} (hsb : Shp hb.2) (hwm : Wf m) {R : Rm} {v p3_ : Int32} {n : Nat} (hn6 : n ≤ 6) {d : Nat} (hd : 7 ≤ d) {Q : Option V → Hp → Prop} (hQ : ∀ h best, mo h = m → Mk hb h → isO (vA m R v) 10 (nT m) n best → G E m_X12_van d 0 0 Q h0 252 [some (vR MO), some (vI v), some (vI (nI n)), some (vI p3_), some (vI (orr (fun g => cdM m R v g (nT m)) (nF m))), some (vI (nI best)), some (vI (nI (mx (vA m R v) 10 (nT m) (tb best)))), none, none] [] h 0 0) : ∀ c s best (h : Hp), s ≤ p2 (nT m) → p2 (nT m) - s = c → mo h = m → Mk hb h → CM m R v (nF m) h → best < s → vd (vA m R v) 10 (nT m) n best → (∀ y, y < s → vd (vA m R v) 10 (nT m) n y → obt (vA m R v) 10 (nT m) best y) → G E m_X12_van d 0 0 Q h0 166 [some (vR MO), some (vI v), some (vI (nI n)), some (vI p3_), some (vI (orr (fun g => cdM m R v g (nT m)) (nF m))), some (vI (nI best)), some (vI (nI (mx (vA m R v) 10 (nT m) (tb best)))), some (vI (nI s)), none] [] h 0 0 := by
  intro c
  induction c with
  | zero =>
    intro s best h g1 g2 hm mk cm hbs hvd hob
    subst hm
    have hs : Shp h.2 := by rw [mk.1]; exact hsb
    have hw : Wf (mo h) := hwm
    have hNw : h.1 MO 2 = nI (nW (mo h)) := hw.w.1
    have hNwb := hw.w.2
    have hC : h.1 MO 30 = nI (nC (mo h)) := hw.c.1
    have hCb := hw.c.2
    have hK : h.1 MO 3 = nI (nK (mo h)) := hw.k.1
    have hKb := hw.k.2
    have hT : h.1 MO 4 = nI (nT (mo h)) := hw.t.1
    have hTb := hw.t.2
    have hF : h.1 MO 5 = nI (nF (mo h)) := hw.f.1
    have hFb := hw.f.2
    have hRc : h.1 MO 59 = nI (nR (mo h)) := hw.r.1
    have hRb := hw.r.2
    have hG : h.1 MO 60 = nI (nGf (mo h)) := hw.g.1
    have hGb := hw.g.2
    have hA : h.1 MO 70 = nI (nA (mo h)) := hw.a.1
    have hAb := hw.a.2
    have hTl : h.1 MO 1 = nI (nTl (mo h)) := hw.tl.1
    have hTlb := hw.tl.2
    have hp16 := p2_16 hTb
    have hmb := mx_le (vA (mo h) R v) 10 (nT (mo h)) (tb best)
    have hb6 := hvd.2.1
    refine g_iload (pc' := 168) dX12_van_166 rfl rfl ?_
    refine g_iconstN (n := 1) (pc' := 169) dX12_van_168 rfl ?_
    refine g_aload_n (pc' := 170) dX12_van_169 rfl rfl ?_
    refine g_getIv (v := nI (nT (mo h))) (pc' := 173) (k := 4) dX12_van_170 rfl rfl ck_13 (by decide) fl_X12_211 rfl (hT) ?_
    refine g_ishl (pc' := 174) dX12_van_173 rfl ?_
    rw [shl_p2 (by omega)]
    refine g_icmp_geN (tgt := 252) (pc' := 177) dX12_van_174 rfl (by decide) (by omega) (by omega) (fun c174 => ?_) (fun c174 => ?_)
    ·
      have e : s = p2 (nT (mo h)) := by omega
      subst e
      refine G.drop 7 ?_
      simp only [List.set]
      exact hQ h best rfl mk ⟨hvd, fun y hy => hob y hy.1 hy⟩
    · exact absurd c174 (by omega)
  | succ c ih =>
    intro s best h g1 g2 hm mk cm hbs hvd hob
    subst hm
    have hs : Shp h.2 := by rw [mk.1]; exact hsb
    have hw : Wf (mo h) := hwm
    have hNw : h.1 MO 2 = nI (nW (mo h)) := hw.w.1
    have hNwb := hw.w.2
    have hC : h.1 MO 30 = nI (nC (mo h)) := hw.c.1
    have hCb := hw.c.2
    have hK : h.1 MO 3 = nI (nK (mo h)) := hw.k.1
    have hKb := hw.k.2
    have hT : h.1 MO 4 = nI (nT (mo h)) := hw.t.1
    have hTb := hw.t.2
    have hF : h.1 MO 5 = nI (nF (mo h)) := hw.f.1
    have hFb := hw.f.2
    have hRc : h.1 MO 59 = nI (nR (mo h)) := hw.r.1
    have hRb := hw.r.2
    have hG : h.1 MO 60 = nI (nGf (mo h)) := hw.g.1
    have hGb := hw.g.2
    have hA : h.1 MO 70 = nI (nA (mo h)) := hw.a.1
    have hAb := hw.a.2
    have hTl : h.1 MO 1 = nI (nTl (mo h)) := hw.tl.1
    have hTlb := hw.tl.2
    have hp16 := p2_16 hTb
    have hmb := mx_le (vA (mo h) R v) 10 (nT (mo h)) (tb best)
    have hb6 := hvd.2.1
    have hsT : s < p2 (nT (mo h)) := by omega
    have es : cnt (tb s) 16 = cnt (tb s) (nT (mo h)) := cnt_hi hsT hTb
    have eb : cnt (tb best) 16 = cnt (tb best) (nT (mo h)) := cnt_hi hvd.1 hTb
    have hc16 := cnt_le (tb s) 16
    have hcv : ∀ f, f < nF (mo h) → ¬ h.1 (128, 0) f = v → h.1 (190, 0) f = 0 := fun f hf z => (cm f hf).trans (cdM_z hTb z)
    refine g_iload (pc' := 168) dX12_van_166 rfl rfl ?_
    refine g_iconstN (n := 1) (pc' := 169) dX12_van_168 rfl ?_
    refine g_aload_n (pc' := 170) dX12_van_169 rfl rfl ?_
    refine g_getIv (v := nI (nT (mo h))) (pc' := 173) (k := 4) dX12_van_170 rfl rfl ck_13 (by decide) fl_X12_211 rfl (hT) ?_
    refine g_ishl (pc' := 174) dX12_van_173 rfl ?_
    rw [shl_p2 (by omega)]
    refine g_icmp_geN (tgt := 252) (pc' := 177) dX12_van_174 rfl (by decide) (by omega) (by omega) (fun c174 => ?_) (fun c174 => ?_)
    · exact absurd c174 (by omega)
    ·
      refine g_iload (pc' := 179) dX12_van_177 rfl rfl ?_
      refine g_invS (pc' := 182) (cm_sizeOf hok (x := s) (by omega)) dX12_van_179 rfl ml_X12_531 st_X12_sizeOf in_X12 co_X12_sizeOf pd_X12_sizeOf rfl (by omega) (by decide) ⟨by decide, by decide⟩ (Nat.le_of_ble_eq_true rfl) ?_
      rintro _ _ ⟨rfl, rfl⟩ -
      refine g_iload_n (pc' := 183) dX12_van_182 rfl rfl ?_
      refine g_icmp_gtN (tgt := 246) (pc' := 186) dX12_van_183 rfl (by decide) (by omega) (by omega) (fun c183 => ?_) (fun c183 => ?_)
      ·
        refine g_iincN (k := 1) (pc' := 249) dX12_van_246 rfl rfl (by decide) rfl ?_
        try simp only [List.set]
        refine g_goto (tgt := 166) dX12_van_249 (by decide) ?_
        exact ih (s + 1) best h (by omega) (by omega) rfl mk cm (by omega) hvd (fun y hy vy => if e : y = s then absurd (e ▸ vy) (fun z => by have := z.2.1; omega) else hob y (by omega) vy)
      ·
        refine g_iload (pc' := 188) dX12_van_186 rfl rfl ?_
        refine g_iload (pc' := 190) dX12_van_188 rfl rfl ?_
        refine g_iconst (v := -1) (pc' := 191) dX12_van_190 rfl (by decide) ?_
        refine g_ixor (pc' := 192) dX12_van_191 rfl ?_
        refine g_iand (pc' := 193) dX12_van_192 rfl ?_
        refine g_if_eq (tgt := 199) (pc' := 196) dX12_van_193 rfl (by decide) (fun c193 => ?_) (fun c193 => ?_)
        ·
          refine g_aload_n (pc' := 200) dX12_van_199 rfl rfl ?_
          refine g_iload (pc' := 202) dX12_van_200 rfl rfl ?_
          refine g_iload_n (pc' := 203) dX12_van_202 rfl rfl ?_
          refine g_invV (pc' := 206) (cm_pairsOf hok hs hw (S := s) (v := v) hsT (by omega) hcv) dX12_van_203 rfl rfl ck_13 rfl ml_X12_534 im_X12_pairsOf sl_X12_pairsOf in_X12 co_X12_pairsOf pd_X12_pairsOf rfl (by omega) (by decide) ⟨by decide, by decide⟩ (Nat.le_of_ble_eq_true rfl) ?_
          rintro _ h1 ⟨rfl, v1⟩ -
          rw [mx_ext (A := Ac h) (B := vA (mo h) R v) (F := nF (mo h)) (G := 10) (T := nT (mo h)) (fun t f ht => ac_iff hw cm ht) (tb s)]
          have hs1 : Shp h1.2 := by rw [v1.1]; exact hs
          have m1 := mo_vp v1
          have cm1 : CM (mo h) R v (nF (mo h)) h1 := fun g hg => by rw [v1.2 (190, 0) (by decide)]; exact cm g hg
          have hml := mx_le (vA (mo h) R v) 10 (nT (mo h)) (tb s)
          refine g_istore (pc' := 208) dX12_van_206 rfl (by decide) rfl ?_
          try simp only [List.set]
          refine g_iload (pc' := 210) dX12_van_208 rfl rfl ?_
          refine g_iload (pc' := 212) dX12_van_210 rfl rfl ?_
          refine g_icmp_ltN (tgt := 246) (pc' := 215) dX12_van_212 rfl (by decide) (by omega) (by omega) (fun c212 => ?_) (fun c212 => ?_)
          ·
            refine g_iincN (k := 1) (pc' := 249) dX12_van_246 rfl rfl (by decide) rfl ?_
            try simp only [List.set]
            refine g_goto (tgt := 166) dX12_van_249 (by decide) ?_
            refine G.drop 8 ?_
            simp only [List.set]
            have vs : vd (vA (mo h) R v) 10 (nT (mo h)) n s := ⟨hsT, by omega, (any_iff hw hsT).mp c193⟩
            refine ih (s + 1) best h1 (by omega) (by omega) m1 (mk.tr v1.mk) cm1 (by omega) hvd (fun y hy vy => ?_)
            by_cases e : y = s
            · rw [e]
              unfold obt
              omega
            · exact hob y (by omega) vy
          ·
            refine g_iload (pc' := 217) dX12_van_215 rfl rfl ?_
            refine g_iload (pc' := 219) dX12_van_217 rfl rfl ?_
            refine g_icmp_neN (tgt := 238) (pc' := 222) dX12_van_219 rfl (by decide) (by omega) (by omega) (fun c219 => ?_) (fun c219 => ?_)
            ·
              refine g_iload (pc' := 240) dX12_van_238 rfl rfl ?_
              refine g_istore (pc' := 242) dX12_van_240 rfl (by decide) rfl ?_
              try simp only [List.set]
              refine g_iload (pc' := 244) dX12_van_242 rfl rfl ?_
              refine g_istore (pc' := 246) dX12_van_244 rfl (by decide) rfl ?_
              try simp only [List.set]
              refine g_iincN (k := 1) (pc' := 249) dX12_van_246 rfl rfl (by decide) rfl ?_
              try simp only [List.set]
              refine g_goto (tgt := 166) dX12_van_249 (by decide) ?_
              refine G.drop 8 ?_
              simp only [List.set]
              have vs : vd (vA (mo h) R v) 10 (nT (mo h)) n s := ⟨hsT, by omega, (any_iff hw hsT).mp c193⟩
              refine ih (s + 1) s h1 (by omega) (by omega) m1 (mk.tr v1.mk) cm1 (by omega) vs (fun y hy vy => ?_)
              by_cases e : y = s
              · rw [e]
                unfold obt
                omega
              · have q := hob y (by omega) vy
                unfold obt at q ⊢
                omega
            ·
              refine g_iload (pc' := 224) dX12_van_222 rfl rfl ?_
              refine g_invS (pc' := 227) (cm_sizeOf hok (x := s) (by omega)) dX12_van_224 rfl ml_X12_531 st_X12_sizeOf in_X12 co_X12_sizeOf pd_X12_sizeOf rfl (by omega) (by decide) ⟨by decide, by decide⟩ (Nat.le_of_ble_eq_true rfl) ?_
              rintro _ _ ⟨rfl, rfl⟩ -
              refine g_iload (pc' := 229) dX12_van_227 rfl rfl ?_
              refine g_invS (pc' := 232) (cm_sizeOf hok (x := best) (by omega)) dX12_van_229 rfl ml_X12_531 st_X12_sizeOf in_X12 co_X12_sizeOf pd_X12_sizeOf rfl (by omega) (by decide) ⟨by decide, by decide⟩ (Nat.le_of_ble_eq_true rfl) ?_
              rintro _ _ ⟨rfl, rfl⟩ -
              refine g_icmp_ltN (tgt := 238) (pc' := 235) dX12_van_232 rfl (by decide) (by omega) (by omega) (fun c232 => ?_) (fun c232 => ?_)
              ·
                refine g_iload (pc' := 240) dX12_van_238 rfl rfl ?_
                refine g_istore (pc' := 242) dX12_van_240 rfl (by decide) rfl ?_
                try simp only [List.set]
                refine g_iload (pc' := 244) dX12_van_242 rfl rfl ?_
                refine g_istore (pc' := 246) dX12_van_244 rfl (by decide) rfl ?_
                try simp only [List.set]
                refine g_iincN (k := 1) (pc' := 249) dX12_van_246 rfl rfl (by decide) rfl ?_
                try simp only [List.set]
                refine g_goto (tgt := 166) dX12_van_249 (by decide) ?_
                refine G.drop 8 ?_
                simp only [List.set]
                have vs : vd (vA (mo h) R v) 10 (nT (mo h)) n s := ⟨hsT, by omega, (any_iff hw hsT).mp c193⟩
                refine ih (s + 1) s h1 (by omega) (by omega) m1 (mk.tr v1.mk) cm1 (by omega) vs (fun y hy vy => ?_)
                by_cases e : y = s
                · rw [e]
                  unfold obt
                  omega
                · have q := hob y (by omega) vy
                  unfold obt at q ⊢
                  omega
              ·
                refine g_goto (tgt := 246) dX12_van_235 (by decide) ?_
                refine g_iincN (k := 1) (pc' := 249) dX12_van_246 rfl rfl (by decide) rfl ?_
                try simp only [List.set]
                refine g_goto (tgt := 166) dX12_van_249 (by decide) ?_
                refine G.drop 8 ?_
                simp only [List.set]
                have vs : vd (vA (mo h) R v) 10 (nT (mo h)) n s := ⟨hsT, by omega, (any_iff hw hsT).mp c193⟩
                refine ih (s + 1) best h1 (by omega) (by omega) m1 (mk.tr v1.mk) cm1 (by omega) hvd (fun y hy vy => ?_)
                by_cases e : y = s
                · rw [e]
                  unfold obt
                  omega
                · exact hob y (by omega) vy
        ·
          refine g_goto (tgt := 246) dX12_van_196 (by decide) ?_
          refine g_iincN (k := 1) (pc' := 249) dX12_van_246 rfl rfl (by decide) rfl ?_
          try simp only [List.set]
          refine g_goto (tgt := 166) dX12_van_249 (by decide) ?_
          exact ih (s + 1) best h (by omega) (by omega) rfl mk cm (by omega) hvd (fun y hy vy => if e : y = s then absurd (e ▸ vy) (fun z => c193 ((any_iff hw hsT).mpr z.2.2)) else hob y (by omega) vy)
