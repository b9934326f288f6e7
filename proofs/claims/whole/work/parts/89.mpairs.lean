/-- only the row of pairs changes -/
def VP (h h' : Hp) : Prop := h'.2 = h.2 ∧ ∀ q : Ad, q ≠ (189, 0) → h'.1 q = h.1 q
theorem VP.rf (h : Hp) : VP h h := ⟨rfl, fun _ _ => rfl⟩
theorem VP.tr {a b c : Hp} (x : VP a b) (y : VP b c) : VP a c := ⟨y.1.trans x.1, fun q z => (y.2 q z).trans (x.2 q z)⟩
theorem VP.w {h h' : Hp} {j : Nat} {x : Int32} (k : VP h h') : VP h (wI h' (189, 0) j x) := ⟨k.1, fun q z => (wI_off _ _ _ _ q z).trans (k.2 q z)⟩
def PR (N : Nat) (P : Nat → Prop) (h : Hp) : Prop := ∀ y, y < N → h.1 (189, 0) y = bi (P y)
theorem bi_iff {P P' : Prop} (h : P ↔ P') : bi P = bi P' := congrArg bi (propext h)
theorem PR.c {N : Nat} {P P' : Nat → Prop} {h : Hp} (k : PR N P h) (e : ∀ y, y < N → (P y ↔ P' y)) : PR N P' h := fun y hy => (k y hy).trans (bi_iff (e y hy))
abbrev Ac (h : Hp) (t f : Nat) : Prop := hasB (h.1 (190, 0) f) t
set_option maxRecDepth 4000 in
theorem lm_pD {E : En} (hok : EOK E) {h h0 : Hp} (hs0 : Shp h.2) (hw : Wf (mo h)) {S : Nat} (hS6 : cnt (tb S) (nT (mo h)) ≤ 6) {v : Int32} {d : Nat} (hd : 1 ≤ d) {Q : Option V → Hp → Prop} {f x : Nat} (hf : f < nF (mo h)) (hx : x < (p2 (cnt (tb S) (nT (mo h))))) (hQ : ∀ hh, VP h hh → PR (p2 (cnt (tb S) (nT (mo h)))) (MI (Ac h) f (nT (mo h)) S (p2 (cnt (tb S) (nT (mo h)))) x (nT (mo h))) hh → G E m_X12_pairsOf d 0 0 Q h0 164 [some (vR MO), some (vI (nI S)), some (vI v), some (vI (nI (cnt (tb S) (nT (mo h))))), some (vI (nI f)), some (vI (nI x)), none, none] [] hh 0 0) : ∀ c t (hh : Hp), t ≤ nT (mo h) → nT (mo h) - t = c → VP h hh → PR (p2 (cnt (tb S) (nT (mo h)))) (MI (Ac h) f (nT (mo h)) S (p2 (cnt (tb S) (nT (mo h)))) x t) hh → G E m_X12_pairsOf d 0 0 Q h0 96 [some (vR MO), some (vI (nI S)), some (vI v), some (vI (nI (cnt (tb S) (nT (mo h))))), some (vI (nI f)), some (vI (nI x)), some (vI (nI (cnt (tb S) t))), some (vI (nI t))] [] hh 0 0 := by
  have hNw : h.1 MO 2 = nI (nW (mo h)) := hw.w.1
  have hNwb := hw.w.2
  have hC : h.1 MO 30 = nI (nC (mo h)) := hw.c.1
  have hCb := hw.c.2
  have hK : h.1 MO 3 = nI (nK (mo h)) := hw.k.1
  have hKb := hw.k.2
  have hT : h.1 MO 4 = nI (nT (mo h)) := hw.t.1
  have hTb := hw.t.2
  have hF : h.1 MO 5 = nI (nF (mo h)) := hw.f.1
  have hFb := hw.f.2
  have hRc : h.1 MO 59 = nI (nR (mo h)) := hw.r.1
  have hRb := hw.r.2
  have hG : h.1 MO 60 = nI (nGf (mo h)) := hw.g.1
  have hGb := hw.g.2
  have hA : h.1 MO 70 = nI (nA (mo h)) := hw.a.1
  have hAb := hw.a.2
  have hTl : h.1 MO 1 = nI (nTl (mo h)) := hw.tl.1
  have hTlb := hw.tl.2
  have hN : (p2 (cnt (tb S) (nT (mo h)))) ≤ 64 := p2_le (b := 6) hS6
  intro c
  induction c with
  | zero =>
    intro t hh h1 h2 vp pr
    have hs : Shp hh.2 := by rw [vp.1]; exact hs0
    have hTh : hh.1 MO 4 = nI (nT (mo h)) := by rw [vp.2 MO (by decide)]; exact hT
    refine g_iload (pc' := 98) dX12_pairsOf_96 rfl rfl ?_
    refine g_aload_n (pc' := 99) dX12_pairsOf_98 rfl rfl ?_
    refine g_getIv (v := nI (nT (mo h))) (pc' := 102) (k := 4) dX12_pairsOf_99 rfl rfl ck_13 (by decide) fl_X12_211 rfl (hTh) ?_
    refine g_icmp_geN (tgt := 164) (pc' := 105) dX12_pairsOf_102 rfl (by decide) (by omega) (by omega) (fun c102 => ?_) (fun c102 => ?_)
    ·
      have e : t = nT (mo h) := by omega
      subst e
      refine G.drop 6 ?_
      refine G.drop 7 ?_
      simp only [List.set]
      exact hQ hh vp pr
    · exact absurd c102 (by omega)
  | succ c ih =>
    intro t hh h1 h2 vp pr
    have hs : Shp hh.2 := by rw [vp.1]; exact hs0
    have hTh : hh.1 MO 4 = nI (nT (mo h)) := by rw [vp.2 MO (by decide)]; exact hT
    have htl : t < nT (mo h) := by omega
    have hcu := cnt_up (p := tb S) (show t ≤ nT (mo h) by omega)
    have hcb := cnt_le (tb S) (nT (mo h))
    refine g_iload (pc' := 98) dX12_pairsOf_96 rfl rfl ?_
    refine g_aload_n (pc' := 99) dX12_pairsOf_98 rfl rfl ?_
    refine g_getIv (v := nI (nT (mo h))) (pc' := 102) (k := 4) dX12_pairsOf_99 rfl rfl ck_13 (by decide) fl_X12_211 rfl (hTh) ?_
    refine g_icmp_geN (tgt := 164) (pc' := 105) dX12_pairsOf_102 rfl (by decide) (by omega) (by omega) (fun c102 => ?_) (fun c102 => ?_)
    · exact absurd c102 (by omega)
    ·
      refine g_iload_n (pc' := 106) dX12_pairsOf_105 rfl rfl ?_
      refine g_iload (pc' := 108) dX12_pairsOf_106 rfl rfl ?_
      refine g_invS (pc' := 111) (cm_has hok _ _) dX12_pairsOf_108 rfl ml_X12_440 st_X12_has in_X12 co_X12_has pd_X12_has rfl (by omega) (by decide) ⟨by decide, by decide⟩ (Nat.le_of_ble_eq_true rfl) ?_
      rintro _ _ ⟨rfl, rfl⟩ -
      refine g_ifB_ne (tgt := 117) (pc' := 114) dX12_pairsOf_111 rfl (by decide) (fun c111 => ?_) (fun c111 => ?_)
      ·
        refine g_aload_n (pc' := 118) dX12_pairsOf_117 rfl rfl ?_
        refine g_getS (pc' := 121) (k := 90) (b := (190, 0)) dX12_pairsOf_118 rfl rfl ck_13 (by decide) fl_X12_195 rfl hs rfl ?_
        refine g_iload (pc' := 123) dX12_pairsOf_121 rfl rfl ?_
        refine g_ialdN (pc' := 124) (v := h.1 (190, 0) f) dX12_pairsOf_123 rfl rfl (by decide) (by omega) (by rw [vp.2 (190, 0) (by decide)]) ?_
        refine g_iload (pc' := 126) dX12_pairsOf_124 rfl rfl ?_
        refine g_invS (pc' := 129) (cm_has hok _ _) dX12_pairsOf_126 rfl ml_X12_440 st_X12_has in_X12 co_X12_has pd_X12_has rfl (by omega) (by decide) ⟨by decide, by decide⟩ (Nat.le_of_ble_eq_true rfl) ?_
        rintro _ _ ⟨rfl, rfl⟩ -
        refine g_ifB_eq (tgt := 155) (pc' := 132) dX12_pairsOf_129 rfl (by decide) (fun c129 => ?_) (fun c129 => ?_)
        ·
          refine g_iincN (k := 1) (pc' := 158) dX12_pairsOf_155 rfl rfl (by decide) rfl ?_
          try simp only [List.set]
          refine g_iincN (k := 1) (pc' := 161) dX12_pairsOf_158 rfl rfl (by decide) rfl ?_
          try simp only [List.set]
          refine g_goto (tgt := 96) dX12_pairsOf_161 (by decide) ?_
          have ys : tb S t := (hasB_nI S (by omega)).mp c111
          have q := ih (t + 1) hh (by omega) (by omega) vp (pr.c (fun y _ => (mi_no (fun z => c129 z.2.1)).symm))
          rw [cnt_t ys] at q
          exact q
        ·
          refine g_iload (pc' := 134) dX12_pairsOf_132 rfl rfl ?_
          refine g_iload (pc' := 136) dX12_pairsOf_134 rfl rfl ?_
          refine g_invS (pc' := 139) (cm_has hok _ _) dX12_pairsOf_136 rfl ml_X12_440 st_X12_has in_X12 co_X12_has pd_X12_has rfl (by omega) (by decide) ⟨by decide, by decide⟩ (Nat.le_of_ble_eq_true rfl) ?_
          rintro _ _ ⟨rfl, rfl⟩ -
          refine g_ifB_ne (tgt := 155) (pc' := 142) dX12_pairsOf_139 rfl (by decide) (fun c139 => ?_) (fun c139 => ?_)
          ·
            refine g_iincN (k := 1) (pc' := 158) dX12_pairsOf_155 rfl rfl (by decide) rfl ?_
            try simp only [List.set]
            refine g_iincN (k := 1) (pc' := 161) dX12_pairsOf_158 rfl rfl (by decide) rfl ?_
            try simp only [List.set]
            refine g_goto (tgt := 96) dX12_pairsOf_161 (by decide) ?_
            have ys : tb S t := (hasB_nI S (by omega)).mp c111
            have q := ih (t + 1) hh (by omega) (by omega) vp (pr.c (fun y _ => (mi_no (fun z => z.2.2 ((hasB_nI x (by omega)).mp c139))).symm))
            rw [cnt_t ys] at q
            exact q
          ·
            refine g_aload_n (pc' := 143) dX12_pairsOf_142 rfl rfl ?_
            refine g_getS (pc' := 146) (k := 89) (b := (189, 0)) dX12_pairsOf_143 rfl rfl ck_13 (by decide) fl_X12_192 rfl hs rfl ?_
            refine g_iload (pc' := 148) dX12_pairsOf_146 rfl rfl ?_
            refine g_iconstN (n := 1) (pc' := 149) dX12_pairsOf_148 rfl ?_
            refine g_iload (pc' := 151) dX12_pairsOf_149 rfl rfl ?_
            refine g_ishl (pc' := 152) dX12_pairsOf_151 rfl ?_
            refine g_ior (pc' := 153) dX12_pairsOf_152 rfl ?_
            have ys : tb S t := (hasB_nI S (by omega)).mp c111
            have nx_ : ¬ tb x (cnt (tb S) t) := fun z => c139 ((hasB_nI x (by omega)).mpr z)
            have hlt := cnt_lt (p := tb S) htl ys
            have hyN : x ||| p2 (cnt (tb S) t) < (p2 (cnt (tb S) (nT (mo h)))) := Nat.or_lt_two_pow hx (Nat.pow_lt_pow_right (by decide) hlt)
            rw [orp_I (by omega)]
            have PRX : PR (p2 (cnt (tb S) (nT (mo h)))) (MI (Ac h) f (nT (mo h)) S (p2 (cnt (tb S) (nT (mo h)))) x (t + 1)) (wI hh (189, 0) (x ||| p2 (cnt (tb S) t)) (nI 1)) := fun y hy => by
              rw [wI_at, bi_iff (mi_yes ys c129 nx_)]
              by_cases z : y = x ||| p2 (cnt (tb S) t)
              · rw [if_pos ⟨rfl, z⟩, bi_t (Or.inr z)]; rfl
              · rw [if_neg (fun q => z q.2), pr y hy]
                exact bi_iff ⟨Or.inl, fun q => q.resolve_right z⟩
            refine g_iconstN (n := 1) (pc' := 154) dX12_pairsOf_153 rfl ?_
            refine g_zastN (pc' := 155) dX12_pairsOf_154 rfl rfl (by decide) (by omega) ?_
            refine g_iincN (k := 1) (pc' := 158) dX12_pairsOf_155 rfl rfl (by decide) rfl ?_
            try simp only [List.set]
            refine g_iincN (k := 1) (pc' := 161) dX12_pairsOf_158 rfl rfl (by decide) rfl ?_
            try simp only [List.set]
            refine g_goto (tgt := 96) dX12_pairsOf_161 (by decide) ?_
            have q := ih (t + 1) _ (by omega) (by omega) vp.w PRX
            rw [cnt_t ys] at q
            exact q
      ·
        refine g_goto (tgt := 158) dX12_pairsOf_114 (by decide) ?_
        refine g_iincN (k := 1) (pc' := 161) dX12_pairsOf_158 rfl rfl (by decide) rfl ?_
        try simp only [List.set]
        refine g_goto (tgt := 96) dX12_pairsOf_161 (by decide) ?_
        have ns : ¬ tb S t := fun z => c111 ((hasB_nI S (by omega)).mpr z)
        have q := ih (t + 1) hh (by omega) (by omega) vp (pr.c (fun y _ => (mi_no (fun z => ns z.1)).symm))
        rw [cnt_f ns, Nat.add_zero] at q
        exact q
set_option maxRecDepth 4000 in
theorem lm_pC {E : En} (hok : EOK E) {h h0 : Hp} (hs0 : Shp h.2) (hw : Wf (mo h)) {S : Nat} (hS6 : cnt (tb S) (nT (mo h)) ≤ 6) {v : Int32} {d : Nat} (hd : 1 ≤ d) {Q : Option V → Hp → Prop} {f : Nat} (hf : f < nF (mo h)) (hQ : ∀ hh, VP h hh → PR (p2 (cnt (tb S) (nT (mo h)))) (PF (Ac h) (f + 1) (nT (mo h)) S) hh → G E m_X12_pairsOf d 0 0 Q h0 170 [some (vR MO), some (vI (nI S)), some (vI v), some (vI (nI (cnt (tb S) (nT (mo h))))), some (vI (nI f)), none, none, none] [] hh 0 0) : ∀ k (hh : Hp), k ≤ (p2 (cnt (tb S) (nT (mo h)))) → VP h hh → PR (p2 (cnt (tb S) (nT (mo h)))) (MD (Ac h) f (nT (mo h)) S (p2 (cnt (tb S) (nT (mo h)))) k) hh → G E m_X12_pairsOf d 0 0 Q h0 72 [some (vR MO), some (vI (nI S)), some (vI v), some (vI (nI (cnt (tb S) (nT (mo h))))), some (vI (nI f)), some (vI (nI k - nI 1)), none, none] [] hh 0 0 := by
  have hNw : h.1 MO 2 = nI (nW (mo h)) := hw.w.1
  have hNwb := hw.w.2
  have hC : h.1 MO 30 = nI (nC (mo h)) := hw.c.1
  have hCb := hw.c.2
  have hK : h.1 MO 3 = nI (nK (mo h)) := hw.k.1
  have hKb := hw.k.2
  have hT : h.1 MO 4 = nI (nT (mo h)) := hw.t.1
  have hTb := hw.t.2
  have hF : h.1 MO 5 = nI (nF (mo h)) := hw.f.1
  have hFb := hw.f.2
  have hRc : h.1 MO 59 = nI (nR (mo h)) := hw.r.1
  have hRb := hw.r.2
  have hG : h.1 MO 60 = nI (nGf (mo h)) := hw.g.1
  have hGb := hw.g.2
  have hA : h.1 MO 70 = nI (nA (mo h)) := hw.a.1
  have hAb := hw.a.2
  have hTl : h.1 MO 1 = nI (nTl (mo h)) := hw.tl.1
  have hTlb := hw.tl.2
  have hN : (p2 (cnt (tb S) (nT (mo h)))) ≤ 64 := p2_le (b := 6) hS6
  intro k
  induction k with
  | zero =>
    intro hh h1 vp pr
    have hs : Shp hh.2 := by rw [vp.1]; exact hs0
    refine g_iload (pc' := 74) dX12_pairsOf_72 rfl rfl ?_
    refine g_if_lt (tgt := 170) (pc' := 77) dX12_pairsOf_74 rfl (by decide) (fun c74 => ?_) (fun c74 => ?_)
    ·
      refine G.drop 5 ?_
      simp only [List.set]
      exact hQ hh vp (pr.c (fun y hy => md_0 hy))
    · exact absurd (by decide) c74
  | succ x ih =>
    intro hh h1 vp pr
    have hs : Shp hh.2 := by rw [vp.1]; exact hs0
    have e1 : nI (x + 1) - nI 1 = nI x := nI_pred x
    rw [e1]
    have hx : x < (p2 (cnt (tb S) (nT (mo h)))) := h1
    refine g_iload (pc' := 74) dX12_pairsOf_72 rfl rfl ?_
    refine g_if_lt (tgt := 170) (pc' := 77) dX12_pairsOf_74 rfl (by decide) (fun c74 => ?_) (fun c74 => ?_)
    · exact absurd c74 (nI_pos (by omega))
    ·
      refine g_aload_n (pc' := 78) dX12_pairsOf_77 rfl rfl ?_
      refine g_getS (pc' := 81) (k := 89) (b := (189, 0)) dX12_pairsOf_78 rfl rfl ck_13 (by decide) fl_X12_192 rfl hs rfl ?_
      refine g_iload (pc' := 83) dX12_pairsOf_81 rfl rfl ?_
      refine g_zaldN (pc' := 84) (v := bi (MD (Ac h) f (nT (mo h)) S (p2 (cnt (tb S) (nT (mo h)))) (x + 1) x)) dX12_pairsOf_83 rfl rfl (by decide) (by omega) (pr x hx) ?_
      refine g_ifB_ne (tgt := 90) (pc' := 87) dX12_pairsOf_84 rfl (by decide) (fun c84 => ?_) (fun c84 => ?_)
      ·
        refine g_iconstN (n := 0) (pc' := 91) dX12_pairsOf_90 rfl ?_
        refine g_istore (pc' := 93) dX12_pairsOf_91 rfl (by decide) rfl ?_
        try simp only [List.set]
        refine g_iconstN (n := 0) (pc' := 94) dX12_pairsOf_93 rfl ?_
        refine g_istore (pc' := 96) dX12_pairsOf_94 rfl (by decide) rfl ?_
        try simp only [List.set]
        refine lm_pD hok hs0 hw hS6 hd hf hx (fun h3 v3 p3 => ?_) _ 0 hh (Nat.zero_le _) rfl vp (pr.c (fun y _ => mi_0.symm))
        refine g_iinc (v := nI x - nI 1) (pc' := 167) dX12_pairsOf_164 rfl rfl (by rw [Int32.sub_eq_add_neg]; rfl) (by decide) rfl ?_
        try simp only [List.set]
        refine g_goto (tgt := 72) dX12_pairsOf_167 (by decide) ?_
        exact ih h3 (by omega) v3 (p3.c (fun y _ => mi_T hx (md_self.mp c84)))
      ·
        refine g_goto (tgt := 164) dX12_pairsOf_87 (by decide) ?_
        refine g_iinc (v := nI x - nI 1) (pc' := 167) dX12_pairsOf_164 rfl rfl (by rw [Int32.sub_eq_add_neg]; rfl) (by decide) rfl ?_
        try simp only [List.set]
        refine g_goto (tgt := 72) dX12_pairsOf_167 (by decide) ?_
        exact ih hh (by omega) vp (pr.c (fun y _ => (md_no (fun z => c84 (md_self.mpr z))).symm))
theorem pf_skip {A : Nat → Nat → Prop} {f T S y : Nat} (h : ∀ t, t < T → ¬ A t f) : PF A f T S y ↔ PF A (f + 1) T S y := ⟨pf_mo, fun q => (pf_dn q).elim id (fun ⟨_, t, _, _, h4, _, h6, _⟩ => absurd h6 (h t h4))⟩
set_option maxRecDepth 4000 in
theorem lm_pB {E : En} (hok : EOK E) {h h0 : Hp} (hs0 : Shp h.2) (hw : Wf (mo h)) {S : Nat} (hS6 : cnt (tb S) (nT (mo h)) ≤ 6) {v : Int32} {d : Nat} (hd : 1 ≤ d) {Q : Option V → Hp → Prop} (hcv : ∀ f, f < nF (mo h) → ¬ h.1 (128, 0) f = v → h.1 (190, 0) f = 0) (hQ : ∀ hh, VP h hh → PR (p2 (cnt (tb S) (nT (mo h)))) (PF (Ac h) (nF (mo h)) (nT (mo h)) S) hh → G E m_X12_pairsOf d 0 0 Q h0 176 [some (vR MO), some (vI (nI S)), some (vI v), some (vI (nI (cnt (tb S) (nT (mo h))))), none, none, none, none] [] hh 0 0) : ∀ c f (hh : Hp), f ≤ nF (mo h) → nF (mo h) - f = c → VP h hh → PR (p2 (cnt (tb S) (nT (mo h)))) (PF (Ac h) f (nT (mo h)) S) hh → G E m_X12_pairsOf d 0 0 Q h0 42 [some (vR MO), some (vI (nI S)), some (vI v), some (vI (nI (cnt (tb S) (nT (mo h))))), some (vI (nI f)), none, none, none] [] hh 0 0 := by
  have hNw : h.1 MO 2 = nI (nW (mo h)) := hw.w.1
  have hNwb := hw.w.2
  have hC : h.1 MO 30 = nI (nC (mo h)) := hw.c.1
  have hCb := hw.c.2
  have hK : h.1 MO 3 = nI (nK (mo h)) := hw.k.1
  have hKb := hw.k.2
  have hT : h.1 MO 4 = nI (nT (mo h)) := hw.t.1
  have hTb := hw.t.2
  have hF : h.1 MO 5 = nI (nF (mo h)) := hw.f.1
  have hFb := hw.f.2
  have hRc : h.1 MO 59 = nI (nR (mo h)) := hw.r.1
  have hRb := hw.r.2
  have hG : h.1 MO 60 = nI (nGf (mo h)) := hw.g.1
  have hGb := hw.g.2
  have hA : h.1 MO 70 = nI (nA (mo h)) := hw.a.1
  have hAb := hw.a.2
  have hTl : h.1 MO 1 = nI (nTl (mo h)) := hw.tl.1
  have hTlb := hw.tl.2
  have hN : (p2 (cnt (tb S) (nT (mo h)))) ≤ 64 := p2_le (b := 6) hS6
  intro c
  induction c with
  | zero =>
    intro f hh h1 h2 vp pr
    have hs : Shp hh.2 := by rw [vp.1]; exact hs0
    have hFh : hh.1 MO 5 = nI (nF (mo h)) := by rw [vp.2 MO (by decide)]; exact hF
    refine g_iload (pc' := 44) dX12_pairsOf_42 rfl rfl ?_
    refine g_aload_n (pc' := 45) dX12_pairsOf_44 rfl rfl ?_
    refine g_getIv (v := nI (nF (mo h))) (pc' := 48) (k := 5) dX12_pairsOf_45 rfl rfl ck_13 (by decide) fl_X12_214 rfl (hFh) ?_
    refine g_icmp_geN (tgt := 176) (pc' := 51) dX12_pairsOf_48 rfl (by decide) (by omega) (by omega) (fun c48 => ?_) (fun c48 => ?_)
    ·
      have e : f = nF (mo h) := by omega
      subst e
      refine G.drop 4 ?_
      simp only [List.set]
      exact hQ hh vp pr
    · exact absurd c48 (by omega)
  | succ c ih =>
    intro f hh h1 h2 vp pr
    have hs : Shp hh.2 := by rw [vp.1]; exact hs0
    have hFh : hh.1 MO 5 = nI (nF (mo h)) := by rw [vp.2 MO (by decide)]; exact hF
    refine g_iload (pc' := 44) dX12_pairsOf_42 rfl rfl ?_
    refine g_aload_n (pc' := 45) dX12_pairsOf_44 rfl rfl ?_
    refine g_getIv (v := nI (nF (mo h))) (pc' := 48) (k := 5) dX12_pairsOf_45 rfl rfl ck_13 (by decide) fl_X12_214 rfl (hFh) ?_
    refine g_icmp_geN (tgt := 176) (pc' := 51) dX12_pairsOf_48 rfl (by decide) (by omega) (by omega) (fun c48 => ?_) (fun c48 => ?_)
    · exact absurd c48 (by omega)
    ·
      refine g_aload_n (pc' := 52) dX12_pairsOf_51 rfl rfl ?_
      refine g_getS (pc' := 55) (k := 28) (b := (128, 0)) dX12_pairsOf_52 rfl rfl ck_13 (by decide) fl_X12_75 rfl hs rfl ?_
      refine g_iload (pc' := 57) dX12_pairsOf_55 rfl rfl ?_
      refine g_ialdN (pc' := 58) (v := h.1 (128, 0) f) dX12_pairsOf_57 rfl rfl (by decide) (by omega) (by rw [vp.2 (128, 0) (by decide)]) ?_
      refine g_iload_n (pc' := 59) dX12_pairsOf_58 rfl rfl ?_
      refine g_icmp_eq (tgt := 65) (pc' := 62) dX12_pairsOf_59 rfl (by decide) (fun c59 => ?_) (fun c59 => ?_)
      ·
        refine g_iconstN (n := 1) (pc' := 66) dX12_pairsOf_65 rfl ?_
        refine g_iload_n (pc' := 67) dX12_pairsOf_66 rfl rfl ?_
        refine g_ishl (pc' := 68) dX12_pairsOf_67 rfl ?_
        rw [shl_p2 (by omega)]
        refine g_iconstN (n := 1) (pc' := 69) dX12_pairsOf_68 rfl ?_
        refine g_isub (pc' := 70) dX12_pairsOf_69 rfl ?_
        refine g_istore (pc' := 72) dX12_pairsOf_70 rfl (by decide) rfl ?_
        try simp only [List.set]
        refine lm_pC hok hs0 hw hS6 hd (show f < nF (mo h) by omega) (fun h3 v3 p3 => ?_) _ hh (Nat.le_refl _) vp (pr.c (fun y _ => md_top.symm))
        refine g_iincN (k := 1) (pc' := 173) dX12_pairsOf_170 rfl rfl (by decide) rfl ?_
        try simp only [List.set]
        refine g_goto (tgt := 42) dX12_pairsOf_173 (by decide) ?_
        exact ih (f + 1) h3 (by omega) (by omega) v3 p3
      ·
        refine g_goto (tgt := 170) dX12_pairsOf_62 (by decide) ?_
        refine g_iincN (k := 1) (pc' := 173) dX12_pairsOf_170 rfl rfl (by decide) rfl ?_
        try simp only [List.set]
        refine g_goto (tgt := 42) dX12_pairsOf_173 (by decide) ?_
        exact ih (f + 1) hh (by omega) (by omega) vp (pr.c (fun y _ => pf_skip (fun t ht z => hasB_0 (t := t) (by omega) (by rw [← hcv f (by omega) c59]; exact z))))
