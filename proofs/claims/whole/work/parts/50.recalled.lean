theorem four_iff {x : Int32} : (0 ≤ x ∧ x ≤ 3) ↔ ∃ j : Nat, j < 4 ∧ x = nI j := inN_iff (n := 4) (by decide)
/-- recalled -/
noncomputable def rcT (m : St) (r : Nat) : Int32 := orr (fun t => cif (isOfm m r t) ((1 : Int32) <<< (nI t &&& 31)) 0) (nT m)
def rcP (m : St) (r f : Nat) : Prop := hasB (m 165 r) f ∧ ¬ m 166 (10 * r + f) = -1 ∧ m 166 (10 * r + f) ≤ m 164 r + nI 1
noncomputable def rcU (m : St) (r : Nat) : Int32 := orr (fun f => cif (m 166 (10 * r + f) = -1) ((1 : Int32) <<< (nI f &&& 31)) 0) (nF m)
noncomputable def rcA (m : St) (r : Nat) (x : Int32) : Int32 := cif (x = 0) (rcT m r) (cif (x = nI 1) (m 165 r) (cif (x = nI 2) (nI (cnt (rcP m r) (nF m))) (hadN m r &&& rcU m r)))
noncomputable def sRecalled (m : St) (r0 x : Int32) : Int32 × St := cif ((∃ j : Nat, j < nR m ∧ r0 = nI j) ∧ (0 ≤ x ∧ x ≤ 3)) (rcA m r0.toNatClampNeg x, m) (-1, m)
set_option maxRecDepth 4000 in
theorem lm_recalled2 {E : En} (hok : EOK E) {h h0 : Hp} (hs : Shp h.2) (hw : Wf (mo h)) {r : Nat} (hr : r < nR (mo h)) (x : Int32) {d : Nat} (hd : 3 ≤ d) {Q : Option V → Hp → Prop} (hQ : Q (some (vI (rcA (mo h) r x))) h) : ∀ n f : Nat, f ≤ nF (mo h) → nF (mo h) - f = n → G E m_X12_recalled d 0 0 Q h0 72 [some (vR MO), some (vI (nI r)), some (vI x), some (vI (rcT (mo h) r)), some (vI (nI (cnt (rcP (mo h) r) f))), some (vI (orr (fun f => cif (mo h 166 (10 * r + f) = -1) ((1 : Int32) <<< (nI f &&& 31)) 0) f)), some (vI (nI f)), none] [] (h) 0 0 := by
  have hNw : h.1 MO 2 = nI (nW (mo h)) := hw.w.1
  have hNwb := hw.w.2
  have hC : h.1 MO 30 = nI (nC (mo h)) := hw.c.1
  have hCb := hw.c.2
  have hK : h.1 MO 3 = nI (nK (mo h)) := hw.k.1
  have hKb := hw.k.2
  have hT : h.1 MO 4 = nI (nT (mo h)) := hw.t.1
  have hTb := hw.t.2
  have hF : h.1 MO 5 = nI (nF (mo h)) := hw.f.1
  have hFb := hw.f.2
  have hRc : h.1 MO 59 = nI (nR (mo h)) := hw.r.1
  have hRb := hw.r.2
  have hG : h.1 MO 60 = nI (nGf (mo h)) := hw.g.1
  have hGb := hw.g.2
  have hA : h.1 MO 70 = nI (nA (mo h)) := hw.a.1
  have hAb := hw.a.2
  have hTl : h.1 MO 1 = nI (nTl (mo h)) := hw.tl.1
  have hTlb := hw.tl.2
  intro n
  induction n with
  | zero =>
    intro f h1 h2
    refine g_iload (pc' := 74) dX12_recalled_72 rfl rfl ?_
    refine g_aload_n (pc' := 75) dX12_recalled_74 rfl rfl ?_
    refine g_getIv (v := nI (nF (mo h))) (pc' := 78) (k := 5) dX12_recalled_75 rfl rfl ck_13 (by decide) fl_X12_214 rfl (hF) ?_
    refine g_icmp_geN (tgt := 163) (pc' := 81) dX12_recalled_78 rfl (by decide) (by omega) (by omega) (fun c78 => ?_) (fun c78 => ?_)
    ·
      refine g_iload_n (pc' := 164) dX12_recalled_163 rfl rfl ?_
      refine g_if_ne (tgt := 171) (pc' := 167) dX12_recalled_164 rfl (by decide) (fun c164 => ?_) (fun c164 => ?_)
      ·
        refine g_iload_n (pc' := 172) dX12_recalled_171 rfl rfl ?_
        refine g_iconstN (n := 1) (pc' := 173) dX12_recalled_172 rfl ?_
        refine g_icmp_ne (tgt := 185) (pc' := 176) dX12_recalled_173 rfl (by decide) (fun c173 => ?_) (fun c173 => ?_)
        ·
          refine g_iload_n (pc' := 186) dX12_recalled_185 rfl rfl ?_
          refine g_iconstN (n := 2) (pc' := 187) dX12_recalled_186 rfl ?_
          refine g_icmp_ne (tgt := 195) (pc' := 190) dX12_recalled_187 rfl (by decide) (fun c187 => ?_) (fun c187 => ?_)
          ·
            refine g_aload_n (pc' := 196) dX12_recalled_195 rfl rfl ?_
            refine g_iload_n (pc' := 197) dX12_recalled_196 rfl rfl ?_
            refine g_invV (pc' := 200) (cm_hadNow hok hs hw (r := r) (by omega)) dX12_recalled_197 rfl rfl ck_13 rfl ml_X12_429 im_X12_hadNow sl_X12_hadNow in_X12 co_X12_hadNow pd_X12_hadNow rfl (by omega) (by decide) ⟨by decide, by decide⟩ (Nat.le_of_ble_eq_true rfl) ?_
            rintro _ _ ⟨rfl, rfl⟩ -
            refine g_iload (pc' := 202) dX12_recalled_200 rfl rfl ?_
            refine g_iand (pc' := 203) dX12_recalled_202 rfl ?_
            refine g_iret dX12_recalled_203 rfl (by decide) (by decide) ?_
            have e : f = nF (mo h) := by omega
            subst e
            rw [show rcA (mo h) r x = _ from (cif_f c164).trans ((cif_f c173).trans (cif_f c187))] at hQ
            exact hQ
          ·
            refine g_iload (pc' := 192) dX12_recalled_190 rfl rfl ?_
            refine g_goto (tgt := 203) dX12_recalled_192 (by decide) ?_
            refine g_iret dX12_recalled_203 rfl (by decide) (by decide) ?_
            have e : f = nF (mo h) := by omega
            subst e
            rw [show rcA (mo h) r x = _ from (cif_f c164).trans ((cif_f c173).trans (cif_t c187))] at hQ
            exact hQ
        ·
          refine g_aload_n (pc' := 177) dX12_recalled_176 rfl rfl ?_
          refine g_getS (pc' := 180) (k := 65) (b := (165, 0)) dX12_recalled_177 rfl rfl ck_13 (by decide) fl_X12_138 rfl hs rfl ?_
          refine g_iload_n (pc' := 181) dX12_recalled_180 rfl rfl ?_
          refine g_ialdN (pc' := 182) (v := _) dX12_recalled_181 rfl rfl (by decide) (by omega) (rfl) ?_
          refine g_goto (tgt := 203) dX12_recalled_182 (by decide) ?_
          refine g_iret dX12_recalled_203 rfl (by decide) (by decide) ?_
          have e : f = nF (mo h) := by omega
          subst e
          rw [show rcA (mo h) r x = _ from (cif_f c164).trans (cif_t c173)] at hQ
          exact hQ
      ·
        refine g_iload_n (pc' := 168) dX12_recalled_167 rfl rfl ?_
        refine g_goto (tgt := 203) dX12_recalled_168 (by decide) ?_
        refine g_iret dX12_recalled_203 rfl (by decide) (by decide) ?_
        have e : f = nF (mo h) := by omega
        subst e
        rw [show rcA (mo h) r x = _ from cif_t c164] at hQ
        exact hQ
    · exact absurd c78 (by omega)
  | succ n ih =>
    intro f h1 h2
    refine g_iload (pc' := 74) dX12_recalled_72 rfl rfl ?_
    refine g_aload_n (pc' := 75) dX12_recalled_74 rfl rfl ?_
    refine g_getIv (v := nI (nF (mo h))) (pc' := 78) (k := 5) dX12_recalled_75 rfl rfl ck_13 (by decide) fl_X12_214 rfl (hF) ?_
    refine g_icmp_geN (tgt := 163) (pc' := 81) dX12_recalled_78 rfl (by decide) (by omega) (by omega) (fun c78 => ?_) (fun c78 => ?_)
    · exact absurd c78 (by omega)
    ·
      have hcl := cnt_le (rcP (mo h) r) f
      refine g_aload_n (pc' := 82) dX12_recalled_81 rfl rfl ?_
      refine g_getS (pc' := 85) (k := 66) (b := (166, 0)) dX12_recalled_82 rfl rfl ck_13 (by decide) fl_X12_141 rfl hs rfl ?_
      refine g_bipushN (n := 10) (pc' := 87) dX12_recalled_85 rfl (by decide) ?_
      refine g_iload_n (pc' := 88) dX12_recalled_87 rfl rfl ?_
      refine g_imulN (pc' := 89) dX12_recalled_88 rfl ?_
      refine g_iload (pc' := 91) dX12_recalled_89 rfl rfl ?_
      refine g_iaddN (pc' := 92) dX12_recalled_91 rfl ?_
      refine g_ialdN (pc' := 93) (v := mo h 166 (10 * r + f)) dX12_recalled_92 rfl rfl (by decide) (by omega) (rfl) ?_
      refine g_istore (pc' := 95) dX12_recalled_93 rfl (by decide) rfl ?_
      try simp only [List.set]
      refine g_iload (pc' := 97) dX12_recalled_95 rfl rfl ?_
      refine g_aload_n (pc' := 98) dX12_recalled_97 rfl rfl ?_
      refine g_getS (pc' := 101) (k := 65) (b := (165, 0)) dX12_recalled_98 rfl rfl ck_13 (by decide) fl_X12_138 rfl hs rfl ?_
      refine g_iload_n (pc' := 102) dX12_recalled_101 rfl rfl ?_
      refine g_ialdN (pc' := 103) (v := mo h 165 r) dX12_recalled_102 rfl rfl (by decide) (by omega) (rfl) ?_
      refine g_iload (pc' := 105) dX12_recalled_103 rfl rfl ?_
      refine g_invS (pc' := 108) (cm_has hok _ _) dX12_recalled_105 rfl ml_X12_440 st_X12_has in_X12 co_X12_has pd_X12_has rfl (by omega) (by decide) ⟨by decide, by decide⟩ (Nat.le_of_ble_eq_true rfl) ?_
      rintro _ _ ⟨rfl, rfl⟩ -
      refine g_ifB_eq (tgt := 134) (pc' := 111) dX12_recalled_108 rfl (by decide) (fun c108 => ?_) (fun c108 => ?_)
      ·
        refine g_iconstN (n := 0) (pc' := 135) dX12_recalled_134 rfl ?_
        refine g_iaddN (pc' := 136) dX12_recalled_135 rfl ?_
        refine g_istore (pc' := 138) dX12_recalled_136 rfl (by decide) rfl ?_
        try simp only [List.set]
        refine g_iload (pc' := 140) dX12_recalled_138 rfl rfl ?_
        refine g_iload (pc' := 142) dX12_recalled_140 rfl rfl ?_
        refine g_iconst (v := -1) (pc' := 143) dX12_recalled_142 rfl (by decide) ?_
        refine g_icmp_ne (tgt := 153) (pc' := 146) dX12_recalled_143 rfl (by decide) (fun c143 => ?_) (fun c143 => ?_)
        ·
          refine g_iconstN (n := 0) (pc' := 154) dX12_recalled_153 rfl ?_
          refine g_ior (pc' := 155) dX12_recalled_154 rfl ?_
          refine g_istore (pc' := 157) dX12_recalled_155 rfl (by decide) rfl ?_
          try simp only [List.set]
          refine g_iincN (k := 1) (pc' := 160) dX12_recalled_157 rfl rfl (by decide) rfl ?_
          try simp only [List.set]
          refine g_goto (tgt := 72) dX12_recalled_160 (by decide) ?_
          refine G.drop 7 ?_
          simp only [List.set]
          have q := ih (f + 1) (by omega) (by omega)
          rw [cnt_f (p := (rcP (mo h) r)) (fun z => c108 z.1)] at q
          have eo : orr (fun f => cif (mo h 166 (10 * r + f) = -1) ((1 : Int32) <<< (nI f &&& 31)) 0) (f + 1) = orr (fun f => cif (mo h 166 (10 * r + f) = -1) ((1 : Int32) <<< (nI f &&& 31)) 0) f ||| 0 := congrArg (fun z => orr (fun f => cif (mo h 166 (10 * r + f) = -1) ((1 : Int32) <<< (nI f &&& 31)) 0) f ||| z) (cif_f c143)
          rw [eo] at q
          exact q
        ·
          refine g_iconst (v := 1) (pc' := 147) dX12_recalled_146 rfl (by decide) ?_
          refine g_iload (pc' := 149) dX12_recalled_147 rfl rfl ?_
          refine g_ishl (pc' := 150) dX12_recalled_149 rfl ?_
          refine g_goto (tgt := 154) dX12_recalled_150 (by decide) ?_
          refine g_ior (pc' := 155) dX12_recalled_154 rfl ?_
          refine g_istore (pc' := 157) dX12_recalled_155 rfl (by decide) rfl ?_
          try simp only [List.set]
          refine g_iincN (k := 1) (pc' := 160) dX12_recalled_157 rfl rfl (by decide) rfl ?_
          try simp only [List.set]
          refine g_goto (tgt := 72) dX12_recalled_160 (by decide) ?_
          refine G.drop 7 ?_
          simp only [List.set]
          have q := ih (f + 1) (by omega) (by omega)
          rw [cnt_f (p := (rcP (mo h) r)) (fun z => c108 z.1)] at q
          have eo : orr (fun f => cif (mo h 166 (10 * r + f) = -1) ((1 : Int32) <<< (nI f &&& 31)) 0) (f + 1) = orr (fun f => cif (mo h 166 (10 * r + f) = -1) ((1 : Int32) <<< (nI f &&& 31)) 0) f ||| ((1 : Int32) <<< (nI f &&& 31)) := congrArg (fun z => orr (fun f => cif (mo h 166 (10 * r + f) = -1) ((1 : Int32) <<< (nI f &&& 31)) 0) f ||| z) (cif_t c143)
          rw [eo] at q
          exact q
      ·
        refine g_iload (pc' := 113) dX12_recalled_111 rfl rfl ?_
        refine g_iconst (v := -1) (pc' := 114) dX12_recalled_113 rfl (by decide) ?_
        refine g_icmp_eq (tgt := 134) (pc' := 117) dX12_recalled_114 rfl (by decide) (fun c114 => ?_) (fun c114 => ?_)
        ·
          refine g_iconstN (n := 0) (pc' := 135) dX12_recalled_134 rfl ?_
          refine g_iaddN (pc' := 136) dX12_recalled_135 rfl ?_
          refine g_istore (pc' := 138) dX12_recalled_136 rfl (by decide) rfl ?_
          try simp only [List.set]
          refine g_iload (pc' := 140) dX12_recalled_138 rfl rfl ?_
          refine g_iload (pc' := 142) dX12_recalled_140 rfl rfl ?_
          refine g_iconst (v := -1) (pc' := 143) dX12_recalled_142 rfl (by decide) ?_
          refine g_icmp_ne (tgt := 153) (pc' := 146) dX12_recalled_143 rfl (by decide) (fun c143 => ?_) (fun c143 => ?_)
          ·
            refine g_iconstN (n := 0) (pc' := 154) dX12_recalled_153 rfl ?_
            refine g_ior (pc' := 155) dX12_recalled_154 rfl ?_
            refine g_istore (pc' := 157) dX12_recalled_155 rfl (by decide) rfl ?_
            try simp only [List.set]
            refine g_iincN (k := 1) (pc' := 160) dX12_recalled_157 rfl rfl (by decide) rfl ?_
            try simp only [List.set]
            refine g_goto (tgt := 72) dX12_recalled_160 (by decide) ?_
            refine G.drop 7 ?_
            simp only [List.set]
            have q := ih (f + 1) (by omega) (by omega)
            rw [cnt_f (p := (rcP (mo h) r)) (fun z => z.2.1 c114)] at q
            have eo : orr (fun f => cif (mo h 166 (10 * r + f) = -1) ((1 : Int32) <<< (nI f &&& 31)) 0) (f + 1) = orr (fun f => cif (mo h 166 (10 * r + f) = -1) ((1 : Int32) <<< (nI f &&& 31)) 0) f ||| 0 := congrArg (fun z => orr (fun f => cif (mo h 166 (10 * r + f) = -1) ((1 : Int32) <<< (nI f &&& 31)) 0) f ||| z) (cif_f c143)
            rw [eo] at q
            exact q
          ·
            refine g_iconst (v := 1) (pc' := 147) dX12_recalled_146 rfl (by decide) ?_
            refine g_iload (pc' := 149) dX12_recalled_147 rfl rfl ?_
            refine g_ishl (pc' := 150) dX12_recalled_149 rfl ?_
            refine g_goto (tgt := 154) dX12_recalled_150 (by decide) ?_
            refine g_ior (pc' := 155) dX12_recalled_154 rfl ?_
            refine g_istore (pc' := 157) dX12_recalled_155 rfl (by decide) rfl ?_
            try simp only [List.set]
            refine g_iincN (k := 1) (pc' := 160) dX12_recalled_157 rfl rfl (by decide) rfl ?_
            try simp only [List.set]
            refine g_goto (tgt := 72) dX12_recalled_160 (by decide) ?_
            refine G.drop 7 ?_
            simp only [List.set]
            have q := ih (f + 1) (by omega) (by omega)
            rw [cnt_f (p := (rcP (mo h) r)) (fun z => z.2.1 c114)] at q
            have eo : orr (fun f => cif (mo h 166 (10 * r + f) = -1) ((1 : Int32) <<< (nI f &&& 31)) 0) (f + 1) = orr (fun f => cif (mo h 166 (10 * r + f) = -1) ((1 : Int32) <<< (nI f &&& 31)) 0) f ||| ((1 : Int32) <<< (nI f &&& 31)) := congrArg (fun z => orr (fun f => cif (mo h 166 (10 * r + f) = -1) ((1 : Int32) <<< (nI f &&& 31)) 0) f ||| z) (cif_t c143)
            rw [eo] at q
            exact q
        ·
          refine g_iload (pc' := 119) dX12_recalled_117 rfl rfl ?_
          refine g_aload_n (pc' := 120) dX12_recalled_119 rfl rfl ?_
          refine g_getS (pc' := 123) (k := 64) (b := (164, 0)) dX12_recalled_120 rfl rfl ck_13 (by decide) fl_X12_135 rfl hs rfl ?_
          refine g_iload_n (pc' := 124) dX12_recalled_123 rfl rfl ?_
          refine g_ialdN (pc' := 125) (v := mo h 164 r) dX12_recalled_124 rfl rfl (by decide) (by omega) (rfl) ?_
          refine g_iconstN (n := 1) (pc' := 126) dX12_recalled_125 rfl ?_
          refine g_iadd (pc' := 127) dX12_recalled_126 rfl ?_
          refine g_icmp_gt (tgt := 134) (pc' := 130) dX12_recalled_127 rfl (by decide) (fun c127 => ?_) (fun c127 => ?_)
          ·
            refine g_iconstN (n := 0) (pc' := 135) dX12_recalled_134 rfl ?_
            refine g_iaddN (pc' := 136) dX12_recalled_135 rfl ?_
            refine g_istore (pc' := 138) dX12_recalled_136 rfl (by decide) rfl ?_
            try simp only [List.set]
            refine g_iload (pc' := 140) dX12_recalled_138 rfl rfl ?_
            refine g_iload (pc' := 142) dX12_recalled_140 rfl rfl ?_
            refine g_iconst (v := -1) (pc' := 143) dX12_recalled_142 rfl (by decide) ?_
            refine g_icmp_ne (tgt := 153) (pc' := 146) dX12_recalled_143 rfl (by decide) (fun c143 => ?_) (fun c143 => ?_)
            ·
              refine g_iconstN (n := 0) (pc' := 154) dX12_recalled_153 rfl ?_
              refine g_ior (pc' := 155) dX12_recalled_154 rfl ?_
              refine g_istore (pc' := 157) dX12_recalled_155 rfl (by decide) rfl ?_
              try simp only [List.set]
              refine g_iincN (k := 1) (pc' := 160) dX12_recalled_157 rfl rfl (by decide) rfl ?_
              try simp only [List.set]
              refine g_goto (tgt := 72) dX12_recalled_160 (by decide) ?_
              refine G.drop 7 ?_
              simp only [List.set]
              have q := ih (f + 1) (by omega) (by omega)
              rw [cnt_f (p := (rcP (mo h) r)) (fun z => absurd z.2.2 (Int32.not_le.mpr c127))] at q
              have eo : orr (fun f => cif (mo h 166 (10 * r + f) = -1) ((1 : Int32) <<< (nI f &&& 31)) 0) (f + 1) = orr (fun f => cif (mo h 166 (10 * r + f) = -1) ((1 : Int32) <<< (nI f &&& 31)) 0) f ||| 0 := congrArg (fun z => orr (fun f => cif (mo h 166 (10 * r + f) = -1) ((1 : Int32) <<< (nI f &&& 31)) 0) f ||| z) (cif_f c143)
              rw [eo] at q
              exact q
            ·
              refine g_iconst (v := 1) (pc' := 147) dX12_recalled_146 rfl (by decide) ?_
              refine g_iload (pc' := 149) dX12_recalled_147 rfl rfl ?_
              refine g_ishl (pc' := 150) dX12_recalled_149 rfl ?_
              refine g_goto (tgt := 154) dX12_recalled_150 (by decide) ?_
              refine g_ior (pc' := 155) dX12_recalled_154 rfl ?_
              refine g_istore (pc' := 157) dX12_recalled_155 rfl (by decide) rfl ?_
              try simp only [List.set]
              refine g_iincN (k := 1) (pc' := 160) dX12_recalled_157 rfl rfl (by decide) rfl ?_
              try simp only [List.set]
              refine g_goto (tgt := 72) dX12_recalled_160 (by decide) ?_
              refine G.drop 7 ?_
              simp only [List.set]
              have q := ih (f + 1) (by omega) (by omega)
              rw [cnt_f (p := (rcP (mo h) r)) (fun z => absurd z.2.2 (Int32.not_le.mpr c127))] at q
              have eo : orr (fun f => cif (mo h 166 (10 * r + f) = -1) ((1 : Int32) <<< (nI f &&& 31)) 0) (f + 1) = orr (fun f => cif (mo h 166 (10 * r + f) = -1) ((1 : Int32) <<< (nI f &&& 31)) 0) f ||| ((1 : Int32) <<< (nI f &&& 31)) := congrArg (fun z => orr (fun f => cif (mo h 166 (10 * r + f) = -1) ((1 : Int32) <<< (nI f &&& 31)) 0) f ||| z) (cif_t c143)
              rw [eo] at q
              exact q
          ·
            refine g_iconstN (n := 1) (pc' := 131) dX12_recalled_130 rfl ?_
            refine g_goto (tgt := 135) dX12_recalled_131 (by decide) ?_
            refine g_iaddN (pc' := 136) dX12_recalled_135 rfl ?_
            refine g_istore (pc' := 138) dX12_recalled_136 rfl (by decide) rfl ?_
            try simp only [List.set]
            refine g_iload (pc' := 140) dX12_recalled_138 rfl rfl ?_
            refine g_iload (pc' := 142) dX12_recalled_140 rfl rfl ?_
            refine g_iconst (v := -1) (pc' := 143) dX12_recalled_142 rfl (by decide) ?_
            refine g_icmp_ne (tgt := 153) (pc' := 146) dX12_recalled_143 rfl (by decide) (fun c143 => ?_) (fun c143 => ?_)
            ·
              refine g_iconstN (n := 0) (pc' := 154) dX12_recalled_153 rfl ?_
              refine g_ior (pc' := 155) dX12_recalled_154 rfl ?_
              refine g_istore (pc' := 157) dX12_recalled_155 rfl (by decide) rfl ?_
              try simp only [List.set]
              refine g_iincN (k := 1) (pc' := 160) dX12_recalled_157 rfl rfl (by decide) rfl ?_
              try simp only [List.set]
              refine g_goto (tgt := 72) dX12_recalled_160 (by decide) ?_
              refine G.drop 7 ?_
              simp only [List.set]
              have q := ih (f + 1) (by omega) (by omega)
              rw [cnt_t (p := (rcP (mo h) r)) ⟨c108, c114, Int32.not_lt.mp c127⟩] at q
              have eo : orr (fun f => cif (mo h 166 (10 * r + f) = -1) ((1 : Int32) <<< (nI f &&& 31)) 0) (f + 1) = orr (fun f => cif (mo h 166 (10 * r + f) = -1) ((1 : Int32) <<< (nI f &&& 31)) 0) f ||| 0 := congrArg (fun z => orr (fun f => cif (mo h 166 (10 * r + f) = -1) ((1 : Int32) <<< (nI f &&& 31)) 0) f ||| z) (cif_f c143)
              rw [eo] at q
              exact q
            ·
              refine g_iconst (v := 1) (pc' := 147) dX12_recalled_146 rfl (by decide) ?_
              refine g_iload (pc' := 149) dX12_recalled_147 rfl rfl ?_
              refine g_ishl (pc' := 150) dX12_recalled_149 rfl ?_
              refine g_goto (tgt := 154) dX12_recalled_150 (by decide) ?_
              refine g_ior (pc' := 155) dX12_recalled_154 rfl ?_
              refine g_istore (pc' := 157) dX12_recalled_155 rfl (by decide) rfl ?_
              try simp only [List.set]
              refine g_iincN (k := 1) (pc' := 160) dX12_recalled_157 rfl rfl (by decide) rfl ?_
              try simp only [List.set]
              refine g_goto (tgt := 72) dX12_recalled_160 (by decide) ?_
              refine G.drop 7 ?_
              simp only [List.set]
              have q := ih (f + 1) (by omega) (by omega)
              rw [cnt_t (p := (rcP (mo h) r)) ⟨c108, c114, Int32.not_lt.mp c127⟩] at q
              have eo : orr (fun f => cif (mo h 166 (10 * r + f) = -1) ((1 : Int32) <<< (nI f &&& 31)) 0) (f + 1) = orr (fun f => cif (mo h 166 (10 * r + f) = -1) ((1 : Int32) <<< (nI f &&& 31)) 0) f ||| ((1 : Int32) <<< (nI f &&& 31)) := congrArg (fun z => orr (fun f => cif (mo h 166 (10 * r + f) = -1) ((1 : Int32) <<< (nI f &&& 31)) 0) f ||| z) (cif_t c143)
              rw [eo] at q
              exact q
set_option maxRecDepth 4000 in
theorem lm_recalled1 {E : En} (hok : EOK E) {h h0 : Hp} (hs : Shp h.2) (hw : Wf (mo h)) {r : Nat} (hr : r < nR (mo h)) (x : Int32) {d : Nat} (hd : 3 ≤ d) {Q : Option V → Hp → Prop} (hQ : Q (some (vI (rcA (mo h) r x))) h) : ∀ n t : Nat, t ≤ nT (mo h) → nT (mo h) - t = n → G E m_X12_recalled d 0 0 Q h0 27 [some (vR MO), some (vI (nI r)), some (vI x), some (vI (orr (fun t => cif (isOfm (mo h) r t) ((1 : Int32) <<< (nI t &&& 31)) 0) t)), some (vI (nI t)), none, none, none] [] (h) 0 0 := by
  have hNw : h.1 MO 2 = nI (nW (mo h)) := hw.w.1
  have hNwb := hw.w.2
  have hC : h.1 MO 30 = nI (nC (mo h)) := hw.c.1
  have hCb := hw.c.2
  have hK : h.1 MO 3 = nI (nK (mo h)) := hw.k.1
  have hKb := hw.k.2
  have hT : h.1 MO 4 = nI (nT (mo h)) := hw.t.1
  have hTb := hw.t.2
  have hF : h.1 MO 5 = nI (nF (mo h)) := hw.f.1
  have hFb := hw.f.2
  have hRc : h.1 MO 59 = nI (nR (mo h)) := hw.r.1
  have hRb := hw.r.2
  have hG : h.1 MO 60 = nI (nGf (mo h)) := hw.g.1
  have hGb := hw.g.2
  have hA : h.1 MO 70 = nI (nA (mo h)) := hw.a.1
  have hAb := hw.a.2
  have hTl : h.1 MO 1 = nI (nTl (mo h)) := hw.tl.1
  have hTlb := hw.tl.2
  intro n
  induction n with
  | zero =>
    intro t h1 h2
    refine g_iload (pc' := 29) dX12_recalled_27 rfl rfl ?_
    refine g_aload_n (pc' := 30) dX12_recalled_29 rfl rfl ?_
    refine g_getIv (v := nI (nT (mo h))) (pc' := 33) (k := 4) dX12_recalled_30 rfl rfl ck_13 (by decide) fl_X12_211 rfl (hT) ?_
    refine g_icmp_geN (tgt := 63) (pc' := 36) dX12_recalled_33 rfl (by decide) (by omega) (by omega) (fun c33 => ?_) (fun c33 => ?_)
    ·
      refine g_iconstN (n := 0) (pc' := 64) dX12_recalled_63 rfl ?_
      refine g_istore (pc' := 66) dX12_recalled_64 rfl (by decide) rfl ?_
      try simp only [List.set]
      refine g_iconst (v := 0) (pc' := 67) dX12_recalled_66 rfl (by decide) ?_
      refine g_istore (pc' := 69) dX12_recalled_67 rfl (by decide) rfl ?_
      try simp only [List.set]
      refine g_iconstN (n := 0) (pc' := 70) dX12_recalled_69 rfl ?_
      refine g_istore (pc' := 72) dX12_recalled_70 rfl (by decide) rfl ?_
      try simp only [List.set]
      have e : t = nT (mo h) := by omega
      subst e
      exact lm_recalled2 hok hs hw hr x hd hQ _ 0 (Nat.zero_le _) rfl
    · exact absurd c33 (by omega)
  | succ n ih =>
    intro t h1 h2
    refine g_iload (pc' := 29) dX12_recalled_27 rfl rfl ?_
    refine g_aload_n (pc' := 30) dX12_recalled_29 rfl rfl ?_
    refine g_getIv (v := nI (nT (mo h))) (pc' := 33) (k := 4) dX12_recalled_30 rfl rfl ck_13 (by decide) fl_X12_211 rfl (hT) ?_
    refine g_icmp_geN (tgt := 63) (pc' := 36) dX12_recalled_33 rfl (by decide) (by omega) (by omega) (fun c33 => ?_) (fun c33 => ?_)
    · exact absurd c33 (by omega)
    ·
      refine g_iload_n (pc' := 37) dX12_recalled_36 rfl rfl ?_
      refine g_aload_n (pc' := 38) dX12_recalled_37 rfl rfl ?_
      refine g_iload_n (pc' := 39) dX12_recalled_38 rfl rfl ?_
      refine g_iload (pc' := 41) dX12_recalled_39 rfl rfl ?_
      refine g_invV (pc' := 44) (cm_isOf hok hs hw (r := r) (t := t) (by omega) (by omega)) dX12_recalled_41 rfl rfl ck_13 rfl ml_X12_422 im_X12_isOf sl_X12_isOf in_X12 co_X12_isOf pd_X12_isOf rfl (by omega) (by decide) ⟨by decide, by decide⟩ (Nat.le_of_ble_eq_true rfl) ?_
      rintro _ _ ⟨rfl, rfl⟩ -
      refine g_ifB_eq (tgt := 54) (pc' := 47) dX12_recalled_44 rfl (by decide) (fun c44 => ?_) (fun c44 => ?_)
      ·
        refine g_iconstN (n := 0) (pc' := 55) dX12_recalled_54 rfl ?_
        refine g_ior (pc' := 56) dX12_recalled_55 rfl ?_
        refine g_istore_n (pc' := 57) dX12_recalled_56 rfl (by decide) rfl ?_
        try simp only [List.set]
        refine g_iincN (k := 1) (pc' := 60) dX12_recalled_57 rfl rfl (by decide) rfl ?_
        try simp only [List.set]
        refine g_goto (tgt := 27) dX12_recalled_60 (by decide) ?_
        have q := ih (t + 1) (by omega) (by omega)
        have eo : orr (fun t => cif (isOfm (mo h) r t) ((1 : Int32) <<< (nI t &&& 31)) 0) (t + 1) = orr (fun t => cif (isOfm (mo h) r t) ((1 : Int32) <<< (nI t &&& 31)) 0) t ||| 0 := congrArg (fun z => orr (fun t => cif (isOfm (mo h) r t) ((1 : Int32) <<< (nI t &&& 31)) 0) t ||| z) (cif_f c44)
        rw [eo] at q
        exact q
      ·
        refine g_iconst (v := 1) (pc' := 48) dX12_recalled_47 rfl (by decide) ?_
        refine g_iload (pc' := 50) dX12_recalled_48 rfl rfl ?_
        refine g_ishl (pc' := 51) dX12_recalled_50 rfl ?_
        refine g_goto (tgt := 55) dX12_recalled_51 (by decide) ?_
        refine g_ior (pc' := 56) dX12_recalled_55 rfl ?_
        refine g_istore_n (pc' := 57) dX12_recalled_56 rfl (by decide) rfl ?_
        try simp only [List.set]
        refine g_iincN (k := 1) (pc' := 60) dX12_recalled_57 rfl rfl (by decide) rfl ?_
        try simp only [List.set]
        refine g_goto (tgt := 27) dX12_recalled_60 (by decide) ?_
        have q := ih (t + 1) (by omega) (by omega)
        have eo : orr (fun t => cif (isOfm (mo h) r t) ((1 : Int32) <<< (nI t &&& 31)) 0) (t + 1) = orr (fun t => cif (isOfm (mo h) r t) ((1 : Int32) <<< (nI t &&& 31)) 0) t ||| ((1 : Int32) <<< (nI t &&& 31)) := congrArg (fun z => orr (fun t => cif (isOfm (mo h) r t) ((1 : Int32) <<< (nI t &&& 31)) 0) t ||| z) (cif_t c44)
        rw [eo] at q
        exact q
set_option maxRecDepth 4000 in
theorem cm_recalled {E : En} (hok : EOK E) {h : Hp} (hs : Shp h.2) (hw : Wf (mo h)) (r0 : Int32) (x : Int32) : Call E m_X12_recalled 3 0 0 [vR MO, vI r0, vI x] h (fun r h' => r = some (vI (sRecalled (mo h) r0 x).1) ∧ mo h' = (sRecalled (mo h) r0 x).2 ∧ Mk h h') := by
  have hNw : h.1 MO 2 = nI (nW (mo h)) := hw.w.1
  have hNwb := hw.w.2
  have hC : h.1 MO 30 = nI (nC (mo h)) := hw.c.1
  have hCb := hw.c.2
  have hK : h.1 MO 3 = nI (nK (mo h)) := hw.k.1
  have hKb := hw.k.2
  have hT : h.1 MO 4 = nI (nT (mo h)) := hw.t.1
  have hTb := hw.t.2
  have hF : h.1 MO 5 = nI (nF (mo h)) := hw.f.1
  have hFb := hw.f.2
  have hRc : h.1 MO 59 = nI (nR (mo h)) := hw.r.1
  have hRb := hw.r.2
  have hG : h.1 MO 60 = nI (nGf (mo h)) := hw.g.1
  have hGb := hw.g.2
  have hA : h.1 MO 70 = nI (nA (mo h)) := hw.a.1
  have hAb := hw.a.2
  have hTl : h.1 MO 1 = nI (nTl (mo h)) := hw.tl.1
  have hTlb := hw.tl.2
  refine Call.enter hok (by decide) (Nat.le_of_ble_eq_true rfl) ?_
  show G E m_X12_recalled 3 0 0 _ h 0 [some (vR MO), some (vI r0), some (vI x), none, none, none, none, none] [] h 0 0
  refine g_aload_n (pc' := 1) dX12_recalled_0 rfl rfl ?_
  refine g_iload_n (pc' := 2) dX12_recalled_1 rfl rfl ?_
  refine g_invV (pc' := 5) (cm_isRecall hok hw _) dX12_recalled_2 rfl rfl ck_13 rfl ml_X12_432 im_X12_isRecall sl_X12_isRecall in_X12 co_X12_isRecall pd_X12_isRecall rfl (by omega) (by decide) ⟨by decide, by decide⟩ (Nat.le_of_ble_eq_true rfl) ?_
  rintro _ _ ⟨rfl, rfl⟩ -
  refine g_ifB_eq (tgt := 20) (pc' := 8) dX12_recalled_5 rfl (by decide) (fun c5 => ?_) (fun c5 => ?_)
  ·
    refine g_iconst (v := -1) (pc' := 21) dX12_recalled_20 rfl (by decide) ?_
    refine g_iret dX12_recalled_21 rfl (by decide) (by decide) ?_
    have e : sRecalled (mo h) r0 x = (-1, mo h) := by exact cif_f (by rintro ⟨z0, z1⟩; contradiction)
    rw [e]
    exact ⟨rfl, rfl, Mk.rf h⟩
  ·
    have k5 := c5
    obtain ⟨r, hr, rfl⟩ := k5
    refine g_iload_n (pc' := 9) dX12_recalled_8 rfl rfl ?_
    refine g_i2l (pc' := 10) dX12_recalled_9 rfl ?_
    refine g_lconst (v := 0) (pc' := 11) dX12_recalled_10 rfl rfl ?_
    refine g_ldc2 (pc' := 14) dX12_recalled_11 rfl kc_X12_438 ?_
    refine g_invS (pc' := 17) (c_liesI hok _ (0) (3) rfl (by decide) (by decide)) dX12_recalled_14 rfl ml_X12_203 st_X12_lies in_X12 co_X12_lies pd_X12_lies rfl (by omega) (by decide) ⟨by decide, by decide⟩ (Nat.le_of_ble_eq_true rfl) ?_
    rintro _ _ ⟨rfl, rfl⟩ -
    refine g_ifB_ne (tgt := 22) (pc' := 20) dX12_recalled_17 rfl (by decide) (fun c17 => ?_) (fun c17 => ?_)
    ·
      refine g_iconst (v := 0) (pc' := 23) dX12_recalled_22 rfl (by decide) ?_
      refine g_istore_n (pc' := 24) dX12_recalled_23 rfl (by decide) rfl ?_
      try simp only [List.set]
      refine g_iconstN (n := 0) (pc' := 25) dX12_recalled_24 rfl ?_
      refine g_istore (pc' := 27) dX12_recalled_25 rfl (by decide) rfl ?_
      try simp only [List.set]
      have e : sRecalled (mo h) (nI r) x = (rcA (mo h) r x, mo h) := by unfold sRecalled; simp only [nI_clamp (show r < 2 ^ 31 by omega)]; exact cif_t ⟨c5, c17⟩
      rw [e]
      exact lm_recalled1 hok hs hw hr x (Nat.le_refl _) ⟨rfl, rfl, Mk.rf h⟩ _ 0 (Nat.zero_le _) rfl
    ·
      refine g_iconst (v := -1) (pc' := 21) dX12_recalled_20 rfl (by decide) ?_
      refine g_iret dX12_recalled_21 rfl (by decide) (by decide) ?_
      have e : sRecalled (mo h) (nI r) x = (-1, mo h) := by unfold sRecalled; simp only [nI_clamp (show r < 2 ^ 31 by omega)]; exact cif_f (by rintro ⟨z0, z1⟩; contradiction)
      rw [e]
      exact ⟨rfl, rfl, Mk.rf h⟩
noncomputable def sForgiving (m : St) (x : Int32) : Int32 × St := cif (0 ≤ x ∧ x ≤ 3) (nI (fgv m x.toNatClampNeg), m) (-1, m)
theorem smN_s (f : Nat → Nat) (n : Nat) : smN f (n + 1) = smN f n + f n := rfl
theorem smN_le {f : Nat → Nat} {B : Nat} (h : ∀ i, f i ≤ B) : ∀ n, smN f n ≤ B * n
  | 0 => Nat.zero_le _
  | n + 1 => by
    have ih := smN_le h n
    have q := h n
    rw [smN_s, Nat.mul_succ]
    omega
set_option maxRecDepth 4000 in
theorem lm_forgiving2 {E : En} (hok : EOK E) {h h0 : Hp} (hs : Shp h.2) (hw : Wf (mo h)) {w f : Nat} (hw4 : w < 4) (hf : f < nF (mo h)) {d : Nat} (hd : 1 ≤ d) {Q : Option V → Hp → Prop} (hQ : G E m_X12_forgiving d 0 0 Q h0 114 [some (vR MO), some (vI (nI w)), some (vI (nI (smN (fun g => cnt (fgP (mo h) w g) (nA (mo h))) f + cnt (fgP (mo h) w f) (nA (mo h))))), some (vI (nI f)), none, none] [] h 0 0) : ∀ n i : Nat, i ≤ nA (mo h) → nA (mo h) - i = n → G E m_X12_forgiving d 0 0 Q h0 32 [some (vR MO), some (vI (nI w)), some (vI (nI (smN (fun g => cnt (fgP (mo h) w g) (nA (mo h))) f + cnt (fgP (mo h) w f) i))), some (vI (nI f)), some (vI (lastF (mo h) f i)), some (vI (nI i))] [] (h) 0 0 := by
  have hNw : h.1 MO 2 = nI (nW (mo h)) := hw.w.1
  have hNwb := hw.w.2
  have hC : h.1 MO 30 = nI (nC (mo h)) := hw.c.1
  have hCb := hw.c.2
  have hK : h.1 MO 3 = nI (nK (mo h)) := hw.k.1
  have hKb := hw.k.2
  have hT : h.1 MO 4 = nI (nT (mo h)) := hw.t.1
  have hTb := hw.t.2
  have hF : h.1 MO 5 = nI (nF (mo h)) := hw.f.1
  have hFb := hw.f.2
  have hRc : h.1 MO 59 = nI (nR (mo h)) := hw.r.1
  have hRb := hw.r.2
  have hG : h.1 MO 60 = nI (nGf (mo h)) := hw.g.1
  have hGb := hw.g.2
  have hA : h.1 MO 70 = nI (nA (mo h)) := hw.a.1
  have hAb := hw.a.2
  have hTl : h.1 MO 1 = nI (nTl (mo h)) := hw.tl.1
  have hTlb := hw.tl.2
  intro n
  induction n with
  | zero =>
    intro i h1 h2
    refine g_iload (pc' := 34) dX12_forgiving_32 rfl rfl ?_
    refine g_aload_n (pc' := 35) dX12_forgiving_34 rfl rfl ?_
    refine g_getIv (v := nI (nA (mo h))) (pc' := 38) (k := 70) dX12_forgiving_35 rfl rfl ck_13 (by decide) fl_X12_449 rfl (hA) ?_
    refine g_icmp_geN (tgt := 114) (pc' := 41) dX12_forgiving_38 rfl (by decide) (by omega) (by omega) (fun c38 => ?_) (fun c38 => ?_)
    ·
      have e : i = nA (mo h) := by omega
      subst e
      refine G.drop 4 ?_
      refine G.drop 5 ?_
      simp only [List.set]
      exact hQ
    · exact absurd c38 (by omega)
  | succ n ih =>
    intro i h1 h2
    refine g_iload (pc' := 34) dX12_forgiving_32 rfl rfl ?_
    refine g_aload_n (pc' := 35) dX12_forgiving_34 rfl rfl ?_
    refine g_getIv (v := nI (nA (mo h))) (pc' := 38) (k := 70) dX12_forgiving_35 rfl rfl ck_13 (by decide) fl_X12_449 rfl (hA) ?_
    refine g_icmp_geN (tgt := 114) (pc' := 41) dX12_forgiving_38 rfl (by decide) (by omega) (by omega) (fun c38 => ?_) (fun c38 => ?_)
    · exact absurd c38 (by omega)
    ·
      refine g_aload_n (pc' := 42) dX12_forgiving_41 rfl rfl ?_
      refine g_getS (pc' := 45) (k := 78) (b := (178, 0)) dX12_forgiving_42 rfl rfl ck_13 (by decide) fl_X12_171 rfl hs rfl ?_
      refine g_iload (pc' := 47) dX12_forgiving_45 rfl rfl ?_
      refine g_zaldN (pc' := 48) (v := mo h 178 i) dX12_forgiving_47 rfl rfl (by decide) (by omega) (rfl) ?_
      refine g_if_eq (tgt := 108) (pc' := 51) dX12_forgiving_48 rfl (by decide) (fun c48 => ?_) (fun c48 => ?_)
      ·
        refine g_iincN (k := 1) (pc' := 111) dX12_forgiving_108 rfl rfl (by decide) rfl ?_
        try simp only [List.set]
        refine g_goto (tgt := 32) dX12_forgiving_111 (by decide) ?_
        have q := ih (i + 1) (by omega) (by omega)
        rw [show lastF (mo h) f (i + 1) = _ from cif_f (fun z => z.1 c48), cnt_f (p := (fgP (mo h) w f)) (fun z => z.1.1 c48)] at q
        exact q
      ·
        refine g_aload_n (pc' := 52) dX12_forgiving_51 rfl rfl ?_
        refine g_getS (pc' := 55) (k := 76) (b := (176, 0)) dX12_forgiving_52 rfl rfl ck_13 (by decide) fl_X12_165 rfl hs rfl ?_
        refine g_iload (pc' := 57) dX12_forgiving_55 rfl rfl ?_
        refine g_ialdN (pc' := 58) (v := mo h 176 i) dX12_forgiving_57 rfl rfl (by decide) (by omega) (rfl) ?_
        refine g_iload_n (pc' := 59) dX12_forgiving_58 rfl rfl ?_
        refine g_icmp_eq (tgt := 65) (pc' := 62) dX12_forgiving_59 rfl (by decide) (fun c59 => ?_) (fun c59 => ?_)
        ·
          refine g_iload (pc' := 67) dX12_forgiving_65 rfl rfl ?_
          refine g_iconstN (n := 1) (pc' := 68) dX12_forgiving_67 rfl ?_
          refine g_iload_n (pc' := 69) dX12_forgiving_68 rfl rfl ?_
          refine g_iconstN (n := 2) (pc' := 70) dX12_forgiving_69 rfl ?_
          refine g_idivN (pc' := 71) dX12_forgiving_70 rfl (by omega) (by omega) (by omega) ?_
          refine g_iaddN (pc' := 72) dX12_forgiving_71 rfl ?_
          refine g_icmp_ne (tgt := 99) (pc' := 75) dX12_forgiving_72 rfl (by decide) (fun c72 => ?_) (fun c72 => ?_)
          ·
            refine g_aload_n (pc' := 100) dX12_forgiving_99 rfl rfl ?_
            refine g_getS (pc' := 103) (k := 77) (b := (177, 0)) dX12_forgiving_100 rfl rfl ck_13 (by decide) fl_X12_168 rfl hs rfl ?_
            refine g_iload (pc' := 105) dX12_forgiving_103 rfl rfl ?_
            refine g_ialdN (pc' := 106) (v := mo h 177 i) dX12_forgiving_105 rfl rfl (by decide) (by omega) (rfl) ?_
            refine g_istore (pc' := 108) dX12_forgiving_106 rfl (by decide) rfl ?_
            try simp only [List.set]
            refine g_iincN (k := 1) (pc' := 111) dX12_forgiving_108 rfl rfl (by decide) rfl ?_
            try simp only [List.set]
            refine g_goto (tgt := 32) dX12_forgiving_111 (by decide) ?_
            have q := ih (i + 1) (by omega) (by omega)
            rw [show lastF (mo h) f (i + 1) = _ from cif_t ⟨c48, c59⟩, cnt_f (p := (fgP (mo h) w f)) (fun z => c72 z.2.1)] at q
            exact q
          ·
            refine g_iload_n (pc' := 76) dX12_forgiving_75 rfl rfl ?_
            refine g_iload_n (pc' := 77) dX12_forgiving_76 rfl rfl ?_
            refine g_iconstN (n := 2) (pc' := 78) dX12_forgiving_77 rfl ?_
            refine g_iremN (pc' := 79) dX12_forgiving_78 rfl (by omega) (by omega) (by omega) ?_
            refine g_if_eqN (tgt := 92) (pc' := 82) dX12_forgiving_79 rfl (by decide) (by omega) (fun c79 => ?_) (fun c79 => ?_)
            ·
              refine g_iconstN (n := 1) (pc' := 93) dX12_forgiving_92 rfl ?_
              refine g_goto (tgt := 97) dX12_forgiving_93 (by decide) ?_
              refine g_iaddN (pc' := 98) dX12_forgiving_97 rfl ?_
              refine g_istore_n (pc' := 99) dX12_forgiving_98 rfl (by decide) rfl ?_
              try simp only [List.set]
              refine g_aload_n (pc' := 100) dX12_forgiving_99 rfl rfl ?_
              refine g_getS (pc' := 103) (k := 77) (b := (177, 0)) dX12_forgiving_100 rfl rfl ck_13 (by decide) fl_X12_168 rfl hs rfl ?_
              refine g_iload (pc' := 105) dX12_forgiving_103 rfl rfl ?_
              refine g_ialdN (pc' := 106) (v := mo h 177 i) dX12_forgiving_105 rfl rfl (by decide) (by omega) (rfl) ?_
              refine g_istore (pc' := 108) dX12_forgiving_106 rfl (by decide) rfl ?_
              try simp only [List.set]
              refine g_iincN (k := 1) (pc' := 111) dX12_forgiving_108 rfl rfl (by decide) rfl ?_
              try simp only [List.set]
              refine g_goto (tgt := 32) dX12_forgiving_111 (by decide) ?_
              have q := ih (i + 1) (by omega) (by omega)
              rw [show lastF (mo h) f (i + 1) = _ from cif_t ⟨c48, c59⟩, cnt_t (p := (fgP (mo h) w f)) ⟨⟨c48, c59⟩, c72, Or.inl c79⟩] at q
              exact q
            ·
              refine g_aload_n (pc' := 83) dX12_forgiving_82 rfl rfl ?_
              refine g_getS (pc' := 86) (k := 79) (b := (179, 0)) dX12_forgiving_83 rfl rfl ck_13 (by decide) fl_X12_174 rfl hs rfl ?_
              refine g_iload (pc' := 88) dX12_forgiving_86 rfl rfl ?_
              refine g_zaldN (pc' := 89) (v := mo h 179 i) dX12_forgiving_88 rfl rfl (by decide) (by omega) (rfl) ?_
              refine g_if_eq (tgt := 96) (pc' := 92) dX12_forgiving_89 rfl (by decide) (fun c89 => ?_) (fun c89 => ?_)
              ·
                refine g_iconstN (n := 0) (pc' := 97) dX12_forgiving_96 rfl ?_
                refine g_iaddN (pc' := 98) dX12_forgiving_97 rfl ?_
                refine g_istore_n (pc' := 99) dX12_forgiving_98 rfl (by decide) rfl ?_
                try simp only [List.set]
                refine g_aload_n (pc' := 100) dX12_forgiving_99 rfl rfl ?_
                refine g_getS (pc' := 103) (k := 77) (b := (177, 0)) dX12_forgiving_100 rfl rfl ck_13 (by decide) fl_X12_168 rfl hs rfl ?_
                refine g_iload (pc' := 105) dX12_forgiving_103 rfl rfl ?_
                refine g_ialdN (pc' := 106) (v := mo h 177 i) dX12_forgiving_105 rfl rfl (by decide) (by omega) (rfl) ?_
                refine g_istore (pc' := 108) dX12_forgiving_106 rfl (by decide) rfl ?_
                try simp only [List.set]
                refine g_iincN (k := 1) (pc' := 111) dX12_forgiving_108 rfl rfl (by decide) rfl ?_
                try simp only [List.set]
                refine g_goto (tgt := 32) dX12_forgiving_111 (by decide) ?_
                have q := ih (i + 1) (by omega) (by omega)
                rw [show lastF (mo h) f (i + 1) = _ from cif_t ⟨c48, c59⟩, cnt_f (p := (fgP (mo h) w f)) (fun z => by rcases z.2.2 with y | y; exact c79 y; exact y c89)] at q
                exact q
              ·
                refine g_iconstN (n := 1) (pc' := 93) dX12_forgiving_92 rfl ?_
                refine g_goto (tgt := 97) dX12_forgiving_93 (by decide) ?_
                refine g_iaddN (pc' := 98) dX12_forgiving_97 rfl ?_
                refine g_istore_n (pc' := 99) dX12_forgiving_98 rfl (by decide) rfl ?_
                try simp only [List.set]
                refine g_aload_n (pc' := 100) dX12_forgiving_99 rfl rfl ?_
                refine g_getS (pc' := 103) (k := 77) (b := (177, 0)) dX12_forgiving_100 rfl rfl ck_13 (by decide) fl_X12_168 rfl hs rfl ?_
                refine g_iload (pc' := 105) dX12_forgiving_103 rfl rfl ?_
                refine g_ialdN (pc' := 106) (v := mo h 177 i) dX12_forgiving_105 rfl rfl (by decide) (by omega) (rfl) ?_
                refine g_istore (pc' := 108) dX12_forgiving_106 rfl (by decide) rfl ?_
                try simp only [List.set]
                refine g_iincN (k := 1) (pc' := 111) dX12_forgiving_108 rfl rfl (by decide) rfl ?_
                try simp only [List.set]
                refine g_goto (tgt := 32) dX12_forgiving_111 (by decide) ?_
                have q := ih (i + 1) (by omega) (by omega)
                rw [show lastF (mo h) f (i + 1) = _ from cif_t ⟨c48, c59⟩, cnt_t (p := (fgP (mo h) w f)) ⟨⟨c48, c59⟩, c72, Or.inr c89⟩] at q
                exact q
        ·
          refine g_goto (tgt := 108) dX12_forgiving_62 (by decide) ?_
          refine g_iincN (k := 1) (pc' := 111) dX12_forgiving_108 rfl rfl (by decide) rfl ?_
          try simp only [List.set]
          refine g_goto (tgt := 32) dX12_forgiving_111 (by decide) ?_
          have q := ih (i + 1) (by omega) (by omega)
          rw [show lastF (mo h) f (i + 1) = _ from cif_f (fun z => c59 z.2), cnt_f (p := (fgP (mo h) w f)) (fun z => c59 z.1.2)] at q
          exact q
set_option maxRecDepth 4000 in
theorem lm_forgiving1 {E : En} (hok : EOK E) {h h0 : Hp} (hs : Shp h.2) (hw : Wf (mo h)) {w : Nat} (hw4 : w < 4) {d : Nat} (hd : 1 ≤ d) {Q : Option V → Hp → Prop} (hQ : Q (some (vI (nI (fgv (mo h) w)))) h) : ∀ n f : Nat, f ≤ nF (mo h) → nF (mo h) - f = n → G E m_X12_forgiving d 0 0 Q h0 18 [some (vR MO), some (vI (nI w)), some (vI (nI (smN (fun g => cnt (fgP (mo h) w g) (nA (mo h))) f))), some (vI (nI f)), none, none] [] (h) 0 0 := by
  have hNw : h.1 MO 2 = nI (nW (mo h)) := hw.w.1
  have hNwb := hw.w.2
  have hC : h.1 MO 30 = nI (nC (mo h)) := hw.c.1
  have hCb := hw.c.2
  have hK : h.1 MO 3 = nI (nK (mo h)) := hw.k.1
  have hKb := hw.k.2
  have hT : h.1 MO 4 = nI (nT (mo h)) := hw.t.1
  have hTb := hw.t.2
  have hF : h.1 MO 5 = nI (nF (mo h)) := hw.f.1
  have hFb := hw.f.2
  have hRc : h.1 MO 59 = nI (nR (mo h)) := hw.r.1
  have hRb := hw.r.2
  have hG : h.1 MO 60 = nI (nGf (mo h)) := hw.g.1
  have hGb := hw.g.2
  have hA : h.1 MO 70 = nI (nA (mo h)) := hw.a.1
  have hAb := hw.a.2
  have hTl : h.1 MO 1 = nI (nTl (mo h)) := hw.tl.1
  have hTlb := hw.tl.2
  intro n
  induction n with
  | zero =>
    intro f h1 h2
    refine g_iload_n (pc' := 19) dX12_forgiving_18 rfl rfl ?_
    refine g_aload_n (pc' := 20) dX12_forgiving_19 rfl rfl ?_
    refine g_getIv (v := nI (nF (mo h))) (pc' := 23) (k := 5) dX12_forgiving_20 rfl rfl ck_13 (by decide) fl_X12_214 rfl (hF) ?_
    refine g_icmp_geN (tgt := 120) (pc' := 26) dX12_forgiving_23 rfl (by decide) (by omega) (by omega) (fun c23 => ?_) (fun c23 => ?_)
    ·
      refine g_iload_n (pc' := 121) dX12_forgiving_120 rfl rfl ?_
      refine g_iret dX12_forgiving_121 rfl (by decide) (by decide) ?_
      have e : f = nF (mo h) := by omega
      subst e
      exact hQ
    · exact absurd c23 (by omega)
  | succ n ih =>
    intro f h1 h2
    refine g_iload_n (pc' := 19) dX12_forgiving_18 rfl rfl ?_
    refine g_aload_n (pc' := 20) dX12_forgiving_19 rfl rfl ?_
    refine g_getIv (v := nI (nF (mo h))) (pc' := 23) (k := 5) dX12_forgiving_20 rfl rfl ck_13 (by decide) fl_X12_214 rfl (hF) ?_
    refine g_icmp_geN (tgt := 120) (pc' := 26) dX12_forgiving_23 rfl (by decide) (by omega) (by omega) (fun c23 => ?_) (fun c23 => ?_)
    · exact absurd c23 (by omega)
    ·
      refine g_iconst (v := 0) (pc' := 27) dX12_forgiving_26 rfl (by decide) ?_
      refine g_istore (pc' := 29) dX12_forgiving_27 rfl (by decide) rfl ?_
      try simp only [List.set]
      refine g_iconstN (n := 0) (pc' := 30) dX12_forgiving_29 rfl ?_
      refine g_istore (pc' := 32) dX12_forgiving_30 rfl (by decide) rfl ?_
      try simp only [List.set]
      refine lm_forgiving2 hok hs hw hw4 (by omega) hd ?_ _ 0 (Nat.zero_le _) rfl
      refine g_iincN (k := 1) (pc' := 117) dX12_forgiving_114 rfl rfl (by decide) rfl ?_
      try simp only [List.set]
      refine g_goto (tgt := 18) dX12_forgiving_117 (by decide) ?_
      exact ih (f + 1) (by omega) (by omega)
set_option maxRecDepth 4000 in
theorem cm_forgiving {E : En} (hok : EOK E) {h : Hp} (hs : Shp h.2) (hw : Wf (mo h)) (x : Int32) : Call E m_X12_forgiving 1 0 0 [vR MO, vI x] h (fun r h' => r = some (vI (sForgiving (mo h) x).1) ∧ mo h' = (sForgiving (mo h) x).2 ∧ Mk h h') := by
  have hNw : h.1 MO 2 = nI (nW (mo h)) := hw.w.1
  have hNwb := hw.w.2
  have hC : h.1 MO 30 = nI (nC (mo h)) := hw.c.1
  have hCb := hw.c.2
  have hK : h.1 MO 3 = nI (nK (mo h)) := hw.k.1
  have hKb := hw.k.2
  have hT : h.1 MO 4 = nI (nT (mo h)) := hw.t.1
  have hTb := hw.t.2
  have hF : h.1 MO 5 = nI (nF (mo h)) := hw.f.1
  have hFb := hw.f.2
  have hRc : h.1 MO 59 = nI (nR (mo h)) := hw.r.1
  have hRb := hw.r.2
  have hG : h.1 MO 60 = nI (nGf (mo h)) := hw.g.1
  have hGb := hw.g.2
  have hA : h.1 MO 70 = nI (nA (mo h)) := hw.a.1
  have hAb := hw.a.2
  have hTl : h.1 MO 1 = nI (nTl (mo h)) := hw.tl.1
  have hTlb := hw.tl.2
  refine Call.enter hok (by decide) (Nat.le_of_ble_eq_true rfl) ?_
  show G E m_X12_forgiving 1 0 0 _ h 0 [some (vR MO), some (vI x), none, none, none, none] [] h 0 0
  refine g_iload_n (pc' := 1) dX12_forgiving_0 rfl rfl ?_
  refine g_i2l (pc' := 2) dX12_forgiving_1 rfl ?_
  refine g_lconst (v := 0) (pc' := 3) dX12_forgiving_2 rfl rfl ?_
  refine g_ldc2 (pc' := 6) dX12_forgiving_3 rfl kc_X12_438 ?_
  refine g_invS (pc' := 9) (c_liesI hok _ (0) (3) rfl (by decide) (by decide)) dX12_forgiving_6 rfl ml_X12_203 st_X12_lies in_X12 co_X12_lies pd_X12_lies rfl (by omega) (by decide) ⟨by decide, by decide⟩ (Nat.le_of_ble_eq_true rfl) ?_
  rintro _ _ ⟨rfl, rfl⟩ -
  refine g_ifB_ne (tgt := 14) (pc' := 12) dX12_forgiving_9 rfl (by decide) (fun c9 => ?_) (fun c9 => ?_)
  ·
    have k9 := four_iff.mp c9
    obtain ⟨v, hv, rfl⟩ := k9
    refine g_iconstN (n := 0) (pc' := 15) dX12_forgiving_14 rfl ?_
    refine g_istore_n (pc' := 16) dX12_forgiving_15 rfl (by decide) rfl ?_
    try simp only [List.set]
    refine g_iconstN (n := 0) (pc' := 17) dX12_forgiving_16 rfl ?_
    refine g_istore_n (pc' := 18) dX12_forgiving_17 rfl (by decide) rfl ?_
    try simp only [List.set]
    have e : sForgiving (mo h) (nI v) = (nI (fgv (mo h) v), mo h) := by unfold sForgiving; simp only [nI_clamp (show v < 2 ^ 31 by omega)]; exact cif_t c9
    rw [e]
    exact lm_forgiving1 hok hs hw hv (Nat.le_refl _) ⟨rfl, rfl, Mk.rf h⟩ _ 0 (Nat.zero_le _) rfl
  ·
    refine g_iconst (v := -1) (pc' := 13) dX12_forgiving_12 rfl (by decide) ?_
    refine g_iret dX12_forgiving_13 rfl (by decide) (by decide) ?_
    have e : sForgiving (mo h) x = (-1, mo h) := by exact cif_f (by rintro z; contradiction)
    rw [e]
    exact ⟨rfl, rfl, Mk.rf h⟩
