theorem in_iff {B W e v : Nat} (hB : B ≤ 16400) (hW : W ≤ 200000) (he : e ≤ 2000) (hv : v ≤ B) : (nI W - nI e ≤ nI (B - v) ∧ nI (B - v) ≤ nI (W + e)) ↔ inW B W e v := by
  have e1 : (nI W - nI e).toInt = (W : Int) - e := pk_sub_toInt (by omega) (by omega)
  rw [Int32.le_iff_toInt_le, Int32.le_iff_toInt_le, e1, nI_toInt (by omega), nI_toInt (by omega)]
  unfold inW
  omega
theorem enc1 {L s : Int32} : (nI 63 &&& (L ^^^ (-1))) &&& (s ^^^ (-1)) = nI 63 &&& ((L ||| s) ^^^ (-1)) := by
  refine bt_ext fun j hj => ?_
  rw [bt_and, bt_and, bt_and, bt_neg _ hj, bt_neg _ hj, bt_neg _ hj, bt_or]
  cases bt (nI 63) j <;> cases bt L j <;> cases bt s j <;> rfl
theorem enc2 {L s : Int32} : (nI 63 &&& (L ^^^ (-1))) &&& s = nI 63 &&& ((L ||| (nI 63 &&& (s ^^^ (-1)))) ^^^ (-1)) := by
  refine bt_ext fun j hj => ?_
  rw [bt_and, bt_and, bt_and, bt_neg _ hj, bt_neg _ hj, bt_or, bt_and, bt_neg _ hj]
  cases bt (nI 63) j <;> cases bt L j <;> cases bt s j <;> rfl
theorem dgs.b {g : Nat → Nat} {x : Nat} {h h' : Hp} (q : dgs g x h) (e : h'.1 (180, 0) = h.1 (180, 0)) : dgs g x h' := fun s hs => by rw [e]; exact q s hs
theorem bg_up {m : St} {t n : Nat} (hn : n ≤ 6) : smN (fun s => hsN m t s * wtN m (kd m t) s) n ≤ bgN m t := by
  unfold bgN
  rw [two_part (f := fun s => hsN m t s * wtN m (kd m t) s) hn]
  omega
set_option maxRecDepth 4000 in
theorem lm_weighs2 {E : En} (hok : EOK E) {h h0 : Hp} (hs : Shp h.2) (hw : Wf (mo h)) (hx : Wx (mo h)) {t : Nat} (ht : t < nT (mo h)) {x : Nat} (hdg : dgs (gW (mo h) t) x h) (p2_ p3_ : Int32) {d : Nat} (hd : 0 ≤ d) {Q : Option V → Hp → Prop} (hQ : G E m_X12_weighs d 0 0 Q h0 152 [some (vR MO), some (vI (nI t)), some (vI p2_), some (vI p3_), some (vI (nI (bgN (mo h) t))), none, some (vI (nI (bgN (mo h) t - wx (gW (mo h) t) (vW (mo h) t) 6 x))), some (vI (nI (nx (gW (mo h) t) 6 x))), some (vI (sx (gW (mo h) t) 6 x)), none] [] h 0 0) : ∀ n s : Nat, s ≤ 6 → 6 - s = n → G E m_X12_weighs d 0 0 Q h0 74 [some (vR MO), some (vI (nI t)), some (vI p2_), some (vI p3_), some (vI (nI (bgN (mo h) t))), none, some (vI (nI (bgN (mo h) t - wx (gW (mo h) t) (vW (mo h) t) s x))), some (vI (nI (nx (gW (mo h) t) s x))), some (vI (sx (gW (mo h) t) s x)), some (vI (nI s))] [] (h) 0 0 := by
  have hNw : h.1 MO 2 = nI (nW (mo h)) := hw.w.1
  have hNwb := hw.w.2
  have hC : h.1 MO 30 = nI (nC (mo h)) := hw.c.1
  have hCb := hw.c.2
  have hK : h.1 MO 3 = nI (nK (mo h)) := hw.k.1
  have hKb := hw.k.2
  have hT : h.1 MO 4 = nI (nT (mo h)) := hw.t.1
  have hTb := hw.t.2
  have hF : h.1 MO 5 = nI (nF (mo h)) := hw.f.1
  have hFb := hw.f.2
  have hRc : h.1 MO 59 = nI (nR (mo h)) := hw.r.1
  have hRb := hw.r.2
  have hG : h.1 MO 60 = nI (nGf (mo h)) := hw.g.1
  have hGb := hw.g.2
  have hA : h.1 MO 70 = nI (nA (mo h)) := hw.a.1
  have hAb := hw.a.2
  have hTl : h.1 MO 1 = nI (nTl (mo h)) := hw.tl.1
  have hTlb := hw.tl.2
  intro n
  induction n with
  | zero =>
    intro s h1 h2
    refine g_iload (pc' := 76) dX12_weighs_74 rfl rfl ?_
    refine g_bipushN (n := 6) (pc' := 78) dX12_weighs_76 rfl (by decide) ?_
    refine g_icmp_geN (tgt := 152) (pc' := 81) dX12_weighs_78 rfl (by decide) (by omega) (by omega) (fun c78 => ?_) (fun c78 => ?_)
    ·
      have e : s = 6 := by omega
      subst e
      refine G.drop 9 ?_
      simp only [List.set]
      exact hQ
    · exact absurd c78 (by omega)
  | succ n ih =>
    intro s h1 h2
    refine g_iload (pc' := 76) dX12_weighs_74 rfl rfl ?_
    refine g_bipushN (n := 6) (pc' := 78) dX12_weighs_76 rfl (by decide) ?_
    refine g_icmp_geN (tgt := 152) (pc' := 81) dX12_weighs_78 rfl (by decide) (by omega) (by omega) (fun c78 => ?_) (fun c78 => ?_)
    · exact absurd c78 (by omega)
    ·
      have hkd := (hw.kd ht).2
      have hg6 := gW_le hw hx ht s (by omega)
      have hv4 := vW_le hw hx ht s (by omega)
      have hl6 := ld_le (gW (mo h) t) s x
      have hn6 := nx_le (gW_le hw hx ht) (show s ≤ 6 by omega) x
      have hwu : wx (gW (mo h) t) (vW (mo h) t) (s + 1) x ≤ bgN (mo h) t := Nat.le_trans (wx_up _ _ x (s + 1)) (bg_up (by omega))
      rw [wx_s] at hwu
      have hB := (bag_n hw hx ht).2
      refine g_iload (pc' := 83) dX12_weighs_81 rfl rfl ?_
      refine g_aload_n (pc' := 84) dX12_weighs_83 rfl rfl ?_
      refine g_getS (pc' := 87) (k := 80) (b := (180, 0)) dX12_weighs_84 rfl rfl ck_13 (by decide) fl_X12_177 rfl hs rfl ?_
      refine g_iload (pc' := 89) dX12_weighs_87 rfl rfl ?_
      refine g_ialdN (pc' := 90) (v := nI (ld (gW (mo h) t) s x)) dX12_weighs_89 rfl rfl (by decide) (by omega) (hdg s (by omega)) ?_
      refine g_aload_n (pc' := 91) dX12_weighs_90 rfl rfl ?_
      refine g_getS (pc' := 94) (k := 14) (b := (114, 0)) dX12_weighs_91 rfl rfl ck_13 (by decide) fl_X12_32 rfl hs rfl ?_
      refine g_bipushN (n := 6) (pc' := 96) dX12_weighs_94 rfl (by decide) ?_
      refine g_aload_n (pc' := 97) dX12_weighs_96 rfl rfl ?_
      refine g_getS (pc' := 100) (k := 15) (b := (115, 0)) dX12_weighs_97 rfl rfl ck_13 (by decide) fl_X12_35 rfl hs rfl ?_
      refine g_iload_n (pc' := 101) dX12_weighs_100 rfl rfl ?_
      refine g_ialdN (pc' := 102) (v := nI (kd (mo h) t)) dX12_weighs_101 rfl rfl (by decide) (by omega) ((hw.kd ht).1) ?_
      refine g_imulN (pc' := 103) dX12_weighs_102 rfl ?_
      refine g_iload (pc' := 105) dX12_weighs_103 rfl rfl ?_
      refine g_iaddN (pc' := 106) dX12_weighs_105 rfl ?_
      refine g_ialdN (pc' := 107) (v := nI (vW (mo h) t s)) dX12_weighs_106 rfl rfl (by decide) (by omega) ((wt_n hx (hw.kd ht).2 (show s < 6 by omega)).1) ?_
      refine g_imulN (pc' := 108) dX12_weighs_107 rfl ?_
      refine g_isubN (pc' := 109) dX12_weighs_108 rfl (by omega) ?_
      refine g_istore (pc' := 111) dX12_weighs_109 rfl (by decide) rfl ?_
      try simp only [List.set]
      refine g_iload (pc' := 113) dX12_weighs_111 rfl rfl ?_
      refine g_aload_n (pc' := 114) dX12_weighs_113 rfl rfl ?_
      refine g_getS (pc' := 117) (k := 80) (b := (180, 0)) dX12_weighs_114 rfl rfl ck_13 (by decide) fl_X12_177 rfl hs rfl ?_
      refine g_iload (pc' := 119) dX12_weighs_117 rfl rfl ?_
      refine g_ialdN (pc' := 120) (v := nI (ld (gW (mo h) t) s x)) dX12_weighs_119 rfl rfl (by decide) (by omega) (hdg s (by omega)) ?_
      refine g_iaddN (pc' := 121) dX12_weighs_120 rfl ?_
      refine g_istore (pc' := 123) dX12_weighs_121 rfl (by decide) rfl ?_
      try simp only [List.set]
      refine g_iload (pc' := 125) dX12_weighs_123 rfl rfl ?_
      refine g_aload_n (pc' := 126) dX12_weighs_125 rfl rfl ?_
      refine g_getS (pc' := 129) (k := 80) (b := (180, 0)) dX12_weighs_126 rfl rfl ck_13 (by decide) fl_X12_177 rfl hs rfl ?_
      refine g_iload (pc' := 131) dX12_weighs_129 rfl rfl ?_
      refine g_ialdN (pc' := 132) (v := nI (ld (gW (mo h) t) s x)) dX12_weighs_131 rfl rfl (by decide) (by omega) (hdg s (by omega)) ?_
      refine g_if_leN (tgt := 142) (pc' := 135) dX12_weighs_132 rfl (by decide) (by omega) (fun c132 => ?_) (fun c132 => ?_)
      ·
        refine g_iconst (v := 0) (pc' := 143) dX12_weighs_142 rfl (by decide) ?_
        refine g_ior (pc' := 144) dX12_weighs_143 rfl ?_
        refine g_istore (pc' := 146) dX12_weighs_144 rfl (by decide) rfl ?_
        try simp only [List.set]
        refine g_iincN (k := 1) (pc' := 149) dX12_weighs_146 rfl rfl (by decide) rfl ?_
        try simp only [List.set]
        refine g_goto (tgt := 74) dX12_weighs_149 (by decide) ?_
        have q := ih (s + 1) (by omega) (by omega)
        have eo : sx (gW (mo h) t) (s + 1) x = sx (gW (mo h) t) s x ||| 0 := congrArg (fun z => sx (gW (mo h) t) s x ||| z) (cif_f (show ¬ 0 < ld (gW (mo h) t) s x by omega))
        rw [eo, wx_s, nx_s, ← Nat.sub_sub] at q
        exact q
      ·
        refine g_iconst (v := 1) (pc' := 136) dX12_weighs_135 rfl (by decide) ?_
        refine g_iload (pc' := 138) dX12_weighs_136 rfl rfl ?_
        refine g_ishl (pc' := 139) dX12_weighs_138 rfl ?_
        refine g_goto (tgt := 143) dX12_weighs_139 (by decide) ?_
        refine g_ior (pc' := 144) dX12_weighs_143 rfl ?_
        refine g_istore (pc' := 146) dX12_weighs_144 rfl (by decide) rfl ?_
        try simp only [List.set]
        refine g_iincN (k := 1) (pc' := 149) dX12_weighs_146 rfl rfl (by decide) rfl ?_
        try simp only [List.set]
        refine g_goto (tgt := 74) dX12_weighs_149 (by decide) ?_
        have q := ih (s + 1) (by omega) (by omega)
        have eo : sx (gW (mo h) t) (s + 1) x = sx (gW (mo h) t) s x ||| ((1 : Int32) <<< (nI s &&& 31)) := congrArg (fun z => sx (gW (mo h) t) s x ||| z) (cif_t (show 0 < ld (gW (mo h) t) s x by omega))
        rw [eo, wx_s, nx_s, ← Nat.sub_sub] at q
        exact q
set_option maxRecDepth 4000 in
theorem lm_weighs4 {E : En} (hok : EOK E) {h h0 : Hp} (hs0 : Shp h.2) {g : Nat → Nat} {x : Nat} (hdg : dgs g x h) (p1 p2 p3 p4 p6 p7 p8 : Int32) {d : Nat} {Q : Option V → Hp → Prop} (hQ : ∀ h1, (h1.1 MO 82 = h.1 MO 82 ∧ h1.1 MO 83 = h.1 MO 83 ∧ h1.1 MO 84 = h.1 MO 84 ∧ h1.1 MO 85 = h.1 MO 85) → B9 h h1 → dgs g x h1 → (∀ s, s < 6 → h1.1 (181, 0) s = nI (ld g s x)) → G E m_X12_weighs d 0 0 Q h0 256 [some (vR MO), some (vI p1), some (vI p2), some (vI p3), some (vI p4), none, some (vI p6), some (vI p7), some (vI p8), none] [] h1 0 0) : ∀ n s : Nat, s ≤ 6 → 6 - s = n → G E m_X12_weighs d 0 0 Q h0 229 [some (vR MO), some (vI p1), some (vI p2), some (vI p3), some (vI p4), none, some (vI p6), some (vI p7), some (vI p8), some (vI (nI s))] [] (wN h (181, 0) 0 (fun s => nI (ld g s x)) s) 0 0 := by
  intro n
  induction n with
  | zero =>
    intro s h1 h2
    have hs : Shp (wN h (181, 0) 0 (fun s => nI (ld g s x)) s).2 := by rw [wN_2]; exact hs0
    refine g_iload (pc' := 231) dX12_weighs_229 rfl rfl ?_
    refine g_bipushN (n := 6) (pc' := 233) dX12_weighs_231 rfl (by decide) ?_
    refine g_icmp_geN (tgt := 256) (pc' := 236) dX12_weighs_233 rfl (by decide) (by omega) (by omega) (fun c233 => ?_) (fun c233 => ?_)
    ·
      have e6 : s = 6 := by omega
      subst e6
      refine G.drop 9 ?_
      simp only [List.set]
      have eo : ∀ q : Ad, q ≠ (181, 0) → (wN h (181, 0) 0 (fun s => nI (ld g s x)) 6).1 q = h.1 q := fun q z => wN_off _ _ _ _ z 6
      refine hQ _ ⟨by rw [eo MO (by decide)], by rw [eo MO (by decide)], by rw [eo MO (by decide)], by rw [eo MO (by decide)]⟩ (B9.n (B9.rf h) (Or.inr rfl) 6) (hdg.b (eo (180, 0) (by decide))) (fun s hs => ?_)
      have q := wN_at h (181, 0) 0 (fun s => nI (ld g s x)) 6 hs
      rw [Nat.zero_add] at q
      exact q
    · exact absurd c233 (by omega)
  | succ n ih =>
    intro s h1 h2
    have hs : Shp (wN h (181, 0) 0 (fun s => nI (ld g s x)) s).2 := by rw [wN_2]; exact hs0
    refine g_iload (pc' := 231) dX12_weighs_229 rfl rfl ?_
    refine g_bipushN (n := 6) (pc' := 233) dX12_weighs_231 rfl (by decide) ?_
    refine g_icmp_geN (tgt := 256) (pc' := 236) dX12_weighs_233 rfl (by decide) (by omega) (by omega) (fun c233 => ?_) (fun c233 => ?_)
    · exact absurd c233 (by omega)
    ·
      refine g_aload_n (pc' := 237) dX12_weighs_236 rfl rfl ?_
      refine g_getS (pc' := 240) (k := 81) (b := (181, 0)) dX12_weighs_237 rfl rfl ck_13 (by decide) fl_X12_180 rfl hs rfl ?_
      refine g_iload (pc' := 242) dX12_weighs_240 rfl rfl ?_
      refine g_aload_n (pc' := 243) dX12_weighs_242 rfl rfl ?_
      refine g_getS (pc' := 246) (k := 80) (b := (180, 0)) dX12_weighs_243 rfl rfl ck_13 (by decide) fl_X12_177 rfl hs rfl ?_
      refine g_iload (pc' := 248) dX12_weighs_246 rfl rfl ?_
      refine g_ialdN (pc' := 249) (v := nI (ld g s x)) dX12_weighs_248 rfl rfl (by decide) (by omega) ((congrFun (wN_off _ _ _ _ (by decide) s) s).trans (hdg s (by omega))) ?_
      refine g_iastN (pc' := 250) dX12_weighs_249 rfl rfl (by decide) (by omega) ?_
      refine g_iincN (k := 1) (pc' := 253) dX12_weighs_250 rfl rfl (by decide) rfl ?_
      try simp only [List.set]
      refine g_goto (tgt := 229) dX12_weighs_253 (by decide) ?_
      have q := ih (s + 1) (by omega) (by omega)
      rw [wN_0s] at q
      exact q
set_option maxRecDepth 4000 in
theorem lm_wproc0 {E : En} (hok : EOK E) {h h0 : Hp} (hs : Shp h.2) (hw : Wf (mo h)) (hx : Wx (mo h)) {t : Nat} (ht : t < nT (mo h)) {x W e : Nat} (hW : W ≤ 200000) (he : e ≤ 2000) (hdg : dgs (gW (mo h) t) x h) {b : WT} (hb1 : b.1 ≤ 117649) (hb2 : b.2.2.2.1 ≤ 36) (hen : encR (gW (mo h) t) b h) (hz : b.1 = 0) {d : Nat} (hd : 1 ≤ d) {Q : Option V → Hp → Prop} (hQ : ∀ h', B9 h h' → encR (gW (mo h) t) (stW (gW (mo h) t) (vW (mo h) t) (bgN (mo h) t) W e b x) h' → dgs (gW (mo h) t) x h' → G E m_X12_weighs d 0 0 Q h0 256 [some (vR MO), some (vI (nI t)), some (vI (nI W)), some (vI (nI e)), some (vI (nI (bgN (mo h) t))), none, none, none, none, none] [] h' 0 0) : G E m_X12_weighs d 0 0 Q h0 152 [some (vR MO), some (vI (nI t)), some (vI (nI W)), some (vI (nI e)), some (vI (nI (bgN (mo h) t))), none, some (vI (nI (bgN (mo h) t - wx (gW (mo h) t) (vW (mo h) t) 6 x))), some (vI (nI (nx (gW (mo h) t) 6 x))), some (vI (sx (gW (mo h) t) 6 x)), none] [] h 0 0 := by
  have hB := (bag_n hw hx ht).2
  have hn6 := nx_le (gW_le hw hx ht) (Nat.le_refl 6) x
  have hwu : wx (gW (mo h) t) (vW (mo h) t) 6 x ≤ bgN (mo h) t := Nat.le_trans (wx_up _ _ x 6) (bg_up (Nat.le_refl 6))
  have hI := in_iff hB hW he hwu
  obtain ⟨e82, e83, e84, e85, e181⟩ := hen
  have e85 : h.1 MO 85 = -1 := e85.trans (cif_t hz)
  refine g_iload (pc' := 154) dX12_weighs_152 rfl rfl ?_
  refine g_i2l (pc' := 155) dX12_weighs_154 rfl ?_
  refine g_iload_n (pc' := 156) dX12_weighs_155 rfl rfl ?_
  refine g_iload_n (pc' := 157) dX12_weighs_156 rfl rfl ?_
  refine g_isub (pc' := 158) dX12_weighs_157 rfl ?_
  refine g_i2l (pc' := 159) dX12_weighs_158 rfl ?_
  refine g_iload_n (pc' := 160) dX12_weighs_159 rfl rfl ?_
  refine g_iload_n (pc' := 161) dX12_weighs_160 rfl rfl ?_
  refine g_iaddN (pc' := 162) dX12_weighs_161 rfl ?_
  refine g_i2l (pc' := 163) dX12_weighs_162 rfl ?_
  refine g_invS (pc' := 166) (c_liesI hok _ _ _ rfl rfl rfl) dX12_weighs_163 rfl ml_X12_203 st_X12_lies in_X12 co_X12_lies pd_X12_lies rfl (by omega) (by decide) ⟨by decide, by decide⟩ (Nat.le_of_ble_eq_true rfl) ?_
  rintro _ _ ⟨rfl, rfl⟩ -
  refine g_ifB_eq (tgt := 256) (pc' := 169) dX12_weighs_166 rfl (by decide) (fun c166 => ?_) (fun c166 => ?_)
  ·
    refine G.drop 6 ?_
    refine G.drop 7 ?_
    refine G.drop 8 ?_
    simp only [List.set]
    refine hQ h (B9.rf h) ?_ hdg
    rw [show stW (gW (mo h) t) (vW (mo h) t) (bgN (mo h) t) W e b x = b from cif_f (fun z => c166 (hI.mpr z))]
    exact ⟨e82, e83, e84, e85.trans (cif_t hz).symm, e181⟩
  ·
    refine g_aload_n (pc' := 170) dX12_weighs_169 rfl rfl ?_
    refine g_dup (pc' := 171) dX12_weighs_170 rfl rfl ?_
    refine g_getIv (v := nI (b.1)) (pc' := 174) (k := 82) dX12_weighs_171 rfl rfl ck_13 (by decide) fl_X12_489 rfl (e82) ?_
    refine g_iconstN (n := 1) (pc' := 175) dX12_weighs_174 rfl ?_
    refine g_iaddN (pc' := 176) dX12_weighs_175 rfl ?_
    refine g_putI (pc' := 179) (k := 82) dX12_weighs_176 rfl rfl ck_13 (by decide) fl_X12_489 rfl rfl rfl rfl ?_
    refine g_aload_n (pc' := 180) dX12_weighs_179 rfl rfl ?_
    refine g_dup (pc' := 181) dX12_weighs_180 rfl rfl ?_
    refine g_getIv (v := nI 63 &&& (b.2.1 ^^^ (-1))) (pc' := 184) (k := 83) dX12_weighs_181 rfl rfl ck_13 (by decide) fl_X12_492 rfl (e83) ?_
    refine g_iload (pc' := 186) dX12_weighs_184 rfl rfl ?_
    refine g_iconst (v := -1) (pc' := 187) dX12_weighs_186 rfl (by decide) ?_
    refine g_ixor (pc' := 188) dX12_weighs_187 rfl ?_
    refine g_iand (pc' := 189) dX12_weighs_188 rfl ?_
    refine g_putI (pc' := 192) (k := 83) dX12_weighs_189 rfl rfl ck_13 (by decide) fl_X12_492 rfl rfl rfl rfl ?_
    refine g_aload_n (pc' := 193) dX12_weighs_192 rfl rfl ?_
    refine g_dup (pc' := 194) dX12_weighs_193 rfl rfl ?_
    refine g_getIv (v := nI 63 &&& (b.2.2.1 ^^^ (-1))) (pc' := 197) (k := 84) dX12_weighs_194 rfl rfl ck_13 (by decide) fl_X12_495 rfl (e84) ?_
    refine g_iload (pc' := 199) dX12_weighs_197 rfl rfl ?_
    refine g_iand (pc' := 200) dX12_weighs_199 rfl ?_
    refine g_putI (pc' := 203) (k := 84) dX12_weighs_200 rfl rfl ck_13 (by decide) fl_X12_495 rfl rfl rfl rfl ?_
    refine g_aload_n (pc' := 204) dX12_weighs_203 rfl rfl ?_
    refine g_getIv (v := -1) (pc' := 207) (k := 85) dX12_weighs_204 rfl rfl ck_13 (by decide) fl_X12_498 rfl (e85) ?_
    refine g_iconst (v := -1) (pc' := 208) dX12_weighs_207 rfl (by decide) ?_
    refine g_icmp_eq (tgt := 220) (pc' := 211) dX12_weighs_208 rfl (by decide) (fun c208 => ?_) (fun c208 => ?_)
    ·
      refine g_aload_n (pc' := 221) dX12_weighs_220 rfl rfl ?_
      refine g_iload (pc' := 223) dX12_weighs_221 rfl rfl ?_
      refine g_putI (pc' := 226) (k := 85) dX12_weighs_223 rfl rfl ck_13 (by decide) fl_X12_498 rfl rfl rfl rfl ?_
      refine g_iconstN (n := 0) (pc' := 227) dX12_weighs_226 rfl ?_
      refine g_istore (pc' := 229) dX12_weighs_227 rfl (by decide) rfl ?_
      try simp only [List.set]
      have es : stW (gW (mo h) t) (vW (mo h) t) (bgN (mo h) t) W e b x = (b.1 + 1, b.2.1 ||| sx (gW (mo h) t) 6 x, b.2.2.1 ||| (nI 63 &&& (sx (gW (mo h) t) 6 x ^^^ (-1))), nx (gW (mo h) t) 6 x, x) := (cif_t (hI.mp c166)).trans (by rw [cif_t (Or.inl hz)])
      refine lm_weighs4 (h := wI (wI (wI (wI h MO 82 (nI (b.1 + 1))) MO 83 ((nI 63 &&& (b.2.1 ^^^ (-1))) &&& (sx (gW (mo h) t) 6 x ^^^ (-1)))) MO 84 ((nI 63 &&& (b.2.2.1 ^^^ (-1))) &&& sx (gW (mo h) t) 6 x)) MO 85 (nI (nx (gW (mo h) t) 6 x))) hok hs (hdg.b rfl) _ _ _ _ _ _ _ (fun h1 n1 f1 d1 f1s => ?_) _ 0 (Nat.zero_le _) rfl
      refine G.drop 6 ?_
      refine G.drop 7 ?_
      refine G.drop 8 ?_
      simp only [List.set]
      refine hQ h1 (((((B9.rf h).m (by decide)).m (by decide)).m (by decide)).m (by decide) |>.tr f1) ?_ d1
      rw [es]
      have em := f1.2.2
      obtain ⟨m2, m3, m4, m5⟩ := n1
      refine ⟨?_, ?_, ?_, ?_, ?_⟩
      · rw [m2]; rfl
      · rw [m3]; exact enc1
      · rw [m4]; exact enc2
      · rw [m5, cif_f (show ¬ b.1 + 1 = 0 by omega)]; rfl
      · exact fun _ => f1s
    · exact absurd rfl c208
set_option maxRecDepth 4000 in
theorem lm_wproc1 {E : En} (hok : EOK E) {h h0 : Hp} (hs : Shp h.2) (hw : Wf (mo h)) (hx : Wx (mo h)) {t : Nat} (ht : t < nT (mo h)) {x W e : Nat} (hW : W ≤ 200000) (he : e ≤ 2000) (hdg : dgs (gW (mo h) t) x h) {b : WT} (hb1 : b.1 ≤ 117649) (hb2 : b.2.2.2.1 ≤ 36) (hen : encR (gW (mo h) t) b h) (hz : ¬ b.1 = 0) {d : Nat} (hd : 1 ≤ d) {Q : Option V → Hp → Prop} (hQ : ∀ h', B9 h h' → encR (gW (mo h) t) (stW (gW (mo h) t) (vW (mo h) t) (bgN (mo h) t) W e b x) h' → dgs (gW (mo h) t) x h' → G E m_X12_weighs d 0 0 Q h0 256 [some (vR MO), some (vI (nI t)), some (vI (nI W)), some (vI (nI e)), some (vI (nI (bgN (mo h) t))), none, none, none, none, none] [] h' 0 0) : G E m_X12_weighs d 0 0 Q h0 152 [some (vR MO), some (vI (nI t)), some (vI (nI W)), some (vI (nI e)), some (vI (nI (bgN (mo h) t))), none, some (vI (nI (bgN (mo h) t - wx (gW (mo h) t) (vW (mo h) t) 6 x))), some (vI (nI (nx (gW (mo h) t) 6 x))), some (vI (sx (gW (mo h) t) 6 x)), none] [] h 0 0 := by
  have hB := (bag_n hw hx ht).2
  have hn6 := nx_le (gW_le hw hx ht) (Nat.le_refl 6) x
  have hwu : wx (gW (mo h) t) (vW (mo h) t) 6 x ≤ bgN (mo h) t := Nat.le_trans (wx_up _ _ x 6) (bg_up (Nat.le_refl 6))
  have hI := in_iff hB hW he hwu
  obtain ⟨e82, e83, e84, e85, e181⟩ := hen
  have e85 : h.1 MO 85 = nI b.2.2.2.1 := e85.trans (cif_f hz)
  refine g_iload (pc' := 154) dX12_weighs_152 rfl rfl ?_
  refine g_i2l (pc' := 155) dX12_weighs_154 rfl ?_
  refine g_iload_n (pc' := 156) dX12_weighs_155 rfl rfl ?_
  refine g_iload_n (pc' := 157) dX12_weighs_156 rfl rfl ?_
  refine g_isub (pc' := 158) dX12_weighs_157 rfl ?_
  refine g_i2l (pc' := 159) dX12_weighs_158 rfl ?_
  refine g_iload_n (pc' := 160) dX12_weighs_159 rfl rfl ?_
  refine g_iload_n (pc' := 161) dX12_weighs_160 rfl rfl ?_
  refine g_iaddN (pc' := 162) dX12_weighs_161 rfl ?_
  refine g_i2l (pc' := 163) dX12_weighs_162 rfl ?_
  refine g_invS (pc' := 166) (c_liesI hok _ _ _ rfl rfl rfl) dX12_weighs_163 rfl ml_X12_203 st_X12_lies in_X12 co_X12_lies pd_X12_lies rfl (by omega) (by decide) ⟨by decide, by decide⟩ (Nat.le_of_ble_eq_true rfl) ?_
  rintro _ _ ⟨rfl, rfl⟩ -
  refine g_ifB_eq (tgt := 256) (pc' := 169) dX12_weighs_166 rfl (by decide) (fun c166 => ?_) (fun c166 => ?_)
  ·
    refine G.drop 6 ?_
    refine G.drop 7 ?_
    refine G.drop 8 ?_
    simp only [List.set]
    refine hQ h (B9.rf h) ?_ hdg
    rw [show stW (gW (mo h) t) (vW (mo h) t) (bgN (mo h) t) W e b x = b from cif_f (fun z => c166 (hI.mpr z))]
    exact ⟨e82, e83, e84, e85.trans (cif_f hz).symm, e181⟩
  ·
    refine g_aload_n (pc' := 170) dX12_weighs_169 rfl rfl ?_
    refine g_dup (pc' := 171) dX12_weighs_170 rfl rfl ?_
    refine g_getIv (v := nI (b.1)) (pc' := 174) (k := 82) dX12_weighs_171 rfl rfl ck_13 (by decide) fl_X12_489 rfl (e82) ?_
    refine g_iconstN (n := 1) (pc' := 175) dX12_weighs_174 rfl ?_
    refine g_iaddN (pc' := 176) dX12_weighs_175 rfl ?_
    refine g_putI (pc' := 179) (k := 82) dX12_weighs_176 rfl rfl ck_13 (by decide) fl_X12_489 rfl rfl rfl rfl ?_
    refine g_aload_n (pc' := 180) dX12_weighs_179 rfl rfl ?_
    refine g_dup (pc' := 181) dX12_weighs_180 rfl rfl ?_
    refine g_getIv (v := nI 63 &&& (b.2.1 ^^^ (-1))) (pc' := 184) (k := 83) dX12_weighs_181 rfl rfl ck_13 (by decide) fl_X12_492 rfl (e83) ?_
    refine g_iload (pc' := 186) dX12_weighs_184 rfl rfl ?_
    refine g_iconst (v := -1) (pc' := 187) dX12_weighs_186 rfl (by decide) ?_
    refine g_ixor (pc' := 188) dX12_weighs_187 rfl ?_
    refine g_iand (pc' := 189) dX12_weighs_188 rfl ?_
    refine g_putI (pc' := 192) (k := 83) dX12_weighs_189 rfl rfl ck_13 (by decide) fl_X12_492 rfl rfl rfl rfl ?_
    refine g_aload_n (pc' := 193) dX12_weighs_192 rfl rfl ?_
    refine g_dup (pc' := 194) dX12_weighs_193 rfl rfl ?_
    refine g_getIv (v := nI 63 &&& (b.2.2.1 ^^^ (-1))) (pc' := 197) (k := 84) dX12_weighs_194 rfl rfl ck_13 (by decide) fl_X12_495 rfl (e84) ?_
    refine g_iload (pc' := 199) dX12_weighs_197 rfl rfl ?_
    refine g_iand (pc' := 200) dX12_weighs_199 rfl ?_
    refine g_putI (pc' := 203) (k := 84) dX12_weighs_200 rfl rfl ck_13 (by decide) fl_X12_495 rfl rfl rfl rfl ?_
    refine g_aload_n (pc' := 204) dX12_weighs_203 rfl rfl ?_
    refine g_getIv (v := nI (b.2.2.2.1)) (pc' := 207) (k := 85) dX12_weighs_204 rfl rfl ck_13 (by decide) fl_X12_498 rfl (e85) ?_
    refine g_iconst (v := -1) (pc' := 208) dX12_weighs_207 rfl (by decide) ?_
    refine g_icmp_eq (tgt := 220) (pc' := 211) dX12_weighs_208 rfl (by decide) (fun c208 => ?_) (fun c208 => ?_)
    · exact absurd c208 (nI_ne_neg (by omega))
    ·
      refine g_iload (pc' := 213) dX12_weighs_211 rfl rfl ?_
      refine g_aload_n (pc' := 214) dX12_weighs_213 rfl rfl ?_
      refine g_getIv (v := nI (b.2.2.2.1)) (pc' := 217) (k := 85) dX12_weighs_214 rfl rfl ck_13 (by decide) fl_X12_498 rfl (e85) ?_
      refine g_icmp_geN (tgt := 256) (pc' := 220) dX12_weighs_217 rfl (by decide) (by omega) (by omega) (fun c217 => ?_) (fun c217 => ?_)
      ·
        refine G.drop 6 ?_
        refine G.drop 7 ?_
        refine G.drop 8 ?_
        simp only [List.set]
        have es : stW (gW (mo h) t) (vW (mo h) t) (bgN (mo h) t) W e b x = (b.1 + 1, b.2.1 ||| sx (gW (mo h) t) 6 x, b.2.2.1 ||| (nI 63 &&& (sx (gW (mo h) t) 6 x ^^^ (-1))), b.2.2.2) := (cif_t (hI.mp c166)).trans (by rw [cif_f (fun z => z.elim hz (fun z => by omega))])
        refine hQ _ ((((B9.rf h).m (by decide)).m (by decide)).m (by decide)) ?_ (hdg.b rfl)
        rw [es]
        refine ⟨rfl, ?_, ?_, e85.trans (cif_f (show ¬ b.1 + 1 = 0 by omega)).symm, fun _ => e181 hz⟩
        · exact enc1
        · exact enc2
      ·
        refine g_aload_n (pc' := 221) dX12_weighs_220 rfl rfl ?_
        refine g_iload (pc' := 223) dX12_weighs_221 rfl rfl ?_
        refine g_putI (pc' := 226) (k := 85) dX12_weighs_223 rfl rfl ck_13 (by decide) fl_X12_498 rfl rfl rfl rfl ?_
        refine g_iconstN (n := 0) (pc' := 227) dX12_weighs_226 rfl ?_
        refine g_istore (pc' := 229) dX12_weighs_227 rfl (by decide) rfl ?_
        try simp only [List.set]
        have es : stW (gW (mo h) t) (vW (mo h) t) (bgN (mo h) t) W e b x = (b.1 + 1, b.2.1 ||| sx (gW (mo h) t) 6 x, b.2.2.1 ||| (nI 63 &&& (sx (gW (mo h) t) 6 x ^^^ (-1))), nx (gW (mo h) t) 6 x, x) := (cif_t (hI.mp c166)).trans (by rw [cif_t (Or.inr (by omega))])
        refine lm_weighs4 (h := wI (wI (wI (wI h MO 82 (nI (b.1 + 1))) MO 83 ((nI 63 &&& (b.2.1 ^^^ (-1))) &&& (sx (gW (mo h) t) 6 x ^^^ (-1)))) MO 84 ((nI 63 &&& (b.2.2.1 ^^^ (-1))) &&& sx (gW (mo h) t) 6 x)) MO 85 (nI (nx (gW (mo h) t) 6 x))) hok hs (hdg.b rfl) _ _ _ _ _ _ _ (fun h1 n1 f1 d1 f1s => ?_) _ 0 (Nat.zero_le _) rfl
        refine G.drop 6 ?_
        refine G.drop 7 ?_
        refine G.drop 8 ?_
        simp only [List.set]
        refine hQ h1 (((((B9.rf h).m (by decide)).m (by decide)).m (by decide)).m (by decide) |>.tr f1) ?_ d1
        rw [es]
        have em := f1.2.2
        obtain ⟨m2, m3, m4, m5⟩ := n1
        refine ⟨?_, ?_, ?_, ?_, ?_⟩
        · rw [m2]; rfl
        · rw [m3]; exact enc1
        · rw [m4]; exact enc2
        · rw [m5, cif_f (show ¬ b.1 + 1 = 0 by omega)]; rfl
        · exact fun _ => f1s
