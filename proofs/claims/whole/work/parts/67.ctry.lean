theorem or_nI {τ a S : Nat} (hτ : τ < 16) (hS : S = p2 (τ + 1) * a) : nI S ||| ((1 : Int32) <<< (nI τ &&& 31)) = nI (S + p2 τ) := by
  refine bt_ext fun j hj => ?_
  rw [bt_or, bt_one (by omega), bt_nI S hj, bt_nI _ hj, hS]
  have hlt : p2 τ < p2 (τ + 1) := by have := p2_s τ; have := p2_pos τ; omega
  by_cases q : j < τ + 1
  · rw [tb_0 _ a j q, tb_hi (τ + 1) a (p2 τ) j hlt, if_pos q, tb_p2]
    by_cases z : j = τ
    · subst z; simp
    · rw [decide_eq_false z, decide_eq_false (fun y => z y.symm)]; rfl
  · rw [tb_up (τ + 1) a (p2 τ) j hlt (by omega), decide_eq_false (by omega), Bool.or_false]
noncomputable def kM (m : St) (n : Nat) : Nat := smN (fun u => cif (cM m u) (wM m u) 0) n
theorem kM_le {m : St} (hw : Wf m) {n : Nat} (hn : n ≤ nT m) : kM m n ≤ 176 := by
  have a := smN_b (f := fun u => cif (cM m u) (wM m u) 0) (B := 11) (n := n) (fun u _ => by
    have b := wM_le hw u
    by_cases y : cM m u
    · show cif _ _ _ ≤ _
      rw [cif_t y]; exact b
    · show cif _ _ _ ≤ _
      rw [cif_f y]; omega)
  have := hw.t.2
  unfold kM
  omega
theorem sb_up {m : St} {τ a S y : Nat} (hS : S = p2 τ * a) (hy : y < p2 τ) (q : sbM m (S + y)) : sbM m y := fun t ht z => q t ht (by
  have hlt : t < τ := Classical.byContradiction fun w => by rw [tb_lo hy (by omega)] at z; cases z
  rw [hS, tb_hi τ a y t hy, if_pos hlt]
  exact z)
theorem cX_k {m : St} {τ y : Nat} (hτ : τ ≤ nT m) (hy : y < p2 τ) (q : sbM m y) : cX m y ≤ kM m τ := by
  unfold cX bS kM
  rw [smN_ext hτ (fun k h1 h2 => by rw [tb_lo hy h1]; rfl)]
  refine smN_mono fun k hk => ?_
  by_cases z : y.testBit k = true
  · rw [if_pos z]
    show _ ≤ cif _ _ _
    rw [cif_t (q k (by omega) z)]
    exact Nat.le_refl _
  · rw [if_neg z]; exact Nat.zero_le _
theorem tX_up {m : St} {τ a S y : Nat} (hS : S = p2 τ * a) (hy : y < p2 τ) : tX m (S + y) = tX m S + tX m y := by rw [hS]; exact bS_add _ τ a y _ hy
theorem cX_up {m : St} {τ a S y : Nat} (hS : S = p2 τ * a) (hy : y < p2 τ) : cX m (S + y) = cX m S + cX m y := by rw [hS]; exact bS_add _ τ a y _ hy
theorem md_pr1 {m : St} {A τ a S : Nat} {b : Nat × Nat × Nat} (hS : S = p2 τ * a) (h : A < tX m S) : fo (stM m A) S (p2 τ) b = b := fo_id fun x h1 h2 => by
  obtain ⟨y, rfl⟩ : ∃ y, x = S + y := ⟨x - S, by omega⟩
  exact cif_f (fun z => by have := z.1.2; rw [tX_up hS (by omega)] at this; omega)
theorem md_pr2 {m : St} {A τ a S : Nat} {b : Nat × Nat × Nat} (hS : S = p2 τ * a) (hτ : τ ≤ nT m) (h : cX m S + kM m τ < b.2.1 ∨ (cX m S + kM m τ = b.2.1 ∧ b.2.2 ≤ tX m S)) : fo (stM m A) S (p2 τ) b = b := fo_id fun x h1 h2 => by
  obtain ⟨y, rfl⟩ : ∃ y, x = S + y := ⟨x - S, by omega⟩
  refine cif_f (fun z => z.2 ?_)
  have q := cX_k hτ (show y < p2 τ by omega) (sb_up hS (by omega) z.1.1)
  rw [tX_up hS (by omega), cX_up hS (by omega)]
  omega
def bdM (m : St) (b : Nat × Nat × Nat) : Prop := b.1 < p2 (nT m) ∧ b.2.1 ≤ 176 ∧ b.2.2 ≤ 345600
theorem fo_bd {m : St} (hw : Wf m) (hx : Wx m) {A S : Nat} {b : Nat × Nat × Nat} (hb : bdM m b) : ∀ n, S + n ≤ p2 (nT m) → bdM m (fo (stM m A) S n b)
  | 0, _ => hb
  | n + 1, h => by
    have ih := fo_bd hw hx (A := A) (S := S) hb n (by omega)
    rw [fo_s]
    generalize fo (stM m A) S n b = c at ih ⊢
    unfold stM
    by_cases q : (sbM m (S + n) ∧ tX m (S + n) ≤ A) ∧ ¬ (cX m (S + n) < c.2.1 ∨ (cX m (S + n) = c.2.1 ∧ c.2.2 ≤ tX m (S + n)))
    · rw [cif_t q]
      exact ⟨by show S + n < _; omega, cX_le hw (Nat.le_refl _), tX_le hw hx (Nat.le_refl _)⟩
    · rw [cif_f q]
      exact ih
theorem sb_no {m : St} {τ a S y : Nat} (hS : S = p2 (τ + 1) * a) (hτ : τ < nT m) (hc : ¬ cM m τ) (h1 : p2 τ ≤ y) (h2 : y < p2 (τ + 1)) : ¬ sbM m (S + y) := fun q => hc (q τ hτ (by
  rw [hS, tb_hi (τ + 1) a y τ h2, if_pos (Nat.lt_succ_self τ)]
  have e : y = p2 τ * 1 + (y - p2 τ) := by omega
  have hl := p2_s τ
  rw [e, tb_hi τ 1 (y - p2 τ) τ (by omega), if_neg (Nat.lt_irrefl τ), Nat.sub_self]
  rfl))
/-- the workshop's things, for the first n toys -/
def WS (m : St) (A n : Nat) (h : Hp) : Prop := h.1 (11, 0) 4 = nI (cnt (cM m) n) ∧ h.1 (11, 0) 5 = nI A ∧ (∀ t, t < n → cM m t → h.1 (55, 0) (cnt (cM m) t) = nI t ∧ h.1 (56, 0) (cnt (cM m) t) = nI (mnN m t) ∧ h.1 (57, 0) (cnt (cM m) t) = nI (wM m t)) ∧ ∀ t, t ≤ n → h.1 (58, 0) (cnt (cM m) t) = nI (kM m t)
def WB (h h' : Hp) : Prop := h'.2 = h.2 ∧ (∀ q, q ≠ (11, 0) → h'.1 q = h.1 q) ∧ ∀ j, j ≠ 6 → j ≠ 7 → j ≠ 8 → h'.1 (11, 0) j = h.1 (11, 0) j
theorem WB.rf (h : Hp) : WB h h := ⟨rfl, fun _ _ => rfl, fun _ _ _ _ => rfl⟩
theorem WB.tr {a b c : Hp} (x : WB a b) (y : WB b c) : WB a c := ⟨y.1.trans x.1, fun q z => (y.2.1 q z).trans (x.2.1 q z), fun j a b c => (y.2.2 j a b c).trans (x.2.2 j a b c)⟩
theorem WS.wb {m : St} {A n : Nat} {h h' : Hp} (w : WS m A n h) (k : WB h h') : WS m A n h' := by
  unfold WS at *
  rw [k.2.2 4 (by decide) (by decide) (by decide), k.2.2 5 (by decide) (by decide) (by decide), k.2.1 (55, 0) (by decide), k.2.1 (56, 0) (by decide), k.2.1 (57, 0) (by decide), k.2.1 (58, 0) (by decide)]
  exact w
def encN (b : Nat × Nat × Nat) (h : Hp) : Prop := h.1 (11, 0) 6 = nI b.1 ∧ h.1 (11, 0) 7 = nI b.2.2 ∧ h.1 (11, 0) 8 = nI b.2.1
def encF (S : Nat) (b : Nat × Nat × Nat) (h : Hp) : Prop := S = 0 ∧ b = (0, 0, 0) ∧ h.1 (11, 0) 8 = -1
theorem enc_w {h : Hp} {x y z : Nat} : WB h (wI (wI (wI h (11, 0) 6 (nI x)) (11, 0) 7 (nI y)) (11, 0) 8 (nI z)) ∧ encN (x, z, y) (wI (wI (wI h (11, 0) 6 (nI x)) (11, 0) 7 (nI y)) (11, 0) 8 (nI z)) := by
  refine ⟨⟨rfl, fun q hq => ?_, fun j h6 h7 h8 => ?_⟩, ?_, ?_, ?_⟩
  · rw [wI_off _ _ _ _ q hq, wI_off _ _ _ _ q hq, wI_off _ _ _ _ q hq]
  · rw [wI_j h8, wI_j h7, wI_j h6]
  · simp [wI_at]
  · simp [wI_at]
  · simp [wI_at]
theorem cX_0 (m : St) : cX m 0 = 0 := bS_0 _ _
theorem tX_0 (m : St) : tX m 0 = 0 := bS_0 _ _
theorem cnt_up {p : Nat → Prop} {n : Nat} : ∀ {N : Nat}, n ≤ N → cnt p n ≤ cnt p N
  | 0, h => by rw [show n = 0 by omega]; exact Nat.le_refl _
  | N + 1, h => by
    by_cases e : n = N + 1
    · rw [e]; exact Nat.le_refl _
    · have ih := cnt_up (p := p) (n := n) (N := N) (by omega)
      by_cases q : p N
      · rw [cnt_t q]; omega
      · rw [cnt_f q]; omega
theorem p2_lt (τ : Nat) : p2 τ < p2 (τ + 1) := by have := p2_s τ; have := p2_pos τ; omega
theorem sb_add {m : St} {τ a S : Nat} (hS : S = p2 (τ + 1) * a) (hτ : τ < nT m) (hc : cM m τ) (h : sbM m S) : sbM m (S + p2 τ) := fun t ht z => by
  by_cases e : t = τ
  · rw [e]; exact hc
  · refine h t ht ?_
    rw [hS] at z ⊢
    by_cases q : t < τ + 1
    · rw [tb_hi (τ + 1) a (p2 τ) t (p2_lt τ), if_pos q, tb_p2, decide_eq_false (fun y => e y.symm)] at z
      cases z
    · rw [tb_up (τ + 1) a (p2 τ) t (p2_lt τ) (by omega)] at z
      exact z
theorem tX_add {m : St} {τ a S : Nat} (hS : S = p2 (τ + 1) * a) (hτ : τ < nT m) : tX m (S + p2 τ) = tX m S + mnN m τ := by
  rw [tX_up hS (p2_lt τ)]
  exact congrArg (fun z => tX m S + z) (bS_p2 _ hτ)
theorem cX_add {m : St} {τ a S : Nat} (hS : S = p2 (τ + 1) * a) (hτ : τ < nT m) : cX m (S + p2 τ) = cX m S + wM m τ := by
  rw [cX_up hS (p2_lt τ)]
  exact congrArg (fun z => cX m S + z) (bS_p2 _ hτ)
set_option maxRecDepth 4000 in
theorem tb_leafN {E : En} (hok : EOK E) {h : Hp} (hs : Shp h.2) {m : St} (hw : Wf m) (hx : Wx m) {A : Nat} (hA6 : A ≤ 6000) {a S : Nat} {b : Nat × Nat × Nat} (hS : S = p2 0 * a) (hSl : S + p2 0 ≤ p2 (nT m)) (hsb : sbM m S) (hws : WS m A (nT m) h) (hbd : bdM m b) (he : encN b h) : Call E m_X10_tryBelow 1 0 0 [vR (11, 0), vI (nI 0), vI (nI S), vI (nI (tX m S)), vI (nI (cX m S))] h (fun r h' => r = none ∧ WB h h' ∧ encN (fo (stM m A) S (p2 0) b) h') := by
  have hTb := hw.t.2
  have hp2 := p2_16 hTb
  have hcT := cnt_le (cM m) (nT m)
  have htl : tX m S ≤ 345600 := tX_le hw hx (Nat.le_refl _)
  have hcl : cX m S ≤ 176 := cX_le hw (Nat.le_refl _)
  have hb1 := hbd.1
  have hb2 := hbd.2.1
  have hb3 := hbd.2.2
  have hk58 : h.1 (58, 0) 0 = nI (kM m 0) := hws.2.2.2 0 (Nat.zero_le _)
  have hkl : kM m 0 = 0 := rfl
  obtain ⟨h6, h7, h8⟩ := he
  refine Call.enter hok (by decide) (Nat.le_of_ble_eq_true rfl) ?_
  show G E m_X10_tryBelow 1 0 0 _ h 0 [some (vR (11, 0)), some (vI (nI 0)), some (vI (nI S)), some (vI (nI (tX m S))), some (vI (nI (cX m S))), none] [] h 0 0
  refine g_iload_n (pc' := 1) dX10_tryBelow_0 rfl rfl ?_
  refine g_aload_n (pc' := 2) dX10_tryBelow_1 rfl rfl ?_
  refine g_getIv (v := nI (A)) (pc' := 5) (k := 5) dX10_tryBelow_2 rfl rfl ck_11 (by decide) fl_X10_28 rfl (hws.2.1) ?_
  refine g_icmp_gtN (tgt := 20) (pc' := 8) dX10_tryBelow_5 rfl (by decide) (by omega) (by omega) (fun c5 => ?_) (fun c5 => ?_)
  ·
    refine g_vret dX10_tryBelow_20 rfl (by decide) (by decide) ?_
    exact ⟨rfl, WB.rf h, by rw [md_pr1 hS (by omega)]; exact ⟨h6, h7, h8⟩⟩
  ·
    refine g_iload_n (pc' := 9) dX10_tryBelow_8 rfl rfl ?_
    refine g_iconstN (n := 0) (pc' := 10) dX10_tryBelow_9 rfl ?_
    refine g_aload_n (pc' := 11) dX10_tryBelow_10 rfl rfl ?_
    refine g_getIv (v := nI (cnt (cM m) (nT m))) (pc' := 14) (k := 4) dX10_tryBelow_11 rfl rfl ck_11 (by decide) fl_X10_24 rfl (hws.1) ?_
    refine g_invSN (pc' := 17) (cx_within hok _ _ _) dX10_tryBelow_14 rfl nn_X10_44 st_X11_within in_X11 co_X11_within pd_X11_within rfl (by omega) (by decide) ⟨by decide, by decide⟩ (Nat.le_of_ble_eq_true rfl) ?_
    rintro _ _ ⟨rfl, rfl⟩ -
    refine g_ifB_ne (tgt := 21) (pc' := 20) dX10_tryBelow_17 rfl (by decide) (fun c17 => ?_) (fun c17 => ?_)
    ·
      refine g_iload (pc' := 23) dX10_tryBelow_21 rfl rfl ?_
      refine g_aload_n (pc' := 24) dX10_tryBelow_23 rfl rfl ?_
      refine g_getS (pc' := 27) (k := 3) (b := (58, 0)) dX10_tryBelow_24 rfl rfl ck_11 (by decide) fl_X10_21 rfl hs rfl ?_
      refine g_iload_n (pc' := 28) dX10_tryBelow_27 rfl rfl ?_
      refine g_ialdN (pc' := 29) (v := nI (kM m 0)) dX10_tryBelow_28 rfl rfl (by decide) (by omega) (hk58) ?_
      refine g_iaddN (pc' := 30) dX10_tryBelow_29 rfl ?_
      refine g_istore (pc' := 32) dX10_tryBelow_30 rfl (by decide) rfl ?_
      try simp only [List.set]
      refine g_iload (pc' := 34) dX10_tryBelow_32 rfl rfl ?_
      refine g_aload_n (pc' := 35) dX10_tryBelow_34 rfl rfl ?_
      refine g_getIv (v := nI (b.2.1)) (pc' := 38) (k := 8) dX10_tryBelow_35 rfl rfl ck_11 (by decide) fl_X10_37 rfl (h8) ?_
      refine g_icmp_ltN (tgt := 58) (pc' := 41) dX10_tryBelow_38 rfl (by decide) (by omega) (by omega) (fun c38 => ?_) (fun c38 => ?_)
      ·
        refine g_vret dX10_tryBelow_58 rfl (by decide) (by decide) ?_
        exact ⟨rfl, WB.rf h, by rw [md_pr2 hS (by omega) (by omega)]; exact ⟨h6, h7, h8⟩⟩
      ·
        refine g_iload (pc' := 43) dX10_tryBelow_41 rfl rfl ?_
        refine g_aload_n (pc' := 44) dX10_tryBelow_43 rfl rfl ?_
        refine g_getIv (v := nI (b.2.1)) (pc' := 47) (k := 8) dX10_tryBelow_44 rfl rfl ck_11 (by decide) fl_X10_37 rfl (h8) ?_
        refine g_icmp_neN (tgt := 59) (pc' := 50) dX10_tryBelow_47 rfl (by decide) (by omega) (by omega) (fun c47 => ?_) (fun c47 => ?_)
        ·
          refine g_iload_n (pc' := 60) dX10_tryBelow_59 rfl rfl ?_
          refine g_if_neN (tgt := 80) (pc' := 63) dX10_tryBelow_60 rfl (by decide) (by decide) (fun q => False.elim (by revert q; decide)) (fun _ => ?_)
          refine g_aload_n (pc' := 64) dX10_tryBelow_63 rfl rfl ?_
          refine g_iload_n (pc' := 65) dX10_tryBelow_64 rfl rfl ?_
          refine g_putI (pc' := 68) (k := 6) dX10_tryBelow_65 rfl rfl ck_11 (by decide) fl_X10_31 rfl rfl rfl rfl ?_
          refine g_aload_n (pc' := 69) dX10_tryBelow_68 rfl rfl ?_
          refine g_iload_n (pc' := 70) dX10_tryBelow_69 rfl rfl ?_
          refine g_putI (pc' := 73) (k := 7) dX10_tryBelow_70 rfl rfl ck_11 (by decide) fl_X10_34 rfl rfl rfl rfl ?_
          refine g_aload_n (pc' := 74) dX10_tryBelow_73 rfl rfl ?_
          refine g_iload (pc' := 76) dX10_tryBelow_74 rfl rfl ?_
          refine g_putI (pc' := 79) (k := 8) dX10_tryBelow_76 rfl rfl ck_11 (by decide) fl_X10_37 rfl rfl rfl rfl ?_
          refine g_vret dX10_tryBelow_79 rfl (by decide) (by decide) ?_
          refine ⟨rfl, enc_w.1, ?_⟩
          have e : fo (stM m A) S (p2 0) b = (S, cX m S, tX m S) := by show stM m A b (S + 0) = _; rw [Nat.add_zero]; exact cif_t ⟨⟨hsb, by omega⟩, by omega⟩
          rw [e]
          exact enc_w.2
        ·
          refine g_iload_n (pc' := 51) dX10_tryBelow_50 rfl rfl ?_
          refine g_aload_n (pc' := 52) dX10_tryBelow_51 rfl rfl ?_
          refine g_getIv (v := nI (b.2.2)) (pc' := 55) (k := 7) dX10_tryBelow_52 rfl rfl ck_11 (by decide) fl_X10_34 rfl (h7) ?_
          refine g_icmp_ltN (tgt := 59) (pc' := 58) dX10_tryBelow_55 rfl (by decide) (by omega) (by omega) (fun c55 => ?_) (fun c55 => ?_)
          ·
            refine g_iload_n (pc' := 60) dX10_tryBelow_59 rfl rfl ?_
            refine g_if_neN (tgt := 80) (pc' := 63) dX10_tryBelow_60 rfl (by decide) (by decide) (fun q => False.elim (by revert q; decide)) (fun _ => ?_)
            refine g_aload_n (pc' := 64) dX10_tryBelow_63 rfl rfl ?_
            refine g_iload_n (pc' := 65) dX10_tryBelow_64 rfl rfl ?_
            refine g_putI (pc' := 68) (k := 6) dX10_tryBelow_65 rfl rfl ck_11 (by decide) fl_X10_31 rfl rfl rfl rfl ?_
            refine g_aload_n (pc' := 69) dX10_tryBelow_68 rfl rfl ?_
            refine g_iload_n (pc' := 70) dX10_tryBelow_69 rfl rfl ?_
            refine g_putI (pc' := 73) (k := 7) dX10_tryBelow_70 rfl rfl ck_11 (by decide) fl_X10_34 rfl rfl rfl rfl ?_
            refine g_aload_n (pc' := 74) dX10_tryBelow_73 rfl rfl ?_
            refine g_iload (pc' := 76) dX10_tryBelow_74 rfl rfl ?_
            refine g_putI (pc' := 79) (k := 8) dX10_tryBelow_76 rfl rfl ck_11 (by decide) fl_X10_37 rfl rfl rfl rfl ?_
            refine g_vret dX10_tryBelow_79 rfl (by decide) (by decide) ?_
            refine ⟨rfl, enc_w.1, ?_⟩
            have e : fo (stM m A) S (p2 0) b = (S, cX m S, tX m S) := by show stM m A b (S + 0) = _; rw [Nat.add_zero]; exact cif_t ⟨⟨hsb, by omega⟩, by omega⟩
            rw [e]
            exact enc_w.2
          ·
            refine g_vret dX10_tryBelow_58 rfl (by decide) (by decide) ?_
            exact ⟨rfl, WB.rf h, by rw [md_pr2 hS (by omega) (by omega)]; exact ⟨h6, h7, h8⟩⟩
    · exact absurd ⟨nI_le (Nat.zero_le _) (by omega), nI_le (show 0 ≤ cnt (cM m) (nT m) by omega) (by omega)⟩ c17
set_option maxRecDepth 4000 in
theorem tb_leafF {E : En} (hok : EOK E) {h : Hp} (hs : Shp h.2) {m : St} (hw : Wf m) (hx : Wx m) {A : Nat} (hA6 : A ≤ 6000) {a S : Nat} {b : Nat × Nat × Nat} (hS : S = p2 0 * a) (hSl : S + p2 0 ≤ p2 (nT m)) (hsb : sbM m S) (hws : WS m A (nT m) h) (hbd : bdM m b) (he : encF S b h) : Call E m_X10_tryBelow 1 0 0 [vR (11, 0), vI (nI 0), vI (nI S), vI (nI (tX m S)), vI (nI (cX m S))] h (fun r h' => r = none ∧ WB h h' ∧ encN (fo (stM m A) S (p2 0) b) h') := by
  have hTb := hw.t.2
  have hp2 := p2_16 hTb
  have hcT := cnt_le (cM m) (nT m)
  have htl : tX m S ≤ 345600 := tX_le hw hx (Nat.le_refl _)
  have hcl : cX m S ≤ 176 := cX_le hw (Nat.le_refl _)
  have hb1 := hbd.1
  have hb2 := hbd.2.1
  have hb3 := hbd.2.2
  have hk58 : h.1 (58, 0) 0 = nI (kM m 0) := hws.2.2.2 0 (Nat.zero_le _)
  have hkl : kM m 0 = 0 := rfl
  obtain ⟨rfl, rfl, h8⟩ := he
  refine Call.enter hok (by decide) (Nat.le_of_ble_eq_true rfl) ?_
  show G E m_X10_tryBelow 1 0 0 _ h 0 [some (vR (11, 0)), some (vI (nI 0)), some (vI (nI 0)), some (vI (nI (tX m 0))), some (vI (nI (cX m 0))), none] [] h 0 0
  refine g_iload_n (pc' := 1) dX10_tryBelow_0 rfl rfl ?_
  refine g_aload_n (pc' := 2) dX10_tryBelow_1 rfl rfl ?_
  refine g_getIv (v := nI (A)) (pc' := 5) (k := 5) dX10_tryBelow_2 rfl rfl ck_11 (by decide) fl_X10_28 rfl (hws.2.1) ?_
  refine g_icmp_gtN (tgt := 20) (pc' := 8) dX10_tryBelow_5 rfl (by decide) (by omega) (by omega) (fun c5 => ?_) (fun c5 => ?_)
  · exact absurd c5 (by rw [tX_0]; omega)
  ·
    refine g_iload_n (pc' := 9) dX10_tryBelow_8 rfl rfl ?_
    refine g_iconstN (n := 0) (pc' := 10) dX10_tryBelow_9 rfl ?_
    refine g_aload_n (pc' := 11) dX10_tryBelow_10 rfl rfl ?_
    refine g_getIv (v := nI (cnt (cM m) (nT m))) (pc' := 14) (k := 4) dX10_tryBelow_11 rfl rfl ck_11 (by decide) fl_X10_24 rfl (hws.1) ?_
    refine g_invSN (pc' := 17) (cx_within hok _ _ _) dX10_tryBelow_14 rfl nn_X10_44 st_X11_within in_X11 co_X11_within pd_X11_within rfl (by omega) (by decide) ⟨by decide, by decide⟩ (Nat.le_of_ble_eq_true rfl) ?_
    rintro _ _ ⟨rfl, rfl⟩ -
    refine g_ifB_ne (tgt := 21) (pc' := 20) dX10_tryBelow_17 rfl (by decide) (fun c17 => ?_) (fun c17 => ?_)
    ·
      refine g_iload (pc' := 23) dX10_tryBelow_21 rfl rfl ?_
      refine g_aload_n (pc' := 24) dX10_tryBelow_23 rfl rfl ?_
      refine g_getS (pc' := 27) (k := 3) (b := (58, 0)) dX10_tryBelow_24 rfl rfl ck_11 (by decide) fl_X10_21 rfl hs rfl ?_
      refine g_iload_n (pc' := 28) dX10_tryBelow_27 rfl rfl ?_
      refine g_ialdN (pc' := 29) (v := nI (kM m 0)) dX10_tryBelow_28 rfl rfl (by decide) (by omega) (hk58) ?_
      refine g_iaddN (pc' := 30) dX10_tryBelow_29 rfl ?_
      refine g_istore (pc' := 32) dX10_tryBelow_30 rfl (by decide) rfl ?_
      try simp only [List.set]
      refine g_iload (pc' := 34) dX10_tryBelow_32 rfl rfl ?_
      refine g_aload_n (pc' := 35) dX10_tryBelow_34 rfl rfl ?_
      refine g_getIv (v := -1) (pc' := 38) (k := 8) dX10_tryBelow_35 rfl rfl ck_11 (by decide) fl_X10_37 rfl (h8) ?_
      refine g_icmp_lt (tgt := 58) (pc' := 41) dX10_tryBelow_38 rfl (by decide) (fun c38 => ?_) (fun c38 => ?_)
      · exact absurd (Int32.lt_iff_toInt_lt.mp c38) (by rw [nI_toInt (by omega)]; show ¬ (_ : Int) < -1; omega)
      ·
        refine g_iload (pc' := 43) dX10_tryBelow_41 rfl rfl ?_
        refine g_aload_n (pc' := 44) dX10_tryBelow_43 rfl rfl ?_
        refine g_getIv (v := -1) (pc' := 47) (k := 8) dX10_tryBelow_44 rfl rfl ck_11 (by decide) fl_X10_37 rfl (h8) ?_
        refine g_icmp_ne (tgt := 59) (pc' := 50) dX10_tryBelow_47 rfl (by decide) (fun c47 => ?_) (fun c47 => ?_)
        ·
          refine g_iload_n (pc' := 60) dX10_tryBelow_59 rfl rfl ?_
          refine g_if_neN (tgt := 80) (pc' := 63) dX10_tryBelow_60 rfl (by decide) (by decide) (fun q => False.elim (by revert q; decide)) (fun _ => ?_)
          refine g_aload_n (pc' := 64) dX10_tryBelow_63 rfl rfl ?_
          refine g_iload_n (pc' := 65) dX10_tryBelow_64 rfl rfl ?_
          refine g_putI (pc' := 68) (k := 6) dX10_tryBelow_65 rfl rfl ck_11 (by decide) fl_X10_31 rfl rfl rfl rfl ?_
          refine g_aload_n (pc' := 69) dX10_tryBelow_68 rfl rfl ?_
          refine g_iload_n (pc' := 70) dX10_tryBelow_69 rfl rfl ?_
          refine g_putI (pc' := 73) (k := 7) dX10_tryBelow_70 rfl rfl ck_11 (by decide) fl_X10_34 rfl rfl rfl rfl ?_
          refine g_aload_n (pc' := 74) dX10_tryBelow_73 rfl rfl ?_
          refine g_iload (pc' := 76) dX10_tryBelow_74 rfl rfl ?_
          refine g_putI (pc' := 79) (k := 8) dX10_tryBelow_76 rfl rfl ck_11 (by decide) fl_X10_37 rfl rfl rfl rfl ?_
          refine g_vret dX10_tryBelow_79 rfl (by decide) (by decide) ?_
          refine ⟨rfl, enc_w.1, ?_⟩
          have e : fo (stM m A) 0 (p2 0) (0, 0, 0) = (0, 0, 0) := cif_f (fun z => z.2 (Or.inr ⟨cX_0 m, Nat.zero_le _⟩))
          rw [e, tX_0, cX_0]
          exact enc_w.2
        · exact absurd c47 (nI_ne_neg (by omega))
    · exact absurd ⟨nI_le (Nat.zero_le _) (by omega), nI_le (show 0 ≤ cnt (cM m) (nT m) by omega) (by omega)⟩ c17
set_option maxRecDepth 4000 in
theorem tb_nodeN {E : En} (hok : EOK E) {h : Hp} (hs : Shp h.2) {m : St} (hw : Wf m) (hx : Wx m) {A : Nat} (hA6 : A ≤ 6000) {τ a S : Nat} (hτ : τ < nT m) (hcm : cM m τ) {b : Nat × Nat × Nat} (hS : S = p2 (τ + 1) * a) (hSl : S + p2 (τ + 1) ≤ p2 (nT m)) (hsb : sbM m S) (hws : WS m A (nT m) h) (hbd : bdM m b) (he : encN b h) (ih : ∀ (a S : Nat) (h : Hp) (b : Nat × Nat × Nat), Shp h.2 → S = p2 τ * a → S + p2 τ ≤ p2 (nT m) → sbM m S → WS m A (nT m) h → bdM m b → (encN b h ∨ encF S b h) → Call E m_X10_tryBelow (cnt (cM m) τ + 1) 0 0 [vR (11, 0), vI (nI (cnt (cM m) τ)), vI (nI S), vI (nI (tX m S)), vI (nI (cX m S))] h (fun r h' => r = none ∧ WB h h' ∧ encN (fo (stM m A) S (p2 τ) b) h')) : Call E m_X10_tryBelow (cnt (cM m) τ + 2) 0 0 [vR (11, 0), vI (nI (cnt (cM m) τ + 1)), vI (nI S), vI (nI (tX m S)), vI (nI (cX m S))] h (fun r h' => r = none ∧ WB h h' ∧ encN (fo (stM m A) S (p2 (τ + 1)) b) h') := by
  have hTb := hw.t.2
  have hp2 := p2_16 hTb
  have hcT := cnt_le (cM m) (nT m)
  have htl : tX m S ≤ 345600 := tX_le hw hx (Nat.le_refl _)
  have hcl : cX m S ≤ 176 := cX_le hw (Nat.le_refl _)
  have hb1 := hbd.1
  have hb2 := hbd.2.1
  have hb3 := hbd.2.2
  have hkl : kM m (τ + 1) ≤ 176 := kM_le hw hτ
  have hcs : cnt (cM m) (τ + 1) = cnt (cM m) τ + 1 := cnt_t hcm
  have hcu : cnt (cM m) (τ + 1) ≤ cnt (cM m) (nT m) := cnt_up hτ
  have hk58 : h.1 (58, 0) (cnt (cM m) τ + 1) = nI (kM m (τ + 1)) := by rw [← hcs]; exact hws.2.2.2 (τ + 1) hτ
  obtain ⟨h6, h7, h8⟩ := he
  refine Call.enter hok (by decide) (Nat.le_of_ble_eq_true rfl) ?_
  show G E m_X10_tryBelow (cnt (cM m) τ + 2) 0 0 _ h 0 [some (vR (11, 0)), some (vI (nI (cnt (cM m) τ + 1))), some (vI (nI S)), some (vI (nI (tX m S))), some (vI (nI (cX m S))), none] [] h 0 0
  refine g_iload_n (pc' := 1) dX10_tryBelow_0 rfl rfl ?_
  refine g_aload_n (pc' := 2) dX10_tryBelow_1 rfl rfl ?_
  refine g_getIv (v := nI (A)) (pc' := 5) (k := 5) dX10_tryBelow_2 rfl rfl ck_11 (by decide) fl_X10_28 rfl (hws.2.1) ?_
  refine g_icmp_gtN (tgt := 20) (pc' := 8) dX10_tryBelow_5 rfl (by decide) (by omega) (by omega) (fun c5 => ?_) (fun c5 => ?_)
  ·
    refine g_vret dX10_tryBelow_20 rfl (by decide) (by decide) ?_
    exact ⟨rfl, WB.rf h, by rw [md_pr1 hS (by omega)]; exact ⟨h6, h7, h8⟩⟩
  ·
    refine g_iload_n (pc' := 9) dX10_tryBelow_8 rfl rfl ?_
    refine g_iconstN (n := 0) (pc' := 10) dX10_tryBelow_9 rfl ?_
    refine g_aload_n (pc' := 11) dX10_tryBelow_10 rfl rfl ?_
    refine g_getIv (v := nI (cnt (cM m) (nT m))) (pc' := 14) (k := 4) dX10_tryBelow_11 rfl rfl ck_11 (by decide) fl_X10_24 rfl (hws.1) ?_
    refine g_invSN (pc' := 17) (cx_within hok _ _ _) dX10_tryBelow_14 rfl nn_X10_44 st_X11_within in_X11 co_X11_within pd_X11_within rfl (by omega) (by decide) ⟨by decide, by decide⟩ (Nat.le_of_ble_eq_true rfl) ?_
    rintro _ _ ⟨rfl, rfl⟩ -
    refine g_ifB_ne (tgt := 21) (pc' := 20) dX10_tryBelow_17 rfl (by decide) (fun c17 => ?_) (fun c17 => ?_)
    ·
      refine g_iload (pc' := 23) dX10_tryBelow_21 rfl rfl ?_
      refine g_aload_n (pc' := 24) dX10_tryBelow_23 rfl rfl ?_
      refine g_getS (pc' := 27) (k := 3) (b := (58, 0)) dX10_tryBelow_24 rfl rfl ck_11 (by decide) fl_X10_21 rfl hs rfl ?_
      refine g_iload_n (pc' := 28) dX10_tryBelow_27 rfl rfl ?_
      refine g_ialdN (pc' := 29) (v := nI (kM m (τ + 1))) dX10_tryBelow_28 rfl rfl (by decide) (by omega) (hk58) ?_
      refine g_iaddN (pc' := 30) dX10_tryBelow_29 rfl ?_
      refine g_istore (pc' := 32) dX10_tryBelow_30 rfl (by decide) rfl ?_
      try simp only [List.set]
      refine g_iload (pc' := 34) dX10_tryBelow_32 rfl rfl ?_
      refine g_aload_n (pc' := 35) dX10_tryBelow_34 rfl rfl ?_
      refine g_getIv (v := nI (b.2.1)) (pc' := 38) (k := 8) dX10_tryBelow_35 rfl rfl ck_11 (by decide) fl_X10_37 rfl (h8) ?_
      refine g_icmp_ltN (tgt := 58) (pc' := 41) dX10_tryBelow_38 rfl (by decide) (by omega) (by omega) (fun c38 => ?_) (fun c38 => ?_)
      ·
        refine g_vret dX10_tryBelow_58 rfl (by decide) (by decide) ?_
        exact ⟨rfl, WB.rf h, by rw [md_pr2 hS (by omega) (by omega)]; exact ⟨h6, h7, h8⟩⟩
      ·
        refine g_iload (pc' := 43) dX10_tryBelow_41 rfl rfl ?_
        refine g_aload_n (pc' := 44) dX10_tryBelow_43 rfl rfl ?_
        refine g_getIv (v := nI (b.2.1)) (pc' := 47) (k := 8) dX10_tryBelow_44 rfl rfl ck_11 (by decide) fl_X10_37 rfl (h8) ?_
        refine g_icmp_neN (tgt := 59) (pc' := 50) dX10_tryBelow_47 rfl (by decide) (by omega) (by omega) (fun c47 => ?_) (fun c47 => ?_)
        ·
          refine g_iload_n (pc' := 60) dX10_tryBelow_59 rfl rfl ?_
          refine g_if_neN (tgt := 80) (pc' := 63) dX10_tryBelow_60 rfl (by decide) (by omega) (fun c60 => ?_) (fun c60 => ?_)
          ·
            have hps := p2_s τ
            have hpp := p2_pos τ
            have hmb := (mnd_n hw hx hτ).2
            have hwb := wM_le hw τ
            refine g_aload_n (pc' := 81) dX10_tryBelow_80 rfl rfl ?_
            refine g_iload_n (pc' := 82) dX10_tryBelow_81 rfl rfl ?_
            refine g_iconstN (n := 1) (pc' := 83) dX10_tryBelow_82 rfl ?_
            refine g_isubN (pc' := 84) dX10_tryBelow_83 rfl (by omega) ?_
            refine g_iload_n (pc' := 85) dX10_tryBelow_84 rfl rfl ?_
            refine g_iload_n (pc' := 86) dX10_tryBelow_85 rfl rfl ?_
            refine g_iload (pc' := 88) dX10_tryBelow_86 rfl rfl ?_
            refine g_invV (pc' := 91) (ih (2 * a) S h b hs (by rw [hS, p2_s, Nat.add_mul, Nat.two_mul, Nat.mul_add]) (by omega) hsb hws hbd (Or.inl ⟨h6, h7, h8⟩)) dX10_tryBelow_88 rfl rfl ck_11 rfl ml_X10_40 im_X10_tryBelow sl_X10_tryBelow in_X10 co_X10_tryBelow pd_X10_tryBelow rfl (by omega) (by decide) ⟨by decide, by decide⟩ (Nat.le_of_ble_eq_true rfl) ?_
            rintro _ h1 ⟨rfl, wb1, en1⟩ -
            have hws1 := hws.wb wb1
            have hs : Shp h1.2 := by rw [wb1.1]; exact hs
            have hbd1 : bdM m (fo (stM m A) S (p2 τ) b) := fo_bd hw hx hbd _ (by omega)
            have hsb2 : sbM m (S + p2 τ) := sb_add hS hτ hcm hsb
            refine g_aload_n (pc' := 92) dX10_tryBelow_91 rfl rfl ?_
            refine g_iload_n (pc' := 93) dX10_tryBelow_92 rfl rfl ?_
            refine g_iconstN (n := 1) (pc' := 94) dX10_tryBelow_93 rfl ?_
            refine g_isubN (pc' := 95) dX10_tryBelow_94 rfl (by omega) ?_
            refine g_iload_n (pc' := 96) dX10_tryBelow_95 rfl rfl ?_
            refine g_iconst (v := 1) (pc' := 97) dX10_tryBelow_96 rfl (by decide) ?_
            refine g_aload_n (pc' := 98) dX10_tryBelow_97 rfl rfl ?_
            refine g_getS (pc' := 101) (k := 0) (b := (55, 0)) dX10_tryBelow_98 rfl rfl ck_11 (by decide) fl_X10_9 rfl hs rfl ?_
            refine g_iload_n (pc' := 102) dX10_tryBelow_101 rfl rfl ?_
            refine g_iconstN (n := 1) (pc' := 103) dX10_tryBelow_102 rfl ?_
            refine g_isubN (pc' := 104) dX10_tryBelow_103 rfl (by omega) ?_
            refine g_ialdN (pc' := 105) (v := nI τ) dX10_tryBelow_104 rfl rfl (by decide) (by omega) ((hws1.2.2.1 τ hτ hcm).1) ?_
            refine g_ishl (pc' := 106) dX10_tryBelow_105 rfl ?_
            refine g_ior (pc' := 107) dX10_tryBelow_106 rfl ?_
            rw [or_nI (show τ < 16 by omega) hS]
            refine g_iload_n (pc' := 108) dX10_tryBelow_107 rfl rfl ?_
            refine g_aload_n (pc' := 109) dX10_tryBelow_108 rfl rfl ?_
            refine g_getS (pc' := 112) (k := 1) (b := (56, 0)) dX10_tryBelow_109 rfl rfl ck_11 (by decide) fl_X10_15 rfl hs rfl ?_
            refine g_iload_n (pc' := 113) dX10_tryBelow_112 rfl rfl ?_
            refine g_iconstN (n := 1) (pc' := 114) dX10_tryBelow_113 rfl ?_
            refine g_isubN (pc' := 115) dX10_tryBelow_114 rfl (by omega) ?_
            refine g_ialdN (pc' := 116) (v := nI (mnN m τ)) dX10_tryBelow_115 rfl rfl (by decide) (by omega) ((hws1.2.2.1 τ hτ hcm).2.1) ?_
            refine g_iaddN (pc' := 117) dX10_tryBelow_116 rfl ?_
            refine g_iload (pc' := 119) dX10_tryBelow_117 rfl rfl ?_
            refine g_aload_n (pc' := 120) dX10_tryBelow_119 rfl rfl ?_
            refine g_getS (pc' := 123) (k := 2) (b := (57, 0)) dX10_tryBelow_120 rfl rfl ck_11 (by decide) fl_X10_18 rfl hs rfl ?_
            refine g_iload_n (pc' := 124) dX10_tryBelow_123 rfl rfl ?_
            refine g_iconstN (n := 1) (pc' := 125) dX10_tryBelow_124 rfl ?_
            refine g_isubN (pc' := 126) dX10_tryBelow_125 rfl (by omega) ?_
            refine g_ialdN (pc' := 127) (v := nI (wM m τ)) dX10_tryBelow_126 rfl rfl (by decide) (by omega) ((hws1.2.2.1 τ hτ hcm).2.2) ?_
            refine g_iaddN (pc' := 128) dX10_tryBelow_127 rfl ?_
            rw [← tX_add hS hτ, ← cX_add hS hτ]
            refine g_invV (pc' := 131) (ih (2 * a + 1) (S + p2 τ) h1 _ hs (by rw [hS, p2_s]; simp only [Nat.add_mul, Nat.mul_add, Nat.two_mul, Nat.mul_one]) (by omega) hsb2 hws1 hbd1 (Or.inl en1)) dX10_tryBelow_128 rfl rfl ck_11 rfl ml_X10_40 im_X10_tryBelow sl_X10_tryBelow in_X10 co_X10_tryBelow pd_X10_tryBelow rfl (by omega) (by decide) ⟨by decide, by decide⟩ (Nat.le_of_ble_eq_true rfl) ?_
            rintro _ h2 ⟨rfl, wb2, en2⟩ -
            refine g_vret dX10_tryBelow_131 rfl (by decide) (by decide) ?_
            refine ⟨rfl, wb1.tr wb2, ?_⟩
            rw [p2_s, fo_add]
            exact en2
          · exact absurd c60 (by omega)
        ·
          refine g_iload_n (pc' := 51) dX10_tryBelow_50 rfl rfl ?_
          refine g_aload_n (pc' := 52) dX10_tryBelow_51 rfl rfl ?_
          refine g_getIv (v := nI (b.2.2)) (pc' := 55) (k := 7) dX10_tryBelow_52 rfl rfl ck_11 (by decide) fl_X10_34 rfl (h7) ?_
          refine g_icmp_ltN (tgt := 59) (pc' := 58) dX10_tryBelow_55 rfl (by decide) (by omega) (by omega) (fun c55 => ?_) (fun c55 => ?_)
          ·
            refine g_iload_n (pc' := 60) dX10_tryBelow_59 rfl rfl ?_
            refine g_if_neN (tgt := 80) (pc' := 63) dX10_tryBelow_60 rfl (by decide) (by omega) (fun c60 => ?_) (fun c60 => ?_)
            ·
              have hps := p2_s τ
              have hpp := p2_pos τ
              have hmb := (mnd_n hw hx hτ).2
              have hwb := wM_le hw τ
              refine g_aload_n (pc' := 81) dX10_tryBelow_80 rfl rfl ?_
              refine g_iload_n (pc' := 82) dX10_tryBelow_81 rfl rfl ?_
              refine g_iconstN (n := 1) (pc' := 83) dX10_tryBelow_82 rfl ?_
              refine g_isubN (pc' := 84) dX10_tryBelow_83 rfl (by omega) ?_
              refine g_iload_n (pc' := 85) dX10_tryBelow_84 rfl rfl ?_
              refine g_iload_n (pc' := 86) dX10_tryBelow_85 rfl rfl ?_
              refine g_iload (pc' := 88) dX10_tryBelow_86 rfl rfl ?_
              refine g_invV (pc' := 91) (ih (2 * a) S h b hs (by rw [hS, p2_s, Nat.add_mul, Nat.two_mul, Nat.mul_add]) (by omega) hsb hws hbd (Or.inl ⟨h6, h7, h8⟩)) dX10_tryBelow_88 rfl rfl ck_11 rfl ml_X10_40 im_X10_tryBelow sl_X10_tryBelow in_X10 co_X10_tryBelow pd_X10_tryBelow rfl (by omega) (by decide) ⟨by decide, by decide⟩ (Nat.le_of_ble_eq_true rfl) ?_
              rintro _ h1 ⟨rfl, wb1, en1⟩ -
              have hws1 := hws.wb wb1
              have hs : Shp h1.2 := by rw [wb1.1]; exact hs
              have hbd1 : bdM m (fo (stM m A) S (p2 τ) b) := fo_bd hw hx hbd _ (by omega)
              have hsb2 : sbM m (S + p2 τ) := sb_add hS hτ hcm hsb
              refine g_aload_n (pc' := 92) dX10_tryBelow_91 rfl rfl ?_
              refine g_iload_n (pc' := 93) dX10_tryBelow_92 rfl rfl ?_
              refine g_iconstN (n := 1) (pc' := 94) dX10_tryBelow_93 rfl ?_
              refine g_isubN (pc' := 95) dX10_tryBelow_94 rfl (by omega) ?_
              refine g_iload_n (pc' := 96) dX10_tryBelow_95 rfl rfl ?_
              refine g_iconst (v := 1) (pc' := 97) dX10_tryBelow_96 rfl (by decide) ?_
              refine g_aload_n (pc' := 98) dX10_tryBelow_97 rfl rfl ?_
              refine g_getS (pc' := 101) (k := 0) (b := (55, 0)) dX10_tryBelow_98 rfl rfl ck_11 (by decide) fl_X10_9 rfl hs rfl ?_
              refine g_iload_n (pc' := 102) dX10_tryBelow_101 rfl rfl ?_
              refine g_iconstN (n := 1) (pc' := 103) dX10_tryBelow_102 rfl ?_
              refine g_isubN (pc' := 104) dX10_tryBelow_103 rfl (by omega) ?_
              refine g_ialdN (pc' := 105) (v := nI τ) dX10_tryBelow_104 rfl rfl (by decide) (by omega) ((hws1.2.2.1 τ hτ hcm).1) ?_
              refine g_ishl (pc' := 106) dX10_tryBelow_105 rfl ?_
              refine g_ior (pc' := 107) dX10_tryBelow_106 rfl ?_
              rw [or_nI (show τ < 16 by omega) hS]
              refine g_iload_n (pc' := 108) dX10_tryBelow_107 rfl rfl ?_
              refine g_aload_n (pc' := 109) dX10_tryBelow_108 rfl rfl ?_
              refine g_getS (pc' := 112) (k := 1) (b := (56, 0)) dX10_tryBelow_109 rfl rfl ck_11 (by decide) fl_X10_15 rfl hs rfl ?_
              refine g_iload_n (pc' := 113) dX10_tryBelow_112 rfl rfl ?_
              refine g_iconstN (n := 1) (pc' := 114) dX10_tryBelow_113 rfl ?_
              refine g_isubN (pc' := 115) dX10_tryBelow_114 rfl (by omega) ?_
              refine g_ialdN (pc' := 116) (v := nI (mnN m τ)) dX10_tryBelow_115 rfl rfl (by decide) (by omega) ((hws1.2.2.1 τ hτ hcm).2.1) ?_
              refine g_iaddN (pc' := 117) dX10_tryBelow_116 rfl ?_
              refine g_iload (pc' := 119) dX10_tryBelow_117 rfl rfl ?_
              refine g_aload_n (pc' := 120) dX10_tryBelow_119 rfl rfl ?_
              refine g_getS (pc' := 123) (k := 2) (b := (57, 0)) dX10_tryBelow_120 rfl rfl ck_11 (by decide) fl_X10_18 rfl hs rfl ?_
              refine g_iload_n (pc' := 124) dX10_tryBelow_123 rfl rfl ?_
              refine g_iconstN (n := 1) (pc' := 125) dX10_tryBelow_124 rfl ?_
              refine g_isubN (pc' := 126) dX10_tryBelow_125 rfl (by omega) ?_
              refine g_ialdN (pc' := 127) (v := nI (wM m τ)) dX10_tryBelow_126 rfl rfl (by decide) (by omega) ((hws1.2.2.1 τ hτ hcm).2.2) ?_
              refine g_iaddN (pc' := 128) dX10_tryBelow_127 rfl ?_
              rw [← tX_add hS hτ, ← cX_add hS hτ]
              refine g_invV (pc' := 131) (ih (2 * a + 1) (S + p2 τ) h1 _ hs (by rw [hS, p2_s]; simp only [Nat.add_mul, Nat.mul_add, Nat.two_mul, Nat.mul_one]) (by omega) hsb2 hws1 hbd1 (Or.inl en1)) dX10_tryBelow_128 rfl rfl ck_11 rfl ml_X10_40 im_X10_tryBelow sl_X10_tryBelow in_X10 co_X10_tryBelow pd_X10_tryBelow rfl (by omega) (by decide) ⟨by decide, by decide⟩ (Nat.le_of_ble_eq_true rfl) ?_
              rintro _ h2 ⟨rfl, wb2, en2⟩ -
              refine g_vret dX10_tryBelow_131 rfl (by decide) (by decide) ?_
              refine ⟨rfl, wb1.tr wb2, ?_⟩
              rw [p2_s, fo_add]
              exact en2
            · exact absurd c60 (by omega)
          ·
            refine g_vret dX10_tryBelow_58 rfl (by decide) (by decide) ?_
            exact ⟨rfl, WB.rf h, by rw [md_pr2 hS (by omega) (by omega)]; exact ⟨h6, h7, h8⟩⟩
    · exact absurd ⟨nI_le (Nat.zero_le _) (by omega), nI_le (show (cnt (cM m) τ + 1) ≤ cnt (cM m) (nT m) by omega) (by omega)⟩ c17
set_option maxRecDepth 4000 in
theorem tb_nodeF {E : En} (hok : EOK E) {h : Hp} (hs : Shp h.2) {m : St} (hw : Wf m) (hx : Wx m) {A : Nat} (hA6 : A ≤ 6000) {τ a S : Nat} (hτ : τ < nT m) (hcm : cM m τ) {b : Nat × Nat × Nat} (hS : S = p2 (τ + 1) * a) (hSl : S + p2 (τ + 1) ≤ p2 (nT m)) (hsb : sbM m S) (hws : WS m A (nT m) h) (hbd : bdM m b) (he : encF S b h) (ih : ∀ (a S : Nat) (h : Hp) (b : Nat × Nat × Nat), Shp h.2 → S = p2 τ * a → S + p2 τ ≤ p2 (nT m) → sbM m S → WS m A (nT m) h → bdM m b → (encN b h ∨ encF S b h) → Call E m_X10_tryBelow (cnt (cM m) τ + 1) 0 0 [vR (11, 0), vI (nI (cnt (cM m) τ)), vI (nI S), vI (nI (tX m S)), vI (nI (cX m S))] h (fun r h' => r = none ∧ WB h h' ∧ encN (fo (stM m A) S (p2 τ) b) h')) : Call E m_X10_tryBelow (cnt (cM m) τ + 2) 0 0 [vR (11, 0), vI (nI (cnt (cM m) τ + 1)), vI (nI S), vI (nI (tX m S)), vI (nI (cX m S))] h (fun r h' => r = none ∧ WB h h' ∧ encN (fo (stM m A) S (p2 (τ + 1)) b) h') := by
  have hTb := hw.t.2
  have hp2 := p2_16 hTb
  have hcT := cnt_le (cM m) (nT m)
  have htl : tX m S ≤ 345600 := tX_le hw hx (Nat.le_refl _)
  have hcl : cX m S ≤ 176 := cX_le hw (Nat.le_refl _)
  have hb1 := hbd.1
  have hb2 := hbd.2.1
  have hb3 := hbd.2.2
  have hkl : kM m (τ + 1) ≤ 176 := kM_le hw hτ
  have hcs : cnt (cM m) (τ + 1) = cnt (cM m) τ + 1 := cnt_t hcm
  have hcu : cnt (cM m) (τ + 1) ≤ cnt (cM m) (nT m) := cnt_up hτ
  have hk58 : h.1 (58, 0) (cnt (cM m) τ + 1) = nI (kM m (τ + 1)) := by rw [← hcs]; exact hws.2.2.2 (τ + 1) hτ
  obtain ⟨rfl, rfl, h8⟩ := he
  refine Call.enter hok (by decide) (Nat.le_of_ble_eq_true rfl) ?_
  show G E m_X10_tryBelow (cnt (cM m) τ + 2) 0 0 _ h 0 [some (vR (11, 0)), some (vI (nI (cnt (cM m) τ + 1))), some (vI (nI 0)), some (vI (nI (tX m 0))), some (vI (nI (cX m 0))), none] [] h 0 0
  refine g_iload_n (pc' := 1) dX10_tryBelow_0 rfl rfl ?_
  refine g_aload_n (pc' := 2) dX10_tryBelow_1 rfl rfl ?_
  refine g_getIv (v := nI (A)) (pc' := 5) (k := 5) dX10_tryBelow_2 rfl rfl ck_11 (by decide) fl_X10_28 rfl (hws.2.1) ?_
  refine g_icmp_gtN (tgt := 20) (pc' := 8) dX10_tryBelow_5 rfl (by decide) (by omega) (by omega) (fun c5 => ?_) (fun c5 => ?_)
  · exact absurd c5 (by rw [tX_0]; omega)
  ·
    refine g_iload_n (pc' := 9) dX10_tryBelow_8 rfl rfl ?_
    refine g_iconstN (n := 0) (pc' := 10) dX10_tryBelow_9 rfl ?_
    refine g_aload_n (pc' := 11) dX10_tryBelow_10 rfl rfl ?_
    refine g_getIv (v := nI (cnt (cM m) (nT m))) (pc' := 14) (k := 4) dX10_tryBelow_11 rfl rfl ck_11 (by decide) fl_X10_24 rfl (hws.1) ?_
    refine g_invSN (pc' := 17) (cx_within hok _ _ _) dX10_tryBelow_14 rfl nn_X10_44 st_X11_within in_X11 co_X11_within pd_X11_within rfl (by omega) (by decide) ⟨by decide, by decide⟩ (Nat.le_of_ble_eq_true rfl) ?_
    rintro _ _ ⟨rfl, rfl⟩ -
    refine g_ifB_ne (tgt := 21) (pc' := 20) dX10_tryBelow_17 rfl (by decide) (fun c17 => ?_) (fun c17 => ?_)
    ·
      refine g_iload (pc' := 23) dX10_tryBelow_21 rfl rfl ?_
      refine g_aload_n (pc' := 24) dX10_tryBelow_23 rfl rfl ?_
      refine g_getS (pc' := 27) (k := 3) (b := (58, 0)) dX10_tryBelow_24 rfl rfl ck_11 (by decide) fl_X10_21 rfl hs rfl ?_
      refine g_iload_n (pc' := 28) dX10_tryBelow_27 rfl rfl ?_
      refine g_ialdN (pc' := 29) (v := nI (kM m (τ + 1))) dX10_tryBelow_28 rfl rfl (by decide) (by omega) (hk58) ?_
      refine g_iaddN (pc' := 30) dX10_tryBelow_29 rfl ?_
      refine g_istore (pc' := 32) dX10_tryBelow_30 rfl (by decide) rfl ?_
      try simp only [List.set]
      refine g_iload (pc' := 34) dX10_tryBelow_32 rfl rfl ?_
      refine g_aload_n (pc' := 35) dX10_tryBelow_34 rfl rfl ?_
      refine g_getIv (v := -1) (pc' := 38) (k := 8) dX10_tryBelow_35 rfl rfl ck_11 (by decide) fl_X10_37 rfl (h8) ?_
      refine g_icmp_lt (tgt := 58) (pc' := 41) dX10_tryBelow_38 rfl (by decide) (fun c38 => ?_) (fun c38 => ?_)
      · exact absurd (Int32.lt_iff_toInt_lt.mp c38) (by rw [nI_toInt (by omega)]; show ¬ (_ : Int) < -1; omega)
      ·
        refine g_iload (pc' := 43) dX10_tryBelow_41 rfl rfl ?_
        refine g_aload_n (pc' := 44) dX10_tryBelow_43 rfl rfl ?_
        refine g_getIv (v := -1) (pc' := 47) (k := 8) dX10_tryBelow_44 rfl rfl ck_11 (by decide) fl_X10_37 rfl (h8) ?_
        refine g_icmp_ne (tgt := 59) (pc' := 50) dX10_tryBelow_47 rfl (by decide) (fun c47 => ?_) (fun c47 => ?_)
        ·
          refine g_iload_n (pc' := 60) dX10_tryBelow_59 rfl rfl ?_
          refine g_if_neN (tgt := 80) (pc' := 63) dX10_tryBelow_60 rfl (by decide) (by omega) (fun c60 => ?_) (fun c60 => ?_)
          ·
            have hps := p2_s τ
            have hpp := p2_pos τ
            have hmb := (mnd_n hw hx hτ).2
            have hwb := wM_le hw τ
            refine g_aload_n (pc' := 81) dX10_tryBelow_80 rfl rfl ?_
            refine g_iload_n (pc' := 82) dX10_tryBelow_81 rfl rfl ?_
            refine g_iconstN (n := 1) (pc' := 83) dX10_tryBelow_82 rfl ?_
            refine g_isubN (pc' := 84) dX10_tryBelow_83 rfl (by omega) ?_
            refine g_iload_n (pc' := 85) dX10_tryBelow_84 rfl rfl ?_
            refine g_iload_n (pc' := 86) dX10_tryBelow_85 rfl rfl ?_
            refine g_iload (pc' := 88) dX10_tryBelow_86 rfl rfl ?_
            refine g_invV (pc' := 91) (ih (2 * a) 0 h (0, 0, 0) hs (by rw [hS, p2_s, Nat.add_mul, Nat.two_mul, Nat.mul_add]) (by omega) hsb hws hbd (Or.inr ⟨rfl, rfl, h8⟩)) dX10_tryBelow_88 rfl rfl ck_11 rfl ml_X10_40 im_X10_tryBelow sl_X10_tryBelow in_X10 co_X10_tryBelow pd_X10_tryBelow rfl (by omega) (by decide) ⟨by decide, by decide⟩ (Nat.le_of_ble_eq_true rfl) ?_
            rintro _ h1 ⟨rfl, wb1, en1⟩ -
            have hws1 := hws.wb wb1
            have hs : Shp h1.2 := by rw [wb1.1]; exact hs
            have hbd1 : bdM m (fo (stM m A) 0 (p2 τ) (0, 0, 0)) := fo_bd hw hx hbd _ (by omega)
            have hsb2 : sbM m (0 + p2 τ) := sb_add hS hτ hcm hsb
            refine g_aload_n (pc' := 92) dX10_tryBelow_91 rfl rfl ?_
            refine g_iload_n (pc' := 93) dX10_tryBelow_92 rfl rfl ?_
            refine g_iconstN (n := 1) (pc' := 94) dX10_tryBelow_93 rfl ?_
            refine g_isubN (pc' := 95) dX10_tryBelow_94 rfl (by omega) ?_
            refine g_iload_n (pc' := 96) dX10_tryBelow_95 rfl rfl ?_
            refine g_iconst (v := 1) (pc' := 97) dX10_tryBelow_96 rfl (by decide) ?_
            refine g_aload_n (pc' := 98) dX10_tryBelow_97 rfl rfl ?_
            refine g_getS (pc' := 101) (k := 0) (b := (55, 0)) dX10_tryBelow_98 rfl rfl ck_11 (by decide) fl_X10_9 rfl hs rfl ?_
            refine g_iload_n (pc' := 102) dX10_tryBelow_101 rfl rfl ?_
            refine g_iconstN (n := 1) (pc' := 103) dX10_tryBelow_102 rfl ?_
            refine g_isubN (pc' := 104) dX10_tryBelow_103 rfl (by omega) ?_
            refine g_ialdN (pc' := 105) (v := nI τ) dX10_tryBelow_104 rfl rfl (by decide) (by omega) ((hws1.2.2.1 τ hτ hcm).1) ?_
            refine g_ishl (pc' := 106) dX10_tryBelow_105 rfl ?_
            refine g_ior (pc' := 107) dX10_tryBelow_106 rfl ?_
            rw [or_nI (show τ < 16 by omega) hS]
            refine g_iload_n (pc' := 108) dX10_tryBelow_107 rfl rfl ?_
            refine g_aload_n (pc' := 109) dX10_tryBelow_108 rfl rfl ?_
            refine g_getS (pc' := 112) (k := 1) (b := (56, 0)) dX10_tryBelow_109 rfl rfl ck_11 (by decide) fl_X10_15 rfl hs rfl ?_
            refine g_iload_n (pc' := 113) dX10_tryBelow_112 rfl rfl ?_
            refine g_iconstN (n := 1) (pc' := 114) dX10_tryBelow_113 rfl ?_
            refine g_isubN (pc' := 115) dX10_tryBelow_114 rfl (by omega) ?_
            refine g_ialdN (pc' := 116) (v := nI (mnN m τ)) dX10_tryBelow_115 rfl rfl (by decide) (by omega) ((hws1.2.2.1 τ hτ hcm).2.1) ?_
            refine g_iaddN (pc' := 117) dX10_tryBelow_116 rfl ?_
            refine g_iload (pc' := 119) dX10_tryBelow_117 rfl rfl ?_
            refine g_aload_n (pc' := 120) dX10_tryBelow_119 rfl rfl ?_
            refine g_getS (pc' := 123) (k := 2) (b := (57, 0)) dX10_tryBelow_120 rfl rfl ck_11 (by decide) fl_X10_18 rfl hs rfl ?_
            refine g_iload_n (pc' := 124) dX10_tryBelow_123 rfl rfl ?_
            refine g_iconstN (n := 1) (pc' := 125) dX10_tryBelow_124 rfl ?_
            refine g_isubN (pc' := 126) dX10_tryBelow_125 rfl (by omega) ?_
            refine g_ialdN (pc' := 127) (v := nI (wM m τ)) dX10_tryBelow_126 rfl rfl (by decide) (by omega) ((hws1.2.2.1 τ hτ hcm).2.2) ?_
            refine g_iaddN (pc' := 128) dX10_tryBelow_127 rfl ?_
            rw [← tX_add hS hτ, ← cX_add hS hτ]
            refine g_invV (pc' := 131) (ih (2 * a + 1) (0 + p2 τ) h1 _ hs (by rw [hS, p2_s]; simp only [Nat.add_mul, Nat.mul_add, Nat.two_mul, Nat.mul_one]) (by omega) hsb2 hws1 hbd1 (Or.inl en1)) dX10_tryBelow_128 rfl rfl ck_11 rfl ml_X10_40 im_X10_tryBelow sl_X10_tryBelow in_X10 co_X10_tryBelow pd_X10_tryBelow rfl (by omega) (by decide) ⟨by decide, by decide⟩ (Nat.le_of_ble_eq_true rfl) ?_
            rintro _ h2 ⟨rfl, wb2, en2⟩ -
            refine g_vret dX10_tryBelow_131 rfl (by decide) (by decide) ?_
            refine ⟨rfl, wb1.tr wb2, ?_⟩
            rw [p2_s, fo_add]
            exact en2
          · exact absurd c60 (by omega)
        · exact absurd c47 (nI_ne_neg (by omega))
    · exact absurd ⟨nI_le (Nat.zero_le _) (by omega), nI_le (show (cnt (cM m) τ + 1) ≤ cnt (cM m) (nT m) by omega) (by omega)⟩ c17
theorem tb_all {E : En} (hok : EOK E) {m : St} (hw : Wf m) (hx : Wx m) {A : Nat} (hA6 : A ≤ 6000) : ∀ τ, τ ≤ nT m → ∀ (a S : Nat) (h : Hp) (b : Nat × Nat × Nat), Shp h.2 → S = p2 τ * a → S + p2 τ ≤ p2 (nT m) → sbM m S → WS m A (nT m) h → bdM m b → (encN b h ∨ encF S b h) → Call E m_X10_tryBelow (cnt (cM m) τ + 1) 0 0 [vR (11, 0), vI (nI (cnt (cM m) τ)), vI (nI S), vI (nI (tX m S)), vI (nI (cX m S))] h (fun r h' => r = none ∧ WB h h' ∧ encN (fo (stM m A) S (p2 τ) b) h')
  | 0, _ => fun a S h b hs hS hl hsb hws hbd he => by
    rcases he with he | he
    · exact tb_leafN hok hs hw hx hA6 hS hl hsb hws hbd he
    · exact tb_leafF hok hs hw hx hA6 hS hl hsb hws hbd he
  | τ + 1, hτ => fun a S h b hs hS hl hsb hws hbd he => by
    have ih := tb_all hok hw hx hA6 τ (by omega)
    by_cases hcm : cM m τ
    · rw [cnt_t hcm]
      rcases he with he | he
      · exact tb_nodeN hok hs hw hx hA6 hτ hcm hS hl hsb hws hbd he ih
      · exact tb_nodeF hok hs hw hx hA6 hτ hcm hS hl hsb hws hbd he ih
    · rw [cnt_f hcm, Nat.add_zero]
      have hps := p2_s τ
      have e : fo (stM m A) S (p2 (τ + 1)) b = fo (stM m A) S (p2 τ) b := by
        rw [hps, fo_add]
        refine fo_id fun x h1 h2 => cif_f (fun z => ?_)
        obtain ⟨y, rfl⟩ : ∃ y, x = S + y := ⟨x - S, by omega⟩
        exact sb_no hS hτ hcm (by omega) (by omega) z.1.1
      rw [e]
      exact ih (2 * a) S h b hs (by rw [hS, p2_s, Nat.add_mul, Nat.two_mul, Nat.mul_add]) (by omega) hsb hws hbd he
