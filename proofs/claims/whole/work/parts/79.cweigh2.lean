set_option maxRecDepth 4000 in
theorem tw_leaf {E : En} (hok : EOK E) {g v : Nat → Nat} (hg6 : ∀ s, s < 6 → g s ≤ 6) (hv4 : ∀ s, s < 6 → v s ≤ 400) {B W e : Nat} {lo hi : Int32} (hl : lim B W e lo hi) {t k : Nat} (ht : t < 16) (hk8 : k < 8) {s a S : Nat} {b : WT} {h : Hp} (hs : Shp h.2) (hS : S = rx g s * a) (hSl : S + rx g s ≤ rx g 0) (hy : YS g v lo hi t k h) (hrw : rowW g s S h) (hen : encW g b h) (hb1 : b.1 ≤ S) (hb2 : b.2.2.2.1 ≤ 36) (hs5 : s = 6) : Call E m_X9_tryFrom (6 - s + 2) 0 0 [vR (9, 0), vR (3, t), vI (nI s), vI (nI (wx g v s S)), vI (nI (nx g s S)), vI (sx g s S)] h (fun r h' => r = none ∧ YB s h h' ∧ encW g (fo (stW g v B W e) S (rx g s) b) h') := by
  have hs6 : s ≤ 6 := by omega
  have hrx := rx_le hg6
  have hrm := rx_mono (g := g) hs6
  have hwl := wx_le hg6 hv4 hs6 S
  have hfl := wF_le hg6 hv4 s
  have hn36 := nx_le hg6 hs6 S
  have hL1 := lim_hi hl (show wx g v s S < 2 ^ 31 by omega)
  have hL2 := lim_lo hl (show wx g v s S + wF_ g v s < 2 ^ 31 by omega)
  have hL3 := lim_lo hl (show wx g v s S < 2 ^ 31 by omega)
  have hL4 := lim_hi hl (show wx g v s S + wF_ g v s < 2 ^ 31 by omega)
  refine Call.enter hok (by decide) (Nat.le_of_ble_eq_true rfl) ?_
  show G E m_X9_tryFrom (6 - s + 2) 0 0 _ h 0 [some (vR (9, 0)), some (vR (3, t)), some (vI (nI s)), some (vI (nI (wx g v s S))), some (vI (nI (nx g s S))), some (vI (sx g s S)), none, none] [] h 0 0
  refine g_iload_n (pc' := 1) dX9_tryFrom_0 rfl rfl ?_
  refine g_aload_n (pc' := 2) dX9_tryFrom_1 rfl rfl ?_
  refine g_getIv (v := hi) (pc' := 5) (k := 6) dX9_tryFrom_2 rfl rfl ck_10 (by decide) fl_X9_31 rfl (hy.2.1) ?_
  refine g_icmp_gt (tgt := 33) (pc' := 8) dX9_tryFrom_5 rfl (by decide) (fun c5 => ?_) (fun c5 => ?_)
  ·
    refine g_vret dX9_tryFrom_33 rfl (by decide) (by decide) ?_
    exact ⟨rfl, YB.rf s h, by rw [wg_pr1 hs6 hS (hL1.mp c5)]; exact hen⟩
  ·
    refine g_iload_n (pc' := 9) dX9_tryFrom_8 rfl rfl ?_
    refine g_iconstN (n := 0) (pc' := 10) dX9_tryFrom_9 rfl ?_
    refine g_bipushN (n := 6) (pc' := 12) dX9_tryFrom_10 rfl (by decide) ?_
    refine g_invSN (pc' := 15) (cx_within hok _ _ _) dX9_tryFrom_12 rfl nn_X9_64 st_X11_within in_X11 co_X11_within pd_X11_within rfl (by omega) (by decide) ⟨by decide, by decide⟩ (Nat.le_of_ble_eq_true rfl) ?_
    rintro _ _ ⟨rfl, rfl⟩ -
    refine g_ifB_eq (tgt := 33) (pc' := 18) dX9_tryFrom_15 rfl (by decide) (fun c15 => ?_) (fun c15 => ?_)
    · exact absurd ⟨nI_le (Nat.zero_le _) (by omega), nI_le (show s ≤ 6 by omega) (by omega)⟩ c15
    ·
      refine g_iload_n (pc' := 19) dX9_tryFrom_18 rfl rfl ?_
      refine g_aload_n (pc' := 20) dX9_tryFrom_19 rfl rfl ?_
      refine g_getS (pc' := 23) (k := 2) (b := (46, 0)) dX9_tryFrom_20 rfl rfl ck_10 (by decide) fl_X9_18 rfl hs rfl ?_
      refine g_iload_n (pc' := 24) dX9_tryFrom_23 rfl rfl ?_
      refine g_ialdN (pc' := 25) (v := nI (wF_ g v s)) dX9_tryFrom_24 rfl rfl (by decide) (by omega) ((hy.2.2.1 s hs6).1) ?_
      refine g_iaddN (pc' := 26) dX9_tryFrom_25 rfl ?_
      refine g_aload_n (pc' := 27) dX9_tryFrom_26 rfl rfl ?_
      refine g_getIv (v := lo) (pc' := 30) (k := 5) dX9_tryFrom_27 rfl rfl ck_10 (by decide) fl_X9_27 rfl (hy.1) ?_
      refine g_icmp_ge (tgt := 34) (pc' := 33) dX9_tryFrom_30 rfl (by decide) (fun c30 => ?_) (fun c30 => ?_)
      ·
        refine g_iload_n (pc' := 35) dX9_tryFrom_34 rfl rfl ?_
        refine g_aload_n (pc' := 36) dX9_tryFrom_35 rfl rfl ?_
        refine g_getIv (v := lo) (pc' := 39) (k := 5) dX9_tryFrom_36 rfl rfl ck_10 (by decide) fl_X9_27 rfl (hy.1) ?_
        refine g_icmp_lt (tgt := 57) (pc' := 42) dX9_tryFrom_39 rfl (by decide) (fun c39 => ?_) (fun c39 => ?_)
        ·
          refine g_iload_n (pc' := 58) dX9_tryFrom_57 rfl rfl ?_
          refine g_bipushN (n := 6) (pc' := 60) dX9_tryFrom_58 rfl (by decide) ?_
          refine g_icmp_neN (tgt := 73) (pc' := 63) dX9_tryFrom_60 rfl (by decide) (by omega) (by omega) (fun c60 => ?_) (fun c60 => ?_)
          · exact absurd hs5 c60
          ·
            refine g_aload_n (pc' := 64) dX9_tryFrom_63 rfl rfl ?_
            refine g_iload_n (pc' := 65) dX9_tryFrom_64 rfl rfl ?_
            refine g_iload (pc' := 67) dX9_tryFrom_65 rfl rfl ?_
            refine g_iload (pc' := 69) dX9_tryFrom_67 rfl rfl ?_
            refine g_invV (pc' := 72) (cx_keepAll hok hs hg6 hs6 hS (by omega) hb2 hen hrw (hy.2.2.1 s hs6).2.1 (hy.2.2.1 s hs6).2.2) dX9_tryFrom_69 rfl rfl ck_10 rfl ml_X9_68 im_X9_keepAllFrom sl_X9_keepAllFrom in_X9 co_X9_keepAllFrom pd_X9_keepAllFrom rfl (by omega) (by decide) ⟨by decide, by decide⟩ (Nat.le_of_ble_eq_true rfl) ?_
            rintro _ h2 ⟨rfl, yb, en⟩ -
            refine g_vret dX9_tryFrom_72 rfl (by decide) (by decide) ?_
            have ef : wF_ g v s = 0 := by rw [hs5]; exact wF_6 g v
            have k1 : ¬ (B : Int) - W + e < (wx g v s S : Nat) := fun z => c5 (hL1.mpr z)
            have k2 := hL2.mp c30
            have k3 : (B : Int) - W - e ≤ (wx g v s S : Nat) := by omega
            have k4 : ¬ (B : Int) - W + e < (wx g v s S + wF_ g v s : Nat) := by omega
            exact ⟨rfl, yb, by rw [wg_keep hs6 hS (wg_in hs6 hS k3 (by omega))]; exact en⟩
        ·
          refine g_iload_n (pc' := 43) dX9_tryFrom_42 rfl rfl ?_
          refine g_aload_n (pc' := 44) dX9_tryFrom_43 rfl rfl ?_
          refine g_getS (pc' := 47) (k := 2) (b := (46, 0)) dX9_tryFrom_44 rfl rfl ck_10 (by decide) fl_X9_18 rfl hs rfl ?_
          refine g_iload_n (pc' := 48) dX9_tryFrom_47 rfl rfl ?_
          refine g_ialdN (pc' := 49) (v := nI (wF_ g v s)) dX9_tryFrom_48 rfl rfl (by decide) (by omega) ((hy.2.2.1 s hs6).1) ?_
          refine g_iaddN (pc' := 50) dX9_tryFrom_49 rfl ?_
          refine g_aload_n (pc' := 51) dX9_tryFrom_50 rfl rfl ?_
          refine g_getIv (v := hi) (pc' := 54) (k := 6) dX9_tryFrom_51 rfl rfl ck_10 (by decide) fl_X9_31 rfl (hy.2.1) ?_
          refine g_icmp_le (tgt := 63) (pc' := 57) dX9_tryFrom_54 rfl (by decide) (fun c54 => ?_) (fun c54 => ?_)
          ·
            refine g_aload_n (pc' := 64) dX9_tryFrom_63 rfl rfl ?_
            refine g_iload_n (pc' := 65) dX9_tryFrom_64 rfl rfl ?_
            refine g_iload (pc' := 67) dX9_tryFrom_65 rfl rfl ?_
            refine g_iload (pc' := 69) dX9_tryFrom_67 rfl rfl ?_
            refine g_invV (pc' := 72) (cx_keepAll hok hs hg6 hs6 hS (by omega) hb2 hen hrw (hy.2.2.1 s hs6).2.1 (hy.2.2.1 s hs6).2.2) dX9_tryFrom_69 rfl rfl ck_10 rfl ml_X9_68 im_X9_keepAllFrom sl_X9_keepAllFrom in_X9 co_X9_keepAllFrom pd_X9_keepAllFrom rfl (by omega) (by decide) ⟨by decide, by decide⟩ (Nat.le_of_ble_eq_true rfl) ?_
            rintro _ h2 ⟨rfl, yb, en⟩ -
            refine g_vret dX9_tryFrom_72 rfl (by decide) (by decide) ?_
            have k1 : ¬ (B : Int) - W + e < (wx g v s S : Nat) := fun z => c5 (hL1.mpr z)
            have k2 := hL2.mp c30
            have k3 : (B : Int) - W - e ≤ (wx g v s S : Nat) := hL3.mp (Int32.not_lt.mp c39)
            have k4 : ¬ (B : Int) - W + e < (wx g v s S + wF_ g v s : Nat) := fun z => (Int32.not_lt.mpr c54) (hL4.mpr z)
            exact ⟨rfl, yb, by rw [wg_keep hs6 hS (wg_in hs6 hS k3 (by omega))]; exact en⟩
          ·
            refine g_iload_n (pc' := 58) dX9_tryFrom_57 rfl rfl ?_
            refine g_bipushN (n := 6) (pc' := 60) dX9_tryFrom_58 rfl (by decide) ?_
            refine g_icmp_neN (tgt := 73) (pc' := 63) dX9_tryFrom_60 rfl (by decide) (by omega) (by omega) (fun c60 => ?_) (fun c60 => ?_)
            · exact absurd hs5 c60
            ·
              refine g_aload_n (pc' := 64) dX9_tryFrom_63 rfl rfl ?_
              refine g_iload_n (pc' := 65) dX9_tryFrom_64 rfl rfl ?_
              refine g_iload (pc' := 67) dX9_tryFrom_65 rfl rfl ?_
              refine g_iload (pc' := 69) dX9_tryFrom_67 rfl rfl ?_
              refine g_invV (pc' := 72) (cx_keepAll hok hs hg6 hs6 hS (by omega) hb2 hen hrw (hy.2.2.1 s hs6).2.1 (hy.2.2.1 s hs6).2.2) dX9_tryFrom_69 rfl rfl ck_10 rfl ml_X9_68 im_X9_keepAllFrom sl_X9_keepAllFrom in_X9 co_X9_keepAllFrom pd_X9_keepAllFrom rfl (by omega) (by decide) ⟨by decide, by decide⟩ (Nat.le_of_ble_eq_true rfl) ?_
              rintro _ h2 ⟨rfl, yb, en⟩ -
              refine g_vret dX9_tryFrom_72 rfl (by decide) (by decide) ?_
              have ef : wF_ g v s = 0 := by rw [hs5]; exact wF_6 g v
              have k1 : ¬ (B : Int) - W + e < (wx g v s S : Nat) := fun z => c5 (hL1.mpr z)
              have k2 := hL2.mp c30
              have k3 : (B : Int) - W - e ≤ (wx g v s S : Nat) := by omega
              have k4 : ¬ (B : Int) - W + e < (wx g v s S + wF_ g v s : Nat) := by omega
              exact ⟨rfl, yb, by rw [wg_keep hs6 hS (wg_in hs6 hS k3 (by omega))]; exact en⟩
      ·
        refine g_vret dX9_tryFrom_33 rfl (by decide) (by decide) ?_
        exact ⟨rfl, YB.rf s h, by rw [wg_pr2 hs6 hS (fun z => c30 (hL2.mpr z))]; exact hen⟩
set_option maxRecDepth 4000 in
theorem tw_node {E : En} (hok : EOK E) {g v : Nat → Nat} (hg6 : ∀ s, s < 6 → g s ≤ 6) (hv4 : ∀ s, s < 6 → v s ≤ 400) {B W e : Nat} {lo hi : Int32} (hl : lim B W e lo hi) {t k : Nat} (ht : t < 16) (hk8 : k < 8) {s a S : Nat} {b : WT} {h : Hp} (hs : Shp h.2) (hS : S = rx g s * a) (hSl : S + rx g s ≤ rx g 0) (hy : YS g v lo hi t k h) (hrw : rowW g s S h) (hen : encW g b h) (hb1 : b.1 ≤ S) (hb2 : b.2.2.2.1 ≤ 36) (hs5 : s < 6) (hL : ∀ (Q : Option V → Hp → Prop) (h0 : Hp), (∀ h2, YB s h h2 → encW g (fo (stW g v B W e) S (rx g s) b) h2 → Q none h2) → G E m_X9_tryFrom (6 - s + 2) 0 0 Q h0 76 [some (vR (9, 0)), some (vR (3, t)), some (vI (nI s)), some (vI (nI (wx g v s S))), some (vI (nI (nx g s S))), some (vI (sx g s S)), some (vI (nI 0)), none] [] h 0 0) : Call E m_X9_tryFrom (6 - s + 2) 0 0 [vR (9, 0), vR (3, t), vI (nI s), vI (nI (wx g v s S)), vI (nI (nx g s S)), vI (sx g s S)] h (fun r h' => r = none ∧ YB s h h' ∧ encW g (fo (stW g v B W e) S (rx g s) b) h') := by
  have hs6 : s ≤ 6 := by omega
  have hrx := rx_le hg6
  have hrm := rx_mono (g := g) hs6
  have hwl := wx_le hg6 hv4 hs6 S
  have hfl := wF_le hg6 hv4 s
  have hn36 := nx_le hg6 hs6 S
  have hL1 := lim_hi hl (show wx g v s S < 2 ^ 31 by omega)
  have hL2 := lim_lo hl (show wx g v s S + wF_ g v s < 2 ^ 31 by omega)
  have hL3 := lim_lo hl (show wx g v s S < 2 ^ 31 by omega)
  have hL4 := lim_hi hl (show wx g v s S + wF_ g v s < 2 ^ 31 by omega)
  refine Call.enter hok (by decide) (Nat.le_of_ble_eq_true rfl) ?_
  show G E m_X9_tryFrom (6 - s + 2) 0 0 _ h 0 [some (vR (9, 0)), some (vR (3, t)), some (vI (nI s)), some (vI (nI (wx g v s S))), some (vI (nI (nx g s S))), some (vI (sx g s S)), none, none] [] h 0 0
  refine g_iload_n (pc' := 1) dX9_tryFrom_0 rfl rfl ?_
  refine g_aload_n (pc' := 2) dX9_tryFrom_1 rfl rfl ?_
  refine g_getIv (v := hi) (pc' := 5) (k := 6) dX9_tryFrom_2 rfl rfl ck_10 (by decide) fl_X9_31 rfl (hy.2.1) ?_
  refine g_icmp_gt (tgt := 33) (pc' := 8) dX9_tryFrom_5 rfl (by decide) (fun c5 => ?_) (fun c5 => ?_)
  ·
    refine g_vret dX9_tryFrom_33 rfl (by decide) (by decide) ?_
    exact ⟨rfl, YB.rf s h, by rw [wg_pr1 hs6 hS (hL1.mp c5)]; exact hen⟩
  ·
    refine g_iload_n (pc' := 9) dX9_tryFrom_8 rfl rfl ?_
    refine g_iconstN (n := 0) (pc' := 10) dX9_tryFrom_9 rfl ?_
    refine g_bipushN (n := 6) (pc' := 12) dX9_tryFrom_10 rfl (by decide) ?_
    refine g_invSN (pc' := 15) (cx_within hok _ _ _) dX9_tryFrom_12 rfl nn_X9_64 st_X11_within in_X11 co_X11_within pd_X11_within rfl (by omega) (by decide) ⟨by decide, by decide⟩ (Nat.le_of_ble_eq_true rfl) ?_
    rintro _ _ ⟨rfl, rfl⟩ -
    refine g_ifB_eq (tgt := 33) (pc' := 18) dX9_tryFrom_15 rfl (by decide) (fun c15 => ?_) (fun c15 => ?_)
    · exact absurd ⟨nI_le (Nat.zero_le _) (by omega), nI_le (show s ≤ 6 by omega) (by omega)⟩ c15
    ·
      refine g_iload_n (pc' := 19) dX9_tryFrom_18 rfl rfl ?_
      refine g_aload_n (pc' := 20) dX9_tryFrom_19 rfl rfl ?_
      refine g_getS (pc' := 23) (k := 2) (b := (46, 0)) dX9_tryFrom_20 rfl rfl ck_10 (by decide) fl_X9_18 rfl hs rfl ?_
      refine g_iload_n (pc' := 24) dX9_tryFrom_23 rfl rfl ?_
      refine g_ialdN (pc' := 25) (v := nI (wF_ g v s)) dX9_tryFrom_24 rfl rfl (by decide) (by omega) ((hy.2.2.1 s hs6).1) ?_
      refine g_iaddN (pc' := 26) dX9_tryFrom_25 rfl ?_
      refine g_aload_n (pc' := 27) dX9_tryFrom_26 rfl rfl ?_
      refine g_getIv (v := lo) (pc' := 30) (k := 5) dX9_tryFrom_27 rfl rfl ck_10 (by decide) fl_X9_27 rfl (hy.1) ?_
      refine g_icmp_ge (tgt := 34) (pc' := 33) dX9_tryFrom_30 rfl (by decide) (fun c30 => ?_) (fun c30 => ?_)
      ·
        refine g_iload_n (pc' := 35) dX9_tryFrom_34 rfl rfl ?_
        refine g_aload_n (pc' := 36) dX9_tryFrom_35 rfl rfl ?_
        refine g_getIv (v := lo) (pc' := 39) (k := 5) dX9_tryFrom_36 rfl rfl ck_10 (by decide) fl_X9_27 rfl (hy.1) ?_
        refine g_icmp_lt (tgt := 57) (pc' := 42) dX9_tryFrom_39 rfl (by decide) (fun c39 => ?_) (fun c39 => ?_)
        ·
          refine g_iload_n (pc' := 58) dX9_tryFrom_57 rfl rfl ?_
          refine g_bipushN (n := 6) (pc' := 60) dX9_tryFrom_58 rfl (by decide) ?_
          refine g_icmp_neN (tgt := 73) (pc' := 63) dX9_tryFrom_60 rfl (by decide) (by omega) (by omega) (fun c60 => ?_) (fun c60 => ?_)
          ·
            refine g_iconstN (n := 0) (pc' := 74) dX9_tryFrom_73 rfl ?_
            refine g_istore (pc' := 76) dX9_tryFrom_74 rfl (by decide) rfl ?_
            try simp only [List.set]
            exact hL _ _ (fun h2 z2 e2 => ⟨rfl, z2, e2⟩)
          · exact absurd c60 (by omega)
        ·
          refine g_iload_n (pc' := 43) dX9_tryFrom_42 rfl rfl ?_
          refine g_aload_n (pc' := 44) dX9_tryFrom_43 rfl rfl ?_
          refine g_getS (pc' := 47) (k := 2) (b := (46, 0)) dX9_tryFrom_44 rfl rfl ck_10 (by decide) fl_X9_18 rfl hs rfl ?_
          refine g_iload_n (pc' := 48) dX9_tryFrom_47 rfl rfl ?_
          refine g_ialdN (pc' := 49) (v := nI (wF_ g v s)) dX9_tryFrom_48 rfl rfl (by decide) (by omega) ((hy.2.2.1 s hs6).1) ?_
          refine g_iaddN (pc' := 50) dX9_tryFrom_49 rfl ?_
          refine g_aload_n (pc' := 51) dX9_tryFrom_50 rfl rfl ?_
          refine g_getIv (v := hi) (pc' := 54) (k := 6) dX9_tryFrom_51 rfl rfl ck_10 (by decide) fl_X9_31 rfl (hy.2.1) ?_
          refine g_icmp_le (tgt := 63) (pc' := 57) dX9_tryFrom_54 rfl (by decide) (fun c54 => ?_) (fun c54 => ?_)
          ·
            refine g_aload_n (pc' := 64) dX9_tryFrom_63 rfl rfl ?_
            refine g_iload_n (pc' := 65) dX9_tryFrom_64 rfl rfl ?_
            refine g_iload (pc' := 67) dX9_tryFrom_65 rfl rfl ?_
            refine g_iload (pc' := 69) dX9_tryFrom_67 rfl rfl ?_
            refine g_invV (pc' := 72) (cx_keepAll hok hs hg6 hs6 hS (by omega) hb2 hen hrw (hy.2.2.1 s hs6).2.1 (hy.2.2.1 s hs6).2.2) dX9_tryFrom_69 rfl rfl ck_10 rfl ml_X9_68 im_X9_keepAllFrom sl_X9_keepAllFrom in_X9 co_X9_keepAllFrom pd_X9_keepAllFrom rfl (by omega) (by decide) ⟨by decide, by decide⟩ (Nat.le_of_ble_eq_true rfl) ?_
            rintro _ h2 ⟨rfl, yb, en⟩ -
            refine g_vret dX9_tryFrom_72 rfl (by decide) (by decide) ?_
            have k1 : ¬ (B : Int) - W + e < (wx g v s S : Nat) := fun z => c5 (hL1.mpr z)
            have k2 := hL2.mp c30
            have k3 : (B : Int) - W - e ≤ (wx g v s S : Nat) := hL3.mp (Int32.not_lt.mp c39)
            have k4 : ¬ (B : Int) - W + e < (wx g v s S + wF_ g v s : Nat) := fun z => (Int32.not_lt.mpr c54) (hL4.mpr z)
            exact ⟨rfl, yb, by rw [wg_keep hs6 hS (wg_in hs6 hS k3 (by omega))]; exact en⟩
          ·
            refine g_iload_n (pc' := 58) dX9_tryFrom_57 rfl rfl ?_
            refine g_bipushN (n := 6) (pc' := 60) dX9_tryFrom_58 rfl (by decide) ?_
            refine g_icmp_neN (tgt := 73) (pc' := 63) dX9_tryFrom_60 rfl (by decide) (by omega) (by omega) (fun c60 => ?_) (fun c60 => ?_)
            ·
              refine g_iconstN (n := 0) (pc' := 74) dX9_tryFrom_73 rfl ?_
              refine g_istore (pc' := 76) dX9_tryFrom_74 rfl (by decide) rfl ?_
              try simp only [List.set]
              exact hL _ _ (fun h2 z2 e2 => ⟨rfl, z2, e2⟩)
            · exact absurd c60 (by omega)
      ·
        refine g_vret dX9_tryFrom_33 rfl (by decide) (by decide) ?_
        exact ⟨rfl, YB.rf s h, by rw [wg_pr2 hs6 hS (fun z => c30 (hL2.mpr z))]; exact hen⟩
set_option maxRecDepth 4000 in
theorem tw_loop {E : En} (hok : EOK E) {g v : Nat → Nat} (hg6 : ∀ s, s < 6 → g s ≤ 6) (hv4 : ∀ s, s < 6 → v s ≤ 400) {B W e : Nat} {lo hi : Int32} (hl : lim B W e lo hi) {t k : Nat} (ht : t < 16) (hk8 : k < 8) {s a S : Nat} (hs5 : s < 6) {b : WT} (hS : S = rx g s * a) (hSl : S + rx g s ≤ rx g 0) (hb1 : b.1 ≤ S) (hb2 : b.2.2.2.1 ≤ 36) {h : Hp} (hr0 : rowW g s S h) (ih0 : ∀ (a S : Nat) (h : Hp) (b : WT), Shp h.2 → S = rx g (s + 1) * a → S + rx g (s + 1) ≤ rx g 0 → YS g v lo hi t k h → rowW g (s + 1) S h → encW g b h → b.1 ≤ S → b.2.2.2.1 ≤ 36 → Call E m_X9_tryFrom (6 - (s + 1) + 2) 0 0 [vR (9, 0), vR (3, t), vI (nI (s + 1)), vI (nI (wx g v (s + 1) S)), vI (nI (nx g (s + 1) S)), vI (sx g (s + 1) S)] h (fun r h' => r = none ∧ YB (s + 1) h h' ∧ encW g (fo (stW g v B W e) S (rx g (s + 1)) b) h')) : ∀ c n (h1 : Hp), n ≤ g s + 1 → g s + 1 - n = c → Shp h1.2 → YB s h h1 → YS g v lo hi t k h1 → encW g (fo (stW g v B W e) S (n * rx g (s + 1)) b) h1 → ∀ (Q : Option V → Hp → Prop) (h0 : Hp), (∀ h2, YB s h1 h2 → encW g (fo (stW g v B W e) S (rx g s) b) h2 → Q none h2) → G E m_X9_tryFrom (6 - s + 2) 0 0 Q h0 76 [some (vR (9, 0)), some (vR (3, t)), some (vI (nI s)), some (vI (nI (wx g v s S))), some (vI (nI (nx g s S))), some (vI (sx g s S)), some (vI (nI n)), none] [] h1 0 0 := by
  have hs6 : s ≤ 6 := by omega
  have hrx := rx_le hg6
  have hrm := rx_mono (g := g) hs6
  have hwl := wx_le hg6 hv4 hs6 S
  have hfl := wF_le hg6 hv4 s
  have hn36 := nx_le hg6 hs6 S
  have hgs := hg6 s hs5
  have hvs := hv4 s hs5
  have hrs := rx_s g hs5
  have hrp := rx_pos g (s + 1)
  intro c
  induction c with
  | zero =>
    intro n h1 hn hc hs yb hy he Q h0 hQ
    refine g_iload (pc' := 78) dX9_tryFrom_76 rfl rfl ?_
    refine g_aload_n (pc' := 79) dX9_tryFrom_78 rfl rfl ?_
    refine g_getS (pc' := 82) (k := 3) (b := (26, t)) dX9_tryFrom_79 rfl rfl ck_9 (by decide) fl_X9_46 rfl hs rfl ?_
    refine g_iload_n (pc' := 83) dX9_tryFrom_82 rfl rfl ?_
    refine g_ialdN (pc' := 84) (v := nI (g s)) dX9_tryFrom_83 rfl rfl (by decide) (by omega) ((hy.2.2.2.1 s hs5).1) ?_
    refine g_icmp_gtN (tgt := 148) (pc' := 87) dX9_tryFrom_84 rfl (by decide) (by omega) (by omega) (fun c84 => ?_) (fun c84 => ?_)
    ·
      refine g_vret dX9_tryFrom_148 rfl (by decide) (by decide) ?_
      have e : n = g s + 1 := by omega
      subst e
      refine hQ h1 (YB.rf s h1) ?_
      rw [hrs]
      exact he
    · exact absurd c84 (by omega)
  | succ c ih =>
    intro n h1 hn hc hs yb hy he Q h0 hQ
    have n3 : n ≤ g s := by omega
    have hnv : n * v s ≤ 6 * 400 := Nat.mul_le_mul (by omega) hvs
    have hnq : n * rx g (s + 1) + rx g (s + 1) ≤ rx g s := by
      rw [hrs, Nat.add_mul, Nat.one_mul]
      exact Nat.add_le_add_right (Nat.mul_le_mul_right _ n3) _
    have hbn := fo_bdW (v := v) (B := B) (W := W) (e := e) (S := S) hg6 ⟨hb1, hb2⟩ (n * rx g (s + 1))
    have fs : fo (stW g v B W e) S ((n + 1) * rx g (s + 1)) b = fo (stW g v B W e) (S + n * rx g (s + 1)) (rx g (s + 1)) (fo (stW g v B W e) S (n * rx g (s + 1)) b) := by rw [Nat.add_mul, Nat.one_mul, fo_add]
    have yr : YB s h1 (wI h1 (44, 0) s (nI n)) := (YB.rf s h1).row
    refine g_iload (pc' := 78) dX9_tryFrom_76 rfl rfl ?_
    refine g_aload_n (pc' := 79) dX9_tryFrom_78 rfl rfl ?_
    refine g_getS (pc' := 82) (k := 3) (b := (26, t)) dX9_tryFrom_79 rfl rfl ck_9 (by decide) fl_X9_46 rfl hs rfl ?_
    refine g_iload_n (pc' := 83) dX9_tryFrom_82 rfl rfl ?_
    refine g_ialdN (pc' := 84) (v := nI (g s)) dX9_tryFrom_83 rfl rfl (by decide) (by omega) ((hy.2.2.2.1 s hs5).1) ?_
    refine g_icmp_gtN (tgt := 148) (pc' := 87) dX9_tryFrom_84 rfl (by decide) (by omega) (by omega) (fun c84 => ?_) (fun c84 => ?_)
    · exact absurd c84 (by omega)
    ·
      refine g_aload_n (pc' := 88) dX9_tryFrom_87 rfl rfl ?_
      refine g_getS (pc' := 91) (k := 0) (b := (44, 0)) dX9_tryFrom_88 rfl rfl ck_10 (by decide) fl_X9_9 rfl hs rfl ?_
      refine g_iload_n (pc' := 92) dX9_tryFrom_91 rfl rfl ?_
      refine g_iload (pc' := 94) dX9_tryFrom_92 rfl rfl ?_
      refine g_iastN (pc' := 95) dX9_tryFrom_94 rfl rfl (by decide) (by omega) ?_
      refine g_iload (pc' := 97) dX9_tryFrom_95 rfl rfl ?_
      refine g_if_neN (tgt := 105) (pc' := 100) dX9_tryFrom_97 rfl (by decide) (by omega) (fun c97 => ?_) (fun c97 => ?_)
      ·
        refine g_iload (pc' := 107) dX9_tryFrom_105 rfl rfl ?_
        refine g_iconst (v := 1) (pc' := 108) dX9_tryFrom_107 rfl (by decide) ?_
        refine g_iload_n (pc' := 109) dX9_tryFrom_108 rfl rfl ?_
        refine g_ishl (pc' := 110) dX9_tryFrom_109 rfl ?_
        refine g_ior (pc' := 111) dX9_tryFrom_110 rfl ?_
        rw [show sx g s S ||| (1 : Int32) <<< (nI s &&& 31) = sx g (s + 1) (S + n * rx g (s + 1)) from ((cw_x hs5 n3 hS).trans (cif_f c97)).symm]
        refine g_istore (pc' := 113) dX9_tryFrom_111 rfl (by decide) rfl ?_
        try simp only [List.set]
        refine g_aload_n (pc' := 114) dX9_tryFrom_113 rfl rfl ?_
        refine g_aload_n (pc' := 115) dX9_tryFrom_114 rfl rfl ?_
        refine g_iload_n (pc' := 116) dX9_tryFrom_115 rfl rfl ?_
        refine g_iconstN (n := 1) (pc' := 117) dX9_tryFrom_116 rfl ?_
        refine g_iaddN (pc' := 118) dX9_tryFrom_117 rfl ?_
        refine g_iload_n (pc' := 119) dX9_tryFrom_118 rfl rfl ?_
        refine g_iload (pc' := 121) dX9_tryFrom_119 rfl rfl ?_
        refine g_aload_n (pc' := 122) dX9_tryFrom_121 rfl rfl ?_
        refine g_getR (pc' := 125) (k := 1) (r := some (2, k)) dX9_tryFrom_122 rfl rfl ck_9 (by decide) fl_X9_51 rfl (hy.2.2.2.2) ?_
        refine g_getS (pc' := 128) (k := 7) (b := (25, k)) dX9_tryFrom_125 rfl rfl ck_3 (by decide) fl_X9_55 rfl hs rfl ?_
        refine g_iload_n (pc' := 129) dX9_tryFrom_128 rfl rfl ?_
        refine g_ialdN (pc' := 130) (v := nI (v s)) dX9_tryFrom_129 rfl rfl (by decide) (by omega) ((hy.2.2.2.1 s hs5).2) ?_
        refine g_imulN (pc' := 131) dX9_tryFrom_130 rfl ?_
        refine g_iaddN (pc' := 132) dX9_tryFrom_131 rfl ?_
        refine g_iload (pc' := 134) dX9_tryFrom_132 rfl rfl ?_
        refine g_iload (pc' := 136) dX9_tryFrom_134 rfl rfl ?_
        refine g_iaddN (pc' := 137) dX9_tryFrom_136 rfl ?_
        refine g_iload (pc' := 139) dX9_tryFrom_137 rfl rfl ?_
        rw [← cw_w hs5 n3 hS, ← cw_n hs5 n3 hS]
        refine g_invV (pc' := 142) (ih0 ((g s + 1) * a + n) (S + n * rx g (s + 1)) _ (fo (stW g v B W e) S (n * rx g (s + 1)) b) (by exact hs) (cw_S hs5 hS) (by omega) (hy.yb yr) (cw_row hs5 n3 hS (hr0.yb (yb.tr yr)) (by simp [wI_at])) he hbn.1 hbn.2) dX9_tryFrom_139 rfl rfl ck_10 rfl ml_X9_60 im_X9_tryFrom sl_X9_tryFrom in_X9 co_X9_tryFrom pd_X9_tryFrom rfl (by omega) (by decide) ⟨by decide, by decide⟩ (Nat.le_of_ble_eq_true rfl) ?_
        rintro _ h2 ⟨rfl, y2, e2⟩ -
        refine g_iincN (k := 1) (pc' := 145) dX9_tryFrom_142 rfl rfl (by decide) rfl ?_
        try simp only [List.set]
        refine g_goto (tgt := 76) dX9_tryFrom_145 (by decide) ?_
        refine G.drop 7 ?_
        simp only [List.set]
        refine ih (n + 1) h2 (by omega) (by omega) (by rw [y2.1]; exact hs) (yb.tr (yr.tr (y2.dn (Nat.le_succ s)))) (hy.yb (yr.tr (y2.dn (Nat.le_succ s)))) ?_ Q h0 (fun h3 z3 e3 => hQ h3 ((yr.tr (y2.dn (Nat.le_succ s))).tr z3) e3)
        rw [fs]
        exact e2
      ·
        refine g_iload (pc' := 102) dX9_tryFrom_100 rfl rfl ?_
        refine g_goto (tgt := 111) dX9_tryFrom_102 (by decide) ?_
        rw [show sx g s S = sx g (s + 1) (S + n * rx g (s + 1)) from (cw_x hs5 n3 hS).trans (cif_t c97) |>.symm]
        refine g_istore (pc' := 113) dX9_tryFrom_111 rfl (by decide) rfl ?_
        try simp only [List.set]
        refine g_aload_n (pc' := 114) dX9_tryFrom_113 rfl rfl ?_
        refine g_aload_n (pc' := 115) dX9_tryFrom_114 rfl rfl ?_
        refine g_iload_n (pc' := 116) dX9_tryFrom_115 rfl rfl ?_
        refine g_iconstN (n := 1) (pc' := 117) dX9_tryFrom_116 rfl ?_
        refine g_iaddN (pc' := 118) dX9_tryFrom_117 rfl ?_
        refine g_iload_n (pc' := 119) dX9_tryFrom_118 rfl rfl ?_
        refine g_iload (pc' := 121) dX9_tryFrom_119 rfl rfl ?_
        refine g_aload_n (pc' := 122) dX9_tryFrom_121 rfl rfl ?_
        refine g_getR (pc' := 125) (k := 1) (r := some (2, k)) dX9_tryFrom_122 rfl rfl ck_9 (by decide) fl_X9_51 rfl (hy.2.2.2.2) ?_
        refine g_getS (pc' := 128) (k := 7) (b := (25, k)) dX9_tryFrom_125 rfl rfl ck_3 (by decide) fl_X9_55 rfl hs rfl ?_
        refine g_iload_n (pc' := 129) dX9_tryFrom_128 rfl rfl ?_
        refine g_ialdN (pc' := 130) (v := nI (v s)) dX9_tryFrom_129 rfl rfl (by decide) (by omega) ((hy.2.2.2.1 s hs5).2) ?_
        refine g_imulN (pc' := 131) dX9_tryFrom_130 rfl ?_
        refine g_iaddN (pc' := 132) dX9_tryFrom_131 rfl ?_
        refine g_iload (pc' := 134) dX9_tryFrom_132 rfl rfl ?_
        refine g_iload (pc' := 136) dX9_tryFrom_134 rfl rfl ?_
        refine g_iaddN (pc' := 137) dX9_tryFrom_136 rfl ?_
        refine g_iload (pc' := 139) dX9_tryFrom_137 rfl rfl ?_
        rw [← cw_w hs5 n3 hS, ← cw_n hs5 n3 hS]
        refine g_invV (pc' := 142) (ih0 ((g s + 1) * a + n) (S + n * rx g (s + 1)) _ (fo (stW g v B W e) S (n * rx g (s + 1)) b) (by exact hs) (cw_S hs5 hS) (by omega) (hy.yb yr) (cw_row hs5 n3 hS (hr0.yb (yb.tr yr)) (by simp [wI_at])) he hbn.1 hbn.2) dX9_tryFrom_139 rfl rfl ck_10 rfl ml_X9_60 im_X9_tryFrom sl_X9_tryFrom in_X9 co_X9_tryFrom pd_X9_tryFrom rfl (by omega) (by decide) ⟨by decide, by decide⟩ (Nat.le_of_ble_eq_true rfl) ?_
        rintro _ h2 ⟨rfl, y2, e2⟩ -
        refine g_iincN (k := 1) (pc' := 145) dX9_tryFrom_142 rfl rfl (by decide) rfl ?_
        try simp only [List.set]
        refine g_goto (tgt := 76) dX9_tryFrom_145 (by decide) ?_
        refine G.drop 7 ?_
        simp only [List.set]
        rw [show sx g (s + 1) (S + n * rx g (s + 1)) = sx g s S from (cw_x hs5 n3 hS).trans (cif_t c97)]
        refine ih (n + 1) h2 (by omega) (by omega) (by rw [y2.1]; exact hs) (yb.tr (yr.tr (y2.dn (Nat.le_succ s)))) (hy.yb (yr.tr (y2.dn (Nat.le_succ s)))) ?_ Q h0 (fun h3 z3 e3 => hQ h3 ((yr.tr (y2.dn (Nat.le_succ s))).tr z3) e3)
        rw [fs]
        exact e2
theorem tw_all {E : En} (hok : EOK E) {g v : Nat → Nat} (hg6 : ∀ s, s < 6 → g s ≤ 6) (hv4 : ∀ s, s < 6 → v s ≤ 400) {B W e : Nat} {lo hi : Int32} (hl : lim B W e lo hi) {t k : Nat} (ht : t < 16) (hk8 : k < 8) : ∀ (r s : Nat), s ≤ 6 → 6 - s = r → ∀ (a S : Nat) (h : Hp) (b : WT), Shp h.2 → S = rx g s * a → S + rx g s ≤ rx g 0 → YS g v lo hi t k h → rowW g s S h → encW g b h → b.1 ≤ S → b.2.2.2.1 ≤ 36 → Call E m_X9_tryFrom (6 - s + 2) 0 0 [vR (9, 0), vR (3, t), vI (nI s), vI (nI (wx g v s S)), vI (nI (nx g s S)), vI (sx g s S)] h (fun r h' => r = none ∧ YB s h h' ∧ encW g (fo (stW g v B W e) S (rx g s) b) h')
  | 0, s, hs6, hr => fun a S h b hs hS hSl hy hrw hen hb1 hb2 => tw_leaf hok hg6 hv4 hl ht hk8 hs hS hSl hy hrw hen hb1 hb2 (by omega)
  | r + 1, s, hs6, hr => fun a S h b hs hS hSl hy hrw hen hb1 hb2 => by
    have ih := tw_all hok hg6 hv4 hl ht hk8 r (s + 1) (by omega) (by omega)
    refine tw_node hok hg6 hv4 hl ht hk8 hs hS hSl hy hrw hen hb1 hb2 (by omega) (fun Q h0 hQ => ?_)
    exact tw_loop hok hg6 hv4 hl ht hk8 (by omega) hS hSl hb1 hb2 hrw ih _ 0 h (by omega) rfl hs (YB.rf s h) hy (by rw [Nat.zero_mul]; exact hen) Q h0 hQ
