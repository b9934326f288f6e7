theorem i32_sub {x : Int32} {n : Nat} (h1 : -1000000 ≤ x.toInt) (h2 : x.toInt ≤ 1000000) (hn : n ≤ 1000000) : (x - nI n).toInt = x.toInt - n := by
  rw [Int32.toInt_sub, nI_toInt (by omega)]
  exact Int.bmod_eq_of_le (by omega) (by omega)
theorem i32_add {x : Int32} {n : Nat} (h1 : -1000000 ≤ x.toInt) (h2 : x.toInt ≤ 1000000) (hn : n ≤ 1000000) : (x + nI n).toInt = x.toInt + n := by
  rw [Int32.toInt_add, nI_toInt (by omega)]
  exact Int.bmod_eq_of_le (by omega) (by omega)
theorem lim_of {B W e : Nat} (hB : B ≤ 16400) (hW : W ≤ 200000) (he : e ≤ 2000) : lim B W e (nI B - nI W - nI e) (nI B - nI W + nI e) := by
  have e1 : (nI B - nI W).toInt = (B : Int) - W := pk_sub_toInt (by omega) (by omega)
  exact ⟨by rw [i32_sub (by omega) (by omega) (by omega), e1], by rw [i32_add (by omega) (by omega) (by omega), e1]⟩
theorem soF_s {g : Nat → Nat} {s : Nat} (hs : s < 6) : soF g s = cif (g s = 0) (soF g (s + 1)) (soF g (s + 1) ||| ((1 : Int32) <<< (nI s &&& 31))) := by
  refine bt_ext fun j hj => ?_
  rw [Bool.eq_iff_iff, bt_soF]
  by_cases z : g s = 0
  · rw [cif_t z, bt_soF]
    constructor
    · rintro ⟨a, b, c⟩
      exact ⟨a, Nat.lt_of_le_of_ne b (fun y => by rw [← y] at c; omega), c⟩
    · rintro ⟨a, b, c⟩
      exact ⟨a, by omega, c⟩
  · rw [cif_f z, bt_or, Bool.or_eq_true, bt_soF, bt_one (by omega), decide_eq_true_eq]
    constructor
    · rintro ⟨a, b, c⟩
      by_cases y : j = s
      · exact Or.inr (by omega)
      · exact Or.inl ⟨a, by omega, c⟩
    · rintro (⟨a, b, c⟩ | y)
      · exact ⟨a, by omega, c⟩
      · subst y; exact ⟨hs, Nat.le_refl _, by omega⟩
theorem soF_6 (g : Nat → Nat) : soF g 6 = 0 := by
  refine bt_ext fun j hj => ?_
  rw [Bool.eq_iff_iff, bt_soF]
  constructor
  · rintro ⟨a, b, c⟩; omega
  · intro z; rw [bt_0] at z; cases z
/-- the rows laid down to k -/
def YF (g v : Nat → Nat) (k : Nat) (h h' : Hp) : Prop := h'.2 = h.2 ∧ (∀ q : Ad, q ≠ (46, 0) → q ≠ (47, 0) → q ≠ (48, 0) → h'.1 q = h.1 q) ∧ ∀ j, k ≤ j → j ≤ 6 → h'.1 (46, 0) j = nI (wF_ g v j) ∧ h'.1 (47, 0) j = nI (rx g j) ∧ h'.1 (48, 0) j = soF g j
theorem YF_s {g v : Nat → Nat} {k : Nat} {h h' : Hp} (hk : k < 6) (y : YF g v (k + 1) h h') {x1 x2 x3 : Int32} (e1 : x1 = nI (wF_ g v k)) (e2 : x2 = nI (rx g k)) (e3 : x3 = soF g k) : YF g v k h (wI (wI (wI h' (46, 0) k x1) (47, 0) k x2) (48, 0) k x3) := by
  refine ⟨y.1, fun q z1 z2 z3 => ?_, fun j h2 h3 => ?_⟩
  · rw [wI_off _ _ _ _ q z3, wI_off _ _ _ _ q z2, wI_off _ _ _ _ q z1]; exact y.2.1 q z1 z2 z3
  · have a1 : (wI (wI (wI h' (46, 0) k x1) (47, 0) k x2) (48, 0) k x3).1 (46, 0) j = (wI h' (46, 0) k x1).1 (46, 0) j := rfl
    have a2 : (wI (wI (wI h' (46, 0) k x1) (47, 0) k x2) (48, 0) k x3).1 (47, 0) j = (wI h' (47, 0) k x2).1 (47, 0) j := rfl
    have a3 : (wI (wI (wI h' (46, 0) k x1) (47, 0) k x2) (48, 0) k x3).1 (48, 0) j = (wI h' (48, 0) k x3).1 (48, 0) j := rfl
    rw [a1, a2, a3, wI_at, wI_at, wI_at]
    by_cases w : j = k
    · subst w
      rw [if_pos ⟨rfl, rfl⟩, if_pos ⟨rfl, rfl⟩, if_pos ⟨rfl, rfl⟩]
      exact ⟨e1, e2, e3⟩
    · rw [if_neg (fun q => w q.2), if_neg (fun q => w q.2), if_neg (fun q => w q.2)]
      exact y.2.2 j (by omega) h3
set_option maxRecDepth 4000 in
theorem lx_wgsearch {E : En} (hok : EOK E) {h h0 : Hp} (hs0 : Shp h.2) {g v : Nat → Nat} (hg6 : ∀ s, s < 6 → g s ≤ 6) (hv4 : ∀ s, s < 6 → v s ≤ 400) {B W e : Nat} {t k : Nat} (ht : t < 16) (hk8 : k < 8) {lo hi : Int32} (hl : lim B W e lo hi) (h5 : h.1 (9, 0) 5 = lo) (h6 : h.1 (9, 0) 6 = hi) (hen : encW g (0, 0, 0, 0, 0) h) (htc : (∀ s, s < 6 → h.1 (26, t) s = nI (g s) ∧ h.1 (25, k) s = nI (v s)) ∧ h.2.1 (3, t) 1 = some (2, k)) (p2 p3 : Int32) (k13 : C13 h) {Q : Option V → Hp → Prop} (hQ : ∀ h1, Sc h h1 → C13 h1 → encW g (wgF g v B W e (rx g 0)) h1 → Q none h1) : ∀ i (h1 : Hp), i ≤ 6 → YF g v i h h1 → G E m_X9_search 9 0 0 Q h0 37 [some (vR (9, 0)), some (vR (3, t)), some (vI p2), some (vI p3), some (vI (nI i - nI 1)), none] [] h1 0 0 := by
  intro i
  induction i with
  | zero =>
    intro h1 hi6 yf
    have hs : Shp h1.2 := by rw [yf.1]; exact hs0
    have e9 := yf.2.1 (9, 0) (by decide) (by decide) (by decide)
    have e26 := yf.2.1 (26, t) (ad_ne (show (26 : Nat) ≠ 46 by decide)) (ad_ne (show (26 : Nat) ≠ 47 by decide)) (ad_ne (show (26 : Nat) ≠ 48 by decide))
    have e25 := yf.2.1 (25, k) (ad_ne (show (25 : Nat) ≠ 46 by decide)) (ad_ne (show (25 : Nat) ≠ 47 by decide)) (ad_ne (show (25 : Nat) ≠ 48 by decide))
    have ys : YS g v lo hi t k h1 := ⟨by rw [e9]; exact h5, by rw [e9]; exact h6, fun s hs => yf.2.2 s (Nat.zero_le _) hs, by rw [e26, e25]; exact htc.1, by rw [yf.1]; exact htc.2⟩
    have en1 : encW g (0, 0, 0, 0, 0) h1 := by
      unfold encW at *
      rw [e9, yf.2.1 (45, 0) (by decide) (by decide) (by decide)]
      exact hen
    have q := tw_all hok hg6 hv4 hl ht hk8 6 0 (Nat.zero_le _) rfl 0 0 h1 (0, 0, 0, 0, 0) hs rfl (by omega) ys (fun j hj => absurd hj (Nat.not_lt_zero j)) en1 (Nat.le_refl _) (Nat.zero_le _)
    have q : Call E m_X9_tryFrom 8 0 0 [vR (9, 0), vR (3, t), vI (nI 0), vI (nI 0), vI (nI 0), vI (nI 0)] h1 (fun r h' => r = none ∧ YB 0 h1 h' ∧ encW g (wgF g v B W e (rx g 0)) h') := q
    refine g_iload (pc' := 39) dX9_search_37 rfl rfl ?_
    refine g_if_lt (tgt := 146) (pc' := 42) dX9_search_39 rfl (by decide) (fun c39 => ?_) (fun c39 => ?_)
    ·
      refine g_aload_n (pc' := 147) dX9_search_146 rfl rfl ?_
      refine g_aload_n (pc' := 148) dX9_search_147 rfl rfl ?_
      refine g_iconstN (n := 0) (pc' := 149) dX9_search_148 rfl ?_
      refine g_iconstN (n := 0) (pc' := 150) dX9_search_149 rfl ?_
      refine g_iconstN (n := 0) (pc' := 151) dX9_search_150 rfl ?_
      refine g_iconstN (n := 0) (pc' := 152) dX9_search_151 rfl ?_
      refine g_invV (pc' := 155) (q) dX9_search_152 rfl rfl ck_10 rfl ml_X9_60 im_X9_tryFrom sl_X9_tryFrom in_X9 co_X9_tryFrom pd_X9_tryFrom rfl (by omega) (by decide) ⟨by decide, by decide⟩ (Nat.le_of_ble_eq_true rfl) ?_
      rintro _ h2 ⟨rfl, yb, en⟩ -
      refine g_vret dX9_search_155 rfl (by decide) (by decide) ?_
      have sc1 : Sc h h1 := ⟨yf.1, fun b z => yf.2.1 b (fun y => by rw [y] at z; cases z) (fun y => by rw [y] at z; cases z) (fun y => by rw [y] at z; cases z)⟩
      have sc2 : Sc h1 h2 := ⟨yb.1, fun b z => yb.2.1 b (fun y => by rw [y] at z; cases z) (fun y => by rw [y] at z; cases z) (fun y => by rw [y] at z; cases z)⟩
      refine hQ h2 (sc1.tr sc2) ?_ en
      have y6 := yf.2.2 6 (by omega) (Nat.le_refl 6)
      rw [wF_6, rx_6, soF_6] at y6
      unfold C13 at *
      rw [yb.1, yf.1, yb.2.1 (46, 0) (by decide) (by decide) (by decide), yb.2.1 (47, 0) (by decide) (by decide) (by decide), yb.2.1 (48, 0) (by decide) (by decide) (by decide), yb.2.1 (58, 0) (by decide) (by decide) (by decide), yf.2.1 (58, 0) (by decide) (by decide) (by decide)]
      exact ⟨y6.1, y6.2.1, y6.2.2, k13.2.2.2⟩
    · exact absurd (by decide) c39
  | succ i ih =>
    intro h1 hi6 yf
    have hs : Shp h1.2 := by rw [yf.1]; exact hs0
    have e9 := yf.2.1 (9, 0) (by decide) (by decide) (by decide)
    have e26 := yf.2.1 (26, t) (ad_ne (show (26 : Nat) ≠ 46 by decide)) (ad_ne (show (26 : Nat) ≠ 47 by decide)) (ad_ne (show (26 : Nat) ≠ 48 by decide))
    have e25 := yf.2.1 (25, k) (ad_ne (show (25 : Nat) ≠ 46 by decide)) (ad_ne (show (25 : Nat) ≠ 47 by decide)) (ad_ne (show (25 : Nat) ≠ 48 by decide))
    have e1 : nI (i + 1) - nI 1 = nI i := nI_pred i
    rw [e1]
    have hi5 : i < 6 := hi6
    have hgi := hg6 i hi5
    have hvi := hv4 i hi5
    have hfl := wF_le hg6 hv4 (i + 1)
    have hrl := Nat.le_trans (rx_mono (g := g) (s := i + 1) (by omega)) (rx_le hg6)
    have hy := yf.2.2 (i + 1) (Nat.le_refl _) (by omega)
    refine g_iload (pc' := 39) dX9_search_37 rfl rfl ?_
    refine g_if_lt (tgt := 146) (pc' := 42) dX9_search_39 rfl (by decide) (fun c39 => ?_) (fun c39 => ?_)
    · exact absurd c39 (nI_pos (by omega))
    ·
      refine g_aload_n (pc' := 43) dX9_search_42 rfl rfl ?_
      refine g_getS (pc' := 46) (k := 3) (b := (26, t)) dX9_search_43 rfl rfl ck_9 (by decide) fl_X9_46 rfl hs rfl ?_
      refine g_iload (pc' := 48) dX9_search_46 rfl rfl ?_
      refine g_ialdN (pc' := 49) (v := nI (g i)) dX9_search_48 rfl rfl (by decide) (by omega) (by rw [e26]; exact (htc.1 i hi5).1) ?_
      refine g_istore (pc' := 51) dX9_search_49 rfl (by decide) rfl ?_
      try simp only [List.set]
      refine g_aload_n (pc' := 52) dX9_search_51 rfl rfl ?_
      refine g_getS (pc' := 55) (k := 2) (b := (46, 0)) dX9_search_52 rfl rfl ck_10 (by decide) fl_X9_18 rfl hs rfl ?_
      refine g_iload (pc' := 57) dX9_search_55 rfl rfl ?_
      refine g_aload_n (pc' := 58) dX9_search_57 rfl rfl ?_
      refine g_getS (pc' := 61) (k := 2) (b := (46, 0)) dX9_search_58 rfl rfl ck_10 (by decide) fl_X9_18 rfl hs rfl ?_
      refine g_iload (pc' := 63) dX9_search_61 rfl rfl ?_
      refine g_iconstN (n := 1) (pc' := 64) dX9_search_63 rfl ?_
      refine g_iaddN (pc' := 65) dX9_search_64 rfl ?_
      refine g_ialdN (pc' := 66) (v := nI (wF_ g v (i + 1))) dX9_search_65 rfl rfl (by decide) (by omega) (hy.1) ?_
      refine g_iload (pc' := 68) dX9_search_66 rfl rfl ?_
      refine g_aload_n (pc' := 69) dX9_search_68 rfl rfl ?_
      refine g_getR (pc' := 72) (k := 1) (r := some (2, k)) dX9_search_69 rfl rfl ck_9 (by decide) fl_X9_51 rfl (by rw [yf.1]; exact htc.2) ?_
      refine g_getS (pc' := 75) (k := 7) (b := (25, k)) dX9_search_72 rfl rfl ck_3 (by decide) fl_X9_55 rfl hs rfl ?_
      refine g_iload (pc' := 77) dX9_search_75 rfl rfl ?_
      refine g_ialdN (pc' := 78) (v := nI (v i)) dX9_search_77 rfl rfl (by decide) (by omega) (by rw [e25]; exact (htc.1 i hi5).2) ?_
      refine g_imulN (pc' := 79) dX9_search_78 rfl ?_
      refine g_iaddN (pc' := 80) dX9_search_79 rfl ?_
      refine g_iastN (pc' := 81) dX9_search_80 rfl rfl (by decide) (by omega) ?_
      refine g_aload_n (pc' := 82) dX9_search_81 rfl rfl ?_
      refine g_getS (pc' := 85) (k := 3) (b := (47, 0)) dX9_search_82 rfl rfl ck_10 (by decide) fl_X9_21 rfl hs rfl ?_
      refine g_iload (pc' := 87) dX9_search_85 rfl rfl ?_
      refine g_aload_n (pc' := 88) dX9_search_87 rfl rfl ?_
      refine g_getS (pc' := 91) (k := 3) (b := (47, 0)) dX9_search_88 rfl rfl ck_10 (by decide) fl_X9_21 rfl hs rfl ?_
      refine g_iload (pc' := 93) dX9_search_91 rfl rfl ?_
      refine g_iconstN (n := 1) (pc' := 94) dX9_search_93 rfl ?_
      refine g_iaddN (pc' := 95) dX9_search_94 rfl ?_
      refine g_ialdN (pc' := 96) (v := nI (rx g (i + 1))) dX9_search_95 rfl rfl (by decide) (by omega) (hy.2.1) ?_
      refine g_iload (pc' := 98) dX9_search_96 rfl rfl ?_
      refine g_iconstN (n := 1) (pc' := 99) dX9_search_98 rfl ?_
      refine g_iaddN (pc' := 100) dX9_search_99 rfl ?_
      refine g_imulN (pc' := 101) dX9_search_100 rfl ?_
      refine g_iastN (pc' := 102) dX9_search_101 rfl rfl (by decide) (by omega) ?_
      refine g_aload_n (pc' := 103) dX9_search_102 rfl rfl ?_
      refine g_getS (pc' := 106) (k := 4) (b := (48, 0)) dX9_search_103 rfl rfl ck_10 (by decide) fl_X9_24 rfl hs rfl ?_
      refine g_iload (pc' := 108) dX9_search_106 rfl rfl ?_
      refine g_iload (pc' := 110) dX9_search_108 rfl rfl ?_
      refine g_if_neN (tgt := 125) (pc' := 113) dX9_search_110 rfl (by decide) (by omega) (fun c110 => ?_) (fun c110 => ?_)
      ·
        refine g_aload_n (pc' := 126) dX9_search_125 rfl rfl ?_
        refine g_getS (pc' := 129) (k := 4) (b := (48, 0)) dX9_search_126 rfl rfl ck_10 (by decide) fl_X9_24 rfl hs rfl ?_
        refine g_iload (pc' := 131) dX9_search_129 rfl rfl ?_
        refine g_iconstN (n := 1) (pc' := 132) dX9_search_131 rfl ?_
        refine g_iaddN (pc' := 133) dX9_search_132 rfl ?_
        refine g_ialdN (pc' := 134) (v := soF g (i + 1)) dX9_search_133 rfl rfl (by decide) (by omega) (hy.2.2) ?_
        refine g_iconst (v := 1) (pc' := 135) dX9_search_134 rfl (by decide) ?_
        refine g_iload (pc' := 137) dX9_search_135 rfl rfl ?_
        refine g_ishl (pc' := 138) dX9_search_137 rfl ?_
        refine g_ior (pc' := 139) dX9_search_138 rfl ?_
        refine g_iastN (pc' := 140) dX9_search_139 rfl rfl (by decide) (by omega) ?_
        refine g_iinc (v := nI i - nI 1) (pc' := 143) dX9_search_140 rfl rfl (by rw [Int32.sub_eq_add_neg]; rfl) (by decide) rfl ?_
        try simp only [List.set]
        refine g_goto (tgt := 37) dX9_search_143 (by decide) ?_
        refine G.drop 5 ?_
        simp only [List.set]
        refine ih _ (by omega) (YF_s hi5 yf (congrArg nI (wF_s hi5).symm) (congrArg nI (by rw [rx_s g hi5, Nat.mul_comm])) ((soF_s hi5).trans (cif_f c110)).symm)
      ·
        refine g_aload_n (pc' := 114) dX9_search_113 rfl rfl ?_
        refine g_getS (pc' := 117) (k := 4) (b := (48, 0)) dX9_search_114 rfl rfl ck_10 (by decide) fl_X9_24 rfl hs rfl ?_
        refine g_iload (pc' := 119) dX9_search_117 rfl rfl ?_
        refine g_iconstN (n := 1) (pc' := 120) dX9_search_119 rfl ?_
        refine g_iaddN (pc' := 121) dX9_search_120 rfl ?_
        refine g_ialdN (pc' := 122) (v := soF g (i + 1)) dX9_search_121 rfl rfl (by decide) (by omega) (hy.2.2) ?_
        refine g_goto (tgt := 139) dX9_search_122 (by decide) ?_
        refine g_iastN (pc' := 140) dX9_search_139 rfl rfl (by decide) (by omega) ?_
        refine g_iinc (v := nI i - nI 1) (pc' := 143) dX9_search_140 rfl rfl (by rw [Int32.sub_eq_add_neg]; rfl) (by decide) rfl ?_
        try simp only [List.set]
        refine g_goto (tgt := 37) dX9_search_143 (by decide) ?_
        refine G.drop 5 ?_
        simp only [List.set]
        refine ih _ (by omega) (YF_s hi5 yf (congrArg nI (wF_s hi5).symm) (congrArg nI (by rw [rx_s g hi5, Nat.mul_comm])) ((soF_s hi5).trans (cif_t c110)).symm)
set_option maxRecDepth 4000 in
theorem cx_wgsearch {E : En} (hok : EOK E) {h : Hp} (hs : Shp h.2) {g v : Nat → Nat} (hg6 : ∀ s, s < 6 → g s ≤ 6) (hv4 : ∀ s, s < 6 → v s ≤ 400) {B W e : Nat} {t k : Nat} (ht : t < 16) (hk8 : k < 8) {x y : Int32} (hl : lim B W e (x - y) (x + y)) (htc : (∀ s, s < 6 → h.1 (26, t) s = nI (g s) ∧ h.1 (25, k) s = nI (v s)) ∧ h.2.1 (3, t) 1 = some (2, k)) (k13 : C13 h) : Call E m_X9_search 9 0 0 [vR (9, 0), vR (3, t), vI x, vI y] h (fun r h1 => r = none ∧ Sc h h1 ∧ C13 h1 ∧ encW g (wgF g v B W e (rx g 0)) h1) := by
  refine Call.enter hok (by decide) (Nat.le_of_ble_eq_true rfl) ?_
  show G E m_X9_search 9 0 0 _ h 0 [some (vR (9, 0)), some (vR (3, t)), some (vI x), some (vI y), none, none] [] h 0 0
  refine g_aload_n (pc' := 1) dX9_search_0 rfl rfl ?_
  refine g_iload_n (pc' := 2) dX9_search_1 rfl rfl ?_
  refine g_iload_n (pc' := 3) dX9_search_2 rfl rfl ?_
  refine g_isub (pc' := 4) dX9_search_3 rfl ?_
  refine g_putI (pc' := 7) (k := 5) dX9_search_4 rfl rfl ck_10 (by decide) fl_X9_27 rfl rfl rfl rfl ?_
  refine g_aload_n (pc' := 8) dX9_search_7 rfl rfl ?_
  refine g_iload_n (pc' := 9) dX9_search_8 rfl rfl ?_
  refine g_iload_n (pc' := 10) dX9_search_9 rfl rfl ?_
  refine g_iadd (pc' := 11) dX9_search_10 rfl ?_
  refine g_putI (pc' := 14) (k := 6) dX9_search_11 rfl rfl ck_10 (by decide) fl_X9_31 rfl rfl rfl rfl ?_
  refine g_aload_n (pc' := 15) dX9_search_14 rfl rfl ?_
  refine g_iconstN (n := 0) (pc' := 16) dX9_search_15 rfl ?_
  refine g_putI (pc' := 19) (k := 7) dX9_search_16 rfl rfl ck_10 (by decide) fl_X9_34 rfl rfl rfl rfl ?_
  refine g_aload_n (pc' := 20) dX9_search_19 rfl rfl ?_
  refine g_iconstN (n := 0) (pc' := 21) dX9_search_20 rfl ?_
  refine g_putI (pc' := 24) (k := 8) dX9_search_21 rfl rfl ck_10 (by decide) fl_X9_37 rfl rfl rfl rfl ?_
  refine g_aload_n (pc' := 25) dX9_search_24 rfl rfl ?_
  refine g_iconstN (n := 0) (pc' := 26) dX9_search_25 rfl ?_
  refine g_putI (pc' := 29) (k := 9) dX9_search_26 rfl rfl ck_10 (by decide) fl_X9_40 rfl rfl rfl rfl ?_
  refine g_aload_n (pc' := 30) dX9_search_29 rfl rfl ?_
  refine g_iconstN (n := 0) (pc' := 31) dX9_search_30 rfl ?_
  refine g_putI (pc' := 34) (k := 10) dX9_search_31 rfl rfl ck_10 (by decide) fl_X9_43 rfl rfl rfl rfl ?_
  refine g_iconstN (n := 5) (pc' := 35) dX9_search_34 rfl ?_
  refine g_istore (pc' := 37) dX9_search_35 rfl (by decide) rfl ?_
  try simp only [List.set]
  refine lx_wgsearch (h := wI (wI (wI (wI (wI (wI h (9, 0) 5 (x - y)) (9, 0) 6 (x + y)) (9, 0) 7 (nI 0)) (9, 0) 8 (nI 0)) (9, 0) 9 (nI 0)) (9, 0) 10 (nI 0)) hok hs hg6 hv4 ht hk8 hl rfl rfl ⟨rfl, rfl, rfl, rfl, fun z => absurd rfl z⟩ htc _ _ k13 (fun h1 s1 k1 en => ⟨rfl, ((((((Sc.rf h).wI rfl).wI rfl).wI rfl).wI rfl).wI rfl).wI rfl |>.tr s1, k1, en⟩) 6 _ (Nat.le_refl _) ⟨rfl, fun _ _ _ _ => rfl, fun j j1 j2 => ?_⟩
  rw [show j = 6 by omega, wF_6, rx_6, soF_6]
  exact ⟨k13.1, k13.2.1, k13.2.2.1⟩
