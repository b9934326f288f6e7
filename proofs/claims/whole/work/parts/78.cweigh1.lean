/-- what stays while the class weighs toy t: g its pieces, v their weights -/
def YS (g v : Nat → Nat) (lo hi : Int32) (t k : Nat) (h : Hp) : Prop := h.1 (9, 0) 5 = lo ∧ h.1 (9, 0) 6 = hi ∧ (∀ s, s ≤ 6 → h.1 (46, 0) s = nI (wF_ g v s) ∧ h.1 (47, 0) s = nI (rx g s) ∧ h.1 (48, 0) s = soF g s) ∧ (∀ s, s < 6 → h.1 (26, t) s = nI (g s) ∧ h.1 (25, k) s = nI (v s)) ∧ h.2.1 (3, t) 1 = some (2, k)
def YB (s : Nat) (h h' : Hp) : Prop := h'.2 = h.2 ∧ (∀ q : Ad, q ≠ (9, 0) → q ≠ (44, 0) → q ≠ (45, 0) → h'.1 q = h.1 q) ∧ (∀ j, j < 7 → h'.1 (9, 0) j = h.1 (9, 0) j) ∧ ∀ j, j < s → h'.1 (44, 0) j = h.1 (44, 0) j
theorem YB.rf (s : Nat) (h : Hp) : YB s h h := ⟨rfl, fun _ _ _ _ => rfl, fun _ _ => rfl, fun _ _ => rfl⟩
theorem YB.tr {s : Nat} {a b c : Hp} (x : YB s a b) (y : YB s b c) : YB s a c := ⟨y.1.trans x.1, fun q z1 z2 z3 => (y.2.1 q z1 z2 z3).trans (x.2.1 q z1 z2 z3), fun j hj => (y.2.2.1 j hj).trans (x.2.2.1 j hj), fun j hj => (y.2.2.2 j hj).trans (x.2.2.2 j hj)⟩
theorem YB.dn {k n : Nat} {a b : Hp} (x : YB k a b) (h : n ≤ k) : YB n a b := ⟨x.1, x.2.1, x.2.2.1, fun j hj => x.2.2.2 j (by omega)⟩
theorem YS.yb {g v : Nat → Nat} {lo hi : Int32} {t k s : Nat} {h h' : Hp} (y : YS g v lo hi t k h) (b : YB s h h') : YS g v lo hi t k h' := by
  have e : ∀ q i, q ≠ 9 → q ≠ 44 → q ≠ 45 → h'.1 (q, i) = h.1 (q, i) := fun q i a1 a2 a3 => b.2.1 (q, i) (ad_ne a1) (ad_ne a2) (ad_ne a3)
  unfold YS at *
  rw [b.1, b.2.2.1 5 (by decide), b.2.2.1 6 (by decide), e 46 0 (by decide) (by decide) (by decide), e 47 0 (by decide) (by decide) (by decide), e 48 0 (by decide) (by decide) (by decide), e 26 t (by decide) (by decide) (by decide), e 25 k (by decide) (by decide) (by decide)]
  exact y
theorem YB.row {k : Nat} {h h' : Hp} {x : Int32} (b : YB k h h') : YB k h (wI h' (44, 0) k x) := ⟨b.1, fun q z1 z2 z3 => (wI_off _ _ _ _ q z2).trans (b.2.1 q z1 z2 z3), fun j h8 => (congrFun (wI_off h' (44, 0) k x (9, 0) (by decide)) j).trans (b.2.2.1 j h8), fun j hj => (wI_j (by omega)).trans (b.2.2.2 j hj)⟩
def rowW (g : Nat → Nat) (s S : Nat) (h : Hp) : Prop := ∀ j, j < s → h.1 (44, 0) j = nI (ld g j S)
theorem rowW.yb {g : Nat → Nat} {s S : Nat} {h h' : Hp} (r : rowW g s S h) (b : YB s h h') : rowW g s S h' := fun j hj => (b.2.2.2 j hj).trans (r j hj)
def encW (g : Nat → Nat) (b : WT) (h : Hp) : Prop := h.1 (9, 0) 7 = nI b.1 ∧ h.1 (9, 0) 8 = nI b.2.2.2.1 ∧ h.1 (9, 0) 9 = b.2.1 ∧ h.1 (9, 0) 10 = b.2.2.1 ∧ (¬ b.1 = 0 → ∀ j, j < 6 → h.1 (45, 0) j = nI (ld g j b.2.2.2.2))
def bdW (g : Nat → Nat) (b : WT) : Prop := b.1 ≤ rx g 0 ∧ b.2.2.2.1 ≤ 36
/-- the limits as whole numbers -/
def lim (B W e : Nat) (lo hi : Int32) : Prop := lo.toInt = (B : Int) - W - e ∧ hi.toInt = (B : Int) - W + e
theorem lim_hi {B W e n : Nat} {lo hi : Int32} (l : lim B W e lo hi) (hn : n < 2 ^ 31) : hi < nI n ↔ ((B : Int) - W + e < n) := by rw [Int32.lt_iff_toInt_lt, l.2, nI_toInt hn]
theorem lim_lo {B W e n : Nat} {lo hi : Int32} (l : lim B W e lo hi) (hn : n < 2 ^ 31) : lo ≤ nI n ↔ ((B : Int) - W - e ≤ n) := by rw [Int32.le_iff_toInt_le, l.1, nI_toInt hn]
theorem wg_pr1 {g v : Nat → Nat} {B W e s a S : Nat} {b : WT} (hs : s ≤ 6) (hS : S = rx g s * a) (h : (B : Int) - W + e < (wx g v s S : Nat)) : fo (stW g v B W e) S (rx g s) b = b := wg_no fun x h1 h2 z => by
  obtain ⟨y, rfl⟩ : ∃ y, x = S + y := ⟨x - S, by omega⟩
  have q := (wx_b (w := v) hs hS (show y < rx g s by omega)).1
  have := z.2
  omega
theorem wg_pr2 {g v : Nat → Nat} {B W e s a S : Nat} {b : WT} (hs : s ≤ 6) (hS : S = rx g s * a) (h : ¬ (B : Int) - W - e ≤ (wx g v s S + wF_ g v s : Nat)) : fo (stW g v B W e) S (rx g s) b = b := wg_no fun x h1 h2 z => by
  obtain ⟨y, rfl⟩ : ∃ y, x = S + y := ⟨x - S, by omega⟩
  have q := (wx_b (w := v) hs hS (show y < rx g s by omega)).2
  have := z.1
  omega
theorem wg_in {g v : Nat → Nat} {B W e s a S : Nat} (hs : s ≤ 6) (hS : S = rx g s * a) (h1 : (B : Int) - W - e ≤ (wx g v s S : Nat)) (h2 : ((wx g v s S + wF_ g v s : Nat) : Int) ≤ B - W + e) : ∀ x, S ≤ x → x < S + rx g s → inW B W e (wx g v 6 x) := fun x a1 a2 => by
  obtain ⟨y, rfl⟩ : ∃ y, x = S + y := ⟨x - S, by omega⟩
  have q := wx_b (w := v) hs hS (show y < rx g s by omega)
  unfold inW
  omega
theorem fo_bdW {g v : Nat → Nat} (hg : ∀ s, s < 6 → g s ≤ 6) {B W e S : Nat} {b : WT} (hb : b.1 ≤ S ∧ b.2.2.2.1 ≤ 36) : ∀ n, (fo (stW g v B W e) S n b).1 ≤ S + n ∧ (fo (stW g v B W e) S n b).2.2.2.1 ≤ 36
  | 0 => hb
  | n + 1 => by
    have ih := fo_bdW hg (v := v) (B := B) (W := W) (e := e) hb n
    rw [fo_s]
    generalize fo (stW g v B W e) S n b = c at *
    unfold stW
    by_cases q : inW B W e (wx g v 6 (S + n))
    · rw [cif_t q]
      refine ⟨by show c.1 + 1 ≤ _; omega, ?_⟩
      show (cif (c.1 = 0 ∨ nx g 6 (S + n) < c.2.2.2.1) (nx g 6 (S + n), S + n) c.2.2.2).1 ≤ 36
      by_cases z : c.1 = 0 ∨ nx g 6 (S + n) < c.2.2.2.1
      · rw [cif_t z]; exact nx_le hg (Nat.le_refl 6) _
      · rw [cif_f z]; exact ih.2
    · rw [cif_f q]
      exact ⟨by omega, ih.2⟩
/-- children -/
theorem cw_S {g : Nat → Nat} {s a n S : Nat} (hs : s < 6) (hS : S = rx g s * a) : S + n * rx g (s + 1) = rx g (s + 1) * ((g s + 1) * a + n) := by
  rw [hS, rx_s g hs, Nat.mul_add, Nat.mul_comm n]
  congr 1
  ac_rfl
theorem cw_lt {g : Nat → Nat} {s n : Nat} (hs : s < 6) (hn : n ≤ g s) : n * rx g (s + 1) < rx g s := by
  rw [rx_s g hs, Nat.add_mul, Nat.one_mul]
  have := rx_pos g (s + 1)
  have := Nat.mul_le_mul_right (rx g (s + 1)) hn
  omega
theorem cw_d {g : Nat → Nat} {s a n S : Nat} (hs : s < 6) (hn : n ≤ g s) (hS : S = rx g s * a) : ld g s (S + n * rx g (s + 1)) = n := by
  rw [hS, ld_lo (Nat.le_refl s) hs]
  unfold ld
  rw [Nat.mul_div_cancel _ (rx_pos _ _)]
  exact Nat.mod_eq_of_lt (by omega)
theorem cw_row {g : Nat → Nat} {s a n S : Nat} {h : Hp} (hs : s < 6) (hn : n ≤ g s) (hS : S = rx g s * a) (r : rowW g s S h) (hv : h.1 (44, 0) s = nI n) : rowW g (s + 1) (S + n * rx g (s + 1)) h := fun j hj => by
  by_cases e : j = s
  · rw [e, cw_d hs hn hS]; exact hv
  · rw [hS, ld_hi (Nat.le_of_lt hs) (by omega) (cw_lt hs hn), ← hS]
    exact r j (by omega)
theorem cw_w {g v : Nat → Nat} {s a n S : Nat} (hs : s < 6) (hn : n ≤ g s) (hS : S = rx g s * a) : wx g v (s + 1) (S + n * rx g (s + 1)) = wx g v s S + n * v s := by
  rw [wx_s, cw_d hs hn hS, wx_hi (Nat.le_of_lt hs) hS (cw_lt hs hn)]
theorem cw_n {g : Nat → Nat} {s a n S : Nat} (hs : s < 6) (hn : n ≤ g s) (hS : S = rx g s * a) : nx g (s + 1) (S + n * rx g (s + 1)) = nx g s S + n := by
  rw [nx_s, cw_d hs hn hS, nx_hi (Nat.le_of_lt hs) hS (cw_lt hs hn)]
theorem cw_x {g : Nat → Nat} {s a n S : Nat} (hs : s < 6) (hn : n ≤ g s) (hS : S = rx g s * a) : sx g (s + 1) (S + n * rx g (s + 1)) = cif (n = 0) (sx g s S) (sx g s S ||| ((1 : Int32) <<< (nI s &&& 31))) := by
  have e : sx g s (S + n * rx g (s + 1)) = sx g s S := orr_congr (fun j hj => by rw [hS, ld_hi (Nat.le_of_lt hs) hj (cw_lt hs hn)])
  show sx g s (S + n * rx g (s + 1)) ||| cif (0 < ld g s (S + n * rx g (s + 1))) ((1 : Int32) <<< (nI s &&& 31)) 0 = _
  rw [e, cw_d hs hn hS]
  by_cases z : n = 0
  · rw [cif_t z, cif_f (by omega), Int32.or_zero]
  · rw [cif_f z, cif_t (by omega)]
set_option maxRecDepth 4000 in
theorem cx_keepT {E : En} (hok : EOK E) {h h0 : Hp} (hs : Shp h.2) {g : Nat → Nat} (hg6 : ∀ s, s < 6 → g s ≤ 6) {s S : Nat} (hs6 : s ≤ 6) {b : WT} (hb1 : b.1 ≤ 117649) (e7 : h.1 (9, 0) 7 = nI b.1) (e9 : h.1 (9, 0) 9 = b.2.1) (e10 : h.1 (9, 0) 10 = b.2.2.1) (h47 : h.1 (47, 0) s = nI (rx g s)) (h48 : h.1 (48, 0) s = soF g s) {d : Nat} {Q : Option V → Hp → Prop} (hQ : Q none (wI (wI (wI h (9, 0) 7 (nI (b.1 + rx g s))) (9, 0) 9 (b.2.1 ||| (sx g s S ||| soF g s))) (9, 0) 10 (b.2.2.1 ||| (nI 63 &&& (sx g s S ^^^ (-1)))))) : G E m_X9_keepAllFrom d 0 0 Q h0 42 [some (vR (9, 0)), some (vI (nI s)), some (vI (nI (nx g s S))), some (vI (sx g s S))] [] h 0 0 := by
  have hrx := rx_le hg6
  have hrm := rx_mono (g := g) hs6
  refine g_aload_n (pc' := 43) dX9_keepAllFrom_42 rfl rfl ?_
  refine g_dup (pc' := 44) dX9_keepAllFrom_43 rfl rfl ?_
  refine g_getIv (v := nI (b.1)) (pc' := 47) (k := 7) dX9_keepAllFrom_44 rfl rfl ck_10 (by decide) fl_X9_34 rfl (e7) ?_
  refine g_aload_n (pc' := 48) dX9_keepAllFrom_47 rfl rfl ?_
  refine g_getS (pc' := 51) (k := 3) (b := (47, 0)) dX9_keepAllFrom_48 rfl rfl ck_10 (by decide) fl_X9_21 rfl hs rfl ?_
  refine g_iload_n (pc' := 52) dX9_keepAllFrom_51 rfl rfl ?_
  refine g_ialdN (pc' := 53) (v := nI (rx g s)) dX9_keepAllFrom_52 rfl rfl (by decide) (by omega) (h47) ?_
  refine g_iaddN (pc' := 54) dX9_keepAllFrom_53 rfl ?_
  refine g_putI (pc' := 57) (k := 7) dX9_keepAllFrom_54 rfl rfl ck_10 (by decide) fl_X9_34 rfl rfl rfl rfl ?_
  refine g_aload_n (pc' := 58) dX9_keepAllFrom_57 rfl rfl ?_
  refine g_dup (pc' := 59) dX9_keepAllFrom_58 rfl rfl ?_
  refine g_getIv (v := b.2.1) (pc' := 62) (k := 9) dX9_keepAllFrom_59 rfl rfl ck_10 (by decide) fl_X9_40 rfl (e9) ?_
  refine g_iload_n (pc' := 63) dX9_keepAllFrom_62 rfl rfl ?_
  refine g_aload_n (pc' := 64) dX9_keepAllFrom_63 rfl rfl ?_
  refine g_getS (pc' := 67) (k := 4) (b := (48, 0)) dX9_keepAllFrom_64 rfl rfl ck_10 (by decide) fl_X9_24 rfl hs rfl ?_
  refine g_iload_n (pc' := 68) dX9_keepAllFrom_67 rfl rfl ?_
  refine g_ialdN (pc' := 69) (v := soF g s) dX9_keepAllFrom_68 rfl rfl (by decide) (by omega) (h48) ?_
  refine g_ior (pc' := 70) dX9_keepAllFrom_69 rfl ?_
  refine g_ior (pc' := 71) dX9_keepAllFrom_70 rfl ?_
  refine g_putI (pc' := 74) (k := 9) dX9_keepAllFrom_71 rfl rfl ck_10 (by decide) fl_X9_40 rfl rfl rfl rfl ?_
  refine g_aload_n (pc' := 75) dX9_keepAllFrom_74 rfl rfl ?_
  refine g_dup (pc' := 76) dX9_keepAllFrom_75 rfl rfl ?_
  refine g_getIv (v := b.2.2.1) (pc' := 79) (k := 10) dX9_keepAllFrom_76 rfl rfl ck_10 (by decide) fl_X9_43 rfl (e10) ?_
  refine g_bipushN (n := 63) (pc' := 81) dX9_keepAllFrom_79 rfl (by decide) ?_
  refine g_iload_n (pc' := 82) dX9_keepAllFrom_81 rfl rfl ?_
  refine g_iconst (v := -1) (pc' := 83) dX9_keepAllFrom_82 rfl (by decide) ?_
  refine g_ixor (pc' := 84) dX9_keepAllFrom_83 rfl ?_
  refine g_iand (pc' := 85) dX9_keepAllFrom_84 rfl ?_
  refine g_ior (pc' := 86) dX9_keepAllFrom_85 rfl ?_
  refine g_putI (pc' := 89) (k := 10) dX9_keepAllFrom_86 rfl rfl ck_10 (by decide) fl_X9_43 rfl rfl rfl rfl ?_
  refine g_vret dX9_keepAllFrom_89 rfl (by decide) (by decide) ?_
  exact hQ
set_option maxRecDepth 4000 in
theorem cx_keepAll {E : En} (hok : EOK E) {h : Hp} (hs : Shp h.2) {g : Nat → Nat} (hg6 : ∀ s, s < 6 → g s ≤ 6) {s S a : Nat} (hs6 : s ≤ 6) (hS : S = rx g s * a) {b : WT} (hb1 : b.1 ≤ 117649) (hb2 : b.2.2.2.1 ≤ 36) (hen : encW g b h) (hrw : rowW g s S h) (h47 : h.1 (47, 0) s = nI (rx g s)) (h48 : h.1 (48, 0) s = soF g s) : Call E m_X9_keepAllFrom 1 0 0 [vR (9, 0), vI (nI s), vI (nI (nx g s S)), vI (sx g s S)] h (fun r h' => r = none ∧ YB s h h' ∧ encW g (b.1 + rx g s, b.2.1 ||| (sx g s S ||| soF g s), b.2.2.1 ||| (nI 63 &&& (sx g s S ^^^ (-1))), cif (b.1 = 0 ∨ nx g s S < b.2.2.2.1) (nx g s S, S) b.2.2.2) h') := by
  obtain ⟨e7, e8, e9, e10, e45⟩ := hen
  have hn36 := nx_le hg6 hs6 S
  have hrx := rx_le hg6
  have hrm := rx_mono (g := g) hs6
  refine Call.enter hok (by decide) (Nat.le_of_ble_eq_true rfl) ?_
  show G E m_X9_keepAllFrom 1 0 0 _ h 0 [some (vR (9, 0)), some (vI (nI s)), some (vI (nI (nx g s S))), some (vI (sx g s S))] [] h 0 0
  refine g_aload_n (pc' := 1) dX9_keepAllFrom_0 rfl rfl ?_
  refine g_getIv (v := nI (b.1)) (pc' := 4) (k := 7) dX9_keepAllFrom_1 rfl rfl ck_10 (by decide) fl_X9_34 rfl (e7) ?_
  refine g_if_eqN (tgt := 15) (pc' := 7) dX9_keepAllFrom_4 rfl (by decide) (by omega) (fun c4 => ?_) (fun c4 => ?_)
  ·
    refine g_aload_n (pc' := 16) dX9_keepAllFrom_15 rfl rfl ?_
    refine g_iload_n (pc' := 17) dX9_keepAllFrom_16 rfl rfl ?_
    refine g_putI (pc' := 20) (k := 8) dX9_keepAllFrom_17 rfl rfl ck_10 (by decide) fl_X9_37 rfl rfl rfl rfl ?_
    refine g_aload_n (pc' := 21) dX9_keepAllFrom_20 rfl rfl ?_
    refine g_getS (pc' := 24) (k := 1) (b := (45, 0)) dX9_keepAllFrom_21 rfl rfl ck_10 (by decide) fl_X9_15 rfl hs rfl ?_
    refine g_iconstN (n := 0) (pc' := 25) dX9_keepAllFrom_24 rfl ?_
    refine g_invS (pc' := 28) (cx_fill hok (a := (45, 0)) rfl (by decide) _) dX9_keepAllFrom_25 rfl ml_X9_72 st_J7_fill_53178 in_J7 co_J7_fill_53178 pd_J7_fill_53178 rfl (by omega) (by decide) ⟨by decide, by decide⟩ (Nat.le_of_ble_eq_true rfl) ?_
    rintro _ _ ⟨rfl, rfl⟩ -
    refine g_aload_n (pc' := 29) dX9_keepAllFrom_28 rfl rfl ?_
    refine g_getS (pc' := 32) (k := 0) (b := (44, 0)) dX9_keepAllFrom_29 rfl rfl ck_10 (by decide) fl_X9_9 rfl hs rfl ?_
    refine g_iconstN (n := 0) (pc' := 33) dX9_keepAllFrom_32 rfl ?_
    refine g_aload_n (pc' := 34) dX9_keepAllFrom_33 rfl rfl ?_
    refine g_getS (pc' := 37) (k := 1) (b := (45, 0)) dX9_keepAllFrom_34 rfl rfl ck_10 (by decide) fl_X9_15 rfl hs rfl ?_
    refine g_iconstN (n := 0) (pc' := 38) dX9_keepAllFrom_37 rfl ?_
    refine g_iload_n (pc' := 39) dX9_keepAllFrom_38 rfl rfl ?_
    refine g_copyI (pc' := 42) dX9_keepAllFrom_39 rfl rfl rfl ml_X9_78 (by omega) (by omega) (by omega) (by omega) (Nat.le_of_ble_eq_true rfl) ?_
    have a9 : ∀ q : Ad, q ≠ (45, 0) → (wF (wN (wI h (9, 0) 8 (nI (nx g s S))) (45, 0) 0 (fun _ => nI 0) 6) (45, 0) (va_cpy ((wN (wI h (9, 0) 8 (nI (nx g s S))) (45, 0) 0 (fun _ => nI 0) 6).1 (44, 0)) ((wN (wI h (9, 0) 8 (nI (nx g s S))) (45, 0) 0 (fun _ => nI 0) 6).1 (45, 0)) 0 0 s)).1 q = (wI h (9, 0) 8 (nI (nx g s S))).1 q := fun q z => by rw [wF_off _ _ _ z, wN_off _ _ _ _ z]
    have a45 : ∀ j, j < 6 → (wF (wN (wI h (9, 0) 8 (nI (nx g s S))) (45, 0) 0 (fun _ => nI 0) 6) (45, 0) (va_cpy ((wN (wI h (9, 0) 8 (nI (nx g s S))) (45, 0) 0 (fun _ => nI 0) 6).1 (44, 0)) ((wN (wI h (9, 0) 8 (nI (nx g s S))) (45, 0) 0 (fun _ => nI 0) 6).1 (45, 0)) 0 0 s)).1 (45, 0) j = nI (ld g j S) := fun j hj => by
      rw [wF_same]
      by_cases z : j < s
      · rw [cpy_in z, wN_off _ _ _ _ (by decide)]; exact hrw j z
      · have q := wN_at (wI h (9, 0) 8 (nI (nx g s S))) (45, 0) 0 (fun _ => nI 0) 6 hj
        rw [Nat.zero_add] at q
        rw [cpy_out (by omega), hS, ld_z (by omega) hj]; exact q
    have a2 : (wF (wN (wI h (9, 0) 8 (nI (nx g s S))) (45, 0) 0 (fun _ => nI 0) 6) (45, 0) (va_cpy ((wN (wI h (9, 0) 8 (nI (nx g s S))) (45, 0) 0 (fun _ => nI 0) 6).1 (44, 0)) ((wN (wI h (9, 0) 8 (nI (nx g s S))) (45, 0) 0 (fun _ => nI 0) 6).1 (45, 0)) 0 0 s)).2 = h.2 := wN_2 _ _ _ _ 6
    generalize wF (wN (wI h (9, 0) 8 (nI (nx g s S))) (45, 0) 0 (fun _ => nI 0) 6) (45, 0) (va_cpy ((wN (wI h (9, 0) 8 (nI (nx g s S))) (45, 0) 0 (fun _ => nI 0) 6).1 (44, 0)) ((wN (wI h (9, 0) 8 (nI (nx g s S))) (45, 0) 0 (fun _ => nI 0) 6).1 (45, 0)) 0 0 s) = hF at *
    refine cx_keepT hok (by rw [a2]; exact hs) hg6 hs6 hb1 ((congrFun (a9 _ (by decide)) 7).trans e7) ((congrFun (a9 _ (by decide)) 9).trans e9) ((congrFun (a9 _ (by decide)) 10).trans e10) ((congrFun (a9 (47, 0) (by decide)) s).trans h47) ((congrFun (a9 (48, 0) (by decide)) s).trans h48) ?_
    rw [cif_t (show b.1 = 0 ∨ nx g s S < b.2.2.2.1 by omega)]
    refine ⟨rfl, ⟨a2, fun q z1 z2 z3 => ?_, fun j hj => ?_, fun j hj => congrFun (a9 (44, 0) (by decide)) j⟩, rfl, (congrFun (a9 (9, 0) (by decide)) 8), rfl, rfl, fun _ => a45⟩
    · rw [wI_off _ _ _ _ q z1, wI_off _ _ _ _ q z1, wI_off _ _ _ _ q z1, a9 q z3, wI_off _ _ _ _ q z1]
    · rw [wI_j (by omega), wI_j (by omega), wI_j (by omega), a9 (9, 0) (by decide), wI_j (by omega)]
  ·
    refine g_iload_n (pc' := 8) dX9_keepAllFrom_7 rfl rfl ?_
    refine g_aload_n (pc' := 9) dX9_keepAllFrom_8 rfl rfl ?_
    refine g_getIv (v := nI (b.2.2.2.1)) (pc' := 12) (k := 8) dX9_keepAllFrom_9 rfl rfl ck_10 (by decide) fl_X9_37 rfl (e8) ?_
    refine g_icmp_geN (tgt := 42) (pc' := 15) dX9_keepAllFrom_12 rfl (by decide) (by omega) (by omega) (fun c12 => ?_) (fun c12 => ?_)
    ·
      refine cx_keepT hok hs hg6 hs6 hb1 e7 e9 e10 h47 h48 ?_
      rw [cif_f (show ¬ (b.1 = 0 ∨ nx g s S < b.2.2.2.1) by omega)]
      refine ⟨rfl, ⟨rfl, fun q z1 z2 z3 => ?_, fun j hj => ?_, fun j hj => rfl⟩, rfl, e8, rfl, rfl, fun _ => e45 (by omega)⟩
      · rw [wI_off _ _ _ _ q z1, wI_off _ _ _ _ q z1, wI_off _ _ _ _ q z1]
      · rw [wI_j (by omega), wI_j (by omega), wI_j (by omega)]
    ·
      refine g_aload_n (pc' := 16) dX9_keepAllFrom_15 rfl rfl ?_
      refine g_iload_n (pc' := 17) dX9_keepAllFrom_16 rfl rfl ?_
      refine g_putI (pc' := 20) (k := 8) dX9_keepAllFrom_17 rfl rfl ck_10 (by decide) fl_X9_37 rfl rfl rfl rfl ?_
      refine g_aload_n (pc' := 21) dX9_keepAllFrom_20 rfl rfl ?_
      refine g_getS (pc' := 24) (k := 1) (b := (45, 0)) dX9_keepAllFrom_21 rfl rfl ck_10 (by decide) fl_X9_15 rfl hs rfl ?_
      refine g_iconstN (n := 0) (pc' := 25) dX9_keepAllFrom_24 rfl ?_
      refine g_invS (pc' := 28) (cx_fill hok (a := (45, 0)) rfl (by decide) _) dX9_keepAllFrom_25 rfl ml_X9_72 st_J7_fill_53178 in_J7 co_J7_fill_53178 pd_J7_fill_53178 rfl (by omega) (by decide) ⟨by decide, by decide⟩ (Nat.le_of_ble_eq_true rfl) ?_
      rintro _ _ ⟨rfl, rfl⟩ -
      refine g_aload_n (pc' := 29) dX9_keepAllFrom_28 rfl rfl ?_
      refine g_getS (pc' := 32) (k := 0) (b := (44, 0)) dX9_keepAllFrom_29 rfl rfl ck_10 (by decide) fl_X9_9 rfl hs rfl ?_
      refine g_iconstN (n := 0) (pc' := 33) dX9_keepAllFrom_32 rfl ?_
      refine g_aload_n (pc' := 34) dX9_keepAllFrom_33 rfl rfl ?_
      refine g_getS (pc' := 37) (k := 1) (b := (45, 0)) dX9_keepAllFrom_34 rfl rfl ck_10 (by decide) fl_X9_15 rfl hs rfl ?_
      refine g_iconstN (n := 0) (pc' := 38) dX9_keepAllFrom_37 rfl ?_
      refine g_iload_n (pc' := 39) dX9_keepAllFrom_38 rfl rfl ?_
      refine g_copyI (pc' := 42) dX9_keepAllFrom_39 rfl rfl rfl ml_X9_78 (by omega) (by omega) (by omega) (by omega) (Nat.le_of_ble_eq_true rfl) ?_
      have a9 : ∀ q : Ad, q ≠ (45, 0) → (wF (wN (wI h (9, 0) 8 (nI (nx g s S))) (45, 0) 0 (fun _ => nI 0) 6) (45, 0) (va_cpy ((wN (wI h (9, 0) 8 (nI (nx g s S))) (45, 0) 0 (fun _ => nI 0) 6).1 (44, 0)) ((wN (wI h (9, 0) 8 (nI (nx g s S))) (45, 0) 0 (fun _ => nI 0) 6).1 (45, 0)) 0 0 s)).1 q = (wI h (9, 0) 8 (nI (nx g s S))).1 q := fun q z => by rw [wF_off _ _ _ z, wN_off _ _ _ _ z]
      have a45 : ∀ j, j < 6 → (wF (wN (wI h (9, 0) 8 (nI (nx g s S))) (45, 0) 0 (fun _ => nI 0) 6) (45, 0) (va_cpy ((wN (wI h (9, 0) 8 (nI (nx g s S))) (45, 0) 0 (fun _ => nI 0) 6).1 (44, 0)) ((wN (wI h (9, 0) 8 (nI (nx g s S))) (45, 0) 0 (fun _ => nI 0) 6).1 (45, 0)) 0 0 s)).1 (45, 0) j = nI (ld g j S) := fun j hj => by
        rw [wF_same]
        by_cases z : j < s
        · rw [cpy_in z, wN_off _ _ _ _ (by decide)]; exact hrw j z
        · have q := wN_at (wI h (9, 0) 8 (nI (nx g s S))) (45, 0) 0 (fun _ => nI 0) 6 hj
          rw [Nat.zero_add] at q
          rw [cpy_out (by omega), hS, ld_z (by omega) hj]; exact q
      have a2 : (wF (wN (wI h (9, 0) 8 (nI (nx g s S))) (45, 0) 0 (fun _ => nI 0) 6) (45, 0) (va_cpy ((wN (wI h (9, 0) 8 (nI (nx g s S))) (45, 0) 0 (fun _ => nI 0) 6).1 (44, 0)) ((wN (wI h (9, 0) 8 (nI (nx g s S))) (45, 0) 0 (fun _ => nI 0) 6).1 (45, 0)) 0 0 s)).2 = h.2 := wN_2 _ _ _ _ 6
      generalize wF (wN (wI h (9, 0) 8 (nI (nx g s S))) (45, 0) 0 (fun _ => nI 0) 6) (45, 0) (va_cpy ((wN (wI h (9, 0) 8 (nI (nx g s S))) (45, 0) 0 (fun _ => nI 0) 6).1 (44, 0)) ((wN (wI h (9, 0) 8 (nI (nx g s S))) (45, 0) 0 (fun _ => nI 0) 6).1 (45, 0)) 0 0 s) = hF at *
      refine cx_keepT hok (by rw [a2]; exact hs) hg6 hs6 hb1 ((congrFun (a9 _ (by decide)) 7).trans e7) ((congrFun (a9 _ (by decide)) 9).trans e9) ((congrFun (a9 _ (by decide)) 10).trans e10) ((congrFun (a9 (47, 0) (by decide)) s).trans h47) ((congrFun (a9 (48, 0) (by decide)) s).trans h48) ?_
      rw [cif_t (show b.1 = 0 ∨ nx g s S < b.2.2.2.1 by omega)]
      refine ⟨rfl, ⟨a2, fun q z1 z2 z3 => ?_, fun j hj => ?_, fun j hj => congrFun (a9 (44, 0) (by decide)) j⟩, rfl, (congrFun (a9 (9, 0) (by decide)) 8), rfl, rfl, fun _ => a45⟩
      · rw [wI_off _ _ _ _ q z1, wI_off _ _ _ _ q z1, wI_off _ _ _ _ q z1, a9 q z3, wI_off _ _ _ _ q z1]
      · rw [wI_j (by omega), wI_j (by omega), wI_j (by omega), a9 (9, 0) (by decide), wI_j (by omega)]
