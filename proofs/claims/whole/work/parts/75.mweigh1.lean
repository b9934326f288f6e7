noncomputable abbrev gW (m : St) (t : Nat) : Nat → Nat := hsN m t
noncomputable abbrev vW (m : St) (t : Nat) : Nat → Nat := wtN m (kd m t)
def emN (m : St) : Nat := (m 1 6).toNatClampNeg
theorem em_n {m : St} (hx : Wx m) : m 1 6 = nI (emN m) ∧ emN m ≤ 2000 := cl_of (n := 2000) rfl (by decide) hx.bg
noncomputable def bgN (m : St) (t : Nat) : Nat := emN m + smN (fun s => hsN m t s * wtN m (kd m t) s) 6
theorem gW_le {m : St} (hw : Wf m) (hx : Wx m) {t : Nat} (ht : t < nT m) : ∀ s, s < 6 → gW m t s ≤ 6 := fun s hs => Nat.le_trans (hs_n hw hx ht hs).2 (pc_n hx (hw.kd ht).2 hs).2
theorem vW_le {m : St} (hw : Wf m) (hx : Wx m) {t : Nat} (ht : t < nT m) : ∀ s, s < 6 → vW m t s ≤ 400 := fun s hs => (wt_n hx (hw.kd ht).2 hs).2
theorem bag_n {m : St} (hw : Wf m) (hx : Wx m) {t : Nat} (ht : t < nT m) : bagW m t = nI (bgN m t) ∧ bgN m t ≤ 16400 := by
  obtain ⟨a, b⟩ := em_n hx
  refine ⟨?_, ?_⟩
  · unfold bagW bgN
    rw [← nI_add, ← a, sm_nat (v := fun s => hsN m t s * wtN m (kd m t) s) (fun s hs => by rw [(hs_n hw hx ht hs).1, (wt_n hx (hw.kd ht).2 hs).1, nI_mul])]
  · have c := smN_b (f := fun s => hsN m t s * wtN m (kd m t) s) (B := 2400) (n := 6) (fun s hs => Nat.le_trans (Nat.mul_le_mul (gW_le hw hx ht s hs) (vW_le hw hx ht s hs)) (by decide))
    unfold bgN
    omega
noncomputable def wgR (m : St) (t W e : Nat) : WT := wgF (gW m t) (vW m t) (bgN m t) W e (rx (gW m t) 0)
noncomputable def wgA (m : St) (t W e : Nat) (x : Int32) : Int32 := cif ((wgR m t W e).1 = 0) (-2) (cif (x = 0) (nI (wgR m t W e).1) (cif (x = nI 1) (nI 63 &&& ((wgR m t W e).2.1 ^^^ (-1))) (cif (x = nI 2) (nI 63 &&& ((wgR m t W e).2.2.1 ^^^ (-1))) (cif (x = nI 3) (nI (wgR m t W e).2.2.2.1) (nI (ld (gW m t) (x - nI 10).toNatClampNeg (wgR m t W e).2.2.2.2))))))
noncomputable def sWeigh (m : St) (t0 w0 e0 x : Int32) : Int32 × St := cif ((∃ j : Nat, j < nT m ∧ t0 = nI j) ∧ (0 ≤ w0 ∧ w0 ≤ 200000) ∧ (0 ≤ e0 ∧ e0 ≤ 2000) ∧ ((0 ≤ x ∧ x ≤ 3) ∨ (0 ≤ x - nI 10 ∧ x - nI 10 ≤ 5))) (wgA m t0.toNatClampNeg w0.toNatClampNeg e0.toNatClampNeg x, m) (-1, m)
theorem wgF_le {g w : Nat → Nat} (hg : ∀ s, s < 6 → g s ≤ 6) {B W e : Nat} : ∀ x, (wgF g w B W e x).1 ≤ x ∧ (wgF g w B W e x).2.2.2.1 ≤ 36
  | 0 => ⟨Nat.le_refl 0, Nat.zero_le _⟩
  | x + 1 => by
    obtain ⟨a, b⟩ := wgF_le hg (w := w) (B := B) (W := W) (e := e) x
    have eq : wgF g w B W e (x + 1) = stW g w B W e (wgF g w B W e x) x := by
      show stW g w B W e (wgF g w B W e x) (0 + x) = _
      rw [Nat.zero_add]
    rw [eq]
    generalize wgF g w B W e x = c at *
    unfold stW
    by_cases q : inW B W e (wx g w 6 x)
    · rw [cif_t q]
      refine ⟨by show c.1 + 1 ≤ x + 1; omega, ?_⟩
      by_cases z : c.1 = 0 ∨ nx g 6 x < c.2.2.2.1
      · show (cif (c.1 = 0 ∨ nx g 6 x < c.2.2.2.1) (nx g 6 x, x) c.2.2.2).1 ≤ 36
        rw [cif_t z]; exact nx_le hg (Nat.le_refl 6) x
      · show (cif (c.1 = 0 ∨ nx g 6 x < c.2.2.2.1) (nx g 6 x, x) c.2.2.2).1 ≤ 36
        rw [cif_f z]; exact b
    · rw [cif_f q]
      exact ⟨by omega, b⟩
theorem wg_s {g w : Nat → Nat} {B W e : Nat} (x : Nat) : wgF g w B W e (x + 1) = stW g w B W e (wgF g w B W e x) x := by
  show stW g w B W e (wgF g w B W e x) (0 + x) = _
  rw [Nat.zero_add]
/-- the reference's scratch of a weighing -/
def B9 (h h' : Hp) : Prop := h'.2 = h.2 ∧ (∀ q : Ad, q ≠ (180, 0) → q ≠ (181, 0) → q ≠ MO → h'.1 q = h.1 q) ∧ ∀ j, j < 82 ∨ 85 < j → h'.1 MO j = h.1 MO j
theorem B9.rf (h : Hp) : B9 h h := ⟨rfl, fun _ _ _ _ => rfl, fun _ _ => rfl⟩
theorem B9.tr {a b c : Hp} (x : B9 a b) (y : B9 b c) : B9 a c := ⟨y.1.trans x.1, fun q z1 z2 z3 => (y.2.1 q z1 z2 z3).trans (x.2.1 q z1 z2 z3), fun j hj => (y.2.2 j hj).trans (x.2.2 j hj)⟩
theorem B9.m {h h' : Hp} {j : Nat} {x : Int32} (k : B9 h h') (hj : 82 ≤ j ∧ j ≤ 85) : B9 h (wI h' MO j x) := ⟨k.1, fun q z1 z2 z3 => (wI_off _ _ _ _ q z3).trans (k.2.1 q z1 z2 z3), fun i hi => (wI_j (by omega)).trans (k.2.2 i hi)⟩
theorem B9.a {h h' : Hp} {s j : Nat} {x : Int32} (k : B9 h h') (hs : s = 180 ∨ s = 181) : B9 h (wI h' (s, 0) j x) := by
  have n1 : MO ≠ (s, 0) := fun z => by have := congrArg Prod.fst z; have : 1 = s := this; omega
  refine ⟨k.1, fun q z1 z2 z3 => (wI_off _ _ _ _ q (fun y => ?_)).trans (k.2.1 q z1 z2 z3), fun i hi => (congrFun (wI_off _ _ _ _ MO n1) i).trans (k.2.2 i hi)⟩
  rcases hs with rfl | rfl
  · exact z1 y
  · exact z2 y
theorem B9.n {h h' : Hp} {s b : Nat} {f : Nat → Int32} (k : B9 h h') (hs : s = 180 ∨ s = 181) : ∀ n, B9 h (wN h' (s, 0) b f n)
  | 0 => k
  | n + 1 => (B9.n k hs n).a hs
theorem B9.mo {h h' : Hp} (k : B9 h h') : mo h' = mo h := by
  funext s i
  rcases kS_c s with hm | hm | hm
  · rw [mo_0 hm, mo_0 hm]
  · have := kS_1 hm
    subst this
    cases hc : scr i with
    | true => rw [mo_1s hc, mo_1s hc]
    | false =>
      rw [mo_1 hc, mo_1 hc]
      refine k.2.2 i ?_
      exact Classical.byContradiction fun z => by
        have h1 : Nat.ble 82 i = true := Nat.ble_eq.mpr (by omega)
        have h2 : Nat.ble i 85 = true := Nat.ble_eq.mpr (by omega)
        unfold scr at hc
        rw [h1, h2] at hc
        simp at hc
  · rw [mo_2 hm, mo_2 hm]
    refine congrFun (k.2.1 (s, 0) (fun z => ?_) (fun z => ?_) (fun z => ?_)) i
    · have : s = 180 := congrArg Prod.fst z
      subst this; cases hm
    · have : s = 181 := congrArg Prod.fst z
      subst this; cases hm
    · have : s = 1 := congrArg Prod.fst z
      subst this; cases hm
theorem B9.mk {h h' : Hp} (k : B9 h h') : Mk h h' := ⟨k.1, fun a h1 h2 => k.2.1 a (fun z => by rw [z] at h2; exact absurd h2 (by decide)) (fun z => by rw [z] at h2; exact absurd h2 (by decide)) (fun z => by rw [z] at h1; exact h1 rfl)⟩
def dgs (g : Nat → Nat) (x : Nat) (h : Hp) : Prop := ∀ s, s < 6 → h.1 (180, 0) s = nI (ld g s x)
def encR (g : Nat → Nat) (b : WT) (h : Hp) : Prop := h.1 MO 82 = nI b.1 ∧ h.1 MO 83 = nI 63 &&& (b.2.1 ^^^ (-1)) ∧ h.1 MO 84 = nI 63 &&& (b.2.2.1 ^^^ (-1)) ∧ h.1 MO 85 = cif (b.1 = 0) (-1) (nI b.2.2.2.1) ∧ (¬ b.1 = 0 → ∀ s, s < 6 → h.1 (181, 0) s = nI (ld g s b.2.2.2.2))
theorem nxt_lt {g : Nat → Nat} {s x : Nat} (hs : s < 6) (h0 : x < rx g 0) (hx : x % rx g (s + 1) = rx g (s + 1) - 1) (hl : ld g s x < g s) : x + 1 < rx g 0 := by
  refine Classical.byContradiction fun z => ?_
  have e : x = rx g 0 - 1 := by omega
  obtain ⟨c, hc⟩ := rx_c g s 0 (by omega)
  rw [Nat.zero_add, rx_s g hs] at hc
  have p := rx_pos g (s + 1)
  have p0 := rx_pos g 0
  have hc0 : 0 < c := Classical.byContradiction fun y => by rw [show c = 0 by omega, Nat.zero_mul] at hc; omega
  have hq : x / rx g (s + 1) = c * (g s + 1) - 1 := by
    have e2 : x = rx g (s + 1) * (c * (g s + 1) - 1) + (rx g (s + 1) - 1) := by
      rw [Nat.mul_sub, Nat.mul_one]
      have h1 : rx g (s + 1) * (c * (g s + 1)) = rx g 0 := by rw [hc]; ac_rfl
      have h2 : 1 ≤ c * (g s + 1) := Nat.mul_pos hc0 (Nat.succ_pos _)
      have h3 : rx g (s + 1) ≤ rx g (s + 1) * (c * (g s + 1)) := Nat.le_mul_of_pos_right _ h2
      omega
    rw [e2, Nat.mul_add_div p, Nat.div_eq_of_lt (by omega), Nat.add_zero]
  unfold ld at hl
  rw [hq] at hl
  have e3 : c * (g s + 1) - 1 = (g s + 1) * (c - 1) + g s := by
    have : c = (c - 1) + 1 := by omega
    rw [this, Nat.add_mul, Nat.one_mul, Nat.mul_comm, Nat.add_sub_cancel]
    omega
  rw [e3, Nat.mul_add_mod, Nat.mod_eq_of_lt (by omega)] at hl
  omega
set_option maxRecDepth 4000 in
theorem lm_goesOn {E : En} (hok : EOK E) {h0 : Hp} {t x : Nat} {d : Nat} {Q : Option V → Hp → Prop} {g : Nat → Nat} (hg6 : ∀ s, s < 6 → g s ≤ 6) (ht16 : t < 16) (hx : x < rx g 0) {hb : Hp} (hsb : Shp hb.2) (hhs : ∀ s, s < 6 → hb.1 (125, 0) (6 * t + s) = nI (g s)) (hQ : ∀ h', (h'.2 = hb.2 ∧ ∀ q : Ad, q ≠ (180, 0) → h'.1 q = hb.1 q) → (x + 1 < rx g 0 → dgs g (x + 1) h') → Q (some (vI (bi (x + 1 < rx g 0)))) h') : ∀ k (h : Hp), k ≤ 6 → (h.2 = hb.2 ∧ ∀ q : Ad, q ≠ (180, 0) → h.1 q = hb.1 q) → (∀ j, j < k → h.1 (180, 0) j = nI (ld g j x)) → (∀ j, k ≤ j → j < 6 → h.1 (180, 0) j = nI 0) → x % rx g k = rx g k - 1 → G E m_X12_goesOn d 0 0 Q h0 2 [some (vR MO), some (vI (nI t)), some (vI (nI k - nI 1))] [] h 0 0 := by
  intro k
  induction k with
  | zero =>
    intro h hk hf hd1 hd2 hm
    have hs : Shp h.2 := by rw [hf.1]; exact hsb
    refine g_iload_n (pc' := 3) dX12_goesOn_2 rfl rfl ?_
    refine g_if_lt (tgt := 39) (pc' := 6) dX12_goesOn_3 rfl (by decide) (fun c3 => ?_) (fun c3 => ?_)
    ·
      refine g_iload_n (pc' := 40) dX12_goesOn_39 rfl rfl ?_
      refine g_if_ge (tgt := 45) (pc' := 43) dX12_goesOn_40 rfl (by decide) (fun c40 => ?_) (fun c40 => ?_)
      · exact absurd c40 (by decide)
      ·
        refine g_iconstN (n := 0) (pc' := 44) dX12_goesOn_43 rfl ?_
        refine g_zret dX12_goesOn_44 rfl (by rfl) (by decide) (by decide) ?_
        have hn : ¬ x + 1 < rx g 0 := by rw [Nat.mod_eq_of_lt hx] at hm; omega
        have q := hQ h hf (fun z => absurd z hn)
        rw [bi_f hn] at q
        exact q
    · exact absurd (by decide) c3
  | succ k ih =>
    intro h hk hf hd1 hd2 hm
    have hs : Shp h.2 := by rw [hf.1]; exact hsb
    have e1 : nI (k + 1) - nI 1 = nI k := nI_pred k
    rw [e1]
    have hk6 : k < 6 := hk
    have hl6 := ld_le g k x
    have hg := hg6 k hk6
    have eh : h.1 (125, 0) (6 * t + k) = nI (g k) := by rw [hf.2 (125, 0) (by decide)]; exact hhs k hk6
    refine g_iload_n (pc' := 3) dX12_goesOn_2 rfl rfl ?_
    refine g_if_lt (tgt := 39) (pc' := 6) dX12_goesOn_3 rfl (by decide) (fun c3 => ?_) (fun c3 => ?_)
    · exact absurd c3 (nI_pos (by omega))
    ·
      refine g_aload_n (pc' := 7) dX12_goesOn_6 rfl rfl ?_
      refine g_getS (pc' := 10) (k := 80) (b := (180, 0)) dX12_goesOn_7 rfl rfl ck_13 (by decide) fl_X12_177 rfl hs rfl ?_
      refine g_iload_n (pc' := 11) dX12_goesOn_10 rfl rfl ?_
      refine g_ialdN (pc' := 12) (v := nI (ld g k x)) dX12_goesOn_11 rfl rfl (by decide) (by omega) (hd1 k (Nat.lt_succ_self k)) ?_
      refine g_aload_n (pc' := 13) dX12_goesOn_12 rfl rfl ?_
      refine g_getS (pc' := 16) (k := 25) (b := (125, 0)) dX12_goesOn_13 rfl rfl ck_13 (by decide) fl_X12_66 rfl hs rfl ?_
      refine g_bipushN (n := 6) (pc' := 18) dX12_goesOn_16 rfl (by decide) ?_
      refine g_iload_n (pc' := 19) dX12_goesOn_18 rfl rfl ?_
      refine g_imulN (pc' := 20) dX12_goesOn_19 rfl ?_
      refine g_iload_n (pc' := 21) dX12_goesOn_20 rfl rfl ?_
      refine g_iaddN (pc' := 22) dX12_goesOn_21 rfl ?_
      refine g_ialdN (pc' := 23) (v := nI (g k)) dX12_goesOn_22 rfl rfl (by decide) (by omega) (eh) ?_
      refine g_icmp_neN (tgt := 39) (pc' := 26) dX12_goesOn_23 rfl (by decide) (by omega) (by omega) (fun c23 => ?_) (fun c23 => ?_)
      ·
        refine g_iload_n (pc' := 40) dX12_goesOn_39 rfl rfl ?_
        refine g_if_ge (tgt := 45) (pc' := 43) dX12_goesOn_40 rfl (by decide) (fun c40 => ?_) (fun c40 => ?_)
        ·
          refine g_aload_n (pc' := 46) dX12_goesOn_45 rfl rfl ?_
          refine g_getS (pc' := 49) (k := 80) (b := (180, 0)) dX12_goesOn_46 rfl rfl ck_13 (by decide) fl_X12_177 rfl hs rfl ?_
          refine g_iload_n (pc' := 50) dX12_goesOn_49 rfl rfl ?_
          refine g_dup2 (pc' := 51) dX12_goesOn_50 rfl rfl rfl ?_
          refine g_ialdN (pc' := 52) (v := nI (ld g k x)) dX12_goesOn_51 rfl rfl (by decide) (by omega) (hd1 k (Nat.lt_succ_self k)) ?_
          refine g_iconstN (n := 1) (pc' := 53) dX12_goesOn_52 rfl ?_
          refine g_iaddN (pc' := 54) dX12_goesOn_53 rfl ?_
          refine g_iastN (pc' := 55) dX12_goesOn_54 rfl rfl (by decide) (by omega) ?_
          refine g_iconstN (n := 1) (pc' := 56) dX12_goesOn_55 rfl ?_
          refine g_zret dX12_goesOn_56 rfl (by rfl) (by decide) (by decide) ?_
          obtain ⟨n1, n2, n3⟩ := nxt_d hk6 hm (by omega)
          have hlt : x + 1 < rx g 0 := nxt_lt hk6 hx hm (by omega)
          have q := hQ (wI h (180, 0) k (nI (ld g k x + 1))) ⟨hf.1, fun q z => (wI_off _ _ _ _ q z).trans (hf.2 q z)⟩ (fun _ j hj => ?_)
          · rw [bi_t hlt] at q
            exact q
          rw [wI_at]
          by_cases y : j = k
          · rw [if_pos ⟨rfl, y⟩, y, n2]
          · rw [if_neg (fun q => y q.2)]
            rcases Nat.lt_or_gt_of_ne y with z | z
            · rw [n1 j z]; exact hd1 j (by omega)
            · rw [n3 j z hj]; exact hd2 j (by omega) hj
        · exact absurd (nI_pos' (by omega)) c40
      ·
        refine g_aload_n (pc' := 27) dX12_goesOn_26 rfl rfl ?_
        refine g_getS (pc' := 30) (k := 80) (b := (180, 0)) dX12_goesOn_27 rfl rfl ck_13 (by decide) fl_X12_177 rfl hs rfl ?_
        refine g_iload_n (pc' := 31) dX12_goesOn_30 rfl rfl ?_
        refine g_iconstN (n := 0) (pc' := 32) dX12_goesOn_31 rfl ?_
        refine g_iastN (pc' := 33) dX12_goesOn_32 rfl rfl (by decide) (by omega) ?_
        refine g_iinc (v := nI k - nI 1) (pc' := 36) dX12_goesOn_33 rfl rfl (by rw [Int32.sub_eq_add_neg]; rfl) (by decide) rfl ?_
        try simp only [List.set]
        refine g_goto (tgt := 2) dX12_goesOn_36 (by decide) ?_
        refine ih _ (by omega) ⟨hf.1, fun q z => (wI_off _ _ _ _ q z).trans (hf.2 q z)⟩ (fun j hj => ?_) (fun j h1 h2 => ?_) (nxt_m hk6 hm c23)
        · rw [wI_j (by omega)]; exact hd1 j (by omega)
        · rw [wI_at]
          by_cases y : j = k
          · rw [if_pos ⟨rfl, y⟩]
          · rw [if_neg (fun q => y q.2)]; exact hd2 j (by omega) h2
set_option maxRecDepth 4000 in
theorem cm_goesOn {E : En} (hok : EOK E) {h : Hp} (hs : Shp h.2) {t x : Nat} {g : Nat → Nat} (hg6 : ∀ s, s < 6 → g s ≤ 6) (ht16 : t < 16) (hx : x < rx g 0) (hhs : ∀ s, s < 6 → h.1 (125, 0) (6 * t + s) = nI (g s)) (hdg : dgs g x h) : Call E m_X12_goesOn 0 0 0 [vR MO, vI (nI t)] h (fun r h' => r = some (vI (bi (x + 1 < rx g 0))) ∧ (h'.2 = h.2 ∧ ∀ q : Ad, q ≠ (180, 0) → h'.1 q = h.1 q) ∧ (x + 1 < rx g 0 → dgs g (x + 1) h')) := by
  refine Call.enter hok (by decide) (Nat.le_of_ble_eq_true rfl) ?_
  show G E m_X12_goesOn 0 0 0 _ h 0 [some (vR MO), some (vI (nI t)), none] [] h 0 0
  refine g_iconstN (n := 5) (pc' := 1) dX12_goesOn_0 rfl ?_
  refine g_istore_n (pc' := 2) dX12_goesOn_1 rfl (by decide) rfl ?_
  try simp only [List.set]
  exact lm_goesOn hok hg6 ht16 hx hs hhs (fun h1 f1 d1 => ⟨rfl, f1, d1⟩) 6 h (Nat.le_refl 6) ⟨rfl, fun _ _ => rfl⟩ hdg (fun j h1 h2 => by omega) (by rw [rx_6]; omega)
