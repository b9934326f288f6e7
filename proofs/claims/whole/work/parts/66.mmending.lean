/-! one after the other -/
def fo {β : Type} (step : β → Nat → β) (base : Nat) : Nat → β → β
  | 0, b => b
  | n + 1, b => step (fo step base n b) (base + n)
theorem fo_s {β : Type} (step : β → Nat → β) (base n : Nat) (b : β) : fo step base (n + 1) b = step (fo step base n b) (base + n) := rfl
theorem fo_add {β : Type} (step : β → Nat → β) (base a : Nat) (b : β) : ∀ c, fo step base (a + c) b = fo step (base + a) c (fo step base a b)
  | 0 => rfl
  | c + 1 => by
    rw [← Nat.add_assoc, fo_s, fo_add step base a b c, fo_s, Nat.add_assoc]
theorem fo_id {β : Type} {step : β → Nat → β} {base : Nat} {b : β} : ∀ {n : Nat}, (∀ x, base ≤ x → x < base + n → step b x = b) → fo step base n b = b
  | 0, _ => rfl
  | n + 1, q => by
    rw [fo_s, fo_id (n := n) (fun x h1 h2 => q x h1 (by omega))]
    exact q _ (by omega) (by omega)
def p2 (n : Nat) : Nat := 2 ^ n
theorem p2_s (n : Nat) : p2 (n + 1) = p2 n + p2 n := by unfold p2; rw [Nat.pow_succ]; omega
theorem p2_pos (n : Nat) : 0 < p2 n := Nat.two_pow_pos n
theorem p2_le {a b : Nat} (h : a ≤ b) : p2 a ≤ p2 b := Nat.pow_le_pow_right (by decide) h
theorem p2_16 {n : Nat} (h : n ≤ 16) : p2 n ≤ 65536 := p2_le (b := 16) h
theorem shl_p2 {n : Nat} (h : n ≤ 16) : nI 1 <<< (nI n &&& 31) = nI (p2 n) := by
  have key : ∀ n, n < 17 → nI 1 <<< (nI n &&& 31) = nI (p2 n) := by decide +kernel
  exact key n (by omega)
theorem bt_nI (x : Nat) {j : Nat} (hj : j < 32) : bt (nI x) j = x.testBit j := by
  show (BitVec.ofNat 32 x).getLsbD j = _
  rw [BitVec.getLsbD_ofNat, decide_eq_true hj, Bool.true_and]
theorem hasB_nI (x : Nat) {j : Nat} (hj : j < 32) : hasB (nI x) j ↔ x.testBit j = true := by rw [hasB_iff _ hj, bt_nI x hj]
/-- a high part and a low one -/
theorem tb_hi (t a y j : Nat) (hy : y < p2 t) : (p2 t * a + y).testBit j = if j < t then y.testBit j else a.testBit (j - t) := by
  unfold p2 at *
  rw [Nat.testBit_two_pow_mul_add a hy]
theorem tb_lo {y t j : Nat} (hy : y < p2 t) (hj : t ≤ j) : y.testBit j = false := Nat.testBit_lt_two_pow (Nat.lt_of_lt_of_le hy (p2_le hj))
theorem tb_0 (t a j : Nat) (hj : j < t) : (p2 t * a).testBit j = false := by
  have q := tb_hi t a 0 j (p2_pos t)
  rw [Nat.add_zero, if_pos hj, Nat.zero_testBit] at q
  exact q
theorem tb_up (t a y j : Nat) (hy : y < p2 t) (hj : t ≤ j) : (p2 t * a + y).testBit j = (p2 t * a).testBit j := by
  have q := tb_hi t a 0 j (p2_pos t)
  rw [Nat.add_zero] at q
  rw [tb_hi t a y j hy, q, if_neg (by omega), if_neg (by omega)]
theorem tb_p2 (t j : Nat) : (p2 t).testBit j = decide (t = j) := by unfold p2; rw [Nat.testBit_two_pow]
/-- the sum over a set's bits -/
def bS (f : Nat → Nat) (x : Nat) (n : Nat) : Nat := smN (fun t => if x.testBit t then f t else 0) n
theorem smN_two {f g e : Nat → Nat} : ∀ {n : Nat}, (∀ k, k < n → e k = f k + g k) → smN e n = smN f n + smN g n
  | 0, _ => rfl
  | n + 1, h => by
    rw [smN_s, smN_s, smN_s, smN_two (n := n) (fun k hk => h k (by omega)), h n (Nat.lt_succ_self n)]
    omega
theorem bS_add (f : Nat → Nat) (t a y n : Nat) (hy : y < p2 t) : bS f (p2 t * a + y) n = bS f (p2 t * a) n + bS f y n := by
  refine smN_two fun k _ => ?_
  by_cases q : k < t
  · rw [tb_0 t a k q, tb_hi t a y k hy, if_pos q]
    simp
  · rw [tb_lo hy (by omega), tb_up t a y k hy (by omega)]
    simp
theorem smN_0 : ∀ n, smN (fun _ => 0) n = 0
  | 0 => rfl
  | n + 1 => by rw [smN_s, smN_0 n]
theorem bS_0 (f : Nat → Nat) (n : Nat) : bS f 0 n = 0 := by
  unfold bS
  rw [smN_congr (g := fun _ => 0) (fun k _ => by rw [Nat.zero_testBit]; rfl), smN_0]
theorem bS_p2 (f : Nat → Nat) {t n : Nat} (ht : t < n) : bS f (p2 t) n = f t := by
  unfold bS
  rw [smN_add1 (f := fun _ => 0) (b := t) (x := f t) ht rfl (by rw [tb_p2]; simp) (fun k _ hk => by rw [tb_p2, decide_eq_false (fun z => hk z.symm)]; rfl), smN_0]
  omega
theorem bS_b {f : Nat → Nat} {x B n : Nat} (h : ∀ k, k < n → f k ≤ B) : bS f x n ≤ B * n := smN_b (fun k hk => by
  by_cases q : x.testBit k = true
  · rw [if_pos q]; exact h k hk
  · rw [if_neg q]; omega)
theorem smN_mono {f g : Nat → Nat} : ∀ {n : Nat}, (∀ k, k < n → f k ≤ g k) → smN f n ≤ smN g n
  | 0, _ => Nat.le_refl 0
  | n + 1, h => by
    have a := smN_mono (n := n) (fun k hk => h k (by omega))
    have b := h n (Nat.lt_succ_self n)
    rw [smN_s, smN_s]
    omega
theorem smN_ext {f : Nat → Nat} {n : Nat} : ∀ {N : Nat}, n ≤ N → (∀ k, n ≤ k → k < N → f k = 0) → smN f N = smN f n
  | 0, h, _ => by rw [show n = 0 by omega]
  | N + 1, h, q => by
    by_cases e : n = N + 1
    · rw [e]
    · rw [smN_s, q N (by omega) (Nat.lt_succ_self N), Nat.add_zero]
      exact smN_ext (by omega) (fun k h1 h2 => q k h1 (by omega))
/-! mending -/
def miN (m : St) (s : Nat) : Nat := (m 191 s).toNatClampNeg
theorem mi_n {m : St} (hx : Wx m) {s : Nat} (hs : s < 6) : m 191 s = nI (miN m s) ∧ miN m s ≤ 600 := cl_of (n := 600) rfl (by decide) (hx.mi s hs)
def mnN (m : St) (t : Nat) : Nat := smN (fun s => miN m s * (pcN m (kd m t) s - hsN m t s)) 6
theorem nI_mul (a b : Nat) : nI a * nI b = nI (a * b) := (Int32.ofNat_mul a b).symm
theorem mnd_n {m : St} (hw : Wf m) (hx : Wx m) {t : Nat} (ht : t < nT m) : mndT m t = nI (mnN m t) ∧ mnN m t ≤ 21600 := by
  refine ⟨sm_nat fun s hs => ?_, ?_⟩
  · obtain ⟨p1, p2⟩ := pc_n hx (hw.kd ht).2 hs
    obtain ⟨h1, h2⟩ := hs_n hw hx ht hs
    rw [p1, h1, (mi_n hx hs).1, nI_sub h2, nI_mul]
  · exact smN_b (B := 3600) (n := 6) fun s hs => by
      have a := (pc_n hx (hw.kd ht).2 hs).2
      have b := (mi_n hx hs).2
      exact Nat.le_trans (Nat.mul_le_mul b (show pcN m (kd m t) s - hsN m t s ≤ 6 by omega)) (by decide)
def cM (m : St) (t : Nat) : Prop := m 118 t = 0 ∧ 0 < lck m t
noncomputable def wM (m : St) (t : Nat) : Nat := wfr m (kd m t) + 1
theorem wM_le {m : St} (hw : Wf m) (t : Nat) : wM m t ≤ 11 := by
  have a : wfr m (kd m t) ≤ nF m := cnt_le _ _
  have b := hw.f.2
  unfold wM
  omega
noncomputable def tX (m : St) (x : Nat) : Nat := bS (mnN m) x (nT m)
noncomputable def cX (m : St) (x : Nat) : Nat := bS (wM m) x (nT m)
theorem tX_le {m : St} (hw : Wf m) (hx : Wx m) {x n : Nat} (hn : n ≤ nT m) : bS (mnN m) x n ≤ 345600 := by
  have a := bS_b (f := mnN m) (x := x) (B := 21600) (n := n) (fun k hk => (mnd_n hw hx (by omega)).2)
  have b := hw.t.2
  omega
theorem cX_le {m : St} (hw : Wf m) {x n : Nat} (hn : n ≤ nT m) : bS (wM m) x n ≤ 176 := by
  have a := bS_b (f := wM m) (x := x) (B := 11) (n := n) (fun k _ => wM_le hw k)
  have b := hw.t.2
  omega
def sbM (m : St) (x : Nat) : Prop := ∀ t, t < nT m → x.testBit t = true → cM m t
noncomputable def stM (m : St) (A : Nat) (b : Nat × Nat × Nat) (x : Nat) : Nat × Nat × Nat := cif ((sbM m x ∧ tX m x ≤ A) ∧ ¬ (cX m x < b.2.1 ∨ (cX m x = b.2.1 ∧ b.2.2 ≤ tX m x))) (x, cX m x, tX m x) b
noncomputable def mdF (m : St) (A x : Nat) : Nat × Nat × Nat := fo (stM m A) 0 x (0, 0, 0)
theorem md_le {m : St} (hw : Wf m) (hx : Wx m) (A : Nat) : ∀ x, x ≤ p2 (nT m) → (mdF m A x).1 < p2 (nT m) ∧ (mdF m A x).2.1 ≤ 176 ∧ (mdF m A x).2.2 ≤ 345600
  | 0, _ => ⟨p2_pos _, Nat.zero_le _, Nat.zero_le _⟩
  | x + 1, h => by
    have ih := md_le hw hx A x (by omega)
    show (stM m A (mdF m A x) (0 + x)).1 < _ ∧ _
    rw [Nat.zero_add]
    show (stM m A (mdF m A x) x).1 < _ ∧ (fo (stM m A) 0 (x + 1) (0, 0, 0)).2.1 ≤ _ ∧ (fo (stM m A) 0 (x + 1) (0, 0, 0)).2.2 ≤ _
    rw [fo_s, Nat.zero_add]
    show (stM m A (mdF m A x) x).1 < _ ∧ (stM m A (mdF m A x) x).2.1 ≤ _ ∧ (stM m A (mdF m A x) x).2.2 ≤ _
    unfold stM
    by_cases q : (sbM m x ∧ tX m x ≤ A) ∧ ¬ (cX m x < (mdF m A x).2.1 ∨ (cX m x = (mdF m A x).2.1 ∧ (mdF m A x).2.2 ≤ tX m x))
    · rw [cif_t q]
      exact ⟨h, cX_le hw (Nat.le_refl _), tX_le hw hx (Nat.le_refl _)⟩
    · rw [cif_f q]
      exact ih
theorem md_1 (m : St) (A : Nat) : mdF m A 1 = (0, 0, 0) := by
  show stM m A (0, 0, 0) (0 + 0) = _
  have a : tX m 0 = 0 := bS_0 _ _
  have b : cX m 0 = 0 := bS_0 _ _
  exact cif_f (fun z => z.2 (Or.inr ⟨b, Nat.zero_le _⟩))
theorem md_s (m : St) (A x : Nat) : mdF m A (x + 1) = stM m A (mdF m A x) x := by
  show stM m A (mdF m A x) (0 + x) = _
  rw [Nat.zero_add]
noncomputable abbrev cMf (m : St) (t : Nat) : Int32 := cif (cM m t) ((1 : Int32) <<< (nI t &&& 31)) 0
theorem sub_mask {m : St} (hT : nT m ≤ 16) {x : Nat} (hx : x < p2 (nT m)) : nI x &&& (orr (cMf m) (nT m) ^^^ (-1)) = 0 ↔ sbM m x := by
  constructor
  · intro e t ht q
    have z := congrArg (fun y => bt y t) e
    simp only [bt_and, bt_0, bt_neg _ (show t < 32 by omega), bt_nI x (show t < 32 by omega), q, Bool.true_and] at z
    have w : bt (orr (cMf m) (nT m)) t = true := by simpa using z
    obtain ⟨i, hi, y⟩ := (bt_orr _ t _).mp w
    obtain ⟨y1, y2⟩ := bt_cif.mp y
    rw [bt_one (by omega), decide_eq_true_eq] at y2
    rw [y2]
    exact y1
  · intro e
    refine bt_eq fun j hj => ?_
    rw [bt_and, bt_0, bt_neg _ hj, bt_nI x hj]
    constructor
    · intro z
      rw [Bool.and_eq_true] at z
      have hj2 : j < nT m := Classical.byContradiction fun y => by rw [tb_lo hx (by omega)] at z; exact absurd z.1 (by decide)
      have w : bt (orr (cMf m) (nT m)) j = true := (bt_orr _ j _).mpr ⟨j, hj2, bt_cif.mpr ⟨e j hj2 z.1, by rw [bt_one hj]; exact decide_eq_true rfl⟩⟩
      rw [w] at z
      exact absurd z.2 (by decide)
    · intro z
      cases z
noncomputable def mdA (m : St) (A : Nat) (x : Int32) : Int32 := cif (x = 0) (nI (mdF m A (p2 (nT m))).1) (cif (x = nI 1) (nI (mdF m A (p2 (nT m))).2.2) (nI (mdF m A (p2 (nT m))).2.1))
noncomputable def sMending (m : St) (a0 x : Int32) : Int32 × St := cif ((0 ≤ a0 ∧ a0 ≤ 6000) ∧ 0 ≤ x ∧ x ≤ 2) (mdA m a0.toNatClampNeg x, m) (-1, m)
set_option maxRecDepth 4000 in
theorem lm_mending1 {E : En} (hok : EOK E) {h h0 : Hp} (hs : Shp h.2) (hw : Wf (mo h)) (hx : Wx (mo h)) {A : Nat} (hA6 : A ≤ 6000) (x : Int32) {d : Nat} (hd : 3 ≤ d) {Q : Option V → Hp → Prop} (hQ : G E m_X12_mending d 0 0 Q h0 66 [some (vR MO), some (vI (nI A)), some (vI x), some (vI (orr (cMf (mo h)) (nT (mo h)))), none, none, none, none, none, none, none] [] h 0 0) : ∀ n t : Nat, t ≤ nT (mo h) → nT (mo h) - t = n → G E m_X12_mending d 0 0 Q h0 31 [some (vR MO), some (vI (nI A)), some (vI x), some (vI (orr (cMf (mo h)) t)), some (vI (nI t)), none, none, none, none, none, none] [] (h) 0 0 := by
  have hNw : h.1 MO 2 = nI (nW (mo h)) := hw.w.1
  have hNwb := hw.w.2
  have hC : h.1 MO 30 = nI (nC (mo h)) := hw.c.1
  have hCb := hw.c.2
  have hK : h.1 MO 3 = nI (nK (mo h)) := hw.k.1
  have hKb := hw.k.2
  have hT : h.1 MO 4 = nI (nT (mo h)) := hw.t.1
  have hTb := hw.t.2
  have hF : h.1 MO 5 = nI (nF (mo h)) := hw.f.1
  have hFb := hw.f.2
  have hRc : h.1 MO 59 = nI (nR (mo h)) := hw.r.1
  have hRb := hw.r.2
  have hG : h.1 MO 60 = nI (nGf (mo h)) := hw.g.1
  have hGb := hw.g.2
  have hA : h.1 MO 70 = nI (nA (mo h)) := hw.a.1
  have hAb := hw.a.2
  have hTl : h.1 MO 1 = nI (nTl (mo h)) := hw.tl.1
  have hTlb := hw.tl.2
  intro n
  induction n with
  | zero =>
    intro t h1 h2
    refine g_iload (pc' := 33) dX12_mending_31 rfl rfl ?_
    refine g_aload_n (pc' := 34) dX12_mending_33 rfl rfl ?_
    refine g_getIv (v := nI (nT (mo h))) (pc' := 37) (k := 4) dX12_mending_34 rfl rfl ck_13 (by decide) fl_X12_211 rfl (hT) ?_
    refine g_icmp_geN (tgt := 66) (pc' := 40) dX12_mending_37 rfl (by decide) (by omega) (by omega) (fun c37 => ?_) (fun c37 => ?_)
    ·
      have e : t = nT (mo h) := by omega
      subst e
      refine G.drop 4 ?_
      simp only [List.set]
      exact hQ
    · exact absurd c37 (by omega)
  | succ n ih =>
    intro t h1 h2
    refine g_iload (pc' := 33) dX12_mending_31 rfl rfl ?_
    refine g_aload_n (pc' := 34) dX12_mending_33 rfl rfl ?_
    refine g_getIv (v := nI (nT (mo h))) (pc' := 37) (k := 4) dX12_mending_34 rfl rfl ck_13 (by decide) fl_X12_211 rfl (hT) ?_
    refine g_icmp_geN (tgt := 66) (pc' := 40) dX12_mending_37 rfl (by decide) (by omega) (by omega) (fun c37 => ?_) (fun c37 => ?_)
    · exact absurd c37 (by omega)
    ·
      refine g_iload_n (pc' := 41) dX12_mending_40 rfl rfl ?_
      refine g_aload_n (pc' := 42) dX12_mending_41 rfl rfl ?_
      refine g_iload (pc' := 44) dX12_mending_42 rfl rfl ?_
      refine g_invV (pc' := 47) (cm_canMend hok hs hw (t := t) (by omega)) dX12_mending_44 rfl rfl ck_13 rfl ml_X12_541 im_X12_canMend sl_X12_canMend in_X12 co_X12_canMend pd_X12_canMend rfl (by omega) (by decide) ⟨by decide, by decide⟩ (Nat.le_of_ble_eq_true rfl) ?_
      rintro _ _ ⟨rfl, rfl⟩ -
      refine g_ifB_eq (tgt := 57) (pc' := 50) dX12_mending_47 rfl (by decide) (fun c47 => ?_) (fun c47 => ?_)
      ·
        refine g_iconst (v := 0) (pc' := 58) dX12_mending_57 rfl (by decide) ?_
        refine g_ior (pc' := 59) dX12_mending_58 rfl ?_
        refine g_istore_n (pc' := 60) dX12_mending_59 rfl (by decide) rfl ?_
        try simp only [List.set]
        refine g_iincN (k := 1) (pc' := 63) dX12_mending_60 rfl rfl (by decide) rfl ?_
        try simp only [List.set]
        refine g_goto (tgt := 31) dX12_mending_63 (by decide) ?_
        have q := ih (t + 1) (by omega) (by omega)
        have eo : orr (cMf (mo h)) (t + 1) = orr (cMf (mo h)) t ||| 0 := congrArg (fun z => orr (cMf (mo h)) t ||| z) (cif_f c47)
        rw [eo] at q
        exact q
      ·
        refine g_iconst (v := 1) (pc' := 51) dX12_mending_50 rfl (by decide) ?_
        refine g_iload (pc' := 53) dX12_mending_51 rfl rfl ?_
        refine g_ishl (pc' := 54) dX12_mending_53 rfl ?_
        refine g_goto (tgt := 58) dX12_mending_54 (by decide) ?_
        refine g_ior (pc' := 59) dX12_mending_58 rfl ?_
        refine g_istore_n (pc' := 60) dX12_mending_59 rfl (by decide) rfl ?_
        try simp only [List.set]
        refine g_iincN (k := 1) (pc' := 63) dX12_mending_60 rfl rfl (by decide) rfl ?_
        try simp only [List.set]
        refine g_goto (tgt := 31) dX12_mending_63 (by decide) ?_
        have q := ih (t + 1) (by omega) (by omega)
        have eo : orr (cMf (mo h)) (t + 1) = orr (cMf (mo h)) t ||| ((1 : Int32) <<< (nI t &&& 31)) := congrArg (fun z => orr (cMf (mo h)) t ||| z) (cif_t c47)
        rw [eo] at q
        exact q
set_option maxRecDepth 4000 in
theorem lm_mending3 {E : En} (hok : EOK E) {h h0 : Hp} (hs : Shp h.2) (hw : Wf (mo h)) (hx : Wx (mo h)) {A : Nat} (hA6 : A ≤ 6000) (x : Int32) {y : Nat} (b : Nat × Nat × Nat) {d : Nat} (hd : 3 ≤ d) {Q : Option V → Hp → Prop} (hQ : G E m_X12_mending d 0 0 Q h0 167 [some (vR MO), some (vI (nI A)), some (vI x), some (vI (orr (cMf (mo h)) (nT (mo h)))), some (vI (nI b.1)), some (vI (nI b.2.1)), some (vI (nI b.2.2)), some (vI (nI y)), some (vI (nI (tX (mo h) y))), some (vI (nI (cX (mo h) y))), none] [] h 0 0) : ∀ n t : Nat, t ≤ nT (mo h) → nT (mo h) - t = n → G E m_X12_mending d 0 0 Q h0 110 [some (vR MO), some (vI (nI A)), some (vI x), some (vI (orr (cMf (mo h)) (nT (mo h)))), some (vI (nI b.1)), some (vI (nI b.2.1)), some (vI (nI b.2.2)), some (vI (nI y)), some (vI (nI (bS (mnN (mo h)) y t))), some (vI (nI (bS (wM (mo h)) y t))), some (vI (nI t))] [] (h) 0 0 := by
  have hNw : h.1 MO 2 = nI (nW (mo h)) := hw.w.1
  have hNwb := hw.w.2
  have hC : h.1 MO 30 = nI (nC (mo h)) := hw.c.1
  have hCb := hw.c.2
  have hK : h.1 MO 3 = nI (nK (mo h)) := hw.k.1
  have hKb := hw.k.2
  have hT : h.1 MO 4 = nI (nT (mo h)) := hw.t.1
  have hTb := hw.t.2
  have hF : h.1 MO 5 = nI (nF (mo h)) := hw.f.1
  have hFb := hw.f.2
  have hRc : h.1 MO 59 = nI (nR (mo h)) := hw.r.1
  have hRb := hw.r.2
  have hG : h.1 MO 60 = nI (nGf (mo h)) := hw.g.1
  have hGb := hw.g.2
  have hA : h.1 MO 70 = nI (nA (mo h)) := hw.a.1
  have hAb := hw.a.2
  have hTl : h.1 MO 1 = nI (nTl (mo h)) := hw.tl.1
  have hTlb := hw.tl.2
  intro n
  induction n with
  | zero =>
    intro t h1 h2
    refine g_iload (pc' := 112) dX12_mending_110 rfl rfl ?_
    refine g_aload_n (pc' := 113) dX12_mending_112 rfl rfl ?_
    refine g_getIv (v := nI (nT (mo h))) (pc' := 116) (k := 4) dX12_mending_113 rfl rfl ck_13 (by decide) fl_X12_211 rfl (hT) ?_
    refine g_icmp_geN (tgt := 167) (pc' := 119) dX12_mending_116 rfl (by decide) (by omega) (by omega) (fun c116 => ?_) (fun c116 => ?_)
    ·
      have e : t = nT (mo h) := by omega
      subst e
      refine G.drop 10 ?_
      simp only [List.set]
      exact hQ
    · exact absurd c116 (by omega)
  | succ n ih =>
    intro t h1 h2
    refine g_iload (pc' := 112) dX12_mending_110 rfl rfl ?_
    refine g_aload_n (pc' := 113) dX12_mending_112 rfl rfl ?_
    refine g_getIv (v := nI (nT (mo h))) (pc' := 116) (k := 4) dX12_mending_113 rfl rfl ck_13 (by decide) fl_X12_211 rfl (hT) ?_
    refine g_icmp_geN (tgt := 167) (pc' := 119) dX12_mending_116 rfl (by decide) (by omega) (by omega) (fun c116 => ?_) (fun c116 => ?_)
    · exact absurd c116 (by omega)
    ·
      refine g_iload (pc' := 121) dX12_mending_119 rfl rfl ?_
      refine g_iload (pc' := 123) dX12_mending_121 rfl rfl ?_
      refine g_invS (pc' := 126) (cm_has hok _ _) dX12_mending_123 rfl ml_X12_440 st_X12_has in_X12 co_X12_has pd_X12_has rfl (by omega) (by decide) ⟨by decide, by decide⟩ (Nat.le_of_ble_eq_true rfl) ?_
      rintro _ _ ⟨rfl, rfl⟩ -
      refine g_ifB_ne (tgt := 132) (pc' := 129) dX12_mending_126 rfl (by decide) (fun c126 => ?_) (fun c126 => ?_)
      ·
        have c126' := (hasB_nI y (show t < 32 by omega)).mp c126
        refine g_iload (pc' := 134) dX12_mending_132 rfl rfl ?_
        refine g_aload_n (pc' := 135) dX12_mending_134 rfl rfl ?_
        refine g_iload (pc' := 137) dX12_mending_135 rfl rfl ?_
        refine g_invV (pc' := 140) (cm_mendTime hok hs hw (t := t) (by omega)) dX12_mending_137 rfl rfl ck_13 rfl ml_X12_544 im_X12_mendTime sl_X12_mendTime in_X12 co_X12_mendTime pd_X12_mendTime rfl (by omega) (by decide) ⟨by decide, by decide⟩ (Nat.le_of_ble_eq_true rfl) ?_
        rintro _ _ ⟨rfl, rfl⟩ -
        rw [(mnd_n hw hx (show t < nT (mo h) by omega)).1]
        have hmb := (mnd_n hw hx (show t < nT (mo h) by omega)).2
        refine g_iaddN (pc' := 141) dX12_mending_140 rfl ?_
        refine g_istore (pc' := 143) dX12_mending_141 rfl (by decide) rfl ?_
        try simp only [List.set]
        have hkt := (hw.kd (t := t) (by omega)).2
        have hwb : wfr (mo h) (kd (mo h) t) ≤ nF (mo h) := cnt_le _ _
        refine g_iload (pc' := 145) dX12_mending_143 rfl rfl ?_
        refine g_aload_n (pc' := 146) dX12_mending_145 rfl rfl ?_
        refine g_aload_n (pc' := 147) dX12_mending_146 rfl rfl ?_
        refine g_getS (pc' := 150) (k := 15) (b := (115, 0)) dX12_mending_147 rfl rfl ck_13 (by decide) fl_X12_35 rfl hs rfl ?_
        refine g_iload (pc' := 152) dX12_mending_150 rfl rfl ?_
        refine g_ialdN (pc' := 153) (v := nI (kd (mo h) t)) dX12_mending_152 rfl rfl (by decide) (by omega) ((hw.kd (by omega)).1) ?_
        refine g_invV (pc' := 156) (cm_waitingFor hok hs hw (k := kd (mo h) t) (by omega)) dX12_mending_153 rfl rfl ck_13 rfl ml_X12_400 im_X12_waitingFor sl_X12_waitingFor in_X12 co_X12_waitingFor pd_X12_waitingFor rfl (by omega) (by decide) ⟨by decide, by decide⟩ (Nat.le_of_ble_eq_true rfl) ?_
        rintro _ _ ⟨rfl, rfl⟩ -
        refine g_iconstN (n := 1) (pc' := 157) dX12_mending_156 rfl ?_
        refine g_iaddN (pc' := 158) dX12_mending_157 rfl ?_
        refine g_iaddN (pc' := 159) dX12_mending_158 rfl ?_
        refine g_istore (pc' := 161) dX12_mending_159 rfl (by decide) rfl ?_
        try simp only [List.set]
        refine g_iincN (k := 1) (pc' := 164) dX12_mending_161 rfl rfl (by decide) rfl ?_
        try simp only [List.set]
        refine g_goto (tgt := 110) dX12_mending_164 (by decide) ?_
        have q := ih (t + 1) (by omega) (by omega)
        unfold bS at q
        rw [smN_s, smN_s] at q
        rw [if_pos c126', if_pos c126'] at q
        exact q
      ·
        have c126' : ¬ y.testBit t = true := fun z => c126 ((hasB_nI y (show t < 32 by omega)).mpr z)
        refine g_goto (tgt := 161) dX12_mending_129 (by decide) ?_
        refine g_iincN (k := 1) (pc' := 164) dX12_mending_161 rfl rfl (by decide) rfl ?_
        try simp only [List.set]
        refine g_goto (tgt := 110) dX12_mending_164 (by decide) ?_
        have q := ih (t + 1) (by omega) (by omega)
        unfold bS at q
        rw [smN_s, smN_s] at q
        rw [if_neg c126', if_neg c126', Nat.add_zero, Nat.add_zero] at q
        exact q
set_option maxRecDepth 4000 in
theorem lm_mending2 {E : En} (hok : EOK E) {h h0 : Hp} (hs : Shp h.2) (hw : Wf (mo h)) (hx : Wx (mo h)) {A : Nat} (hA6 : A ≤ 6000) (x : Int32) {d : Nat} (hd : 3 ≤ d) {Q : Option V → Hp → Prop} (hQ : Q (some (vI (mdA (mo h) A x))) h) : ∀ n y : Nat, y ≤ p2 (nT (mo h)) → p2 (nT (mo h)) - y = n → (1 ≤ y) → G E m_X12_mending d 0 0 Q h0 78 [some (vR MO), some (vI (nI A)), some (vI x), some (vI (orr (cMf (mo h)) (nT (mo h)))), some (vI (nI (mdF (mo h) A y).1)), some (vI (nI (mdF (mo h) A y).2.1)), some (vI (nI (mdF (mo h) A y).2.2)), some (vI (nI y)), none, none, none] [] (h) 0 0 := by
  have hNw : h.1 MO 2 = nI (nW (mo h)) := hw.w.1
  have hNwb := hw.w.2
  have hC : h.1 MO 30 = nI (nC (mo h)) := hw.c.1
  have hCb := hw.c.2
  have hK : h.1 MO 3 = nI (nK (mo h)) := hw.k.1
  have hKb := hw.k.2
  have hT : h.1 MO 4 = nI (nT (mo h)) := hw.t.1
  have hTb := hw.t.2
  have hF : h.1 MO 5 = nI (nF (mo h)) := hw.f.1
  have hFb := hw.f.2
  have hRc : h.1 MO 59 = nI (nR (mo h)) := hw.r.1
  have hRb := hw.r.2
  have hG : h.1 MO 60 = nI (nGf (mo h)) := hw.g.1
  have hGb := hw.g.2
  have hA : h.1 MO 70 = nI (nA (mo h)) := hw.a.1
  have hAb := hw.a.2
  have hTl : h.1 MO 1 = nI (nTl (mo h)) := hw.tl.1
  have hTlb := hw.tl.2
  have hp2 := p2_16 hTb
  intro n
  induction n with
  | zero =>
    intro y h1 h2 hi
    have hml := md_le hw hx A y (by omega)
    refine g_iload (pc' := 80) dX12_mending_78 rfl rfl ?_
    refine g_iconstN (n := 1) (pc' := 81) dX12_mending_80 rfl ?_
    refine g_aload_n (pc' := 82) dX12_mending_81 rfl rfl ?_
    refine g_getIv (v := nI (nT (mo h))) (pc' := 85) (k := 4) dX12_mending_82 rfl rfl ck_13 (by decide) fl_X12_211 rfl (hT) ?_
    refine g_ishl (pc' := 86) dX12_mending_85 rfl ?_
    rw [shl_p2 hTb]
    refine g_icmp_geN (tgt := 215) (pc' := 89) dX12_mending_86 rfl (by decide) (by omega) (by omega) (fun c86 => ?_) (fun c86 => ?_)
    ·
      refine g_iload_n (pc' := 216) dX12_mending_215 rfl rfl ?_
      refine g_if_ne (tgt := 224) (pc' := 219) dX12_mending_216 rfl (by decide) (fun c216 => ?_) (fun c216 => ?_)
      ·
        refine g_iload_n (pc' := 225) dX12_mending_224 rfl rfl ?_
        refine g_iconstN (n := 1) (pc' := 226) dX12_mending_225 rfl ?_
        refine g_icmp_ne (tgt := 234) (pc' := 229) dX12_mending_226 rfl (by decide) (fun c226 => ?_) (fun c226 => ?_)
        ·
          refine g_iload (pc' := 236) dX12_mending_234 rfl rfl ?_
          refine g_iret dX12_mending_236 rfl (by decide) (by decide) ?_
          have e : y = p2 (nT (mo h)) := by omega
          subst e
          rw [show mdA (mo h) A x = _ from (cif_f c216).trans (cif_f c226)] at hQ
          exact hQ
        ·
          refine g_iload (pc' := 231) dX12_mending_229 rfl rfl ?_
          refine g_goto (tgt := 236) dX12_mending_231 (by decide) ?_
          refine g_iret dX12_mending_236 rfl (by decide) (by decide) ?_
          have e : y = p2 (nT (mo h)) := by omega
          subst e
          rw [show mdA (mo h) A x = _ from (cif_f c216).trans (cif_t c226)] at hQ
          exact hQ
      ·
        refine g_iload (pc' := 221) dX12_mending_219 rfl rfl ?_
        refine g_goto (tgt := 236) dX12_mending_221 (by decide) ?_
        refine g_iret dX12_mending_236 rfl (by decide) (by decide) ?_
        have e : y = p2 (nT (mo h)) := by omega
        subst e
        rw [show mdA (mo h) A x = _ from cif_t c216] at hQ
        exact hQ
    · exact absurd c86 (by omega)
  | succ n ih =>
    intro y h1 h2 hi
    have hml := md_le hw hx A y (by omega)
    refine g_iload (pc' := 80) dX12_mending_78 rfl rfl ?_
    refine g_iconstN (n := 1) (pc' := 81) dX12_mending_80 rfl ?_
    refine g_aload_n (pc' := 82) dX12_mending_81 rfl rfl ?_
    refine g_getIv (v := nI (nT (mo h))) (pc' := 85) (k := 4) dX12_mending_82 rfl rfl ck_13 (by decide) fl_X12_211 rfl (hT) ?_
    refine g_ishl (pc' := 86) dX12_mending_85 rfl ?_
    rw [shl_p2 hTb]
    refine g_icmp_geN (tgt := 215) (pc' := 89) dX12_mending_86 rfl (by decide) (by omega) (by omega) (fun c86 => ?_) (fun c86 => ?_)
    · exact absurd c86 (by omega)
    ·
      refine g_iload (pc' := 91) dX12_mending_89 rfl rfl ?_
      refine g_iload_n (pc' := 92) dX12_mending_91 rfl rfl ?_
      refine g_iconst (v := -1) (pc' := 93) dX12_mending_92 rfl (by decide) ?_
      refine g_ixor (pc' := 94) dX12_mending_93 rfl ?_
      refine g_iand (pc' := 95) dX12_mending_94 rfl ?_
      refine g_if_eq (tgt := 101) (pc' := 98) dX12_mending_95 rfl (by decide) (fun c95 => ?_) (fun c95 => ?_)
      ·
        refine g_iconstN (n := 0) (pc' := 102) dX12_mending_101 rfl ?_
        refine g_istore (pc' := 104) dX12_mending_102 rfl (by decide) rfl ?_
        try simp only [List.set]
        refine g_iconstN (n := 0) (pc' := 105) dX12_mending_104 rfl ?_
        refine g_istore (pc' := 107) dX12_mending_105 rfl (by decide) rfl ?_
        try simp only [List.set]
        refine g_iconstN (n := 0) (pc' := 108) dX12_mending_107 rfl ?_
        refine g_istore (pc' := 110) dX12_mending_108 rfl (by decide) rfl ?_
        try simp only [List.set]
        have c95s := (sub_mask hTb (show y < p2 (nT (mo h)) by omega)).mp c95
        have htl : tX (mo h) y ≤ 345600 := tX_le hw hx (Nat.le_refl _)
        have hcl : cX (mo h) y ≤ 176 := cX_le hw (Nat.le_refl _)
        have e0 : bS (mnN (mo h)) y 0 = 0 := rfl
        refine lm_mending3 hok hs hw hx hA6 x (mdF (mo h) A y) hd ?_ _ 0 (Nat.zero_le _) rfl
        refine g_iload (pc' := 169) dX12_mending_167 rfl rfl ?_
        refine g_iload_n (pc' := 170) dX12_mending_169 rfl rfl ?_
        refine g_icmp_gtN (tgt := 209) (pc' := 173) dX12_mending_170 rfl (by decide) (by omega) (by omega) (fun c170 => ?_) (fun c170 => ?_)
        ·
          refine g_iincN (k := 1) (pc' := 212) dX12_mending_209 rfl rfl (by decide) rfl ?_
          try simp only [List.set]
          refine g_goto (tgt := 78) dX12_mending_212 (by decide) ?_
          refine G.drop 8 ?_
          refine G.drop 9 ?_
          simp only [List.set]
          have q := ih (y + 1) (by omega) (by omega) (by omega)
          rw [md_s, show stM (mo h) A (mdF (mo h) A y) y = _ from cif_f (fun z => by have := z.1.2; omega)] at q
          exact q
        ·
          refine g_iload (pc' := 175) dX12_mending_173 rfl rfl ?_
          refine g_iload (pc' := 177) dX12_mending_175 rfl rfl ?_
          refine g_icmp_ltN (tgt := 209) (pc' := 180) dX12_mending_177 rfl (by decide) (by omega) (by omega) (fun c177 => ?_) (fun c177 => ?_)
          ·
            refine g_iincN (k := 1) (pc' := 212) dX12_mending_209 rfl rfl (by decide) rfl ?_
            try simp only [List.set]
            refine g_goto (tgt := 78) dX12_mending_212 (by decide) ?_
            refine G.drop 8 ?_
            refine G.drop 9 ?_
            simp only [List.set]
            have q := ih (y + 1) (by omega) (by omega) (by omega)
            rw [md_s, show stM (mo h) A (mdF (mo h) A y) y = _ from cif_f (fun z => z.2 (Or.inl (by omega)))] at q
            exact q
          ·
            refine g_iload (pc' := 182) dX12_mending_180 rfl rfl ?_
            refine g_iload (pc' := 184) dX12_mending_182 rfl rfl ?_
            refine g_icmp_neN (tgt := 197) (pc' := 187) dX12_mending_184 rfl (by decide) (by omega) (by omega) (fun c184 => ?_) (fun c184 => ?_)
            ·
              refine g_iload (pc' := 199) dX12_mending_197 rfl rfl ?_
              refine g_istore (pc' := 201) dX12_mending_199 rfl (by decide) rfl ?_
              try simp only [List.set]
              refine g_iload (pc' := 203) dX12_mending_201 rfl rfl ?_
              refine g_istore (pc' := 205) dX12_mending_203 rfl (by decide) rfl ?_
              try simp only [List.set]
              refine g_iload (pc' := 207) dX12_mending_205 rfl rfl ?_
              refine g_istore (pc' := 209) dX12_mending_207 rfl (by decide) rfl ?_
              try simp only [List.set]
              refine g_iincN (k := 1) (pc' := 212) dX12_mending_209 rfl rfl (by decide) rfl ?_
              try simp only [List.set]
              refine g_goto (tgt := 78) dX12_mending_212 (by decide) ?_
              refine G.drop 8 ?_
              refine G.drop 9 ?_
              simp only [List.set]
              have q := ih (y + 1) (by omega) (by omega) (by omega)
              rw [md_s, show stM (mo h) A (mdF (mo h) A y) y = _ from cif_t ⟨⟨c95s, by omega⟩, fun z => by omega⟩] at q
              exact q
            ·
              refine g_iload (pc' := 189) dX12_mending_187 rfl rfl ?_
              refine g_iload (pc' := 191) dX12_mending_189 rfl rfl ?_
              refine g_icmp_ltN (tgt := 197) (pc' := 194) dX12_mending_191 rfl (by decide) (by omega) (by omega) (fun c191 => ?_) (fun c191 => ?_)
              ·
                refine g_iload (pc' := 199) dX12_mending_197 rfl rfl ?_
                refine g_istore (pc' := 201) dX12_mending_199 rfl (by decide) rfl ?_
                try simp only [List.set]
                refine g_iload (pc' := 203) dX12_mending_201 rfl rfl ?_
                refine g_istore (pc' := 205) dX12_mending_203 rfl (by decide) rfl ?_
                try simp only [List.set]
                refine g_iload (pc' := 207) dX12_mending_205 rfl rfl ?_
                refine g_istore (pc' := 209) dX12_mending_207 rfl (by decide) rfl ?_
                try simp only [List.set]
                refine g_iincN (k := 1) (pc' := 212) dX12_mending_209 rfl rfl (by decide) rfl ?_
                try simp only [List.set]
                refine g_goto (tgt := 78) dX12_mending_212 (by decide) ?_
                refine G.drop 8 ?_
                refine G.drop 9 ?_
                simp only [List.set]
                have q := ih (y + 1) (by omega) (by omega) (by omega)
                rw [md_s, show stM (mo h) A (mdF (mo h) A y) y = _ from cif_t ⟨⟨c95s, by omega⟩, fun z => by omega⟩] at q
                exact q
              ·
                refine g_goto (tgt := 209) dX12_mending_194 (by decide) ?_
                refine g_iincN (k := 1) (pc' := 212) dX12_mending_209 rfl rfl (by decide) rfl ?_
                try simp only [List.set]
                refine g_goto (tgt := 78) dX12_mending_212 (by decide) ?_
                refine G.drop 8 ?_
                refine G.drop 9 ?_
                simp only [List.set]
                have q := ih (y + 1) (by omega) (by omega) (by omega)
                rw [md_s, show stM (mo h) A (mdF (mo h) A y) y = _ from cif_f (fun z => z.2 (Or.inr ⟨by omega, by omega⟩))] at q
                exact q
      ·
        refine g_goto (tgt := 209) dX12_mending_98 (by decide) ?_
        refine g_iincN (k := 1) (pc' := 212) dX12_mending_209 rfl rfl (by decide) rfl ?_
        try simp only [List.set]
        refine g_goto (tgt := 78) dX12_mending_212 (by decide) ?_
        have q := ih (y + 1) (by omega) (by omega) (by omega)
        rw [md_s, show stM (mo h) A (mdF (mo h) A y) y = _ from cif_f (fun z => c95 ((sub_mask hTb (by omega)).mpr z.1.1))] at q
        exact q
set_option maxRecDepth 4000 in
theorem cm_mending {E : En} (hok : EOK E) {h : Hp} (hs : Shp h.2) (hw : Wf (mo h)) (hx : Wx (mo h)) (a0 : Int32) (x : Int32) : Call E m_X12_mending 3 0 0 [vR MO, vI a0, vI x] h (fun r h' => r = some (vI (sMending (mo h) a0 x).1) ∧ mo h' = (sMending (mo h) a0 x).2 ∧ Mk h h') := by
  have hNw : h.1 MO 2 = nI (nW (mo h)) := hw.w.1
  have hNwb := hw.w.2
  have hC : h.1 MO 30 = nI (nC (mo h)) := hw.c.1
  have hCb := hw.c.2
  have hK : h.1 MO 3 = nI (nK (mo h)) := hw.k.1
  have hKb := hw.k.2
  have hT : h.1 MO 4 = nI (nT (mo h)) := hw.t.1
  have hTb := hw.t.2
  have hF : h.1 MO 5 = nI (nF (mo h)) := hw.f.1
  have hFb := hw.f.2
  have hRc : h.1 MO 59 = nI (nR (mo h)) := hw.r.1
  have hRb := hw.r.2
  have hG : h.1 MO 60 = nI (nGf (mo h)) := hw.g.1
  have hGb := hw.g.2
  have hA : h.1 MO 70 = nI (nA (mo h)) := hw.a.1
  have hAb := hw.a.2
  have hTl : h.1 MO 1 = nI (nTl (mo h)) := hw.tl.1
  have hTlb := hw.tl.2
  refine Call.enter hok (by decide) (Nat.le_of_ble_eq_true rfl) ?_
  show G E m_X12_mending 3 0 0 _ h 0 [some (vR MO), some (vI a0), some (vI x), none, none, none, none, none, none, none, none] [] h 0 0
  refine g_iload_n (pc' := 1) dX12_mending_0 rfl rfl ?_
  refine g_i2l (pc' := 2) dX12_mending_1 rfl ?_
  refine g_lconst (v := 0) (pc' := 3) dX12_mending_2 rfl rfl ?_
  refine g_ldc2 (pc' := 6) dX12_mending_3 rfl kc_X12_539 ?_
  refine g_invS (pc' := 9) (c_liesI hok _ (0) (6000) rfl (by decide) (by decide)) dX12_mending_6 rfl ml_X12_203 st_X12_lies in_X12 co_X12_lies pd_X12_lies rfl (by omega) (by decide) ⟨by decide, by decide⟩ (Nat.le_of_ble_eq_true rfl) ?_
  rintro _ _ ⟨rfl, rfl⟩ -
  refine g_ifB_eq (tgt := 24) (pc' := 12) dX12_mending_9 rfl (by decide) (fun c9 => ?_) (fun c9 => ?_)
  ·
    refine g_iconst (v := -1) (pc' := 25) dX12_mending_24 rfl (by decide) ?_
    refine g_iret dX12_mending_25 rfl (by decide) (by decide) ?_
    have e : sMending (mo h) a0 x = (-1, mo h) := cif_f (fun z => c9 z.1)
    rw [e]
    exact ⟨rfl, rfl, Mk.rf h⟩
  ·
    obtain ⟨A, hA6, rfl⟩ := rng (n := 6000) rfl (by decide) c9
    refine g_iload_n (pc' := 13) dX12_mending_12 rfl rfl ?_
    refine g_i2l (pc' := 14) dX12_mending_13 rfl ?_
    refine g_lconst (v := 0) (pc' := 15) dX12_mending_14 rfl rfl ?_
    refine g_ldc2 (pc' := 18) dX12_mending_15 rfl kc_X12_513 ?_
    refine g_invS (pc' := 21) (c_liesI hok _ (0) (2) rfl (by decide) (by decide)) dX12_mending_18 rfl ml_X12_203 st_X12_lies in_X12 co_X12_lies pd_X12_lies rfl (by omega) (by decide) ⟨by decide, by decide⟩ (Nat.le_of_ble_eq_true rfl) ?_
    rintro _ _ ⟨rfl, rfl⟩ -
    refine g_ifB_ne (tgt := 26) (pc' := 24) dX12_mending_21 rfl (by decide) (fun c21 => ?_) (fun c21 => ?_)
    ·
      refine g_iconst (v := 0) (pc' := 27) dX12_mending_26 rfl (by decide) ?_
      refine g_istore_n (pc' := 28) dX12_mending_27 rfl (by decide) rfl ?_
      try simp only [List.set]
      refine g_iconstN (n := 0) (pc' := 29) dX12_mending_28 rfl ?_
      refine g_istore (pc' := 31) dX12_mending_29 rfl (by decide) rfl ?_
      try simp only [List.set]
      refine lm_mending1 hok hs hw hx hA6 x (Nat.le_refl _) ?_ _ 0 (Nat.zero_le _) rfl
      refine g_iconstN (n := 0) (pc' := 67) dX12_mending_66 rfl ?_
      refine g_istore (pc' := 69) dX12_mending_67 rfl (by decide) rfl ?_
      try simp only [List.set]
      refine g_iconstN (n := 0) (pc' := 70) dX12_mending_69 rfl ?_
      refine g_istore (pc' := 72) dX12_mending_70 rfl (by decide) rfl ?_
      try simp only [List.set]
      refine g_iconstN (n := 0) (pc' := 73) dX12_mending_72 rfl ?_
      refine g_istore (pc' := 75) dX12_mending_73 rfl (by decide) rfl ?_
      try simp only [List.set]
      refine g_iconstN (n := 1) (pc' := 76) dX12_mending_75 rfl ?_
      refine g_istore (pc' := 78) dX12_mending_76 rfl (by decide) rfl ?_
      try simp only [List.set]
      have e : sMending (mo h) (nI A) x = (mdA (mo h) A x, mo h) := by unfold sMending; simp only [nI_clamp (show A < 2 ^ 31 by omega)]; exact cif_t ⟨c9, c21⟩
      rw [e]
      have q := lm_mending2 hok hs hw hx hA6 x (Q := fun r h' => r = some (vI (mdA (mo h) A x)) ∧ mo h' = mo h ∧ Mk h h') (h0 := h) (Nat.le_refl 3) ⟨rfl, rfl, Mk.rf h⟩ _ 1 (p2_pos _) rfl (Nat.le_refl 1)
      rw [md_1] at q
      exact q
    ·
      refine g_iconst (v := -1) (pc' := 25) dX12_mending_24 rfl (by decide) ?_
      refine g_iret dX12_mending_25 rfl (by decide) (by decide) ?_
      have e : sMending (mo h) (nI A) x = (-1, mo h) := cif_f (fun z => c21 z.2)
      rw [e]
      exact ⟨rfl, rfl, Mk.rf h⟩
