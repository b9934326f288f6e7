theorem tb_add {x t : Nat} (hx : x < p2 t) (j : Nat) : (p2 t + x).testBit j = (x.testBit j || decide (j = t)) := by
  rcases Nat.lt_trichotomy j t with z | z | z
  · show (2 ^ t + x).testBit j = _
    rw [Nat.testBit_two_pow_add_gt z, decide_eq_false (by omega), Bool.or_false]
  · subst z
    show (2 ^ j + x).testBit j = _
    rw [Nat.testBit_two_pow_add_eq, Nat.testBit_lt_two_pow hx, decide_eq_true rfl]; rfl
  · have e := p2_s t
    have l := p2_le (show t + 1 ≤ j by omega)
    rw [Nat.testBit_lt_two_pow (show p2 t + x < 2 ^ j from Nat.lt_of_lt_of_le (by omega) l), Nat.testBit_lt_two_pow (show x < 2 ^ j from Nat.lt_of_lt_of_le (by omega) l), decide_eq_false (by omega)]; rfl
theorem tb_addf {x t : Nat} (hx : x < p2 t) : tb (p2 t + x) = fun w => tb x w ∨ w = t := funext fun j => propext (by
  show (p2 t + x).testBit j = true ↔ _
  rw [tb_add hx, Bool.or_eq_true, decide_eq_true_eq])
theorem or_add {x t : Nat} (ht : t < 16) (hx : x < p2 t) : nI x ||| ((1 : Int32) <<< (nI t &&& 31)) = nI (p2 t + x) := bt_ext fun j hj => by
  rw [bt_or, bt_nI _ hj, bt_one (by omega), bt_nI _ hj, tb_add hx]
theorem Mb_congr {A B : Nat → Nat → Prop} {F T : Nat} (h : ∀ t f, t < T → f < F → (A t f ↔ B t f)) {U : Nat → Prop} (k : Mb A F T U) : Mb B F T U := by
  obtain ⟨φ, h1, h2⟩ := k
  exact ⟨φ, fun t ht u => ⟨(h1 t ht u).1, (h t _ ht (h1 t ht u).1).mp (h1 t ht u).2⟩, h2⟩
theorem mx_congr {A B : Nat → Nat → Prop} {F T : Nat} (h : ∀ t f, t < T → f < F → (A t f ↔ B t f)) (S : Nat → Prop) : mx A F T S = mx B F T S := by
  refine mx_of ?_ (fun W a b => mx_up a (Mb_congr h b))
  obtain ⟨W, a, b, c⟩ := mx_in B F T S
  exact ⟨W, a, Mb_congr (fun t f ht hf => (h t f ht hf).symm) b, c⟩
theorem vd_congr {A B : Nat → Nat → Prop} {F T n x : Nat} (h : ∀ t f, t < T → f < F → (A t f ↔ B t f)) (k : vd A F T n x) : vd B F T n x := ⟨k.1, k.2.1, fun t ht q => (k.2.2 t ht q).elim fun f hf => ⟨f, hf.1, (h t f ht hf.1).mp hf.2⟩⟩
theorem isO_congr {A B : Nat → Nat → Prop} {F T n x : Nat} (h : ∀ t f, t < T → f < F → (A t f ↔ B t f)) (k : isO A F T n x) : isO B F T n x := by
  refine ⟨vd_congr h k.1, fun y hy => ?_⟩
  have q := k.2 y (vd_congr (fun t f ht hf => (h t f ht hf).symm) hy)
  unfold obt at *
  rw [mx_congr h, mx_congr h] at q
  exact q
theorem cnt_hi {x t : Nat} (hx : x < p2 t) {N : Nat} (h : t ≤ N) : cnt (tb x) N = cnt (tb x) t := cnt_ext h (fun k h1 _ => vtb_hi (Nat.lt_of_lt_of_le hx (p2_le h1)))
/-- the greedy choice under way -/
def GS (A : Nat → Nat → Prop) (T n t x : Nat) (o : Nat → Option Nat) : Prop := x < p2 t ∧ cnt (tb x) t ≤ n ∧ GI A t o (tb x) ∧ GX A t o (tb x) ∧ ∀ U : Nat → Prop, Mb A 10 T U → ∀ t', t' ≤ t → cnt U t' ≤ cnt (tb x) t'
theorem GS.z (A : Nat → Nat → Prop) (T n : Nat) : GS A T n 0 0 (fun _ => none) := by
  have e : tb 0 = fun _ => False := funext fun j => propext ⟨fun z => Bool.false_ne_true ((Nat.zero_testBit j).symm.trans z), fun z => z.elim⟩
  refine ⟨by decide, Nat.zero_le _, by rw [e]; exact (GI.start A).1, by rw [e]; exact (GI.start A).2, fun U _ t' h => ?_⟩
  rw [show t' = 0 by omega]
  exact Nat.le_refl _
theorem GS.rng {A : Nat → Nat → Prop} {T n t x : Nat} {o : Nat → Option Nat} (k : GS A T n t x o) {f w : Nat} (hf : f < 10) (e : o f = some w) : w < t := k.2.2.1.lt w (k.2.2.1.g hf e)
theorem GS.no {A : Nat → Nat → Prop} {T n t x : Nat} {o : Nat → Option Nat} (k : GS A T n t x o) (htT : t < T) {s : Nat → Prop} (q : Fa A (fun _ => False) t 10 o s) : GS A T n (t + 1) x o := by
  obtain ⟨k1, k2, k3, k4, k5⟩ := k
  have g := k3.no k4 q
  have e := cnt_hi k1 (Nat.le_succ t)
  refine ⟨Nat.lt_trans k1 (p2_lt t), by rw [e]; exact k2, g.1, g.2, fun U hU t' ht' => ?_⟩
  by_cases z : t' = t + 1
  · rw [z]; exact g.1.dom g.2 htT hU
  · exact k5 U hU t' (by omega)
theorem GS.yes {A : Nat → Nat → Prop} {T n t x : Nat} {o o' : Nat → Option Nat} (k : GS A T n t x o) (htT : t < T) (hn : cnt (tb x) t < n) {s : Nat → Prop} (q : Su A s t o o') : GS A T n (t + 1) (p2 t + x) o' ∧ cnt (tb (p2 t + x)) (t + 1) = cnt (tb x) t + 1 := by
  obtain ⟨k1, k2, k3, k4, k5⟩ := k
  have g := k3.yes k4 q
  rw [← tb_addf k1] at g
  have e0 : ∀ t', t' ≤ t → cnt (tb (p2 t + x)) t' = cnt (tb x) t' := fun t' h => cnt_congr (fun j hj => by rw [tb_addf k1]; exact ⟨fun z => z.elim id (fun y => by omega), Or.inl⟩)
  have e : cnt (tb (p2 t + x)) (t + 1) = cnt (tb x) t + 1 := by
    rw [cnt_t (by rw [tb_addf k1]; exact Or.inr rfl), e0 t (Nat.le_refl t)]
  refine ⟨⟨by rw [p2_s]; omega, by rw [e]; omega, g.1, g.2, fun U hU t' ht' => ?_⟩, e⟩
  by_cases z : t' = t + 1
  · rw [z]; exact g.1.dom g.2 htT hU
  · rw [e0 t' (by omega)]; exact k5 U hU t' (by omega)
theorem GS.done {A : Nat → Nat → Prop} {T n t x : Nat} {o : Nat → Option Nat} (k : GS A T n t x o) (htT : t ≤ T) (q : t = T ∨ n ≤ cnt (tb x) t) : isO A 10 T n x ∧ mx A 10 T (tb x) = cnt (tb x) T := by
  obtain ⟨k1, k2, k3, k4, k5⟩ := k
  have e := cnt_hi k1 htT
  refine ⟨gr_opt (Nat.lt_of_lt_of_le k1 (p2_le htT)) k3.mb (by rw [e]; exact k2) (fun U hU hn t' ht' => ?_), mx_eq k3.mb⟩
  by_cases z : t' ≤ t
  · exact k5 U hU t' z
  · have h1 := cnt_up (p := tb x) (show t ≤ t' by omega)
    have h2 := cnt_up (p := U) ht'
    rcases q with q | q
    · omega
    · omega
set_option maxRecDepth 4000 in
theorem lx_vleast {E : En} (hok : EOK E) {al : Nat → Int32} {T n : Nat} (hT : T ≤ 16) (hn : n ≤ 6) {h h0 : Hp} {Q : Option V → Hp → Prop} (hQ : ∀ x h2, VB h h2 → isO (Af al) 10 T n x ∧ mx (Af al) 10 T (tb x) = cnt (tb x) T → Q (some (vI (nI x))) h2) : ∀ c t x (o : Nat → Option Nat) (sn : Int32) (h1 : Hp), t ≤ T → T - t = c → Shp h1.2 → VB h h1 → PH al o sn h1 → GS (Af al) T n t x o → G E m_X3_leastSet 12 0 0 Q h0 16 [some (vR (12, 0)), some (vI (nI T)), some (vI (nI n)), some (vI (nI x)), some (vI (nI (cnt (tb x) t))), some (vI (nI t))] [] h1 0 0 := by
  intro c
  induction c with
  | zero =>
    intro t x o sn h1 ht hc hs vb hp gs
    have hcl := cnt_le (tb x) t
    refine g_iload (pc' := 18) dX3_leastSet_16 rfl rfl ?_
    refine g_iload_n (pc' := 19) dX3_leastSet_18 rfl rfl ?_
    refine g_icmp_geN (tgt := 66) (pc' := 22) dX3_leastSet_19 rfl (by decide) (by omega) (by omega) (fun c19 => ?_) (fun c19 => ?_)
    ·
      refine g_iload_n (pc' := 67) dX3_leastSet_66 rfl rfl ?_
      refine g_iret dX3_leastSet_67 rfl (by decide) (by decide) ?_
      exact hQ x h1 vb (gs.done ht (Or.inl (by omega)))
    · exact absurd c19 (by omega)
  | succ c ih =>
    intro t x o sn h1 ht hc hs vb hp gs
    have hcl := cnt_le (tb x) t
    have hp2 : PH al o 0 (wI h1 (12, 0) 2 (nI 0)) := ⟨hp.1, hp.2.1, rfl⟩
    have e0 : ss 0 = fun _ => False := funext fun f => propext ⟨ss_0 f, fun z => z.elim⟩
    refine g_iload (pc' := 18) dX3_leastSet_16 rfl rfl ?_
    refine g_iload_n (pc' := 19) dX3_leastSet_18 rfl rfl ?_
    refine g_icmp_geN (tgt := 66) (pc' := 22) dX3_leastSet_19 rfl (by decide) (by omega) (by omega) (fun c19 => ?_) (fun c19 => ?_)
    · exact absurd c19 (by omega)
    ·
      refine g_iload (pc' := 24) dX3_leastSet_22 rfl rfl ?_
      refine g_bipushN (n := 16) (pc' := 26) dX3_leastSet_24 rfl (by decide) ?_
      refine g_icmp_geN (tgt := 66) (pc' := 29) dX3_leastSet_26 rfl (by decide) (by omega) (by omega) (fun c26 => ?_) (fun c26 => ?_)
      · exact absurd c26 (by omega)
      ·
        refine g_iload (pc' := 31) dX3_leastSet_29 rfl rfl ?_
        refine g_iload_n (pc' := 32) dX3_leastSet_31 rfl rfl ?_
        refine g_icmp_geN (tgt := 66) (pc' := 35) dX3_leastSet_32 rfl (by decide) (by omega) (by omega) (fun c32 => ?_) (fun c32 => ?_)
        ·
          refine g_iload_n (pc' := 67) dX3_leastSet_66 rfl rfl ?_
          refine g_iret dX3_leastSet_67 rfl (by decide) (by decide) ?_
          exact hQ x h1 vb (gs.done ht (Or.inr c32))
        ·
          refine g_aload_n (pc' := 36) dX3_leastSet_35 rfl rfl ?_
          refine g_iconstN (n := 0) (pc' := 37) dX3_leastSet_36 rfl ?_
          refine g_putI (pc' := 40) (k := 2) dX3_leastSet_37 rfl rfl ck_4 (by decide) fl_X3_28 rfl rfl rfl rfl ?_
          refine g_aload_n (pc' := 41) dX3_leastSet_40 rfl rfl ?_
          refine g_iload (pc' := 43) dX3_leastSet_41 rfl rfl ?_
          refine g_iconstN (n := 0) (pc' := 44) dX3_leastSet_43 rfl ?_
          refine g_invV (pc' := 47) (ff_all hok (al := al) (o := o) (fun f w hf e => by have := gs.rng hf e; omega) 10 0 rfl t 0 _ (by omega) (Nat.zero_le _) (by exact hs) hp2) dX3_leastSet_44 rfl rfl ck_4 rfl ml_X3_32 im_X3_findFamily sl_X3_findFamily in_X3 co_X3_findFamily pd_X3_findFamily rfl (by omega) (by decide) ⟨by decide, by decide⟩ (Nat.le_of_ble_eq_true rfl) ?_
          rintro _ h2 ⟨P, rfl, v2, ff⟩ -
          have hs1 := hs
          have hs : Shp h2.2 := by rw [v2.1]; exact hs1
          refine g_ifB_eq (tgt := 60) (pc' := 50) dX3_leastSet_47 rfl (by decide) (fun c47 => ?_) (fun c47 => ?_)
          ·
            refine g_iincN (k := 1) (pc' := 63) dX3_leastSet_60 rfl rfl (by decide) rfl ?_
            try simp only [List.set]
            refine g_goto (tgt := 16) dX3_leastSet_63 (by decide) ?_
            obtain ⟨o2, sn2, p2_, _, f2⟩ := ff
            obtain ⟨rfl, f2⟩ := f2 c47
            rw [e0] at f2
            have g2 := gs.no (by omega) f2
            have q := ih (t + 1) x _ sn2 h2 (by omega) (by omega) hs (vb.a.tr v2) p2_ g2
            rw [cnt_hi gs.1 (Nat.le_succ t)] at q
            exact q
          ·
            refine g_iload_n (pc' := 51) dX3_leastSet_50 rfl rfl ?_
            refine g_iconst (v := 1) (pc' := 52) dX3_leastSet_51 rfl (by decide) ?_
            refine g_iload (pc' := 54) dX3_leastSet_52 rfl rfl ?_
            refine g_ishl (pc' := 55) dX3_leastSet_54 rfl ?_
            refine g_ior (pc' := 56) dX3_leastSet_55 rfl ?_
            rw [or_add (by omega) gs.1]
            refine g_istore_n (pc' := 57) dX3_leastSet_56 rfl (by decide) rfl ?_
            try simp only [List.set]
            refine g_iincN (k := 1) (pc' := 60) dX3_leastSet_57 rfl rfl (by decide) rfl ?_
            try simp only [List.set]
            refine g_iincN (k := 1) (pc' := 63) dX3_leastSet_60 rfl rfl (by decide) rfl ?_
            try simp only [List.set]
            refine g_goto (tgt := 16) dX3_leastSet_63 (by decide) ?_
            obtain ⟨o2, sn2, p2_, s2, _⟩ := ff
            have g2 := gs.yes (by omega) (by omega) (s2 c47)
            have q := ih (t + 1) (p2 t + x) o2 sn2 h2 (by omega) (by omega) hs (vb.a.tr v2) p2_ g2.1
            rw [g2.2] at q
            exact q
set_option maxRecDepth 4000 in
theorem cx_vleast {E : En} (hok : EOK E) {h : Hp} (hs : Shp h.2) {T n : Nat} (hT : T ≤ 16) (hn : n ≤ 6) : Call E m_X3_leastSet 12 0 0 [vR (12, 0), vI (nI T), vI (nI n)] h (fun r h' => ∃ x, r = some (vI (nI x)) ∧ VB h h' ∧ isO (Af (h.1 (59, 0))) 10 T n x ∧ mx (Af (h.1 (59, 0))) 10 T (tb x) = cnt (tb x) T) := by
  refine Call.enter hok (by decide) (Nat.le_of_ble_eq_true rfl) ?_
  show G E m_X3_leastSet 12 0 0 _ h 0 [some (vR (12, 0)), some (vI (nI T)), some (vI (nI n)), none, none, none] [] h 0 0
  refine g_aload_n (pc' := 1) dX3_leastSet_0 rfl rfl ?_
  refine g_getS (pc' := 4) (k := 1) (b := (60, 0)) dX3_leastSet_1 rfl rfl ck_4 (by decide) fl_X3_15 rfl hs rfl ?_
  refine g_iconst (v := -1) (pc' := 5) dX3_leastSet_4 rfl (by decide) ?_
  refine g_invS (pc' := 8) (cx_fill hok (a := (60, 0)) rfl (by decide) _) dX3_leastSet_5 rfl ml_X3_22 st_J7_fill_53178 in_J7 co_J7_fill_53178 pd_J7_fill_53178 rfl (by omega) (by decide) ⟨by decide, by decide⟩ (Nat.le_of_ble_eq_true rfl) ?_
  rintro _ _ ⟨rfl, rfl⟩ -
  refine g_iconstN (n := 0) (pc' := 9) dX3_leastSet_8 rfl ?_
  refine g_istore_n (pc' := 10) dX3_leastSet_9 rfl (by decide) rfl ?_
  try simp only [List.set]
  refine g_iconstN (n := 0) (pc' := 11) dX3_leastSet_10 rfl ?_
  refine g_istore (pc' := 13) dX3_leastSet_11 rfl (by decide) rfl ?_
  try simp only [List.set]
  refine g_iconstN (n := 0) (pc' := 14) dX3_leastSet_13 rfl ?_
  refine g_istore (pc' := 16) dX3_leastSet_14 rfl (by decide) rfl ?_
  try simp only [List.set]
  have e9 : ∀ q : Ad, q ≠ (60, 0) → (wN h (60, 0) 0 (fun _ => -1) 10).1 q = h.1 q := fun q z => wN_off _ _ _ _ z 10
  have e2 : (wN h (60, 0) 0 (fun _ => -1) 10).2 = h.2 := wN_2 _ _ _ _ 10
  refine lx_vleast (h := h) (al := h.1 (59, 0)) hok hT hn (fun x h2 v2 i2 => ⟨x, rfl, v2, i2⟩) _ 0 0 (fun _ => none) (h.1 (12, 0) 2) _ (Nat.zero_le _) rfl (by rw [e2]; exact hs) ⟨e2, fun q _ z => e9 q z⟩ ⟨fun t _ => by rw [e9 (59, 0) (by decide)], fun f hf => ?_, by rw [e9 (12, 0) (by decide)]⟩ (GS.z _ _ _)
  have q := wN_at h (60, 0) 0 (fun _ => -1) 10 hf
  rw [Nat.zero_add] at q
  exact q
set_option maxRecDepth 4000 in
theorem cx_allow {E : En} (hok : EOK E) {h : Hp} (hs : Shp h.2) {t : Nat} (ht : t < 16) (x : Int32) : Call E m_X3_allow 1 0 0 [vR (12, 0), vI (nI t), vI x] h (fun r h' => r = none ∧ wI h (59, 0) t x = h') := by
  refine Call.enter hok (by decide) (Nat.le_of_ble_eq_true rfl) ?_
  show G E m_X3_allow 1 0 0 _ h 0 [some (vR (12, 0)), some (vI (nI t)), some (vI x)] [] h 0 0
  refine g_iload_n (pc' := 1) dX3_allow_0 rfl rfl ?_
  refine g_iconstN (n := 0) (pc' := 2) dX3_allow_1 rfl ?_
  refine g_bipushN (n := 15) (pc' := 4) dX3_allow_2 rfl (by decide) ?_
  refine g_invSN (pc' := 7) (cx_within hok _ _ _) dX3_allow_4 rfl nn_X3_18 st_X11_within in_X11 co_X11_within pd_X11_within rfl (by omega) (by decide) ⟨by decide, by decide⟩ (Nat.le_of_ble_eq_true rfl) ?_
  rintro _ _ ⟨rfl, rfl⟩ -
  refine g_ifB_eq (tgt := 17) (pc' := 10) dX3_allow_7 rfl (by decide) (fun c7 => ?_) (fun c7 => ?_)
  · exact absurd ⟨nI_le (Nat.zero_le _) (by omega), nI_le (show t ≤ 15 by omega) (by omega)⟩ c7
  ·
    refine g_aload_n (pc' := 11) dX3_allow_10 rfl rfl ?_
    refine g_getS (pc' := 14) (k := 0) (b := (59, 0)) dX3_allow_11 rfl rfl ck_4 (by decide) fl_X3_9 rfl hs rfl ?_
    refine g_iload_n (pc' := 15) dX3_allow_14 rfl rfl ?_
    refine g_iload_n (pc' := 16) dX3_allow_15 rfl rfl ?_
    refine g_iastN (pc' := 17) dX3_allow_16 rfl rfl (by decide) (by omega) ?_
    refine g_vret dX3_allow_17 rfl (by decide) (by decide) ?_
    exact ⟨rfl, rfl⟩
