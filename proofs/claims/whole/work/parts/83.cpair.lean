def tI : Option Nat → Int32
  | none => -1
  | some w => nI w
def ss (x : Int32) (f : Nat) : Prop := f < 10 ∧ hasB x f
abbrev Af (al : Nat → Int32) (t f : Nat) : Prop := hasB (al t) f
theorem ss_or {x : Int32} {i : Nat} (hi : i < 10) (f : Nat) : ss (x ||| ((1 : Int32) <<< (nI i &&& 31))) f ↔ ss x f ∨ f = i := by
  unfold ss
  constructor
  · rintro ⟨a, b⟩
    rcases (hasB_or (show i < 32 by omega) (show f < 32 by omega)).mp b with z | z
    · exact Or.inl ⟨a, z⟩
    · exact Or.inr z
  · rintro (⟨a, b⟩ | rfl)
    · exact ⟨a, (hasB_or (show i < 32 by omega) (show f < 32 by omega)).mpr (Or.inl b)⟩
    · exact ⟨hi, (hasB_or (show f < 32 by omega) (show f < 32 by omega)).mpr (Or.inr rfl)⟩
theorem ss_0 (f : Nat) : ¬ ss 0 f := fun z => hasB_0 (show f < 32 by have := z.1; omega) z.2
/-- the pairing under way -/
def PH (al : Nat → Int32) (o : Nat → Option Nat) (sn : Int32) (h : Hp) : Prop := (∀ t, t < 16 → h.1 (59, 0) t = al t) ∧ (∀ f, f < 10 → h.1 (60, 0) f = tI (o f)) ∧ h.1 (12, 0) 2 = sn
def VB (h h' : Hp) : Prop := h'.2 = h.2 ∧ ∀ q : Ad, q ≠ (12, 0) → q ≠ (60, 0) → h'.1 q = h.1 q
theorem VB.rf (h : Hp) : VB h h := ⟨rfl, fun _ _ _ => rfl⟩
theorem VB.tr {a b c : Hp} (x : VB a b) (y : VB b c) : VB a c := ⟨y.1.trans x.1, fun q z1 z2 => (y.2 q z1 z2).trans (x.2 q z1 z2)⟩
theorem VB.a {h h' : Hp} {j : Nat} {x : Int32} (k : VB h h') : VB h (wI h' (12, 0) j x) := ⟨k.1, fun q z1 z2 => (wI_off _ _ _ _ q z1).trans (k.2 q z1 z2)⟩
theorem VB.b {h h' : Hp} {j : Nat} {x : Int32} (k : VB h h') : VB h (wI h' (60, 0) j x) := ⟨k.1, fun q z1 z2 => (wI_off _ _ _ _ q z2).trans (k.2 q z1 z2)⟩
theorem PH.up {al : Nat → Int32} {o : Nat → Option Nat} {sn : Int32} {h : Hp} (k : PH al o sn h) (i u : Nat) : PH al (upo o i u) sn (wI h (60, 0) i (nI u)) := by
  refine ⟨k.1, fun f hf => ?_, k.2.2⟩
  rw [wI_at]
  by_cases z : f = i
  · rw [if_pos ⟨rfl, z⟩, z, upo_s]; rfl
  · rw [if_neg (fun y => z y.2), upo_n _ _ z]; exact k.2.1 f hf
def FFP (al : Nat → Int32) (s : Nat → Prop) (u : Nat) (o : Nat → Option Nat) (P : Prop) (h : Hp) : Prop := ∃ o' sn', PH al o' sn' h ∧ (P → Su (Af al) s u o o') ∧ (¬ P → o' = o ∧ Fa (Af al) s u 10 o (ss sn'))
theorem tI_n {x : Option Nat} (h : ∀ w, x = some w → w < 16) (e : tI x = -1) : x = none := by
  cases x with
  | none => rfl
  | some w => exact absurd e (nI_ne_neg (by have := h w rfl; omega))
theorem tI_s {x : Option Nat} (e : ¬ tI x = -1) : ∃ v, x = some v := by
  cases x with
  | none => exact absurd rfl e
  | some w => exact ⟨w, rfl⟩
set_option maxRecDepth 4000 in
theorem ff_loop {E : En} (hok : EOK E) {al : Nat → Int32} {o : Nat → Option Nat} (ho : ∀ f w, f < 10 → o f = some w → w < 16) {r d : Nat} (hdr : d + r = 10) (ih0 : 0 < r → ∀ (u : Nat) (sn : Int32) (h : Hp), u < 16 → d + 1 ≤ cnt (ss sn) 10 → Shp h.2 → PH al o sn h → Call E m_X3_findFamily r 0 0 [vR (12, 0), vI (nI u), vI (nI (d + 1))] h (fun r' h' => ∃ P : Prop, r' = some (vI (bi P)) ∧ VB h h' ∧ FFP al (ss sn) u o P h')) {u : Nat} (hu : u < 16) {sn : Int32} (hsn : d ≤ cnt (ss sn) 10) {h h0 : Hp} {Q : Option V → Hp → Prop} (hQ : ∀ P h2, VB h h2 → FFP al (ss sn) u o P h2 → Q (some (vI (bi P))) h2) : ∀ c i (h1 : Hp) (sn1 : Int32), i ≤ 10 → 10 - i = c → Shp h1.2 → VB h h1 → PH al o sn1 h1 → Fa (Af al) (ss sn) u i o (ss sn1) → G E m_X3_findFamily (r + 1) 0 0 Q h0 20 [some (vR (12, 0)), some (vI (nI u)), some (vI (nI d)), some (vI (nI i)), none] [] h1 0 0 := by
  intro c
  induction c with
  | zero =>
    intro i h1 sn1 hi hc hs vb hp fa
    refine g_iload_n (pc' := 21) dX3_findFamily_20 rfl rfl ?_
    refine g_bipushN (n := 10) (pc' := 23) dX3_findFamily_21 rfl (by decide) ?_
    refine g_icmp_geN (tgt := 116) (pc' := 26) dX3_findFamily_23 rfl (by decide) (by omega) (by omega) (fun c23 => ?_) (fun c23 => ?_)
    ·
      refine g_iconstN (n := 0) (pc' := 117) dX3_findFamily_116 rfl ?_
      refine g_zret dX3_findFamily_117 rfl (by rfl) (by decide) (by decide) ?_
      have e : i = 10 := by omega
      subst e
      have q := hQ False h1 vb ⟨o, sn1, hp, fun z => z.elim, fun _ => ⟨rfl, fa⟩⟩
      rw [bi_f (fun z => z)] at q
      exact q
    · exact absurd c23 (by omega)
  | succ c ih =>
    intro i h1 sn1 hi hc hs vb hp fa
    have hi9 : i < 10 := by omega
    refine g_iload_n (pc' := 21) dX3_findFamily_20 rfl rfl ?_
    refine g_bipushN (n := 10) (pc' := 23) dX3_findFamily_21 rfl (by decide) ?_
    refine g_icmp_geN (tgt := 116) (pc' := 26) dX3_findFamily_23 rfl (by decide) (by omega) (by omega) (fun c23 => ?_) (fun c23 => ?_)
    · exact absurd c23 (by omega)
    ·
      refine g_aload_n (pc' := 27) dX3_findFamily_26 rfl rfl ?_
      refine g_getS (pc' := 30) (k := 0) (b := (59, 0)) dX3_findFamily_27 rfl rfl ck_4 (by decide) fl_X3_9 rfl hs rfl ?_
      refine g_iload_n (pc' := 31) dX3_findFamily_30 rfl rfl ?_
      refine g_ialdN (pc' := 32) (v := al u) dX3_findFamily_31 rfl rfl (by decide) (by omega) (hp.1 u hu) ?_
      refine g_iload_n (pc' := 33) dX3_findFamily_32 rfl rfl ?_
      refine g_ishr (pc' := 34) dX3_findFamily_33 rfl ?_
      refine g_iconstN (n := 1) (pc' := 35) dX3_findFamily_34 rfl ?_
      refine g_iand (pc' := 36) dX3_findFamily_35 rfl ?_
      refine g_iconstN (n := 1) (pc' := 37) dX3_findFamily_36 rfl ?_
      refine g_icmp_ne (tgt := 55) (pc' := 40) dX3_findFamily_37 rfl (by decide) (fun c37 => ?_) (fun c37 => ?_)
      ·
        refine g_iconstN (n := 0) (pc' := 56) dX3_findFamily_55 rfl ?_
        refine g_istore (pc' := 58) dX3_findFamily_56 rfl (by decide) rfl ?_
        try simp only [List.set]
        refine g_iload (pc' := 60) dX3_findFamily_58 rfl rfl ?_
        refine g_if_eqN (tgt := 110) (pc' := 63) dX3_findFamily_60 rfl (by decide) (by decide) (fun _ => ?_) (fun q => False.elim (by revert q; decide))
        refine g_iincN (k := 1) (pc' := 113) dX3_findFamily_110 rfl rfl (by decide) rfl ?_
        try simp only [List.set]
        refine g_goto (tgt := 20) dX3_findFamily_113 (by decide) ?_
        refine G.drop 4 ?_
        simp only [List.set]
        exact ih (i + 1) h1 sn1 (by omega) (by omega) hs vb hp (fa.skip (fun z => absurd z c37))
      ·
        refine g_aload_n (pc' := 41) dX3_findFamily_40 rfl rfl ?_
        refine g_getIv (v := sn1) (pc' := 44) (k := 2) dX3_findFamily_41 rfl rfl ck_4 (by decide) fl_X3_28 rfl (hp.2.2) ?_
        refine g_iload_n (pc' := 45) dX3_findFamily_44 rfl rfl ?_
        refine g_ishr (pc' := 46) dX3_findFamily_45 rfl ?_
        refine g_iconstN (n := 1) (pc' := 47) dX3_findFamily_46 rfl ?_
        refine g_iand (pc' := 48) dX3_findFamily_47 rfl ?_
        refine g_if_ne (tgt := 55) (pc' := 51) dX3_findFamily_48 rfl (by decide) (fun c48 => ?_) (fun c48 => ?_)
        ·
          refine g_iconstN (n := 0) (pc' := 56) dX3_findFamily_55 rfl ?_
          refine g_istore (pc' := 58) dX3_findFamily_56 rfl (by decide) rfl ?_
          try simp only [List.set]
          refine g_iload (pc' := 60) dX3_findFamily_58 rfl rfl ?_
          refine g_if_eqN (tgt := 110) (pc' := 63) dX3_findFamily_60 rfl (by decide) (by decide) (fun _ => ?_) (fun q => False.elim (by revert q; decide))
          refine g_iincN (k := 1) (pc' := 113) dX3_findFamily_110 rfl rfl (by decide) rfl ?_
          try simp only [List.set]
          refine g_goto (tgt := 20) dX3_findFamily_113 (by decide) ?_
          refine G.drop 4 ?_
          simp only [List.set]
          exact ih (i + 1) h1 sn1 (by omega) (by omega) hs vb hp (fa.skip (fun _ => ⟨hi9, Classical.byContradiction fun z => c48 ((and1_0 sn1 i).mpr z)⟩))
        ·
          refine g_iconstN (n := 1) (pc' := 52) dX3_findFamily_51 rfl ?_
          refine g_goto (tgt := 56) dX3_findFamily_52 (by decide) ?_
          refine g_istore (pc' := 58) dX3_findFamily_56 rfl (by decide) rfl ?_
          try simp only [List.set]
          refine g_iload (pc' := 60) dX3_findFamily_58 rfl rfl ?_
          refine g_if_eqN (tgt := 110) (pc' := 63) dX3_findFamily_60 rfl (by decide) (by decide) (fun q => False.elim (by revert q; decide)) (fun _ => ?_)
          refine g_aload_n (pc' := 64) dX3_findFamily_63 rfl rfl ?_
          refine g_dup (pc' := 65) dX3_findFamily_64 rfl rfl ?_
          refine g_getIv (v := sn1) (pc' := 68) (k := 2) dX3_findFamily_65 rfl rfl ck_4 (by decide) fl_X3_28 rfl (hp.2.2) ?_
          refine g_iconst (v := 1) (pc' := 69) dX3_findFamily_68 rfl (by decide) ?_
          refine g_iload_n (pc' := 70) dX3_findFamily_69 rfl rfl ?_
          refine g_ishl (pc' := 71) dX3_findFamily_70 rfl ?_
          refine g_ior (pc' := 72) dX3_findFamily_71 rfl ?_
          refine g_putI (pc' := 75) (k := 2) dX3_findFamily_72 rfl rfl ck_4 (by decide) fl_X3_28 rfl rfl rfl rfl ?_
          have ns : ¬ ss sn1 i := fun z => (and1_0 sn1 i).mp c48 z.2
          have feq : ss (sn1 ||| ((1 : Int32) <<< (nI i &&& 31))) = fun g => ss sn1 g ∨ g = i := funext fun f => propext (ss_or hi9 f)
          have hp2 : PH al o (sn1 ||| ((1 : Int32) <<< (nI i &&& 31))) (wI h1 (12, 0) 2 (sn1 ||| ((1 : Int32) <<< (nI i &&& 31)))) := ⟨hp.1, hp.2.1, rfl⟩
          have k1 : cnt (ss (sn1 ||| ((1 : Int32) <<< (nI i &&& 31)))) 10 = cnt (ss sn1) 10 + 1 := cnt_add1 (p := ss sn1) (b := i) hi9 ns (fun k _ => ss_or hi9 k)
          have k2 := cnt_le (ss (sn1 ||| ((1 : Int32) <<< (nI i &&& 31)))) 10
          have k3 := cnt_mono (p := ss sn) (q := ss sn1) (n := 10) (fun k _ => fa.m k)
          refine g_aload_n (pc' := 76) dX3_findFamily_75 rfl rfl ?_
          refine g_getS (pc' := 79) (k := 1) (b := (60, 0)) dX3_findFamily_76 rfl rfl ck_4 (by decide) fl_X3_15 rfl hs rfl ?_
          refine g_iload_n (pc' := 80) dX3_findFamily_79 rfl rfl ?_
          refine g_ialdN (pc' := 81) (v := tI (o i)) dX3_findFamily_80 rfl rfl (by decide) (by omega) (hp.2.1 i hi9) ?_
          refine g_iconst (v := -1) (pc' := 82) dX3_findFamily_81 rfl (by decide) ?_
          refine g_icmp_eq (tgt := 101) (pc' := 85) dX3_findFamily_82 rfl (by decide) (fun c82 => ?_) (fun c82 => ?_)
          ·
            refine g_aload_n (pc' := 102) dX3_findFamily_101 rfl rfl ?_
            refine g_getS (pc' := 105) (k := 1) (b := (60, 0)) dX3_findFamily_102 rfl rfl ck_4 (by decide) fl_X3_15 rfl hs rfl ?_
            refine g_iload_n (pc' := 106) dX3_findFamily_105 rfl rfl ?_
            refine g_iload_n (pc' := 107) dX3_findFamily_106 rfl rfl ?_
            refine g_iastN (pc' := 108) dX3_findFamily_107 rfl rfl (by decide) (by omega) ?_
            refine g_iconstN (n := 1) (pc' := 109) dX3_findFamily_108 rfl ?_
            refine g_zret dX3_findFamily_109 rfl (by rfl) (by decide) (by decide) ?_
            have q := hQ True _ (vb.a.b) ⟨_, _, hp2.up i u, fun _ => (Su.base hi9 c37 ns (tI_n (fun w e => ho i w hi9 e) c82)).mono fa.m, fun z => absurd trivial z⟩
            rw [bi_t trivial] at q
            exact q
          ·
            obtain ⟨v, ev⟩ := tI_s c82
            refine g_aload_n (pc' := 86) dX3_findFamily_85 rfl rfl ?_
            refine g_aload_n (pc' := 87) dX3_findFamily_86 rfl rfl ?_
            refine g_getS (pc' := 90) (k := 1) (b := (60, 0)) dX3_findFamily_87 rfl rfl ck_4 (by decide) fl_X3_15 rfl hs rfl ?_
            refine g_iload_n (pc' := 91) dX3_findFamily_90 rfl rfl ?_
            refine g_ialdN (pc' := 92) (v := nI v) dX3_findFamily_91 rfl rfl (by decide) (by omega) ((hp.2.1 i hi9).trans (by rw [ev]; rfl)) ?_
            refine g_iload_n (pc' := 93) dX3_findFamily_92 rfl rfl ?_
            refine g_iconstN (n := 1) (pc' := 94) dX3_findFamily_93 rfl ?_
            refine g_iaddN (pc' := 95) dX3_findFamily_94 rfl ?_
            refine g_invV (pc' := 98) (ih0 (by omega) v _ _ (ho i v hi9 ev) (by omega) (by exact hs) hp2) dX3_findFamily_95 rfl rfl ck_4 rfl ml_X3_32 im_X3_findFamily sl_X3_findFamily in_X3 co_X3_findFamily pd_X3_findFamily rfl (by omega) (by decide) ⟨by decide, by decide⟩ (Nat.le_of_ble_eq_true rfl) ?_
            rintro _ h2 ⟨P, rfl, v2, ff⟩ -
            have hs1 := hs
            have hs : Shp h2.2 := by rw [v2.1]; exact hs1
            refine g_ifB_eq (tgt := 110) (pc' := 101) dX3_findFamily_98 rfl (by decide) (fun c98 => ?_) (fun c98 => ?_)
            ·
              refine g_iincN (k := 1) (pc' := 113) dX3_findFamily_110 rfl rfl (by decide) rfl ?_
              try simp only [List.set]
              refine g_goto (tgt := 20) dX3_findFamily_113 (by decide) ?_
              refine G.drop 4 ?_
              simp only [List.set]
              obtain ⟨o2, sn2, p2_, _, f2⟩ := ff
              obtain ⟨rfl, f2⟩ := f2 c98
              exact ih (i + 1) h2 sn2 (by omega) (by omega) hs ((vb.a).tr v2) p2_ (fa.step hi9 ev (feq ▸ f2))
            ·
              refine g_aload_n (pc' := 102) dX3_findFamily_101 rfl rfl ?_
              refine g_getS (pc' := 105) (k := 1) (b := (60, 0)) dX3_findFamily_102 rfl rfl ck_4 (by decide) fl_X3_15 rfl hs rfl ?_
              refine g_iload_n (pc' := 106) dX3_findFamily_105 rfl rfl ?_
              refine g_iload_n (pc' := 107) dX3_findFamily_106 rfl rfl ?_
              refine g_iastN (pc' := 108) dX3_findFamily_107 rfl rfl (by decide) (by omega) ?_
              refine g_iconstN (n := 1) (pc' := 109) dX3_findFamily_108 rfl ?_
              refine g_zret dX3_findFamily_109 rfl (by rfl) (by decide) (by decide) ?_
              obtain ⟨o2, sn2, p2_, s2, _⟩ := ff
              have q := hQ True _ ((vb.a.tr v2).b) ⟨_, _, p2_.up i u, fun _ => (Su.step hi9 c37 ns ev (feq ▸ s2 c98)).mono fa.m, fun z => absurd trivial z⟩
              rw [bi_t trivial] at q
              exact q
set_option maxRecDepth 4000 in
theorem ff_all {E : En} (hok : EOK E) {al : Nat → Int32} {o : Nat → Option Nat} (ho : ∀ f w, f < 10 → o f = some w → w < 16) : ∀ (r d : Nat), d + r = 10 → ∀ (u : Nat) (sn : Int32) (h : Hp), u < 16 → d ≤ cnt (ss sn) 10 → Shp h.2 → PH al o sn h → Call E m_X3_findFamily (r + 1) 0 0 [vR (12, 0), vI (nI u), vI (nI d)] h (fun r' h' => ∃ P : Prop, r' = some (vI (bi P)) ∧ VB h h' ∧ FFP al (ss sn) u o P h')
  | r, d, hdr => fun u sn h hu hsn hs hp => by
    have ih0 : 0 < r → ∀ (u : Nat) (sn : Int32) (h : Hp), u < 16 → d + 1 ≤ cnt (ss sn) 10 → Shp h.2 → PH al o sn h → Call E m_X3_findFamily r 0 0 [vR (12, 0), vI (nI u), vI (nI (d + 1))] h (fun r' h' => ∃ P : Prop, r' = some (vI (bi P)) ∧ VB h h' ∧ FFP al (ss sn) u o P h') := fun hr => by
      have q := ff_all (al := al) hok ho (r - 1) (d + 1) (by omega)
      rw [show r - 1 + 1 = r by omega] at q
      exact q
    refine Call.enter hok (by decide) (Nat.le_of_ble_eq_true rfl) ?_
    show G E m_X3_findFamily (r + 1) 0 0 _ h 0 [some (vR (12, 0)), some (vI (nI u)), some (vI (nI d)), none, none] [] h 0 0
    refine g_iload_n (pc' := 1) dX3_findFamily_0 rfl rfl ?_
    refine g_bipushN (n := 10) (pc' := 3) dX3_findFamily_1 rfl (by decide) ?_
    refine g_icmp_gtN (tgt := 16) (pc' := 6) dX3_findFamily_3 rfl (by decide) (by omega) (by omega) (fun c3 => ?_) (fun c3 => ?_)
    · exact absurd c3 (by omega)
    ·
      refine g_iload_n (pc' := 7) dX3_findFamily_6 rfl rfl ?_
      refine g_iconstN (n := 0) (pc' := 8) dX3_findFamily_7 rfl ?_
      refine g_bipushN (n := 15) (pc' := 10) dX3_findFamily_8 rfl (by decide) ?_
      refine g_invSN (pc' := 13) (cx_within hok _ _ _) dX3_findFamily_10 rfl nn_X3_18 st_X11_within in_X11 co_X11_within pd_X11_within rfl (by omega) (by decide) ⟨by decide, by decide⟩ (Nat.le_of_ble_eq_true rfl) ?_
      rintro _ _ ⟨rfl, rfl⟩ -
      refine g_ifB_ne (tgt := 18) (pc' := 16) dX3_findFamily_13 rfl (by decide) (fun c13 => ?_) (fun c13 => ?_)
      ·
        refine g_iconstN (n := 0) (pc' := 19) dX3_findFamily_18 rfl ?_
        refine g_istore_n (pc' := 20) dX3_findFamily_19 rfl (by decide) rfl ?_
        try simp only [List.set]
        exact ff_loop hok ho hdr ih0 hu hsn (fun P h2 v2 f2 => ⟨P, rfl, v2, f2⟩) _ 0 h sn (Nat.zero_le _) rfl hs (VB.rf h) hp Fa.z
      · exact absurd ⟨nI_le (Nat.zero_le _) (by omega), nI_le (show u ≤ 15 by omega) (by omega)⟩ c13
  termination_by r => r
