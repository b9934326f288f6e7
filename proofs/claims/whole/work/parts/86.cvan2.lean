/-- the van: who would take what -/
def vW0 (m : St) (R : Rm) (v : Int32) (t f : Nat) : Prop := m 128 f = v ∧ ¬ m 186 (8 * f + kd m t) = -1 ∧ ntF m R t f = 0
def vA (m : St) (R : Rm) (v : Int32) (t f : Nat) : Prop := f < nF m ∧ vW0 m R v t f
noncomputable def tkF (m : St) (R : Rm) (v : Int32) (t : Nat) (n : Nat) : Int32 := orr (fun f => cif (vW0 m R v t f) ((1 : Int32) <<< (nI f &&& 31)) 0) n
theorem tkF_iff {m : St} (hw : Wf m) {R : Rm} {v : Int32} {t f : Nat} (hf : f < 10) : hasB (tkF m R v t (nF m)) f ↔ vA m R v t f := by
  have hFb := hw.f.2
  rw [hasB_iff _ (show f < 32 by omega)]
  unfold tkF vA
  rw [bt_orr]
  constructor
  · rintro ⟨i, hi, q⟩
    obtain ⟨q1, q2⟩ := bt_cif.mp q
    rw [bt_one (show i < 32 by omega), decide_eq_true_eq] at q2
    subst q2
    exact ⟨hi, q1⟩
  · rintro ⟨h1, h2⟩
    exact ⟨f, h1, bt_cif.mpr ⟨h2, by rw [bt_one (show f < 32 by omega)]; exact decide_eq_true rfl⟩⟩
noncomputable def vnX (m : St) (R : Rm) (v : Int32) (n : Nat) : Nat := vnO (vA m R v) 10 (nT m) n
noncomputable def vnA (m : St) (R : Rm) (v : Int32) (n : Nat) (x : Int32) : Int32 := cif (x = 0) (nI (vnX m R v n)) (nI (mx (vA m R v) 10 (nT m) (tb (vnX m R v n))))
noncomputable def sVan (m : St) (R : Rm) (v0 n0 x : Int32) : Int32 × St := cif ((0 ≤ v0 ∧ v0 ≤ 4) ∧ (1 ≤ n0 ∧ n0 ≤ 6) ∧ (0 ≤ x ∧ x ≤ 1)) (vnA m R v0 n0.toNatClampNeg x, m) (-1, m)
theorem one_6 {x : Int32} (q : 1 ≤ x ∧ x ≤ 6) : ∃ c : Nat, (1 ≤ c ∧ c ≤ 6) ∧ x = nI c := by
  obtain ⟨c, h1, rfl⟩ := rng (x := x) (n := 6) rfl (by decide) ⟨Int32.le_trans (by decide) q.1, q.2⟩
  refine ⟨c, ⟨?_, h1⟩, rfl⟩
  rcases Nat.eq_zero_or_pos c with z | z
  · subst z; exact absurd q.1 (by decide)
  · exact z
theorem Sx.sc {h h' : Hp} (k : Sx h h') : Sc h h' := ⟨k.1, fun b z => k.2 b (fun y => by rw [y] at z; cases z) (fun y => by rw [y] at z; cases z) (fun y => by rw [y] at z; cases z)⟩
set_option maxRecDepth 4000 in
theorem lx_takersOf {E : En} (hok : EOK E) {h h0 : Hp} {m : St} (hc0 : Cp m h) (hw : Wf m) (hx : Wx m) {R : Rm} (hCR0 : CR m h R) {t : Nat} (ht : t < nT m) (v : Int32) {d : Nat} (hd : 6 ≤ d) {Q : Option V → Hp → Prop} (hQ : ∀ h', Sx h h' → Q (some (vI (tkF m R v t (nF m)))) h') : ∀ n f h1, f ≤ nF m → nF m - f = n → Sx h h1 → G E m_X11_takersOf d 0 0 Q h0 5 [some (vR TH), some (vR (3, t)), some (vI v), some (vI (tkF m R v t f)), some (vI (nI f)), none, none] [] h1 0 0 := by
  have hKb := hw.k.2
  have hTb := hw.t.2
  have hFb := hw.f.2
  have hRb := hw.r.2
  have hGb := hw.g.2
  have hAb := hw.a.2
  have hTlb := hw.tl.2
  have hNwb := hw.w.2
  have hkd := (hw.kd ht).2
  intro n
  induction n with
  | zero =>
    intro f h1 g1 g2 s1
    have hc := hc0.sx s1
    have hCR := hCR0.sx s1
    have hs := hc.s
    refine g_iload (pc' := 7) dX11_takersOf_5 rfl rfl ?_
    refine g_aload_n (pc' := 8) dX11_takersOf_7 rfl rfl ?_
    refine g_getS (pc' := 11) (k := 12) (b := (13, 2)) dX11_takersOf_8 rfl rfl ck_12 (by decide) fl_X11_38 rfl hs rfl ?_
    refine g_invV (pc' := 14) (ls_size hok hc.c8.1) dX11_takersOf_11 rfl rfl ck_0 rfl ml_X11_103 im_Jx4a65c_size_8abf5 sl_Jx4a65c_size_8abf5 in_Jx4a65c co_Jx4a65c_size_8abf5 pd_Jx4a65c_size_8abf5 rfl (by omega) (by decide) ⟨by decide, by decide⟩ (Nat.le_of_ble_eq_true rfl) ?_
    rintro _ _ ⟨rfl, rfl⟩ -
    refine g_icmp_geN (tgt := 90) (pc' := 17) dX11_takersOf_14 rfl (by decide) (by omega) (by omega) (fun c14 => ?_) (fun c14 => ?_)
    ·
      refine g_iload_n (pc' := 91) dX11_takersOf_90 rfl rfl ?_
      refine g_iret dX11_takersOf_91 rfl (by decide) (by decide) ?_
      have e : f = nF m := by omega
      subst e
      exact hQ h1 s1
    · exact absurd c14 (by omega)
  | succ n ih =>
    intro f h1 g1 g2 s1
    have hc := hc0.sx s1
    have hCR := hCR0.sx s1
    have hs := hc.s
    refine g_iload (pc' := 7) dX11_takersOf_5 rfl rfl ?_
    refine g_aload_n (pc' := 8) dX11_takersOf_7 rfl rfl ?_
    refine g_getS (pc' := 11) (k := 12) (b := (13, 2)) dX11_takersOf_8 rfl rfl ck_12 (by decide) fl_X11_38 rfl hs rfl ?_
    refine g_invV (pc' := 14) (ls_size hok hc.c8.1) dX11_takersOf_11 rfl rfl ck_0 rfl ml_X11_103 im_Jx4a65c_size_8abf5 sl_Jx4a65c_size_8abf5 in_Jx4a65c co_Jx4a65c_size_8abf5 pd_Jx4a65c_size_8abf5 rfl (by omega) (by decide) ⟨by decide, by decide⟩ (Nat.le_of_ble_eq_true rfl) ?_
    rintro _ _ ⟨rfl, rfl⟩ -
    refine g_icmp_geN (tgt := 90) (pc' := 17) dX11_takersOf_14 rfl (by decide) (by omega) (by omega) (fun c14 => ?_) (fun c14 => ?_)
    · exact absurd c14 (by omega)
    ·
      refine g_aload_n (pc' := 18) dX11_takersOf_17 rfl rfl ?_
      refine g_getS (pc' := 21) (k := 12) (b := (13, 2)) dX11_takersOf_18 rfl rfl ck_12 (by decide) fl_X11_38 rfl hs rfl ?_
      refine g_iload (pc' := 23) dX11_takersOf_21 rfl rfl ?_
      refine g_invV (pc' := 26) (ls_get hok hc.c8.1 (j := f) (by omega) (by omega)) dX11_takersOf_23 rfl rfl ck_0 rfl ml_X11_324 im_Jx4a65c_get_915e3 sl_Jx4a65c_get_915e3 in_Jx4a65c co_Jx4a65c_get_915e3 pd_Jx4a65c_get_915e3 rfl (by omega) (by decide) ⟨by decide, by decide⟩ (Nat.le_of_ble_eq_true rfl) ?_
      rintro _ _ ⟨rfl, rfl⟩ -
      refine g_cast (pc' := 29) dX11_takersOf_26 rfl rfl ck_2 cl_X11_139 ?_
      refine g_astore (pc' := 31) dX11_takersOf_29 rfl (by decide) rfl ?_
      try simp only [List.set]
      refine g_aload (pc' := 33) dX11_takersOf_31 rfl rfl ?_
      refine g_getIv (v := m 128 (f)) (pc' := 36) (k := 3) dX11_takersOf_33 rfl rfl ck_2 (by decide) fl_X11_477 rfl (hc.f3 (f := f) (by omega)) ?_
      refine g_iload_n (pc' := 37) dX11_takersOf_36 rfl rfl ?_
      refine g_icmp_ne (tgt := 59) (pc' := 40) dX11_takersOf_37 rfl (by decide) (fun c37 => ?_) (fun c37 => ?_)
      ·
        refine g_iconstN (n := 0) (pc' := 60) dX11_takersOf_59 rfl ?_
        refine g_istore (pc' := 62) dX11_takersOf_60 rfl (by decide) rfl ?_
        try simp only [List.set]
        refine g_iload (pc' := 64) dX11_takersOf_62 rfl rfl ?_
        refine g_if_eqN (tgt := 84) (pc' := 67) dX11_takersOf_64 rfl (by decide) (by decide) (fun _ => ?_) (fun q => False.elim (by revert q; decide))
        refine g_iincN (k := 1) (pc' := 87) dX11_takersOf_84 rfl rfl (by decide) rfl ?_
        try simp only [List.set]
        refine g_goto (tgt := 5) dX11_takersOf_87 (by decide) ?_
        refine G.drop 5 ?_
        refine G.drop 6 ?_
        simp only [List.set]
        have q := ih (f + 1) h1 (by omega) (by omega) s1
        rw [show tkF m R v t (f + 1) = (tkF m R v t f) from (congrArg (fun z => tkF m R v t f ||| z) (cif_f (P := vW0 m R v t f) (fun z => c37 z.1))).trans (Int32.or_zero)] at q
        exact q
      ·
        refine g_aload (pc' := 42) dX11_takersOf_40 rfl rfl ?_
        refine g_aload_n (pc' := 43) dX11_takersOf_42 rfl rfl ?_
        refine g_getR (pc' := 46) (k := 1) (r := some (2, kd m t)) dX11_takersOf_43 rfl rfl ck_9 (by decide) fl_X11_203 rfl ((hc.c6.2.1 _ (by omega)).1) ?_
        refine g_getIv (v := nI (kd m t)) (pc' := 49) (k := 0) dX11_takersOf_46 rfl rfl ck_3 (by decide) fl_X11_116 rfl (hc.k0 (k := kd m t) (by omega)) ?_
        refine g_invV (pc' := 52) (cx_isWaiting hok hc (f := f) (k := kd m t) (by omega) (by omega)) dX11_takersOf_49 rfl rfl ck_2 rfl ml_X11_335 im_X1_isWaiting sl_X1_isWaiting in_X1 co_X1_isWaiting pd_X1_isWaiting rfl (by omega) (by decide) ⟨by decide, by decide⟩ (Nat.le_of_ble_eq_true rfl) ?_
        rintro _ _ ⟨rfl, rfl⟩ -
        refine g_ifB_eq (tgt := 59) (pc' := 55) dX11_takersOf_52 rfl (by decide) (fun c52 => ?_) (fun c52 => ?_)
        ·
          refine g_iconstN (n := 0) (pc' := 60) dX11_takersOf_59 rfl ?_
          refine g_istore (pc' := 62) dX11_takersOf_60 rfl (by decide) rfl ?_
          try simp only [List.set]
          refine g_iload (pc' := 64) dX11_takersOf_62 rfl rfl ?_
          refine g_if_eqN (tgt := 84) (pc' := 67) dX11_takersOf_64 rfl (by decide) (by decide) (fun _ => ?_) (fun q => False.elim (by revert q; decide))
          refine g_iincN (k := 1) (pc' := 87) dX11_takersOf_84 rfl rfl (by decide) rfl ?_
          try simp only [List.set]
          refine g_goto (tgt := 5) dX11_takersOf_87 (by decide) ?_
          refine G.drop 5 ?_
          refine G.drop 6 ?_
          simp only [List.set]
          have q := ih (f + 1) h1 (by omega) (by omega) s1
          rw [show tkF m R v t (f + 1) = (tkF m R v t f) from (congrArg (fun z => tkF m R v t f ||| z) (cif_f (P := vW0 m R v t f) (fun z => c52 z.2.1))).trans (Int32.or_zero)] at q
          exact q
        ·
          refine g_iconstN (n := 1) (pc' := 56) dX11_takersOf_55 rfl ?_
          refine g_goto (tgt := 60) dX11_takersOf_56 (by decide) ?_
          refine g_istore (pc' := 62) dX11_takersOf_60 rfl (by decide) rfl ?_
          try simp only [List.set]
          refine g_iload (pc' := 64) dX11_takersOf_62 rfl rfl ?_
          refine g_if_eqN (tgt := 84) (pc' := 67) dX11_takersOf_64 rfl (by decide) (by decide) (fun q => False.elim (by revert q; decide)) (fun _ => ?_)
          refine g_aload_n (pc' := 68) dX11_takersOf_67 rfl rfl ?_
          refine g_aload_n (pc' := 69) dX11_takersOf_68 rfl rfl ?_
          refine g_aload (pc' := 71) dX11_takersOf_69 rfl rfl ?_
          refine g_invV (pc' := 74) (cx_barrier hok hc hw hx hCR (t := t) (f := f) (by omega) (by omega)) dX11_takersOf_71 rfl rfl ck_12 rfl ml_X11_196 im_X11_barrier sl_X11_barrier in_X11 co_X11_barrier pd_X11_barrier rfl (by omega) (by decide) ⟨by decide, by decide⟩ (Nat.le_of_ble_eq_true rfl) ?_
          rintro _ h2 ⟨rfl, s2⟩ -
          have hn8 := ntF_lt m R t f
          have hc := hc.sx s2
          have hCR := hCR.sx s2
          have hs := hc.s
          refine g_if_neN (tgt := 84) (pc' := 77) dX11_takersOf_74 rfl (by decide) (by omega) (fun c74 => ?_) (fun c74 => ?_)
          ·
            refine g_iincN (k := 1) (pc' := 87) dX11_takersOf_84 rfl rfl (by decide) rfl ?_
            try simp only [List.set]
            refine g_goto (tgt := 5) dX11_takersOf_87 (by decide) ?_
            refine G.drop 5 ?_
            refine G.drop 6 ?_
            simp only [List.set]
            have q := ih (f + 1) h2 (by omega) (by omega) (s1.tr s2)
            rw [show tkF m R v t (f + 1) = (tkF m R v t f) from (congrArg (fun z => tkF m R v t f ||| z) (cif_f (P := vW0 m R v t f) (fun z => c74 z.2.2))).trans (Int32.or_zero)] at q
            exact q
          ·
            refine g_iload_n (pc' := 78) dX11_takersOf_77 rfl rfl ?_
            refine g_iconst (v := 1) (pc' := 79) dX11_takersOf_78 rfl (by decide) ?_
            refine g_iload (pc' := 81) dX11_takersOf_79 rfl rfl ?_
            refine g_ishl (pc' := 82) dX11_takersOf_81 rfl ?_
            refine g_ior (pc' := 83) dX11_takersOf_82 rfl ?_
            refine g_istore_n (pc' := 84) dX11_takersOf_83 rfl (by decide) rfl ?_
            try simp only [List.set]
            refine g_iincN (k := 1) (pc' := 87) dX11_takersOf_84 rfl rfl (by decide) rfl ?_
            try simp only [List.set]
            refine g_goto (tgt := 5) dX11_takersOf_87 (by decide) ?_
            refine G.drop 5 ?_
            refine G.drop 6 ?_
            simp only [List.set]
            have q := ih (f + 1) h2 (by omega) (by omega) (s1.tr s2)
            rw [show tkF m R v t (f + 1) = (tkF m R v t f) ||| ((1 : Int32) <<< (nI f &&& 31)) from congrArg (fun z => tkF m R v t f ||| z) (cif_t (P := vW0 m R v t f) ⟨c37, c52, c74⟩)] at q
            exact q
set_option maxRecDepth 4000 in
theorem cx_takersOf {E : En} (hok : EOK E) {h : Hp} {m : St} (hc : Cp m h) (hw : Wf m) (hx : Wx m) {R : Rm} (hCR : CR m h R) {t : Nat} (ht : t < nT m) (v : Int32) : Call E m_X11_takersOf 6 0 0 [vR TH, vR (3, t), vI v] h (fun r h' => r = some (vI (tkF m R v t (nF m))) ∧ Sx h h') := by
  have hs := hc.s
  have hKb := hw.k.2
  have hTb := hw.t.2
  have hFb := hw.f.2
  have hRb := hw.r.2
  have hGb := hw.g.2
  have hAb := hw.a.2
  have hTlb := hw.tl.2
  have hNwb := hw.w.2
  refine Call.enter hok (by decide) (Nat.le_of_ble_eq_true rfl) ?_
  show G E m_X11_takersOf 6 0 0 _ h 0 [some (vR TH), some (vR (3, t)), some (vI v), none, none, none, none] [] h 0 0
  refine g_iconstN (n := 0) (pc' := 1) dX11_takersOf_0 rfl ?_
  refine g_istore_n (pc' := 2) dX11_takersOf_1 rfl (by decide) rfl ?_
  try simp only [List.set]
  refine g_iconstN (n := 0) (pc' := 3) dX11_takersOf_2 rfl ?_
  refine g_istore (pc' := 5) dX11_takersOf_3 rfl (by decide) rfl ?_
  try simp only [List.set]
  exact lx_takersOf hok hc hw hx hCR ht v (Nat.le_refl _) (fun h' s' => ⟨rfl, s'⟩) _ 0 h (Nat.zero_le _) rfl (Sx.rf h)
set_option maxRecDepth 4000 in
theorem lx_van {E : En} (hok : EOK E) {h h0 : Hp} {m : St} (hc0 : Cp m h) (hw : Wf m) (hx : Wx m) {R : Rm} {v : Int32} {n : Nat} (hn6 : 1 ≤ n ∧ n ≤ 6) (x : Int32) {d : Nat} (hd : 13 ≤ d) {Q : Option V → Hp → Prop} (hQ : ∀ h1, Sc h h1 → C13 h1 → Q (some (vI (vnA m R v n x))) h1) : ∀ c t (hh : Hp), t ≤ nT m → nT m - t = c → (Sc h hh ∧ C13 hh ∧ CR m hh R ∧ ∀ j, j < t → hh.1 (59, 0) j = tkF m R v j (nF m)) → G E m_X11_van d 0 0 Q h0 33 [some (vR TH), some (vI v), some (vI (nI n)), some (vI x), some (vI (nI t))] [] hh 0 0 := by
  have hKb := hw.k.2
  have hTb := hw.t.2
  have hFb := hw.f.2
  intro c
  induction c with
  | zero =>
    intro t hh h1 h2 hi
    have hc : Cp m hh := hc0.sc hi.1 hi.2.1
    have hs := hc.s
    have et : t = nT m := by omega
    subst et
    refine g_iload (pc' := 35) dX11_van_33 rfl rfl ?_
    refine g_aload_n (pc' := 36) dX11_van_35 rfl rfl ?_
    refine g_getS (pc' := 39) (k := 11) (b := (13, 1)) dX11_van_36 rfl rfl ck_12 (by decide) fl_X11_35 rfl hs rfl ?_
    refine g_invV (pc' := 42) (ls_size hok hc.c6.1) dX11_van_39 rfl rfl ck_0 rfl ml_X11_103 im_Jx4a65c_size_8abf5 sl_Jx4a65c_size_8abf5 in_Jx4a65c co_Jx4a65c_size_8abf5 pd_Jx4a65c_size_8abf5 rfl (by omega) (by decide) ⟨by decide, by decide⟩ (Nat.le_of_ble_eq_true rfl) ?_
    rintro _ _ ⟨rfl, rfl⟩ -
    refine g_icmp_geN (tgt := 77) (pc' := 45) dX11_van_42 rfl (by decide) (by omega) (by omega) (fun c42 => ?_) (fun c42 => ?_)
    ·
      refine g_aload_n (pc' := 78) dX11_van_77 rfl rfl ?_
      refine g_getS (pc' := 81) (k := 19) (b := (12, 0)) dX11_van_78 rfl rfl ck_12 (by decide) fl_X11_91 rfl hs rfl ?_
      refine g_aload_n (pc' := 82) dX11_van_81 rfl rfl ?_
      refine g_getS (pc' := 85) (k := 11) (b := (13, 1)) dX11_van_82 rfl rfl ck_12 (by decide) fl_X11_35 rfl hs rfl ?_
      refine g_invV (pc' := 88) (ls_size hok hc.c6.1) dX11_van_85 rfl rfl ck_0 rfl ml_X11_103 im_Jx4a65c_size_8abf5 sl_Jx4a65c_size_8abf5 in_Jx4a65c co_Jx4a65c_size_8abf5 pd_Jx4a65c_size_8abf5 rfl (by omega) (by decide) ⟨by decide, by decide⟩ (Nat.le_of_ble_eq_true rfl) ?_
      rintro _ _ ⟨rfl, rfl⟩ -
      refine g_iload_n (pc' := 89) dX11_van_88 rfl rfl ?_
      refine g_invV (pc' := 92) (cx_vleast hok hs (T := nT m) (n := n) (by omega) (by omega)) dX11_van_89 rfl rfl ck_4 rfl ml_X11_388 im_X3_leastSet sl_X3_leastSet in_X3 co_X3_leastSet pd_X3_leastSet rfl (by omega) (by decide) ⟨by decide, by decide⟩ (Nat.le_of_ble_eq_true rfl) ?_
      rintro _ h3 ⟨z, rfl, v3, i3, e3⟩ -
      have hcong : ∀ t f, t < nT m → f < 10 → (Af (hh.1 (59, 0)) t f ↔ vA m R v t f) := fun t f ht hf => by show hasB (hh.1 (59, 0) t) f ↔ _; rw [hi.2.2.2 t ht]; exact tkF_iff hw hf
      have i4 := isO_congr hcong i3
      rw [mx_congr hcong] at e3
      have ez : vnX m R v n = z := vnO_of i4
      have hz : z < 65536 := Nat.lt_of_lt_of_le i4.1.1 (p2_16 (by omega))
      have sc3 : Sc hh h3 := ⟨v3.1, fun b y => v3.2 b (fun q => by rw [q] at y; cases y) (fun q => by rw [q] at y; cases y)⟩
      have k3 : C13 h3 := by
        unfold C13
        rw [v3.1, v3.2 (46, 0) (by decide) (by decide), v3.2 (47, 0) (by decide) (by decide), v3.2 (48, 0) (by decide) (by decide), v3.2 (58, 0) (by decide) (by decide)]
        exact hi.2.1
      have hs := (hc.sc sc3 k3).s
      refine g_istore (pc' := 94) dX11_van_92 rfl (by decide) rfl ?_
      try simp only [List.set]
      refine g_iload_n (pc' := 95) dX11_van_94 rfl rfl ?_
      refine g_if_ne (tgt := 103) (pc' := 98) dX11_van_95 rfl (by decide) (fun c95 => ?_) (fun c95 => ?_)
      ·
        refine g_iload (pc' := 105) dX11_van_103 rfl rfl ?_
        refine g_invS (pc' := 108) (cx_bitCount hok hz) dX11_van_105 rfl ml_X11_391 st_J6_bitCount_0f7a4 in_J6 co_J6_bitCount_0f7a4 pd_J6_bitCount_0f7a4 rfl (by omega) (by decide) ⟨by decide, by decide⟩ (Nat.le_of_ble_eq_true rfl) ?_
        rintro _ _ ⟨rfl, rfl⟩ -
        refine g_iret dX11_van_108 rfl (by decide) (by decide) ?_
        have qq := hQ h3 (hi.1.tr sc3) k3
        rw [show vnA m R v n x = nI (cnt (tb z) 16) from (cif_f c95).trans (by rw [ez, e3, cnt_hi i4.1.1 hTb])] at qq
        exact qq
      ·
        refine g_iload (pc' := 100) dX11_van_98 rfl rfl ?_
        refine g_goto (tgt := 108) dX11_van_100 (by decide) ?_
        refine g_iret dX11_van_108 rfl (by decide) (by decide) ?_
        have qq := hQ h3 (hi.1.tr sc3) k3
        rw [show vnA m R v n x = nI z from (cif_t c95).trans (by rw [ez])] at qq
        exact qq
    · exact absurd c42 (by omega)
  | succ c ih =>
    intro t hh h1 h2 hi
    have hc : Cp m hh := hc0.sc hi.1 hi.2.1
    have hs := hc.s
    refine g_iload (pc' := 35) dX11_van_33 rfl rfl ?_
    refine g_aload_n (pc' := 36) dX11_van_35 rfl rfl ?_
    refine g_getS (pc' := 39) (k := 11) (b := (13, 1)) dX11_van_36 rfl rfl ck_12 (by decide) fl_X11_35 rfl hs rfl ?_
    refine g_invV (pc' := 42) (ls_size hok hc.c6.1) dX11_van_39 rfl rfl ck_0 rfl ml_X11_103 im_Jx4a65c_size_8abf5 sl_Jx4a65c_size_8abf5 in_Jx4a65c co_Jx4a65c_size_8abf5 pd_Jx4a65c_size_8abf5 rfl (by omega) (by decide) ⟨by decide, by decide⟩ (Nat.le_of_ble_eq_true rfl) ?_
    rintro _ _ ⟨rfl, rfl⟩ -
    refine g_icmp_geN (tgt := 77) (pc' := 45) dX11_van_42 rfl (by decide) (by omega) (by omega) (fun c42 => ?_) (fun c42 => ?_)
    · exact absurd c42 (by omega)
    ·
      refine g_aload_n (pc' := 46) dX11_van_45 rfl rfl ?_
      refine g_getS (pc' := 49) (k := 19) (b := (12, 0)) dX11_van_46 rfl rfl ck_12 (by decide) fl_X11_91 rfl hs rfl ?_
      refine g_iload (pc' := 51) dX11_van_49 rfl rfl ?_
      refine g_aload_n (pc' := 52) dX11_van_51 rfl rfl ?_
      refine g_aload_n (pc' := 53) dX11_van_52 rfl rfl ?_
      refine g_getS (pc' := 56) (k := 11) (b := (13, 1)) dX11_van_53 rfl rfl ck_12 (by decide) fl_X11_35 rfl hs rfl ?_
      refine g_iload (pc' := 58) dX11_van_56 rfl rfl ?_
      refine g_invV (pc' := 61) (ls_get hok hc.c6.1 (j := t) (by omega) (by omega)) dX11_van_58 rfl rfl ck_0 rfl ml_X11_324 im_Jx4a65c_get_915e3 sl_Jx4a65c_get_915e3 in_Jx4a65c co_Jx4a65c_get_915e3 pd_Jx4a65c_get_915e3 rfl (by omega) (by decide) ⟨by decide, by decide⟩ (Nat.le_of_ble_eq_true rfl) ?_
      rintro _ _ ⟨rfl, rfl⟩ -
      refine g_cast (pc' := 64) dX11_van_61 rfl rfl ck_9 cl_X11_133 ?_
      refine g_iload_n (pc' := 65) dX11_van_64 rfl rfl ?_
      refine g_invV (pc' := 68) (cx_takersOf hok hc hw hx hi.2.2.1 (t := t) (by omega) v) dX11_van_65 rfl rfl ck_12 rfl ml_X11_382 im_X11_takersOf sl_X11_takersOf in_X11 co_X11_takersOf pd_X11_takersOf rfl (by omega) (by decide) ⟨by decide, by decide⟩ (Nat.le_of_ble_eq_true rfl) ?_
      rintro _ h2 ⟨rfl, s2⟩ -
      have hc := hc.sx s2
      have hs := hc.s
      have hCR := hi.2.2.1.sx s2
      refine g_invV (pc' := 71) (cx_allow hok hs (t := t) (by omega) _) dX11_van_68 rfl rfl ck_4 rfl ml_X11_385 im_X3_allow sl_X3_allow in_X3 co_X3_allow pd_X3_allow rfl (by omega) (by decide) ⟨by decide, by decide⟩ (Nat.le_of_ble_eq_true rfl) ?_
      rintro _ _ ⟨rfl, rfl⟩ -
      refine g_iincN (k := 1) (pc' := 74) dX11_van_71 rfl rfl (by decide) rfl ?_
      try simp only [List.set]
      refine g_goto (tgt := 33) dX11_van_74 (by decide) ?_
      refine ih (t + 1) _ (by omega) (by omega) ⟨(hi.1.tr s2.sc).wI rfl, hc.c13, hCR, fun j hj => ?_⟩
      rw [wI_at]
      by_cases y : j = t
      · rw [if_pos ⟨rfl, y⟩, y]
      · rw [if_neg (fun q => y q.2), s2.2 (59, 0) (by decide) (by decide) (by decide)]
        exact hi.2.2.2 j (by omega)
set_option maxRecDepth 4000 in
theorem cx_van {E : En} (hok : EOK E) {h : Hp} {m : St} (hc : Cp m h) (hw : Wf m) (hx : Wx m) {R : Rm} (hCR : CR m h R) (v0 : Int32) (n0 : Int32) (x : Int32) : Call E m_X11_van 13 0 0 [vR TH, vI v0, vI n0, vI x] h (fun r h' => r = some (vI (sVan m R v0 n0 x).1) ∧ Cp (sVan m R v0 n0 x).2 h' ∧ mo h' = mo h) := by
  have hs := hc.s
  have hKb := hw.k.2
  have hTb := hw.t.2
  have hFb := hw.f.2
  have hRb := hw.r.2
  have hGb := hw.g.2
  have hAb := hw.a.2
  have hTlb := hw.tl.2
  have hNwb := hw.w.2
  refine Call.enter hok (by decide) (Nat.le_of_ble_eq_true rfl) ?_
  show G E m_X11_van 13 0 0 _ h 0 [some (vR TH), some (vI v0), some (vI n0), some (vI x), none] [] h 0 0
  refine g_iload_n (pc' := 1) dX11_van_0 rfl rfl ?_
  refine g_iconstN (n := 0) (pc' := 2) dX11_van_1 rfl ?_
  refine g_iconstN (n := 4) (pc' := 3) dX11_van_2 rfl ?_
  refine g_invS (pc' := 6) (cx_within hok _ _ _) dX11_van_3 rfl ml_X11_99 st_X11_within in_X11 co_X11_within pd_X11_within rfl (by omega) (by decide) ⟨by decide, by decide⟩ (Nat.le_of_ble_eq_true rfl) ?_
  rintro _ _ ⟨rfl, rfl⟩ -
  refine g_ifB_eq (tgt := 28) (pc' := 9) dX11_van_6 rfl (by decide) (fun c6 => ?_) (fun c6 => ?_)
  ·
    refine g_iconst (v := -1) (pc' := 29) dX11_van_28 rfl (by decide) ?_
    refine g_iret dX11_van_29 rfl (by decide) (by decide) ?_
    have e : sVan m R v0 n0 x = (-1, m) := cif_f (fun z => c6 z.1)
    rw [e]
    exact ⟨rfl, hc, rfl⟩
  ·
    refine g_iload_n (pc' := 10) dX11_van_9 rfl rfl ?_
    refine g_iconstN (n := 1) (pc' := 11) dX11_van_10 rfl ?_
    refine g_bipushN (n := 6) (pc' := 13) dX11_van_11 rfl (by decide) ?_
    refine g_invS (pc' := 16) (cx_within hok _ _ _) dX11_van_13 rfl ml_X11_99 st_X11_within in_X11 co_X11_within pd_X11_within rfl (by omega) (by decide) ⟨by decide, by decide⟩ (Nat.le_of_ble_eq_true rfl) ?_
    rintro _ _ ⟨rfl, rfl⟩ -
    refine g_ifB_eq (tgt := 28) (pc' := 19) dX11_van_16 rfl (by decide) (fun c16 => ?_) (fun c16 => ?_)
    ·
      refine g_iconst (v := -1) (pc' := 29) dX11_van_28 rfl (by decide) ?_
      refine g_iret dX11_van_29 rfl (by decide) (by decide) ?_
      have e : sVan m R v0 n0 x = (-1, m) := cif_f (fun z => c16 z.2.1)
      rw [e]
      exact ⟨rfl, hc, rfl⟩
    ·
      obtain ⟨n, hn6, rfl⟩ := one_6 c16
      refine g_iload_n (pc' := 20) dX11_van_19 rfl rfl ?_
      refine g_iconstN (n := 0) (pc' := 21) dX11_van_20 rfl ?_
      refine g_iconstN (n := 1) (pc' := 22) dX11_van_21 rfl ?_
      refine g_invS (pc' := 25) (cx_within hok _ _ _) dX11_van_22 rfl ml_X11_99 st_X11_within in_X11 co_X11_within pd_X11_within rfl (by omega) (by decide) ⟨by decide, by decide⟩ (Nat.le_of_ble_eq_true rfl) ?_
      rintro _ _ ⟨rfl, rfl⟩ -
      refine g_ifB_ne (tgt := 30) (pc' := 28) dX11_van_25 rfl (by decide) (fun c25 => ?_) (fun c25 => ?_)
      ·
        refine g_iconstN (n := 0) (pc' := 31) dX11_van_30 rfl ?_
        refine g_istore (pc' := 33) dX11_van_31 rfl (by decide) rfl ?_
        try simp only [List.set]
        have e : sVan m R v0 (nI n) x = (vnA m R v0 n x, m) := by unfold sVan; simp only [nI_clamp (show n < 2 ^ 31 by omega)]; exact cif_t ⟨c6, c16, c25⟩
        rw [e]
        exact lx_van hok hc hw hx hn6 x (Nat.le_refl _) (fun h1 s1 k1 => ⟨rfl, hc.sc s1 k1, s1.mo⟩) _ 0 h (Nat.zero_le _) rfl ⟨Sc.rf h, hc.c13, hCR, fun j hj => absurd hj (Nat.not_lt_zero j)⟩
      ·
        refine g_iconst (v := -1) (pc' := 29) dX11_van_28 rfl (by decide) ?_
        refine g_iret dX11_van_29 rfl (by decide) (by decide) ?_
        have e : sVan m R v0 (nI n) x = (-1, m) := cif_f (fun z => c25 z.2.2)
        rw [e]
        exact ⟨rfl, hc, rfl⟩
