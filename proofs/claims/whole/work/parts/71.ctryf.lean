section GAI
variable {E : En} {y : Mt} {d mc ms : Nat} {Q : Option V → Hp → Prop} {h0 : Hp} {pc pc' : Nat} {L : List (Option V)} {st : List V} {h : Hp} {cu su : Nat}
theorem g_aaldI {a : Ad} {N : Nat} {i : Int32} {r : Option Ad} (hd : decode y.2.1 pc = .ok (.aaload, 1)) (hp : pc + 1 = pc') (hm : mt a = (24, N)) (hin : vp_in i N) (hrr : h.2.1 a i.toNatClampNeg = r) (K : G E y d mc ms Q h0 pc' L (vO r :: st) h cu su) : G E y d mc ms Q h0 pc L (vI i :: vR a :: st) h cu su := by
  subst hp
  intro p e s m args below meth c adr0 adr H locs ls CC hE hS hW ho hoL hl
  obtain ⟨hx, hb, hml, hr, hlk', hown, hnm, hts, hK, hN, hX, hbs, hok⟩ := id CC
  obtain ⟨⟨nl, hn, hP, hD⟩, hcl⟩ := id hS
  have ha : h.2.2 a = true := okS_hd (okS_tl ho) a rfl
  obtain ⟨k0, hk0, hw⟩ := Sm.at (E := E) (adr := adr) hn ha (by rw [hm]; show 24 < 25; omega)
  rw [cE_Q hm (by decide)] at hw
  have k2 := K p e s m args below meth c adr0 adr H locs ls CC hE hS hW (okS_cons (fun b q => by cases q; exact hcl a _ b ha hrr) (okS_t2 ho)) hoL hl
  have hlt : i.toNatClampNeg < N := Nat.not_le.mp fun q => hin (Or.inr q)
  have k3 : W p E.1 e (room d mc ms) s m args below meth c H locs cu su (MQ below (QM E adr0 h0 Q) args s mc ms (eA E)) (F0 m (pc + 1) ls (va_rf ((fun j => (h.2.1 a j).map adr) i.toNatClampNeg) :: st.map (tv adr))) := by
    show W p E.1 e (room d mc ms) s m args below meth c H locs cu su (MQ below (QM E adr0 h0 Q) args s mc ms (eA E)) (F0 m (pc + 1) ls (va_rf ((h.2.1 a i.toNatClampNeg).map adr) :: st.map (tv adr)))
    rw [hrr, ← tv_O]
    exact k2
  exact W.aald (v := va_rf ((fun j => (h.2.1 a j).map adr) i.toNatClampNeg)) (ty := .array .int) hx hb (hP k0 _ hw) ((hK.2 4 (E.2.2.2.1 24, .array .int) rfl).1 N (fun j => va_rf ((h.2.1 a j).map adr))) rfl (fun q => by cases q) (by show ¬ (i < 0 ∨ (arrV _ _ _).slots.size ≤ _); rw [arrV_size]; exact hin) (by show (arrV _ _ _).slots[_]? = _; rw [arrV_read _ _ hlt]) rfl rfl hd k3
end GAI
/-- the shop's things that stay while it searches -/
def ZS (m : St) (w A : Nat) (h : Hp) : Prop := h.1 (10, 0) 5 = nI (nK m) ∧ h.1 (10, 0) 6 = nI A ∧ (∀ k, k < nK m → h.1 (49, 0) k = nI (prN m k) ∧ ∀ j, j < 4 → h.1 (51, k) j = nI (sv m w k j)) ∧ (∀ k, k ≤ nK m → h.1 (52, 0) k = nI (sF m w k)) ∧ ∀ k, k < 8 → h.2.1 (50, 0) k = some (51, k)
def ZB (k : Nat) (h h' : Hp) : Prop := h'.2 = h.2 ∧ (∀ q, q ≠ (10, 0) → q ≠ (53, 0) → q ≠ (54, 0) → h'.1 q = h.1 q) ∧ (∀ j, j ≠ 8 → j ≠ 9 → h'.1 (10, 0) j = h.1 (10, 0) j) ∧ ∀ j, j < k → h'.1 (53, 0) j = h.1 (53, 0) j
theorem ZB.rf (k : Nat) (h : Hp) : ZB k h h := ⟨rfl, fun _ _ _ _ => rfl, fun _ _ _ => rfl, fun _ _ => rfl⟩
theorem ZB.tr {k : Nat} {a b c : Hp} (x : ZB k a b) (y : ZB k b c) : ZB k a c := ⟨y.1.trans x.1, fun q z1 z2 z3 => (y.2.1 q z1 z2 z3).trans (x.2.1 q z1 z2 z3), fun j a b => (y.2.2.1 j a b).trans (x.2.2.1 j a b), fun j hj => (y.2.2.2 j hj).trans (x.2.2.2 j hj)⟩
theorem ZB.dn {k n : Nat} {a b : Hp} (x : ZB k a b) (h : n ≤ k) : ZB n a b := ⟨x.1, x.2.1, x.2.2.1, fun j hj => x.2.2.2 j (by omega)⟩
theorem ZS.zb {m : St} {w A k : Nat} {h h' : Hp} (z : ZS m w A h) (b : ZB k h h') : ZS m w A h' := by
  have e51 : ∀ i, h'.1 (51, i) = h.1 (51, i) := fun i => b.2.1 (51, i) (ad_ne (show (51 : Nat) ≠ 10 by decide)) (ad_ne (show (51 : Nat) ≠ 53 by decide)) (ad_ne (show (51 : Nat) ≠ 54 by decide))
  unfold ZS at *
  simp only [b.1, b.2.2.1 5 (by decide) (by decide), b.2.2.1 6 (by decide) (by decide), b.2.1 (49, 0) (by decide) (by decide) (by decide), b.2.1 (52, 0) (by decide) (by decide) (by decide), e51]
  exact z
theorem ZB.row {k : Nat} {h h' : Hp} {x : Int32} (b : ZB k h h') : ZB k h (wI h' (53, 0) k x) := ⟨b.1, fun q z1 z2 z3 => (wI_off _ _ _ _ q z2).trans (b.2.1 q z1 z2 z3), fun j h8 h9 => (congrFun (wI_off h' (53, 0) k x (10, 0) (by decide)) j).trans (b.2.2.1 j h8 h9), fun j hj => (wI_j (by omega)).trans (b.2.2.2 j hj)⟩
def encB (m : St) (b : Nat × Nat × Nat) (h : Hp) : Prop := h.1 (10, 0) 8 = nI b.2.1 ∧ h.1 (10, 0) 9 = nI b.2.2 ∧ ∀ j, j < nK m → h.1 (54, 0) j = nI (dg (nK m) j b.1)
def encZ (m : St) (w S : Nat) (b : Nat × Nat × Nat) (h : Hp) : Prop := S = 0 ∧ b = (0, sX m w 0, 0) ∧ h.1 (10, 0) 8 = -1
def rowI (m : St) (k S : Nat) (h : Hp) : Prop := ∀ j, j < k → h.1 (53, 0) j = nI (dg (nK m) j S)
/-- what a leaf writes -/
def lfH (h : Hp) (s c : Int32) (n : Nat) : Hp := wF (wI (wI h (10, 0) 8 s) (10, 0) 9 c) (54, 0) (va_cpy (h.1 (53, 0)) (h.1 (54, 0)) 0 0 n)
theorem lf_ok {m : St} {h : Hp} {S s c k : Nat} (hr : rowI m (nK m) S h) : ZB k h (lfH h (nI s) (nI c) (nK m)) ∧ encB m (S, s, c) (lfH h (nI s) (nI c) (nK m)) := by
  have e10 : ∀ j, (lfH h (nI s) (nI c) (nK m)).1 (10, 0) j = if j = 9 then nI c else if j = 8 then nI s else h.1 (10, 0) j := fun j => by
    unfold lfH
    rw [wF_off _ _ _ (by decide), wI_at, wI_at]
    simp
  refine ⟨⟨rfl, fun q z1 z2 z3 => ?_, fun j h8 h9 => ?_, fun j hj => ?_⟩, ?_, ?_, fun j hj => ?_⟩
  · unfold lfH
    rw [wF_off _ _ _ z3, wI_off _ _ _ _ q z1, wI_off _ _ _ _ q z1]
  · rw [e10, if_neg h9, if_neg h8]
  · unfold lfH
    rw [wF_off _ _ _ (by decide), wI_off _ _ _ _ (53, 0) (by decide), wI_off _ _ _ _ (53, 0) (by decide)]
  · rw [e10]; rfl
  · rw [e10]; rfl
  · unfold lfH
    rw [wF_same, cpy_in hj]
    exact hr j hj
theorem q4_k {K k : Nat} (hk : k < K) : q4 (K - k) = 4 * q4 (K - (k + 1)) := by rw [← q4_s]; congr 1; omega
/-- the child of digit n -/
theorem ch_S {K k a n S : Nat} (hk : k < K) (hS : S = q4 (K - k) * a) : S + n * q4 (K - (k + 1)) = q4 (K - (k + 1)) * (4 * a + n) := by
  rw [hS, q4_k hk, Nat.mul_add, Nat.mul_comm n, Nat.mul_comm 4 (q4 _), Nat.mul_assoc]
theorem ch_d {K k a n S : Nat} (hk : k < K) (hn : n ≤ 3) (hS : S = q4 (K - k) * a) : dg K k (S + n * q4 (K - (k + 1))) = n := by
  rw [hS, dg_lo (Nat.le_refl k) hk]
  unfold dg
  rw [show K - 1 - k = K - (k + 1) by omega, Nat.mul_div_cancel _ (q4_pos _)]
  exact Nat.mod_eq_of_lt (by omega)
theorem ch_lt {K k n : Nat} (hk : k < K) (hn : n ≤ 3) : n * q4 (K - (k + 1)) < q4 (K - k) := by
  rw [q4_k hk]
  have := q4_pos (K - (k + 1))
  have := Nat.mul_le_mul_right (q4 (K - (k + 1))) hn
  omega
theorem ch_row {m : St} {k a n S : Nat} {h : Hp} (hk : k < nK m) (hn : n ≤ 3) (hS : S = q4 (nK m - k) * a) (r : rowI m k S h) (hv : h.1 (53, 0) k = nI n) : rowI m (k + 1) (S + n * q4 (nK m - (k + 1))) h := fun j hj => by
  by_cases e : j = k
  · rw [e, ch_d hk hn hS]; exact hv
  · rw [hS, dg_hi (Nat.le_of_lt hk) (by omega) (ch_lt hk hn), ← hS]
    exact r j (by omega)
theorem ch_s {m : St} {w k a n S : Nat} (hk : k < nK m) (hn : n ≤ 3) (hS : S = q4 (nK m - k) * a) : preS m w (k + 1) (S + n * q4 (nK m - (k + 1))) = preS m w k S + sv m w k n := by
  rw [preS_s, ch_d hk hn hS, preS_hi (Nat.le_of_lt hk) hS (ch_lt hk hn)]
theorem ch_c {m : St} {k a n S : Nat} (hk : k < nK m) (hn : n ≤ 3) (hS : S = q4 (nK m - k) * a) : preC m (k + 1) (S + n * q4 (nK m - (k + 1))) = preC m k S + n * prN m k := by
  rw [preC_s, ch_d hk hn hS, preC_hi (Nat.le_of_lt hk) hS (ch_lt hk hn)]
theorem rowI.zb {m : St} {k S : Nat} {h h' : Hp} (r : rowI m k S h) (b : ZB k h h') : rowI m k S h' := fun j hj => (b.2.2.2 j hj).trans (r j hj)
set_option maxRecDepth 4000 in
theorem tf_leafN {E : En} (hok : EOK E) {m : St} (hw : Wf m) (hx : Wx m) {w A : Nat} (hA6 : A ≤ 60000) {k a S : Nat} (hk : k = nK m) {h : Hp} {b : Nat × Nat × Nat} (hs : Shp h.2) (hS : S = q4 (nK m - k) * a) (hSl : S + q4 (nK m - k) ≤ q4 (nK m)) (hz : ZS m w A h) (hr : rowI m k S h) (hbd : bdB m b) (hdm : dom m w A b S) (he : encB m b h) : Call E m_X7_tryFrom (nK m - k + 1) 0 0 [vR (10, 0), vI (nI k), vI (nI (preC m k S)), vI (nI (preS m w k S))] h (fun r h' => r = none ∧ ZB k h h' ∧ encB m (fo (stB m w A) S (q4 (nK m - k)) b) h') := by
  have hKb := hw.k.2
  have hq8 := q4_8 hKb
  have hpl : preC m k S ≤ 480000 := preC_le hw hx (by omega)
  have hsl : preS m w k S ≤ 80 := preS_le hw (by omega)
  have hfl := sF_le hw w k
  obtain ⟨hb1, hb2, hb3⟩ := hbd
  obtain ⟨h8, h9, h54⟩ := he
  refine Call.enter hok (by decide) (Nat.le_of_ble_eq_true rfl) ?_
  show G E m_X7_tryFrom (nK m - k + 1) 0 0 _ h 0 [some (vR (10, 0)), some (vI (nI k)), some (vI (nI (preC m k S))), some (vI (nI (preS m w k S))), none, none] [] h 0 0
  refine g_iload_n (pc' := 1) dX7_tryFrom_0 rfl rfl ?_
  refine g_aload_n (pc' := 2) dX7_tryFrom_1 rfl rfl ?_
  refine g_getIv (v := nI (A)) (pc' := 5) (k := 6) dX7_tryFrom_2 rfl rfl ck_8 (by decide) fl_X7_33 rfl (hz.2.1) ?_
  refine g_icmp_gtN (tgt := 20) (pc' := 8) dX7_tryFrom_5 rfl (by decide) (by omega) (by omega) (fun c5 => ?_) (fun c5 => ?_)
  ·
    refine g_vret dX7_tryFrom_20 rfl (by decide) (by decide) ?_
    exact ⟨rfl, ZB.rf k h, by rw [bu_pr1 (by omega) hS (by omega)]; exact ⟨h8, h9, h54⟩⟩
  ·
    refine g_iload_n (pc' := 9) dX7_tryFrom_8 rfl rfl ?_
    refine g_iconstN (n := 0) (pc' := 10) dX7_tryFrom_9 rfl ?_
    refine g_aload_n (pc' := 11) dX7_tryFrom_10 rfl rfl ?_
    refine g_getIv (v := nI (nK m)) (pc' := 14) (k := 5) dX7_tryFrom_11 rfl rfl ck_8 (by decide) fl_X7_29 rfl (hz.1) ?_
    refine g_invSN (pc' := 17) (cx_within hok _ _ _) dX7_tryFrom_14 rfl nn_X7_55 st_X11_within in_X11 co_X11_within pd_X11_within rfl (by omega) (by decide) ⟨by decide, by decide⟩ (Nat.le_of_ble_eq_true rfl) ?_
    rintro _ _ ⟨rfl, rfl⟩ -
    refine g_ifB_ne (tgt := 21) (pc' := 20) dX7_tryFrom_17 rfl (by decide) (fun c17 => ?_) (fun c17 => ?_)
    ·
      refine g_iload_n (pc' := 22) dX7_tryFrom_21 rfl rfl ?_
      refine g_aload_n (pc' := 23) dX7_tryFrom_22 rfl rfl ?_
      refine g_getS (pc' := 26) (k := 2) (b := (52, 0)) dX7_tryFrom_23 rfl rfl ck_8 (by decide) fl_X7_20 rfl hs rfl ?_
      refine g_iload_n (pc' := 27) dX7_tryFrom_26 rfl rfl ?_
      refine g_ialdN (pc' := 28) (v := nI (sF m w k)) dX7_tryFrom_27 rfl rfl (by decide) (by omega) (hz.2.2.2.1 k (by omega)) ?_
      refine g_iaddN (pc' := 29) dX7_tryFrom_28 rfl ?_
      refine g_istore (pc' := 31) dX7_tryFrom_29 rfl (by decide) rfl ?_
      try simp only [List.set]
      refine g_iload (pc' := 33) dX7_tryFrom_31 rfl rfl ?_
      refine g_aload_n (pc' := 34) dX7_tryFrom_33 rfl rfl ?_
      refine g_getIv (v := nI (b.2.1)) (pc' := 37) (k := 8) dX7_tryFrom_34 rfl rfl ck_8 (by decide) fl_X7_39 rfl (h8) ?_
      refine g_icmp_ltN (tgt := 57) (pc' := 40) dX7_tryFrom_37 rfl (by decide) (by omega) (by omega) (fun c37 => ?_) (fun c37 => ?_)
      ·
        refine g_vret dX7_tryFrom_57 rfl (by decide) (by decide) ?_
        exact ⟨rfl, ZB.rf k h, by rw [bu_pr2 (by omega) hS (by omega)]; exact ⟨h8, h9, h54⟩⟩
      ·
        refine g_iload (pc' := 42) dX7_tryFrom_40 rfl rfl ?_
        refine g_aload_n (pc' := 43) dX7_tryFrom_42 rfl rfl ?_
        refine g_getIv (v := nI (b.2.1)) (pc' := 46) (k := 8) dX7_tryFrom_43 rfl rfl ck_8 (by decide) fl_X7_39 rfl (h8) ?_
        refine g_icmp_neN (tgt := 58) (pc' := 49) dX7_tryFrom_46 rfl (by decide) (by omega) (by omega) (fun c46 => ?_) (fun c46 => ?_)
        ·
          refine g_iload_n (pc' := 59) dX7_tryFrom_58 rfl rfl ?_
          refine g_aload_n (pc' := 60) dX7_tryFrom_59 rfl rfl ?_
          refine g_getIv (v := nI (nK m)) (pc' := 63) (k := 5) dX7_tryFrom_60 rfl rfl ck_8 (by decide) fl_X7_29 rfl (hz.1) ?_
          refine g_icmp_neN (tgt := 94) (pc' := 66) dX7_tryFrom_63 rfl (by decide) (by omega) (by omega) (fun c63 => ?_) (fun c63 => ?_)
          · exact absurd hk c63
          ·
            refine g_aload_n (pc' := 67) dX7_tryFrom_66 rfl rfl ?_
            refine g_iload_n (pc' := 68) dX7_tryFrom_67 rfl rfl ?_
            refine g_putI (pc' := 71) (k := 8) dX7_tryFrom_68 rfl rfl ck_8 (by decide) fl_X7_39 rfl rfl rfl rfl ?_
            refine g_aload_n (pc' := 72) dX7_tryFrom_71 rfl rfl ?_
            refine g_iload_n (pc' := 73) dX7_tryFrom_72 rfl rfl ?_
            refine g_putI (pc' := 76) (k := 9) dX7_tryFrom_73 rfl rfl ck_8 (by decide) fl_X7_42 rfl rfl rfl rfl ?_
            refine g_aload_n (pc' := 77) dX7_tryFrom_76 rfl rfl ?_
            refine g_getS (pc' := 80) (k := 3) (b := (53, 0)) dX7_tryFrom_77 rfl rfl ck_8 (by decide) fl_X7_23 rfl hs rfl ?_
            refine g_iconstN (n := 0) (pc' := 81) dX7_tryFrom_80 rfl ?_
            refine g_aload_n (pc' := 82) dX7_tryFrom_81 rfl rfl ?_
            refine g_getS (pc' := 85) (k := 4) (b := (54, 0)) dX7_tryFrom_82 rfl rfl ck_8 (by decide) fl_X7_26 rfl hs rfl ?_
            refine g_iconstN (n := 0) (pc' := 86) dX7_tryFrom_85 rfl ?_
            refine g_aload_n (pc' := 87) dX7_tryFrom_86 rfl rfl ?_
            refine g_getIv (v := nI (nK m)) (pc' := 90) (k := 5) dX7_tryFrom_87 rfl rfl ck_8 (by decide) fl_X7_29 rfl (hz.1) ?_
            refine g_copyI (pc' := 93) dX7_tryFrom_90 rfl rfl rfl ml_X7_59 (by omega) (by omega) (by omega) (by omega) (Nat.le_of_ble_eq_true rfl) ?_
            refine g_vret dX7_tryFrom_93 rfl (by decide) (by decide) ?_
            subst hk
            have ef : sF m w (nK m) = 0 := sF_K m w
            have lf := lf_ok (k := nK m) (s := preS m w (nK m) S) (c := preC m (nK m) S) hr
            refine ⟨rfl, lf.1, ?_⟩
            have e : fo (stB m w A) S (q4 (nK m - nK m)) b = (S, preS m w (nK m) S, preC m (nK m) S) := by
              rw [Nat.sub_self]
              show stB m w A b (S + 0) = _
              rw [Nat.add_zero]
              exact cif_t ⟨by unfold pX; omega, by unfold pX sX; omega⟩
            rw [e]
            exact lf.2
        ·
          refine g_iload_n (pc' := 50) dX7_tryFrom_49 rfl rfl ?_
          refine g_aload_n (pc' := 51) dX7_tryFrom_50 rfl rfl ?_
          refine g_getIv (v := nI (b.2.2)) (pc' := 54) (k := 9) dX7_tryFrom_51 rfl rfl ck_8 (by decide) fl_X7_42 rfl (h9) ?_
          refine g_icmp_ltN (tgt := 58) (pc' := 57) dX7_tryFrom_54 rfl (by decide) (by omega) (by omega) (fun c54 => ?_) (fun c54 => ?_)
          ·
            refine g_iload_n (pc' := 59) dX7_tryFrom_58 rfl rfl ?_
            refine g_aload_n (pc' := 60) dX7_tryFrom_59 rfl rfl ?_
            refine g_getIv (v := nI (nK m)) (pc' := 63) (k := 5) dX7_tryFrom_60 rfl rfl ck_8 (by decide) fl_X7_29 rfl (hz.1) ?_
            refine g_icmp_neN (tgt := 94) (pc' := 66) dX7_tryFrom_63 rfl (by decide) (by omega) (by omega) (fun c63 => ?_) (fun c63 => ?_)
            · exact absurd hk c63
            ·
              refine g_aload_n (pc' := 67) dX7_tryFrom_66 rfl rfl ?_
              refine g_iload_n (pc' := 68) dX7_tryFrom_67 rfl rfl ?_
              refine g_putI (pc' := 71) (k := 8) dX7_tryFrom_68 rfl rfl ck_8 (by decide) fl_X7_39 rfl rfl rfl rfl ?_
              refine g_aload_n (pc' := 72) dX7_tryFrom_71 rfl rfl ?_
              refine g_iload_n (pc' := 73) dX7_tryFrom_72 rfl rfl ?_
              refine g_putI (pc' := 76) (k := 9) dX7_tryFrom_73 rfl rfl ck_8 (by decide) fl_X7_42 rfl rfl rfl rfl ?_
              refine g_aload_n (pc' := 77) dX7_tryFrom_76 rfl rfl ?_
              refine g_getS (pc' := 80) (k := 3) (b := (53, 0)) dX7_tryFrom_77 rfl rfl ck_8 (by decide) fl_X7_23 rfl hs rfl ?_
              refine g_iconstN (n := 0) (pc' := 81) dX7_tryFrom_80 rfl ?_
              refine g_aload_n (pc' := 82) dX7_tryFrom_81 rfl rfl ?_
              refine g_getS (pc' := 85) (k := 4) (b := (54, 0)) dX7_tryFrom_82 rfl rfl ck_8 (by decide) fl_X7_26 rfl hs rfl ?_
              refine g_iconstN (n := 0) (pc' := 86) dX7_tryFrom_85 rfl ?_
              refine g_aload_n (pc' := 87) dX7_tryFrom_86 rfl rfl ?_
              refine g_getIv (v := nI (nK m)) (pc' := 90) (k := 5) dX7_tryFrom_87 rfl rfl ck_8 (by decide) fl_X7_29 rfl (hz.1) ?_
              refine g_copyI (pc' := 93) dX7_tryFrom_90 rfl rfl rfl ml_X7_59 (by omega) (by omega) (by omega) (by omega) (Nat.le_of_ble_eq_true rfl) ?_
              refine g_vret dX7_tryFrom_93 rfl (by decide) (by decide) ?_
              subst hk
              have ef : sF m w (nK m) = 0 := sF_K m w
              have lf := lf_ok (k := nK m) (s := preS m w (nK m) S) (c := preC m (nK m) S) hr
              refine ⟨rfl, lf.1, ?_⟩
              have e : fo (stB m w A) S (q4 (nK m - nK m)) b = (S, preS m w (nK m) S, preC m (nK m) S) := by
                rw [Nat.sub_self]
                show stB m w A b (S + 0) = _
                rw [Nat.add_zero]
                exact cif_t ⟨by unfold pX; omega, by unfold pX sX; omega⟩
              rw [e]
              exact lf.2
          ·
            refine g_vret dX7_tryFrom_57 rfl (by decide) (by decide) ?_
            exact ⟨rfl, ZB.rf k h, by rw [bu_pr2 (by omega) hS (by omega)]; exact ⟨h8, h9, h54⟩⟩
    · exact absurd ⟨nI_le (Nat.zero_le _) (by omega), nI_le (show k ≤ nK m by omega) (by omega)⟩ c17
set_option maxRecDepth 4000 in
theorem tf_leafF {E : En} (hok : EOK E) {m : St} (hw : Wf m) (hx : Wx m) {w A : Nat} (hA6 : A ≤ 60000) {k a S : Nat} (hk : k = nK m) {h : Hp} {b : Nat × Nat × Nat} (hs : Shp h.2) (hS : S = q4 (nK m - k) * a) (hSl : S + q4 (nK m - k) ≤ q4 (nK m)) (hz : ZS m w A h) (hr : rowI m k S h) (hbd : bdB m b) (hdm : dom m w A b S) (he : encZ m w S b h) : Call E m_X7_tryFrom (nK m - k + 1) 0 0 [vR (10, 0), vI (nI k), vI (nI (preC m k S)), vI (nI (preS m w k S))] h (fun r h' => r = none ∧ ZB k h h' ∧ encB m (fo (stB m w A) S (q4 (nK m - k)) b) h') := by
  have hKb := hw.k.2
  have hq8 := q4_8 hKb
  have hpl : preC m k S ≤ 480000 := preC_le hw hx (by omega)
  have hsl : preS m w k S ≤ 80 := preS_le hw (by omega)
  have hfl := sF_le hw w k
  obtain ⟨hb1, hb2, hb3⟩ := hbd
  obtain ⟨eS, eb, h8⟩ := he
  refine Call.enter hok (by decide) (Nat.le_of_ble_eq_true rfl) ?_
  show G E m_X7_tryFrom (nK m - k + 1) 0 0 _ h 0 [some (vR (10, 0)), some (vI (nI k)), some (vI (nI (preC m k S))), some (vI (nI (preS m w k S))), none, none] [] h 0 0
  refine g_iload_n (pc' := 1) dX7_tryFrom_0 rfl rfl ?_
  refine g_aload_n (pc' := 2) dX7_tryFrom_1 rfl rfl ?_
  refine g_getIv (v := nI (A)) (pc' := 5) (k := 6) dX7_tryFrom_2 rfl rfl ck_8 (by decide) fl_X7_33 rfl (hz.2.1) ?_
  refine g_icmp_gtN (tgt := 20) (pc' := 8) dX7_tryFrom_5 rfl (by decide) (by omega) (by omega) (fun c5 => ?_) (fun c5 => ?_)
  · exact absurd c5 (by rw [eS]; have := preC_up (m := m) (k := k) (x := 0) (by omega); have := pX_0 m; unfold pX at this; omega)
  ·
    refine g_iload_n (pc' := 9) dX7_tryFrom_8 rfl rfl ?_
    refine g_iconstN (n := 0) (pc' := 10) dX7_tryFrom_9 rfl ?_
    refine g_aload_n (pc' := 11) dX7_tryFrom_10 rfl rfl ?_
    refine g_getIv (v := nI (nK m)) (pc' := 14) (k := 5) dX7_tryFrom_11 rfl rfl ck_8 (by decide) fl_X7_29 rfl (hz.1) ?_
    refine g_invSN (pc' := 17) (cx_within hok _ _ _) dX7_tryFrom_14 rfl nn_X7_55 st_X11_within in_X11 co_X11_within pd_X11_within rfl (by omega) (by decide) ⟨by decide, by decide⟩ (Nat.le_of_ble_eq_true rfl) ?_
    rintro _ _ ⟨rfl, rfl⟩ -
    refine g_ifB_ne (tgt := 21) (pc' := 20) dX7_tryFrom_17 rfl (by decide) (fun c17 => ?_) (fun c17 => ?_)
    ·
      refine g_iload_n (pc' := 22) dX7_tryFrom_21 rfl rfl ?_
      refine g_aload_n (pc' := 23) dX7_tryFrom_22 rfl rfl ?_
      refine g_getS (pc' := 26) (k := 2) (b := (52, 0)) dX7_tryFrom_23 rfl rfl ck_8 (by decide) fl_X7_20 rfl hs rfl ?_
      refine g_iload_n (pc' := 27) dX7_tryFrom_26 rfl rfl ?_
      refine g_ialdN (pc' := 28) (v := nI (sF m w k)) dX7_tryFrom_27 rfl rfl (by decide) (by omega) (hz.2.2.2.1 k (by omega)) ?_
      refine g_iaddN (pc' := 29) dX7_tryFrom_28 rfl ?_
      refine g_istore (pc' := 31) dX7_tryFrom_29 rfl (by decide) rfl ?_
      try simp only [List.set]
      refine g_iload (pc' := 33) dX7_tryFrom_31 rfl rfl ?_
      refine g_aload_n (pc' := 34) dX7_tryFrom_33 rfl rfl ?_
      refine g_getIv (v := -1) (pc' := 37) (k := 8) dX7_tryFrom_34 rfl rfl ck_8 (by decide) fl_X7_39 rfl (h8) ?_
      refine g_icmp_lt (tgt := 57) (pc' := 40) dX7_tryFrom_37 rfl (by decide) (fun c37 => ?_) (fun c37 => ?_)
      · exact absurd (Int32.lt_iff_toInt_lt.mp c37) (by rw [nI_toInt (by omega)]; show ¬ (_ : Int) < -1; omega)
      ·
        refine g_iload (pc' := 42) dX7_tryFrom_40 rfl rfl ?_
        refine g_aload_n (pc' := 43) dX7_tryFrom_42 rfl rfl ?_
        refine g_getIv (v := -1) (pc' := 46) (k := 8) dX7_tryFrom_43 rfl rfl ck_8 (by decide) fl_X7_39 rfl (h8) ?_
        refine g_icmp_ne (tgt := 58) (pc' := 49) dX7_tryFrom_46 rfl (by decide) (fun c46 => ?_) (fun c46 => ?_)
        ·
          refine g_iload_n (pc' := 59) dX7_tryFrom_58 rfl rfl ?_
          refine g_aload_n (pc' := 60) dX7_tryFrom_59 rfl rfl ?_
          refine g_getIv (v := nI (nK m)) (pc' := 63) (k := 5) dX7_tryFrom_60 rfl rfl ck_8 (by decide) fl_X7_29 rfl (hz.1) ?_
          refine g_icmp_neN (tgt := 94) (pc' := 66) dX7_tryFrom_63 rfl (by decide) (by omega) (by omega) (fun c63 => ?_) (fun c63 => ?_)
          · exact absurd hk c63
          ·
            refine g_aload_n (pc' := 67) dX7_tryFrom_66 rfl rfl ?_
            refine g_iload_n (pc' := 68) dX7_tryFrom_67 rfl rfl ?_
            refine g_putI (pc' := 71) (k := 8) dX7_tryFrom_68 rfl rfl ck_8 (by decide) fl_X7_39 rfl rfl rfl rfl ?_
            refine g_aload_n (pc' := 72) dX7_tryFrom_71 rfl rfl ?_
            refine g_iload_n (pc' := 73) dX7_tryFrom_72 rfl rfl ?_
            refine g_putI (pc' := 76) (k := 9) dX7_tryFrom_73 rfl rfl ck_8 (by decide) fl_X7_42 rfl rfl rfl rfl ?_
            refine g_aload_n (pc' := 77) dX7_tryFrom_76 rfl rfl ?_
            refine g_getS (pc' := 80) (k := 3) (b := (53, 0)) dX7_tryFrom_77 rfl rfl ck_8 (by decide) fl_X7_23 rfl hs rfl ?_
            refine g_iconstN (n := 0) (pc' := 81) dX7_tryFrom_80 rfl ?_
            refine g_aload_n (pc' := 82) dX7_tryFrom_81 rfl rfl ?_
            refine g_getS (pc' := 85) (k := 4) (b := (54, 0)) dX7_tryFrom_82 rfl rfl ck_8 (by decide) fl_X7_26 rfl hs rfl ?_
            refine g_iconstN (n := 0) (pc' := 86) dX7_tryFrom_85 rfl ?_
            refine g_aload_n (pc' := 87) dX7_tryFrom_86 rfl rfl ?_
            refine g_getIv (v := nI (nK m)) (pc' := 90) (k := 5) dX7_tryFrom_87 rfl rfl ck_8 (by decide) fl_X7_29 rfl (hz.1) ?_
            refine g_copyI (pc' := 93) dX7_tryFrom_90 rfl rfl rfl ml_X7_59 (by omega) (by omega) (by omega) (by omega) (Nat.le_of_ble_eq_true rfl) ?_
            refine g_vret dX7_tryFrom_93 rfl (by decide) (by decide) ?_
            subst hk
            have ef : sF m w (nK m) = 0 := sF_K m w
            have lf := lf_ok (k := nK m) (s := preS m w (nK m) S) (c := preC m (nK m) S) hr
            refine ⟨rfl, lf.1, ?_⟩
            subst eS
            subst eb
            have e : fo (stB m w A) 0 (q4 (nK m - nK m)) (0, sX m w 0, 0) = (0, preS m w (nK m) 0, preC m (nK m) 0) := by
              rw [Nat.sub_self]
              show stB m w A (0, sX m w 0, 0) (0 + 0) = _
              have p0 : preC m (nK m) 0 = 0 := pX_0 m
              rw [p0]
              exact cif_f (fun z => z.2 (Or.inr ⟨rfl, Nat.zero_le _⟩))
            rw [e]
            exact lf.2
        · exact absurd c46 (nI_ne_neg (by omega))
    · exact absurd ⟨nI_le (Nat.zero_le _) (by omega), nI_le (show k ≤ nK m by omega) (by omega)⟩ c17
set_option maxRecDepth 4000 in
theorem tf_nodeN {E : En} (hok : EOK E) {m : St} (hw : Wf m) (hx : Wx m) {w A : Nat} (hA6 : A ≤ 60000) {k a S : Nat} (hk : k < nK m) {h : Hp} {b : Nat × Nat × Nat} (hs : Shp h.2) (hS : S = q4 (nK m - k) * a) (hSl : S + q4 (nK m - k) ≤ q4 (nK m)) (hz : ZS m w A h) (hr : rowI m k S h) (hbd : bdB m b) (hdm : dom m w A b S) (he : encB m b h) (hL : ∀ h1, Shp h1.2 → ZB k h h1 → ZS m w A h1 → (encB m b h1 ∨ encZ m w S b h1) → ∀ (Q : Option V → Hp → Prop) (h0 : Hp), (∀ h2, ZB k h1 h2 → encB m (fo (stB m w A) S (q4 (nK m - k)) b) h2 → Q none h2) → G E m_X7_tryFrom (nK m - k + 1) 0 0 Q h0 97 [some (vR (10, 0)), some (vI (nI k)), some (vI (nI (preC m k S))), some (vI (nI (preS m w k S))), none, some (vI (nI 0))] [] h1 0 0) : Call E m_X7_tryFrom (nK m - k + 1) 0 0 [vR (10, 0), vI (nI k), vI (nI (preC m k S)), vI (nI (preS m w k S))] h (fun r h' => r = none ∧ ZB k h h' ∧ encB m (fo (stB m w A) S (q4 (nK m - k)) b) h') := by
  have hKb := hw.k.2
  have hq8 := q4_8 hKb
  have hpl : preC m k S ≤ 480000 := preC_le hw hx (by omega)
  have hsl : preS m w k S ≤ 80 := preS_le hw (by omega)
  have hfl := sF_le hw w k
  obtain ⟨hb1, hb2, hb3⟩ := hbd
  obtain ⟨h8, h9, h54⟩ := he
  refine Call.enter hok (by decide) (Nat.le_of_ble_eq_true rfl) ?_
  show G E m_X7_tryFrom (nK m - k + 1) 0 0 _ h 0 [some (vR (10, 0)), some (vI (nI k)), some (vI (nI (preC m k S))), some (vI (nI (preS m w k S))), none, none] [] h 0 0
  refine g_iload_n (pc' := 1) dX7_tryFrom_0 rfl rfl ?_
  refine g_aload_n (pc' := 2) dX7_tryFrom_1 rfl rfl ?_
  refine g_getIv (v := nI (A)) (pc' := 5) (k := 6) dX7_tryFrom_2 rfl rfl ck_8 (by decide) fl_X7_33 rfl (hz.2.1) ?_
  refine g_icmp_gtN (tgt := 20) (pc' := 8) dX7_tryFrom_5 rfl (by decide) (by omega) (by omega) (fun c5 => ?_) (fun c5 => ?_)
  ·
    refine g_vret dX7_tryFrom_20 rfl (by decide) (by decide) ?_
    exact ⟨rfl, ZB.rf k h, by rw [bu_pr1 (by omega) hS (by omega)]; exact ⟨h8, h9, h54⟩⟩
  ·
    refine g_iload_n (pc' := 9) dX7_tryFrom_8 rfl rfl ?_
    refine g_iconstN (n := 0) (pc' := 10) dX7_tryFrom_9 rfl ?_
    refine g_aload_n (pc' := 11) dX7_tryFrom_10 rfl rfl ?_
    refine g_getIv (v := nI (nK m)) (pc' := 14) (k := 5) dX7_tryFrom_11 rfl rfl ck_8 (by decide) fl_X7_29 rfl (hz.1) ?_
    refine g_invSN (pc' := 17) (cx_within hok _ _ _) dX7_tryFrom_14 rfl nn_X7_55 st_X11_within in_X11 co_X11_within pd_X11_within rfl (by omega) (by decide) ⟨by decide, by decide⟩ (Nat.le_of_ble_eq_true rfl) ?_
    rintro _ _ ⟨rfl, rfl⟩ -
    refine g_ifB_ne (tgt := 21) (pc' := 20) dX7_tryFrom_17 rfl (by decide) (fun c17 => ?_) (fun c17 => ?_)
    ·
      refine g_iload_n (pc' := 22) dX7_tryFrom_21 rfl rfl ?_
      refine g_aload_n (pc' := 23) dX7_tryFrom_22 rfl rfl ?_
      refine g_getS (pc' := 26) (k := 2) (b := (52, 0)) dX7_tryFrom_23 rfl rfl ck_8 (by decide) fl_X7_20 rfl hs rfl ?_
      refine g_iload_n (pc' := 27) dX7_tryFrom_26 rfl rfl ?_
      refine g_ialdN (pc' := 28) (v := nI (sF m w k)) dX7_tryFrom_27 rfl rfl (by decide) (by omega) (hz.2.2.2.1 k (by omega)) ?_
      refine g_iaddN (pc' := 29) dX7_tryFrom_28 rfl ?_
      refine g_istore (pc' := 31) dX7_tryFrom_29 rfl (by decide) rfl ?_
      try simp only [List.set]
      refine g_iload (pc' := 33) dX7_tryFrom_31 rfl rfl ?_
      refine g_aload_n (pc' := 34) dX7_tryFrom_33 rfl rfl ?_
      refine g_getIv (v := nI (b.2.1)) (pc' := 37) (k := 8) dX7_tryFrom_34 rfl rfl ck_8 (by decide) fl_X7_39 rfl (h8) ?_
      refine g_icmp_ltN (tgt := 57) (pc' := 40) dX7_tryFrom_37 rfl (by decide) (by omega) (by omega) (fun c37 => ?_) (fun c37 => ?_)
      ·
        refine g_vret dX7_tryFrom_57 rfl (by decide) (by decide) ?_
        exact ⟨rfl, ZB.rf k h, by rw [bu_pr2 (by omega) hS (by omega)]; exact ⟨h8, h9, h54⟩⟩
      ·
        refine g_iload (pc' := 42) dX7_tryFrom_40 rfl rfl ?_
        refine g_aload_n (pc' := 43) dX7_tryFrom_42 rfl rfl ?_
        refine g_getIv (v := nI (b.2.1)) (pc' := 46) (k := 8) dX7_tryFrom_43 rfl rfl ck_8 (by decide) fl_X7_39 rfl (h8) ?_
        refine g_icmp_neN (tgt := 58) (pc' := 49) dX7_tryFrom_46 rfl (by decide) (by omega) (by omega) (fun c46 => ?_) (fun c46 => ?_)
        ·
          refine g_iload_n (pc' := 59) dX7_tryFrom_58 rfl rfl ?_
          refine g_aload_n (pc' := 60) dX7_tryFrom_59 rfl rfl ?_
          refine g_getIv (v := nI (nK m)) (pc' := 63) (k := 5) dX7_tryFrom_60 rfl rfl ck_8 (by decide) fl_X7_29 rfl (hz.1) ?_
          refine g_icmp_neN (tgt := 94) (pc' := 66) dX7_tryFrom_63 rfl (by decide) (by omega) (by omega) (fun c63 => ?_) (fun c63 => ?_)
          ·
            refine g_iconstN (n := 0) (pc' := 95) dX7_tryFrom_94 rfl ?_
            refine g_istore (pc' := 97) dX7_tryFrom_95 rfl (by decide) rfl ?_
            try simp only [List.set]
            refine G.drop 4 ?_
            simp only [List.set]
            exact hL h hs (ZB.rf k h) hz (Or.inl ⟨h8, h9, h54⟩) _ _ (fun h2 z2 e2 => ⟨rfl, z2, e2⟩)
          · exact absurd c63 (by omega)
        ·
          refine g_iload_n (pc' := 50) dX7_tryFrom_49 rfl rfl ?_
          refine g_aload_n (pc' := 51) dX7_tryFrom_50 rfl rfl ?_
          refine g_getIv (v := nI (b.2.2)) (pc' := 54) (k := 9) dX7_tryFrom_51 rfl rfl ck_8 (by decide) fl_X7_42 rfl (h9) ?_
          refine g_icmp_ltN (tgt := 58) (pc' := 57) dX7_tryFrom_54 rfl (by decide) (by omega) (by omega) (fun c54 => ?_) (fun c54 => ?_)
          ·
            refine g_iload_n (pc' := 59) dX7_tryFrom_58 rfl rfl ?_
            refine g_aload_n (pc' := 60) dX7_tryFrom_59 rfl rfl ?_
            refine g_getIv (v := nI (nK m)) (pc' := 63) (k := 5) dX7_tryFrom_60 rfl rfl ck_8 (by decide) fl_X7_29 rfl (hz.1) ?_
            refine g_icmp_neN (tgt := 94) (pc' := 66) dX7_tryFrom_63 rfl (by decide) (by omega) (by omega) (fun c63 => ?_) (fun c63 => ?_)
            ·
              refine g_iconstN (n := 0) (pc' := 95) dX7_tryFrom_94 rfl ?_
              refine g_istore (pc' := 97) dX7_tryFrom_95 rfl (by decide) rfl ?_
              try simp only [List.set]
              refine G.drop 4 ?_
              simp only [List.set]
              exact hL h hs (ZB.rf k h) hz (Or.inl ⟨h8, h9, h54⟩) _ _ (fun h2 z2 e2 => ⟨rfl, z2, e2⟩)
            · exact absurd c63 (by omega)
          ·
            refine g_vret dX7_tryFrom_57 rfl (by decide) (by decide) ?_
            exact ⟨rfl, ZB.rf k h, by rw [bu_pr2 (by omega) hS (by omega)]; exact ⟨h8, h9, h54⟩⟩
    · exact absurd ⟨nI_le (Nat.zero_le _) (by omega), nI_le (show k ≤ nK m by omega) (by omega)⟩ c17
set_option maxRecDepth 4000 in
theorem tf_nodeF {E : En} (hok : EOK E) {m : St} (hw : Wf m) (hx : Wx m) {w A : Nat} (hA6 : A ≤ 60000) {k a S : Nat} (hk : k < nK m) {h : Hp} {b : Nat × Nat × Nat} (hs : Shp h.2) (hS : S = q4 (nK m - k) * a) (hSl : S + q4 (nK m - k) ≤ q4 (nK m)) (hz : ZS m w A h) (hr : rowI m k S h) (hbd : bdB m b) (hdm : dom m w A b S) (he : encZ m w S b h) (hL : ∀ h1, Shp h1.2 → ZB k h h1 → ZS m w A h1 → (encB m b h1 ∨ encZ m w S b h1) → ∀ (Q : Option V → Hp → Prop) (h0 : Hp), (∀ h2, ZB k h1 h2 → encB m (fo (stB m w A) S (q4 (nK m - k)) b) h2 → Q none h2) → G E m_X7_tryFrom (nK m - k + 1) 0 0 Q h0 97 [some (vR (10, 0)), some (vI (nI k)), some (vI (nI (preC m k S))), some (vI (nI (preS m w k S))), none, some (vI (nI 0))] [] h1 0 0) : Call E m_X7_tryFrom (nK m - k + 1) 0 0 [vR (10, 0), vI (nI k), vI (nI (preC m k S)), vI (nI (preS m w k S))] h (fun r h' => r = none ∧ ZB k h h' ∧ encB m (fo (stB m w A) S (q4 (nK m - k)) b) h') := by
  have hKb := hw.k.2
  have hq8 := q4_8 hKb
  have hpl : preC m k S ≤ 480000 := preC_le hw hx (by omega)
  have hsl : preS m w k S ≤ 80 := preS_le hw (by omega)
  have hfl := sF_le hw w k
  obtain ⟨hb1, hb2, hb3⟩ := hbd
  obtain ⟨eS, eb, h8⟩ := he
  refine Call.enter hok (by decide) (Nat.le_of_ble_eq_true rfl) ?_
  show G E m_X7_tryFrom (nK m - k + 1) 0 0 _ h 0 [some (vR (10, 0)), some (vI (nI k)), some (vI (nI (preC m k S))), some (vI (nI (preS m w k S))), none, none] [] h 0 0
  refine g_iload_n (pc' := 1) dX7_tryFrom_0 rfl rfl ?_
  refine g_aload_n (pc' := 2) dX7_tryFrom_1 rfl rfl ?_
  refine g_getIv (v := nI (A)) (pc' := 5) (k := 6) dX7_tryFrom_2 rfl rfl ck_8 (by decide) fl_X7_33 rfl (hz.2.1) ?_
  refine g_icmp_gtN (tgt := 20) (pc' := 8) dX7_tryFrom_5 rfl (by decide) (by omega) (by omega) (fun c5 => ?_) (fun c5 => ?_)
  · exact absurd c5 (by rw [eS]; have := preC_up (m := m) (k := k) (x := 0) (by omega); have := pX_0 m; unfold pX at this; omega)
  ·
    refine g_iload_n (pc' := 9) dX7_tryFrom_8 rfl rfl ?_
    refine g_iconstN (n := 0) (pc' := 10) dX7_tryFrom_9 rfl ?_
    refine g_aload_n (pc' := 11) dX7_tryFrom_10 rfl rfl ?_
    refine g_getIv (v := nI (nK m)) (pc' := 14) (k := 5) dX7_tryFrom_11 rfl rfl ck_8 (by decide) fl_X7_29 rfl (hz.1) ?_
    refine g_invSN (pc' := 17) (cx_within hok _ _ _) dX7_tryFrom_14 rfl nn_X7_55 st_X11_within in_X11 co_X11_within pd_X11_within rfl (by omega) (by decide) ⟨by decide, by decide⟩ (Nat.le_of_ble_eq_true rfl) ?_
    rintro _ _ ⟨rfl, rfl⟩ -
    refine g_ifB_ne (tgt := 21) (pc' := 20) dX7_tryFrom_17 rfl (by decide) (fun c17 => ?_) (fun c17 => ?_)
    ·
      refine g_iload_n (pc' := 22) dX7_tryFrom_21 rfl rfl ?_
      refine g_aload_n (pc' := 23) dX7_tryFrom_22 rfl rfl ?_
      refine g_getS (pc' := 26) (k := 2) (b := (52, 0)) dX7_tryFrom_23 rfl rfl ck_8 (by decide) fl_X7_20 rfl hs rfl ?_
      refine g_iload_n (pc' := 27) dX7_tryFrom_26 rfl rfl ?_
      refine g_ialdN (pc' := 28) (v := nI (sF m w k)) dX7_tryFrom_27 rfl rfl (by decide) (by omega) (hz.2.2.2.1 k (by omega)) ?_
      refine g_iaddN (pc' := 29) dX7_tryFrom_28 rfl ?_
      refine g_istore (pc' := 31) dX7_tryFrom_29 rfl (by decide) rfl ?_
      try simp only [List.set]
      refine g_iload (pc' := 33) dX7_tryFrom_31 rfl rfl ?_
      refine g_aload_n (pc' := 34) dX7_tryFrom_33 rfl rfl ?_
      refine g_getIv (v := -1) (pc' := 37) (k := 8) dX7_tryFrom_34 rfl rfl ck_8 (by decide) fl_X7_39 rfl (h8) ?_
      refine g_icmp_lt (tgt := 57) (pc' := 40) dX7_tryFrom_37 rfl (by decide) (fun c37 => ?_) (fun c37 => ?_)
      · exact absurd (Int32.lt_iff_toInt_lt.mp c37) (by rw [nI_toInt (by omega)]; show ¬ (_ : Int) < -1; omega)
      ·
        refine g_iload (pc' := 42) dX7_tryFrom_40 rfl rfl ?_
        refine g_aload_n (pc' := 43) dX7_tryFrom_42 rfl rfl ?_
        refine g_getIv (v := -1) (pc' := 46) (k := 8) dX7_tryFrom_43 rfl rfl ck_8 (by decide) fl_X7_39 rfl (h8) ?_
        refine g_icmp_ne (tgt := 58) (pc' := 49) dX7_tryFrom_46 rfl (by decide) (fun c46 => ?_) (fun c46 => ?_)
        ·
          refine g_iload_n (pc' := 59) dX7_tryFrom_58 rfl rfl ?_
          refine g_aload_n (pc' := 60) dX7_tryFrom_59 rfl rfl ?_
          refine g_getIv (v := nI (nK m)) (pc' := 63) (k := 5) dX7_tryFrom_60 rfl rfl ck_8 (by decide) fl_X7_29 rfl (hz.1) ?_
          refine g_icmp_neN (tgt := 94) (pc' := 66) dX7_tryFrom_63 rfl (by decide) (by omega) (by omega) (fun c63 => ?_) (fun c63 => ?_)
          ·
            refine g_iconstN (n := 0) (pc' := 95) dX7_tryFrom_94 rfl ?_
            refine g_istore (pc' := 97) dX7_tryFrom_95 rfl (by decide) rfl ?_
            try simp only [List.set]
            refine G.drop 4 ?_
            simp only [List.set]
            exact hL h hs (ZB.rf k h) hz (Or.inr ⟨eS, eb, h8⟩) _ _ (fun h2 z2 e2 => ⟨rfl, z2, e2⟩)
          · exact absurd c63 (by omega)
        · exact absurd c46 (nI_ne_neg (by omega))
    · exact absurd ⟨nI_le (Nat.zero_le _) (by omega), nI_le (show k ≤ nK m by omega) (by omega)⟩ c17
set_option maxRecDepth 4000 in
theorem tf_loop {E : En} (hok : EOK E) {m : St} (hw : Wf m) (hx : Wx m) {w A : Nat} (hA6 : A ≤ 60000) {k a S : Nat} (hk : k < nK m) {b : Nat × Nat × Nat} (hS : S = q4 (nK m - k) * a) (hSl : S + q4 (nK m - k) ≤ q4 (nK m)) (hbd : bdB m b) (hdm : dom m w A b S) {h : Hp} (hr0 : rowI m k S h) (ih0 : ∀ (a S : Nat) (h : Hp) (b : Nat × Nat × Nat), Shp h.2 → S = q4 (nK m - (k + 1)) * a → S + q4 (nK m - (k + 1)) ≤ q4 (nK m) → ZS m w A h → rowI m (k + 1) S h → bdB m b → dom m w A b S → (encB m b h ∨ encZ m w S b h) → Call E m_X7_tryFrom (nK m - (k + 1) + 1) 0 0 [vR (10, 0), vI (nI (k + 1)), vI (nI (preC m (k + 1) S)), vI (nI (preS m w (k + 1) S))] h (fun r h' => r = none ∧ ZB (k + 1) h h' ∧ encB m (fo (stB m w A) S (q4 (nK m - (k + 1))) b) h')) : ∀ c n (h1 : Hp), n ≤ 4 → 4 - n = c → Shp h1.2 → ZB k h h1 → ZS m w A h1 → (encB m (fo (stB m w A) S (n * q4 (nK m - (k + 1))) b) h1 ∨ (n = 0 ∧ encZ m w S b h1)) → ∀ (Q : Option V → Hp → Prop) (h0 : Hp), (∀ h2, ZB k h1 h2 → encB m (fo (stB m w A) S (q4 (nK m - k)) b) h2 → Q none h2) → G E m_X7_tryFrom (nK m - k + 1) 0 0 Q h0 97 [some (vR (10, 0)), some (vI (nI k)), some (vI (nI (preC m k S))), some (vI (nI (preS m w k S))), none, some (vI (nI n))] [] h1 0 0 := by
  have hKb := hw.k.2
  have hq8 := q4_8 hKb
  have hpl : preC m k S ≤ 480000 := preC_le hw hx (by omega)
  have hsl : preS m w k S ≤ 80 := preS_le hw (by omega)
  have hqk := q4_k hk
  have hqp := q4_pos (nK m - (k + 1))
  have hpr := (pr_n hx hk).2
  intro c
  induction c with
  | zero =>
    intro n h1 hn hc hs zb hz he Q h0 hQ
    refine g_iload (pc' := 99) dX7_tryFrom_97 rfl rfl ?_
    refine g_iconstN (n := 3) (pc' := 100) dX7_tryFrom_99 rfl ?_
    refine g_icmp_gtN (tgt := 174) (pc' := 103) dX7_tryFrom_100 rfl (by decide) (by omega) (by omega) (fun c100 => ?_) (fun c100 => ?_)
    ·
      refine g_vret dX7_tryFrom_174 rfl (by decide) (by decide) ?_
      have e : n = 4 := by omega
      subst e
      refine hQ h1 (ZB.rf k h1) ?_
      rcases he with he | he
      · rw [hqk]; exact he
      · exact absurd he.1 (by decide)
    · exact absurd c100 (by omega)
  | succ c ih =>
    intro n h1 hn hc hs zb hz he Q h0 hQ
    have n3 : n ≤ 3 := by omega
    have hsv := sv_le hw w k n
    have hsv1 := sv_le hw w k (n - 1)
    have hnp : n * prN m k ≤ 3 * 20000 := Nat.mul_le_mul n3 hpr
    have hnq := Nat.mul_le_mul_right (q4 (nK m - (k + 1))) n3
    have hdn : dom m w A (fo (stB m w A) S (n * q4 (nK m - (k + 1))) b) (S + n * q4 (nK m - (k + 1))) := dom_fo hdm _
    have hbn : bdB m (fo (stB m w A) S (n * q4 (nK m - (k + 1))) b) := foB_bd hw hx hbd _ (by omega)
    have fs : fo (stB m w A) S ((n + 1) * q4 (nK m - (k + 1))) b = fo (stB m w A) (S + n * q4 (nK m - (k + 1))) (q4 (nK m - (k + 1))) (fo (stB m w A) S (n * q4 (nK m - (k + 1))) b) := by rw [Nat.add_mul, Nat.one_mul, fo_add]
    refine g_iload (pc' := 99) dX7_tryFrom_97 rfl rfl ?_
    refine g_iconstN (n := 3) (pc' := 100) dX7_tryFrom_99 rfl ?_
    refine g_icmp_gtN (tgt := 174) (pc' := 103) dX7_tryFrom_100 rfl (by decide) (by omega) (by omega) (fun c100 => ?_) (fun c100 => ?_)
    · exact absurd c100 (by omega)
    ·
      refine g_iload (pc' := 105) dX7_tryFrom_103 rfl rfl ?_
      refine g_if_eqN (tgt := 131) (pc' := 108) dX7_tryFrom_105 rfl (by decide) (by omega) (fun c105 => ?_) (fun c105 => ?_)
      ·
        have zr : ZB k h1 (wI h1 (53, 0) k (nI n)) := (ZB.rf k h1).row
        have hen : encB m (fo (stB m w A) S (n * q4 (nK m - (k + 1))) b) (wI h1 (53, 0) k (nI n)) ∨ encZ m w (S + n * q4 (nK m - (k + 1))) (fo (stB m w A) S (n * q4 (nK m - (k + 1))) b) (wI h1 (53, 0) k (nI n)) := by
          rcases he with he | he
          · exact Or.inl he
          · right
            rw [he.1, Nat.zero_mul, Nat.add_zero]
            exact he.2
        refine g_aload_n (pc' := 132) dX7_tryFrom_131 rfl rfl ?_
        refine g_getS (pc' := 135) (k := 3) (b := (53, 0)) dX7_tryFrom_132 rfl rfl ck_8 (by decide) fl_X7_23 rfl hs rfl ?_
        refine g_iload_n (pc' := 136) dX7_tryFrom_135 rfl rfl ?_
        refine g_iload (pc' := 138) dX7_tryFrom_136 rfl rfl ?_
        refine g_iastN (pc' := 139) dX7_tryFrom_138 rfl rfl (by decide) (by omega) ?_
        refine g_aload_n (pc' := 140) dX7_tryFrom_139 rfl rfl ?_
        refine g_iload_n (pc' := 141) dX7_tryFrom_140 rfl rfl ?_
        refine g_iconstN (n := 1) (pc' := 142) dX7_tryFrom_141 rfl ?_
        refine g_iaddN (pc' := 143) dX7_tryFrom_142 rfl ?_
        refine g_iload_n (pc' := 144) dX7_tryFrom_143 rfl rfl ?_
        refine g_iload (pc' := 146) dX7_tryFrom_144 rfl rfl ?_
        refine g_aload_n (pc' := 147) dX7_tryFrom_146 rfl rfl ?_
        refine g_getS (pc' := 150) (k := 0) (b := (49, 0)) dX7_tryFrom_147 rfl rfl ck_8 (by decide) fl_X7_9 rfl hs rfl ?_
        refine g_iload_n (pc' := 151) dX7_tryFrom_150 rfl rfl ?_
        refine g_ialdN (pc' := 152) (v := nI (prN m k)) dX7_tryFrom_151 rfl rfl (by decide) (by omega) ((hz.2.2.1 k hk).1) ?_
        refine g_imulN (pc' := 153) dX7_tryFrom_152 rfl ?_
        refine g_iaddN (pc' := 154) dX7_tryFrom_153 rfl ?_
        refine g_iload_n (pc' := 155) dX7_tryFrom_154 rfl rfl ?_
        refine g_aload_n (pc' := 156) dX7_tryFrom_155 rfl rfl ?_
        refine g_getS (pc' := 159) (k := 1) (b := (50, 0)) dX7_tryFrom_156 rfl rfl ck_8 (by decide) fl_X7_17 rfl hs rfl ?_
        refine g_iload_n (pc' := 160) dX7_tryFrom_159 rfl rfl ?_
        refine g_aaldI (r := some (51, k)) (pc' := 161) dX7_tryFrom_160 rfl (rfl) (vp_in_nI (by omega) (by omega)) (by rw [nI_clamp (by omega)]; exact hz.2.2.2.2 k (by omega)) ?_
        refine g_iload (pc' := 163) dX7_tryFrom_161 rfl rfl ?_
        refine g_ialdN (pc' := 164) (v := nI (sv m w k (n))) dX7_tryFrom_163 rfl rfl (by decide) (by omega) ((hz.2.2.1 k hk).2 (n) (by omega)) ?_
        refine g_iaddN (pc' := 165) dX7_tryFrom_164 rfl ?_
        rw [← ch_s hk n3 hS, ← ch_c hk n3 hS]
        refine g_invV (pc' := 168) (ih0 (4 * a + n) (S + n * q4 (nK m - (k + 1))) _ _ (by exact hs) (ch_S hk hS) (by omega) (hz.zb zr) (ch_row hk n3 hS (hr0.zb (zb.tr zr)) (by simp [wI_at])) hbn hdn hen) dX7_tryFrom_165 rfl rfl ck_8 rfl ml_X7_51 im_X7_tryFrom sl_X7_tryFrom in_X7 co_X7_tryFrom pd_X7_tryFrom rfl (by omega) (by decide) ⟨by decide, by decide⟩ (Nat.le_of_ble_eq_true rfl) ?_
        rintro _ h2 ⟨rfl, z2, e2⟩ -
        refine g_iincN (k := 1) (pc' := 171) dX7_tryFrom_168 rfl rfl (by decide) rfl ?_
        try simp only [List.set]
        refine g_goto (tgt := 97) dX7_tryFrom_171 (by decide) ?_
        refine ih (n + 1) h2 (by omega) (by omega) (by rw [z2.1]; exact hs) (zb.tr (zr.tr (z2.dn (Nat.le_succ k)))) (hz.zb (zr.tr (z2.dn (Nat.le_succ k)))) (Or.inl ?_) Q h0 (fun h3 z3 e3 => hQ h3 ((zr.tr (z2.dn (Nat.le_succ k))).tr z3) e3)
        rw [fs]
        exact e2
      ·
        refine g_aload_n (pc' := 109) dX7_tryFrom_108 rfl rfl ?_
        refine g_getS (pc' := 112) (k := 1) (b := (50, 0)) dX7_tryFrom_109 rfl rfl ck_8 (by decide) fl_X7_17 rfl hs rfl ?_
        refine g_iload_n (pc' := 113) dX7_tryFrom_112 rfl rfl ?_
        refine g_aaldI (r := some (51, k)) (pc' := 114) dX7_tryFrom_113 rfl (rfl) (vp_in_nI (by omega) (by omega)) (by rw [nI_clamp (by omega)]; exact hz.2.2.2.2 k (by omega)) ?_
        refine g_iload (pc' := 116) dX7_tryFrom_114 rfl rfl ?_
        refine g_ialdN (pc' := 117) (v := nI (sv m w k (n))) dX7_tryFrom_116 rfl rfl (by decide) (by omega) ((hz.2.2.1 k hk).2 (n) (by omega)) ?_
        refine g_aload_n (pc' := 118) dX7_tryFrom_117 rfl rfl ?_
        refine g_getS (pc' := 121) (k := 1) (b := (50, 0)) dX7_tryFrom_118 rfl rfl ck_8 (by decide) fl_X7_17 rfl hs rfl ?_
        refine g_iload_n (pc' := 122) dX7_tryFrom_121 rfl rfl ?_
        refine g_aaldI (r := some (51, k)) (pc' := 123) dX7_tryFrom_122 rfl (rfl) (vp_in_nI (by omega) (by omega)) (by rw [nI_clamp (by omega)]; exact hz.2.2.2.2 k (by omega)) ?_
        refine g_iload (pc' := 125) dX7_tryFrom_123 rfl rfl ?_
        refine g_iconstN (n := 1) (pc' := 126) dX7_tryFrom_125 rfl ?_
        refine g_isubN (pc' := 127) dX7_tryFrom_126 rfl (by omega) ?_
        refine g_ialdN (pc' := 128) (v := nI (sv m w k (n - 1))) dX7_tryFrom_127 rfl rfl (by decide) (by omega) ((hz.2.2.1 k hk).2 (n - 1) (by omega)) ?_
        refine g_icmp_leN (tgt := 168) (pc' := 131) dX7_tryFrom_128 rfl (by decide) (by omega) (by omega) (fun c128 => ?_) (fun c128 => ?_)
        ·
          refine g_iincN (k := 1) (pc' := 171) dX7_tryFrom_168 rfl rfl (by decide) rfl ?_
          try simp only [List.set]
          refine g_goto (tgt := 97) dX7_tryFrom_171 (by decide) ?_
          refine ih (n + 1) h1 (by omega) (by omega) hs zb hz (Or.inl ?_) Q h0 hQ
          rw [fs, bu_skip hk hS (by omega) n3 hdn (by omega)]
          exact he.resolve_right (fun z => c105 z.1)
        ·
          have zr : ZB k h1 (wI h1 (53, 0) k (nI n)) := (ZB.rf k h1).row
          have hen : encB m (fo (stB m w A) S (n * q4 (nK m - (k + 1))) b) (wI h1 (53, 0) k (nI n)) ∨ encZ m w (S + n * q4 (nK m - (k + 1))) (fo (stB m w A) S (n * q4 (nK m - (k + 1))) b) (wI h1 (53, 0) k (nI n)) := by
            rcases he with he | he
            · exact Or.inl he
            · right
              rw [he.1, Nat.zero_mul, Nat.add_zero]
              exact he.2
          refine g_aload_n (pc' := 132) dX7_tryFrom_131 rfl rfl ?_
          refine g_getS (pc' := 135) (k := 3) (b := (53, 0)) dX7_tryFrom_132 rfl rfl ck_8 (by decide) fl_X7_23 rfl hs rfl ?_
          refine g_iload_n (pc' := 136) dX7_tryFrom_135 rfl rfl ?_
          refine g_iload (pc' := 138) dX7_tryFrom_136 rfl rfl ?_
          refine g_iastN (pc' := 139) dX7_tryFrom_138 rfl rfl (by decide) (by omega) ?_
          refine g_aload_n (pc' := 140) dX7_tryFrom_139 rfl rfl ?_
          refine g_iload_n (pc' := 141) dX7_tryFrom_140 rfl rfl ?_
          refine g_iconstN (n := 1) (pc' := 142) dX7_tryFrom_141 rfl ?_
          refine g_iaddN (pc' := 143) dX7_tryFrom_142 rfl ?_
          refine g_iload_n (pc' := 144) dX7_tryFrom_143 rfl rfl ?_
          refine g_iload (pc' := 146) dX7_tryFrom_144 rfl rfl ?_
          refine g_aload_n (pc' := 147) dX7_tryFrom_146 rfl rfl ?_
          refine g_getS (pc' := 150) (k := 0) (b := (49, 0)) dX7_tryFrom_147 rfl rfl ck_8 (by decide) fl_X7_9 rfl hs rfl ?_
          refine g_iload_n (pc' := 151) dX7_tryFrom_150 rfl rfl ?_
          refine g_ialdN (pc' := 152) (v := nI (prN m k)) dX7_tryFrom_151 rfl rfl (by decide) (by omega) ((hz.2.2.1 k hk).1) ?_
          refine g_imulN (pc' := 153) dX7_tryFrom_152 rfl ?_
          refine g_iaddN (pc' := 154) dX7_tryFrom_153 rfl ?_
          refine g_iload_n (pc' := 155) dX7_tryFrom_154 rfl rfl ?_
          refine g_aload_n (pc' := 156) dX7_tryFrom_155 rfl rfl ?_
          refine g_getS (pc' := 159) (k := 1) (b := (50, 0)) dX7_tryFrom_156 rfl rfl ck_8 (by decide) fl_X7_17 rfl hs rfl ?_
          refine g_iload_n (pc' := 160) dX7_tryFrom_159 rfl rfl ?_
          refine g_aaldI (r := some (51, k)) (pc' := 161) dX7_tryFrom_160 rfl (rfl) (vp_in_nI (by omega) (by omega)) (by rw [nI_clamp (by omega)]; exact hz.2.2.2.2 k (by omega)) ?_
          refine g_iload (pc' := 163) dX7_tryFrom_161 rfl rfl ?_
          refine g_ialdN (pc' := 164) (v := nI (sv m w k (n))) dX7_tryFrom_163 rfl rfl (by decide) (by omega) ((hz.2.2.1 k hk).2 (n) (by omega)) ?_
          refine g_iaddN (pc' := 165) dX7_tryFrom_164 rfl ?_
          rw [← ch_s hk n3 hS, ← ch_c hk n3 hS]
          refine g_invV (pc' := 168) (ih0 (4 * a + n) (S + n * q4 (nK m - (k + 1))) _ _ (by exact hs) (ch_S hk hS) (by omega) (hz.zb zr) (ch_row hk n3 hS (hr0.zb (zb.tr zr)) (by simp [wI_at])) hbn hdn hen) dX7_tryFrom_165 rfl rfl ck_8 rfl ml_X7_51 im_X7_tryFrom sl_X7_tryFrom in_X7 co_X7_tryFrom pd_X7_tryFrom rfl (by omega) (by decide) ⟨by decide, by decide⟩ (Nat.le_of_ble_eq_true rfl) ?_
          rintro _ h2 ⟨rfl, z2, e2⟩ -
          refine g_iincN (k := 1) (pc' := 171) dX7_tryFrom_168 rfl rfl (by decide) rfl ?_
          try simp only [List.set]
          refine g_goto (tgt := 97) dX7_tryFrom_171 (by decide) ?_
          refine ih (n + 1) h2 (by omega) (by omega) (by rw [z2.1]; exact hs) (zb.tr (zr.tr (z2.dn (Nat.le_succ k)))) (hz.zb (zr.tr (z2.dn (Nat.le_succ k)))) (Or.inl ?_) Q h0 (fun h3 z3 e3 => hQ h3 ((zr.tr (z2.dn (Nat.le_succ k))).tr z3) e3)
          rw [fs]
          exact e2
theorem tf_all {E : En} (hok : EOK E) {m : St} (hw : Wf m) (hx : Wx m) {w A : Nat} (hA6 : A ≤ 60000) : ∀ (r k : Nat), k ≤ nK m → nK m - k = r → ∀ (a S : Nat) (h : Hp) (b : Nat × Nat × Nat), Shp h.2 → S = q4 (nK m - k) * a → S + q4 (nK m - k) ≤ q4 (nK m) → ZS m w A h → rowI m k S h → bdB m b → dom m w A b S → (encB m b h ∨ encZ m w S b h) → Call E m_X7_tryFrom (nK m - k + 1) 0 0 [vR (10, 0), vI (nI k), vI (nI (preC m k S)), vI (nI (preS m w k S))] h (fun r h' => r = none ∧ ZB k h h' ∧ encB m (fo (stB m w A) S (q4 (nK m - k)) b) h')
  | 0, k, hk, hr => fun a S h b hs hS hl hz hrw hbd hdm he => by
    rcases he with he | he
    · exact tf_leafN hok hw hx hA6 (by omega) hs hS hl hz hrw hbd hdm he
    · exact tf_leafF hok hw hx hA6 (by omega) hs hS hl hz hrw hbd hdm he
  | r + 1, k, hk, hr => fun a S h b hs hS hl hz hrw hbd hdm he => by
    have ih := tf_all (w := w) hok hw hx hA6 r (k + 1) (by omega) (by omega)
    have hL : ∀ h1, Shp h1.2 → ZB k h h1 → ZS m w A h1 → (encB m b h1 ∨ encZ m w S b h1) → ∀ (Q : Option V → Hp → Prop) (h0 : Hp), (∀ h2, ZB k h1 h2 → encB m (fo (stB m w A) S (q4 (nK m - k)) b) h2 → Q none h2) → G E m_X7_tryFrom (nK m - k + 1) 0 0 Q h0 97 [some (vR (10, 0)), some (vI (nI k)), some (vI (nI (preC m k S))), some (vI (nI (preS m w k S))), none, some (vI (nI 0))] [] h1 0 0 := fun h1 s1 z1 zs e1 Q h0 hQ =>
      tf_loop hok hw hx hA6 (by omega) hS hl hbd hdm hrw ih _ 0 h1 (by decide) rfl s1 z1 zs (by
        rw [Nat.zero_mul]
        exact e1.elim Or.inl (fun z => Or.inr ⟨rfl, z⟩)) Q h0 hQ
    rcases he with he | he
    · exact tf_nodeN hok hw hx hA6 (by omega) hs hS hl hz hrw hbd hdm he hL
    · exact tf_nodeF hok hw hx hA6 (by omega) hs hS hl hz hrw hbd hdm he hL
