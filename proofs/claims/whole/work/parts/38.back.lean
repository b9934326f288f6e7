set_option maxRecDepth 4000 in
theorem cm_next {E : En} (hok : EOK E) {h : Hp} (hs : Shp h.2) (hw : Wf (mo h)) (hx : Wx (mo h)) {R : Rm} (hR : WR (mo h) R) (k0 : Int32) (x : Int32) : Call E m_X12_next 8 0 0 [vR MO, vI k0, vI x] h (fun r h' => r = some (vI (sNext (mo h) R k0 x).1) ∧ mo h' = (sNext (mo h) R k0 x).2 ∧ Mk h h') := by
  have hNw : h.1 MO 2 = nI (nW (mo h)) := hw.w.1
  have hNwb := hw.w.2
  have hC : h.1 MO 30 = nI (nC (mo h)) := hw.c.1
  have hCb := hw.c.2
  have hK : h.1 MO 3 = nI (nK (mo h)) := hw.k.1
  have hKb := hw.k.2
  have hT : h.1 MO 4 = nI (nT (mo h)) := hw.t.1
  have hTb := hw.t.2
  have hF : h.1 MO 5 = nI (nF (mo h)) := hw.f.1
  have hFb := hw.f.2
  have hRc : h.1 MO 59 = nI (nR (mo h)) := hw.r.1
  have hRb := hw.r.2
  have hG : h.1 MO 60 = nI (nGf (mo h)) := hw.g.1
  have hGb := hw.g.2
  have hA : h.1 MO 70 = nI (nA (mo h)) := hw.a.1
  have hAb := hw.a.2
  have hTl : h.1 MO 1 = nI (nTl (mo h)) := hw.tl.1
  have hTlb := hw.tl.2
  refine Call.enter hok (by decide) (Nat.le_of_ble_eq_true rfl) ?_
  show G E m_X12_next 8 0 0 _ h 0 [some (vR MO), some (vI k0), some (vI x), none, none, none, none, none] [] h 0 0
  refine g_aload_n (pc' := 1) dX12_next_0 rfl rfl ?_
  refine g_iload_n (pc' := 2) dX12_next_1 rfl rfl ?_
  refine g_invV (pc' := 5) (cm_isKind hok hw _) dX12_next_2 rfl rfl ck_13 rfl ml_X12_230 im_X12_isKind sl_X12_isKind in_X12 co_X12_isKind pd_X12_isKind rfl (by omega) (by decide) ⟨by decide, by decide⟩ (Nat.le_of_ble_eq_true rfl) ?_
  rintro _ _ ⟨rfl, rfl⟩ -
  refine g_ifB_eq (tgt := 20) (pc' := 8) dX12_next_5 rfl (by decide) (fun c5 => ?_) (fun c5 => ?_)
  ·
    refine g_ldcw (pc' := 23) dX12_next_20 rfl kc_X12_519 ?_
    refine g_iret dX12_next_23 rfl (by decide) (by decide) ?_
    have e : sNext (mo h) R k0 x = (-1000000, mo h) := cif_f (fun z => c5 z.1)
    rw [e]
    exact ⟨rfl, rfl, Mk.rf h⟩
  ·
    have k5 := c5
    obtain ⟨k, hk, rfl⟩ := k5
    refine g_iload_n (pc' := 9) dX12_next_8 rfl rfl ?_
    refine g_i2l (pc' := 10) dX12_next_9 rfl ?_
    refine g_lconst (v := 0) (pc' := 11) dX12_next_10 rfl rfl ?_
    refine g_ldc2 (pc' := 14) dX12_next_11 rfl kc_X12_513 ?_
    refine g_invS (pc' := 17) (c_liesI hok _ (0) (2) rfl (by decide) (by decide)) dX12_next_14 rfl ml_X12_203 st_X12_lies in_X12 co_X12_lies pd_X12_lies rfl (by omega) (by decide) ⟨by decide, by decide⟩ (Nat.le_of_ble_eq_true rfl) ?_
    rintro _ _ ⟨rfl, rfl⟩ -
    refine g_ifB_ne (tgt := 24) (pc' := 20) dX12_next_17 rfl (by decide) (fun c17 => ?_) (fun c17 => ?_)
    ·
      refine g_iload_n (pc' := 25) dX12_next_24 rfl rfl ?_
      refine g_iconstN (n := 2) (pc' := 26) dX12_next_25 rfl ?_
      refine g_icmp_ne (tgt := 35) (pc' := 29) dX12_next_26 rfl (by decide) (fun c26 => ?_) (fun c26 => ?_)
      ·
        refine g_iconst (v := -1) (pc' := 36) dX12_next_35 rfl (by decide) ?_
        refine g_istore_n (pc' := 37) dX12_next_36 rfl (by decide) rfl ?_
        try simp only [List.set]
        refine g_iconstN (n := 0) (pc' := 38) dX12_next_37 rfl ?_
        refine g_istore (pc' := 40) dX12_next_38 rfl (by decide) rfl ?_
        try simp only [List.set]
        refine g_iconstN (n := 0) (pc' := 41) dX12_next_40 rfl ?_
        refine g_istore (pc' := 43) dX12_next_41 rfl (by decide) rfl ?_
        try simp only [List.set]
        have e : sNext (mo h) R (nI k) x = (nxA (mo h) R k x, mo h) := by unfold sNext; simp only [nI_clamp (show k < 2 ^ 31 by omega)]; exact cif_t ⟨c5, c17⟩
        rw [e]
        exact lm_next hok hs hw hR hk c26 (by omega) (fun _ a b => ⟨rfl, a, b⟩) _ 0 h (Nat.zero_le _) rfl rfl (Mk.rf h)
      ·
        refine g_aload_n (pc' := 30) dX12_next_29 rfl rfl ?_
        refine g_iload_n (pc' := 31) dX12_next_30 rfl rfl ?_
        refine g_invV (pc' := 34) (cm_waitingFor hok hs hw (k := k) (by omega)) dX12_next_31 rfl rfl ck_13 rfl ml_X12_400 im_X12_waitingFor sl_X12_waitingFor in_X12 co_X12_waitingFor pd_X12_waitingFor rfl (by omega) (by decide) ⟨by decide, by decide⟩ (Nat.le_of_ble_eq_true rfl) ?_
        rintro _ _ ⟨rfl, rfl⟩ -
        refine g_iret dX12_next_34 rfl (by decide) (by decide) ?_
        have e : sNext (mo h) R (nI k) x = (nxA (mo h) R k x, mo h) := by unfold sNext; simp only [nI_clamp (show k < 2 ^ 31 by omega)]; exact cif_t ⟨c5, c17⟩
        rw [e]
        exact ⟨congrArg (fun z : Int32 => some (vI z)) (show _ = nxA (mo h) R k x from (cif_t c26).symm), rfl, Mk.rf h⟩
    ·
      refine g_ldcw (pc' := 23) dX12_next_20 rfl kc_X12_519 ?_
      refine g_iret dX12_next_23 rfl (by decide) (by decide) ?_
      have e : sNext (mo h) R (nI k) x = (-1000000, mo h) := cif_f (fun z => c17 z.2)
      rw [e]
      exact ⟨rfl, rfl, Mk.rf h⟩
theorem wN_ge (h : Hp) (a : Ad) (b : Nat) (f : Nat → Int32) {i : Nat} : ∀ n, b + n ≤ i → (wN h a b f n).1 a i = h.1 a i
  | 0, _ => rfl
  | n + 1, q => by
    show (wI (wN h a b f n) a (b + n) (f n)).1 a i = _
    rw [wI_at, if_neg (fun z => by omega)]
    exact wN_ge h a b f n (by omega)
theorem nb_bi {P : Prop} : vp_nar .boolean (bi P) = bi P := by
  by_cases q : P
  · rw [bi_t q]; rfl
  · rw [bi_f q]; rfl
/-- back: what the tape says -/
def bkOK (m : St) (t : Nat) : Prop := ∀ s, s < 6 → m 100 s &&& nI 255 ≤ m 125 (6 * t + s)
def bkM (m : St) (t : Nat) : Int32 := sm (fun s => m 125 (6 * t + s) - (m 100 s &&& nI 255)) 6
noncomputable def bkW (m : St) (t : Nat) : Int32 := cif (nI 1 ≤ m 1 2 - m 121 t) (m 1 2 - m 121 t) (nI 1)
def bk2 (m : St) (t : Nat) : St := stN (stU m 1 1 (nI 0)) 125 (6 * t) (fun s => m 100 s &&& nI 255) 6
noncomputable def bk3 (m : St) (t : Nat) : St := stU (bk2 m t) 117 t (m 117 t + bkW m t)
noncomputable def bkL (m : St) (t : Nat) : Int32 := cif (m 1 2 ≤ m 120 t) (nI 0) (m 1 2 - m 120 t)
noncomputable def bkf (m : St) (R : Rm) (t f : Nat) (l : Int32) : Int32 := tlF m R (envT m t f l) (nI 102) (nI 0) 100000 (nI 0) (nC m) 0
noncomputable def bkA (m : St) (R : Rm) (t f : Nat) (l la : Int32) : Int32 := la * tlF m R (envT m t f l) (nI 112) (nI 0) 100000 (nI 0) (nC m) 0 + cif (smP m R (envT m t f l) (nI 111)) (nI 0) (bkf m R t f l)
noncomputable def bkC (m : St) (R : Rm) (t f : Nat) (l : Int32) : Int32 := cif (bkf m R t f l = 0) (nI 0) (cif (smP m R (envT m t f l) (nI 111)) (nI 1) (nI 2))
def bkS (m : St) (t f : Nat) (a c l d : Int32) : St := stU (cmsS (stU (stU (stU (stU (wrtS (stU m 124 t d) (nA m) (nI t) (nI 0)) 178 (nA m) 1) 176 (nA m) (nI f)) 177 (nA m) c) 179 (nA m) l) t (nI 0)) 129 f (m 129 f + a)
/-- a toy that came back, by the state as it came back -/
noncomputable def bkT (m : St) (R : Rm) (t : Nat) (la : Int32) : Int32 × St := (bkA m R t (hl m t) (bkL m t) la, bkS m t (hl m t) (bkA m R t (hl m t) (bkL m t) la) (bkC m R t (hl m t) (bkL m t)) (bi (0 < bkL m t)) (bi (smP m R (envT m t (hl m t) (bkL m t)) (nI 119))))
noncomputable def sBack (m : St) (R : Rm) (t0 : Int32) : Int32 × St := cif ((∃ j : Nat, j < nT m ∧ t0 = nI j) ∧ m 118 t0.toNatClampNeg = 1 ∧ 6 ≤ nTl m) (cif (bkOK m t0.toNatClampNeg) (bkT (bk3 m t0.toNatClampNeg) R t0.toNatClampNeg (bkM m t0.toNatClampNeg)) (-2, stU m 1 1 (nI 0))) (-1, m)
theorem Wf_bk3 {m : St} (hw : Wf m) (t : Nat) : Wf (bk3 m t) := ⟨hw.w, hw.c, ⟨rfl, Nat.zero_le 220⟩, hw.k, hw.t, hw.f, hw.r, hw.g, hw.a, fun u hu => hw.kd (t := u) hu⟩
set_option maxRecDepth 4000 in
theorem gm_back2 {E : En} (hok : EOK E) {h h0 : Hp} (hs : Shp h.2) {m : St} (hm : mo h = m) (hw : Wf m) {R : Rm} (hR : WR m R) {t f : Nat} (ht : t < nT m) (hf : f < nF m) {l la : Int32} {d : Nat} (hd : 6 ≤ d) {Q : Option V → Hp → Prop} (hQ : ∀ h', mo h' = bkS m t f (bkA m R t f l la) (bkC m R t f l) (bi (0 < l)) (bi (smP m R (envT m t f l) (nI 119))) → Mk h h' → Q (some (vI (bkA m R t f l la))) h') : G E m_X12_back d 0 0 Q h0 213 [some (vR MO), some (vI (nI t)), some (vI la), some (vI (nI f)), some (vI l), none, none, none] [] h 0 0 := by
  have hKb := hw.k.2
  have hTb := hw.t.2
  have hFb := hw.f.2
  have hAb := hw.a.2
  have hkd := (hw.kd ht).2
  refine g_aload_n (pc' := 214) dX12_back_213 rfl rfl ?_
  refine g_aload_n (pc' := 215) dX12_back_214 rfl rfl ?_
  refine g_getS (pc' := 218) (k := 15) (b := (115, 0)) dX12_back_215 rfl rfl ck_13 (by decide) fl_X12_35 rfl hs rfl ?_
  refine g_iload_n (pc' := 219) dX12_back_218 rfl rfl ?_
  refine g_ialdN (pc' := 220) (v := nI (kd m t)) dX12_back_219 rfl rfl (by decide) (by omega) ((show h.1 (115, 0) t = m 115 t by rw [← hm]; rfl).trans (hw.kd ht).1) ?_
  refine g_iload_n (pc' := 221) dX12_back_220 rfl rfl ?_
  refine g_iload_n (pc' := 222) dX12_back_221 rfl rfl ?_
  refine g_iload (pc' := 224) dX12_back_222 rfl rfl ?_
  refine g_invV (pc' := 227) (cm_stands hok hs _ _ _ _) dX12_back_224 rfl rfl ck_13 rfl ml_X12_458 im_X12_stands sl_X12_stands in_X12 co_X12_stands pd_X12_stands rfl (by omega) (by decide) ⟨by decide, by decide⟩ (Nat.le_of_ble_eq_true rfl) ?_
  rintro _ _ ⟨rfl, rfl⟩ -
  have hq1 : Hq m (kd m t) (nI t) f l (stdH h (nI (kd m t)) (nI t) (nI f) l) := by have q := Hq_std hs (kd m t) (nI t) f l; rw [hm] at q; exact q
  refine g_aload_n (pc' := 228) dX12_back_227 rfl rfl ?_
  refine g_bipushN (n := 102) (pc' := 230) dX12_back_228 rfl (by decide) ?_
  refine g_iconstN (n := 0) (pc' := 231) dX12_back_230 rfl ?_
  refine g_ldcw (pc' := 234) dX12_back_231 rfl kc_X12_482 ?_
  refine g_iconstN (n := 0) (pc' := 235) dX12_back_234 rfl ?_
  refine g_invV (pc' := 238) (cm_tells hok hw hR (Lv_T hok hw ht hf l) hq1 _ _ _ _ (Or.inr (Or.inl rfl))) dX12_back_235 rfl rfl ck_13 rfl ml_X12_475 im_X12_tells sl_X12_tells in_X12 co_X12_tells pd_X12_tells rfl (by omega) (by decide) ⟨by decide, by decide⟩ (Nat.le_of_ble_eq_true rfl) ?_
  rintro _ h2 ⟨rfl, w2⟩ -
  have hq2 := hq1.wk w2
  have hs := hq2.1
  refine g_istore (pc' := 240) dX12_back_238 rfl (by decide) rfl ?_
  try simp only [List.set]
  refine g_aload_n (pc' := 241) dX12_back_240 rfl rfl ?_
  refine g_bipushN (n := 111) (pc' := 243) dX12_back_241 rfl (by decide) ?_
  refine g_invV (pc' := 246) (cm_someR hok hw hR (Lv_T hok hw ht hf l) hq2 _) dX12_back_243 rfl rfl ck_13 rfl ml_X12_465 im_X12_some sl_X12_some in_X12 co_X12_some pd_X12_some rfl (by omega) (by decide) ⟨by decide, by decide⟩ (Nat.le_of_ble_eq_true rfl) ?_
  rintro _ h3 ⟨rfl, w3⟩ -
  have hq3 := hq2.wk w3
  have hs := hq3.1
  refine g_istore (pc' := 248) dX12_back_246 rfl (by decide) rfl ?_
  try simp only [List.set]
  refine g_iload_n (pc' := 249) dX12_back_248 rfl rfl ?_
  refine g_aload_n (pc' := 250) dX12_back_249 rfl rfl ?_
  refine g_bipushN (n := 112) (pc' := 252) dX12_back_250 rfl (by decide) ?_
  refine g_iconstN (n := 0) (pc' := 253) dX12_back_252 rfl ?_
  refine g_ldcw (pc' := 256) dX12_back_253 rfl kc_X12_482 ?_
  refine g_iconstN (n := 0) (pc' := 257) dX12_back_256 rfl ?_
  refine g_invV (pc' := 260) (cm_tells hok hw hR (Lv_T hok hw ht hf l) hq3 _ _ _ _ (Or.inr (Or.inr (Or.inl rfl)))) dX12_back_257 rfl rfl ck_13 rfl ml_X12_475 im_X12_tells sl_X12_tells in_X12 co_X12_tells pd_X12_tells rfl (by omega) (by decide) ⟨by decide, by decide⟩ (Nat.le_of_ble_eq_true rfl) ?_
  rintro _ h4 ⟨rfl, w4⟩ -
  have hq4 := hq3.wk w4
  have hs := hq4.1
  refine g_imul (pc' := 261) dX12_back_260 rfl ?_
  refine g_iload (pc' := 263) dX12_back_261 rfl rfl ?_
  refine g_ifB_eq (tgt := 270) (pc' := 266) dX12_back_263 rfl (by decide) (fun c263 => ?_) (fun c263 => ?_)
  ·
    refine g_iload (pc' := 272) dX12_back_270 rfl rfl ?_
    refine g_iadd (pc' := 273) dX12_back_272 rfl ?_
    refine g_istore (pc' := 275) dX12_back_273 rfl (by decide) rfl ?_
    try simp only [List.set]
    refine g_aload_n (pc' := 276) dX12_back_275 rfl rfl ?_
    refine g_getS (pc' := 279) (k := 24) (b := (124, 0)) dX12_back_276 rfl rfl ck_13 (by decide) fl_X12_62 rfl hs rfl ?_
    refine g_iload_n (pc' := 280) dX12_back_279 rfl rfl ?_
    refine g_aload_n (pc' := 281) dX12_back_280 rfl rfl ?_
    refine g_bipushN (n := 119) (pc' := 283) dX12_back_281 rfl (by decide) ?_
    refine g_invV (pc' := 286) (cm_someR hok hw hR (Lv_T hok hw ht hf l) hq4 _) dX12_back_283 rfl rfl ck_13 rfl ml_X12_465 im_X12_some sl_X12_some in_X12 co_X12_some pd_X12_some rfl (by omega) (by decide) ⟨by decide, by decide⟩ (Nat.le_of_ble_eq_true rfl) ?_
    rintro _ h5 ⟨rfl, w5⟩ -
    have hq5 := hq4.wk w5
    have hs := hq5.1
    refine g_zastN (pc' := 287) dX12_back_286 rfl rfl (by decide) (by omega) ?_
    refine g_aload_n (pc' := 288) dX12_back_287 rfl rfl ?_
    refine g_iload_n (pc' := 289) dX12_back_288 rfl rfl ?_
    refine g_iconstN (n := 0) (pc' := 290) dX12_back_289 rfl ?_
    refine g_invV (pc' := 293) (cm_writes hok (by exact hs) (n := nA m) (by omega) (by exact (show h5.1 MO 70 = m 1 70 by rw [← hq5.2.1]; rfl).trans hw.a.1) _ _) dX12_back_290 rfl rfl ck_13 rfl ml_X12_479 im_X12_writes sl_X12_writes in_X12 co_X12_writes pd_X12_writes rfl (by omega) (by decide) ⟨by decide, by decide⟩ (Nat.le_of_ble_eq_true rfl) ?_
    rintro _ _ ⟨rfl, rfl⟩ -
    refine g_aload_n (pc' := 294) dX12_back_293 rfl rfl ?_
    refine g_getS (pc' := 297) (k := 78) (b := (178, 0)) dX12_back_294 rfl rfl ck_13 (by decide) fl_X12_171 rfl hs rfl ?_
    refine g_aload_n (pc' := 298) dX12_back_297 rfl rfl ?_
    refine g_getIv (v := nI ((nA m + 1))) (pc' := 301) (k := 70) dX12_back_298 rfl rfl ck_13 (by decide) fl_X12_449 rfl ((show _ = nI (nA m + 1) from rfl)) ?_
    refine g_iconstN (n := 1) (pc' := 302) dX12_back_301 rfl ?_
    refine g_isubN (pc' := 303) dX12_back_302 rfl (by omega) ?_
    refine g_iconstN (n := 1) (pc' := 304) dX12_back_303 rfl ?_
    refine g_zastN (pc' := 305) dX12_back_304 rfl rfl (by decide) (by omega) ?_
    refine g_aload_n (pc' := 306) dX12_back_305 rfl rfl ?_
    refine g_getS (pc' := 309) (k := 76) (b := (176, 0)) dX12_back_306 rfl rfl ck_13 (by decide) fl_X12_165 rfl hs rfl ?_
    refine g_aload_n (pc' := 310) dX12_back_309 rfl rfl ?_
    refine g_getIv (v := nI ((nA m + 1))) (pc' := 313) (k := 70) dX12_back_310 rfl rfl ck_13 (by decide) fl_X12_449 rfl ((show _ = nI (nA m + 1) from rfl)) ?_
    refine g_iconstN (n := 1) (pc' := 314) dX12_back_313 rfl ?_
    refine g_isubN (pc' := 315) dX12_back_314 rfl (by omega) ?_
    refine g_iload_n (pc' := 316) dX12_back_315 rfl rfl ?_
    refine g_iastN (pc' := 317) dX12_back_316 rfl rfl (by decide) (by omega) ?_
    refine g_aload_n (pc' := 318) dX12_back_317 rfl rfl ?_
    refine g_getS (pc' := 321) (k := 77) (b := (177, 0)) dX12_back_318 rfl rfl ck_13 (by decide) fl_X12_168 rfl hs rfl ?_
    refine g_aload_n (pc' := 322) dX12_back_321 rfl rfl ?_
    refine g_getIv (v := nI ((nA m + 1))) (pc' := 325) (k := 70) dX12_back_322 rfl rfl ck_13 (by decide) fl_X12_449 rfl ((show _ = nI (nA m + 1) from rfl)) ?_
    refine g_iconstN (n := 1) (pc' := 326) dX12_back_325 rfl ?_
    refine g_isubN (pc' := 327) dX12_back_326 rfl (by omega) ?_
    refine g_iload (pc' := 329) dX12_back_327 rfl rfl ?_
    refine g_if_ne (tgt := 336) (pc' := 332) dX12_back_329 rfl (by decide) (fun c329 => ?_) (fun c329 => ?_)
    ·
      refine g_iload (pc' := 338) dX12_back_336 rfl rfl ?_
      refine g_ifB_eq (tgt := 345) (pc' := 341) dX12_back_338 rfl (by decide) (fun c338 => ?_) (fun c338 => ?_)
      ·
        refine g_iconstN (n := 2) (pc' := 346) dX12_back_345 rfl ?_
        refine g_iastN (pc' := 347) dX12_back_346 rfl rfl (by decide) (by omega) ?_
        refine g_aload_n (pc' := 348) dX12_back_347 rfl rfl ?_
        refine g_getS (pc' := 351) (k := 79) (b := (179, 0)) dX12_back_348 rfl rfl ck_13 (by decide) fl_X12_174 rfl hs rfl ?_
        refine g_aload_n (pc' := 352) dX12_back_351 rfl rfl ?_
        refine g_getIv (v := nI ((nA m + 1))) (pc' := 355) (k := 70) dX12_back_352 rfl rfl ck_13 (by decide) fl_X12_449 rfl ((show _ = nI (nA m + 1) from rfl)) ?_
        refine g_iconstN (n := 1) (pc' := 356) dX12_back_355 rfl ?_
        refine g_isubN (pc' := 357) dX12_back_356 rfl (by omega) ?_
        refine g_iload (pc' := 359) dX12_back_357 rfl rfl ?_
        refine g_if_le (tgt := 366) (pc' := 362) dX12_back_359 rfl (by decide) (fun c359 => ?_) (fun c359 => ?_)
        ·
          refine g_iconstN (n := 0) (pc' := 367) dX12_back_366 rfl ?_
          refine g_zastN (pc' := 368) dX12_back_367 rfl rfl (by decide) (by omega) ?_
          refine g_aload_n (pc' := 369) dX12_back_368 rfl rfl ?_
          refine g_iload_n (pc' := 370) dX12_back_369 rfl rfl ?_
          refine g_iconstN (n := 0) (pc' := 371) dX12_back_370 rfl ?_
          refine g_invV (pc' := 374) (cm_comes hok (by exact hs) (t := t) (by omega) _) dX12_back_371 rfl rfl ck_13 rfl ml_X12_483 im_X12_comes sl_X12_comes in_X12 co_X12_comes pd_X12_comes rfl (by omega) (by decide) ⟨by decide, by decide⟩ (Nat.le_of_ble_eq_true rfl) ?_
          rintro _ _ ⟨rfl, rfl⟩ -
          refine g_aload_n (pc' := 375) dX12_back_374 rfl rfl ?_
          refine g_getS (pc' := 378) (k := 29) (b := (129, 0)) dX12_back_375 rfl rfl ck_13 (by decide) fl_X12_78 rfl hs rfl ?_
          refine g_iload_n (pc' := 379) dX12_back_378 rfl rfl ?_
          refine g_dup2 (pc' := 380) dX12_back_379 rfl rfl rfl ?_
          refine g_ialdN (pc' := 381) (v := m 129 f) dX12_back_380 rfl rfl (by decide) (by omega) ((show h5.1 (129, 0) f = m 129 f by rw [← hq5.2.1]; rfl)) ?_
          refine g_iload (pc' := 383) dX12_back_381 rfl rfl ?_
          refine g_iadd (pc' := 384) dX12_back_383 rfl ?_
          refine g_iastN (pc' := 385) dX12_back_384 rfl rfl (by decide) (by omega) ?_
          refine g_iload (pc' := 387) dX12_back_385 rfl rfl ?_
          refine g_iret dX12_back_387 rfl (by decide) (by decide) ?_
          have ea : bkA m R t f l la = _ := congrArg (fun z => la * tlF m R (envT m t f l) (nI 112) (nI 0) 100000 (nI 0) (nC m) 0 + z) (cif_f c263)
          have ec : bkC m R t f l = _ := (cif_f c329).trans (cif_f c338)
          have el : bi (0 < l) = _ := bi_f (Int32.not_lt.mpr c359)
          rw [ea, ec, el] at hQ
          refine hQ _ ?_ ?_
          · rw [mo_wI (s := 129) rfl, mo_cms, mo_wI (s := 179) rfl, mo_wI (s := 177) rfl, mo_wI (s := 176) rfl, mo_wI (s := 178) rfl, mo_wrt, mo_wI (s := 124) rfl, nb_bi, hq5.2.1]
            rfl
          · exact (((((((((((((Mk.rf h).std _ _ _ _).tr w2.mk).tr w3.mk).tr w4.mk).tr w5.mk).w (Or.inr (by decide))).wrt _ _ _).w (Or.inr (by decide))).w (Or.inr (by decide))).w (Or.inr (by decide))).w (Or.inr (by decide))).cms _ _).w (Or.inr (by decide))
        ·
          refine g_iconstN (n := 1) (pc' := 363) dX12_back_362 rfl ?_
          refine g_goto (tgt := 367) dX12_back_363 (by decide) ?_
          refine g_zastN (pc' := 368) dX12_back_367 rfl rfl (by decide) (by omega) ?_
          refine g_aload_n (pc' := 369) dX12_back_368 rfl rfl ?_
          refine g_iload_n (pc' := 370) dX12_back_369 rfl rfl ?_
          refine g_iconstN (n := 0) (pc' := 371) dX12_back_370 rfl ?_
          refine g_invV (pc' := 374) (cm_comes hok (by exact hs) (t := t) (by omega) _) dX12_back_371 rfl rfl ck_13 rfl ml_X12_483 im_X12_comes sl_X12_comes in_X12 co_X12_comes pd_X12_comes rfl (by omega) (by decide) ⟨by decide, by decide⟩ (Nat.le_of_ble_eq_true rfl) ?_
          rintro _ _ ⟨rfl, rfl⟩ -
          refine g_aload_n (pc' := 375) dX12_back_374 rfl rfl ?_
          refine g_getS (pc' := 378) (k := 29) (b := (129, 0)) dX12_back_375 rfl rfl ck_13 (by decide) fl_X12_78 rfl hs rfl ?_
          refine g_iload_n (pc' := 379) dX12_back_378 rfl rfl ?_
          refine g_dup2 (pc' := 380) dX12_back_379 rfl rfl rfl ?_
          refine g_ialdN (pc' := 381) (v := m 129 f) dX12_back_380 rfl rfl (by decide) (by omega) ((show h5.1 (129, 0) f = m 129 f by rw [← hq5.2.1]; rfl)) ?_
          refine g_iload (pc' := 383) dX12_back_381 rfl rfl ?_
          refine g_iadd (pc' := 384) dX12_back_383 rfl ?_
          refine g_iastN (pc' := 385) dX12_back_384 rfl rfl (by decide) (by omega) ?_
          refine g_iload (pc' := 387) dX12_back_385 rfl rfl ?_
          refine g_iret dX12_back_387 rfl (by decide) (by decide) ?_
          have ea : bkA m R t f l la = _ := congrArg (fun z => la * tlF m R (envT m t f l) (nI 112) (nI 0) 100000 (nI 0) (nC m) 0 + z) (cif_f c263)
          have ec : bkC m R t f l = _ := (cif_f c329).trans (cif_f c338)
          have el : bi (0 < l) = _ := bi_t (Int32.not_le.mp c359)
          rw [ea, ec, el] at hQ
          refine hQ _ ?_ ?_
          · rw [mo_wI (s := 129) rfl, mo_cms, mo_wI (s := 179) rfl, mo_wI (s := 177) rfl, mo_wI (s := 176) rfl, mo_wI (s := 178) rfl, mo_wrt, mo_wI (s := 124) rfl, nb_bi, hq5.2.1]
            rfl
          · exact (((((((((((((Mk.rf h).std _ _ _ _).tr w2.mk).tr w3.mk).tr w4.mk).tr w5.mk).w (Or.inr (by decide))).wrt _ _ _).w (Or.inr (by decide))).w (Or.inr (by decide))).w (Or.inr (by decide))).w (Or.inr (by decide))).cms _ _).w (Or.inr (by decide))
      ·
        refine g_iconstN (n := 1) (pc' := 342) dX12_back_341 rfl ?_
        refine g_goto (tgt := 346) dX12_back_342 (by decide) ?_
        refine g_iastN (pc' := 347) dX12_back_346 rfl rfl (by decide) (by omega) ?_
        refine g_aload_n (pc' := 348) dX12_back_347 rfl rfl ?_
        refine g_getS (pc' := 351) (k := 79) (b := (179, 0)) dX12_back_348 rfl rfl ck_13 (by decide) fl_X12_174 rfl hs rfl ?_
        refine g_aload_n (pc' := 352) dX12_back_351 rfl rfl ?_
        refine g_getIv (v := nI ((nA m + 1))) (pc' := 355) (k := 70) dX12_back_352 rfl rfl ck_13 (by decide) fl_X12_449 rfl ((show _ = nI (nA m + 1) from rfl)) ?_
        refine g_iconstN (n := 1) (pc' := 356) dX12_back_355 rfl ?_
        refine g_isubN (pc' := 357) dX12_back_356 rfl (by omega) ?_
        refine g_iload (pc' := 359) dX12_back_357 rfl rfl ?_
        refine g_if_le (tgt := 366) (pc' := 362) dX12_back_359 rfl (by decide) (fun c359 => ?_) (fun c359 => ?_)
        ·
          refine g_iconstN (n := 0) (pc' := 367) dX12_back_366 rfl ?_
          refine g_zastN (pc' := 368) dX12_back_367 rfl rfl (by decide) (by omega) ?_
          refine g_aload_n (pc' := 369) dX12_back_368 rfl rfl ?_
          refine g_iload_n (pc' := 370) dX12_back_369 rfl rfl ?_
          refine g_iconstN (n := 0) (pc' := 371) dX12_back_370 rfl ?_
          refine g_invV (pc' := 374) (cm_comes hok (by exact hs) (t := t) (by omega) _) dX12_back_371 rfl rfl ck_13 rfl ml_X12_483 im_X12_comes sl_X12_comes in_X12 co_X12_comes pd_X12_comes rfl (by omega) (by decide) ⟨by decide, by decide⟩ (Nat.le_of_ble_eq_true rfl) ?_
          rintro _ _ ⟨rfl, rfl⟩ -
          refine g_aload_n (pc' := 375) dX12_back_374 rfl rfl ?_
          refine g_getS (pc' := 378) (k := 29) (b := (129, 0)) dX12_back_375 rfl rfl ck_13 (by decide) fl_X12_78 rfl hs rfl ?_
          refine g_iload_n (pc' := 379) dX12_back_378 rfl rfl ?_
          refine g_dup2 (pc' := 380) dX12_back_379 rfl rfl rfl ?_
          refine g_ialdN (pc' := 381) (v := m 129 f) dX12_back_380 rfl rfl (by decide) (by omega) ((show h5.1 (129, 0) f = m 129 f by rw [← hq5.2.1]; rfl)) ?_
          refine g_iload (pc' := 383) dX12_back_381 rfl rfl ?_
          refine g_iadd (pc' := 384) dX12_back_383 rfl ?_
          refine g_iastN (pc' := 385) dX12_back_384 rfl rfl (by decide) (by omega) ?_
          refine g_iload (pc' := 387) dX12_back_385 rfl rfl ?_
          refine g_iret dX12_back_387 rfl (by decide) (by decide) ?_
          have ea : bkA m R t f l la = _ := congrArg (fun z => la * tlF m R (envT m t f l) (nI 112) (nI 0) 100000 (nI 0) (nC m) 0 + z) (cif_f c263)
          have ec : bkC m R t f l = _ := (cif_f c329).trans (cif_t c338)
          have el : bi (0 < l) = _ := bi_f (Int32.not_lt.mpr c359)
          rw [ea, ec, el] at hQ
          refine hQ _ ?_ ?_
          · rw [mo_wI (s := 129) rfl, mo_cms, mo_wI (s := 179) rfl, mo_wI (s := 177) rfl, mo_wI (s := 176) rfl, mo_wI (s := 178) rfl, mo_wrt, mo_wI (s := 124) rfl, nb_bi, hq5.2.1]
            rfl
          · exact (((((((((((((Mk.rf h).std _ _ _ _).tr w2.mk).tr w3.mk).tr w4.mk).tr w5.mk).w (Or.inr (by decide))).wrt _ _ _).w (Or.inr (by decide))).w (Or.inr (by decide))).w (Or.inr (by decide))).w (Or.inr (by decide))).cms _ _).w (Or.inr (by decide))
        ·
          refine g_iconstN (n := 1) (pc' := 363) dX12_back_362 rfl ?_
          refine g_goto (tgt := 367) dX12_back_363 (by decide) ?_
          refine g_zastN (pc' := 368) dX12_back_367 rfl rfl (by decide) (by omega) ?_
          refine g_aload_n (pc' := 369) dX12_back_368 rfl rfl ?_
          refine g_iload_n (pc' := 370) dX12_back_369 rfl rfl ?_
          refine g_iconstN (n := 0) (pc' := 371) dX12_back_370 rfl ?_
          refine g_invV (pc' := 374) (cm_comes hok (by exact hs) (t := t) (by omega) _) dX12_back_371 rfl rfl ck_13 rfl ml_X12_483 im_X12_comes sl_X12_comes in_X12 co_X12_comes pd_X12_comes rfl (by omega) (by decide) ⟨by decide, by decide⟩ (Nat.le_of_ble_eq_true rfl) ?_
          rintro _ _ ⟨rfl, rfl⟩ -
          refine g_aload_n (pc' := 375) dX12_back_374 rfl rfl ?_
          refine g_getS (pc' := 378) (k := 29) (b := (129, 0)) dX12_back_375 rfl rfl ck_13 (by decide) fl_X12_78 rfl hs rfl ?_
          refine g_iload_n (pc' := 379) dX12_back_378 rfl rfl ?_
          refine g_dup2 (pc' := 380) dX12_back_379 rfl rfl rfl ?_
          refine g_ialdN (pc' := 381) (v := m 129 f) dX12_back_380 rfl rfl (by decide) (by omega) ((show h5.1 (129, 0) f = m 129 f by rw [← hq5.2.1]; rfl)) ?_
          refine g_iload (pc' := 383) dX12_back_381 rfl rfl ?_
          refine g_iadd (pc' := 384) dX12_back_383 rfl ?_
          refine g_iastN (pc' := 385) dX12_back_384 rfl rfl (by decide) (by omega) ?_
          refine g_iload (pc' := 387) dX12_back_385 rfl rfl ?_
          refine g_iret dX12_back_387 rfl (by decide) (by decide) ?_
          have ea : bkA m R t f l la = _ := congrArg (fun z => la * tlF m R (envT m t f l) (nI 112) (nI 0) 100000 (nI 0) (nC m) 0 + z) (cif_f c263)
          have ec : bkC m R t f l = _ := (cif_f c329).trans (cif_t c338)
          have el : bi (0 < l) = _ := bi_t (Int32.not_le.mp c359)
          rw [ea, ec, el] at hQ
          refine hQ _ ?_ ?_
          · rw [mo_wI (s := 129) rfl, mo_cms, mo_wI (s := 179) rfl, mo_wI (s := 177) rfl, mo_wI (s := 176) rfl, mo_wI (s := 178) rfl, mo_wrt, mo_wI (s := 124) rfl, nb_bi, hq5.2.1]
            rfl
          · exact (((((((((((((Mk.rf h).std _ _ _ _).tr w2.mk).tr w3.mk).tr w4.mk).tr w5.mk).w (Or.inr (by decide))).wrt _ _ _).w (Or.inr (by decide))).w (Or.inr (by decide))).w (Or.inr (by decide))).w (Or.inr (by decide))).cms _ _).w (Or.inr (by decide))
    ·
      refine g_iconstN (n := 0) (pc' := 333) dX12_back_332 rfl ?_
      refine g_goto (tgt := 346) dX12_back_333 (by decide) ?_
      refine g_iastN (pc' := 347) dX12_back_346 rfl rfl (by decide) (by omega) ?_
      refine g_aload_n (pc' := 348) dX12_back_347 rfl rfl ?_
      refine g_getS (pc' := 351) (k := 79) (b := (179, 0)) dX12_back_348 rfl rfl ck_13 (by decide) fl_X12_174 rfl hs rfl ?_
      refine g_aload_n (pc' := 352) dX12_back_351 rfl rfl ?_
      refine g_getIv (v := nI ((nA m + 1))) (pc' := 355) (k := 70) dX12_back_352 rfl rfl ck_13 (by decide) fl_X12_449 rfl ((show _ = nI (nA m + 1) from rfl)) ?_
      refine g_iconstN (n := 1) (pc' := 356) dX12_back_355 rfl ?_
      refine g_isubN (pc' := 357) dX12_back_356 rfl (by omega) ?_
      refine g_iload (pc' := 359) dX12_back_357 rfl rfl ?_
      refine g_if_le (tgt := 366) (pc' := 362) dX12_back_359 rfl (by decide) (fun c359 => ?_) (fun c359 => ?_)
      ·
        refine g_iconstN (n := 0) (pc' := 367) dX12_back_366 rfl ?_
        refine g_zastN (pc' := 368) dX12_back_367 rfl rfl (by decide) (by omega) ?_
        refine g_aload_n (pc' := 369) dX12_back_368 rfl rfl ?_
        refine g_iload_n (pc' := 370) dX12_back_369 rfl rfl ?_
        refine g_iconstN (n := 0) (pc' := 371) dX12_back_370 rfl ?_
        refine g_invV (pc' := 374) (cm_comes hok (by exact hs) (t := t) (by omega) _) dX12_back_371 rfl rfl ck_13 rfl ml_X12_483 im_X12_comes sl_X12_comes in_X12 co_X12_comes pd_X12_comes rfl (by omega) (by decide) ⟨by decide, by decide⟩ (Nat.le_of_ble_eq_true rfl) ?_
        rintro _ _ ⟨rfl, rfl⟩ -
        refine g_aload_n (pc' := 375) dX12_back_374 rfl rfl ?_
        refine g_getS (pc' := 378) (k := 29) (b := (129, 0)) dX12_back_375 rfl rfl ck_13 (by decide) fl_X12_78 rfl hs rfl ?_
        refine g_iload_n (pc' := 379) dX12_back_378 rfl rfl ?_
        refine g_dup2 (pc' := 380) dX12_back_379 rfl rfl rfl ?_
        refine g_ialdN (pc' := 381) (v := m 129 f) dX12_back_380 rfl rfl (by decide) (by omega) ((show h5.1 (129, 0) f = m 129 f by rw [← hq5.2.1]; rfl)) ?_
        refine g_iload (pc' := 383) dX12_back_381 rfl rfl ?_
        refine g_iadd (pc' := 384) dX12_back_383 rfl ?_
        refine g_iastN (pc' := 385) dX12_back_384 rfl rfl (by decide) (by omega) ?_
        refine g_iload (pc' := 387) dX12_back_385 rfl rfl ?_
        refine g_iret dX12_back_387 rfl (by decide) (by decide) ?_
        have ea : bkA m R t f l la = _ := congrArg (fun z => la * tlF m R (envT m t f l) (nI 112) (nI 0) 100000 (nI 0) (nC m) 0 + z) (cif_f c263)
        have ec : bkC m R t f l = _ := cif_t c329
        have el : bi (0 < l) = _ := bi_f (Int32.not_lt.mpr c359)
        rw [ea, ec, el] at hQ
        refine hQ _ ?_ ?_
        · rw [mo_wI (s := 129) rfl, mo_cms, mo_wI (s := 179) rfl, mo_wI (s := 177) rfl, mo_wI (s := 176) rfl, mo_wI (s := 178) rfl, mo_wrt, mo_wI (s := 124) rfl, nb_bi, hq5.2.1]
          rfl
        · exact (((((((((((((Mk.rf h).std _ _ _ _).tr w2.mk).tr w3.mk).tr w4.mk).tr w5.mk).w (Or.inr (by decide))).wrt _ _ _).w (Or.inr (by decide))).w (Or.inr (by decide))).w (Or.inr (by decide))).w (Or.inr (by decide))).cms _ _).w (Or.inr (by decide))
      ·
        refine g_iconstN (n := 1) (pc' := 363) dX12_back_362 rfl ?_
        refine g_goto (tgt := 367) dX12_back_363 (by decide) ?_
        refine g_zastN (pc' := 368) dX12_back_367 rfl rfl (by decide) (by omega) ?_
        refine g_aload_n (pc' := 369) dX12_back_368 rfl rfl ?_
        refine g_iload_n (pc' := 370) dX12_back_369 rfl rfl ?_
        refine g_iconstN (n := 0) (pc' := 371) dX12_back_370 rfl ?_
        refine g_invV (pc' := 374) (cm_comes hok (by exact hs) (t := t) (by omega) _) dX12_back_371 rfl rfl ck_13 rfl ml_X12_483 im_X12_comes sl_X12_comes in_X12 co_X12_comes pd_X12_comes rfl (by omega) (by decide) ⟨by decide, by decide⟩ (Nat.le_of_ble_eq_true rfl) ?_
        rintro _ _ ⟨rfl, rfl⟩ -
        refine g_aload_n (pc' := 375) dX12_back_374 rfl rfl ?_
        refine g_getS (pc' := 378) (k := 29) (b := (129, 0)) dX12_back_375 rfl rfl ck_13 (by decide) fl_X12_78 rfl hs rfl ?_
        refine g_iload_n (pc' := 379) dX12_back_378 rfl rfl ?_
        refine g_dup2 (pc' := 380) dX12_back_379 rfl rfl rfl ?_
        refine g_ialdN (pc' := 381) (v := m 129 f) dX12_back_380 rfl rfl (by decide) (by omega) ((show h5.1 (129, 0) f = m 129 f by rw [← hq5.2.1]; rfl)) ?_
        refine g_iload (pc' := 383) dX12_back_381 rfl rfl ?_
        refine g_iadd (pc' := 384) dX12_back_383 rfl ?_
        refine g_iastN (pc' := 385) dX12_back_384 rfl rfl (by decide) (by omega) ?_
        refine g_iload (pc' := 387) dX12_back_385 rfl rfl ?_
        refine g_iret dX12_back_387 rfl (by decide) (by decide) ?_
        have ea : bkA m R t f l la = _ := congrArg (fun z => la * tlF m R (envT m t f l) (nI 112) (nI 0) 100000 (nI 0) (nC m) 0 + z) (cif_f c263)
        have ec : bkC m R t f l = _ := cif_t c329
        have el : bi (0 < l) = _ := bi_t (Int32.not_le.mp c359)
        rw [ea, ec, el] at hQ
        refine hQ _ ?_ ?_
        · rw [mo_wI (s := 129) rfl, mo_cms, mo_wI (s := 179) rfl, mo_wI (s := 177) rfl, mo_wI (s := 176) rfl, mo_wI (s := 178) rfl, mo_wrt, mo_wI (s := 124) rfl, nb_bi, hq5.2.1]
          rfl
        · exact (((((((((((((Mk.rf h).std _ _ _ _).tr w2.mk).tr w3.mk).tr w4.mk).tr w5.mk).w (Or.inr (by decide))).wrt _ _ _).w (Or.inr (by decide))).w (Or.inr (by decide))).w (Or.inr (by decide))).w (Or.inr (by decide))).cms _ _).w (Or.inr (by decide))
  ·
    refine g_iconstN (n := 0) (pc' := 267) dX12_back_266 rfl ?_
    refine g_goto (tgt := 272) dX12_back_267 (by decide) ?_
    refine g_iadd (pc' := 273) dX12_back_272 rfl ?_
    refine g_istore (pc' := 275) dX12_back_273 rfl (by decide) rfl ?_
    try simp only [List.set]
    refine g_aload_n (pc' := 276) dX12_back_275 rfl rfl ?_
    refine g_getS (pc' := 279) (k := 24) (b := (124, 0)) dX12_back_276 rfl rfl ck_13 (by decide) fl_X12_62 rfl hs rfl ?_
    refine g_iload_n (pc' := 280) dX12_back_279 rfl rfl ?_
    refine g_aload_n (pc' := 281) dX12_back_280 rfl rfl ?_
    refine g_bipushN (n := 119) (pc' := 283) dX12_back_281 rfl (by decide) ?_
    refine g_invV (pc' := 286) (cm_someR hok hw hR (Lv_T hok hw ht hf l) hq4 _) dX12_back_283 rfl rfl ck_13 rfl ml_X12_465 im_X12_some sl_X12_some in_X12 co_X12_some pd_X12_some rfl (by omega) (by decide) ⟨by decide, by decide⟩ (Nat.le_of_ble_eq_true rfl) ?_
    rintro _ h5 ⟨rfl, w5⟩ -
    have hq5 := hq4.wk w5
    have hs := hq5.1
    refine g_zastN (pc' := 287) dX12_back_286 rfl rfl (by decide) (by omega) ?_
    refine g_aload_n (pc' := 288) dX12_back_287 rfl rfl ?_
    refine g_iload_n (pc' := 289) dX12_back_288 rfl rfl ?_
    refine g_iconstN (n := 0) (pc' := 290) dX12_back_289 rfl ?_
    refine g_invV (pc' := 293) (cm_writes hok (by exact hs) (n := nA m) (by omega) (by exact (show h5.1 MO 70 = m 1 70 by rw [← hq5.2.1]; rfl).trans hw.a.1) _ _) dX12_back_290 rfl rfl ck_13 rfl ml_X12_479 im_X12_writes sl_X12_writes in_X12 co_X12_writes pd_X12_writes rfl (by omega) (by decide) ⟨by decide, by decide⟩ (Nat.le_of_ble_eq_true rfl) ?_
    rintro _ _ ⟨rfl, rfl⟩ -
    refine g_aload_n (pc' := 294) dX12_back_293 rfl rfl ?_
    refine g_getS (pc' := 297) (k := 78) (b := (178, 0)) dX12_back_294 rfl rfl ck_13 (by decide) fl_X12_171 rfl hs rfl ?_
    refine g_aload_n (pc' := 298) dX12_back_297 rfl rfl ?_
    refine g_getIv (v := nI ((nA m + 1))) (pc' := 301) (k := 70) dX12_back_298 rfl rfl ck_13 (by decide) fl_X12_449 rfl ((show _ = nI (nA m + 1) from rfl)) ?_
    refine g_iconstN (n := 1) (pc' := 302) dX12_back_301 rfl ?_
    refine g_isubN (pc' := 303) dX12_back_302 rfl (by omega) ?_
    refine g_iconstN (n := 1) (pc' := 304) dX12_back_303 rfl ?_
    refine g_zastN (pc' := 305) dX12_back_304 rfl rfl (by decide) (by omega) ?_
    refine g_aload_n (pc' := 306) dX12_back_305 rfl rfl ?_
    refine g_getS (pc' := 309) (k := 76) (b := (176, 0)) dX12_back_306 rfl rfl ck_13 (by decide) fl_X12_165 rfl hs rfl ?_
    refine g_aload_n (pc' := 310) dX12_back_309 rfl rfl ?_
    refine g_getIv (v := nI ((nA m + 1))) (pc' := 313) (k := 70) dX12_back_310 rfl rfl ck_13 (by decide) fl_X12_449 rfl ((show _ = nI (nA m + 1) from rfl)) ?_
    refine g_iconstN (n := 1) (pc' := 314) dX12_back_313 rfl ?_
    refine g_isubN (pc' := 315) dX12_back_314 rfl (by omega) ?_
    refine g_iload_n (pc' := 316) dX12_back_315 rfl rfl ?_
    refine g_iastN (pc' := 317) dX12_back_316 rfl rfl (by decide) (by omega) ?_
    refine g_aload_n (pc' := 318) dX12_back_317 rfl rfl ?_
    refine g_getS (pc' := 321) (k := 77) (b := (177, 0)) dX12_back_318 rfl rfl ck_13 (by decide) fl_X12_168 rfl hs rfl ?_
    refine g_aload_n (pc' := 322) dX12_back_321 rfl rfl ?_
    refine g_getIv (v := nI ((nA m + 1))) (pc' := 325) (k := 70) dX12_back_322 rfl rfl ck_13 (by decide) fl_X12_449 rfl ((show _ = nI (nA m + 1) from rfl)) ?_
    refine g_iconstN (n := 1) (pc' := 326) dX12_back_325 rfl ?_
    refine g_isubN (pc' := 327) dX12_back_326 rfl (by omega) ?_
    refine g_iload (pc' := 329) dX12_back_327 rfl rfl ?_
    refine g_if_ne (tgt := 336) (pc' := 332) dX12_back_329 rfl (by decide) (fun c329 => ?_) (fun c329 => ?_)
    ·
      refine g_iload (pc' := 338) dX12_back_336 rfl rfl ?_
      refine g_ifB_eq (tgt := 345) (pc' := 341) dX12_back_338 rfl (by decide) (fun c338 => ?_) (fun c338 => ?_)
      ·
        refine g_iconstN (n := 2) (pc' := 346) dX12_back_345 rfl ?_
        refine g_iastN (pc' := 347) dX12_back_346 rfl rfl (by decide) (by omega) ?_
        refine g_aload_n (pc' := 348) dX12_back_347 rfl rfl ?_
        refine g_getS (pc' := 351) (k := 79) (b := (179, 0)) dX12_back_348 rfl rfl ck_13 (by decide) fl_X12_174 rfl hs rfl ?_
        refine g_aload_n (pc' := 352) dX12_back_351 rfl rfl ?_
        refine g_getIv (v := nI ((nA m + 1))) (pc' := 355) (k := 70) dX12_back_352 rfl rfl ck_13 (by decide) fl_X12_449 rfl ((show _ = nI (nA m + 1) from rfl)) ?_
        refine g_iconstN (n := 1) (pc' := 356) dX12_back_355 rfl ?_
        refine g_isubN (pc' := 357) dX12_back_356 rfl (by omega) ?_
        refine g_iload (pc' := 359) dX12_back_357 rfl rfl ?_
        refine g_if_le (tgt := 366) (pc' := 362) dX12_back_359 rfl (by decide) (fun c359 => ?_) (fun c359 => ?_)
        ·
          refine g_iconstN (n := 0) (pc' := 367) dX12_back_366 rfl ?_
          refine g_zastN (pc' := 368) dX12_back_367 rfl rfl (by decide) (by omega) ?_
          refine g_aload_n (pc' := 369) dX12_back_368 rfl rfl ?_
          refine g_iload_n (pc' := 370) dX12_back_369 rfl rfl ?_
          refine g_iconstN (n := 0) (pc' := 371) dX12_back_370 rfl ?_
          refine g_invV (pc' := 374) (cm_comes hok (by exact hs) (t := t) (by omega) _) dX12_back_371 rfl rfl ck_13 rfl ml_X12_483 im_X12_comes sl_X12_comes in_X12 co_X12_comes pd_X12_comes rfl (by omega) (by decide) ⟨by decide, by decide⟩ (Nat.le_of_ble_eq_true rfl) ?_
          rintro _ _ ⟨rfl, rfl⟩ -
          refine g_aload_n (pc' := 375) dX12_back_374 rfl rfl ?_
          refine g_getS (pc' := 378) (k := 29) (b := (129, 0)) dX12_back_375 rfl rfl ck_13 (by decide) fl_X12_78 rfl hs rfl ?_
          refine g_iload_n (pc' := 379) dX12_back_378 rfl rfl ?_
          refine g_dup2 (pc' := 380) dX12_back_379 rfl rfl rfl ?_
          refine g_ialdN (pc' := 381) (v := m 129 f) dX12_back_380 rfl rfl (by decide) (by omega) ((show h5.1 (129, 0) f = m 129 f by rw [← hq5.2.1]; rfl)) ?_
          refine g_iload (pc' := 383) dX12_back_381 rfl rfl ?_
          refine g_iadd (pc' := 384) dX12_back_383 rfl ?_
          refine g_iastN (pc' := 385) dX12_back_384 rfl rfl (by decide) (by omega) ?_
          refine g_iload (pc' := 387) dX12_back_385 rfl rfl ?_
          refine g_iret dX12_back_387 rfl (by decide) (by decide) ?_
          have ea : bkA m R t f l la = _ := congrArg (fun z => la * tlF m R (envT m t f l) (nI 112) (nI 0) 100000 (nI 0) (nC m) 0 + z) (cif_t c263)
          have ec : bkC m R t f l = _ := (cif_f c329).trans (cif_f c338)
          have el : bi (0 < l) = _ := bi_f (Int32.not_lt.mpr c359)
          rw [ea, ec, el] at hQ
          refine hQ _ ?_ ?_
          · rw [mo_wI (s := 129) rfl, mo_cms, mo_wI (s := 179) rfl, mo_wI (s := 177) rfl, mo_wI (s := 176) rfl, mo_wI (s := 178) rfl, mo_wrt, mo_wI (s := 124) rfl, nb_bi, hq5.2.1]
            rfl
          · exact (((((((((((((Mk.rf h).std _ _ _ _).tr w2.mk).tr w3.mk).tr w4.mk).tr w5.mk).w (Or.inr (by decide))).wrt _ _ _).w (Or.inr (by decide))).w (Or.inr (by decide))).w (Or.inr (by decide))).w (Or.inr (by decide))).cms _ _).w (Or.inr (by decide))
        ·
          refine g_iconstN (n := 1) (pc' := 363) dX12_back_362 rfl ?_
          refine g_goto (tgt := 367) dX12_back_363 (by decide) ?_
          refine g_zastN (pc' := 368) dX12_back_367 rfl rfl (by decide) (by omega) ?_
          refine g_aload_n (pc' := 369) dX12_back_368 rfl rfl ?_
          refine g_iload_n (pc' := 370) dX12_back_369 rfl rfl ?_
          refine g_iconstN (n := 0) (pc' := 371) dX12_back_370 rfl ?_
          refine g_invV (pc' := 374) (cm_comes hok (by exact hs) (t := t) (by omega) _) dX12_back_371 rfl rfl ck_13 rfl ml_X12_483 im_X12_comes sl_X12_comes in_X12 co_X12_comes pd_X12_comes rfl (by omega) (by decide) ⟨by decide, by decide⟩ (Nat.le_of_ble_eq_true rfl) ?_
          rintro _ _ ⟨rfl, rfl⟩ -
          refine g_aload_n (pc' := 375) dX12_back_374 rfl rfl ?_
          refine g_getS (pc' := 378) (k := 29) (b := (129, 0)) dX12_back_375 rfl rfl ck_13 (by decide) fl_X12_78 rfl hs rfl ?_
          refine g_iload_n (pc' := 379) dX12_back_378 rfl rfl ?_
          refine g_dup2 (pc' := 380) dX12_back_379 rfl rfl rfl ?_
          refine g_ialdN (pc' := 381) (v := m 129 f) dX12_back_380 rfl rfl (by decide) (by omega) ((show h5.1 (129, 0) f = m 129 f by rw [← hq5.2.1]; rfl)) ?_
          refine g_iload (pc' := 383) dX12_back_381 rfl rfl ?_
          refine g_iadd (pc' := 384) dX12_back_383 rfl ?_
          refine g_iastN (pc' := 385) dX12_back_384 rfl rfl (by decide) (by omega) ?_
          refine g_iload (pc' := 387) dX12_back_385 rfl rfl ?_
          refine g_iret dX12_back_387 rfl (by decide) (by decide) ?_
          have ea : bkA m R t f l la = _ := congrArg (fun z => la * tlF m R (envT m t f l) (nI 112) (nI 0) 100000 (nI 0) (nC m) 0 + z) (cif_t c263)
          have ec : bkC m R t f l = _ := (cif_f c329).trans (cif_f c338)
          have el : bi (0 < l) = _ := bi_t (Int32.not_le.mp c359)
          rw [ea, ec, el] at hQ
          refine hQ _ ?_ ?_
          · rw [mo_wI (s := 129) rfl, mo_cms, mo_wI (s := 179) rfl, mo_wI (s := 177) rfl, mo_wI (s := 176) rfl, mo_wI (s := 178) rfl, mo_wrt, mo_wI (s := 124) rfl, nb_bi, hq5.2.1]
            rfl
          · exact (((((((((((((Mk.rf h).std _ _ _ _).tr w2.mk).tr w3.mk).tr w4.mk).tr w5.mk).w (Or.inr (by decide))).wrt _ _ _).w (Or.inr (by decide))).w (Or.inr (by decide))).w (Or.inr (by decide))).w (Or.inr (by decide))).cms _ _).w (Or.inr (by decide))
      ·
        refine g_iconstN (n := 1) (pc' := 342) dX12_back_341 rfl ?_
        refine g_goto (tgt := 346) dX12_back_342 (by decide) ?_
        refine g_iastN (pc' := 347) dX12_back_346 rfl rfl (by decide) (by omega) ?_
        refine g_aload_n (pc' := 348) dX12_back_347 rfl rfl ?_
        refine g_getS (pc' := 351) (k := 79) (b := (179, 0)) dX12_back_348 rfl rfl ck_13 (by decide) fl_X12_174 rfl hs rfl ?_
        refine g_aload_n (pc' := 352) dX12_back_351 rfl rfl ?_
        refine g_getIv (v := nI ((nA m + 1))) (pc' := 355) (k := 70) dX12_back_352 rfl rfl ck_13 (by decide) fl_X12_449 rfl ((show _ = nI (nA m + 1) from rfl)) ?_
        refine g_iconstN (n := 1) (pc' := 356) dX12_back_355 rfl ?_
        refine g_isubN (pc' := 357) dX12_back_356 rfl (by omega) ?_
        refine g_iload (pc' := 359) dX12_back_357 rfl rfl ?_
        refine g_if_le (tgt := 366) (pc' := 362) dX12_back_359 rfl (by decide) (fun c359 => ?_) (fun c359 => ?_)
        ·
          refine g_iconstN (n := 0) (pc' := 367) dX12_back_366 rfl ?_
          refine g_zastN (pc' := 368) dX12_back_367 rfl rfl (by decide) (by omega) ?_
          refine g_aload_n (pc' := 369) dX12_back_368 rfl rfl ?_
          refine g_iload_n (pc' := 370) dX12_back_369 rfl rfl ?_
          refine g_iconstN (n := 0) (pc' := 371) dX12_back_370 rfl ?_
          refine g_invV (pc' := 374) (cm_comes hok (by exact hs) (t := t) (by omega) _) dX12_back_371 rfl rfl ck_13 rfl ml_X12_483 im_X12_comes sl_X12_comes in_X12 co_X12_comes pd_X12_comes rfl (by omega) (by decide) ⟨by decide, by decide⟩ (Nat.le_of_ble_eq_true rfl) ?_
          rintro _ _ ⟨rfl, rfl⟩ -
          refine g_aload_n (pc' := 375) dX12_back_374 rfl rfl ?_
          refine g_getS (pc' := 378) (k := 29) (b := (129, 0)) dX12_back_375 rfl rfl ck_13 (by decide) fl_X12_78 rfl hs rfl ?_
          refine g_iload_n (pc' := 379) dX12_back_378 rfl rfl ?_
          refine g_dup2 (pc' := 380) dX12_back_379 rfl rfl rfl ?_
          refine g_ialdN (pc' := 381) (v := m 129 f) dX12_back_380 rfl rfl (by decide) (by omega) ((show h5.1 (129, 0) f = m 129 f by rw [← hq5.2.1]; rfl)) ?_
          refine g_iload (pc' := 383) dX12_back_381 rfl rfl ?_
          refine g_iadd (pc' := 384) dX12_back_383 rfl ?_
          refine g_iastN (pc' := 385) dX12_back_384 rfl rfl (by decide) (by omega) ?_
          refine g_iload (pc' := 387) dX12_back_385 rfl rfl ?_
          refine g_iret dX12_back_387 rfl (by decide) (by decide) ?_
          have ea : bkA m R t f l la = _ := congrArg (fun z => la * tlF m R (envT m t f l) (nI 112) (nI 0) 100000 (nI 0) (nC m) 0 + z) (cif_t c263)
          have ec : bkC m R t f l = _ := (cif_f c329).trans (cif_t c338)
          have el : bi (0 < l) = _ := bi_f (Int32.not_lt.mpr c359)
          rw [ea, ec, el] at hQ
          refine hQ _ ?_ ?_
          · rw [mo_wI (s := 129) rfl, mo_cms, mo_wI (s := 179) rfl, mo_wI (s := 177) rfl, mo_wI (s := 176) rfl, mo_wI (s := 178) rfl, mo_wrt, mo_wI (s := 124) rfl, nb_bi, hq5.2.1]
            rfl
          · exact (((((((((((((Mk.rf h).std _ _ _ _).tr w2.mk).tr w3.mk).tr w4.mk).tr w5.mk).w (Or.inr (by decide))).wrt _ _ _).w (Or.inr (by decide))).w (Or.inr (by decide))).w (Or.inr (by decide))).w (Or.inr (by decide))).cms _ _).w (Or.inr (by decide))
        ·
          refine g_iconstN (n := 1) (pc' := 363) dX12_back_362 rfl ?_
          refine g_goto (tgt := 367) dX12_back_363 (by decide) ?_
          refine g_zastN (pc' := 368) dX12_back_367 rfl rfl (by decide) (by omega) ?_
          refine g_aload_n (pc' := 369) dX12_back_368 rfl rfl ?_
          refine g_iload_n (pc' := 370) dX12_back_369 rfl rfl ?_
          refine g_iconstN (n := 0) (pc' := 371) dX12_back_370 rfl ?_
          refine g_invV (pc' := 374) (cm_comes hok (by exact hs) (t := t) (by omega) _) dX12_back_371 rfl rfl ck_13 rfl ml_X12_483 im_X12_comes sl_X12_comes in_X12 co_X12_comes pd_X12_comes rfl (by omega) (by decide) ⟨by decide, by decide⟩ (Nat.le_of_ble_eq_true rfl) ?_
          rintro _ _ ⟨rfl, rfl⟩ -
          refine g_aload_n (pc' := 375) dX12_back_374 rfl rfl ?_
          refine g_getS (pc' := 378) (k := 29) (b := (129, 0)) dX12_back_375 rfl rfl ck_13 (by decide) fl_X12_78 rfl hs rfl ?_
          refine g_iload_n (pc' := 379) dX12_back_378 rfl rfl ?_
          refine g_dup2 (pc' := 380) dX12_back_379 rfl rfl rfl ?_
          refine g_ialdN (pc' := 381) (v := m 129 f) dX12_back_380 rfl rfl (by decide) (by omega) ((show h5.1 (129, 0) f = m 129 f by rw [← hq5.2.1]; rfl)) ?_
          refine g_iload (pc' := 383) dX12_back_381 rfl rfl ?_
          refine g_iadd (pc' := 384) dX12_back_383 rfl ?_
          refine g_iastN (pc' := 385) dX12_back_384 rfl rfl (by decide) (by omega) ?_
          refine g_iload (pc' := 387) dX12_back_385 rfl rfl ?_
          refine g_iret dX12_back_387 rfl (by decide) (by decide) ?_
          have ea : bkA m R t f l la = _ := congrArg (fun z => la * tlF m R (envT m t f l) (nI 112) (nI 0) 100000 (nI 0) (nC m) 0 + z) (cif_t c263)
          have ec : bkC m R t f l = _ := (cif_f c329).trans (cif_t c338)
          have el : bi (0 < l) = _ := bi_t (Int32.not_le.mp c359)
          rw [ea, ec, el] at hQ
          refine hQ _ ?_ ?_
          · rw [mo_wI (s := 129) rfl, mo_cms, mo_wI (s := 179) rfl, mo_wI (s := 177) rfl, mo_wI (s := 176) rfl, mo_wI (s := 178) rfl, mo_wrt, mo_wI (s := 124) rfl, nb_bi, hq5.2.1]
            rfl
          · exact (((((((((((((Mk.rf h).std _ _ _ _).tr w2.mk).tr w3.mk).tr w4.mk).tr w5.mk).w (Or.inr (by decide))).wrt _ _ _).w (Or.inr (by decide))).w (Or.inr (by decide))).w (Or.inr (by decide))).w (Or.inr (by decide))).cms _ _).w (Or.inr (by decide))
    ·
      refine g_iconstN (n := 0) (pc' := 333) dX12_back_332 rfl ?_
      refine g_goto (tgt := 346) dX12_back_333 (by decide) ?_
      refine g_iastN (pc' := 347) dX12_back_346 rfl rfl (by decide) (by omega) ?_
      refine g_aload_n (pc' := 348) dX12_back_347 rfl rfl ?_
      refine g_getS (pc' := 351) (k := 79) (b := (179, 0)) dX12_back_348 rfl rfl ck_13 (by decide) fl_X12_174 rfl hs rfl ?_
      refine g_aload_n (pc' := 352) dX12_back_351 rfl rfl ?_
      refine g_getIv (v := nI ((nA m + 1))) (pc' := 355) (k := 70) dX12_back_352 rfl rfl ck_13 (by decide) fl_X12_449 rfl ((show _ = nI (nA m + 1) from rfl)) ?_
      refine g_iconstN (n := 1) (pc' := 356) dX12_back_355 rfl ?_
      refine g_isubN (pc' := 357) dX12_back_356 rfl (by omega) ?_
      refine g_iload (pc' := 359) dX12_back_357 rfl rfl ?_
      refine g_if_le (tgt := 366) (pc' := 362) dX12_back_359 rfl (by decide) (fun c359 => ?_) (fun c359 => ?_)
      ·
        refine g_iconstN (n := 0) (pc' := 367) dX12_back_366 rfl ?_
        refine g_zastN (pc' := 368) dX12_back_367 rfl rfl (by decide) (by omega) ?_
        refine g_aload_n (pc' := 369) dX12_back_368 rfl rfl ?_
        refine g_iload_n (pc' := 370) dX12_back_369 rfl rfl ?_
        refine g_iconstN (n := 0) (pc' := 371) dX12_back_370 rfl ?_
        refine g_invV (pc' := 374) (cm_comes hok (by exact hs) (t := t) (by omega) _) dX12_back_371 rfl rfl ck_13 rfl ml_X12_483 im_X12_comes sl_X12_comes in_X12 co_X12_comes pd_X12_comes rfl (by omega) (by decide) ⟨by decide, by decide⟩ (Nat.le_of_ble_eq_true rfl) ?_
        rintro _ _ ⟨rfl, rfl⟩ -
        refine g_aload_n (pc' := 375) dX12_back_374 rfl rfl ?_
        refine g_getS (pc' := 378) (k := 29) (b := (129, 0)) dX12_back_375 rfl rfl ck_13 (by decide) fl_X12_78 rfl hs rfl ?_
        refine g_iload_n (pc' := 379) dX12_back_378 rfl rfl ?_
        refine g_dup2 (pc' := 380) dX12_back_379 rfl rfl rfl ?_
        refine g_ialdN (pc' := 381) (v := m 129 f) dX12_back_380 rfl rfl (by decide) (by omega) ((show h5.1 (129, 0) f = m 129 f by rw [← hq5.2.1]; rfl)) ?_
        refine g_iload (pc' := 383) dX12_back_381 rfl rfl ?_
        refine g_iadd (pc' := 384) dX12_back_383 rfl ?_
        refine g_iastN (pc' := 385) dX12_back_384 rfl rfl (by decide) (by omega) ?_
        refine g_iload (pc' := 387) dX12_back_385 rfl rfl ?_
        refine g_iret dX12_back_387 rfl (by decide) (by decide) ?_
        have ea : bkA m R t f l la = _ := congrArg (fun z => la * tlF m R (envT m t f l) (nI 112) (nI 0) 100000 (nI 0) (nC m) 0 + z) (cif_t c263)
        have ec : bkC m R t f l = _ := cif_t c329
        have el : bi (0 < l) = _ := bi_f (Int32.not_lt.mpr c359)
        rw [ea, ec, el] at hQ
        refine hQ _ ?_ ?_
        · rw [mo_wI (s := 129) rfl, mo_cms, mo_wI (s := 179) rfl, mo_wI (s := 177) rfl, mo_wI (s := 176) rfl, mo_wI (s := 178) rfl, mo_wrt, mo_wI (s := 124) rfl, nb_bi, hq5.2.1]
          rfl
        · exact (((((((((((((Mk.rf h).std _ _ _ _).tr w2.mk).tr w3.mk).tr w4.mk).tr w5.mk).w (Or.inr (by decide))).wrt _ _ _).w (Or.inr (by decide))).w (Or.inr (by decide))).w (Or.inr (by decide))).w (Or.inr (by decide))).cms _ _).w (Or.inr (by decide))
      ·
        refine g_iconstN (n := 1) (pc' := 363) dX12_back_362 rfl ?_
        refine g_goto (tgt := 367) dX12_back_363 (by decide) ?_
        refine g_zastN (pc' := 368) dX12_back_367 rfl rfl (by decide) (by omega) ?_
        refine g_aload_n (pc' := 369) dX12_back_368 rfl rfl ?_
        refine g_iload_n (pc' := 370) dX12_back_369 rfl rfl ?_
        refine g_iconstN (n := 0) (pc' := 371) dX12_back_370 rfl ?_
        refine g_invV (pc' := 374) (cm_comes hok (by exact hs) (t := t) (by omega) _) dX12_back_371 rfl rfl ck_13 rfl ml_X12_483 im_X12_comes sl_X12_comes in_X12 co_X12_comes pd_X12_comes rfl (by omega) (by decide) ⟨by decide, by decide⟩ (Nat.le_of_ble_eq_true rfl) ?_
        rintro _ _ ⟨rfl, rfl⟩ -
        refine g_aload_n (pc' := 375) dX12_back_374 rfl rfl ?_
        refine g_getS (pc' := 378) (k := 29) (b := (129, 0)) dX12_back_375 rfl rfl ck_13 (by decide) fl_X12_78 rfl hs rfl ?_
        refine g_iload_n (pc' := 379) dX12_back_378 rfl rfl ?_
        refine g_dup2 (pc' := 380) dX12_back_379 rfl rfl rfl ?_
        refine g_ialdN (pc' := 381) (v := m 129 f) dX12_back_380 rfl rfl (by decide) (by omega) ((show h5.1 (129, 0) f = m 129 f by rw [← hq5.2.1]; rfl)) ?_
        refine g_iload (pc' := 383) dX12_back_381 rfl rfl ?_
        refine g_iadd (pc' := 384) dX12_back_383 rfl ?_
        refine g_iastN (pc' := 385) dX12_back_384 rfl rfl (by decide) (by omega) ?_
        refine g_iload (pc' := 387) dX12_back_385 rfl rfl ?_
        refine g_iret dX12_back_387 rfl (by decide) (by decide) ?_
        have ea : bkA m R t f l la = _ := congrArg (fun z => la * tlF m R (envT m t f l) (nI 112) (nI 0) 100000 (nI 0) (nC m) 0 + z) (cif_t c263)
        have ec : bkC m R t f l = _ := cif_t c329
        have el : bi (0 < l) = _ := bi_t (Int32.not_le.mp c359)
        rw [ea, ec, el] at hQ
        refine hQ _ ?_ ?_
        · rw [mo_wI (s := 129) rfl, mo_cms, mo_wI (s := 179) rfl, mo_wI (s := 177) rfl, mo_wI (s := 176) rfl, mo_wI (s := 178) rfl, mo_wrt, mo_wI (s := 124) rfl, nb_bi, hq5.2.1]
          rfl
        · exact (((((((((((((Mk.rf h).std _ _ _ _).tr w2.mk).tr w3.mk).tr w4.mk).tr w5.mk).w (Or.inr (by decide))).wrt _ _ _).w (Or.inr (by decide))).w (Or.inr (by decide))).w (Or.inr (by decide))).w (Or.inr (by decide))).cms _ _).w (Or.inr (by decide))
set_option maxRecDepth 4000 in
theorem lm_back2 {E : En} (hok : EOK E) {h h0 : Hp} (hs0 : Shp h.2) (hw : Wf (mo h)) {R : Rm} (hR : WR (mo h) R) {t : Nat} (ht : t < nT (mo h)) (hf : hl (mo h) t < nF (mo h)) (e19 : mo h 119 t = nI (hl (mo h) t)) {d : Nat} (hd : 6 ≤ d) {Q : Option V → Hp → Prop} (hQ : ∀ h', mo h' = (bkT (bk3 (mo h) t) R t (bkM (mo h) t)).2 → Mk h h' → Q (some (vI (bkT (bk3 (mo h) t) R t (bkM (mo h) t)).1)) h') : ∀ n s : Nat, s ≤ 6 → 6 - s = n → G E m_X12_back d 0 0 Q h0 79 [some (vR MO), some (vI (nI t)), some (vI (sm (fun s => mo h 125 (6 * t + s) - (mo h 100 s &&& nI 255)) s)), some (vI (nI s)), none, none, none, none] [] (wN (wI h MO 1 (nI 0)) (125, 0) (6 * t) (fun s => mo h 100 s &&& nI 255) s) 0 0 := by
  have hNw : h.1 MO 2 = nI (nW (mo h)) := hw.w.1
  have hNwb := hw.w.2
  have hC : h.1 MO 30 = nI (nC (mo h)) := hw.c.1
  have hCb := hw.c.2
  have hK : h.1 MO 3 = nI (nK (mo h)) := hw.k.1
  have hKb := hw.k.2
  have hT : h.1 MO 4 = nI (nT (mo h)) := hw.t.1
  have hTb := hw.t.2
  have hF : h.1 MO 5 = nI (nF (mo h)) := hw.f.1
  have hFb := hw.f.2
  have hRc : h.1 MO 59 = nI (nR (mo h)) := hw.r.1
  have hRb := hw.r.2
  have hG : h.1 MO 60 = nI (nGf (mo h)) := hw.g.1
  have hGb := hw.g.2
  have hA : h.1 MO 70 = nI (nA (mo h)) := hw.a.1
  have hAb := hw.a.2
  have hTl : h.1 MO 1 = nI (nTl (mo h)) := hw.tl.1
  have hTlb := hw.tl.2
  have hs2 : ∀ n, Shp (wN (wI h MO 1 (nI 0)) (125, 0) (6 * t) (fun s => mo h 100 s &&& nI 255) n).2 := fun n => by rw [wN_2]; exact hs0
  intro n
  induction n with
  | zero =>
    intro s h1 h2
    refine g_iload_n (pc' := 80) dX12_back_79 rfl rfl ?_
    refine g_bipushN (n := 6) (pc' := 82) dX12_back_80 rfl (by decide) ?_
    refine g_icmp_geN (tgt := 137) (pc' := 85) dX12_back_82 rfl (by decide) (by omega) (by omega) (fun c82 => ?_) (fun c82 => ?_)
    ·
      have e : s = 6 := by omega
      subst e
      obtain ⟨H2, eH, hs, hO, hm2, hk2⟩ : ∃ H2, wN (wI h MO 1 (nI 0)) (125, 0) (6 * t) (fun s => mo h 100 s &&& nI 255) 6 = H2 ∧ Shp H2.2 ∧ (∀ a, a ≠ (125, 0) → ∀ i, H2.1 a i = (wI h MO 1 (nI 0)).1 a i) ∧ mo H2 = bk2 (mo h) t ∧ Mk h H2 := ⟨_, rfl, hs2 6, fun a ha i => by rw [wN_off _ _ _ _ ha], by rw [mo_wN (s := 125) rfl, mo_wF (j := 1) rfl]; rfl, ((Mk.rf h).w (Or.inl rfl)).n (Or.inr (by decide)) 6⟩
      rw [eH]
      refine g_aload_n (pc' := 138) dX12_back_137 rfl rfl ?_
      refine g_getS (pc' := 141) (k := 17) (b := (117, 0)) dX12_back_138 rfl rfl ck_13 (by decide) fl_X12_41 rfl hs rfl ?_
      refine g_iload_n (pc' := 142) dX12_back_141 rfl rfl ?_
      refine g_dup2 (pc' := 143) dX12_back_142 rfl rfl rfl ?_
      refine g_ialdN (pc' := 144) (v := mo h 117 t) dX12_back_143 rfl rfl (by decide) (by omega) (hO (117, 0) (by decide) t) ?_
      refine g_aload_n (pc' := 145) dX12_back_144 rfl rfl ?_
      refine g_getIv (v := mo h 1 2) (pc' := 148) (k := 2) dX12_back_145 rfl rfl ck_13 (by decide) fl_X12_219 rfl (hO (1, 0) (by decide) 2) ?_
      refine g_aload_n (pc' := 149) dX12_back_148 rfl rfl ?_
      refine g_getS (pc' := 152) (k := 21) (b := (121, 0)) dX12_back_149 rfl rfl ck_13 (by decide) fl_X12_53 rfl hs rfl ?_
      refine g_iload_n (pc' := 153) dX12_back_152 rfl rfl ?_
      refine g_ialdN (pc' := 154) (v := mo h 121 t) dX12_back_153 rfl rfl (by decide) (by omega) (hO (121, 0) (by decide) t) ?_
      refine g_isub (pc' := 155) dX12_back_154 rfl ?_
      refine g_iconstN (n := 1) (pc' := 156) dX12_back_155 rfl ?_
      refine g_icmp_ge (tgt := 163) (pc' := 159) dX12_back_156 rfl (by decide) (fun c156 => ?_) (fun c156 => ?_)
      ·
        refine g_aload_n (pc' := 164) dX12_back_163 rfl rfl ?_
        refine g_getIv (v := mo h 1 2) (pc' := 167) (k := 2) dX12_back_164 rfl rfl ck_13 (by decide) fl_X12_219 rfl (hO (1, 0) (by decide) 2) ?_
        refine g_aload_n (pc' := 168) dX12_back_167 rfl rfl ?_
        refine g_getS (pc' := 171) (k := 21) (b := (121, 0)) dX12_back_168 rfl rfl ck_13 (by decide) fl_X12_53 rfl hs rfl ?_
        refine g_iload_n (pc' := 172) dX12_back_171 rfl rfl ?_
        refine g_ialdN (pc' := 173) (v := mo h 121 t) dX12_back_172 rfl rfl (by decide) (by omega) (hO (121, 0) (by decide) t) ?_
        refine g_isub (pc' := 174) dX12_back_173 rfl ?_
        refine g_iadd (pc' := 175) dX12_back_174 rfl ?_
        refine g_iastN (pc' := 176) dX12_back_175 rfl rfl (by decide) (by omega) ?_
        refine g_aload_n (pc' := 177) dX12_back_176 rfl rfl ?_
        refine g_getS (pc' := 180) (k := 19) (b := (119, 0)) dX12_back_177 rfl rfl ck_13 (by decide) fl_X12_47 rfl hs rfl ?_
        refine g_iload_n (pc' := 181) dX12_back_180 rfl rfl ?_
        refine g_ialdN (pc' := 182) (v := nI (hl (mo h) t)) dX12_back_181 rfl rfl (by decide) (by omega) ((hO (119, 0) (by decide) t).trans e19) ?_
        refine g_istore_n (pc' := 183) dX12_back_182 rfl (by decide) rfl ?_
        try simp only [List.set]
        refine g_aload_n (pc' := 184) dX12_back_183 rfl rfl ?_
        refine g_getIv (v := mo h 1 2) (pc' := 187) (k := 2) dX12_back_184 rfl rfl ck_13 (by decide) fl_X12_219 rfl (hO (1, 0) (by decide) 2) ?_
        refine g_aload_n (pc' := 188) dX12_back_187 rfl rfl ?_
        refine g_getS (pc' := 191) (k := 20) (b := (120, 0)) dX12_back_188 rfl rfl ck_13 (by decide) fl_X12_50 rfl hs rfl ?_
        refine g_iload_n (pc' := 192) dX12_back_191 rfl rfl ?_
        refine g_ialdN (pc' := 193) (v := mo h 120 t) dX12_back_192 rfl rfl (by decide) (by omega) (hO (120, 0) (by decide) t) ?_
        refine g_icmp_le (tgt := 210) (pc' := 196) dX12_back_193 rfl (by decide) (fun c193 => ?_) (fun c193 => ?_)
        ·
          refine g_iconstN (n := 0) (pc' := 211) dX12_back_210 rfl ?_
          refine g_istore (pc' := 213) dX12_back_211 rfl (by decide) rfl ?_
          try simp only [List.set]
          have el : bkL (bk3 (mo h) t) t = _ := cif_t c193
          have ew : bkW (mo h) t = _ := cif_t c156
          have hm3 : ∀ x, x = bkW (mo h) t → mo (wI H2 (117, 0) t (mo h 117 t + x)) = (bk3 (mo h) t) := by
            intro x e
            rw [mo_wI (s := 117) rfl, hm2, e]
            rfl
          refine gm_back2 hok (by exact hs) (hm3 _ ew.symm) (Wf_bk3 hw t) (by exact hR) (by exact ht) (by exact hf) (by omega) ?_
          intro h' q1 q2
          have q := hQ h'
          unfold bkT at q
          rw [el] at q
          exact q q1 ((hk2.w (Or.inr (by decide))).tr q2)
        ·
          refine g_aload_n (pc' := 197) dX12_back_196 rfl rfl ?_
          refine g_getIv (v := mo h 1 2) (pc' := 200) (k := 2) dX12_back_197 rfl rfl ck_13 (by decide) fl_X12_219 rfl (hO (1, 0) (by decide) 2) ?_
          refine g_aload_n (pc' := 201) dX12_back_200 rfl rfl ?_
          refine g_getS (pc' := 204) (k := 20) (b := (120, 0)) dX12_back_201 rfl rfl ck_13 (by decide) fl_X12_50 rfl hs rfl ?_
          refine g_iload_n (pc' := 205) dX12_back_204 rfl rfl ?_
          refine g_ialdN (pc' := 206) (v := mo h 120 t) dX12_back_205 rfl rfl (by decide) (by omega) (hO (120, 0) (by decide) t) ?_
          refine g_isub (pc' := 207) dX12_back_206 rfl ?_
          refine g_goto (tgt := 211) dX12_back_207 (by decide) ?_
          refine g_istore (pc' := 213) dX12_back_211 rfl (by decide) rfl ?_
          try simp only [List.set]
          have el : bkL (bk3 (mo h) t) t = _ := cif_f c193
          have ew : bkW (mo h) t = _ := cif_t c156
          have hm3 : ∀ x, x = bkW (mo h) t → mo (wI H2 (117, 0) t (mo h 117 t + x)) = (bk3 (mo h) t) := by
            intro x e
            rw [mo_wI (s := 117) rfl, hm2, e]
            rfl
          refine gm_back2 hok (by exact hs) (hm3 _ ew.symm) (Wf_bk3 hw t) (by exact hR) (by exact ht) (by exact hf) (by omega) ?_
          intro h' q1 q2
          have q := hQ h'
          unfold bkT at q
          rw [el] at q
          exact q q1 ((hk2.w (Or.inr (by decide))).tr q2)
      ·
        refine g_iconstN (n := 1) (pc' := 160) dX12_back_159 rfl ?_
        refine g_goto (tgt := 174) dX12_back_160 (by decide) ?_
        refine g_iadd (pc' := 175) dX12_back_174 rfl ?_
        refine g_iastN (pc' := 176) dX12_back_175 rfl rfl (by decide) (by omega) ?_
        refine g_aload_n (pc' := 177) dX12_back_176 rfl rfl ?_
        refine g_getS (pc' := 180) (k := 19) (b := (119, 0)) dX12_back_177 rfl rfl ck_13 (by decide) fl_X12_47 rfl hs rfl ?_
        refine g_iload_n (pc' := 181) dX12_back_180 rfl rfl ?_
        refine g_ialdN (pc' := 182) (v := nI (hl (mo h) t)) dX12_back_181 rfl rfl (by decide) (by omega) ((hO (119, 0) (by decide) t).trans e19) ?_
        refine g_istore_n (pc' := 183) dX12_back_182 rfl (by decide) rfl ?_
        try simp only [List.set]
        refine g_aload_n (pc' := 184) dX12_back_183 rfl rfl ?_
        refine g_getIv (v := mo h 1 2) (pc' := 187) (k := 2) dX12_back_184 rfl rfl ck_13 (by decide) fl_X12_219 rfl (hO (1, 0) (by decide) 2) ?_
        refine g_aload_n (pc' := 188) dX12_back_187 rfl rfl ?_
        refine g_getS (pc' := 191) (k := 20) (b := (120, 0)) dX12_back_188 rfl rfl ck_13 (by decide) fl_X12_50 rfl hs rfl ?_
        refine g_iload_n (pc' := 192) dX12_back_191 rfl rfl ?_
        refine g_ialdN (pc' := 193) (v := mo h 120 t) dX12_back_192 rfl rfl (by decide) (by omega) (hO (120, 0) (by decide) t) ?_
        refine g_icmp_le (tgt := 210) (pc' := 196) dX12_back_193 rfl (by decide) (fun c193 => ?_) (fun c193 => ?_)
        ·
          refine g_iconstN (n := 0) (pc' := 211) dX12_back_210 rfl ?_
          refine g_istore (pc' := 213) dX12_back_211 rfl (by decide) rfl ?_
          try simp only [List.set]
          have el : bkL (bk3 (mo h) t) t = _ := cif_t c193
          have ew : bkW (mo h) t = _ := cif_f c156
          have hm3 : ∀ x, x = bkW (mo h) t → mo (wI H2 (117, 0) t (mo h 117 t + x)) = (bk3 (mo h) t) := by
            intro x e
            rw [mo_wI (s := 117) rfl, hm2, e]
            rfl
          refine gm_back2 hok (by exact hs) (hm3 _ ew.symm) (Wf_bk3 hw t) (by exact hR) (by exact ht) (by exact hf) (by omega) ?_
          intro h' q1 q2
          have q := hQ h'
          unfold bkT at q
          rw [el] at q
          exact q q1 ((hk2.w (Or.inr (by decide))).tr q2)
        ·
          refine g_aload_n (pc' := 197) dX12_back_196 rfl rfl ?_
          refine g_getIv (v := mo h 1 2) (pc' := 200) (k := 2) dX12_back_197 rfl rfl ck_13 (by decide) fl_X12_219 rfl (hO (1, 0) (by decide) 2) ?_
          refine g_aload_n (pc' := 201) dX12_back_200 rfl rfl ?_
          refine g_getS (pc' := 204) (k := 20) (b := (120, 0)) dX12_back_201 rfl rfl ck_13 (by decide) fl_X12_50 rfl hs rfl ?_
          refine g_iload_n (pc' := 205) dX12_back_204 rfl rfl ?_
          refine g_ialdN (pc' := 206) (v := mo h 120 t) dX12_back_205 rfl rfl (by decide) (by omega) (hO (120, 0) (by decide) t) ?_
          refine g_isub (pc' := 207) dX12_back_206 rfl ?_
          refine g_goto (tgt := 211) dX12_back_207 (by decide) ?_
          refine g_istore (pc' := 213) dX12_back_211 rfl (by decide) rfl ?_
          try simp only [List.set]
          have el : bkL (bk3 (mo h) t) t = _ := cif_f c193
          have ew : bkW (mo h) t = _ := cif_f c156
          have hm3 : ∀ x, x = bkW (mo h) t → mo (wI H2 (117, 0) t (mo h 117 t + x)) = (bk3 (mo h) t) := by
            intro x e
            rw [mo_wI (s := 117) rfl, hm2, e]
            rfl
          refine gm_back2 hok (by exact hs) (hm3 _ ew.symm) (Wf_bk3 hw t) (by exact hR) (by exact ht) (by exact hf) (by omega) ?_
          intro h' q1 q2
          have q := hQ h'
          unfold bkT at q
          rw [el] at q
          exact q q1 ((hk2.w (Or.inr (by decide))).tr q2)
    · exact absurd c82 (by omega)
  | succ n ih =>
    intro s h1 h2
    refine g_iload_n (pc' := 80) dX12_back_79 rfl rfl ?_
    refine g_bipushN (n := 6) (pc' := 82) dX12_back_80 rfl (by decide) ?_
    refine g_icmp_geN (tgt := 137) (pc' := 85) dX12_back_82 rfl (by decide) (by omega) (by omega) (fun c82 => ?_) (fun c82 => ?_)
    · exact absurd c82 (by omega)
    ·
      have hs := hs2 s
      refine g_iload_n (pc' := 86) dX12_back_85 rfl rfl ?_
      refine g_aload_n (pc' := 87) dX12_back_86 rfl rfl ?_
      refine g_getS (pc' := 90) (k := 25) (b := (125, 0)) dX12_back_87 rfl rfl ck_13 (by decide) fl_X12_66 rfl hs rfl ?_
      refine g_bipushN (n := 6) (pc' := 92) dX12_back_90 rfl (by decide) ?_
      refine g_iload_n (pc' := 93) dX12_back_92 rfl rfl ?_
      refine g_imulN (pc' := 94) dX12_back_93 rfl ?_
      refine g_iload_n (pc' := 95) dX12_back_94 rfl rfl ?_
      refine g_iaddN (pc' := 96) dX12_back_95 rfl ?_
      refine g_ialdN (pc' := 97) (v := mo h 125 (6 * t + s)) dX12_back_96 rfl rfl (by decide) (by omega) (wN_ge _ _ _ _ s (Nat.le_refl _)) ?_
      refine g_aload_n (pc' := 98) dX12_back_97 rfl rfl ?_
      refine g_getS (pc' := 101) (k := 0) (b := (100, 0)) dX12_back_98 rfl rfl ck_13 (by decide) fl_X12_7 rfl hs rfl ?_
      refine g_iload_n (pc' := 102) dX12_back_101 rfl rfl ?_
      refine g_baldN (pc' := 103) (v := mo h 100 s) dX12_back_102 rfl rfl (by decide) (by omega) (congrFun (wN_off _ _ _ _ (by decide) s) s) ?_
      refine g_sipushN (n := 255) (pc' := 106) dX12_back_103 rfl (by decide) ?_
      refine g_iand (pc' := 107) dX12_back_106 rfl ?_
      refine g_isub (pc' := 108) dX12_back_107 rfl ?_
      refine g_iadd (pc' := 109) dX12_back_108 rfl ?_
      refine g_istore_n (pc' := 110) dX12_back_109 rfl (by decide) rfl ?_
      try simp only [List.set]
      refine g_aload_n (pc' := 111) dX12_back_110 rfl rfl ?_
      refine g_getS (pc' := 114) (k := 25) (b := (125, 0)) dX12_back_111 rfl rfl ck_13 (by decide) fl_X12_66 rfl hs rfl ?_
      refine g_bipushN (n := 6) (pc' := 116) dX12_back_114 rfl (by decide) ?_
      refine g_iload_n (pc' := 117) dX12_back_116 rfl rfl ?_
      refine g_imulN (pc' := 118) dX12_back_117 rfl ?_
      refine g_iload_n (pc' := 119) dX12_back_118 rfl rfl ?_
      refine g_iaddN (pc' := 120) dX12_back_119 rfl ?_
      refine g_aload_n (pc' := 121) dX12_back_120 rfl rfl ?_
      refine g_getS (pc' := 124) (k := 0) (b := (100, 0)) dX12_back_121 rfl rfl ck_13 (by decide) fl_X12_7 rfl hs rfl ?_
      refine g_iload_n (pc' := 125) dX12_back_124 rfl rfl ?_
      refine g_baldN (pc' := 126) (v := mo h 100 s) dX12_back_125 rfl rfl (by decide) (by omega) (congrFun (wN_off _ _ _ _ (by decide) s) s) ?_
      refine g_sipushN (n := 255) (pc' := 129) dX12_back_126 rfl (by decide) ?_
      refine g_iand (pc' := 130) dX12_back_129 rfl ?_
      refine g_iastN (pc' := 131) dX12_back_130 rfl rfl (by decide) (by omega) ?_
      refine g_iincN (k := 1) (pc' := 134) dX12_back_131 rfl rfl (by decide) rfl ?_
      try simp only [List.set]
      refine g_goto (tgt := 79) dX12_back_134 (by decide) ?_
      exact ih (s + 1) (by omega) (by omega)
set_option maxRecDepth 4000 in
theorem lm_back1 {E : En} (hok : EOK E) {h h0 : Hp} (hs : Shp h.2) (hw : Wf (mo h)) {R : Rm} (hR : WR (mo h) R) {t : Nat} (ht : t < nT (mo h)) (hf : hl (mo h) t < nF (mo h)) (e19 : mo h 119 t = nI (hl (mo h) t)) {d : Nat} (hd : 6 ≤ d) {Q : Option V → Hp → Prop} (hQ : (bkOK (mo h) t → ∀ h', mo h' = (bkT (bk3 (mo h) t) R t (bkM (mo h) t)).2 → Mk h h' → Q (some (vI (bkT (bk3 (mo h) t) R t (bkM (mo h) t)).1)) h') ∧ (¬ bkOK (mo h) t → Q (some (vI (-2))) (wI h MO 1 (nI 0)))) : ∀ n s : Nat, s ≤ 6 → 6 - s = n → (∀ j, j < s → mo h 100 j &&& nI 255 ≤ mo h 125 (6 * t + j)) → G E m_X12_back d 0 0 Q h0 36 [some (vR MO), some (vI (nI t)), some (vI (nI s)), none, none, none, none, none] [] (wI h MO 1 (nI 0)) 0 0 := by
  have hNw : h.1 MO 2 = nI (nW (mo h)) := hw.w.1
  have hNwb := hw.w.2
  have hC : h.1 MO 30 = nI (nC (mo h)) := hw.c.1
  have hCb := hw.c.2
  have hK : h.1 MO 3 = nI (nK (mo h)) := hw.k.1
  have hKb := hw.k.2
  have hT : h.1 MO 4 = nI (nT (mo h)) := hw.t.1
  have hTb := hw.t.2
  have hF : h.1 MO 5 = nI (nF (mo h)) := hw.f.1
  have hFb := hw.f.2
  have hRc : h.1 MO 59 = nI (nR (mo h)) := hw.r.1
  have hRb := hw.r.2
  have hG : h.1 MO 60 = nI (nGf (mo h)) := hw.g.1
  have hGb := hw.g.2
  have hA : h.1 MO 70 = nI (nA (mo h)) := hw.a.1
  have hAb := hw.a.2
  have hTl : h.1 MO 1 = nI (nTl (mo h)) := hw.tl.1
  have hTlb := hw.tl.2
  intro n
  induction n with
  | zero =>
    intro s h1 h2 hi
    refine g_iload_n (pc' := 37) dX12_back_36 rfl rfl ?_
    refine g_bipushN (n := 6) (pc' := 39) dX12_back_37 rfl (by decide) ?_
    refine g_icmp_geN (tgt := 75) (pc' := 42) dX12_back_39 rfl (by decide) (by omega) (by omega) (fun c39 => ?_) (fun c39 => ?_)
    ·
      refine g_iconst (v := 0) (pc' := 76) dX12_back_75 rfl (by decide) ?_
      refine g_istore_n (pc' := 77) dX12_back_76 rfl (by decide) rfl ?_
      try simp only [List.set]
      refine g_iconstN (n := 0) (pc' := 78) dX12_back_77 rfl ?_
      refine g_istore_n (pc' := 79) dX12_back_78 rfl (by decide) rfl ?_
      try simp only [List.set]
      exact lm_back2 hok hs hw hR ht hf e19 hd (hQ.1 (fun j q => hi j (by omega))) _ 0 (Nat.zero_le _) rfl
    · exact absurd c39 (by omega)
  | succ n ih =>
    intro s h1 h2 hi
    refine g_iload_n (pc' := 37) dX12_back_36 rfl rfl ?_
    refine g_bipushN (n := 6) (pc' := 39) dX12_back_37 rfl (by decide) ?_
    refine g_icmp_geN (tgt := 75) (pc' := 42) dX12_back_39 rfl (by decide) (by omega) (by omega) (fun c39 => ?_) (fun c39 => ?_)
    · exact absurd c39 (by omega)
    ·
      refine g_aload_n (pc' := 43) dX12_back_42 rfl rfl ?_
      refine g_getS (pc' := 46) (k := 0) (b := (100, 0)) dX12_back_43 rfl rfl ck_13 (by decide) fl_X12_7 rfl hs rfl ?_
      refine g_iload_n (pc' := 47) dX12_back_46 rfl rfl ?_
      refine g_baldN (pc' := 48) (v := mo h 100 s) dX12_back_47 rfl rfl (by decide) (by omega) (rfl) ?_
      refine g_sipushN (n := 255) (pc' := 51) dX12_back_48 rfl (by decide) ?_
      refine g_iand (pc' := 52) dX12_back_51 rfl ?_
      refine g_aload_n (pc' := 53) dX12_back_52 rfl rfl ?_
      refine g_getS (pc' := 56) (k := 25) (b := (125, 0)) dX12_back_53 rfl rfl ck_13 (by decide) fl_X12_66 rfl hs rfl ?_
      refine g_bipushN (n := 6) (pc' := 58) dX12_back_56 rfl (by decide) ?_
      refine g_iload_n (pc' := 59) dX12_back_58 rfl rfl ?_
      refine g_imulN (pc' := 60) dX12_back_59 rfl ?_
      refine g_iload_n (pc' := 61) dX12_back_60 rfl rfl ?_
      refine g_iaddN (pc' := 62) dX12_back_61 rfl ?_
      refine g_ialdN (pc' := 63) (v := mo h 125 (6 * t + s)) dX12_back_62 rfl rfl (by decide) (by omega) (rfl) ?_
      refine g_icmp_le (tgt := 69) (pc' := 66) dX12_back_63 rfl (by decide) (fun c63 => ?_) (fun c63 => ?_)
      ·
        refine g_iincN (k := 1) (pc' := 72) dX12_back_69 rfl rfl (by decide) rfl ?_
        try simp only [List.set]
        refine g_goto (tgt := 36) dX12_back_72 (by decide) ?_
        exact ih (s + 1) (by omega) (by omega) (lt_s hi c63)
      ·
        refine g_bipush (v := -2) (pc' := 68) dX12_back_66 rfl (by decide) ?_
        refine g_iret dX12_back_68 rfl (by decide) (by decide) ?_
        exact hQ.2 (fun z => absurd (z s (by omega)) c63)
set_option maxRecDepth 4000 in
theorem cm_back {E : En} (hok : EOK E) {h : Hp} (hs : Shp h.2) (hw : Wf (mo h)) (hx : Wx (mo h)) {R : Rm} (hR : WR (mo h) R) (t0 : Int32) : Call E m_X12_back 8 0 0 [vR MO, vI t0] h (fun r h' => r = some (vI (sBack (mo h) R t0).1) ∧ mo h' = (sBack (mo h) R t0).2 ∧ Mk h h') := by
  have hNw : h.1 MO 2 = nI (nW (mo h)) := hw.w.1
  have hNwb := hw.w.2
  have hC : h.1 MO 30 = nI (nC (mo h)) := hw.c.1
  have hCb := hw.c.2
  have hK : h.1 MO 3 = nI (nK (mo h)) := hw.k.1
  have hKb := hw.k.2
  have hT : h.1 MO 4 = nI (nT (mo h)) := hw.t.1
  have hTb := hw.t.2
  have hF : h.1 MO 5 = nI (nF (mo h)) := hw.f.1
  have hFb := hw.f.2
  have hRc : h.1 MO 59 = nI (nR (mo h)) := hw.r.1
  have hRb := hw.r.2
  have hG : h.1 MO 60 = nI (nGf (mo h)) := hw.g.1
  have hGb := hw.g.2
  have hA : h.1 MO 70 = nI (nA (mo h)) := hw.a.1
  have hAb := hw.a.2
  have hTl : h.1 MO 1 = nI (nTl (mo h)) := hw.tl.1
  have hTlb := hw.tl.2
  refine Call.enter hok (by decide) (Nat.le_of_ble_eq_true rfl) ?_
  show G E m_X12_back 8 0 0 _ h 0 [some (vR MO), some (vI t0), none, none, none, none, none, none] [] h 0 0
  refine g_aload_n (pc' := 1) dX12_back_0 rfl rfl ?_
  refine g_iload_n (pc' := 2) dX12_back_1 rfl rfl ?_
  refine g_invV (pc' := 5) (cm_isToy hok hw _) dX12_back_2 rfl rfl ck_13 rfl ml_X12_443 im_X12_isToy sl_X12_isToy in_X12 co_X12_isToy pd_X12_isToy rfl (by omega) (by decide) ⟨by decide, by decide⟩ (Nat.le_of_ble_eq_true rfl) ?_
  rintro _ _ ⟨rfl, rfl⟩ -
  refine g_ifB_eq (tgt := 27) (pc' := 8) dX12_back_5 rfl (by decide) (fun c5 => ?_) (fun c5 => ?_)
  ·
    refine g_iconst (v := -1) (pc' := 28) dX12_back_27 rfl (by decide) ?_
    refine g_iret dX12_back_28 rfl (by decide) (by decide) ?_
    have e : sBack (mo h) R t0 = (-1, mo h) := cif_f (fun z => c5 z.1)
    rw [e]
    exact ⟨rfl, rfl, Mk.rf h⟩
  ·
    have k5 := c5
    obtain ⟨t, ht, rfl⟩ := k5
    refine g_aload_n (pc' := 9) dX12_back_8 rfl rfl ?_
    refine g_getS (pc' := 12) (k := 18) (b := (118, 0)) dX12_back_9 rfl rfl ck_13 (by decide) fl_X12_44 rfl hs rfl ?_
    refine g_iload_n (pc' := 13) dX12_back_12 rfl rfl ?_
    refine g_ialdN (pc' := 14) (v := _) dX12_back_13 rfl rfl (by decide) (by omega) (rfl) ?_
    refine g_iconstN (n := 1) (pc' := 15) dX12_back_14 rfl ?_
    refine g_icmp_ne (tgt := 27) (pc' := 18) dX12_back_15 rfl (by decide) (fun c15 => ?_) (fun c15 => ?_)
    ·
      refine g_iconst (v := -1) (pc' := 28) dX12_back_27 rfl (by decide) ?_
      refine g_iret dX12_back_28 rfl (by decide) (by decide) ?_
      have e : sBack (mo h) R (nI t) = (-1, mo h) := by unfold sBack; simp only [nI_clamp (show t < 2 ^ 31 by omega)]; exact cif_f (fun z => c15 z.2.1)
      rw [e]
      exact ⟨rfl, rfl, Mk.rf h⟩
    ·
      refine g_aload_n (pc' := 19) dX12_back_18 rfl rfl ?_
      refine g_getIv (v := nI (nTl (mo h))) (pc' := 22) (k := 1) dX12_back_19 rfl rfl ck_13 (by decide) fl_X12_255 rfl (hTl) ?_
      refine g_bipushN (n := 6) (pc' := 24) dX12_back_22 rfl (by decide) ?_
      refine g_icmp_geN (tgt := 29) (pc' := 27) dX12_back_24 rfl (by decide) (by omega) (by omega) (fun c24 => ?_) (fun c24 => ?_)
      ·
        refine g_aload_n (pc' := 30) dX12_back_29 rfl rfl ?_
        refine g_iconstN (n := 0) (pc' := 31) dX12_back_30 rfl ?_
        refine g_putI (pc' := 34) (k := 1) dX12_back_31 rfl rfl ck_13 (by decide) fl_X12_255 rfl rfl rfl rfl ?_
        refine g_iconstN (n := 0) (pc' := 35) dX12_back_34 rfl ?_
        refine g_istore_n (pc' := 36) dX12_back_35 rfl (by decide) rfl ?_
        try simp only [List.set]
        have q := Wx.hl hx ht c15 hFb
        refine lm_back1 hok hs hw hR ht q.2 q.1 (by omega) ⟨fun z => ?_, fun z => ?_⟩ _ 0 (Nat.zero_le _) rfl (fun j q => absurd q (Nat.not_lt_zero j))
        · have e : sBack (mo h) R (nI t) = bkT (bk3 (mo h) t) R t (bkM (mo h) t) := by unfold sBack; simp only [nI_clamp (show t < 2 ^ 31 by omega)]; exact (cif_t ⟨c5, c15, c24⟩).trans (cif_t z)
          rw [e]
          exact fun h' a b => ⟨rfl, a, b⟩
        · have e : sBack (mo h) R (nI t) = (-2, stU (mo h) 1 1 (nI 0)) := by unfold sBack; simp only [nI_clamp (show t < 2 ^ 31 by omega)]; exact (cif_t ⟨c5, c15, c24⟩).trans (cif_f z)
          rw [e]
          exact ⟨rfl, mo_wF (j := 1) rfl, (Mk.rf h).w (Or.inl rfl)⟩
      ·
        refine g_iconst (v := -1) (pc' := 28) dX12_back_27 rfl (by decide) ?_
        refine g_iret dX12_back_28 rfl (by decide) (by decide) ?_
        have e : sBack (mo h) R (nI t) = (-1, mo h) := by unfold sBack; simp only [nI_clamp (show t < 2 ^ 31 by omega)]; exact cif_f (fun z => c24 z.2.2)
        rw [e]
        exact ⟨rfl, rfl, Mk.rf h⟩
