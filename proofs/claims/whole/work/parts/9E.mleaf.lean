/-! the reference's reader of rules: its state, and its small methods -/
def RT (b : Nat → Nat) (n : Nat) (h : Hp) : Prop := Shp h.2 ∧ (∀ j, j < n → h.1 (100, 0) j &&& nI 255 = nI (b j)) ∧ h.1 MO 44 = nI n
/-- at p, with c codes, w on the stack, o brackets; nothing is wrong yet -/
def RS (b : Nat → Nat) (n p c w o : Nat) (h : Hp) : Prop := RT b n h ∧ h.1 MO 43 = nI p ∧ h.1 MO 47 = nI c ∧ h.1 MO 49 = nI w ∧ h.1 MO 48 = nI o ∧ h.1 MO 45 = 0 ∧ c + w ≤ p ∧ p ≤ n
def yk (j : Nat) : Bool := Nat.beq j 43 || Nat.beq j 45 || Nat.beq j 47 || Nat.beq j 48 || Nat.beq j 49 || Nat.beq j 51
/-- codes below c and the stack below w stay -/
def YK (c w : Nat) (h h' : Hp) : Prop := h'.2 = h.2 ∧ (∀ a : Ad, a ≠ MO → a ≠ (141, 0) → a ≠ (142, 0) → a ≠ (152, 0) → h'.1 a = h.1 a) ∧ (∀ j, yk j = false → h'.1 MO j = h.1 MO j) ∧ (∀ j, j < c → h'.1 (141, 0) j = h.1 (141, 0) j ∧ h'.1 (142, 0) j = h.1 (142, 0) j) ∧ ∀ j, j < w → h'.1 (152, 0) j = h.1 (152, 0) j
theorem YK.rf (c w : Nat) (h : Hp) : YK c w h h := ⟨rfl, fun _ _ _ _ _ => rfl, fun _ _ => rfl, fun _ _ => ⟨rfl, rfl⟩, fun _ _ => rfl⟩
theorem YK.tr {c w c1 w1 : Nat} {h h1 h2 : Hp} (x : YK c w h h1) (y : YK c1 w1 h1 h2) (hc : c ≤ c1) (hw : w ≤ w1) : YK c w h h2 :=
  ⟨y.1.trans x.1, fun a q1 q2 q3 q4 => (y.2.1 a q1 q2 q3 q4).trans (x.2.1 a q1 q2 q3 q4), fun j hj => (y.2.2.1 j hj).trans (x.2.2.1 j hj), fun j hj => ⟨(y.2.2.2.1 j (by omega)).1.trans (x.2.2.2.1 j hj).1, (y.2.2.2.1 j (by omega)).2.trans (x.2.2.2.1 j hj).2⟩, fun j hj => (y.2.2.2.2 j (by omega)).trans (x.2.2.2.2 j hj)⟩
theorem YK.le {c w c1 w1 : Nat} {h h1 : Hp} (x : YK c1 w1 h h1) (hc : c ≤ c1) (hw : w ≤ w1) : YK c w h h1 := (YK.rf c w h).tr x hc hw
theorem YK.f {c w j : Nat} {x : Int32} {h h1 : Hp} (k : YK c w h h1) (hj : yk j = true) : YK c w h (wI h1 MO j x) :=
  ⟨k.1, fun a q1 q2 q3 q4 => (wI_off _ _ _ _ a q1).trans (k.2.1 a q1 q2 q3 q4), fun i hi => (wI_f (fun z => by rw [z, hj] at hi; cases hi)).trans (k.2.2.1 i hi), k.2.2.2.1, k.2.2.2.2⟩
theorem YK.c {c w j : Nat} {x : Int32} {h h1 : Hp} (k : YK c w h h1) (hj : c ≤ j) : YK c w h (wI h1 (141, 0) j x) :=
  ⟨k.1, fun a q1 q2 q3 q4 => (wI_off _ _ _ _ a q2).trans (k.2.1 a q1 q2 q3 q4), k.2.2.1, fun i hi => ⟨(wI_f (by omega)).trans (k.2.2.2.1 i hi).1, (k.2.2.2.1 i hi).2⟩, k.2.2.2.2⟩
theorem YK.d {c w j : Nat} {x : Int32} {h h1 : Hp} (k : YK c w h h1) (hj : c ≤ j) : YK c w h (wI h1 (142, 0) j x) :=
  ⟨k.1, fun a q1 q2 q3 q4 => (wI_off _ _ _ _ a q3).trans (k.2.1 a q1 q2 q3 q4), k.2.2.1, fun i hi => ⟨(k.2.2.2.1 i hi).1, (wI_f (by omega)).trans (k.2.2.2.1 i hi).2⟩, k.2.2.2.2⟩
theorem YK.s {c w j : Nat} {x : Int32} {h h1 : Hp} (k : YK c w h h1) (hj : w ≤ j) : YK c w h (wI h1 (152, 0) j x) :=
  ⟨k.1, fun a q1 q2 q3 q4 => (wI_off _ _ _ _ a q4).trans (k.2.1 a q1 q2 q3 q4), k.2.2.1, k.2.2.2.1, fun i hi => (wI_f (by omega)).trans (k.2.2.2.2 i hi)⟩
theorem RT.k {b : Nat → Nat} {n c w : Nat} {h h' : Hp} (t : RT b n h) (k : YK c w h h') : RT b n h' :=
  ⟨by rw [k.1]; exact t.1, fun j hj => by rw [k.2.1 (100, 0) (by decide) (by decide) (by decide) (by decide)]; exact t.2.1 j hj, (k.2.2.1 44 rfl).trans t.2.2⟩
theorem bz {b : Nat → Nat} {n p : Nat} (hb : HB b n) (h : ¬ p < n) : b p = 0 := hb.2.2 p (by omega)
/-- the top of a stack of w -/
def tpV (w : Nat) (h : Hp) : Int32 := if w = 0 then 0 else h.1 (152, 0) (w - 1)
theorem tpV_s (w : Nat) (h : Hp) : tpV (w + 1) h = h.1 (152, 0) w := if_neg (by omega)
theorem tpV_k {c w : Nat} {h h' : Hp} (k : YK c w h h') : tpV w h' = tpV w h := by
  unfold tpV
  split
  · rfl
  · exact k.2.2.2.2 (w - 1) (by omega)
set_option maxRecDepth 4000 in
theorem cm_here {E : En} (hok : EOK E) {h : Hp} {b : Nat → Nat} {n p : Nat} (hb : HB b n) (ht : RT b n h) (h43 : h.1 MO 43 = nI p) (hp : p ≤ 400) : Fn E m_X12_here 0 [vR MO] h (vI (nI (b p))) := by
  have hn := hb.1
  have hs := ht.1
  refine Call.enter hok (by decide) (Nat.le_of_ble_eq_true rfl) ?_
  show G E m_X12_here 0 0 0 _ h 0 [some (vR MO)] [] h 0 0
  refine g_aload_n (pc' := 1) dX12_here_0 rfl rfl ?_
  refine g_getIv (v := nI (p)) (pc' := 4) (k := 43) dX12_here_1 rfl rfl ck_13 (by decide) fl_X12_262 rfl (h43) ?_
  refine g_aload_n (pc' := 5) dX12_here_4 rfl rfl ?_
  refine g_getIv (v := nI (n)) (pc' := 8) (k := 44) dX12_here_5 rfl rfl ck_13 (by decide) fl_X12_265 rfl (ht.2.2) ?_
  refine g_icmp_geN (tgt := 27) (pc' := 11) dX12_here_8 rfl (by decide) (by omega) (by omega) (fun c8 => ?_) (fun c8 => ?_)
  ·
    refine g_iconstN (n := 0) (pc' := 28) dX12_here_27 rfl ?_
    refine g_iret dX12_here_28 rfl (by decide) (by decide) ?_
    exact ⟨congrArg (fun z : Int32 => some (vI z)) (by rw [bz hb (by omega)]), rfl⟩
  ·
    refine g_aload_n (pc' := 12) dX12_here_11 rfl rfl ?_
    refine g_getS (pc' := 15) (k := 0) (b := (100, 0)) dX12_here_12 rfl rfl ck_13 (by decide) fl_X12_7 rfl hs rfl ?_
    refine g_aload_n (pc' := 16) dX12_here_15 rfl rfl ?_
    refine g_getIv (v := nI (p)) (pc' := 19) (k := 43) dX12_here_16 rfl rfl ck_13 (by decide) fl_X12_262 rfl (h43) ?_
    refine g_baldN (pc' := 20) (v := _) dX12_here_19 rfl rfl (by decide) (by omega) (rfl) ?_
    refine g_sipushN (n := 255) (pc' := 23) dX12_here_20 rfl (by decide) ?_
    refine g_iand (pc' := 24) dX12_here_23 rfl ?_
    refine g_goto (tgt := 28) dX12_here_24 (by decide) ?_
    refine g_iret dX12_here_28 rfl (by decide) (by decide) ?_
    exact ⟨congrArg (fun z : Int32 => some (vI z)) (ht.2.1 p (by omega)), rfl⟩
set_option maxRecDepth 4000 in
theorem cm_wrong {E : En} (hok : EOK E) {h : Hp} (hg : h.1 MO 45 = 0) (f q : Nat) : Fm E m_X12_wrongs 0 [vR MO, vI (nI f), vI (nI q)] h none (wI h MO 45 (bdv f q)) := by
  refine Call.enter hok (by decide) (Nat.le_of_ble_eq_true rfl) ?_
  show G E m_X12_wrongs 0 0 0 _ h 0 [some (vR MO), some (vI (nI f)), some (vI (nI q))] [] h 0 0
  refine g_aload_n (pc' := 1) dX12_wrongs_0 rfl rfl ?_
  refine g_aload_n (pc' := 2) dX12_wrongs_1 rfl rfl ?_
  refine g_getIv (v := 0) (pc' := 5) (k := 45) dX12_wrongs_2 rfl rfl ck_13 (by decide) fl_X12_268 rfl (hg) ?_
  refine g_if_ge (tgt := 15) (pc' := 8) dX12_wrongs_5 rfl (by decide) (fun c5 => ?_) (fun c5 => ?_)
  ·
    refine g_sipush (v := -1000) (pc' := 18) dX12_wrongs_15 rfl (by decide) ?_
    refine g_iload_n (pc' := 19) dX12_wrongs_18 rfl rfl ?_
    refine g_imul (pc' := 20) dX12_wrongs_19 rfl ?_
    refine g_iload_n (pc' := 21) dX12_wrongs_20 rfl rfl ?_
    refine g_isub (pc' := 22) dX12_wrongs_21 rfl ?_
    refine g_putI (pc' := 25) (k := 45) dX12_wrongs_22 rfl rfl ck_13 (by decide) fl_X12_268 rfl rfl rfl rfl ?_
    refine g_vret dX12_wrongs_25 rfl (by decide) (by decide) ?_
    exact ⟨rfl, rfl⟩
  · exact absurd (by decide) c5
set_option maxRecDepth 4000 in
theorem cm_good {E : En} (hok : EOK E) {h : Hp} (hg : h.1 MO 45 = 0) : Fn E m_X12_isGood 0 [vR MO] h (vI (nI 1)) := by
  refine Call.enter hok (by decide) (Nat.le_of_ble_eq_true rfl) ?_
  show G E m_X12_isGood 0 0 0 _ h 0 [some (vR MO)] [] h 0 0
  refine g_aload_n (pc' := 1) dX12_isGood_0 rfl rfl ?_
  refine g_getI (pc' := 4) (k := 45) dX12_isGood_1 rfl rfl ck_13 (by decide) fl_X12_268 rfl ?_
  refine g_if_ne (tgt := 11) (pc' := 7) dX12_isGood_4 rfl (by decide) (fun c4 => ?_) (fun c4 => ?_)
  · exact absurd hg c4
  ·
    refine g_iconstN (n := 1) (pc' := 8) dX12_isGood_7 rfl ?_
    refine g_goto (tgt := 12) dX12_isGood_8 (by decide) ?_
    refine g_zret dX12_isGood_12 rfl (by rfl) (by decide) (by decide) ?_
    exact ⟨rfl, rfl⟩
set_option maxRecDepth 4000 in
theorem cm_bad {E : En} (hok : EOK E) {h : Hp} (hg : ¬ h.1 MO 45 = 0) : Fn E m_X12_isGood 0 [vR MO] h (vI (nI 0)) := by
  refine Call.enter hok (by decide) (Nat.le_of_ble_eq_true rfl) ?_
  show G E m_X12_isGood 0 0 0 _ h 0 [some (vR MO)] [] h 0 0
  refine g_aload_n (pc' := 1) dX12_isGood_0 rfl rfl ?_
  refine g_getI (pc' := 4) (k := 45) dX12_isGood_1 rfl rfl ck_13 (by decide) fl_X12_268 rfl ?_
  refine g_if_ne (tgt := 11) (pc' := 7) dX12_isGood_4 rfl (by decide) (fun c4 => ?_) (fun c4 => ?_)
  ·
    refine g_iconstN (n := 0) (pc' := 12) dX12_isGood_11 rfl ?_
    refine g_zret dX12_isGood_12 rfl (by rfl) (by decide) (by decide) ?_
    exact ⟨rfl, rfl⟩
  · exact absurd c4 hg
def emH (c : Nat) (x a : Int32) (h : Hp) : Hp := wI (wI (wI h (141, 0) c x) (142, 0) c a) MO 47 (nI (c + 1))
set_option maxRecDepth 4000 in
theorem cm_emit {E : En} (hok : EOK E) {h : Hp} {c : Nat} (hs : Shp h.2) (hg : h.1 MO 45 = 0) (h47 : h.1 MO 47 = nI c) (hc : c < 200) (x a : Int32) : Fm E m_X12_emit 1 [vR MO, vI x, vI a] h none (emH c x a h) := by
  refine Call.enter hok (by decide) (Nat.le_of_ble_eq_true rfl) ?_
  show G E m_X12_emit 1 0 0 _ h 0 [some (vR MO), some (vI x), some (vI a)] [] h 0 0
  refine g_aload_n (pc' := 1) dX12_emit_0 rfl rfl ?_
  refine g_invV (pc' := 4) (cm_good hok hg) dX12_emit_1 rfl rfl ck_13 rfl ml_X12_271 im_X12_isGood sl_X12_isGood in_X12 co_X12_isGood pd_X12_isGood rfl (by omega) (by decide) ⟨by decide, by decide⟩ (Nat.le_of_ble_eq_true rfl) ?_
  rintro _ _ ⟨rfl, rfl⟩ -
  refine g_if_neN (tgt := 8) (pc' := 7) dX12_emit_4 rfl (by decide) (by decide) (fun _ => ?_) (fun q => False.elim (by revert q; decide))
  refine g_aload_n (pc' := 9) dX12_emit_8 rfl rfl ?_
  refine g_getS (pc' := 12) (k := 41) (b := (141, 0)) dX12_emit_9 rfl rfl ck_13 (by decide) fl_X12_111 rfl hs rfl ?_
  refine g_aload_n (pc' := 13) dX12_emit_12 rfl rfl ?_
  refine g_getIv (v := nI (c)) (pc' := 16) (k := 47) dX12_emit_13 rfl rfl ck_13 (by decide) fl_X12_275 rfl (h47) ?_
  refine g_iload_n (pc' := 17) dX12_emit_16 rfl rfl ?_
  refine g_iastN (pc' := 18) dX12_emit_17 rfl rfl (by decide) (by omega) ?_
  refine g_aload_n (pc' := 19) dX12_emit_18 rfl rfl ?_
  refine g_getS (pc' := 22) (k := 42) (b := (142, 0)) dX12_emit_19 rfl rfl ck_13 (by decide) fl_X12_114 rfl hs rfl ?_
  refine g_aload_n (pc' := 23) dX12_emit_22 rfl rfl ?_
  refine g_getIv (v := nI (c)) (pc' := 26) (k := 47) dX12_emit_23 rfl rfl ck_13 (by decide) fl_X12_275 rfl (h47) ?_
  refine g_iload_n (pc' := 27) dX12_emit_26 rfl rfl ?_
  refine g_iastN (pc' := 28) dX12_emit_27 rfl rfl (by decide) (by omega) ?_
  refine g_aload_n (pc' := 29) dX12_emit_28 rfl rfl ?_
  refine g_dup (pc' := 30) dX12_emit_29 rfl rfl ?_
  refine g_getIv (v := nI (c)) (pc' := 33) (k := 47) dX12_emit_30 rfl rfl ck_13 (by decide) fl_X12_275 rfl (h47) ?_
  refine g_iconstN (n := 1) (pc' := 34) dX12_emit_33 rfl ?_
  refine g_iaddN (pc' := 35) dX12_emit_34 rfl ?_
  refine g_putI (pc' := 38) (k := 47) dX12_emit_35 rfl rfl ck_13 (by decide) fl_X12_275 rfl rfl rfl rfl ?_
  refine g_vret dX12_emit_38 rfl (by decide) (by decide) ?_
  exact ⟨rfl, rfl⟩
set_option maxRecDepth 4000 in
theorem cm_top {E : En} (hok : EOK E) {h : Hp} {w g : Nat} (hs : Shp h.2) (h49 : h.1 MO 49 = nI w) (hw : w ≤ 240) (hg : tpV w h = nI g) : Fn E m_X12_top 0 [vR MO] h (vI (nI g)) := by
  refine Call.enter hok (by decide) (Nat.le_of_ble_eq_true rfl) ?_
  show G E m_X12_top 0 0 0 _ h 0 [some (vR MO)] [] h 0 0
  refine g_aload_n (pc' := 1) dX12_top_0 rfl rfl ?_
  refine g_getIv (v := nI (w)) (pc' := 4) (k := 49) dX12_top_1 rfl rfl ck_13 (by decide) fl_X12_278 rfl (h49) ?_
  refine g_if_leN (tgt := 21) (pc' := 7) dX12_top_4 rfl (by decide) (by omega) (fun c4 => ?_) (fun c4 => ?_)
  ·
    refine g_iconstN (n := 0) (pc' := 22) dX12_top_21 rfl ?_
    refine g_iret dX12_top_22 rfl (by decide) (by decide) ?_
    exact ⟨congrArg (fun z : Int32 => some (vI z)) ((if_pos c4).symm.trans hg), rfl⟩
  ·
    refine g_aload_n (pc' := 8) dX12_top_7 rfl rfl ?_
    refine g_getS (pc' := 11) (k := 52) (b := (152, 0)) dX12_top_8 rfl rfl ck_13 (by decide) fl_X12_117 rfl hs rfl ?_
    refine g_aload_n (pc' := 12) dX12_top_11 rfl rfl ?_
    refine g_getIv (v := nI (w)) (pc' := 15) (k := 49) dX12_top_12 rfl rfl ck_13 (by decide) fl_X12_278 rfl (h49) ?_
    refine g_iconstN (n := 1) (pc' := 16) dX12_top_15 rfl ?_
    refine g_isubN (pc' := 17) dX12_top_16 rfl (by omega) ?_
    refine g_ialdN (pc' := 18) (v := _) dX12_top_17 rfl rfl (by decide) (by omega) (rfl) ?_
    refine g_goto (tgt := 22) dX12_top_18 (by decide) ?_
    refine g_iret dX12_top_22 rfl (by decide) (by decide) ?_
    exact ⟨congrArg (fun z : Int32 => some (vI z)) ((if_neg c4).symm.trans hg), rfl⟩
def ptH (w p : Nat) (x : Int32) (h : Hp) : Hp := wI (wI (wI h (152, 0) w x) MO 49 (nI (w + 1))) MO 43 (nI (p + 1))
set_option maxRecDepth 4000 in
theorem cm_puts {E : En} (hok : EOK E) {h : Hp} {w p : Nat} (hs : Shp h.2) (h49 : h.1 MO 49 = nI w) (h43 : h.1 MO 43 = nI p) (hw : w < 240) (x : Int32) : Fm E m_X12_puts 0 [vR MO, vI x] h none (ptH w p x h) := by
  refine Call.enter hok (by decide) (Nat.le_of_ble_eq_true rfl) ?_
  show G E m_X12_puts 0 0 0 _ h 0 [some (vR MO), some (vI x)] [] h 0 0
  refine g_aload_n (pc' := 1) dX12_puts_0 rfl rfl ?_
  refine g_getS (pc' := 4) (k := 52) (b := (152, 0)) dX12_puts_1 rfl rfl ck_13 (by decide) fl_X12_117 rfl hs rfl ?_
  refine g_aload_n (pc' := 5) dX12_puts_4 rfl rfl ?_
  refine g_getIv (v := nI (w)) (pc' := 8) (k := 49) dX12_puts_5 rfl rfl ck_13 (by decide) fl_X12_278 rfl (h49) ?_
  refine g_iload_n (pc' := 9) dX12_puts_8 rfl rfl ?_
  refine g_iastN (pc' := 10) dX12_puts_9 rfl rfl (by decide) (by omega) ?_
  refine g_aload_n (pc' := 11) dX12_puts_10 rfl rfl ?_
  refine g_dup (pc' := 12) dX12_puts_11 rfl rfl ?_
  refine g_getIv (v := nI (w)) (pc' := 15) (k := 49) dX12_puts_12 rfl rfl ck_13 (by decide) fl_X12_278 rfl (h49) ?_
  refine g_iconstN (n := 1) (pc' := 16) dX12_puts_15 rfl ?_
  refine g_iaddN (pc' := 17) dX12_puts_16 rfl ?_
  refine g_putI (pc' := 20) (k := 49) dX12_puts_17 rfl rfl ck_13 (by decide) fl_X12_278 rfl rfl rfl rfl ?_
  refine g_aload_n (pc' := 21) dX12_puts_20 rfl rfl ?_
  refine g_dup (pc' := 22) dX12_puts_21 rfl rfl ?_
  refine g_getIv (v := nI (p)) (pc' := 25) (k := 43) dX12_puts_22 rfl rfl ck_13 (by decide) fl_X12_262 rfl (h43) ?_
  refine g_iconstN (n := 1) (pc' := 26) dX12_puts_25 rfl ?_
  refine g_iaddN (pc' := 27) dX12_puts_26 rfl ?_
  refine g_putI (pc' := 30) (k := 43) dX12_puts_27 rfl rfl ck_13 (by decide) fl_X12_262 rfl rfl rfl rfl ?_
  refine g_vret dX12_puts_30 rfl (by decide) (by decide) ?_
  exact ⟨rfl, rfl⟩
set_option maxRecDepth 4000 in
theorem cm_opens {E : En} (hok : EOK E) {h : Hp} {b : Nat → Nat} {n p : Nat} (hb : HB b n) (ht : RT b n h) (h43 : h.1 MO 43 = nI p) (hp : p ≤ 400) {w o : Nat} (hg : h.1 MO 45 = 0) (h49 : h.1 MO 49 = nI w) (h48 : h.1 MO 48 = nI o) (hw : w < 240) (ho : o ≤ 6) : Fm E m_X12_opens 1 [vR MO] h none (ptH w p (nI (b p)) (wI (if o = 6 then wI h MO 45 (bdv 5 p) else h) MO 48 (nI (o + 1)))) := by
  refine Call.enter hok (by decide) (Nat.le_of_ble_eq_true rfl) ?_
  show G E m_X12_opens 1 0 0 _ h 0 [some (vR MO)] [] h 0 0
  refine g_aload_n (pc' := 1) dX12_opens_0 rfl rfl ?_
  refine g_getIv (v := nI (o)) (pc' := 4) (k := 48) dX12_opens_1 rfl rfl ck_13 (by decide) fl_X12_281 rfl (h48) ?_
  refine g_bipushN (n := 6) (pc' := 6) dX12_opens_4 rfl (by decide) ?_
  refine g_icmp_neN (tgt := 18) (pc' := 9) dX12_opens_6 rfl (by decide) (by omega) (by omega) (fun c6 => ?_) (fun c6 => ?_)
  ·
    refine g_aload_n (pc' := 19) dX12_opens_18 rfl rfl ?_
    refine g_dup (pc' := 20) dX12_opens_19 rfl rfl ?_
    refine g_getIv (v := nI (o)) (pc' := 23) (k := 48) dX12_opens_20 rfl rfl ck_13 (by decide) fl_X12_281 rfl (h48) ?_
    refine g_iconstN (n := 1) (pc' := 24) dX12_opens_23 rfl ?_
    refine g_iaddN (pc' := 25) dX12_opens_24 rfl ?_
    refine g_putI (pc' := 28) (k := 48) dX12_opens_25 rfl rfl ck_13 (by decide) fl_X12_281 rfl rfl rfl rfl ?_
    refine g_aload_n (pc' := 29) dX12_opens_28 rfl rfl ?_
    refine g_aload_n (pc' := 30) dX12_opens_29 rfl rfl ?_
    refine g_invV (pc' := 33) (cm_here (h := (wI h MO 48 (nI (o + 1)))) hok hb ht h43 hp) dX12_opens_30 rfl rfl ck_13 rfl ml_X12_288 im_X12_here sl_X12_here in_X12 co_X12_here pd_X12_here rfl (by omega) (by decide) ⟨by decide, by decide⟩ (Nat.le_of_ble_eq_true rfl) ?_
    rintro _ _ ⟨rfl, rfl⟩ -
    refine g_invV (pc' := 36) (cm_puts (h := (wI h MO 48 (nI (o + 1)))) hok ht.1 h49 h43 hw _) dX12_opens_33 rfl rfl ck_13 rfl ml_X12_292 im_X12_puts sl_X12_puts in_X12 co_X12_puts pd_X12_puts rfl (by omega) (by decide) ⟨by decide, by decide⟩ (Nat.le_of_ble_eq_true rfl) ?_
    rintro _ _ ⟨rfl, rfl⟩ -
    refine g_vret dX12_opens_36 rfl (by decide) (by decide) ?_
    rw [if_neg (by omega)]
    exact ⟨rfl, rfl⟩
  ·
    refine g_aload_n (pc' := 10) dX12_opens_9 rfl rfl ?_
    refine g_iconstN (n := 5) (pc' := 11) dX12_opens_10 rfl ?_
    refine g_aload_n (pc' := 12) dX12_opens_11 rfl rfl ?_
    refine g_getIv (v := nI (p)) (pc' := 15) (k := 43) dX12_opens_12 rfl rfl ck_13 (by decide) fl_X12_262 rfl (h43) ?_
    refine g_invV (pc' := 18) (cm_wrong hok hg 5 p) dX12_opens_15 rfl rfl ck_13 rfl ml_X12_284 im_X12_wrongs sl_X12_wrongs in_X12 co_X12_wrongs pd_X12_wrongs rfl (by omega) (by decide) ⟨by decide, by decide⟩ (Nat.le_of_ble_eq_true rfl) ?_
    rintro _ _ ⟨rfl, rfl⟩ -
    refine g_aload_n (pc' := 19) dX12_opens_18 rfl rfl ?_
    refine g_dup (pc' := 20) dX12_opens_19 rfl rfl ?_
    refine g_getIv (v := nI (o)) (pc' := 23) (k := 48) dX12_opens_20 rfl rfl ck_13 (by decide) fl_X12_281 rfl (h48) ?_
    refine g_iconstN (n := 1) (pc' := 24) dX12_opens_23 rfl ?_
    refine g_iaddN (pc' := 25) dX12_opens_24 rfl ?_
    refine g_putI (pc' := 28) (k := 48) dX12_opens_25 rfl rfl ck_13 (by decide) fl_X12_281 rfl rfl rfl rfl ?_
    refine g_aload_n (pc' := 29) dX12_opens_28 rfl rfl ?_
    refine g_aload_n (pc' := 30) dX12_opens_29 rfl rfl ?_
    refine g_invV (pc' := 33) (cm_here (h := (wI (wI h MO 45 (bdv 5 p)) MO 48 (nI (o + 1)))) hok hb ht h43 hp) dX12_opens_30 rfl rfl ck_13 rfl ml_X12_288 im_X12_here sl_X12_here in_X12 co_X12_here pd_X12_here rfl (by omega) (by decide) ⟨by decide, by decide⟩ (Nat.le_of_ble_eq_true rfl) ?_
    rintro _ _ ⟨rfl, rfl⟩ -
    refine g_invV (pc' := 36) (cm_puts (h := (wI (wI h MO 45 (bdv 5 p)) MO 48 (nI (o + 1)))) hok ht.1 h49 h43 hw _) dX12_opens_33 rfl rfl ck_13 rfl ml_X12_292 im_X12_puts sl_X12_puts in_X12 co_X12_puts pd_X12_puts rfl (by omega) (by decide) ⟨by decide, by decide⟩ (Nat.le_of_ble_eq_true rfl) ?_
    rintro _ _ ⟨rfl, rfl⟩ -
    refine g_vret dX12_opens_36 rfl (by decide) (by decide) ?_
    rw [if_pos (by omega)]
    exact ⟨rfl, rfl⟩
theorem lit_dg {x : Nat} (h : x < 256) : (nI 48 ≤ nI x ∧ nI x ≤ nI 57) ↔ dgt x := by
  unfold dgt
  rw [nI_leI (by omega) (by omega), nI_leI (by omega) (by omega)]
set_option maxRecDepth 4000 in
theorem cm_sees {E : En} (hok : EOK E) {h : Hp} {b : Nat → Nat} {n p : Nat} (hb : HB b n) (ht : RT b n h) (h43 : h.1 MO 43 = nI p) (hp : p ≤ 400) : Fn E m_X12_seesDigit 1 [vR MO] h (vI (bi (dgt (b p)))) := by
  refine Call.enter hok (by decide) (Nat.le_of_ble_eq_true rfl) ?_
  show G E m_X12_seesDigit 1 0 0 _ h 0 [some (vR MO)] [] h 0 0
  refine g_aload_n (pc' := 1) dX12_seesDigit_0 rfl rfl ?_
  refine g_invV (pc' := 4) (cm_here hok hb ht h43 hp) dX12_seesDigit_1 rfl rfl ck_13 rfl ml_X12_288 im_X12_here sl_X12_here in_X12 co_X12_here pd_X12_here rfl (by omega) (by decide) ⟨by decide, by decide⟩ (Nat.le_of_ble_eq_true rfl) ?_
  rintro _ _ ⟨rfl, rfl⟩ -
  refine g_i2l (pc' := 5) dX12_seesDigit_4 rfl ?_
  refine g_ldc2 (pc' := 8) dX12_seesDigit_5 rfl kc_X12_295 ?_
  refine g_ldc2 (pc' := 11) dX12_seesDigit_8 rfl kc_X12_297 ?_
  refine g_invS (pc' := 14) (c_liesI hok (nI (b p)) (nI 48) (nI 57) rfl (by decide) (by decide)) dX12_seesDigit_11 rfl ml_X12_203 st_X12_lies in_X12 co_X12_lies pd_X12_lies rfl (by omega) (by decide) ⟨by decide, by decide⟩ (Nat.le_of_ble_eq_true rfl) ?_
  rintro _ _ ⟨rfl, rfl⟩ -
  refine g_zret dX12_seesDigit_14 rfl (nbB) (by decide) (by decide) ?_
  exact ⟨congrArg (fun z : Int32 => some (vI z)) (bi_iff (lit_dg (hb.2.1 p))), rfl⟩
set_option maxRecDepth 4000 in
theorem cm_isTm {E : En} (hok : EOK E) {h : Hp} {c : Nat} (hc : c < 256) : Fn E m_X12_isTimes 0 [vI (nI c)] h (vI (bi (isTm c))) := by
  refine Call.enter hok (by decide) (Nat.le_of_ble_eq_true rfl) ?_
  show G E m_X12_isTimes 0 0 0 _ h 0 [some (vI (nI c))] [] h 0 0
  refine g_iload_n (pc' := 1) dX12_isTimes_0 rfl rfl ?_
  refine g_bipushN (n := 42) (pc' := 3) dX12_isTimes_1 rfl (by decide) ?_
  refine g_icmp_eqN (tgt := 18) (pc' := 6) dX12_isTimes_3 rfl (by decide) (by omega) (by omega) (fun c3 => ?_) (fun c3 => ?_)
  ·
    refine g_iconstN (n := 1) (pc' := 19) dX12_isTimes_18 rfl ?_
    refine g_goto (tgt := 23) dX12_isTimes_19 (by decide) ?_
    refine g_zret dX12_isTimes_23 rfl (by rfl) (by decide) (by decide) ?_
    refine ⟨congrArg (fun z : Int32 => some (vI z)) (show _ = bi (isTm c) from ?_), rfl⟩
    first
    | (rw [bi_t (by unfold isTm; omega)]; rfl)
    | (rw [bi_f (by unfold isTm; omega)]; rfl)
  ·
    refine g_iload_n (pc' := 7) dX12_isTimes_6 rfl rfl ?_
    refine g_bipushN (n := 47) (pc' := 9) dX12_isTimes_7 rfl (by decide) ?_
    refine g_icmp_eqN (tgt := 18) (pc' := 12) dX12_isTimes_9 rfl (by decide) (by omega) (by omega) (fun c9 => ?_) (fun c9 => ?_)
    ·
      refine g_iconstN (n := 1) (pc' := 19) dX12_isTimes_18 rfl ?_
      refine g_goto (tgt := 23) dX12_isTimes_19 (by decide) ?_
      refine g_zret dX12_isTimes_23 rfl (by rfl) (by decide) (by decide) ?_
      refine ⟨congrArg (fun z : Int32 => some (vI z)) (show _ = bi (isTm c) from ?_), rfl⟩
      first
      | (rw [bi_t (by unfold isTm; omega)]; rfl)
      | (rw [bi_f (by unfold isTm; omega)]; rfl)
    ·
      refine g_iload_n (pc' := 13) dX12_isTimes_12 rfl rfl ?_
      refine g_bipushN (n := 37) (pc' := 15) dX12_isTimes_13 rfl (by decide) ?_
      refine g_icmp_neN (tgt := 22) (pc' := 18) dX12_isTimes_15 rfl (by decide) (by omega) (by omega) (fun c15 => ?_) (fun c15 => ?_)
      ·
        refine g_iconstN (n := 0) (pc' := 23) dX12_isTimes_22 rfl ?_
        refine g_zret dX12_isTimes_23 rfl (by rfl) (by decide) (by decide) ?_
        refine ⟨congrArg (fun z : Int32 => some (vI z)) (show _ = bi (isTm c) from ?_), rfl⟩
        first
        | (rw [bi_t (by unfold isTm; omega)]; rfl)
        | (rw [bi_f (by unfold isTm; omega)]; rfl)
      ·
        refine g_iconstN (n := 1) (pc' := 19) dX12_isTimes_18 rfl ?_
        refine g_goto (tgt := 23) dX12_isTimes_19 (by decide) ?_
        refine g_zret dX12_isTimes_23 rfl (by rfl) (by decide) (by decide) ?_
        refine ⟨congrArg (fun z : Int32 => some (vI z)) (show _ = bi (isTm c) from ?_), rfl⟩
        first
        | (rw [bi_t (by unfold isTm; omega)]; rfl)
        | (rw [bi_f (by unfold isTm; omega)]; rfl)
set_option maxRecDepth 4000 in
theorem cm_isPl {E : En} (hok : EOK E) {h : Hp} {c : Nat} (hc : c < 256) : Fn E m_X12_isPlus 0 [vI (nI c)] h (vI (bi (isPl c))) := by
  refine Call.enter hok (by decide) (Nat.le_of_ble_eq_true rfl) ?_
  show G E m_X12_isPlus 0 0 0 _ h 0 [some (vI (nI c))] [] h 0 0
  refine g_iload_n (pc' := 1) dX12_isPlus_0 rfl rfl ?_
  refine g_bipushN (n := 43) (pc' := 3) dX12_isPlus_1 rfl (by decide) ?_
  refine g_icmp_eqN (tgt := 12) (pc' := 6) dX12_isPlus_3 rfl (by decide) (by omega) (by omega) (fun c3 => ?_) (fun c3 => ?_)
  ·
    refine g_iconstN (n := 1) (pc' := 13) dX12_isPlus_12 rfl ?_
    refine g_goto (tgt := 17) dX12_isPlus_13 (by decide) ?_
    refine g_zret dX12_isPlus_17 rfl (by rfl) (by decide) (by decide) ?_
    refine ⟨congrArg (fun z : Int32 => some (vI z)) (show _ = bi (isPl c) from ?_), rfl⟩
    first
    | (rw [bi_t (by unfold isPl; omega)]; rfl)
    | (rw [bi_f (by unfold isPl; omega)]; rfl)
  ·
    refine g_iload_n (pc' := 7) dX12_isPlus_6 rfl rfl ?_
    refine g_bipushN (n := 45) (pc' := 9) dX12_isPlus_7 rfl (by decide) ?_
    refine g_icmp_neN (tgt := 16) (pc' := 12) dX12_isPlus_9 rfl (by decide) (by omega) (by omega) (fun c9 => ?_) (fun c9 => ?_)
    ·
      refine g_iconstN (n := 0) (pc' := 17) dX12_isPlus_16 rfl ?_
      refine g_zret dX12_isPlus_17 rfl (by rfl) (by decide) (by decide) ?_
      refine ⟨congrArg (fun z : Int32 => some (vI z)) (show _ = bi (isPl c) from ?_), rfl⟩
      first
      | (rw [bi_t (by unfold isPl; omega)]; rfl)
      | (rw [bi_f (by unfold isPl; omega)]; rfl)
    ·
      refine g_iconstN (n := 1) (pc' := 13) dX12_isPlus_12 rfl ?_
      refine g_goto (tgt := 17) dX12_isPlus_13 (by decide) ?_
      refine g_zret dX12_isPlus_17 rfl (by rfl) (by decide) (by decide) ?_
      refine ⟨congrArg (fun z : Int32 => some (vI z)) (show _ = bi (isPl c) from ?_), rfl⟩
      first
      | (rw [bi_t (by unfold isPl; omega)]; rfl)
      | (rw [bi_f (by unfold isPl; omega)]; rfl)
set_option maxRecDepth 4000 in
theorem cm_isCm {E : En} (hok : EOK E) {h : Hp} {c : Nat} (hc : c < 256) : Fn E m_X12_isSign 0 [vI (nI c)] h (vI (bi (isCm c))) := by
  refine Call.enter hok (by decide) (Nat.le_of_ble_eq_true rfl) ?_
  show G E m_X12_isSign 0 0 0 _ h 0 [some (vI (nI c))] [] h 0 0
  refine g_iload_n (pc' := 1) dX12_isSign_0 rfl rfl ?_
  refine g_bipushN (n := 60) (pc' := 3) dX12_isSign_1 rfl (by decide) ?_
  refine g_icmp_eqN (tgt := 18) (pc' := 6) dX12_isSign_3 rfl (by decide) (by omega) (by omega) (fun c3 => ?_) (fun c3 => ?_)
  ·
    refine g_iconstN (n := 1) (pc' := 19) dX12_isSign_18 rfl ?_
    refine g_goto (tgt := 23) dX12_isSign_19 (by decide) ?_
    refine g_zret dX12_isSign_23 rfl (by rfl) (by decide) (by decide) ?_
    refine ⟨congrArg (fun z : Int32 => some (vI z)) (show _ = bi (isCm c) from ?_), rfl⟩
    first
    | (rw [bi_t (by unfold isCm; omega)]; rfl)
    | (rw [bi_f (by unfold isCm; omega)]; rfl)
  ·
    refine g_iload_n (pc' := 7) dX12_isSign_6 rfl rfl ?_
    refine g_bipushN (n := 62) (pc' := 9) dX12_isSign_7 rfl (by decide) ?_
    refine g_icmp_eqN (tgt := 18) (pc' := 12) dX12_isSign_9 rfl (by decide) (by omega) (by omega) (fun c9 => ?_) (fun c9 => ?_)
    ·
      refine g_iconstN (n := 1) (pc' := 19) dX12_isSign_18 rfl ?_
      refine g_goto (tgt := 23) dX12_isSign_19 (by decide) ?_
      refine g_zret dX12_isSign_23 rfl (by rfl) (by decide) (by decide) ?_
      refine ⟨congrArg (fun z : Int32 => some (vI z)) (show _ = bi (isCm c) from ?_), rfl⟩
      first
      | (rw [bi_t (by unfold isCm; omega)]; rfl)
      | (rw [bi_f (by unfold isCm; omega)]; rfl)
    ·
      refine g_iload_n (pc' := 13) dX12_isSign_12 rfl rfl ?_
      refine g_bipushN (n := 61) (pc' := 15) dX12_isSign_13 rfl (by decide) ?_
      refine g_icmp_neN (tgt := 22) (pc' := 18) dX12_isSign_15 rfl (by decide) (by omega) (by omega) (fun c15 => ?_) (fun c15 => ?_)
      ·
        refine g_iconstN (n := 0) (pc' := 23) dX12_isSign_22 rfl ?_
        refine g_zret dX12_isSign_23 rfl (by rfl) (by decide) (by decide) ?_
        refine ⟨congrArg (fun z : Int32 => some (vI z)) (show _ = bi (isCm c) from ?_), rfl⟩
        first
        | (rw [bi_t (by unfold isCm; omega)]; rfl)
        | (rw [bi_f (by unfold isCm; omega)]; rfl)
      ·
        refine g_iconstN (n := 1) (pc' := 19) dX12_isSign_18 rfl ?_
        refine g_goto (tgt := 23) dX12_isSign_19 (by decide) ?_
        refine g_zret dX12_isSign_23 rfl (by rfl) (by decide) (by decide) ?_
        refine ⟨congrArg (fun z : Int32 => some (vI z)) (show _ = bi (isCm c) from ?_), rfl⟩
        first
        | (rw [bi_t (by unfold isCm; omega)]; rfl)
        | (rw [bi_f (by unfold isCm; omega)]; rfl)
def isAn (c : Nat) : Prop := c = 107 ∨ c = 97 ∨ c = 112 ∨ c = 122 ∨ c = 119 ∨ c = 109 ∨ c = 116 ∨ c = 110
set_option maxRecDepth 4000 in
theorem cm_isAn {E : En} (hok : EOK E) {h : Hp} {c : Nat} (hc : c < 256) : Fn E m_X12_isAnyOfToy 0 [vI (nI c)] h (vI (bi (isAn c))) := by
  refine Call.enter hok (by decide) (Nat.le_of_ble_eq_true rfl) ?_
  show G E m_X12_isAnyOfToy 0 0 0 _ h 0 [some (vI (nI c))] [] h 0 0
  refine g_iload_n (pc' := 1) dX12_isAnyOfToy_0 rfl rfl ?_
  refine g_bipushN (n := 107) (pc' := 3) dX12_isAnyOfToy_1 rfl (by decide) ?_
  refine g_icmp_eqN (tgt := 48) (pc' := 6) dX12_isAnyOfToy_3 rfl (by decide) (by omega) (by omega) (fun c3 => ?_) (fun c3 => ?_)
  ·
    refine g_iconstN (n := 1) (pc' := 49) dX12_isAnyOfToy_48 rfl ?_
    refine g_goto (tgt := 53) dX12_isAnyOfToy_49 (by decide) ?_
    refine g_zret dX12_isAnyOfToy_53 rfl (by rfl) (by decide) (by decide) ?_
    refine ⟨congrArg (fun z : Int32 => some (vI z)) (show _ = bi (isAn c) from ?_), rfl⟩
    first
    | (rw [bi_t (by unfold isAn; omega)]; rfl)
    | (rw [bi_f (by unfold isAn; omega)]; rfl)
  ·
    refine g_iload_n (pc' := 7) dX12_isAnyOfToy_6 rfl rfl ?_
    refine g_bipushN (n := 97) (pc' := 9) dX12_isAnyOfToy_7 rfl (by decide) ?_
    refine g_icmp_eqN (tgt := 48) (pc' := 12) dX12_isAnyOfToy_9 rfl (by decide) (by omega) (by omega) (fun c9 => ?_) (fun c9 => ?_)
    ·
      refine g_iconstN (n := 1) (pc' := 49) dX12_isAnyOfToy_48 rfl ?_
      refine g_goto (tgt := 53) dX12_isAnyOfToy_49 (by decide) ?_
      refine g_zret dX12_isAnyOfToy_53 rfl (by rfl) (by decide) (by decide) ?_
      refine ⟨congrArg (fun z : Int32 => some (vI z)) (show _ = bi (isAn c) from ?_), rfl⟩
      first
      | (rw [bi_t (by unfold isAn; omega)]; rfl)
      | (rw [bi_f (by unfold isAn; omega)]; rfl)
    ·
      refine g_iload_n (pc' := 13) dX12_isAnyOfToy_12 rfl rfl ?_
      refine g_bipushN (n := 112) (pc' := 15) dX12_isAnyOfToy_13 rfl (by decide) ?_
      refine g_icmp_eqN (tgt := 48) (pc' := 18) dX12_isAnyOfToy_15 rfl (by decide) (by omega) (by omega) (fun c15 => ?_) (fun c15 => ?_)
      ·
        refine g_iconstN (n := 1) (pc' := 49) dX12_isAnyOfToy_48 rfl ?_
        refine g_goto (tgt := 53) dX12_isAnyOfToy_49 (by decide) ?_
        refine g_zret dX12_isAnyOfToy_53 rfl (by rfl) (by decide) (by decide) ?_
        refine ⟨congrArg (fun z : Int32 => some (vI z)) (show _ = bi (isAn c) from ?_), rfl⟩
        first
        | (rw [bi_t (by unfold isAn; omega)]; rfl)
        | (rw [bi_f (by unfold isAn; omega)]; rfl)
      ·
        refine g_iload_n (pc' := 19) dX12_isAnyOfToy_18 rfl rfl ?_
        refine g_bipushN (n := 122) (pc' := 21) dX12_isAnyOfToy_19 rfl (by decide) ?_
        refine g_icmp_eqN (tgt := 48) (pc' := 24) dX12_isAnyOfToy_21 rfl (by decide) (by omega) (by omega) (fun c21 => ?_) (fun c21 => ?_)
        ·
          refine g_iconstN (n := 1) (pc' := 49) dX12_isAnyOfToy_48 rfl ?_
          refine g_goto (tgt := 53) dX12_isAnyOfToy_49 (by decide) ?_
          refine g_zret dX12_isAnyOfToy_53 rfl (by rfl) (by decide) (by decide) ?_
          refine ⟨congrArg (fun z : Int32 => some (vI z)) (show _ = bi (isAn c) from ?_), rfl⟩
          first
          | (rw [bi_t (by unfold isAn; omega)]; rfl)
          | (rw [bi_f (by unfold isAn; omega)]; rfl)
        ·
          refine g_iload_n (pc' := 25) dX12_isAnyOfToy_24 rfl rfl ?_
          refine g_bipushN (n := 119) (pc' := 27) dX12_isAnyOfToy_25 rfl (by decide) ?_
          refine g_icmp_eqN (tgt := 48) (pc' := 30) dX12_isAnyOfToy_27 rfl (by decide) (by omega) (by omega) (fun c27 => ?_) (fun c27 => ?_)
          ·
            refine g_iconstN (n := 1) (pc' := 49) dX12_isAnyOfToy_48 rfl ?_
            refine g_goto (tgt := 53) dX12_isAnyOfToy_49 (by decide) ?_
            refine g_zret dX12_isAnyOfToy_53 rfl (by rfl) (by decide) (by decide) ?_
            refine ⟨congrArg (fun z : Int32 => some (vI z)) (show _ = bi (isAn c) from ?_), rfl⟩
            first
            | (rw [bi_t (by unfold isAn; omega)]; rfl)
            | (rw [bi_f (by unfold isAn; omega)]; rfl)
          ·
            refine g_iload_n (pc' := 31) dX12_isAnyOfToy_30 rfl rfl ?_
            refine g_bipushN (n := 109) (pc' := 33) dX12_isAnyOfToy_31 rfl (by decide) ?_
            refine g_icmp_eqN (tgt := 48) (pc' := 36) dX12_isAnyOfToy_33 rfl (by decide) (by omega) (by omega) (fun c33 => ?_) (fun c33 => ?_)
            ·
              refine g_iconstN (n := 1) (pc' := 49) dX12_isAnyOfToy_48 rfl ?_
              refine g_goto (tgt := 53) dX12_isAnyOfToy_49 (by decide) ?_
              refine g_zret dX12_isAnyOfToy_53 rfl (by rfl) (by decide) (by decide) ?_
              refine ⟨congrArg (fun z : Int32 => some (vI z)) (show _ = bi (isAn c) from ?_), rfl⟩
              first
              | (rw [bi_t (by unfold isAn; omega)]; rfl)
              | (rw [bi_f (by unfold isAn; omega)]; rfl)
            ·
              refine g_iload_n (pc' := 37) dX12_isAnyOfToy_36 rfl rfl ?_
              refine g_bipushN (n := 116) (pc' := 39) dX12_isAnyOfToy_37 rfl (by decide) ?_
              refine g_icmp_eqN (tgt := 48) (pc' := 42) dX12_isAnyOfToy_39 rfl (by decide) (by omega) (by omega) (fun c39 => ?_) (fun c39 => ?_)
              ·
                refine g_iconstN (n := 1) (pc' := 49) dX12_isAnyOfToy_48 rfl ?_
                refine g_goto (tgt := 53) dX12_isAnyOfToy_49 (by decide) ?_
                refine g_zret dX12_isAnyOfToy_53 rfl (by rfl) (by decide) (by decide) ?_
                refine ⟨congrArg (fun z : Int32 => some (vI z)) (show _ = bi (isAn c) from ?_), rfl⟩
                first
                | (rw [bi_t (by unfold isAn; omega)]; rfl)
                | (rw [bi_f (by unfold isAn; omega)]; rfl)
              ·
                refine g_iload_n (pc' := 43) dX12_isAnyOfToy_42 rfl rfl ?_
                refine g_bipushN (n := 110) (pc' := 45) dX12_isAnyOfToy_43 rfl (by decide) ?_
                refine g_icmp_neN (tgt := 52) (pc' := 48) dX12_isAnyOfToy_45 rfl (by decide) (by omega) (by omega) (fun c45 => ?_) (fun c45 => ?_)
                ·
                  refine g_iconstN (n := 0) (pc' := 53) dX12_isAnyOfToy_52 rfl ?_
                  refine g_zret dX12_isAnyOfToy_53 rfl (by rfl) (by decide) (by decide) ?_
                  refine ⟨congrArg (fun z : Int32 => some (vI z)) (show _ = bi (isAn c) from ?_), rfl⟩
                  first
                  | (rw [bi_t (by unfold isAn; omega)]; rfl)
                  | (rw [bi_f (by unfold isAn; omega)]; rfl)
                ·
                  refine g_iconstN (n := 1) (pc' := 49) dX12_isAnyOfToy_48 rfl ?_
                  refine g_goto (tgt := 53) dX12_isAnyOfToy_49 (by decide) ?_
                  refine g_zret dX12_isAnyOfToy_53 rfl (by rfl) (by decide) (by decide) ?_
                  refine ⟨congrArg (fun z : Int32 => some (vI z)) (show _ = bi (isAn c) from ?_), rfl⟩
                  first
                  | (rw [bi_t (by unfold isAn; omega)]; rfl)
                  | (rw [bi_f (by unfold isAn; omega)]; rfl)
set_option maxRecDepth 4000 in
theorem cm_isLt {E : En} (hok : EOK E) {h : Hp} {c : Nat} (hc : c < 256) : Fn E m_X12_isValue 1 [vI (nI c)] h (vI (bi (isLt c))) := by
  refine Call.enter hok (by decide) (Nat.le_of_ble_eq_true rfl) ?_
  show G E m_X12_isValue 1 0 0 _ h 0 [some (vI (nI c))] [] h 0 0
  refine g_iload_n (pc' := 1) dX12_isValue_0 rfl rfl ?_
  refine g_invS (pc' := 4) (cm_isAn hok hc) dX12_isValue_1 rfl ml_X12_302 st_X12_isAnyOfToy in_X12 co_X12_isAnyOfToy pd_X12_isAnyOfToy rfl (by omega) (by decide) ⟨by decide, by decide⟩ (Nat.le_of_ble_eq_true rfl) ?_
  rintro _ _ ⟨rfl, rfl⟩ -
  refine g_ifB_ne (tgt := 61) (pc' := 7) dX12_isValue_4 rfl (by decide) (fun c4 => ?_) (fun c4 => ?_)
  ·
    refine g_iconstN (n := 1) (pc' := 62) dX12_isValue_61 rfl ?_
    refine g_goto (tgt := 66) dX12_isValue_62 (by decide) ?_
    refine g_zret dX12_isValue_66 rfl (by rfl) (by decide) (by decide) ?_
    refine ⟨congrArg (fun z : Int32 => some (vI z)) (show _ = bi (isLt c) from ?_), rfl⟩
    unfold isAn at c4
    first
    | (rw [bi_t (by unfold isLt; omega)]; rfl)
    | (rw [bi_f (by unfold isLt; omega)]; rfl)
  ·
    refine g_iload_n (pc' := 8) dX12_isValue_7 rfl rfl ?_
    refine g_bipushN (n := 121) (pc' := 10) dX12_isValue_8 rfl (by decide) ?_
    refine g_icmp_eqN (tgt := 61) (pc' := 13) dX12_isValue_10 rfl (by decide) (by omega) (by omega) (fun c10 => ?_) (fun c10 => ?_)
    ·
      refine g_iconstN (n := 1) (pc' := 62) dX12_isValue_61 rfl ?_
      refine g_goto (tgt := 66) dX12_isValue_62 (by decide) ?_
      refine g_zret dX12_isValue_66 rfl (by rfl) (by decide) (by decide) ?_
      refine ⟨congrArg (fun z : Int32 => some (vI z)) (show _ = bi (isLt c) from ?_), rfl⟩
      unfold isAn at c4
      first
      | (rw [bi_t (by unfold isLt; omega)]; rfl)
      | (rw [bi_f (by unfold isLt; omega)]; rfl)
    ·
      refine g_iload_n (pc' := 14) dX12_isValue_13 rfl rfl ?_
      refine g_bipushN (n := 101) (pc' := 16) dX12_isValue_14 rfl (by decide) ?_
      refine g_icmp_eqN (tgt := 61) (pc' := 19) dX12_isValue_16 rfl (by decide) (by omega) (by omega) (fun c16 => ?_) (fun c16 => ?_)
      ·
        refine g_iconstN (n := 1) (pc' := 62) dX12_isValue_61 rfl ?_
        refine g_goto (tgt := 66) dX12_isValue_62 (by decide) ?_
        refine g_zret dX12_isValue_66 rfl (by rfl) (by decide) (by decide) ?_
        refine ⟨congrArg (fun z : Int32 => some (vI z)) (show _ = bi (isLt c) from ?_), rfl⟩
        unfold isAn at c4
        first
        | (rw [bi_t (by unfold isLt; omega)]; rfl)
        | (rw [bi_f (by unfold isLt; omega)]; rfl)
      ·
        refine g_iload_n (pc' := 20) dX12_isValue_19 rfl rfl ?_
        refine g_bipushN (n := 118) (pc' := 22) dX12_isValue_20 rfl (by decide) ?_
        refine g_icmp_eqN (tgt := 61) (pc' := 25) dX12_isValue_22 rfl (by decide) (by omega) (by omega) (fun c22 => ?_) (fun c22 => ?_)
        ·
          refine g_iconstN (n := 1) (pc' := 62) dX12_isValue_61 rfl ?_
          refine g_goto (tgt := 66) dX12_isValue_62 (by decide) ?_
          refine g_zret dX12_isValue_66 rfl (by rfl) (by decide) (by decide) ?_
          refine ⟨congrArg (fun z : Int32 => some (vI z)) (show _ = bi (isLt c) from ?_), rfl⟩
          unfold isAn at c4
          first
          | (rw [bi_t (by unfold isLt; omega)]; rfl)
          | (rw [bi_f (by unfold isLt; omega)]; rfl)
        ·
          refine g_iload_n (pc' := 26) dX12_isValue_25 rfl rfl ?_
          refine g_bipushN (n := 104) (pc' := 28) dX12_isValue_26 rfl (by decide) ?_
          refine g_icmp_eqN (tgt := 61) (pc' := 31) dX12_isValue_28 rfl (by decide) (by omega) (by omega) (fun c28 => ?_) (fun c28 => ?_)
          ·
            refine g_iconstN (n := 1) (pc' := 62) dX12_isValue_61 rfl ?_
            refine g_goto (tgt := 66) dX12_isValue_62 (by decide) ?_
            refine g_zret dX12_isValue_66 rfl (by rfl) (by decide) (by decide) ?_
            refine ⟨congrArg (fun z : Int32 => some (vI z)) (show _ = bi (isLt c) from ?_), rfl⟩
            unfold isAn at c4
            first
            | (rw [bi_t (by unfold isLt; omega)]; rfl)
            | (rw [bi_f (by unfold isLt; omega)]; rfl)
          ·
            refine g_iload_n (pc' := 32) dX12_isValue_31 rfl rfl ?_
            refine g_bipushN (n := 100) (pc' := 34) dX12_isValue_32 rfl (by decide) ?_
            refine g_icmp_eqN (tgt := 61) (pc' := 37) dX12_isValue_34 rfl (by decide) (by omega) (by omega) (fun c34 => ?_) (fun c34 => ?_)
            ·
              refine g_iconstN (n := 1) (pc' := 62) dX12_isValue_61 rfl ?_
              refine g_goto (tgt := 66) dX12_isValue_62 (by decide) ?_
              refine g_zret dX12_isValue_66 rfl (by rfl) (by decide) (by decide) ?_
              refine ⟨congrArg (fun z : Int32 => some (vI z)) (show _ = bi (isLt c) from ?_), rfl⟩
              unfold isAn at c4
              first
              | (rw [bi_t (by unfold isLt; omega)]; rfl)
              | (rw [bi_f (by unfold isLt; omega)]; rfl)
            ·
              refine g_iload_n (pc' := 38) dX12_isValue_37 rfl rfl ?_
              refine g_bipushN (n := 115) (pc' := 40) dX12_isValue_38 rfl (by decide) ?_
              refine g_icmp_eqN (tgt := 61) (pc' := 43) dX12_isValue_40 rfl (by decide) (by omega) (by omega) (fun c40 => ?_) (fun c40 => ?_)
              ·
                refine g_iconstN (n := 1) (pc' := 62) dX12_isValue_61 rfl ?_
                refine g_goto (tgt := 66) dX12_isValue_62 (by decide) ?_
                refine g_zret dX12_isValue_66 rfl (by rfl) (by decide) (by decide) ?_
                refine ⟨congrArg (fun z : Int32 => some (vI z)) (show _ = bi (isLt c) from ?_), rfl⟩
                unfold isAn at c4
                first
                | (rw [bi_t (by unfold isLt; omega)]; rfl)
                | (rw [bi_f (by unfold isLt; omega)]; rfl)
              ·
                refine g_iload_n (pc' := 44) dX12_isValue_43 rfl rfl ?_
                refine g_bipushN (n := 108) (pc' := 46) dX12_isValue_44 rfl (by decide) ?_
                refine g_icmp_eqN (tgt := 61) (pc' := 49) dX12_isValue_46 rfl (by decide) (by omega) (by omega) (fun c46 => ?_) (fun c46 => ?_)
                ·
                  refine g_iconstN (n := 1) (pc' := 62) dX12_isValue_61 rfl ?_
                  refine g_goto (tgt := 66) dX12_isValue_62 (by decide) ?_
                  refine g_zret dX12_isValue_66 rfl (by rfl) (by decide) (by decide) ?_
                  refine ⟨congrArg (fun z : Int32 => some (vI z)) (show _ = bi (isLt c) from ?_), rfl⟩
                  unfold isAn at c4
                  first
                  | (rw [bi_t (by unfold isLt; omega)]; rfl)
                  | (rw [bi_f (by unfold isLt; omega)]; rfl)
                ·
                  refine g_iload_n (pc' := 50) dX12_isValue_49 rfl rfl ?_
                  refine g_bipushN (n := 113) (pc' := 52) dX12_isValue_50 rfl (by decide) ?_
                  refine g_icmp_eqN (tgt := 61) (pc' := 55) dX12_isValue_52 rfl (by decide) (by omega) (by omega) (fun c52 => ?_) (fun c52 => ?_)
                  ·
                    refine g_iconstN (n := 1) (pc' := 62) dX12_isValue_61 rfl ?_
                    refine g_goto (tgt := 66) dX12_isValue_62 (by decide) ?_
                    refine g_zret dX12_isValue_66 rfl (by rfl) (by decide) (by decide) ?_
                    refine ⟨congrArg (fun z : Int32 => some (vI z)) (show _ = bi (isLt c) from ?_), rfl⟩
                    unfold isAn at c4
                    first
                    | (rw [bi_t (by unfold isLt; omega)]; rfl)
                    | (rw [bi_f (by unfold isLt; omega)]; rfl)
                  ·
                    refine g_iload_n (pc' := 56) dX12_isValue_55 rfl rfl ?_
                    refine g_bipushN (n := 99) (pc' := 58) dX12_isValue_56 rfl (by decide) ?_
                    refine g_icmp_neN (tgt := 65) (pc' := 61) dX12_isValue_58 rfl (by decide) (by omega) (by omega) (fun c58 => ?_) (fun c58 => ?_)
                    ·
                      refine g_iconstN (n := 0) (pc' := 66) dX12_isValue_65 rfl ?_
                      refine g_zret dX12_isValue_66 rfl (by rfl) (by decide) (by decide) ?_
                      refine ⟨congrArg (fun z : Int32 => some (vI z)) (show _ = bi (isLt c) from ?_), rfl⟩
                      unfold isAn at c4
                      first
                      | (rw [bi_t (by unfold isLt; omega)]; rfl)
                      | (rw [bi_f (by unfold isLt; omega)]; rfl)
                    ·
                      refine g_iconstN (n := 1) (pc' := 62) dX12_isValue_61 rfl ?_
                      refine g_goto (tgt := 66) dX12_isValue_62 (by decide) ?_
                      refine g_zret dX12_isValue_66 rfl (by rfl) (by decide) (by decide) ?_
                      refine ⟨congrArg (fun z : Int32 => some (vI z)) (show _ = bi (isLt c) from ?_), rfl⟩
                      unfold isAn at c4
                      first
                      | (rw [bi_t (by unfold isLt; omega)]; rfl)
                      | (rw [bi_f (by unfold isLt; omega)]; rfl)
set_option maxRecDepth 4000 in
theorem cm_isVn {E : En} (hok : EOK E) {h : Hp} {c : Nat} (hc : c < 256) : Fn E m_X12_hasSum 0 [vI (nI c)] h (vI (bi (isVn c))) := by
  refine Call.enter hok (by decide) (Nat.le_of_ble_eq_true rfl) ?_
  show G E m_X12_hasSum 0 0 0 _ h 0 [some (vI (nI c))] [] h 0 0
  refine g_iload_n (pc' := 1) dX12_hasSum_0 rfl rfl ?_
  refine g_bipushN (n := 100) (pc' := 3) dX12_hasSum_1 rfl (by decide) ?_
  refine g_icmp_eqN (tgt := 24) (pc' := 6) dX12_hasSum_3 rfl (by decide) (by omega) (by omega) (fun c3 => ?_) (fun c3 => ?_)
  ·
    refine g_iconstN (n := 1) (pc' := 25) dX12_hasSum_24 rfl ?_
    refine g_goto (tgt := 29) dX12_hasSum_25 (by decide) ?_
    refine g_zret dX12_hasSum_29 rfl (by rfl) (by decide) (by decide) ?_
    refine ⟨congrArg (fun z : Int32 => some (vI z)) (show _ = bi (isVn c) from ?_), rfl⟩
    first
    | (rw [bi_t (by unfold isVn; omega)]; rfl)
    | (rw [bi_f (by unfold isVn; omega)]; rfl)
  ·
    refine g_iload_n (pc' := 7) dX12_hasSum_6 rfl rfl ?_
    refine g_bipushN (n := 102) (pc' := 9) dX12_hasSum_7 rfl (by decide) ?_
    refine g_icmp_eqN (tgt := 24) (pc' := 12) dX12_hasSum_9 rfl (by decide) (by omega) (by omega) (fun c9 => ?_) (fun c9 => ?_)
    ·
      refine g_iconstN (n := 1) (pc' := 25) dX12_hasSum_24 rfl ?_
      refine g_goto (tgt := 29) dX12_hasSum_25 (by decide) ?_
      refine g_zret dX12_hasSum_29 rfl (by rfl) (by decide) (by decide) ?_
      refine ⟨congrArg (fun z : Int32 => some (vI z)) (show _ = bi (isVn c) from ?_), rfl⟩
      first
      | (rw [bi_t (by unfold isVn; omega)]; rfl)
      | (rw [bi_f (by unfold isVn; omega)]; rfl)
    ·
      refine g_iload_n (pc' := 13) dX12_hasSum_12 rfl rfl ?_
      refine g_bipushN (n := 112) (pc' := 15) dX12_hasSum_13 rfl (by decide) ?_
      refine g_icmp_eqN (tgt := 24) (pc' := 18) dX12_hasSum_15 rfl (by decide) (by omega) (by omega) (fun c15 => ?_) (fun c15 => ?_)
      ·
        refine g_iconstN (n := 1) (pc' := 25) dX12_hasSum_24 rfl ?_
        refine g_goto (tgt := 29) dX12_hasSum_25 (by decide) ?_
        refine g_zret dX12_hasSum_29 rfl (by rfl) (by decide) (by decide) ?_
        refine ⟨congrArg (fun z : Int32 => some (vI z)) (show _ = bi (isVn c) from ?_), rfl⟩
        first
        | (rw [bi_t (by unfold isVn; omega)]; rfl)
        | (rw [bi_f (by unfold isVn; omega)]; rfl)
      ·
        refine g_iload_n (pc' := 19) dX12_hasSum_18 rfl rfl ?_
        refine g_bipushN (n := 110) (pc' := 21) dX12_hasSum_19 rfl (by decide) ?_
        refine g_icmp_neN (tgt := 28) (pc' := 24) dX12_hasSum_21 rfl (by decide) (by omega) (by omega) (fun c21 => ?_) (fun c21 => ?_)
        ·
          refine g_iconstN (n := 0) (pc' := 29) dX12_hasSum_28 rfl ?_
          refine g_zret dX12_hasSum_29 rfl (by rfl) (by decide) (by decide) ?_
          refine ⟨congrArg (fun z : Int32 => some (vI z)) (show _ = bi (isVn c) from ?_), rfl⟩
          first
          | (rw [bi_t (by unfold isVn; omega)]; rfl)
          | (rw [bi_f (by unfold isVn; omega)]; rfl)
        ·
          refine g_iconstN (n := 1) (pc' := 25) dX12_hasSum_24 rfl ?_
          refine g_goto (tgt := 29) dX12_hasSum_25 (by decide) ?_
          refine g_zret dX12_hasSum_29 rfl (by rfl) (by decide) (by decide) ?_
          refine ⟨congrArg (fun z : Int32 => some (vI z)) (show _ = bi (isVn c) from ?_), rfl⟩
          first
          | (rw [bi_t (by unfold isVn; omega)]; rfl)
          | (rw [bi_f (by unfold isVn; omega)]; rfl)
def RdQ (b : Nat → Nat) (p : Nat) (h : Hp) (r : Option V) (h' : Hp) : Prop := (fun r h' => (¬ dgt (b (numS b 5 p 0).1) → r = some (vI (nI (numS b 5 p 0).2)) ∧ h' = wI h MO 43 (nI (numS b 5 p 0).1)) ∧ (dgt (b (numS b 5 p 0).1) → (∃ v, r = some (vI v)) ∧ h' = wI (wI h MO 45 (bdv 2 (numS b 5 p 0).1)) MO 43 (nI ((numS b 5 p 0).1 + 1)))) r h'
theorem wI_wI (h : Hp) (a : Ad) (j : Nat) (x z : Int32) : wI (wI h a j x) a j z = wI h a j z := by
  unfold wI
  refine Prod.ext (funext fun q => ?_) rfl
  show (if q = a then upd ((if a = a then upd (h.1 a) j x else h.1 a)) j z else (if q = a then upd (h.1 a) j x else h.1 q)) = (if q = a then upd (h.1 a) j z else h.1 q)
  by_cases e : q = a
  · rw [if_pos e, if_pos e, if_pos rfl]
    funext i
    unfold upd
    by_cases f : i = j
    · rw [if_pos f, if_pos f]
    · rw [if_neg f, if_neg f, if_neg f]
  · rw [if_neg e, if_neg e, if_neg e]
theorem wI_cm (h : Hp) (a : Ad) {j k : Nat} (x z : Int32) (hjk : j ≠ k) : wI (wI h a j x) a k z = wI (wI h a k z) a j x := by
  refine Prod.ext (funext fun q => funext fun i => ?_) rfl
  rw [wI_at, wI_at, wI_at, wI_at]
  by_cases e : q = a
  · by_cases f : i = k
    · rw [if_pos ⟨e, f⟩, if_neg (fun y => hjk (y.2.symm.trans f)), if_pos ⟨e, f⟩]
    · rw [if_neg (fun y => f y.2)]
      by_cases g : i = j
      · rw [if_pos ⟨e, g⟩, if_pos ⟨e, g⟩]
      · rw [if_neg (fun y => g y.2), if_neg (fun y => g y.2), if_neg (fun y => f y.2)]
  · rw [if_neg (fun y => e y.1), if_neg (fun y => e y.1), if_neg (fun y => e y.1), if_neg (fun y => e y.1)]
theorem wI_id (h : Hp) (a : Ad) (j : Nat) (x : Int32) (e : h.1 a j = x) : wI h a j x = h := by
  unfold wI
  refine Prod.ext (funext fun q => ?_) rfl
  show (if q = a then upd (h.1 a) j x else h.1 q) = h.1 q
  by_cases f : q = a
  · rw [if_pos f, f]
    funext i
    unfold upd
    by_cases g : i = j
    · rw [if_pos g, g]; exact e.symm
    · rw [if_neg g]
  · rw [if_neg f]
set_option maxRecDepth 4000 in
theorem rd_loop2 {E : En} (hok : EOK E) {b : Nat → Nat} {n p : Nat} {h h0 : Hp} (hb : HB b n) (hp : p < n) (hd : dgt (b p)) {Q : Option V → Hp → Prop} (ht : RT b n h) (hg : h.1 MO 45 = 0) (hQ : ∀ r h2, RdQ b p h r h2 → Q r h2) : ∀ (j q v : Nat), p ≤ q → q + j = p + 5 → q ≤ n → (p = q → j = 5) → numS b j q v = numS b 5 p 0 → G E m_X12_reads 2 0 0 Q h0 7 [some (vR MO), some (vI (nI p)), some (vI (nI v))] [] (wI h MO 43 (nI q)) 0 0 := by
  have hn := hb.1
  intro j
  induction j with
  | zero =>
    intro q v hpq hj hq hz hN
    have hg : (wI h MO 43 (nI q)).1 MO 45 = 0 := hg
    have eN : numS b 5 p 0 = (q, v) := hN.symm
    refine g_aload_n (pc' := 8) dX12_reads_7 rfl rfl ?_
    refine g_invV (pc' := 11) (cm_good hok hg) dX12_reads_8 rfl rfl ck_13 rfl ml_X12_271 im_X12_isGood sl_X12_isGood in_X12 co_X12_isGood pd_X12_isGood rfl (by omega) (by decide) ⟨by decide, by decide⟩ (Nat.le_of_ble_eq_true rfl) ?_
    rintro _ _ ⟨rfl, rfl⟩ -
    refine g_if_eqN (tgt := 66) (pc' := 14) dX12_reads_11 rfl (by decide) (by decide) (fun q => False.elim (by revert q; decide)) (fun _ => ?_)
    refine g_aload_n (pc' := 15) dX12_reads_14 rfl rfl ?_
    refine g_invV (pc' := 18) (cm_sees (h := (wI h MO 43 (nI q))) (p := q) hok hb ht rfl (by omega)) dX12_reads_15 rfl rfl ck_13 rfl ml_X12_299 im_X12_seesDigit sl_X12_seesDigit in_X12 co_X12_seesDigit pd_X12_seesDigit rfl (by omega) (by decide) ⟨by decide, by decide⟩ (Nat.le_of_ble_eq_true rfl) ?_
    rintro _ _ ⟨rfl, rfl⟩ -
    refine g_ifB_eq (tgt := 66) (pc' := 21) dX12_reads_18 rfl (by decide) (fun c18 => ?_) (fun c18 => ?_)
    ·
      refine g_iload_n (pc' := 67) dX12_reads_66 rfl rfl ?_
      refine g_iret dX12_reads_67 rfl (by decide) (by decide) ?_
      refine hQ _ _ ⟨fun _ => ?_, fun z => ?_⟩
      · rw [eN]; exact ⟨rfl, rfl⟩
      · rw [eN] at z; exact absurd z c18
    ·
      have hdg : 48 ≤ b q := c18.1
      refine g_aload_n (pc' := 22) dX12_reads_21 rfl rfl ?_
      refine g_getIv (v := nI (q)) (pc' := 25) (k := 43) dX12_reads_22 rfl rfl ck_13 (by decide) fl_X12_262 rfl (rfl) ?_
      refine g_iload_n (pc' := 26) dX12_reads_25 rfl rfl ?_
      refine g_iconstN (n := 5) (pc' := 27) dX12_reads_26 rfl ?_
      refine g_iaddN (pc' := 28) dX12_reads_27 rfl ?_
      refine g_icmp_neN (tgt := 40) (pc' := 31) dX12_reads_28 rfl (by decide) (by omega) (by omega) (fun c28 => ?_) (fun c28 => ?_)
      · exact absurd (by omega) c28
      ·
        refine g_aload_n (pc' := 32) dX12_reads_31 rfl rfl ?_
        refine g_iconstN (n := 2) (pc' := 33) dX12_reads_32 rfl ?_
        refine g_aload_n (pc' := 34) dX12_reads_33 rfl rfl ?_
        refine g_getIv (v := nI (q)) (pc' := 37) (k := 43) dX12_reads_34 rfl rfl ck_13 (by decide) fl_X12_262 rfl (rfl) ?_
        refine g_invV (pc' := 40) (cm_wrong (h := (wI h MO 43 (nI q))) hok hg 2 q) dX12_reads_37 rfl rfl ck_13 rfl ml_X12_284 im_X12_wrongs sl_X12_wrongs in_X12 co_X12_wrongs pd_X12_wrongs rfl (by omega) (by decide) ⟨by decide, by decide⟩ (Nat.le_of_ble_eq_true rfl) ?_
        rintro _ _ ⟨rfl, rfl⟩ -
        have ht : RT b n (wI (wI h MO 43 (nI q)) MO 45 (bdv 2 q)) := ht
        refine g_bipushN (n := 10) (pc' := 42) dX12_reads_40 rfl (by decide) ?_
        refine g_iload_n (pc' := 43) dX12_reads_42 rfl rfl ?_
        refine g_imulN (pc' := 44) dX12_reads_43 rfl ?_
        refine g_aload_n (pc' := 45) dX12_reads_44 rfl rfl ?_
        refine g_invV (pc' := 48) (cm_here (h := wI (wI h MO 43 (nI q)) MO 45 (bdv 2 q)) (p := q) hok hb ht rfl (by omega)) dX12_reads_45 rfl rfl ck_13 rfl ml_X12_288 im_X12_here sl_X12_here in_X12 co_X12_here pd_X12_here rfl (by omega) (by decide) ⟨by decide, by decide⟩ (Nat.le_of_ble_eq_true rfl) ?_
        rintro _ _ ⟨rfl, rfl⟩ -
        refine g_iaddN (pc' := 49) dX12_reads_48 rfl ?_
        refine g_bipushN (n := 48) (pc' := 51) dX12_reads_49 rfl (by decide) ?_
        refine g_isubN (pc' := 52) dX12_reads_51 rfl (by omega) ?_
        refine g_istore_n (pc' := 53) dX12_reads_52 rfl (by decide) rfl ?_
        try simp only [List.set]
        refine g_aload_n (pc' := 54) dX12_reads_53 rfl rfl ?_
        refine g_dup (pc' := 55) dX12_reads_54 rfl rfl ?_
        refine g_getIv (v := nI (q)) (pc' := 58) (k := 43) dX12_reads_55 rfl rfl ck_13 (by decide) fl_X12_262 rfl (rfl) ?_
        refine g_iconstN (n := 1) (pc' := 59) dX12_reads_58 rfl ?_
        refine g_iaddN (pc' := 60) dX12_reads_59 rfl ?_
        refine g_putI (pc' := 63) (k := 43) dX12_reads_60 rfl rfl ck_13 (by decide) fl_X12_262 rfl rfl rfl rfl ?_
        refine g_goto (tgt := 7) dX12_reads_63 (by decide) ?_
        refine g_aload_n (pc' := 8) dX12_reads_7 rfl rfl ?_
        refine g_invV (pc' := 11) (cm_bad hok (by rw [wI_f (by decide), wI_same]; exact bdv_ne (by decide) (by decide) (by omega))) dX12_reads_8 rfl rfl ck_13 rfl ml_X12_271 im_X12_isGood sl_X12_isGood in_X12 co_X12_isGood pd_X12_isGood rfl (by omega) (by decide) ⟨by decide, by decide⟩ (Nat.le_of_ble_eq_true rfl) ?_
        rintro _ _ ⟨rfl, rfl⟩ -
        refine g_if_eqN (tgt := 66) (pc' := 14) dX12_reads_11 rfl (by decide) (by decide) (fun _ => ?_) (fun q => False.elim (by revert q; decide))
        refine g_iload_n (pc' := 67) dX12_reads_66 rfl rfl ?_
        refine g_iret dX12_reads_67 rfl (by decide) (by decide) ?_
        refine hQ _ _ ⟨fun z => ?_, fun z => ⟨⟨_, rfl⟩, ?_⟩⟩
        · rw [eN] at z; exact absurd c18 z
        · rw [eN, wI_cm h MO (nI q) (bdv 2 q) (show (43 : Nat) ≠ 45 by decide), wI_wI]
  | succ j ih =>
    intro q v hpq hj hq hz hN
    have hg : (wI h MO 43 (nI q)).1 MO 45 = 0 := hg
    refine g_aload_n (pc' := 8) dX12_reads_7 rfl rfl ?_
    refine g_invV (pc' := 11) (cm_good hok hg) dX12_reads_8 rfl rfl ck_13 rfl ml_X12_271 im_X12_isGood sl_X12_isGood in_X12 co_X12_isGood pd_X12_isGood rfl (by omega) (by decide) ⟨by decide, by decide⟩ (Nat.le_of_ble_eq_true rfl) ?_
    rintro _ _ ⟨rfl, rfl⟩ -
    refine g_if_eqN (tgt := 66) (pc' := 14) dX12_reads_11 rfl (by decide) (by decide) (fun q => False.elim (by revert q; decide)) (fun _ => ?_)
    refine g_aload_n (pc' := 15) dX12_reads_14 rfl rfl ?_
    refine g_invV (pc' := 18) (cm_sees (h := (wI h MO 43 (nI q))) (p := q) hok hb ht rfl (by omega)) dX12_reads_15 rfl rfl ck_13 rfl ml_X12_299 im_X12_seesDigit sl_X12_seesDigit in_X12 co_X12_seesDigit pd_X12_seesDigit rfl (by omega) (by decide) ⟨by decide, by decide⟩ (Nat.le_of_ble_eq_true rfl) ?_
    rintro _ _ ⟨rfl, rfl⟩ -
    refine g_ifB_eq (tgt := 66) (pc' := 21) dX12_reads_18 rfl (by decide) (fun c18 => ?_) (fun c18 => ?_)
    ·
      refine g_iload_n (pc' := 67) dX12_reads_66 rfl rfl ?_
      refine g_iret dX12_reads_67 rfl (by decide) (by decide) ?_
      have ne : p ≠ q := fun z => by subst z; exact c18 hd
      have eN : numS b 5 p 0 = (q, v) := hN.symm.trans (cif_f c18)
      refine hQ _ _ ⟨fun _ => ?_, fun z => ?_⟩
      · rw [eN]; exact ⟨rfl, rfl⟩
      · rw [eN] at z; exact absurd z c18
    ·
      have hdg : 48 ≤ b q := c18.1
      have hlt := hb.lt (dgt_ne c18)
      refine g_aload_n (pc' := 22) dX12_reads_21 rfl rfl ?_
      refine g_getIv (v := nI (q)) (pc' := 25) (k := 43) dX12_reads_22 rfl rfl ck_13 (by decide) fl_X12_262 rfl (rfl) ?_
      refine g_iload_n (pc' := 26) dX12_reads_25 rfl rfl ?_
      refine g_iconstN (n := 5) (pc' := 27) dX12_reads_26 rfl ?_
      refine g_iaddN (pc' := 28) dX12_reads_27 rfl ?_
      refine g_icmp_neN (tgt := 40) (pc' := 31) dX12_reads_28 rfl (by decide) (by omega) (by omega) (fun c28 => ?_) (fun c28 => ?_)
      ·
        refine g_bipushN (n := 10) (pc' := 42) dX12_reads_40 rfl (by decide) ?_
        refine g_iload_n (pc' := 43) dX12_reads_42 rfl rfl ?_
        refine g_imulN (pc' := 44) dX12_reads_43 rfl ?_
        refine g_aload_n (pc' := 45) dX12_reads_44 rfl rfl ?_
        refine g_invV (pc' := 48) (cm_here (h := (wI h MO 43 (nI q))) (p := q) hok hb ht rfl (by omega)) dX12_reads_45 rfl rfl ck_13 rfl ml_X12_288 im_X12_here sl_X12_here in_X12 co_X12_here pd_X12_here rfl (by omega) (by decide) ⟨by decide, by decide⟩ (Nat.le_of_ble_eq_true rfl) ?_
        rintro _ _ ⟨rfl, rfl⟩ -
        refine g_iaddN (pc' := 49) dX12_reads_48 rfl ?_
        refine g_bipushN (n := 48) (pc' := 51) dX12_reads_49 rfl (by decide) ?_
        refine g_isubN (pc' := 52) dX12_reads_51 rfl (by omega) ?_
        refine g_istore_n (pc' := 53) dX12_reads_52 rfl (by decide) rfl ?_
        try simp only [List.set]
        refine g_aload_n (pc' := 54) dX12_reads_53 rfl rfl ?_
        refine g_dup (pc' := 55) dX12_reads_54 rfl rfl ?_
        refine g_getIv (v := nI (q)) (pc' := 58) (k := 43) dX12_reads_55 rfl rfl ck_13 (by decide) fl_X12_262 rfl (rfl) ?_
        refine g_iconstN (n := 1) (pc' := 59) dX12_reads_58 rfl ?_
        refine g_iaddN (pc' := 60) dX12_reads_59 rfl ?_
        refine g_putI (pc' := 63) (k := 43) dX12_reads_60 rfl rfl ck_13 (by decide) fl_X12_262 rfl rfl rfl rfl ?_
        refine g_goto (tgt := 7) dX12_reads_63 (by decide) ?_
        have eN : numS b (j + 1) q v = numS b j (q + 1) (10 * v + b q - 48) := cif_t c18
        have qq := ih (q + 1) (10 * v + b q - 48) (by omega) (by omega) (by omega) (by omega) (eN.symm.trans hN)
        rw [wI_wI]
        exact qq
      · exact absurd c28 (by omega)
set_option maxRecDepth 4000 in
theorem cm_reads {E : En} (hok : EOK E) {h : Hp} {b : Nat → Nat} {n p : Nat} (hb : HB b n) (ht : RT b n h) (h43 : h.1 MO 43 = nI p) (hg : h.1 MO 45 = 0) (hd : dgt (b p)) : Call E m_X12_reads 2 0 0 [vR MO] h (RdQ b p h) := by
  have hlt := hb.lt (dgt_ne hd)
  refine Call.enter hok (by decide) (Nat.le_of_ble_eq_true rfl) ?_
  show G E m_X12_reads 2 0 0 _ h 0 [some (vR MO), none, none] [] h 0 0
  refine g_aload_n (pc' := 1) dX12_reads_0 rfl rfl ?_
  refine g_getIv (v := nI (p)) (pc' := 4) (k := 43) dX12_reads_1 rfl rfl ck_13 (by decide) fl_X12_262 rfl (h43) ?_
  refine g_istore_n (pc' := 5) dX12_reads_4 rfl (by decide) rfl ?_
  try simp only [List.set]
  refine g_iconstN (n := 0) (pc' := 6) dX12_reads_5 rfl ?_
  refine g_istore_n (pc' := 7) dX12_reads_6 rfl (by decide) rfl ?_
  try simp only [List.set]
  have q := rd_loop2 (h := h) (h0 := h) hok hb hlt hd ht hg (fun r h2 z => z) 5 p 0 (Nat.le_refl _) rfl (by omega) (fun _ => rfl) rfl
  rw [wI_id h MO 43 (nI p) h43] at q
  exact q
