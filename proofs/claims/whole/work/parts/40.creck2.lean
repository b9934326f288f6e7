/-- what the class's reckoning stands on: its text's steps and operands, its letters -/
def Rq (s p : Nat → Int32) (e : Nat → Int32) (ti : Nat) (h : Hp) : Prop := Shp h.2 ∧ h.2.1 (7, 0) 2 = some (6, ti) ∧ (∀ i, h.1 (35, ti) i = s i) ∧ (∀ i, h.1 (36, ti) i = p i) ∧ ∀ l, isLt l → h.1 (42, 0) (l - 97) = e l
theorem ad_ne {a b : Ad} (q : a.1 ≠ b.1) : a ≠ b := fun z => q (congrArg Prod.fst z)
theorem Rq.rk {s p e : Nat → Int32} {ti a : Nat} {h h' : Hp} (q : Rq s p e ti h) (k : Rk a h h') : Rq s p e ti h' := ⟨by rw [k.1]; exact q.1, by rw [k.1]; exact q.2.1, fun i => by rw [k.2.1 (35, ti) (ad_ne (show (35 : Nat) ≠ 7 by decide)) (ad_ne (show (35 : Nat) ≠ 43 by decide))]; exact q.2.2.1 i, fun i => by rw [k.2.1 (36, ti) (ad_ne (show (36 : Nat) ≠ 7 by decide)) (ad_ne (show (36 : Nat) ≠ 43 by decide))]; exact q.2.2.2.1 i, fun l hl => by rw [k.2.1 (42, 0) (by decide) (by decide)]; exact q.2.2.2.2 l hl⟩
theorem mx_n {i j : Nat} (q : i ≤ j) (hj : j < 2 ^ 31) : (if nI i < nI j then nI j else nI i) = nI j := by
  by_cases z : nI i < nI j
  · rw [if_pos z]
  · rw [if_neg z]
    have : ¬ i < j := fun w => z ((nI_ltI (by omega) hj).mpr w)
    have e : i = j := by omega
    rw [e]
abbrev WC (E : En) (d : Nat) (Q : Option V → Hp → Prop) (h0 : Hp) (T i : Nat) (h : Hp) : Prop := G E m_X5_result d 0 0 Q h0 16 [some (vR (7, 0)), none, some (vI (nI T)), some (vI (nI i)), none, none, none] [] h 0 0
abbrev WXc (E : En) (d : Nat) (Q : Option V → Hp → Prop) (h0 : Hp) (h : Hp) : Prop := G E m_X5_result d 0 0 Q h0 142 [some (vR (7, 0)), none, none, none, none, none, none] [] h 0 0
def Kn (E : En) (d : Nat) (Q : Option V → Hp → Prop) (h0 : Hp) (T j : Nat) (v : Option Int32) (h : Hp) : Prop := match v with
  | some _ => WC E d Q h0 T j h
  | none => WXc E d Q h0 h
set_option maxRecDepth 4000 in
theorem rc_exit {E : En} (hok : EOK E) {h h0 : Hp} {d : Nat} {Q : Option V → Hp → Prop} {T i : Nat} (hT : T < 2 ^ 31) (hi : i < 2 ^ 31) (h4 : ¬ h.1 (7, 0) 4 = 0) (K : WXc E d Q h0 h) : WC E d Q h0 T i h := by
  refine g_iload_n (pc' := 17) dX5_result_16 rfl rfl ?_
  refine g_iload_n (pc' := 18) dX5_result_17 rfl rfl ?_
  refine g_icmp_geN (tgt := 142) (pc' := 21) dX5_result_18 rfl (by decide) (by omega) (by omega) (fun c18 => ?_) (fun c18 => ?_)
  ·
    refine G.drop 2 ?_
    refine G.drop 3 ?_
    simp only [List.set]
    exact K
  ·
    refine g_iload_n (pc' := 22) dX5_result_21 rfl rfl ?_
    refine g_sipushN (n := 200) (pc' := 25) dX5_result_22 rfl (by decide) ?_
    refine g_icmp_geN (tgt := 142) (pc' := 28) dX5_result_25 rfl (by decide) (by omega) (by omega) (fun c25 => ?_) (fun c25 => ?_)
    ·
      refine G.drop 2 ?_
      refine G.drop 3 ?_
      simp only [List.set]
      exact K
    ·
      refine g_aload_n (pc' := 29) dX5_result_28 rfl rfl ?_
      refine g_getI (pc' := 32) (k := 4) dX5_result_29 rfl rfl ck_6 (by decide) fl_X5_60 rfl ?_
      refine g_if_ne (tgt := 142) (pc' := 35) dX5_result_32 rfl (by decide) (fun c32 => ?_) (fun c32 => ?_)
      ·
        refine G.drop 2 ?_
        refine G.drop 3 ?_
        simp only [List.set]
        exact K
      · exact absurd c32 h4
set_option maxRecDepth 4000 in
theorem rc_take_48 {E : En} (hok : EOK E) {h h0 : Hp} (hs : Shp h.2) {d : Nat} (hd : 2 ≤ d) {Q : Option V → Hp → Prop} {T i a ti : Nat} (htx : h.2.1 (7, 0) 2 = some (6, ti)) (hT : T ≤ 200) (hi : i < T) (h4 : h.1 (7, 0) 4 = 0) {x : Int32} (hst : h.1 (35, ti) i = nI 48) (hop : h.1 (36, ti) i = x) {v : Option Int32} (hD : Call E m_X5_take 1 0 0 [vR (7, 0), vI (nI 48), vI x] h (fun r h' => r = none ∧ Rk a h h' ∧ RV h' a v)) (K : ∀ h', Rk a h h' → RV h' a v → Kn E d Q h0 T (i + 1) v h') : WC E d Q h0 T i h := by
  refine g_iload_n (pc' := 17) dX5_result_16 rfl rfl ?_
  refine g_iload_n (pc' := 18) dX5_result_17 rfl rfl ?_
  refine g_icmp_geN (tgt := 142) (pc' := 21) dX5_result_18 rfl (by decide) (by omega) (by omega) (fun c18 => ?_) (fun c18 => ?_)
  · exact absurd c18 (by omega)
  ·
    refine g_iload_n (pc' := 22) dX5_result_21 rfl rfl ?_
    refine g_sipushN (n := 200) (pc' := 25) dX5_result_22 rfl (by decide) ?_
    refine g_icmp_geN (tgt := 142) (pc' := 28) dX5_result_25 rfl (by decide) (by omega) (by omega) (fun c25 => ?_) (fun c25 => ?_)
    · exact absurd c25 (by omega)
    ·
      refine g_aload_n (pc' := 29) dX5_result_28 rfl rfl ?_
      refine g_getIv (v := 0) (pc' := 32) (k := 4) dX5_result_29 rfl rfl ck_6 (by decide) fl_X5_60 rfl (h4) ?_
      refine g_if_ne (tgt := 142) (pc' := 35) dX5_result_32 rfl (by decide) (fun c32 => ?_) (fun c32 => ?_)
      · exact absurd rfl c32
      ·
        refine g_aload_n (pc' := 36) dX5_result_35 rfl rfl ?_
        refine g_getR (pc' := 39) (k := 2) (r := some (6, ti)) dX5_result_36 rfl rfl ck_6 (by decide) fl_X5_9 rfl (htx) ?_
        refine g_getS (pc' := 42) (k := 0) (b := (35, ti)) dX5_result_39 rfl rfl ck_7 (by decide) fl_X5_67 rfl hs rfl ?_
        refine g_iload_n (pc' := 43) dX5_result_42 rfl rfl ?_
        refine g_ialdN (pc' := 44) (v := nI 48) dX5_result_43 rfl rfl (by decide) (by omega) (hst) ?_
        refine g_istore (pc' := 46) dX5_result_44 rfl (by decide) rfl ?_
        try simp only [List.set]
        refine g_aload_n (pc' := 47) dX5_result_46 rfl rfl ?_
        refine g_getR (pc' := 50) (k := 2) (r := some (6, ti)) dX5_result_47 rfl rfl ck_6 (by decide) fl_X5_9 rfl (htx) ?_
        refine g_getS (pc' := 53) (k := 1) (b := (36, ti)) dX5_result_50 rfl rfl ck_7 (by decide) fl_X5_70 rfl hs rfl ?_
        refine g_iload_n (pc' := 54) dX5_result_53 rfl rfl ?_
        refine g_ialdN (pc' := 55) (v := x) dX5_result_54 rfl rfl (by decide) (by omega) (hop) ?_
        refine g_istore (pc' := 57) dX5_result_55 rfl (by decide) rfl ?_
        try simp only [List.set]
        refine g_iload (pc' := 59) dX5_result_57 rfl rfl ?_
        refine g_bipushN (n := 124) (pc' := 61) dX5_result_59 rfl (by decide) ?_
        refine g_icmp_eqN (tgt := 71) (pc' := 64) dX5_result_61 rfl (by decide) (by decide) (by decide) (fun q => False.elim (by revert q; decide)) (fun _ => ?_)
        refine g_iload (pc' := 66) dX5_result_64 rfl rfl ?_
        refine g_bipushN (n := 38) (pc' := 68) dX5_result_66 rfl (by decide) ?_
        refine g_icmp_neN (tgt := 128) (pc' := 71) dX5_result_68 rfl (by decide) (by decide) (by decide) (fun _ => ?_) (fun q => False.elim (by revert q; decide))
        refine g_aload_n (pc' := 129) dX5_result_128 rfl rfl ?_
        refine g_iload (pc' := 131) dX5_result_129 rfl rfl ?_
        refine g_iload (pc' := 133) dX5_result_131 rfl rfl ?_
        refine g_invV (pc' := 136) (hD) dX5_result_133 rfl rfl ck_6 rfl ml_X5_81 im_X5_take sl_X5_take in_X5 co_X5_take pd_X5_take rfl (by omega) (by decide) ⟨by decide, by decide⟩ (Nat.le_of_ble_eq_true rfl) ?_
        rintro _ h' ⟨rfl, hD'⟩ -
        refine g_iincN (k := 1) (pc' := 139) dX5_result_136 rfl rfl (by decide) rfl ?_
        try simp only [List.set]
        refine g_goto (tgt := 16) dX5_result_139 (by decide) ?_
        refine G.drop 4 ?_
        refine G.drop 5 ?_
        simp only [List.set]
        have k := K h' hD'.1 hD'.2
        rcases v with _ | z
        · exact rc_exit hok (by omega) (by omega) hD'.2 k
        · exact k
set_option maxRecDepth 4000 in
theorem rc_take_97 {E : En} (hok : EOK E) {h h0 : Hp} (hs : Shp h.2) {d : Nat} (hd : 2 ≤ d) {Q : Option V → Hp → Prop} {T i a ti : Nat} (htx : h.2.1 (7, 0) 2 = some (6, ti)) (hT : T ≤ 200) (hi : i < T) (h4 : h.1 (7, 0) 4 = 0) {x : Int32} (hst : h.1 (35, ti) i = nI 97) (hop : h.1 (36, ti) i = x) {v : Option Int32} (hD : Call E m_X5_take 1 0 0 [vR (7, 0), vI (nI 97), vI x] h (fun r h' => r = none ∧ Rk a h h' ∧ RV h' a v)) (K : ∀ h', Rk a h h' → RV h' a v → Kn E d Q h0 T (i + 1) v h') : WC E d Q h0 T i h := by
  refine g_iload_n (pc' := 17) dX5_result_16 rfl rfl ?_
  refine g_iload_n (pc' := 18) dX5_result_17 rfl rfl ?_
  refine g_icmp_geN (tgt := 142) (pc' := 21) dX5_result_18 rfl (by decide) (by omega) (by omega) (fun c18 => ?_) (fun c18 => ?_)
  · exact absurd c18 (by omega)
  ·
    refine g_iload_n (pc' := 22) dX5_result_21 rfl rfl ?_
    refine g_sipushN (n := 200) (pc' := 25) dX5_result_22 rfl (by decide) ?_
    refine g_icmp_geN (tgt := 142) (pc' := 28) dX5_result_25 rfl (by decide) (by omega) (by omega) (fun c25 => ?_) (fun c25 => ?_)
    · exact absurd c25 (by omega)
    ·
      refine g_aload_n (pc' := 29) dX5_result_28 rfl rfl ?_
      refine g_getIv (v := 0) (pc' := 32) (k := 4) dX5_result_29 rfl rfl ck_6 (by decide) fl_X5_60 rfl (h4) ?_
      refine g_if_ne (tgt := 142) (pc' := 35) dX5_result_32 rfl (by decide) (fun c32 => ?_) (fun c32 => ?_)
      · exact absurd rfl c32
      ·
        refine g_aload_n (pc' := 36) dX5_result_35 rfl rfl ?_
        refine g_getR (pc' := 39) (k := 2) (r := some (6, ti)) dX5_result_36 rfl rfl ck_6 (by decide) fl_X5_9 rfl (htx) ?_
        refine g_getS (pc' := 42) (k := 0) (b := (35, ti)) dX5_result_39 rfl rfl ck_7 (by decide) fl_X5_67 rfl hs rfl ?_
        refine g_iload_n (pc' := 43) dX5_result_42 rfl rfl ?_
        refine g_ialdN (pc' := 44) (v := nI 97) dX5_result_43 rfl rfl (by decide) (by omega) (hst) ?_
        refine g_istore (pc' := 46) dX5_result_44 rfl (by decide) rfl ?_
        try simp only [List.set]
        refine g_aload_n (pc' := 47) dX5_result_46 rfl rfl ?_
        refine g_getR (pc' := 50) (k := 2) (r := some (6, ti)) dX5_result_47 rfl rfl ck_6 (by decide) fl_X5_9 rfl (htx) ?_
        refine g_getS (pc' := 53) (k := 1) (b := (36, ti)) dX5_result_50 rfl rfl ck_7 (by decide) fl_X5_70 rfl hs rfl ?_
        refine g_iload_n (pc' := 54) dX5_result_53 rfl rfl ?_
        refine g_ialdN (pc' := 55) (v := x) dX5_result_54 rfl rfl (by decide) (by omega) (hop) ?_
        refine g_istore (pc' := 57) dX5_result_55 rfl (by decide) rfl ?_
        try simp only [List.set]
        refine g_iload (pc' := 59) dX5_result_57 rfl rfl ?_
        refine g_bipushN (n := 124) (pc' := 61) dX5_result_59 rfl (by decide) ?_
        refine g_icmp_eqN (tgt := 71) (pc' := 64) dX5_result_61 rfl (by decide) (by decide) (by decide) (fun q => False.elim (by revert q; decide)) (fun _ => ?_)
        refine g_iload (pc' := 66) dX5_result_64 rfl rfl ?_
        refine g_bipushN (n := 38) (pc' := 68) dX5_result_66 rfl (by decide) ?_
        refine g_icmp_neN (tgt := 128) (pc' := 71) dX5_result_68 rfl (by decide) (by decide) (by decide) (fun _ => ?_) (fun q => False.elim (by revert q; decide))
        refine g_aload_n (pc' := 129) dX5_result_128 rfl rfl ?_
        refine g_iload (pc' := 131) dX5_result_129 rfl rfl ?_
        refine g_iload (pc' := 133) dX5_result_131 rfl rfl ?_
        refine g_invV (pc' := 136) (hD) dX5_result_133 rfl rfl ck_6 rfl ml_X5_81 im_X5_take sl_X5_take in_X5 co_X5_take pd_X5_take rfl (by omega) (by decide) ⟨by decide, by decide⟩ (Nat.le_of_ble_eq_true rfl) ?_
        rintro _ h' ⟨rfl, hD'⟩ -
        refine g_iincN (k := 1) (pc' := 139) dX5_result_136 rfl rfl (by decide) rfl ?_
        try simp only [List.set]
        refine g_goto (tgt := 16) dX5_result_139 (by decide) ?_
        refine G.drop 4 ?_
        refine G.drop 5 ?_
        simp only [List.set]
        have k := K h' hD'.1 hD'.2
        rcases v with _ | z
        · exact rc_exit hok (by omega) (by omega) hD'.2 k
        · exact k
set_option maxRecDepth 4000 in
theorem rc_take_33 {E : En} (hok : EOK E) {h h0 : Hp} (hs : Shp h.2) {d : Nat} (hd : 2 ≤ d) {Q : Option V → Hp → Prop} {T i a ti : Nat} (htx : h.2.1 (7, 0) 2 = some (6, ti)) (hT : T ≤ 200) (hi : i < T) (h4 : h.1 (7, 0) 4 = 0) {x : Int32} (hst : h.1 (35, ti) i = nI 33) (hop : h.1 (36, ti) i = x) {v : Option Int32} (hD : Call E m_X5_take 1 0 0 [vR (7, 0), vI (nI 33), vI x] h (fun r h' => r = none ∧ Rk a h h' ∧ RV h' a v)) (K : ∀ h', Rk a h h' → RV h' a v → Kn E d Q h0 T (i + 1) v h') : WC E d Q h0 T i h := by
  refine g_iload_n (pc' := 17) dX5_result_16 rfl rfl ?_
  refine g_iload_n (pc' := 18) dX5_result_17 rfl rfl ?_
  refine g_icmp_geN (tgt := 142) (pc' := 21) dX5_result_18 rfl (by decide) (by omega) (by omega) (fun c18 => ?_) (fun c18 => ?_)
  · exact absurd c18 (by omega)
  ·
    refine g_iload_n (pc' := 22) dX5_result_21 rfl rfl ?_
    refine g_sipushN (n := 200) (pc' := 25) dX5_result_22 rfl (by decide) ?_
    refine g_icmp_geN (tgt := 142) (pc' := 28) dX5_result_25 rfl (by decide) (by omega) (by omega) (fun c25 => ?_) (fun c25 => ?_)
    · exact absurd c25 (by omega)
    ·
      refine g_aload_n (pc' := 29) dX5_result_28 rfl rfl ?_
      refine g_getIv (v := 0) (pc' := 32) (k := 4) dX5_result_29 rfl rfl ck_6 (by decide) fl_X5_60 rfl (h4) ?_
      refine g_if_ne (tgt := 142) (pc' := 35) dX5_result_32 rfl (by decide) (fun c32 => ?_) (fun c32 => ?_)
      · exact absurd rfl c32
      ·
        refine g_aload_n (pc' := 36) dX5_result_35 rfl rfl ?_
        refine g_getR (pc' := 39) (k := 2) (r := some (6, ti)) dX5_result_36 rfl rfl ck_6 (by decide) fl_X5_9 rfl (htx) ?_
        refine g_getS (pc' := 42) (k := 0) (b := (35, ti)) dX5_result_39 rfl rfl ck_7 (by decide) fl_X5_67 rfl hs rfl ?_
        refine g_iload_n (pc' := 43) dX5_result_42 rfl rfl ?_
        refine g_ialdN (pc' := 44) (v := nI 33) dX5_result_43 rfl rfl (by decide) (by omega) (hst) ?_
        refine g_istore (pc' := 46) dX5_result_44 rfl (by decide) rfl ?_
        try simp only [List.set]
        refine g_aload_n (pc' := 47) dX5_result_46 rfl rfl ?_
        refine g_getR (pc' := 50) (k := 2) (r := some (6, ti)) dX5_result_47 rfl rfl ck_6 (by decide) fl_X5_9 rfl (htx) ?_
        refine g_getS (pc' := 53) (k := 1) (b := (36, ti)) dX5_result_50 rfl rfl ck_7 (by decide) fl_X5_70 rfl hs rfl ?_
        refine g_iload_n (pc' := 54) dX5_result_53 rfl rfl ?_
        refine g_ialdN (pc' := 55) (v := x) dX5_result_54 rfl rfl (by decide) (by omega) (hop) ?_
        refine g_istore (pc' := 57) dX5_result_55 rfl (by decide) rfl ?_
        try simp only [List.set]
        refine g_iload (pc' := 59) dX5_result_57 rfl rfl ?_
        refine g_bipushN (n := 124) (pc' := 61) dX5_result_59 rfl (by decide) ?_
        refine g_icmp_eqN (tgt := 71) (pc' := 64) dX5_result_61 rfl (by decide) (by decide) (by decide) (fun q => False.elim (by revert q; decide)) (fun _ => ?_)
        refine g_iload (pc' := 66) dX5_result_64 rfl rfl ?_
        refine g_bipushN (n := 38) (pc' := 68) dX5_result_66 rfl (by decide) ?_
        refine g_icmp_neN (tgt := 128) (pc' := 71) dX5_result_68 rfl (by decide) (by decide) (by decide) (fun _ => ?_) (fun q => False.elim (by revert q; decide))
        refine g_aload_n (pc' := 129) dX5_result_128 rfl rfl ?_
        refine g_iload (pc' := 131) dX5_result_129 rfl rfl ?_
        refine g_iload (pc' := 133) dX5_result_131 rfl rfl ?_
        refine g_invV (pc' := 136) (hD) dX5_result_133 rfl rfl ck_6 rfl ml_X5_81 im_X5_take sl_X5_take in_X5 co_X5_take pd_X5_take rfl (by omega) (by decide) ⟨by decide, by decide⟩ (Nat.le_of_ble_eq_true rfl) ?_
        rintro _ h' ⟨rfl, hD'⟩ -
        refine g_iincN (k := 1) (pc' := 139) dX5_result_136 rfl rfl (by decide) rfl ?_
        try simp only [List.set]
        refine g_goto (tgt := 16) dX5_result_139 (by decide) ?_
        refine G.drop 4 ?_
        refine G.drop 5 ?_
        simp only [List.set]
        have k := K h' hD'.1 hD'.2
        rcases v with _ | z
        · exact rc_exit hok (by omega) (by omega) hD'.2 k
        · exact k
set_option maxRecDepth 4000 in
theorem rc_take_43 {E : En} (hok : EOK E) {h h0 : Hp} (hs : Shp h.2) {d : Nat} (hd : 2 ≤ d) {Q : Option V → Hp → Prop} {T i a ti : Nat} (htx : h.2.1 (7, 0) 2 = some (6, ti)) (hT : T ≤ 200) (hi : i < T) (h4 : h.1 (7, 0) 4 = 0) {x : Int32} (hst : h.1 (35, ti) i = nI 43) (hop : h.1 (36, ti) i = x) {v : Option Int32} (hD : Call E m_X5_take 1 0 0 [vR (7, 0), vI (nI 43), vI x] h (fun r h' => r = none ∧ Rk a h h' ∧ RV h' a v)) (K : ∀ h', Rk a h h' → RV h' a v → Kn E d Q h0 T (i + 1) v h') : WC E d Q h0 T i h := by
  refine g_iload_n (pc' := 17) dX5_result_16 rfl rfl ?_
  refine g_iload_n (pc' := 18) dX5_result_17 rfl rfl ?_
  refine g_icmp_geN (tgt := 142) (pc' := 21) dX5_result_18 rfl (by decide) (by omega) (by omega) (fun c18 => ?_) (fun c18 => ?_)
  · exact absurd c18 (by omega)
  ·
    refine g_iload_n (pc' := 22) dX5_result_21 rfl rfl ?_
    refine g_sipushN (n := 200) (pc' := 25) dX5_result_22 rfl (by decide) ?_
    refine g_icmp_geN (tgt := 142) (pc' := 28) dX5_result_25 rfl (by decide) (by omega) (by omega) (fun c25 => ?_) (fun c25 => ?_)
    · exact absurd c25 (by omega)
    ·
      refine g_aload_n (pc' := 29) dX5_result_28 rfl rfl ?_
      refine g_getIv (v := 0) (pc' := 32) (k := 4) dX5_result_29 rfl rfl ck_6 (by decide) fl_X5_60 rfl (h4) ?_
      refine g_if_ne (tgt := 142) (pc' := 35) dX5_result_32 rfl (by decide) (fun c32 => ?_) (fun c32 => ?_)
      · exact absurd rfl c32
      ·
        refine g_aload_n (pc' := 36) dX5_result_35 rfl rfl ?_
        refine g_getR (pc' := 39) (k := 2) (r := some (6, ti)) dX5_result_36 rfl rfl ck_6 (by decide) fl_X5_9 rfl (htx) ?_
        refine g_getS (pc' := 42) (k := 0) (b := (35, ti)) dX5_result_39 rfl rfl ck_7 (by decide) fl_X5_67 rfl hs rfl ?_
        refine g_iload_n (pc' := 43) dX5_result_42 rfl rfl ?_
        refine g_ialdN (pc' := 44) (v := nI 43) dX5_result_43 rfl rfl (by decide) (by omega) (hst) ?_
        refine g_istore (pc' := 46) dX5_result_44 rfl (by decide) rfl ?_
        try simp only [List.set]
        refine g_aload_n (pc' := 47) dX5_result_46 rfl rfl ?_
        refine g_getR (pc' := 50) (k := 2) (r := some (6, ti)) dX5_result_47 rfl rfl ck_6 (by decide) fl_X5_9 rfl (htx) ?_
        refine g_getS (pc' := 53) (k := 1) (b := (36, ti)) dX5_result_50 rfl rfl ck_7 (by decide) fl_X5_70 rfl hs rfl ?_
        refine g_iload_n (pc' := 54) dX5_result_53 rfl rfl ?_
        refine g_ialdN (pc' := 55) (v := x) dX5_result_54 rfl rfl (by decide) (by omega) (hop) ?_
        refine g_istore (pc' := 57) dX5_result_55 rfl (by decide) rfl ?_
        try simp only [List.set]
        refine g_iload (pc' := 59) dX5_result_57 rfl rfl ?_
        refine g_bipushN (n := 124) (pc' := 61) dX5_result_59 rfl (by decide) ?_
        refine g_icmp_eqN (tgt := 71) (pc' := 64) dX5_result_61 rfl (by decide) (by decide) (by decide) (fun q => False.elim (by revert q; decide)) (fun _ => ?_)
        refine g_iload (pc' := 66) dX5_result_64 rfl rfl ?_
        refine g_bipushN (n := 38) (pc' := 68) dX5_result_66 rfl (by decide) ?_
        refine g_icmp_neN (tgt := 128) (pc' := 71) dX5_result_68 rfl (by decide) (by decide) (by decide) (fun _ => ?_) (fun q => False.elim (by revert q; decide))
        refine g_aload_n (pc' := 129) dX5_result_128 rfl rfl ?_
        refine g_iload (pc' := 131) dX5_result_129 rfl rfl ?_
        refine g_iload (pc' := 133) dX5_result_131 rfl rfl ?_
        refine g_invV (pc' := 136) (hD) dX5_result_133 rfl rfl ck_6 rfl ml_X5_81 im_X5_take sl_X5_take in_X5 co_X5_take pd_X5_take rfl (by omega) (by decide) ⟨by decide, by decide⟩ (Nat.le_of_ble_eq_true rfl) ?_
        rintro _ h' ⟨rfl, hD'⟩ -
        refine g_iincN (k := 1) (pc' := 139) dX5_result_136 rfl rfl (by decide) rfl ?_
        try simp only [List.set]
        refine g_goto (tgt := 16) dX5_result_139 (by decide) ?_
        refine G.drop 4 ?_
        refine G.drop 5 ?_
        simp only [List.set]
        have k := K h' hD'.1 hD'.2
        rcases v with _ | z
        · exact rc_exit hok (by omega) (by omega) hD'.2 k
        · exact k
set_option maxRecDepth 4000 in
theorem rc_take_45 {E : En} (hok : EOK E) {h h0 : Hp} (hs : Shp h.2) {d : Nat} (hd : 2 ≤ d) {Q : Option V → Hp → Prop} {T i a ti : Nat} (htx : h.2.1 (7, 0) 2 = some (6, ti)) (hT : T ≤ 200) (hi : i < T) (h4 : h.1 (7, 0) 4 = 0) {x : Int32} (hst : h.1 (35, ti) i = nI 45) (hop : h.1 (36, ti) i = x) {v : Option Int32} (hD : Call E m_X5_take 1 0 0 [vR (7, 0), vI (nI 45), vI x] h (fun r h' => r = none ∧ Rk a h h' ∧ RV h' a v)) (K : ∀ h', Rk a h h' → RV h' a v → Kn E d Q h0 T (i + 1) v h') : WC E d Q h0 T i h := by
  refine g_iload_n (pc' := 17) dX5_result_16 rfl rfl ?_
  refine g_iload_n (pc' := 18) dX5_result_17 rfl rfl ?_
  refine g_icmp_geN (tgt := 142) (pc' := 21) dX5_result_18 rfl (by decide) (by omega) (by omega) (fun c18 => ?_) (fun c18 => ?_)
  · exact absurd c18 (by omega)
  ·
    refine g_iload_n (pc' := 22) dX5_result_21 rfl rfl ?_
    refine g_sipushN (n := 200) (pc' := 25) dX5_result_22 rfl (by decide) ?_
    refine g_icmp_geN (tgt := 142) (pc' := 28) dX5_result_25 rfl (by decide) (by omega) (by omega) (fun c25 => ?_) (fun c25 => ?_)
    · exact absurd c25 (by omega)
    ·
      refine g_aload_n (pc' := 29) dX5_result_28 rfl rfl ?_
      refine g_getIv (v := 0) (pc' := 32) (k := 4) dX5_result_29 rfl rfl ck_6 (by decide) fl_X5_60 rfl (h4) ?_
      refine g_if_ne (tgt := 142) (pc' := 35) dX5_result_32 rfl (by decide) (fun c32 => ?_) (fun c32 => ?_)
      · exact absurd rfl c32
      ·
        refine g_aload_n (pc' := 36) dX5_result_35 rfl rfl ?_
        refine g_getR (pc' := 39) (k := 2) (r := some (6, ti)) dX5_result_36 rfl rfl ck_6 (by decide) fl_X5_9 rfl (htx) ?_
        refine g_getS (pc' := 42) (k := 0) (b := (35, ti)) dX5_result_39 rfl rfl ck_7 (by decide) fl_X5_67 rfl hs rfl ?_
        refine g_iload_n (pc' := 43) dX5_result_42 rfl rfl ?_
        refine g_ialdN (pc' := 44) (v := nI 45) dX5_result_43 rfl rfl (by decide) (by omega) (hst) ?_
        refine g_istore (pc' := 46) dX5_result_44 rfl (by decide) rfl ?_
        try simp only [List.set]
        refine g_aload_n (pc' := 47) dX5_result_46 rfl rfl ?_
        refine g_getR (pc' := 50) (k := 2) (r := some (6, ti)) dX5_result_47 rfl rfl ck_6 (by decide) fl_X5_9 rfl (htx) ?_
        refine g_getS (pc' := 53) (k := 1) (b := (36, ti)) dX5_result_50 rfl rfl ck_7 (by decide) fl_X5_70 rfl hs rfl ?_
        refine g_iload_n (pc' := 54) dX5_result_53 rfl rfl ?_
        refine g_ialdN (pc' := 55) (v := x) dX5_result_54 rfl rfl (by decide) (by omega) (hop) ?_
        refine g_istore (pc' := 57) dX5_result_55 rfl (by decide) rfl ?_
        try simp only [List.set]
        refine g_iload (pc' := 59) dX5_result_57 rfl rfl ?_
        refine g_bipushN (n := 124) (pc' := 61) dX5_result_59 rfl (by decide) ?_
        refine g_icmp_eqN (tgt := 71) (pc' := 64) dX5_result_61 rfl (by decide) (by decide) (by decide) (fun q => False.elim (by revert q; decide)) (fun _ => ?_)
        refine g_iload (pc' := 66) dX5_result_64 rfl rfl ?_
        refine g_bipushN (n := 38) (pc' := 68) dX5_result_66 rfl (by decide) ?_
        refine g_icmp_neN (tgt := 128) (pc' := 71) dX5_result_68 rfl (by decide) (by decide) (by decide) (fun _ => ?_) (fun q => False.elim (by revert q; decide))
        refine g_aload_n (pc' := 129) dX5_result_128 rfl rfl ?_
        refine g_iload (pc' := 131) dX5_result_129 rfl rfl ?_
        refine g_iload (pc' := 133) dX5_result_131 rfl rfl ?_
        refine g_invV (pc' := 136) (hD) dX5_result_133 rfl rfl ck_6 rfl ml_X5_81 im_X5_take sl_X5_take in_X5 co_X5_take pd_X5_take rfl (by omega) (by decide) ⟨by decide, by decide⟩ (Nat.le_of_ble_eq_true rfl) ?_
        rintro _ h' ⟨rfl, hD'⟩ -
        refine g_iincN (k := 1) (pc' := 139) dX5_result_136 rfl rfl (by decide) rfl ?_
        try simp only [List.set]
        refine g_goto (tgt := 16) dX5_result_139 (by decide) ?_
        refine G.drop 4 ?_
        refine G.drop 5 ?_
        simp only [List.set]
        have k := K h' hD'.1 hD'.2
        rcases v with _ | z
        · exact rc_exit hok (by omega) (by omega) hD'.2 k
        · exact k
set_option maxRecDepth 4000 in
theorem rc_take_42 {E : En} (hok : EOK E) {h h0 : Hp} (hs : Shp h.2) {d : Nat} (hd : 2 ≤ d) {Q : Option V → Hp → Prop} {T i a ti : Nat} (htx : h.2.1 (7, 0) 2 = some (6, ti)) (hT : T ≤ 200) (hi : i < T) (h4 : h.1 (7, 0) 4 = 0) {x : Int32} (hst : h.1 (35, ti) i = nI 42) (hop : h.1 (36, ti) i = x) {v : Option Int32} (hD : Call E m_X5_take 1 0 0 [vR (7, 0), vI (nI 42), vI x] h (fun r h' => r = none ∧ Rk a h h' ∧ RV h' a v)) (K : ∀ h', Rk a h h' → RV h' a v → Kn E d Q h0 T (i + 1) v h') : WC E d Q h0 T i h := by
  refine g_iload_n (pc' := 17) dX5_result_16 rfl rfl ?_
  refine g_iload_n (pc' := 18) dX5_result_17 rfl rfl ?_
  refine g_icmp_geN (tgt := 142) (pc' := 21) dX5_result_18 rfl (by decide) (by omega) (by omega) (fun c18 => ?_) (fun c18 => ?_)
  · exact absurd c18 (by omega)
  ·
    refine g_iload_n (pc' := 22) dX5_result_21 rfl rfl ?_
    refine g_sipushN (n := 200) (pc' := 25) dX5_result_22 rfl (by decide) ?_
    refine g_icmp_geN (tgt := 142) (pc' := 28) dX5_result_25 rfl (by decide) (by omega) (by omega) (fun c25 => ?_) (fun c25 => ?_)
    · exact absurd c25 (by omega)
    ·
      refine g_aload_n (pc' := 29) dX5_result_28 rfl rfl ?_
      refine g_getIv (v := 0) (pc' := 32) (k := 4) dX5_result_29 rfl rfl ck_6 (by decide) fl_X5_60 rfl (h4) ?_
      refine g_if_ne (tgt := 142) (pc' := 35) dX5_result_32 rfl (by decide) (fun c32 => ?_) (fun c32 => ?_)
      · exact absurd rfl c32
      ·
        refine g_aload_n (pc' := 36) dX5_result_35 rfl rfl ?_
        refine g_getR (pc' := 39) (k := 2) (r := some (6, ti)) dX5_result_36 rfl rfl ck_6 (by decide) fl_X5_9 rfl (htx) ?_
        refine g_getS (pc' := 42) (k := 0) (b := (35, ti)) dX5_result_39 rfl rfl ck_7 (by decide) fl_X5_67 rfl hs rfl ?_
        refine g_iload_n (pc' := 43) dX5_result_42 rfl rfl ?_
        refine g_ialdN (pc' := 44) (v := nI 42) dX5_result_43 rfl rfl (by decide) (by omega) (hst) ?_
        refine g_istore (pc' := 46) dX5_result_44 rfl (by decide) rfl ?_
        try simp only [List.set]
        refine g_aload_n (pc' := 47) dX5_result_46 rfl rfl ?_
        refine g_getR (pc' := 50) (k := 2) (r := some (6, ti)) dX5_result_47 rfl rfl ck_6 (by decide) fl_X5_9 rfl (htx) ?_
        refine g_getS (pc' := 53) (k := 1) (b := (36, ti)) dX5_result_50 rfl rfl ck_7 (by decide) fl_X5_70 rfl hs rfl ?_
        refine g_iload_n (pc' := 54) dX5_result_53 rfl rfl ?_
        refine g_ialdN (pc' := 55) (v := x) dX5_result_54 rfl rfl (by decide) (by omega) (hop) ?_
        refine g_istore (pc' := 57) dX5_result_55 rfl (by decide) rfl ?_
        try simp only [List.set]
        refine g_iload (pc' := 59) dX5_result_57 rfl rfl ?_
        refine g_bipushN (n := 124) (pc' := 61) dX5_result_59 rfl (by decide) ?_
        refine g_icmp_eqN (tgt := 71) (pc' := 64) dX5_result_61 rfl (by decide) (by decide) (by decide) (fun q => False.elim (by revert q; decide)) (fun _ => ?_)
        refine g_iload (pc' := 66) dX5_result_64 rfl rfl ?_
        refine g_bipushN (n := 38) (pc' := 68) dX5_result_66 rfl (by decide) ?_
        refine g_icmp_neN (tgt := 128) (pc' := 71) dX5_result_68 rfl (by decide) (by decide) (by decide) (fun _ => ?_) (fun q => False.elim (by revert q; decide))
        refine g_aload_n (pc' := 129) dX5_result_128 rfl rfl ?_
        refine g_iload (pc' := 131) dX5_result_129 rfl rfl ?_
        refine g_iload (pc' := 133) dX5_result_131 rfl rfl ?_
        refine g_invV (pc' := 136) (hD) dX5_result_133 rfl rfl ck_6 rfl ml_X5_81 im_X5_take sl_X5_take in_X5 co_X5_take pd_X5_take rfl (by omega) (by decide) ⟨by decide, by decide⟩ (Nat.le_of_ble_eq_true rfl) ?_
        rintro _ h' ⟨rfl, hD'⟩ -
        refine g_iincN (k := 1) (pc' := 139) dX5_result_136 rfl rfl (by decide) rfl ?_
        try simp only [List.set]
        refine g_goto (tgt := 16) dX5_result_139 (by decide) ?_
        refine G.drop 4 ?_
        refine G.drop 5 ?_
        simp only [List.set]
        have k := K h' hD'.1 hD'.2
        rcases v with _ | z
        · exact rc_exit hok (by omega) (by omega) hD'.2 k
        · exact k
set_option maxRecDepth 4000 in
theorem rc_take_47 {E : En} (hok : EOK E) {h h0 : Hp} (hs : Shp h.2) {d : Nat} (hd : 2 ≤ d) {Q : Option V → Hp → Prop} {T i a ti : Nat} (htx : h.2.1 (7, 0) 2 = some (6, ti)) (hT : T ≤ 200) (hi : i < T) (h4 : h.1 (7, 0) 4 = 0) {x : Int32} (hst : h.1 (35, ti) i = nI 47) (hop : h.1 (36, ti) i = x) {v : Option Int32} (hD : Call E m_X5_take 1 0 0 [vR (7, 0), vI (nI 47), vI x] h (fun r h' => r = none ∧ Rk a h h' ∧ RV h' a v)) (K : ∀ h', Rk a h h' → RV h' a v → Kn E d Q h0 T (i + 1) v h') : WC E d Q h0 T i h := by
  refine g_iload_n (pc' := 17) dX5_result_16 rfl rfl ?_
  refine g_iload_n (pc' := 18) dX5_result_17 rfl rfl ?_
  refine g_icmp_geN (tgt := 142) (pc' := 21) dX5_result_18 rfl (by decide) (by omega) (by omega) (fun c18 => ?_) (fun c18 => ?_)
  · exact absurd c18 (by omega)
  ·
    refine g_iload_n (pc' := 22) dX5_result_21 rfl rfl ?_
    refine g_sipushN (n := 200) (pc' := 25) dX5_result_22 rfl (by decide) ?_
    refine g_icmp_geN (tgt := 142) (pc' := 28) dX5_result_25 rfl (by decide) (by omega) (by omega) (fun c25 => ?_) (fun c25 => ?_)
    · exact absurd c25 (by omega)
    ·
      refine g_aload_n (pc' := 29) dX5_result_28 rfl rfl ?_
      refine g_getIv (v := 0) (pc' := 32) (k := 4) dX5_result_29 rfl rfl ck_6 (by decide) fl_X5_60 rfl (h4) ?_
      refine g_if_ne (tgt := 142) (pc' := 35) dX5_result_32 rfl (by decide) (fun c32 => ?_) (fun c32 => ?_)
      · exact absurd rfl c32
      ·
        refine g_aload_n (pc' := 36) dX5_result_35 rfl rfl ?_
        refine g_getR (pc' := 39) (k := 2) (r := some (6, ti)) dX5_result_36 rfl rfl ck_6 (by decide) fl_X5_9 rfl (htx) ?_
        refine g_getS (pc' := 42) (k := 0) (b := (35, ti)) dX5_result_39 rfl rfl ck_7 (by decide) fl_X5_67 rfl hs rfl ?_
        refine g_iload_n (pc' := 43) dX5_result_42 rfl rfl ?_
        refine g_ialdN (pc' := 44) (v := nI 47) dX5_result_43 rfl rfl (by decide) (by omega) (hst) ?_
        refine g_istore (pc' := 46) dX5_result_44 rfl (by decide) rfl ?_
        try simp only [List.set]
        refine g_aload_n (pc' := 47) dX5_result_46 rfl rfl ?_
        refine g_getR (pc' := 50) (k := 2) (r := some (6, ti)) dX5_result_47 rfl rfl ck_6 (by decide) fl_X5_9 rfl (htx) ?_
        refine g_getS (pc' := 53) (k := 1) (b := (36, ti)) dX5_result_50 rfl rfl ck_7 (by decide) fl_X5_70 rfl hs rfl ?_
        refine g_iload_n (pc' := 54) dX5_result_53 rfl rfl ?_
        refine g_ialdN (pc' := 55) (v := x) dX5_result_54 rfl rfl (by decide) (by omega) (hop) ?_
        refine g_istore (pc' := 57) dX5_result_55 rfl (by decide) rfl ?_
        try simp only [List.set]
        refine g_iload (pc' := 59) dX5_result_57 rfl rfl ?_
        refine g_bipushN (n := 124) (pc' := 61) dX5_result_59 rfl (by decide) ?_
        refine g_icmp_eqN (tgt := 71) (pc' := 64) dX5_result_61 rfl (by decide) (by decide) (by decide) (fun q => False.elim (by revert q; decide)) (fun _ => ?_)
        refine g_iload (pc' := 66) dX5_result_64 rfl rfl ?_
        refine g_bipushN (n := 38) (pc' := 68) dX5_result_66 rfl (by decide) ?_
        refine g_icmp_neN (tgt := 128) (pc' := 71) dX5_result_68 rfl (by decide) (by decide) (by decide) (fun _ => ?_) (fun q => False.elim (by revert q; decide))
        refine g_aload_n (pc' := 129) dX5_result_128 rfl rfl ?_
        refine g_iload (pc' := 131) dX5_result_129 rfl rfl ?_
        refine g_iload (pc' := 133) dX5_result_131 rfl rfl ?_
        refine g_invV (pc' := 136) (hD) dX5_result_133 rfl rfl ck_6 rfl ml_X5_81 im_X5_take sl_X5_take in_X5 co_X5_take pd_X5_take rfl (by omega) (by decide) ⟨by decide, by decide⟩ (Nat.le_of_ble_eq_true rfl) ?_
        rintro _ h' ⟨rfl, hD'⟩ -
        refine g_iincN (k := 1) (pc' := 139) dX5_result_136 rfl rfl (by decide) rfl ?_
        try simp only [List.set]
        refine g_goto (tgt := 16) dX5_result_139 (by decide) ?_
        refine G.drop 4 ?_
        refine G.drop 5 ?_
        simp only [List.set]
        have k := K h' hD'.1 hD'.2
        rcases v with _ | z
        · exact rc_exit hok (by omega) (by omega) hD'.2 k
        · exact k
set_option maxRecDepth 4000 in
theorem rc_take_37 {E : En} (hok : EOK E) {h h0 : Hp} (hs : Shp h.2) {d : Nat} (hd : 2 ≤ d) {Q : Option V → Hp → Prop} {T i a ti : Nat} (htx : h.2.1 (7, 0) 2 = some (6, ti)) (hT : T ≤ 200) (hi : i < T) (h4 : h.1 (7, 0) 4 = 0) {x : Int32} (hst : h.1 (35, ti) i = nI 37) (hop : h.1 (36, ti) i = x) {v : Option Int32} (hD : Call E m_X5_take 1 0 0 [vR (7, 0), vI (nI 37), vI x] h (fun r h' => r = none ∧ Rk a h h' ∧ RV h' a v)) (K : ∀ h', Rk a h h' → RV h' a v → Kn E d Q h0 T (i + 1) v h') : WC E d Q h0 T i h := by
  refine g_iload_n (pc' := 17) dX5_result_16 rfl rfl ?_
  refine g_iload_n (pc' := 18) dX5_result_17 rfl rfl ?_
  refine g_icmp_geN (tgt := 142) (pc' := 21) dX5_result_18 rfl (by decide) (by omega) (by omega) (fun c18 => ?_) (fun c18 => ?_)
  · exact absurd c18 (by omega)
  ·
    refine g_iload_n (pc' := 22) dX5_result_21 rfl rfl ?_
    refine g_sipushN (n := 200) (pc' := 25) dX5_result_22 rfl (by decide) ?_
    refine g_icmp_geN (tgt := 142) (pc' := 28) dX5_result_25 rfl (by decide) (by omega) (by omega) (fun c25 => ?_) (fun c25 => ?_)
    · exact absurd c25 (by omega)
    ·
      refine g_aload_n (pc' := 29) dX5_result_28 rfl rfl ?_
      refine g_getIv (v := 0) (pc' := 32) (k := 4) dX5_result_29 rfl rfl ck_6 (by decide) fl_X5_60 rfl (h4) ?_
      refine g_if_ne (tgt := 142) (pc' := 35) dX5_result_32 rfl (by decide) (fun c32 => ?_) (fun c32 => ?_)
      · exact absurd rfl c32
      ·
        refine g_aload_n (pc' := 36) dX5_result_35 rfl rfl ?_
        refine g_getR (pc' := 39) (k := 2) (r := some (6, ti)) dX5_result_36 rfl rfl ck_6 (by decide) fl_X5_9 rfl (htx) ?_
        refine g_getS (pc' := 42) (k := 0) (b := (35, ti)) dX5_result_39 rfl rfl ck_7 (by decide) fl_X5_67 rfl hs rfl ?_
        refine g_iload_n (pc' := 43) dX5_result_42 rfl rfl ?_
        refine g_ialdN (pc' := 44) (v := nI 37) dX5_result_43 rfl rfl (by decide) (by omega) (hst) ?_
        refine g_istore (pc' := 46) dX5_result_44 rfl (by decide) rfl ?_
        try simp only [List.set]
        refine g_aload_n (pc' := 47) dX5_result_46 rfl rfl ?_
        refine g_getR (pc' := 50) (k := 2) (r := some (6, ti)) dX5_result_47 rfl rfl ck_6 (by decide) fl_X5_9 rfl (htx) ?_
        refine g_getS (pc' := 53) (k := 1) (b := (36, ti)) dX5_result_50 rfl rfl ck_7 (by decide) fl_X5_70 rfl hs rfl ?_
        refine g_iload_n (pc' := 54) dX5_result_53 rfl rfl ?_
        refine g_ialdN (pc' := 55) (v := x) dX5_result_54 rfl rfl (by decide) (by omega) (hop) ?_
        refine g_istore (pc' := 57) dX5_result_55 rfl (by decide) rfl ?_
        try simp only [List.set]
        refine g_iload (pc' := 59) dX5_result_57 rfl rfl ?_
        refine g_bipushN (n := 124) (pc' := 61) dX5_result_59 rfl (by decide) ?_
        refine g_icmp_eqN (tgt := 71) (pc' := 64) dX5_result_61 rfl (by decide) (by decide) (by decide) (fun q => False.elim (by revert q; decide)) (fun _ => ?_)
        refine g_iload (pc' := 66) dX5_result_64 rfl rfl ?_
        refine g_bipushN (n := 38) (pc' := 68) dX5_result_66 rfl (by decide) ?_
        refine g_icmp_neN (tgt := 128) (pc' := 71) dX5_result_68 rfl (by decide) (by decide) (by decide) (fun _ => ?_) (fun q => False.elim (by revert q; decide))
        refine g_aload_n (pc' := 129) dX5_result_128 rfl rfl ?_
        refine g_iload (pc' := 131) dX5_result_129 rfl rfl ?_
        refine g_iload (pc' := 133) dX5_result_131 rfl rfl ?_
        refine g_invV (pc' := 136) (hD) dX5_result_133 rfl rfl ck_6 rfl ml_X5_81 im_X5_take sl_X5_take in_X5 co_X5_take pd_X5_take rfl (by omega) (by decide) ⟨by decide, by decide⟩ (Nat.le_of_ble_eq_true rfl) ?_
        rintro _ h' ⟨rfl, hD'⟩ -
        refine g_iincN (k := 1) (pc' := 139) dX5_result_136 rfl rfl (by decide) rfl ?_
        try simp only [List.set]
        refine g_goto (tgt := 16) dX5_result_139 (by decide) ?_
        refine G.drop 4 ?_
        refine G.drop 5 ?_
        simp only [List.set]
        have k := K h' hD'.1 hD'.2
        rcases v with _ | z
        · exact rc_exit hok (by omega) (by omega) hD'.2 k
        · exact k
set_option maxRecDepth 4000 in
theorem rc_take_60 {E : En} (hok : EOK E) {h h0 : Hp} (hs : Shp h.2) {d : Nat} (hd : 2 ≤ d) {Q : Option V → Hp → Prop} {T i a ti : Nat} (htx : h.2.1 (7, 0) 2 = some (6, ti)) (hT : T ≤ 200) (hi : i < T) (h4 : h.1 (7, 0) 4 = 0) {x : Int32} (hst : h.1 (35, ti) i = nI 60) (hop : h.1 (36, ti) i = x) {v : Option Int32} (hD : Call E m_X5_take 1 0 0 [vR (7, 0), vI (nI 60), vI x] h (fun r h' => r = none ∧ Rk a h h' ∧ RV h' a v)) (K : ∀ h', Rk a h h' → RV h' a v → Kn E d Q h0 T (i + 1) v h') : WC E d Q h0 T i h := by
  refine g_iload_n (pc' := 17) dX5_result_16 rfl rfl ?_
  refine g_iload_n (pc' := 18) dX5_result_17 rfl rfl ?_
  refine g_icmp_geN (tgt := 142) (pc' := 21) dX5_result_18 rfl (by decide) (by omega) (by omega) (fun c18 => ?_) (fun c18 => ?_)
  · exact absurd c18 (by omega)
  ·
    refine g_iload_n (pc' := 22) dX5_result_21 rfl rfl ?_
    refine g_sipushN (n := 200) (pc' := 25) dX5_result_22 rfl (by decide) ?_
    refine g_icmp_geN (tgt := 142) (pc' := 28) dX5_result_25 rfl (by decide) (by omega) (by omega) (fun c25 => ?_) (fun c25 => ?_)
    · exact absurd c25 (by omega)
    ·
      refine g_aload_n (pc' := 29) dX5_result_28 rfl rfl ?_
      refine g_getIv (v := 0) (pc' := 32) (k := 4) dX5_result_29 rfl rfl ck_6 (by decide) fl_X5_60 rfl (h4) ?_
      refine g_if_ne (tgt := 142) (pc' := 35) dX5_result_32 rfl (by decide) (fun c32 => ?_) (fun c32 => ?_)
      · exact absurd rfl c32
      ·
        refine g_aload_n (pc' := 36) dX5_result_35 rfl rfl ?_
        refine g_getR (pc' := 39) (k := 2) (r := some (6, ti)) dX5_result_36 rfl rfl ck_6 (by decide) fl_X5_9 rfl (htx) ?_
        refine g_getS (pc' := 42) (k := 0) (b := (35, ti)) dX5_result_39 rfl rfl ck_7 (by decide) fl_X5_67 rfl hs rfl ?_
        refine g_iload_n (pc' := 43) dX5_result_42 rfl rfl ?_
        refine g_ialdN (pc' := 44) (v := nI 60) dX5_result_43 rfl rfl (by decide) (by omega) (hst) ?_
        refine g_istore (pc' := 46) dX5_result_44 rfl (by decide) rfl ?_
        try simp only [List.set]
        refine g_aload_n (pc' := 47) dX5_result_46 rfl rfl ?_
        refine g_getR (pc' := 50) (k := 2) (r := some (6, ti)) dX5_result_47 rfl rfl ck_6 (by decide) fl_X5_9 rfl (htx) ?_
        refine g_getS (pc' := 53) (k := 1) (b := (36, ti)) dX5_result_50 rfl rfl ck_7 (by decide) fl_X5_70 rfl hs rfl ?_
        refine g_iload_n (pc' := 54) dX5_result_53 rfl rfl ?_
        refine g_ialdN (pc' := 55) (v := x) dX5_result_54 rfl rfl (by decide) (by omega) (hop) ?_
        refine g_istore (pc' := 57) dX5_result_55 rfl (by decide) rfl ?_
        try simp only [List.set]
        refine g_iload (pc' := 59) dX5_result_57 rfl rfl ?_
        refine g_bipushN (n := 124) (pc' := 61) dX5_result_59 rfl (by decide) ?_
        refine g_icmp_eqN (tgt := 71) (pc' := 64) dX5_result_61 rfl (by decide) (by decide) (by decide) (fun q => False.elim (by revert q; decide)) (fun _ => ?_)
        refine g_iload (pc' := 66) dX5_result_64 rfl rfl ?_
        refine g_bipushN (n := 38) (pc' := 68) dX5_result_66 rfl (by decide) ?_
        refine g_icmp_neN (tgt := 128) (pc' := 71) dX5_result_68 rfl (by decide) (by decide) (by decide) (fun _ => ?_) (fun q => False.elim (by revert q; decide))
        refine g_aload_n (pc' := 129) dX5_result_128 rfl rfl ?_
        refine g_iload (pc' := 131) dX5_result_129 rfl rfl ?_
        refine g_iload (pc' := 133) dX5_result_131 rfl rfl ?_
        refine g_invV (pc' := 136) (hD) dX5_result_133 rfl rfl ck_6 rfl ml_X5_81 im_X5_take sl_X5_take in_X5 co_X5_take pd_X5_take rfl (by omega) (by decide) ⟨by decide, by decide⟩ (Nat.le_of_ble_eq_true rfl) ?_
        rintro _ h' ⟨rfl, hD'⟩ -
        refine g_iincN (k := 1) (pc' := 139) dX5_result_136 rfl rfl (by decide) rfl ?_
        try simp only [List.set]
        refine g_goto (tgt := 16) dX5_result_139 (by decide) ?_
        refine G.drop 4 ?_
        refine G.drop 5 ?_
        simp only [List.set]
        have k := K h' hD'.1 hD'.2
        rcases v with _ | z
        · exact rc_exit hok (by omega) (by omega) hD'.2 k
        · exact k
set_option maxRecDepth 4000 in
theorem rc_take_62 {E : En} (hok : EOK E) {h h0 : Hp} (hs : Shp h.2) {d : Nat} (hd : 2 ≤ d) {Q : Option V → Hp → Prop} {T i a ti : Nat} (htx : h.2.1 (7, 0) 2 = some (6, ti)) (hT : T ≤ 200) (hi : i < T) (h4 : h.1 (7, 0) 4 = 0) {x : Int32} (hst : h.1 (35, ti) i = nI 62) (hop : h.1 (36, ti) i = x) {v : Option Int32} (hD : Call E m_X5_take 1 0 0 [vR (7, 0), vI (nI 62), vI x] h (fun r h' => r = none ∧ Rk a h h' ∧ RV h' a v)) (K : ∀ h', Rk a h h' → RV h' a v → Kn E d Q h0 T (i + 1) v h') : WC E d Q h0 T i h := by
  refine g_iload_n (pc' := 17) dX5_result_16 rfl rfl ?_
  refine g_iload_n (pc' := 18) dX5_result_17 rfl rfl ?_
  refine g_icmp_geN (tgt := 142) (pc' := 21) dX5_result_18 rfl (by decide) (by omega) (by omega) (fun c18 => ?_) (fun c18 => ?_)
  · exact absurd c18 (by omega)
  ·
    refine g_iload_n (pc' := 22) dX5_result_21 rfl rfl ?_
    refine g_sipushN (n := 200) (pc' := 25) dX5_result_22 rfl (by decide) ?_
    refine g_icmp_geN (tgt := 142) (pc' := 28) dX5_result_25 rfl (by decide) (by omega) (by omega) (fun c25 => ?_) (fun c25 => ?_)
    · exact absurd c25 (by omega)
    ·
      refine g_aload_n (pc' := 29) dX5_result_28 rfl rfl ?_
      refine g_getIv (v := 0) (pc' := 32) (k := 4) dX5_result_29 rfl rfl ck_6 (by decide) fl_X5_60 rfl (h4) ?_
      refine g_if_ne (tgt := 142) (pc' := 35) dX5_result_32 rfl (by decide) (fun c32 => ?_) (fun c32 => ?_)
      · exact absurd rfl c32
      ·
        refine g_aload_n (pc' := 36) dX5_result_35 rfl rfl ?_
        refine g_getR (pc' := 39) (k := 2) (r := some (6, ti)) dX5_result_36 rfl rfl ck_6 (by decide) fl_X5_9 rfl (htx) ?_
        refine g_getS (pc' := 42) (k := 0) (b := (35, ti)) dX5_result_39 rfl rfl ck_7 (by decide) fl_X5_67 rfl hs rfl ?_
        refine g_iload_n (pc' := 43) dX5_result_42 rfl rfl ?_
        refine g_ialdN (pc' := 44) (v := nI 62) dX5_result_43 rfl rfl (by decide) (by omega) (hst) ?_
        refine g_istore (pc' := 46) dX5_result_44 rfl (by decide) rfl ?_
        try simp only [List.set]
        refine g_aload_n (pc' := 47) dX5_result_46 rfl rfl ?_
        refine g_getR (pc' := 50) (k := 2) (r := some (6, ti)) dX5_result_47 rfl rfl ck_6 (by decide) fl_X5_9 rfl (htx) ?_
        refine g_getS (pc' := 53) (k := 1) (b := (36, ti)) dX5_result_50 rfl rfl ck_7 (by decide) fl_X5_70 rfl hs rfl ?_
        refine g_iload_n (pc' := 54) dX5_result_53 rfl rfl ?_
        refine g_ialdN (pc' := 55) (v := x) dX5_result_54 rfl rfl (by decide) (by omega) (hop) ?_
        refine g_istore (pc' := 57) dX5_result_55 rfl (by decide) rfl ?_
        try simp only [List.set]
        refine g_iload (pc' := 59) dX5_result_57 rfl rfl ?_
        refine g_bipushN (n := 124) (pc' := 61) dX5_result_59 rfl (by decide) ?_
        refine g_icmp_eqN (tgt := 71) (pc' := 64) dX5_result_61 rfl (by decide) (by decide) (by decide) (fun q => False.elim (by revert q; decide)) (fun _ => ?_)
        refine g_iload (pc' := 66) dX5_result_64 rfl rfl ?_
        refine g_bipushN (n := 38) (pc' := 68) dX5_result_66 rfl (by decide) ?_
        refine g_icmp_neN (tgt := 128) (pc' := 71) dX5_result_68 rfl (by decide) (by decide) (by decide) (fun _ => ?_) (fun q => False.elim (by revert q; decide))
        refine g_aload_n (pc' := 129) dX5_result_128 rfl rfl ?_
        refine g_iload (pc' := 131) dX5_result_129 rfl rfl ?_
        refine g_iload (pc' := 133) dX5_result_131 rfl rfl ?_
        refine g_invV (pc' := 136) (hD) dX5_result_133 rfl rfl ck_6 rfl ml_X5_81 im_X5_take sl_X5_take in_X5 co_X5_take pd_X5_take rfl (by omega) (by decide) ⟨by decide, by decide⟩ (Nat.le_of_ble_eq_true rfl) ?_
        rintro _ h' ⟨rfl, hD'⟩ -
        refine g_iincN (k := 1) (pc' := 139) dX5_result_136 rfl rfl (by decide) rfl ?_
        try simp only [List.set]
        refine g_goto (tgt := 16) dX5_result_139 (by decide) ?_
        refine G.drop 4 ?_
        refine G.drop 5 ?_
        simp only [List.set]
        have k := K h' hD'.1 hD'.2
        rcases v with _ | z
        · exact rc_exit hok (by omega) (by omega) hD'.2 k
        · exact k
set_option maxRecDepth 4000 in
theorem rc_take_61 {E : En} (hok : EOK E) {h h0 : Hp} (hs : Shp h.2) {d : Nat} (hd : 2 ≤ d) {Q : Option V → Hp → Prop} {T i a ti : Nat} (htx : h.2.1 (7, 0) 2 = some (6, ti)) (hT : T ≤ 200) (hi : i < T) (h4 : h.1 (7, 0) 4 = 0) {x : Int32} (hst : h.1 (35, ti) i = nI 61) (hop : h.1 (36, ti) i = x) {v : Option Int32} (hD : Call E m_X5_take 1 0 0 [vR (7, 0), vI (nI 61), vI x] h (fun r h' => r = none ∧ Rk a h h' ∧ RV h' a v)) (K : ∀ h', Rk a h h' → RV h' a v → Kn E d Q h0 T (i + 1) v h') : WC E d Q h0 T i h := by
  refine g_iload_n (pc' := 17) dX5_result_16 rfl rfl ?_
  refine g_iload_n (pc' := 18) dX5_result_17 rfl rfl ?_
  refine g_icmp_geN (tgt := 142) (pc' := 21) dX5_result_18 rfl (by decide) (by omega) (by omega) (fun c18 => ?_) (fun c18 => ?_)
  · exact absurd c18 (by omega)
  ·
    refine g_iload_n (pc' := 22) dX5_result_21 rfl rfl ?_
    refine g_sipushN (n := 200) (pc' := 25) dX5_result_22 rfl (by decide) ?_
    refine g_icmp_geN (tgt := 142) (pc' := 28) dX5_result_25 rfl (by decide) (by omega) (by omega) (fun c25 => ?_) (fun c25 => ?_)
    · exact absurd c25 (by omega)
    ·
      refine g_aload_n (pc' := 29) dX5_result_28 rfl rfl ?_
      refine g_getIv (v := 0) (pc' := 32) (k := 4) dX5_result_29 rfl rfl ck_6 (by decide) fl_X5_60 rfl (h4) ?_
      refine g_if_ne (tgt := 142) (pc' := 35) dX5_result_32 rfl (by decide) (fun c32 => ?_) (fun c32 => ?_)
      · exact absurd rfl c32
      ·
        refine g_aload_n (pc' := 36) dX5_result_35 rfl rfl ?_
        refine g_getR (pc' := 39) (k := 2) (r := some (6, ti)) dX5_result_36 rfl rfl ck_6 (by decide) fl_X5_9 rfl (htx) ?_
        refine g_getS (pc' := 42) (k := 0) (b := (35, ti)) dX5_result_39 rfl rfl ck_7 (by decide) fl_X5_67 rfl hs rfl ?_
        refine g_iload_n (pc' := 43) dX5_result_42 rfl rfl ?_
        refine g_ialdN (pc' := 44) (v := nI 61) dX5_result_43 rfl rfl (by decide) (by omega) (hst) ?_
        refine g_istore (pc' := 46) dX5_result_44 rfl (by decide) rfl ?_
        try simp only [List.set]
        refine g_aload_n (pc' := 47) dX5_result_46 rfl rfl ?_
        refine g_getR (pc' := 50) (k := 2) (r := some (6, ti)) dX5_result_47 rfl rfl ck_6 (by decide) fl_X5_9 rfl (htx) ?_
        refine g_getS (pc' := 53) (k := 1) (b := (36, ti)) dX5_result_50 rfl rfl ck_7 (by decide) fl_X5_70 rfl hs rfl ?_
        refine g_iload_n (pc' := 54) dX5_result_53 rfl rfl ?_
        refine g_ialdN (pc' := 55) (v := x) dX5_result_54 rfl rfl (by decide) (by omega) (hop) ?_
        refine g_istore (pc' := 57) dX5_result_55 rfl (by decide) rfl ?_
        try simp only [List.set]
        refine g_iload (pc' := 59) dX5_result_57 rfl rfl ?_
        refine g_bipushN (n := 124) (pc' := 61) dX5_result_59 rfl (by decide) ?_
        refine g_icmp_eqN (tgt := 71) (pc' := 64) dX5_result_61 rfl (by decide) (by decide) (by decide) (fun q => False.elim (by revert q; decide)) (fun _ => ?_)
        refine g_iload (pc' := 66) dX5_result_64 rfl rfl ?_
        refine g_bipushN (n := 38) (pc' := 68) dX5_result_66 rfl (by decide) ?_
        refine g_icmp_neN (tgt := 128) (pc' := 71) dX5_result_68 rfl (by decide) (by decide) (by decide) (fun _ => ?_) (fun q => False.elim (by revert q; decide))
        refine g_aload_n (pc' := 129) dX5_result_128 rfl rfl ?_
        refine g_iload (pc' := 131) dX5_result_129 rfl rfl ?_
        refine g_iload (pc' := 133) dX5_result_131 rfl rfl ?_
        refine g_invV (pc' := 136) (hD) dX5_result_133 rfl rfl ck_6 rfl ml_X5_81 im_X5_take sl_X5_take in_X5 co_X5_take pd_X5_take rfl (by omega) (by decide) ⟨by decide, by decide⟩ (Nat.le_of_ble_eq_true rfl) ?_
        rintro _ h' ⟨rfl, hD'⟩ -
        refine g_iincN (k := 1) (pc' := 139) dX5_result_136 rfl rfl (by decide) rfl ?_
        try simp only [List.set]
        refine g_goto (tgt := 16) dX5_result_139 (by decide) ?_
        refine G.drop 4 ?_
        refine G.drop 5 ?_
        simp only [List.set]
        have k := K h' hD'.1 hD'.2
        rcases v with _ | z
        · exact rc_exit hok (by omega) (by omega) hD'.2 k
        · exact k
set_option maxRecDepth 4000 in
theorem rc_j_38 {E : En} (hok : EOK E) {h h0 : Hp} (hs : Shp h.2) {d : Nat} (hd : 2 ≤ d) {Q : Option V → Hp → Prop} {T i a ti : Nat} (htx : h.2.1 (7, 0) 2 = some (6, ti)) (hT : T ≤ 200) (hi : i < T) (h4 : h.1 (7, 0) 4 = 0) {l : Nat} (hl : i < l) (hl2 : l ≤ 200) (ha : a < 200) (h3 : h.1 (7, 0) 3 = nI (a + 1)) (hv : h.1 (43, 0) a = nI 0) (hst : h.1 (35, ti) i = nI 38) (hop : h.1 (36, ti) i = nI l) (K : WC E d Q h0 T l (wI (wI (wI h (7, 0) 3 (nI a)) (43, 0) a (nI 0)) (7, 0) 3 (nI (a + 1)))) : WC E d Q h0 T i h := by
  refine g_iload_n (pc' := 17) dX5_result_16 rfl rfl ?_
  refine g_iload_n (pc' := 18) dX5_result_17 rfl rfl ?_
  refine g_icmp_geN (tgt := 142) (pc' := 21) dX5_result_18 rfl (by decide) (by omega) (by omega) (fun c18 => ?_) (fun c18 => ?_)
  · exact absurd c18 (by omega)
  ·
    refine g_iload_n (pc' := 22) dX5_result_21 rfl rfl ?_
    refine g_sipushN (n := 200) (pc' := 25) dX5_result_22 rfl (by decide) ?_
    refine g_icmp_geN (tgt := 142) (pc' := 28) dX5_result_25 rfl (by decide) (by omega) (by omega) (fun c25 => ?_) (fun c25 => ?_)
    · exact absurd c25 (by omega)
    ·
      refine g_aload_n (pc' := 29) dX5_result_28 rfl rfl ?_
      refine g_getIv (v := 0) (pc' := 32) (k := 4) dX5_result_29 rfl rfl ck_6 (by decide) fl_X5_60 rfl (h4) ?_
      refine g_if_ne (tgt := 142) (pc' := 35) dX5_result_32 rfl (by decide) (fun c32 => ?_) (fun c32 => ?_)
      · exact absurd rfl c32
      ·
        refine g_aload_n (pc' := 36) dX5_result_35 rfl rfl ?_
        refine g_getR (pc' := 39) (k := 2) (r := some (6, ti)) dX5_result_36 rfl rfl ck_6 (by decide) fl_X5_9 rfl (htx) ?_
        refine g_getS (pc' := 42) (k := 0) (b := (35, ti)) dX5_result_39 rfl rfl ck_7 (by decide) fl_X5_67 rfl hs rfl ?_
        refine g_iload_n (pc' := 43) dX5_result_42 rfl rfl ?_
        refine g_ialdN (pc' := 44) (v := nI 38) dX5_result_43 rfl rfl (by decide) (by omega) (hst) ?_
        refine g_istore (pc' := 46) dX5_result_44 rfl (by decide) rfl ?_
        try simp only [List.set]
        refine g_aload_n (pc' := 47) dX5_result_46 rfl rfl ?_
        refine g_getR (pc' := 50) (k := 2) (r := some (6, ti)) dX5_result_47 rfl rfl ck_6 (by decide) fl_X5_9 rfl (htx) ?_
        refine g_getS (pc' := 53) (k := 1) (b := (36, ti)) dX5_result_50 rfl rfl ck_7 (by decide) fl_X5_70 rfl hs rfl ?_
        refine g_iload_n (pc' := 54) dX5_result_53 rfl rfl ?_
        refine g_ialdN (pc' := 55) (v := nI l) dX5_result_54 rfl rfl (by decide) (by omega) (hop) ?_
        refine g_istore (pc' := 57) dX5_result_55 rfl (by decide) rfl ?_
        try simp only [List.set]
        refine g_iload (pc' := 59) dX5_result_57 rfl rfl ?_
        refine g_bipushN (n := 124) (pc' := 61) dX5_result_59 rfl (by decide) ?_
        refine g_icmp_eqN (tgt := 71) (pc' := 64) dX5_result_61 rfl (by decide) (by decide) (by decide) (fun q => False.elim (by revert q; decide)) (fun _ => ?_)
        refine g_iload (pc' := 66) dX5_result_64 rfl rfl ?_
        refine g_bipushN (n := 38) (pc' := 68) dX5_result_66 rfl (by decide) ?_
        refine g_icmp_neN (tgt := 128) (pc' := 71) dX5_result_68 rfl (by decide) (by decide) (by decide) (fun q => False.elim (by revert q; decide)) (fun _ => ?_)
        refine g_aload_n (pc' := 72) dX5_result_71 rfl rfl ?_
        refine g_invV (pc' := 75) (cx_pop hok hs (a := a) (by omega) h3) dX5_result_72 rfl rfl ck_6 rfl ml_X5_73 im_X5_pop sl_X5_pop in_X5 co_X5_pop pd_X5_pop rfl (by omega) (by decide) ⟨by decide, by decide⟩ (Nat.le_of_ble_eq_true rfl) ?_
        rintro _ _ ⟨rfl, rfl⟩ -
        rw [hv]
        refine g_if_eqN (tgt := 82) (pc' := 78) dX5_result_75 rfl (by decide) (by decide) (fun _ => ?_) (fun q => False.elim (by revert q; decide))
        refine g_iconstN (n := 0) (pc' := 83) dX5_result_82 rfl ?_
        refine g_istore (pc' := 85) dX5_result_83 rfl (by decide) rfl ?_
        try simp only [List.set]
        refine g_iload (pc' := 87) dX5_result_85 rfl rfl ?_
        refine g_iload (pc' := 89) dX5_result_87 rfl rfl ?_
        refine g_bipushN (n := 124) (pc' := 91) dX5_result_89 rfl (by decide) ?_
        refine g_icmp_neN (tgt := 98) (pc' := 94) dX5_result_91 rfl (by decide) (by decide) (by decide) (fun _ => ?_) (fun q => False.elim (by revert q; decide))
        refine g_iconstN (n := 0) (pc' := 99) dX5_result_98 rfl ?_
        refine g_icmp_neN (tgt := 125) (pc' := 102) dX5_result_99 rfl (by decide) (by decide) (by decide) (fun q => False.elim (by revert q; decide)) (fun _ => ?_)
        refine g_aload_n (pc' := 103) dX5_result_102 rfl rfl ?_
        refine g_iload (pc' := 105) dX5_result_103 rfl rfl ?_
        refine g_if_eqN (tgt := 112) (pc' := 108) dX5_result_105 rfl (by decide) (by decide) (fun _ => ?_) (fun q => False.elim (by revert q; decide))
        refine g_iconstN (n := 0) (pc' := 113) dX5_result_112 rfl ?_
        refine g_invV (pc' := 116) (cx_push hok (by exact hs) (a := a) (by omega) (by exact wI_same _ _ _ _) _) dX5_result_113 rfl rfl ck_6 rfl ml_X5_77 im_X5_push sl_X5_push in_X5 co_X5_push pd_X5_push rfl (by omega) (by decide) ⟨by decide, by decide⟩ (Nat.le_of_ble_eq_true rfl) ?_
        rintro _ _ ⟨rfl, rfl⟩ -
        refine g_iload_n (pc' := 117) dX5_result_116 rfl rfl ?_
        refine g_iload (pc' := 119) dX5_result_117 rfl rfl ?_
        refine g_iconstN (n := 1) (pc' := 120) dX5_result_119 rfl ?_
        refine g_isubN (pc' := 121) dX5_result_120 rfl (by omega) ?_
        refine g_max (pc' := 124) dX5_result_121 rfl ml_X5_50 mx_s in_J9 mx_c (by omega) (by decide) (by decide) (Nat.le_of_ble_eq_true rfl) ?_
        rw [mx_n (show i ≤ l - 1 by omega) (by omega)]
        refine g_istore_n (pc' := 125) dX5_result_124 rfl (by decide) rfl ?_
        try simp only [List.set]
        refine g_goto (tgt := 136) dX5_result_125 (by decide) ?_
        refine g_iincN (k := 1) (pc' := 139) dX5_result_136 rfl rfl (by decide) rfl ?_
        try simp only [List.set]
        refine g_goto (tgt := 16) dX5_result_139 (by decide) ?_
        refine G.drop 4 ?_
        refine G.drop 5 ?_
        refine G.drop 6 ?_
        simp only [List.set]
        have el : l - 1 + 1 = l := by omega
        rw [el]
        exact K
set_option maxRecDepth 4000 in
theorem rc_n_38 {E : En} (hok : EOK E) {h h0 : Hp} (hs : Shp h.2) {d : Nat} (hd : 2 ≤ d) {Q : Option V → Hp → Prop} {T i a ti : Nat} (htx : h.2.1 (7, 0) 2 = some (6, ti)) (hT : T ≤ 200) (hi : i < T) (h4 : h.1 (7, 0) 4 = 0) {x : Int32} (ha : a < 200) (h3 : h.1 (7, 0) 3 = nI (a + 1)) (hv : h.1 (43, 0) a = nI 1) (hst : h.1 (35, ti) i = nI 38) (hop : h.1 (36, ti) i = x) (K : WC E d Q h0 T (i + 1) (wI h (7, 0) 3 (nI a))) : WC E d Q h0 T i h := by
  refine g_iload_n (pc' := 17) dX5_result_16 rfl rfl ?_
  refine g_iload_n (pc' := 18) dX5_result_17 rfl rfl ?_
  refine g_icmp_geN (tgt := 142) (pc' := 21) dX5_result_18 rfl (by decide) (by omega) (by omega) (fun c18 => ?_) (fun c18 => ?_)
  · exact absurd c18 (by omega)
  ·
    refine g_iload_n (pc' := 22) dX5_result_21 rfl rfl ?_
    refine g_sipushN (n := 200) (pc' := 25) dX5_result_22 rfl (by decide) ?_
    refine g_icmp_geN (tgt := 142) (pc' := 28) dX5_result_25 rfl (by decide) (by omega) (by omega) (fun c25 => ?_) (fun c25 => ?_)
    · exact absurd c25 (by omega)
    ·
      refine g_aload_n (pc' := 29) dX5_result_28 rfl rfl ?_
      refine g_getIv (v := 0) (pc' := 32) (k := 4) dX5_result_29 rfl rfl ck_6 (by decide) fl_X5_60 rfl (h4) ?_
      refine g_if_ne (tgt := 142) (pc' := 35) dX5_result_32 rfl (by decide) (fun c32 => ?_) (fun c32 => ?_)
      · exact absurd rfl c32
      ·
        refine g_aload_n (pc' := 36) dX5_result_35 rfl rfl ?_
        refine g_getR (pc' := 39) (k := 2) (r := some (6, ti)) dX5_result_36 rfl rfl ck_6 (by decide) fl_X5_9 rfl (htx) ?_
        refine g_getS (pc' := 42) (k := 0) (b := (35, ti)) dX5_result_39 rfl rfl ck_7 (by decide) fl_X5_67 rfl hs rfl ?_
        refine g_iload_n (pc' := 43) dX5_result_42 rfl rfl ?_
        refine g_ialdN (pc' := 44) (v := nI 38) dX5_result_43 rfl rfl (by decide) (by omega) (hst) ?_
        refine g_istore (pc' := 46) dX5_result_44 rfl (by decide) rfl ?_
        try simp only [List.set]
        refine g_aload_n (pc' := 47) dX5_result_46 rfl rfl ?_
        refine g_getR (pc' := 50) (k := 2) (r := some (6, ti)) dX5_result_47 rfl rfl ck_6 (by decide) fl_X5_9 rfl (htx) ?_
        refine g_getS (pc' := 53) (k := 1) (b := (36, ti)) dX5_result_50 rfl rfl ck_7 (by decide) fl_X5_70 rfl hs rfl ?_
        refine g_iload_n (pc' := 54) dX5_result_53 rfl rfl ?_
        refine g_ialdN (pc' := 55) (v := x) dX5_result_54 rfl rfl (by decide) (by omega) (hop) ?_
        refine g_istore (pc' := 57) dX5_result_55 rfl (by decide) rfl ?_
        try simp only [List.set]
        refine g_iload (pc' := 59) dX5_result_57 rfl rfl ?_
        refine g_bipushN (n := 124) (pc' := 61) dX5_result_59 rfl (by decide) ?_
        refine g_icmp_eqN (tgt := 71) (pc' := 64) dX5_result_61 rfl (by decide) (by decide) (by decide) (fun q => False.elim (by revert q; decide)) (fun _ => ?_)
        refine g_iload (pc' := 66) dX5_result_64 rfl rfl ?_
        refine g_bipushN (n := 38) (pc' := 68) dX5_result_66 rfl (by decide) ?_
        refine g_icmp_neN (tgt := 128) (pc' := 71) dX5_result_68 rfl (by decide) (by decide) (by decide) (fun q => False.elim (by revert q; decide)) (fun _ => ?_)
        refine g_aload_n (pc' := 72) dX5_result_71 rfl rfl ?_
        refine g_invV (pc' := 75) (cx_pop hok hs (a := a) (by omega) h3) dX5_result_72 rfl rfl ck_6 rfl ml_X5_73 im_X5_pop sl_X5_pop in_X5 co_X5_pop pd_X5_pop rfl (by omega) (by decide) ⟨by decide, by decide⟩ (Nat.le_of_ble_eq_true rfl) ?_
        rintro _ _ ⟨rfl, rfl⟩ -
        rw [hv]
        refine g_if_eqN (tgt := 82) (pc' := 78) dX5_result_75 rfl (by decide) (by decide) (fun q => False.elim (by revert q; decide)) (fun _ => ?_)
        refine g_iconstN (n := 1) (pc' := 79) dX5_result_78 rfl ?_
        refine g_goto (tgt := 83) dX5_result_79 (by decide) ?_
        refine g_istore (pc' := 85) dX5_result_83 rfl (by decide) rfl ?_
        try simp only [List.set]
        refine g_iload (pc' := 87) dX5_result_85 rfl rfl ?_
        refine g_iload (pc' := 89) dX5_result_87 rfl rfl ?_
        refine g_bipushN (n := 124) (pc' := 91) dX5_result_89 rfl (by decide) ?_
        refine g_icmp_neN (tgt := 98) (pc' := 94) dX5_result_91 rfl (by decide) (by decide) (by decide) (fun _ => ?_) (fun q => False.elim (by revert q; decide))
        refine g_iconstN (n := 0) (pc' := 99) dX5_result_98 rfl ?_
        refine g_icmp_neN (tgt := 125) (pc' := 102) dX5_result_99 rfl (by decide) (by decide) (by decide) (fun _ => ?_) (fun q => False.elim (by revert q; decide))
        refine g_goto (tgt := 136) dX5_result_125 (by decide) ?_
        refine g_iincN (k := 1) (pc' := 139) dX5_result_136 rfl rfl (by decide) rfl ?_
        try simp only [List.set]
        refine g_goto (tgt := 16) dX5_result_139 (by decide) ?_
        refine G.drop 4 ?_
        refine G.drop 5 ?_
        refine G.drop 6 ?_
        simp only [List.set]
        exact K
set_option maxRecDepth 4000 in
theorem rc_n_124 {E : En} (hok : EOK E) {h h0 : Hp} (hs : Shp h.2) {d : Nat} (hd : 2 ≤ d) {Q : Option V → Hp → Prop} {T i a ti : Nat} (htx : h.2.1 (7, 0) 2 = some (6, ti)) (hT : T ≤ 200) (hi : i < T) (h4 : h.1 (7, 0) 4 = 0) {x : Int32} (ha : a < 200) (h3 : h.1 (7, 0) 3 = nI (a + 1)) (hv : h.1 (43, 0) a = nI 0) (hst : h.1 (35, ti) i = nI 124) (hop : h.1 (36, ti) i = x) (K : WC E d Q h0 T (i + 1) (wI h (7, 0) 3 (nI a))) : WC E d Q h0 T i h := by
  refine g_iload_n (pc' := 17) dX5_result_16 rfl rfl ?_
  refine g_iload_n (pc' := 18) dX5_result_17 rfl rfl ?_
  refine g_icmp_geN (tgt := 142) (pc' := 21) dX5_result_18 rfl (by decide) (by omega) (by omega) (fun c18 => ?_) (fun c18 => ?_)
  · exact absurd c18 (by omega)
  ·
    refine g_iload_n (pc' := 22) dX5_result_21 rfl rfl ?_
    refine g_sipushN (n := 200) (pc' := 25) dX5_result_22 rfl (by decide) ?_
    refine g_icmp_geN (tgt := 142) (pc' := 28) dX5_result_25 rfl (by decide) (by omega) (by omega) (fun c25 => ?_) (fun c25 => ?_)
    · exact absurd c25 (by omega)
    ·
      refine g_aload_n (pc' := 29) dX5_result_28 rfl rfl ?_
      refine g_getIv (v := 0) (pc' := 32) (k := 4) dX5_result_29 rfl rfl ck_6 (by decide) fl_X5_60 rfl (h4) ?_
      refine g_if_ne (tgt := 142) (pc' := 35) dX5_result_32 rfl (by decide) (fun c32 => ?_) (fun c32 => ?_)
      · exact absurd rfl c32
      ·
        refine g_aload_n (pc' := 36) dX5_result_35 rfl rfl ?_
        refine g_getR (pc' := 39) (k := 2) (r := some (6, ti)) dX5_result_36 rfl rfl ck_6 (by decide) fl_X5_9 rfl (htx) ?_
        refine g_getS (pc' := 42) (k := 0) (b := (35, ti)) dX5_result_39 rfl rfl ck_7 (by decide) fl_X5_67 rfl hs rfl ?_
        refine g_iload_n (pc' := 43) dX5_result_42 rfl rfl ?_
        refine g_ialdN (pc' := 44) (v := nI 124) dX5_result_43 rfl rfl (by decide) (by omega) (hst) ?_
        refine g_istore (pc' := 46) dX5_result_44 rfl (by decide) rfl ?_
        try simp only [List.set]
        refine g_aload_n (pc' := 47) dX5_result_46 rfl rfl ?_
        refine g_getR (pc' := 50) (k := 2) (r := some (6, ti)) dX5_result_47 rfl rfl ck_6 (by decide) fl_X5_9 rfl (htx) ?_
        refine g_getS (pc' := 53) (k := 1) (b := (36, ti)) dX5_result_50 rfl rfl ck_7 (by decide) fl_X5_70 rfl hs rfl ?_
        refine g_iload_n (pc' := 54) dX5_result_53 rfl rfl ?_
        refine g_ialdN (pc' := 55) (v := x) dX5_result_54 rfl rfl (by decide) (by omega) (hop) ?_
        refine g_istore (pc' := 57) dX5_result_55 rfl (by decide) rfl ?_
        try simp only [List.set]
        refine g_iload (pc' := 59) dX5_result_57 rfl rfl ?_
        refine g_bipushN (n := 124) (pc' := 61) dX5_result_59 rfl (by decide) ?_
        refine g_icmp_eqN (tgt := 71) (pc' := 64) dX5_result_61 rfl (by decide) (by decide) (by decide) (fun _ => ?_) (fun q => False.elim (by revert q; decide))
        refine g_aload_n (pc' := 72) dX5_result_71 rfl rfl ?_
        refine g_invV (pc' := 75) (cx_pop hok hs (a := a) (by omega) h3) dX5_result_72 rfl rfl ck_6 rfl ml_X5_73 im_X5_pop sl_X5_pop in_X5 co_X5_pop pd_X5_pop rfl (by omega) (by decide) ⟨by decide, by decide⟩ (Nat.le_of_ble_eq_true rfl) ?_
        rintro _ _ ⟨rfl, rfl⟩ -
        rw [hv]
        refine g_if_eqN (tgt := 82) (pc' := 78) dX5_result_75 rfl (by decide) (by decide) (fun _ => ?_) (fun q => False.elim (by revert q; decide))
        refine g_iconstN (n := 0) (pc' := 83) dX5_result_82 rfl ?_
        refine g_istore (pc' := 85) dX5_result_83 rfl (by decide) rfl ?_
        try simp only [List.set]
        refine g_iload (pc' := 87) dX5_result_85 rfl rfl ?_
        refine g_iload (pc' := 89) dX5_result_87 rfl rfl ?_
        refine g_bipushN (n := 124) (pc' := 91) dX5_result_89 rfl (by decide) ?_
        refine g_icmp_neN (tgt := 98) (pc' := 94) dX5_result_91 rfl (by decide) (by decide) (by decide) (fun q => False.elim (by revert q; decide)) (fun _ => ?_)
        refine g_iconstN (n := 1) (pc' := 95) dX5_result_94 rfl ?_
        refine g_goto (tgt := 99) dX5_result_95 (by decide) ?_
        refine g_icmp_neN (tgt := 125) (pc' := 102) dX5_result_99 rfl (by decide) (by decide) (by decide) (fun _ => ?_) (fun q => False.elim (by revert q; decide))
        refine g_goto (tgt := 136) dX5_result_125 (by decide) ?_
        refine g_iincN (k := 1) (pc' := 139) dX5_result_136 rfl rfl (by decide) rfl ?_
        try simp only [List.set]
        refine g_goto (tgt := 16) dX5_result_139 (by decide) ?_
        refine G.drop 4 ?_
        refine G.drop 5 ?_
        refine G.drop 6 ?_
        simp only [List.set]
        exact K
set_option maxRecDepth 4000 in
theorem rc_j_124 {E : En} (hok : EOK E) {h h0 : Hp} (hs : Shp h.2) {d : Nat} (hd : 2 ≤ d) {Q : Option V → Hp → Prop} {T i a ti : Nat} (htx : h.2.1 (7, 0) 2 = some (6, ti)) (hT : T ≤ 200) (hi : i < T) (h4 : h.1 (7, 0) 4 = 0) {l : Nat} (hl : i < l) (hl2 : l ≤ 200) (ha : a < 200) (h3 : h.1 (7, 0) 3 = nI (a + 1)) (hv : h.1 (43, 0) a = nI 1) (hst : h.1 (35, ti) i = nI 124) (hop : h.1 (36, ti) i = nI l) (K : WC E d Q h0 T l (wI (wI (wI h (7, 0) 3 (nI a)) (43, 0) a (nI 1)) (7, 0) 3 (nI (a + 1)))) : WC E d Q h0 T i h := by
  refine g_iload_n (pc' := 17) dX5_result_16 rfl rfl ?_
  refine g_iload_n (pc' := 18) dX5_result_17 rfl rfl ?_
  refine g_icmp_geN (tgt := 142) (pc' := 21) dX5_result_18 rfl (by decide) (by omega) (by omega) (fun c18 => ?_) (fun c18 => ?_)
  · exact absurd c18 (by omega)
  ·
    refine g_iload_n (pc' := 22) dX5_result_21 rfl rfl ?_
    refine g_sipushN (n := 200) (pc' := 25) dX5_result_22 rfl (by decide) ?_
    refine g_icmp_geN (tgt := 142) (pc' := 28) dX5_result_25 rfl (by decide) (by omega) (by omega) (fun c25 => ?_) (fun c25 => ?_)
    · exact absurd c25 (by omega)
    ·
      refine g_aload_n (pc' := 29) dX5_result_28 rfl rfl ?_
      refine g_getIv (v := 0) (pc' := 32) (k := 4) dX5_result_29 rfl rfl ck_6 (by decide) fl_X5_60 rfl (h4) ?_
      refine g_if_ne (tgt := 142) (pc' := 35) dX5_result_32 rfl (by decide) (fun c32 => ?_) (fun c32 => ?_)
      · exact absurd rfl c32
      ·
        refine g_aload_n (pc' := 36) dX5_result_35 rfl rfl ?_
        refine g_getR (pc' := 39) (k := 2) (r := some (6, ti)) dX5_result_36 rfl rfl ck_6 (by decide) fl_X5_9 rfl (htx) ?_
        refine g_getS (pc' := 42) (k := 0) (b := (35, ti)) dX5_result_39 rfl rfl ck_7 (by decide) fl_X5_67 rfl hs rfl ?_
        refine g_iload_n (pc' := 43) dX5_result_42 rfl rfl ?_
        refine g_ialdN (pc' := 44) (v := nI 124) dX5_result_43 rfl rfl (by decide) (by omega) (hst) ?_
        refine g_istore (pc' := 46) dX5_result_44 rfl (by decide) rfl ?_
        try simp only [List.set]
        refine g_aload_n (pc' := 47) dX5_result_46 rfl rfl ?_
        refine g_getR (pc' := 50) (k := 2) (r := some (6, ti)) dX5_result_47 rfl rfl ck_6 (by decide) fl_X5_9 rfl (htx) ?_
        refine g_getS (pc' := 53) (k := 1) (b := (36, ti)) dX5_result_50 rfl rfl ck_7 (by decide) fl_X5_70 rfl hs rfl ?_
        refine g_iload_n (pc' := 54) dX5_result_53 rfl rfl ?_
        refine g_ialdN (pc' := 55) (v := nI l) dX5_result_54 rfl rfl (by decide) (by omega) (hop) ?_
        refine g_istore (pc' := 57) dX5_result_55 rfl (by decide) rfl ?_
        try simp only [List.set]
        refine g_iload (pc' := 59) dX5_result_57 rfl rfl ?_
        refine g_bipushN (n := 124) (pc' := 61) dX5_result_59 rfl (by decide) ?_
        refine g_icmp_eqN (tgt := 71) (pc' := 64) dX5_result_61 rfl (by decide) (by decide) (by decide) (fun _ => ?_) (fun q => False.elim (by revert q; decide))
        refine g_aload_n (pc' := 72) dX5_result_71 rfl rfl ?_
        refine g_invV (pc' := 75) (cx_pop hok hs (a := a) (by omega) h3) dX5_result_72 rfl rfl ck_6 rfl ml_X5_73 im_X5_pop sl_X5_pop in_X5 co_X5_pop pd_X5_pop rfl (by omega) (by decide) ⟨by decide, by decide⟩ (Nat.le_of_ble_eq_true rfl) ?_
        rintro _ _ ⟨rfl, rfl⟩ -
        rw [hv]
        refine g_if_eqN (tgt := 82) (pc' := 78) dX5_result_75 rfl (by decide) (by decide) (fun q => False.elim (by revert q; decide)) (fun _ => ?_)
        refine g_iconstN (n := 1) (pc' := 79) dX5_result_78 rfl ?_
        refine g_goto (tgt := 83) dX5_result_79 (by decide) ?_
        refine g_istore (pc' := 85) dX5_result_83 rfl (by decide) rfl ?_
        try simp only [List.set]
        refine g_iload (pc' := 87) dX5_result_85 rfl rfl ?_
        refine g_iload (pc' := 89) dX5_result_87 rfl rfl ?_
        refine g_bipushN (n := 124) (pc' := 91) dX5_result_89 rfl (by decide) ?_
        refine g_icmp_neN (tgt := 98) (pc' := 94) dX5_result_91 rfl (by decide) (by decide) (by decide) (fun q => False.elim (by revert q; decide)) (fun _ => ?_)
        refine g_iconstN (n := 1) (pc' := 95) dX5_result_94 rfl ?_
        refine g_goto (tgt := 99) dX5_result_95 (by decide) ?_
        refine g_icmp_neN (tgt := 125) (pc' := 102) dX5_result_99 rfl (by decide) (by decide) (by decide) (fun q => False.elim (by revert q; decide)) (fun _ => ?_)
        refine g_aload_n (pc' := 103) dX5_result_102 rfl rfl ?_
        refine g_iload (pc' := 105) dX5_result_103 rfl rfl ?_
        refine g_if_eqN (tgt := 112) (pc' := 108) dX5_result_105 rfl (by decide) (by decide) (fun q => False.elim (by revert q; decide)) (fun _ => ?_)
        refine g_iconstN (n := 1) (pc' := 109) dX5_result_108 rfl ?_
        refine g_goto (tgt := 113) dX5_result_109 (by decide) ?_
        refine g_invV (pc' := 116) (cx_push hok (by exact hs) (a := a) (by omega) (by exact wI_same _ _ _ _) _) dX5_result_113 rfl rfl ck_6 rfl ml_X5_77 im_X5_push sl_X5_push in_X5 co_X5_push pd_X5_push rfl (by omega) (by decide) ⟨by decide, by decide⟩ (Nat.le_of_ble_eq_true rfl) ?_
        rintro _ _ ⟨rfl, rfl⟩ -
        refine g_iload_n (pc' := 117) dX5_result_116 rfl rfl ?_
        refine g_iload (pc' := 119) dX5_result_117 rfl rfl ?_
        refine g_iconstN (n := 1) (pc' := 120) dX5_result_119 rfl ?_
        refine g_isubN (pc' := 121) dX5_result_120 rfl (by omega) ?_
        refine g_max (pc' := 124) dX5_result_121 rfl ml_X5_50 mx_s in_J9 mx_c (by omega) (by decide) (by decide) (Nat.le_of_ble_eq_true rfl) ?_
        rw [mx_n (show i ≤ l - 1 by omega) (by omega)]
        refine g_istore_n (pc' := 125) dX5_result_124 rfl (by decide) rfl ?_
        try simp only [List.set]
        refine g_goto (tgt := 136) dX5_result_125 (by decide) ?_
        refine g_iincN (k := 1) (pc' := 139) dX5_result_136 rfl rfl (by decide) rfl ?_
        try simp only [List.set]
        refine g_goto (tgt := 16) dX5_result_139 (by decide) ?_
        refine G.drop 4 ?_
        refine G.drop 5 ?_
        refine G.drop 6 ?_
        simp only [List.set]
        have el : l - 1 + 1 = l := by omega
        rw [el]
        exact K
set_option maxRecDepth 4000 in
theorem wc_sc {E : En} (hok : EOK E) {s p e : Nat → Int32} {ti : Nat} {d : Nat} (hd : 2 ≤ d) {Q : Option V → Hp → Prop} {h0 : Hp} {T : Nat} (hT : T ≤ 200) {i j : Nat} {b : Bool} {F : Mng} (hS : SC s p i j b F) : j ≤ T → ∀ a h, Rq s p e ti h → Tp h a → a + (j - i) ≤ 200 → (∀ h', Rk a h h' → RV h' a (F e) → Kn E d Q h0 T j (F e) h') → WC E d Q h0 T i h := by
  have key : i < j ∧ (b = true → isB (F e)) ∧ (j ≤ T → ∀ a h, Rq s p e ti h → Tp h a → a + (j - i) ≤ 200 → (∀ h', Rk a h h' → RV h' a (F e) → Kn E d Q h0 T j (F e) h') → WC E d Q h0 T i h) := by
    refine hS (fun i j b F => i < j ∧ (b = true → isB (F e)) ∧ (j ≤ T → ∀ a h, Rq s p e ti h → Tp h a → a + (j - i) ≤ 200 → (∀ h', Rk a h h' → RV h' a (F e) → Kn E d Q h0 T j (F e) h') → WC E d Q h0 T i h)) ⟨?_, ?_, ?_, ?_, ?_, ?_, ?_⟩
    · intro i hc
      refine ⟨Nat.lt_succ_self i, (fun z => by cases z), fun hj a h q ht ha K => ?_⟩
      exact rc_take_48 hok q.1 hd q.2.1 hT (by omega) ht.2 ((q.2.2.1 i).trans hc) (q.2.2.2.1 i) (cx_take_48 hok q.1 (by omega) ht _) K
    · intro i l hc hl hla
      refine ⟨Nat.lt_succ_self i, (fun z => by cases z), fun hj a h q ht ha K => ?_⟩
      have hu : l - 97 < 26 := by
        unfold isLt at hl
        omega
      have hD := cx_take_97 hok q.1 (a := a) (by omega) ht hu
      rw [q.2.2.2.2 l hl] at hD
      exact rc_take_97 hok q.1 hd q.2.1 hT (by omega) ht.2 ((q.2.2.1 i).trans hc) ((q.2.2.2.1 i).trans hla) hD K
    · intro i k F q1 hc
      refine ⟨by omega, fun _ => isB_not (q1.2.1 rfl), fun hj a h q ht ha K => q1.2.2 (by omega) a h q ht (by omega) fun h1 w1 v1 => ?_⟩
      have hb := q1.2.1 rfl
      have K' : ∀ h', Rk a h h' → RV h' a (vNot (F e)) → Kn E d Q h0 T (k + 1) (vNot (F e)) h' := K
      rcases hF : F e with _ | x
      · rw [hF] at v1 K'
        exact K' h1 w1 v1
      · rw [hF] at v1 K' hb
        obtain ⟨t1, e1⟩ := v1
        have r1 := q.rk w1
        have hx : h1.1 (43, 0) a = 0 ∨ h1.1 (43, 0) a = 1 := by
          rw [e1]
          rcases hb with z | z | z
          · cases z
          · exact Or.inl (Option.some.inj z)
          · exact Or.inr (Option.some.inj z)
        have hD := cx_take_33 hok r1.1 (a := a) (by omega) t1 hx (p k)
        rw [e1] at hD
        exact rc_take_33 hok r1.1 hd r1.2.1 hT (by omega) t1.2 ((r1.2.2.1 k).trans hc) (r1.2.2.2.1 k) hD (fun h2 w2 v2 => K' h2 (w1.tr w2) v2)
    · intro i k l F1 F2 g q1 q2 hc hg
      refine ⟨by omega, (fun z => by cases z), fun hj a h q ht ha K => q1.2.2 (by omega) a h q ht (by omega) fun h1 w1 v1 => ?_⟩
      have K' : ∀ h', Rk a h h' → RV h' a (vBin g (F1 e) (F2 e)) → Kn E d Q h0 T (l + 1) (vBin g (F1 e) (F2 e)) h' := K
      rcases hF : F1 e with _ | x
      · rw [hF] at v1 K'
        exact K' h1 w1 v1
      · rw [hF] at v1 K'
        obtain ⟨t1, e1⟩ := v1
        have r1 := q.rk w1
        refine q2.2.2 (by omega) (a + 1) h1 r1 t1 (by omega) fun h2 w2 v2 => ?_
        have w12 := w1.tr (w2.le (Nat.le_succ a))
        rcases hG : F2 e with _ | y
        · rw [hG] at v2 K'
          exact K' h2 w12 v2
        · rw [hG] at v2 K'
          obtain ⟨t2, e2⟩ := v2
          have r2 := r1.rk w2
          have e1' : h2.1 (43, 0) a = x := (w2.2.2 a (Nat.lt_succ_self a)).trans e1
          rcases hg with rfl | rfl | rfl | rfl | rfl
          · have hD := cx_take_43 hok r2.1 (a := a) (by omega) t2 (p l)
            rw [e1', e2] at hD
            exact rc_take_43 hok r2.1 hd r2.2.1 hT (by omega) t2.2 ((r2.2.2.1 l).trans hc) (r2.2.2.2.1 l) hD (fun h3 w3 v3 => K' h3 (w12.tr w3) v3)
          · have hD := cx_take_45 hok r2.1 (a := a) (by omega) t2 (p l)
            rw [e1', e2] at hD
            exact rc_take_45 hok r2.1 hd r2.2.1 hT (by omega) t2.2 ((r2.2.2.1 l).trans hc) (r2.2.2.2.1 l) hD (fun h3 w3 v3 => K' h3 (w12.tr w3) v3)
          · have hD := cx_take_42 hok r2.1 (a := a) (by omega) t2 (p l)
            rw [e1', e2] at hD
            exact rc_take_42 hok r2.1 hd r2.2.1 hT (by omega) t2.2 ((r2.2.2.1 l).trans hc) (r2.2.2.2.1 l) hD (fun h3 w3 v3 => K' h3 (w12.tr w3) v3)
          · have hD := cx_take_47 hok r2.1 (a := a) (by omega) t2 (p l)
            rw [e1', e2] at hD
            exact rc_take_47 hok r2.1 hd r2.2.1 hT (by omega) t2.2 ((r2.2.2.1 l).trans hc) (r2.2.2.2.1 l) hD (fun h3 w3 v3 => K' h3 (w12.tr w3) v3)
          · have hD := cx_take_37 hok r2.1 (a := a) (by omega) t2 (p l)
            rw [e1', e2] at hD
            exact rc_take_37 hok r2.1 hd r2.2.1 hT (by omega) t2.2 ((r2.2.2.1 l).trans hc) (r2.2.2.2.1 l) hD (fun h3 w3 v3 => K' h3 (w12.tr w3) v3)
    · intro i k l F1 F2 g q1 q2 hc hg
      refine ⟨by omega, fun _ => isB_cmp hg _ _, fun hj a h q ht ha K => q1.2.2 (by omega) a h q ht (by omega) fun h1 w1 v1 => ?_⟩
      have K' : ∀ h', Rk a h h' → RV h' a (vBin g (F1 e) (F2 e)) → Kn E d Q h0 T (l + 1) (vBin g (F1 e) (F2 e)) h' := K
      rcases hF : F1 e with _ | x
      · rw [hF] at v1 K'
        exact K' h1 w1 v1
      · rw [hF] at v1 K'
        obtain ⟨t1, e1⟩ := v1
        have r1 := q.rk w1
        refine q2.2.2 (by omega) (a + 1) h1 r1 t1 (by omega) fun h2 w2 v2 => ?_
        have w12 := w1.tr (w2.le (Nat.le_succ a))
        rcases hG : F2 e with _ | y
        · rw [hG] at v2 K'
          exact K' h2 w12 v2
        · rw [hG] at v2 K'
          obtain ⟨t2, e2⟩ := v2
          have r2 := r1.rk w2
          have e1' : h2.1 (43, 0) a = x := (w2.2.2 a (Nat.lt_succ_self a)).trans e1
          rcases hg with rfl | rfl | rfl
          · have hD := cx_take_60 hok r2.1 (a := a) (by omega) t2 (p l)
            rw [e1', e2] at hD
            exact rc_take_60 hok r2.1 hd r2.2.1 hT (by omega) t2.2 ((r2.2.2.1 l).trans hc) (r2.2.2.2.1 l) hD (fun h3 w3 v3 => K' h3 (w12.tr w3) v3)
          · have hD := cx_take_62 hok r2.1 (a := a) (by omega) t2 (p l)
            rw [e1', e2] at hD
            exact rc_take_62 hok r2.1 hd r2.2.1 hT (by omega) t2.2 ((r2.2.2.1 l).trans hc) (r2.2.2.2.1 l) hD (fun h3 w3 v3 => K' h3 (w12.tr w3) v3)
          · have hD := cx_take_61 hok r2.1 (a := a) (by omega) t2 (p l)
            rw [e1', e2] at hD
            exact rc_take_61 hok r2.1 hd r2.2.1 hT (by omega) t2.2 ((r2.2.2.1 l).trans hc) (r2.2.2.2.1 l) hD (fun h3 w3 v3 => K' h3 (w12.tr w3) v3)
    · intro i k l F1 F2 q1 q2 hc hop
      refine ⟨by omega, fun _ => isB_and (q1.2.1 rfl) (q2.2.1 rfl), fun hj a h q ht ha K => q1.2.2 (by omega) a h q ht (by omega) fun h1 w1 v1 => ?_⟩
      have hb := q1.2.1 rfl
      have K' : ∀ h', Rk a h h' → RV h' a (vAnd (F1 e) (F2 e)) → Kn E d Q h0 T l (vAnd (F1 e) (F2 e)) h' := K
      have r1 := q.rk w1
      rcases hb with hb | hb | hb
      · rw [hb] at v1 K' ⊢
        exact K' h1 w1 v1
      · rw [hb] at v1 K' ⊢
        obtain ⟨t1, e1⟩ := v1
        exact rc_j_38 hok r1.1 hd r1.2.1 hT (by omega) t1.2 (by omega) (by omega) (by omega) t1.1 e1 ((r1.2.2.1 k).trans hc) ((r1.2.2.2.1 k).trans hop) (K' _ (w1.tr ((((Rk.rf a h1).t).p (Nat.le_refl a)).t)) (RV_push ((wI_f (by decide)).trans t1.2)))
      · rw [hb] at v1 K' ⊢
        obtain ⟨t1, e1⟩ := v1
        refine rc_n_38 hok r1.1 hd r1.2.1 hT (by omega) t1.2 (by omega) t1.1 e1 ((r1.2.2.1 k).trans hc) (r1.2.2.2.1 k) ?_
        exact q2.2.2 (by omega) a _ (r1.rk ((Rk.rf a h1).t)) ⟨wI_same _ _ _ _, (wI_f (by decide)).trans t1.2⟩ (by omega) (fun h2 w2 v2 => K' h2 ((w1.tr ((Rk.rf a h1).t)).tr w2) v2)
    · intro i k l F1 F2 q1 q2 hc hop
      refine ⟨by omega, fun _ => isB_or (q1.2.1 rfl) (q2.2.1 rfl), fun hj a h q ht ha K => q1.2.2 (by omega) a h q ht (by omega) fun h1 w1 v1 => ?_⟩
      have hb := q1.2.1 rfl
      have K' : ∀ h', Rk a h h' → RV h' a (vOr (F1 e) (F2 e)) → Kn E d Q h0 T l (vOr (F1 e) (F2 e)) h' := K
      have r1 := q.rk w1
      rcases hb with hb | hb | hb
      · rw [hb] at v1 K' ⊢
        exact K' h1 w1 v1
      · rw [hb] at v1 K' ⊢
        obtain ⟨t1, e1⟩ := v1
        refine rc_n_124 hok r1.1 hd r1.2.1 hT (by omega) t1.2 (by omega) t1.1 e1 ((r1.2.2.1 k).trans hc) (r1.2.2.2.1 k) ?_
        exact q2.2.2 (by omega) a _ (r1.rk ((Rk.rf a h1).t)) ⟨wI_same _ _ _ _, (wI_f (by decide)).trans t1.2⟩ (by omega) (fun h2 w2 v2 => K' h2 ((w1.tr ((Rk.rf a h1).t)).tr w2) v2)
      · rw [hb] at v1 K' ⊢
        obtain ⟨t1, e1⟩ := v1
        exact rc_j_124 hok r1.1 hd r1.2.1 hT (by omega) t1.2 (by omega) (by omega) (by omega) t1.1 e1 ((r1.2.2.1 k).trans hc) ((r1.2.2.2.1 k).trans hop) (K' _ (w1.tr ((((Rk.rf a h1).t).p (Nat.le_refl a)).t)) (RV_push ((wI_f (by decide)).trans t1.2)))
  exact key.2.2
set_option maxRecDepth 4000 in
theorem cx_result {E : En} (hok : EOK E) {s p e : Nat → Int32} {ti : Nat} {h : Hp} (hq : Rq s p e ti h) {i j : Nat} {b : Bool} {F : Mng} (hS : SC s p i j b F) (hj : j ≤ 200) : Call E m_X5_result 2 0 0 [vR (7, 0), vI (nI i), vI (nI j)] h (fun r h' => r = some (vI ((F e).getD 0)) ∧ Rk 0 h h') := by
  have hlt := hS.lt
  refine Call.enter hok (by decide) (Nat.le_of_ble_eq_true rfl) ?_
  show G E m_X5_result 2 0 0 _ h 0 [some (vR (7, 0)), some (vI (nI i)), some (vI (nI j)), none, none, none, none] [] h 0 0
  refine g_aload_n (pc' := 1) dX5_result_0 rfl rfl ?_
  refine g_iconstN (n := 0) (pc' := 2) dX5_result_1 rfl ?_
  refine g_putI (pc' := 5) (k := 4) dX5_result_2 rfl rfl ck_6 (by decide) fl_X5_60 rfl rfl (by rfl) (by rfl) ?_
  refine g_aload_n (pc' := 6) dX5_result_5 rfl rfl ?_
  refine g_iconstN (n := 0) (pc' := 7) dX5_result_6 rfl ?_
  refine g_putI (pc' := 10) (k := 3) dX5_result_7 rfl rfl ck_6 (by decide) fl_X5_64 rfl rfl rfl rfl ?_
  refine g_iconstN (n := 0) (pc' := 11) dX5_result_10 rfl ?_
  refine g_iload_n (pc' := 12) dX5_result_11 rfl rfl ?_
  refine g_max (pc' := 15) dX5_result_12 rfl ml_X5_50 mx_s in_J9 mx_c (by omega) (by decide) (by decide) (Nat.le_of_ble_eq_true rfl) ?_
  rw [mx_n (Nat.zero_le i) (show i < 2 ^ 31 by omega)]
  refine g_istore_n (pc' := 16) dX5_result_15 rfl (by decide) rfl ?_
  try simp only [List.set]
  refine G.drop 1 ?_
  simp only [List.set]
  have k0 : Rk 0 h (wI (wI h (7, 0) 4 (vp_nar .boolean (nI 0))) (7, 0) 3 (nI 0)) := ((Rk.rf 0 h).t).t
  refine wc_sc hok (Nat.le_refl _) hj hS (Nat.le_refl _) 0 _ (hq.rk k0) ⟨wI_same _ _ _ _, (wI_f (by decide)).trans (wI_same _ _ _ _)⟩ (by omega) fun h' w' v' => ?_
  have hs : Shp h'.2 := ((hq.rk k0).rk w').1
  rcases hF : F e with _ | x
  · rw [hF] at v'
    show WXc _ _ _ _ _
    refine g_aload_n (pc' := 143) dX5_result_142 rfl rfl ?_
    refine g_getI (pc' := 146) (k := 4) dX5_result_143 rfl rfl ck_6 (by decide) fl_X5_60 rfl ?_
    refine g_if_eq (tgt := 153) (pc' := 149) dX5_result_146 rfl (by decide) (fun c146 => ?_) (fun c146 => ?_)
    · exact absurd c146 v'
    ·
      refine g_iconstN (n := 0) (pc' := 150) dX5_result_149 rfl ?_
      refine g_goto (tgt := 157) dX5_result_150 (by decide) ?_
      refine g_iret dX5_result_157 rfl (by decide) (by decide) ?_
      exact ⟨rfl, k0.tr w'⟩
  · rw [hF] at v'
    obtain ⟨t1, e1⟩ := v'
    show WC _ _ _ _ _ _ _
    refine g_iload_n (pc' := 17) dX5_result_16 rfl rfl ?_
    refine g_iload_n (pc' := 18) dX5_result_17 rfl rfl ?_
    refine g_icmp_geN (tgt := 142) (pc' := 21) dX5_result_18 rfl (by decide) (by omega) (by omega) (fun c18 => ?_) (fun c18 => ?_)
    ·
      refine g_aload_n (pc' := 143) dX5_result_142 rfl rfl ?_
      refine g_getI (pc' := 146) (k := 4) dX5_result_143 rfl rfl ck_6 (by decide) fl_X5_60 rfl ?_
      refine g_if_eq (tgt := 153) (pc' := 149) dX5_result_146 rfl (by decide) (fun c146 => ?_) (fun c146 => ?_)
      ·
        refine g_aload_n (pc' := 154) dX5_result_153 rfl rfl ?_
        refine g_invV (pc' := 157) (cx_pop hok hs (a := 0) (by omega) t1.1) dX5_result_154 rfl rfl ck_6 rfl ml_X5_73 im_X5_pop sl_X5_pop in_X5 co_X5_pop pd_X5_pop rfl (by omega) (by decide) ⟨by decide, by decide⟩ (Nat.le_of_ble_eq_true rfl) ?_
        rintro _ _ ⟨rfl, rfl⟩ -
        refine g_iret dX5_result_157 rfl (by decide) (by decide) ?_
        exact ⟨congrArg (fun z : Int32 => some (vI z)) e1, k0.tr (w'.t)⟩
      · exact absurd t1.2 c146
    · exact absurd (Nat.le_refl j) c18
