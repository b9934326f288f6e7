theorem wI_f {h : Hp} {a : Ad} {j k : Nat} {x : Int32} (hk : k ≠ j) : (wI h a j x).1 a k = h.1 a k := by rw [wI_at, if_neg (fun z => hk z.2)]
set_option maxRecDepth 4000 in
theorem li_size {E : En} (hok : EOK E) {h : Hp} {i : Nat} : Call E m_Jx4a65c_size_8abf5 0 0 0 [vR (13, i)] h (fun r h' => r = some (vI (h.1 (13, i) 2)) ∧ h = h') := by
  refine Call.enter hok (by decide) (Nat.le_of_ble_eq_true rfl) ?_
  show G E m_Jx4a65c_size_8abf5 0 0 0 _ h 0 [some (vR (13, i))] [] h 0 0
  refine g_aload_n (pc' := 1) dJx4a65c_size_8abf5_0 rfl rfl ?_
  refine g_getI (pc' := 4) (k := 2) dJx4a65c_size_8abf5_1 rfl rfl ck_0 (by decide) fl_Jx4a65c_48 rfl ?_
  refine g_iret dJx4a65c_size_8abf5_4 rfl (by decide) (by decide) ?_
  exact ⟨rfl, rfl⟩
set_option maxRecDepth 4000 in
theorem li_chk3 {E : En} (hok : EOK E) {h : Hp} {j n : Nat} (hj : j < n) (hn : n < 1000) : Call E m_J3_checkIndex_8e157 0 0 0 [vI (nI j), vI (nI n), vN] h (fun r h' => r = some (vI (nI j)) ∧ h = h') := by
  refine Call.enter hok (by decide) (Nat.le_of_ble_eq_true rfl) ?_
  show G E m_J3_checkIndex_8e157 0 0 0 _ h 0 [some (vI (nI j)), some (vI (nI n)), some (vN)] [] h 0 0
  refine g_iload_n (pc' := 1) dJ3_checkIndex_8e157_0 rfl rfl ?_
  refine g_if_lt (tgt := 9) (pc' := 4) dJ3_checkIndex_8e157_1 rfl (by decide) (fun c1 => ?_) (fun c1 => ?_)
  · exact absurd c1 (nI_pos (by omega))
  ·
    refine g_iload_n (pc' := 5) dJ3_checkIndex_8e157_4 rfl rfl ?_
    refine g_iload_n (pc' := 6) dJ3_checkIndex_8e157_5 rfl rfl ?_
    refine g_icmp_ltN (tgt := 16) (pc' := 9) dJ3_checkIndex_8e157_6 rfl (by decide) (by omega) (by omega) (fun c6 => ?_) (fun c6 => ?_)
    ·
      refine g_iload_n (pc' := 17) dJ3_checkIndex_8e157_16 rfl rfl ?_
      refine g_iret dJ3_checkIndex_8e157_17 rfl (by decide) (by decide) ?_
      exact ⟨rfl, rfl⟩
    · exact absurd hj c6
set_option maxRecDepth 4000 in
theorem li_chk {E : En} (hok : EOK E) {h : Hp} {j n : Nat} (hj : j < n) (hn : n < 1000) : Call E m_J15_checkIndex_7cf53 1 0 0 [vI (nI j), vI (nI n)] h (fun r h' => r = some (vI (nI j)) ∧ h = h') := by
  refine Call.enter hok (by decide) (Nat.le_of_ble_eq_true rfl) ?_
  show G E m_J15_checkIndex_7cf53 1 0 0 _ h 0 [some (vI (nI j)), some (vI (nI n))] [] h 0 0
  refine g_iload_n (pc' := 1) dJ15_checkIndex_7cf53_0 rfl rfl ?_
  refine g_iload_n (pc' := 2) dJ15_checkIndex_7cf53_1 rfl rfl ?_
  refine g_null (pc' := 3) dJ15_checkIndex_7cf53_2 rfl ?_
  refine g_invS (pc' := 6) (li_chk3 hok hj hn) dJ15_checkIndex_7cf53_3 rfl ml_J15_105 st_J3_checkIndex_8e157 in_J3 co_J3_checkIndex_8e157 pd_J3_checkIndex_8e157 rfl (by omega) (by decide) ⟨by decide, by decide⟩ (Nat.le_of_ble_eq_true rfl) ?_
  rintro _ _ ⟨rfl, rfl⟩ -
  refine g_iret dJ15_checkIndex_7cf53_6 rfl (by decide) (by decide) ?_
  exact ⟨rfl, rfl⟩
set_option maxRecDepth 4000 in
theorem li_ed {E : En} (hok : EOK E) {h : Hp} {i j n N : Nat} {D v : Ad} (hD : h.2.1 (13, i) 1 = some D) (hDm : mt D = (23, N)) (hN : N < 1000) (hnN : n ≤ N) (hn : h.1 (13, i) 2 = nI n) (hj : j < n) (hv : h.2.1 D j = some v) : Call E m_Jx4a65c_elementData_915e3 0 0 0 [vR (13, i), vI (nI j)] h (fun r h' => r = some (vR v) ∧ h = h') := by
  refine Call.enter hok (by decide) (Nat.le_of_ble_eq_true rfl) ?_
  show G E m_Jx4a65c_elementData_915e3 0 0 0 _ h 0 [some (vR (13, i)), some (vI (nI j))] [] h 0 0
  refine g_aload_n (pc' := 1) dJx4a65c_elementData_915e3_0 rfl rfl ?_
  refine g_getR (pc' := 4) (k := 1) (r := some D) dJx4a65c_elementData_915e3_1 rfl rfl ck_0 (by decide) fl_Jx4a65c_9 rfl (hD) ?_
  refine g_iload_n (pc' := 5) dJx4a65c_elementData_915e3_4 rfl rfl ?_
  refine g_aald (r := some v) (pc' := 6) dJx4a65c_elementData_915e3_5 rfl (hDm) (vp_in_nI (by omega) (by omega)) (by rw [nI_clamp (by omega)]; exact hv) ?_
  refine g_aret dJx4a65c_elementData_915e3_6 rfl (by first | exact Or.inl ⟨_, rfl⟩ | exact Or.inr ⟨_, rfl⟩) (by decide) (by decide) ?_
  exact ⟨rfl, rfl⟩
set_option maxRecDepth 4000 in
theorem li_get {E : En} (hok : EOK E) {h : Hp} {i j n N : Nat} {D v : Ad} (hD : h.2.1 (13, i) 1 = some D) (hDm : mt D = (23, N)) (hN : N < 1000) (hnN : n ≤ N) (hn : h.1 (13, i) 2 = nI n) (hj : j < n) (hv : h.2.1 D j = some v) : Call E m_Jx4a65c_get_915e3 2 0 0 [vR (13, i), vI (nI j)] h (fun r h' => r = some (vR v) ∧ h = h') := by
  refine Call.enter hok (by decide) (Nat.le_of_ble_eq_true rfl) ?_
  show G E m_Jx4a65c_get_915e3 2 0 0 _ h 0 [some (vR (13, i)), some (vI (nI j))] [] h 0 0
  refine g_iload_n (pc' := 1) dJx4a65c_get_915e3_0 rfl rfl ?_
  refine g_aload_n (pc' := 2) dJx4a65c_get_915e3_1 rfl rfl ?_
  refine g_getIv (v := nI (n)) (pc' := 5) (k := 2) dJx4a65c_get_915e3_2 rfl rfl ck_0 (by decide) fl_Jx4a65c_48 rfl (hn) ?_
  refine g_invS (pc' := 8) (li_chk hok hj (by omega)) dJx4a65c_get_915e3_5 rfl ml_Jx4a65c_118 st_J15_checkIndex_7cf53 in_J15 co_J15_checkIndex_7cf53 pd_J15_checkIndex_7cf53 rfl (by omega) (by decide) ⟨by decide, by decide⟩ (Nat.le_of_ble_eq_true rfl) ?_
  rintro _ _ ⟨rfl, rfl⟩ -
  refine g_pop (pc' := 9) dJx4a65c_get_915e3_8 rfl rfl ?_
  refine g_aload_n (pc' := 10) dJx4a65c_get_915e3_9 rfl rfl ?_
  refine g_iload_n (pc' := 11) dJx4a65c_get_915e3_10 rfl rfl ?_
  refine g_invV (pc' := 14) (li_ed hok hD hDm hN hnN hn hj hv) dJx4a65c_get_915e3_11 rfl rfl ck_0 rfl ml_Jx4a65c_123 im_Jx4a65c_elementData_915e3 sl_Jx4a65c_elementData_915e3 in_Jx4a65c co_Jx4a65c_elementData_915e3 pd_Jx4a65c_elementData_915e3 rfl (by omega) (by decide) ⟨by decide, by decide⟩ (Nat.le_of_ble_eq_true rfl) ?_
  rintro _ _ ⟨rfl, rfl⟩ -
  refine g_aret dJx4a65c_get_915e3_14 rfl (by first | exact Or.inl ⟨_, rfl⟩ | exact Or.inr ⟨_, rfl⟩) (by decide) (by decide) ?_
  exact ⟨rfl, rfl⟩
set_option maxRecDepth 4000 in
theorem li_ac {E : En} (hok : EOK E) {h : Hp} {a : Ad} : Call E m_Jxa1e45_init_da8c8 1 0 0 [vR a] h (fun r h' => r = none ∧ h = h') := by
  refine Call.enter hok (by decide) (Nat.le_of_ble_eq_true rfl) ?_
  show G E m_Jxa1e45_init_da8c8 1 0 0 _ h 0 [some (vR a)] [] h 0 0
  refine g_aload_n (pc' := 1) dJxa1e45_init_da8c8_0 rfl rfl ?_
  refine g_objInit (pc' := 4) dJxa1e45_init_da8c8_1 rfl ml_Jxa1e45_1 oi_i oi_c (by omega) (Nat.le_of_ble_eq_true rfl) ?_
  refine g_vret dJxa1e45_init_da8c8_4 rfl (by decide) (by decide) ?_
  exact ⟨rfl, rfl⟩
set_option maxRecDepth 4000 in
theorem li_al {E : En} (hok : EOK E) {h : Hp} {i : Nat} : Call E m_Jxc12de_init_da8c8 2 0 0 [vR (13, i)] h (fun r h' => r = none ∧ wI h (13, i) 0 0 = h') := by
  refine Call.enter hok (by decide) (Nat.le_of_ble_eq_true rfl) ?_
  show G E m_Jxc12de_init_da8c8 2 0 0 _ h 0 [some (vR (13, i))] [] h 0 0
  refine g_aload_n (pc' := 1) dJxc12de_init_da8c8_0 rfl rfl ?_
  refine g_invI (pc' := 4) (li_ac hok) dJxc12de_init_da8c8_1 rfl ml_Jxc12de_1 im_Jxa1e45_init_da8c8 in_Jxa1e45 co_Jxa1e45_init_da8c8 rfl rfl pd_Jxa1e45_init_da8c8 rfl (by omega) (by decide) ⟨by decide, by decide⟩ (Nat.le_of_ble_eq_true rfl) ?_
  rintro _ _ ⟨rfl, rfl⟩ -
  refine g_aload_n (pc' := 5) dJxc12de_init_da8c8_4 rfl rfl ?_
  refine g_iconstN (n := 0) (pc' := 6) dJxc12de_init_da8c8_5 rfl ?_
  refine g_putI (pc' := 9) (k := 0) dJxc12de_init_da8c8_6 rfl rfl ck_0 (by decide) fl_Jxc12de_7 rfl rfl rfl rfl ?_
  refine g_vret dJxc12de_init_da8c8_9 rfl (by decide) (by decide) ?_
  exact ⟨rfl, rfl⟩
set_option maxRecDepth 4000 in
theorem li_init {E : En} (hok : EOK E) {h : Hp} {i : Nat} (h91 : h.2.2 (91, 0) = true) : Call E m_Jx4a65c_init_da8c8 3 0 0 [vR (13, i)] h (fun r h' => r = none ∧ wR (wI h (13, i) 0 0) (13, i) 1 (some (91, 0)) = h') := by
  refine Call.enter hok (by decide) (Nat.le_of_ble_eq_true rfl) ?_
  show G E m_Jx4a65c_init_da8c8 3 0 0 _ h 0 [some (vR (13, i))] [] h 0 0
  refine g_aload_n (pc' := 1) dJx4a65c_init_da8c8_0 rfl rfl ?_
  refine g_invI (pc' := 4) (li_al hok) dJx4a65c_init_da8c8_1 rfl ml_Jx4a65c_1 im_Jxc12de_init_da8c8 in_Jxc12de co_Jxc12de_init_da8c8 rfl rfl pd_Jxc12de_init_da8c8 rfl (by omega) (by decide) ⟨by decide, by decide⟩ (Nat.le_of_ble_eq_true rfl) ?_
  rintro _ _ ⟨rfl, rfl⟩ -
  refine g_aload_n (pc' := 5) dJx4a65c_init_da8c8_4 rfl rfl ?_
  refine g_gets0 (pc' := 8) (h91) dJx4a65c_init_da8c8_5 rfl fl_Jx4a65c_39 ?_
  refine g_putR (pc' := 11) (k := 1) dJx4a65c_init_da8c8_8 rfl rfl ck_0 (by decide) fl_Jx4a65c_9 rfl rfl ?_
  refine g_vret dJx4a65c_init_da8c8_11 rfl (by decide) (by decide) ?_
  exact ⟨rfl, rfl⟩
theorem g_aastN {E : En} {y : Mt} {d mc ms : Nat} {Q : Option V → Hp → Prop} {h0 : Hp} {pc pc' : Nat} {L : List (Option V)} {st : List V} {h : Hp} {cu su : Nat} {N ci M j : Nat} {C : String} {T : u_T} {a v : Ad} (hd : decode y.2.1 pc = .ok (.aastore, 1)) (hp : pc + 1 = pc') (hm : mt a = (23, N)) (hmv : mt v = (ci, M)) (hck : CK ci C T M) (w1 : Cond.castable C "java/lang/Object" ∈ nwl) (hj : j < N) (hN : N < 1000) (K : G E y d mc ms Q h0 pc' L st (wR h a j (some v)) cu su) : G E y d mc ms Q h0 pc L (vR v :: vI (nI j) :: vR a :: st) h cu su :=
  g_aast hd hp hm hmv hck w1 (vp_in_nI hj (by omega)) (by rw [nI_clamp (by omega)]; exact K)
set_option maxRecDepth 4000 in
theorem li_add3 {E : En} (hok : EOK E) {h : Hp} {i n N ci M : Nat} {D v : Ad} {C : String} {T : u_T} (hD : h.2.1 (13, i) 1 = some D) (hDm : mt D = (23, N)) (hN : N < 1000) (hnN : n < N) (hn : h.1 (13, i) 2 = nI n) (hvm : mt v = (ci, M)) (hck : CK ci C T M) (hca : Cond.castable C "java/lang/Object" ∈ nwl) : Call E m_Jx4a65c_add_72be8 0 0 0 [vR (13, i), vR v, vR D, vI (nI n)] h (fun r h' => r = none ∧ wI (wR h D n (some v)) (13, i) 2 (nI (n + 1)) = h') := by
  refine Call.enter hok (by decide) (Nat.le_of_ble_eq_true rfl) ?_
  show G E m_Jx4a65c_add_72be8 0 0 0 _ h 0 [some (vR (13, i)), some (vR v), some (vR D), some (vI (nI n))] [] h 0 0
  refine g_iload_n (pc' := 1) dJx4a65c_add_72be8_0 rfl rfl ?_
  refine g_aload_n (pc' := 2) dJx4a65c_add_72be8_1 rfl rfl ?_
  refine g_alen (pc' := 3) (v := nI N) dJx4a65c_add_72be8_2 rfl (hDm) (by decide) rfl ?_
  refine g_icmp_neN (tgt := 11) (pc' := 6) dJx4a65c_add_72be8_3 rfl (by decide) (by omega) (by omega) (fun c3 => ?_) (fun c3 => ?_)
  ·
    refine g_aload_n (pc' := 12) dJx4a65c_add_72be8_11 rfl rfl ?_
    refine g_iload_n (pc' := 13) dJx4a65c_add_72be8_12 rfl rfl ?_
    refine g_aload_n (pc' := 14) dJx4a65c_add_72be8_13 rfl rfl ?_
    refine g_aastN (pc' := 15) dJx4a65c_add_72be8_14 rfl hDm hvm hck hca (by omega) (by omega) ?_
    refine g_aload_n (pc' := 16) dJx4a65c_add_72be8_15 rfl rfl ?_
    refine g_iload_n (pc' := 17) dJx4a65c_add_72be8_16 rfl rfl ?_
    refine g_iconstN (n := 1) (pc' := 18) dJx4a65c_add_72be8_17 rfl ?_
    refine g_iaddN (pc' := 19) dJx4a65c_add_72be8_18 rfl ?_
    refine g_putI (pc' := 22) (k := 2) dJx4a65c_add_72be8_19 rfl rfl ck_0 (by decide) fl_Jx4a65c_48 rfl rfl rfl rfl ?_
    refine g_vret dJx4a65c_add_72be8_22 rfl (by decide) (by decide) ?_
    exact ⟨rfl, rfl⟩
  · exact absurd c3 (by omega)
set_option maxRecDepth 4000 in
theorem li_add {E : En} (hok : EOK E) {h : Hp} {i n N ci M : Nat} {D v : Ad} {C : String} {T : u_T} (hD : h.2.1 (13, i) 1 = some D) (hDm : mt D = (23, N)) (hN : N < 1000) (hnN : n < N) (hn : h.1 (13, i) 2 = nI n) (hvm : mt v = (ci, M)) (hck : CK ci C T M) (hca : Cond.castable C "java/lang/Object" ∈ nwl) : Call E m_Jx4a65c_add_9ea2d 1 0 0 [vR (13, i), vR v] h (fun r h' => r = some (vI 1) ∧ wI (wR (wI h (13, i) 0 (h.1 (13, i) 0 + nI 1)) D n (some v)) (13, i) 2 (nI (n + 1)) = h') := by
  refine Call.enter hok (by decide) (Nat.le_of_ble_eq_true rfl) ?_
  show G E m_Jx4a65c_add_9ea2d 1 0 0 _ h 0 [some (vR (13, i)), some (vR v)] [] h 0 0
  refine g_aload_n (pc' := 1) dJx4a65c_add_9ea2d_0 rfl rfl ?_
  refine g_dup (pc' := 2) dJx4a65c_add_9ea2d_1 rfl rfl ?_
  refine g_getM (pc' := 5) dJx4a65c_add_9ea2d_2 rfl fl_Jx4a65c_63 ?_
  refine g_iconstN (n := 1) (pc' := 6) dJx4a65c_add_9ea2d_5 rfl ?_
  refine g_iadd (pc' := 7) dJx4a65c_add_9ea2d_6 rfl ?_
  refine g_putM (pc' := 10) dJx4a65c_add_9ea2d_7 rfl fl_Jx4a65c_63 ?_
  refine g_aload_n (pc' := 11) dJx4a65c_add_9ea2d_10 rfl rfl ?_
  refine g_aload_n (pc' := 12) dJx4a65c_add_9ea2d_11 rfl rfl ?_
  refine g_aload_n (pc' := 13) dJx4a65c_add_9ea2d_12 rfl rfl ?_
  refine g_getR (pc' := 16) (k := 1) (r := some D) dJx4a65c_add_9ea2d_13 rfl rfl ck_0 (by decide) fl_Jx4a65c_9 rfl (hD) ?_
  refine g_aload_n (pc' := 17) dJx4a65c_add_9ea2d_16 rfl rfl ?_
  refine g_getIv (v := nI (n)) (pc' := 20) (k := 2) dJx4a65c_add_9ea2d_17 rfl rfl ck_0 (by decide) fl_Jx4a65c_48 rfl ((wI_f (by decide)).trans hn) ?_
  refine g_invV (pc' := 23) (li_add3 hok (h := wI h (13, i) 0 (h.1 (13, i) 0 + nI 1)) hD hDm hN hnN ((wI_f (by decide)).trans hn) hvm hck hca) dJx4a65c_add_9ea2d_20 rfl rfl ck_0 rfl ml_Jx4a65c_131 im_Jx4a65c_add_72be8 sl_Jx4a65c_add_72be8 in_Jx4a65c co_Jx4a65c_add_72be8 pd_Jx4a65c_add_72be8 rfl (by omega) (by decide) ⟨by decide, by decide⟩ (Nat.le_of_ble_eq_true rfl) ?_
  rintro _ _ ⟨rfl, rfl⟩ -
  refine g_iconstN (n := 1) (pc' := 24) dJx4a65c_add_9ea2d_23 rfl ?_
  refine g_zret dJx4a65c_add_9ea2d_24 rfl (by rfl) (by decide) (by decide) ?_
  exact ⟨rfl, rfl⟩
set_option maxRecDepth 4000 in
theorem li_grow1 {E : En} (hok : EOK E) {h : Hp} {i : Nat} (hi : mt (61, i) = (23, 10)) (h91 : h.2.2 (91, 0) = true) (hf : h.2.2 (61, i) = false) (hD : h.2.1 (13, i) 1 = some (91, 0)) : Call E m_Jx4a65c_grow_92f84 1 1 10 [vR (13, i), vI (nI 1)] h (fun r h' => r = some (vR (61, i)) ∧ wR (nH h (61, i)) (13, i) 1 (some (61, i)) = h') := by
  refine Call.enter hok (by decide) (Nat.le_of_ble_eq_true rfl) ?_
  show G E m_Jx4a65c_grow_92f84 1 1 10 _ h 0 [some (vR (13, i)), some (vI (nI 1)), none, none] [] h 0 0
  refine g_aload_n (pc' := 1) dJx4a65c_grow_92f84_0 rfl rfl ?_
  refine g_getR (pc' := 4) (k := 1) (r := some (91, 0)) dJx4a65c_grow_92f84_1 rfl rfl ck_0 (by decide) fl_Jx4a65c_9 rfl (hD) ?_
  refine g_alen0 (v := 0) (pc' := 5) dJx4a65c_grow_92f84_4 rfl ?_
  refine g_istore_n (pc' := 6) dJx4a65c_grow_92f84_5 rfl (by decide) rfl ?_
  try simp only [List.set]
  refine g_iload_n (pc' := 7) dJx4a65c_grow_92f84_6 rfl rfl ?_
  refine g_if_gtN (tgt := 20) (pc' := 10) dJx4a65c_grow_92f84_7 rfl (by decide) (by omega) (fun c7 => ?_) (fun c7 => ?_)
  · exact absurd rfl c7
  ·
    refine g_aload_n (pc' := 11) dJx4a65c_grow_92f84_10 rfl rfl ?_
    refine g_getR (pc' := 14) (k := 1) (r := some (91, 0)) dJx4a65c_grow_92f84_11 rfl rfl ck_0 (by decide) fl_Jx4a65c_9 rfl (hD) ?_
    refine g_gets0 (pc' := 17) (h91) dJx4a65c_grow_92f84_14 rfl fl_Jx4a65c_39 ?_
    refine g_acmp_same (tgt := 45) (pc' := 20) dJx4a65c_grow_92f84_17 rfl (by decide) ?_
    refine g_aload_n (pc' := 46) dJx4a65c_grow_92f84_45 rfl rfl ?_
    refine g_bipushN (n := 10) (pc' := 48) dJx4a65c_grow_92f84_46 rfl (by decide) ?_
    refine g_iload_n (pc' := 49) dJx4a65c_grow_92f84_48 rfl rfl ?_
    refine g_max (pc' := 52) dJx4a65c_grow_92f84_49 rfl ml_Jx4a65c_79 mx_s in_J9 mx_c (by omega) (by decide) (by decide) (Nat.le_of_ble_eq_true rfl) ?_
    rw [show (if nI 10 < nI 1 then nI 1 else nI 10) = nI 10 from by decide]
    refine g_newq (61, i) (hf) (pc' := 55) dJx4a65c_grow_92f84_52 rfl rfl cl_Jx4a65c_7 (by decide) (by decide) (by decide) ?_
    refine g_dup_x1 (pc' := 56) dJx4a65c_grow_92f84_55 rfl rfl rfl ?_
    refine g_putR (pc' := 59) (k := 1) dJx4a65c_grow_92f84_56 rfl rfl ck_0 (by decide) fl_Jx4a65c_9 rfl rfl ?_
    refine g_aret dJx4a65c_grow_92f84_59 rfl (by first | exact Or.inl ⟨_, rfl⟩ | exact Or.inr ⟨_, rfl⟩) (by decide) (by decide) ?_
    exact ⟨rfl, rfl⟩
set_option maxRecDepth 4000 in
theorem li_grow0 {E : En} (hok : EOK E) {h : Hp} {i : Nat} (hi : mt (61, i) = (23, 10)) (h91 : h.2.2 (91, 0) = true) (hf : h.2.2 (61, i) = false) (hD : h.2.1 (13, i) 1 = some (91, 0)) (hn : h.1 (13, i) 2 = nI 0) : Call E m_Jx4a65c_grow_d5877 2 1 10 [vR (13, i)] h (fun r h' => r = some (vR (61, i)) ∧ wR (nH h (61, i)) (13, i) 1 (some (61, i)) = h') := by
  refine Call.enter hok (by decide) (Nat.le_of_ble_eq_true rfl) ?_
  show G E m_Jx4a65c_grow_d5877 2 1 10 _ h 0 [some (vR (13, i))] [] h 0 0
  refine g_aload_n (pc' := 1) dJx4a65c_grow_d5877_0 rfl rfl ?_
  refine g_aload_n (pc' := 2) dJx4a65c_grow_d5877_1 rfl rfl ?_
  refine g_getIv (v := nI (0)) (pc' := 5) (k := 2) dJx4a65c_grow_d5877_2 rfl rfl ck_0 (by decide) fl_Jx4a65c_48 rfl (hn) ?_
  refine g_iconstN (n := 1) (pc' := 6) dJx4a65c_grow_d5877_5 rfl ?_
  refine g_iaddN (pc' := 7) dJx4a65c_grow_d5877_6 rfl ?_
  refine g_invV (pc' := 10) (li_grow1 hok hi h91 hf hD) dJx4a65c_grow_d5877_7 rfl rfl ck_0 rfl ml_Jx4a65c_69 im_Jx4a65c_grow_92f84 sl_Jx4a65c_grow_92f84 in_Jx4a65c co_Jx4a65c_grow_92f84 pd_Jx4a65c_grow_92f84 rfl (by omega) (by decide) ⟨by decide, by decide⟩ (Nat.le_of_ble_eq_true rfl) ?_
  rintro _ _ ⟨rfl, rfl⟩ -
  refine g_aret dJx4a65c_grow_d5877_10 rfl (by first | exact Or.inl ⟨_, rfl⟩ | exact Or.inr ⟨_, rfl⟩) (by decide) (by decide) ?_
  exact ⟨rfl, rfl⟩
set_option maxRecDepth 4000 in
theorem li_first3 {E : En} (hok : EOK E) {h : Hp} {i : Nat} (hi : mt (61, i) = (23, 10)) (h91 : h.2.2 (91, 0) = true) (hf : h.2.2 (61, i) = false) (hD : h.2.1 (13, i) 1 = some (91, 0)) {ci M : Nat} {v : Ad} {C : String} {T : u_T} (hn : h.1 (13, i) 2 = nI 0) (hvm : mt v = (ci, M)) (hck : CK ci C T M) (hca : Cond.castable C "java/lang/Object" ∈ nwl) : Call E m_Jx4a65c_add_72be8 3 1 10 [vR (13, i), vR v, vR (91, 0), vI (nI 0)] h (fun r h' => r = none ∧ wI (wR (wR (nH h (61, i)) (13, i) 1 (some (61, i))) (61, i) 0 (some v)) (13, i) 2 (nI 1) = h') := by
  refine Call.enter hok (by decide) (Nat.le_of_ble_eq_true rfl) ?_
  show G E m_Jx4a65c_add_72be8 3 1 10 _ h 0 [some (vR (13, i)), some (vR v), some (vR (91, 0)), some (vI (nI 0))] [] h 0 0
  refine g_iload_n (pc' := 1) dJx4a65c_add_72be8_0 rfl rfl ?_
  refine g_aload_n (pc' := 2) dJx4a65c_add_72be8_1 rfl rfl ?_
  refine g_alen0 (v := 0) (pc' := 3) dJx4a65c_add_72be8_2 rfl ?_
  refine g_icmp_neN (tgt := 11) (pc' := 6) dJx4a65c_add_72be8_3 rfl (by decide) (by omega) (by omega) (fun c3 => ?_) (fun c3 => ?_)
  · exact absurd rfl c3
  ·
    refine g_aload_n (pc' := 7) dJx4a65c_add_72be8_6 rfl rfl ?_
    refine g_invV (pc' := 10) (li_grow0 hok hi h91 hf hD hn) dJx4a65c_add_72be8_7 rfl rfl ck_0 rfl ml_Jx4a65c_129 im_Jx4a65c_grow_d5877 sl_Jx4a65c_grow_d5877 in_Jx4a65c co_Jx4a65c_grow_d5877 pd_Jx4a65c_grow_d5877 rfl (by omega) (by decide) ⟨by decide, by decide⟩ (Nat.le_of_ble_eq_true rfl) ?_
    rintro _ _ ⟨rfl, rfl⟩ -
    refine g_astore_n (pc' := 11) dJx4a65c_add_72be8_10 rfl (by decide) rfl ?_
    try simp only [List.set]
    refine g_aload_n (pc' := 12) dJx4a65c_add_72be8_11 rfl rfl ?_
    refine g_iload_n (pc' := 13) dJx4a65c_add_72be8_12 rfl rfl ?_
    refine g_aload_n (pc' := 14) dJx4a65c_add_72be8_13 rfl rfl ?_
    refine g_aastN (pc' := 15) dJx4a65c_add_72be8_14 rfl rfl hvm hck hca (by omega) (by omega) ?_
    refine g_aload_n (pc' := 16) dJx4a65c_add_72be8_15 rfl rfl ?_
    refine g_iload_n (pc' := 17) dJx4a65c_add_72be8_16 rfl rfl ?_
    refine g_iconstN (n := 1) (pc' := 18) dJx4a65c_add_72be8_17 rfl ?_
    refine g_iaddN (pc' := 19) dJx4a65c_add_72be8_18 rfl ?_
    refine g_putI (pc' := 22) (k := 2) dJx4a65c_add_72be8_19 rfl rfl ck_0 (by decide) fl_Jx4a65c_48 rfl rfl rfl rfl ?_
    refine g_vret dJx4a65c_add_72be8_22 rfl (by decide) (by decide) ?_
    exact ⟨rfl, rfl⟩
set_option maxRecDepth 4000 in
theorem li_first {E : En} (hok : EOK E) {h : Hp} {i : Nat} (hi : mt (61, i) = (23, 10)) (h91 : h.2.2 (91, 0) = true) (hf : h.2.2 (61, i) = false) (hD : h.2.1 (13, i) 1 = some (91, 0)) {ci M : Nat} {v : Ad} {C : String} {T : u_T} (hn : h.1 (13, i) 2 = nI 0) (hvm : mt v = (ci, M)) (hck : CK ci C T M) (hca : Cond.castable C "java/lang/Object" ∈ nwl) : Call E m_Jx4a65c_add_9ea2d 4 1 10 [vR (13, i), vR v] h (fun r h' => r = some (vI 1) ∧ wI (wR (wR (nH (wI h (13, i) 0 (h.1 (13, i) 0 + nI 1)) (61, i)) (13, i) 1 (some (61, i))) (61, i) 0 (some v)) (13, i) 2 (nI 1) = h') := by
  refine Call.enter hok (by decide) (Nat.le_of_ble_eq_true rfl) ?_
  show G E m_Jx4a65c_add_9ea2d 4 1 10 _ h 0 [some (vR (13, i)), some (vR v)] [] h 0 0
  refine g_aload_n (pc' := 1) dJx4a65c_add_9ea2d_0 rfl rfl ?_
  refine g_dup (pc' := 2) dJx4a65c_add_9ea2d_1 rfl rfl ?_
  refine g_getM (pc' := 5) dJx4a65c_add_9ea2d_2 rfl fl_Jx4a65c_63 ?_
  refine g_iconstN (n := 1) (pc' := 6) dJx4a65c_add_9ea2d_5 rfl ?_
  refine g_iadd (pc' := 7) dJx4a65c_add_9ea2d_6 rfl ?_
  refine g_putM (pc' := 10) dJx4a65c_add_9ea2d_7 rfl fl_Jx4a65c_63 ?_
  refine g_aload_n (pc' := 11) dJx4a65c_add_9ea2d_10 rfl rfl ?_
  refine g_aload_n (pc' := 12) dJx4a65c_add_9ea2d_11 rfl rfl ?_
  refine g_aload_n (pc' := 13) dJx4a65c_add_9ea2d_12 rfl rfl ?_
  refine g_getR (pc' := 16) (k := 1) (r := some (91, 0)) dJx4a65c_add_9ea2d_13 rfl rfl ck_0 (by decide) fl_Jx4a65c_9 rfl (hD) ?_
  refine g_aload_n (pc' := 17) dJx4a65c_add_9ea2d_16 rfl rfl ?_
  refine g_getIv (v := nI (0)) (pc' := 20) (k := 2) dJx4a65c_add_9ea2d_17 rfl rfl ck_0 (by decide) fl_Jx4a65c_48 rfl ((wI_f (by decide)).trans hn) ?_
  refine g_invV (pc' := 23) (li_first3 hok (h := wI h (13, i) 0 (h.1 (13, i) 0 + nI 1)) hi h91 hf hD ((wI_f (by decide)).trans hn) hvm hck hca) dJx4a65c_add_9ea2d_20 rfl rfl ck_0 rfl ml_Jx4a65c_131 im_Jx4a65c_add_72be8 sl_Jx4a65c_add_72be8 in_Jx4a65c co_Jx4a65c_add_72be8 pd_Jx4a65c_add_72be8 rfl (by omega) (by decide) ⟨by decide, by decide⟩ (Nat.le_of_ble_eq_true rfl) ?_
  rintro _ _ ⟨rfl, rfl⟩ -
  refine g_iconstN (n := 1) (pc' := 24) dJx4a65c_add_9ea2d_23 rfl ?_
  refine g_zret dJx4a65c_add_9ea2d_24 rfl (by rfl) (by decide) (by decide) ?_
  exact ⟨rfl, rfl⟩
