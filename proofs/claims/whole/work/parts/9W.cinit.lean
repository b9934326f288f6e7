/-! the class's constructor -/
def hS : Hp := (fun _ _ => 0, fun _ _ => none, fun a => Nat.beq a.2 0 && (Nat.ble 90 a.1 && Nat.ble a.1 94))
def muH (h : Hp) : Hp := wR (wR (wR (wR (wR (wR (wR (wR (nH (nH (nH (nH (nH (nH (nH (nH (nH (h) (51, 0)) (51, 1)) (51, 2)) (51, 3)) (51, 4)) (51, 5)) (51, 6)) (51, 7)) (50, 0)) (50, 0) 0 (some (51, 0))) (50, 0) 1 (some (51, 1))) (50, 0) 2 (some (51, 2))) (50, 0) 3 (some (51, 3))) (50, 0) 4 (some (51, 4))) (50, 0) 5 (some (51, 5))) (50, 0) 6 (some (51, 6))) (50, 0) 7 (some (51, 7))
/-- the one instruction whose rule lies in the wide library: 9 rows of arrays at once -/
def Gmu (E : En) : Prop := ∀ (y : Mt) (d mc ms : Nat) (Q : Option V → Hp → Prop) (h0 : Hp) (pc : Nat) (L : List (Option V)) (st : List V) (h : Hp) (cu su n : Nat), h.2.2 (50, 0) = false → (∀ k, k < 8 → h.2.2 (51, k) = false) → decode y.2.1 pc = .ok (.multianewarray n 2, 4) → Cond.classLink y.1.cls n "[[I" ∈ tw → cu + 9 ≤ mc → su + 40 ≤ ms → G E y d mc ms Q h0 (pc + 4) L (vR (50, 0) :: st) (muH h) (cu + 9) (su + 40) → G E y d mc ms Q h0 pc L (vI (nI 4) :: vI (nI 8) :: st) h cu su
def shH (h : Hp) : Hp := wR (nH (wR (nH (wR (nH (wR (muH (wR (nH h (49, 0)) (10, 0) 0 (some (49, 0)))) (10, 0) 1 (some (50, 0))) (52, 0)) (10, 0) 2 (some (52, 0))) (53, 0)) (10, 0) 3 (some (53, 0))) (54, 0)) (10, 0) 4 (some (54, 0))
set_option maxRecDepth 8000 in
theorem cx_shopInit {E : En} (hok : EOK E) (hmu : Gmu E) {h : Hp} (f49 : h.2.2 (49, 0) = false) (f50 : h.2.2 (50, 0) = false) (f52 : h.2.2 (52, 0) = false) (f53 : h.2.2 (53, 0) = false) (f54 : h.2.2 (54, 0) = false) (f51 : ∀ k, k < 8 → h.2.2 (51, k) = false) : Call E m_X7_init 1 13 73 [vR (10, 0)] h (fun r h' => r = none ∧ shH h = h') := by
  refine Call.enter hok (by decide) (Nat.le_of_ble_eq_true rfl) ?_
  show G E m_X7_init 1 13 73 _ h 0 [some (vR (10, 0))] [] h 0 0
  refine g_aload_n (pc' := 1) dX7_init_0 rfl rfl ?_
  refine g_objInit (pc' := 4) dX7_init_1 rfl ml_X7_3 oi_i oi_c (by omega) (Nat.le_of_ble_eq_true rfl) ?_
  refine g_aload_n (pc' := 5) dX7_init_4 rfl rfl ?_
  refine g_bipushN (n := 8) (pc' := 7) dX7_init_5 rfl (by decide) ?_
  refine g_newI (49, 0) (f49) (pc' := 9) dX7_init_7 rfl rfl (by decide) (by decide) (by decide) ?_
  refine g_putRF (pc' := 12) (k := 0) dX7_init_9 rfl rfl ck_8 (by decide) fl_X7_9 rfl rfl rfl rfl ?_
  refine g_aload_n (pc' := 13) dX7_init_12 rfl rfl ?_
  refine g_bipushN (n := 8) (pc' := 15) dX7_init_13 rfl (by decide) ?_
  refine g_iconstN (n := 4) (pc' := 16) dX7_init_15 rfl ?_
  refine hmu _ _ _ _ _ _ 16 _ _ _ _ _ 15 (f50) (fun k hk => f51 k hk) dX7_init_16 cl_X7_15 (by decide) (by decide) ?_
  refine g_putRF (pc' := 23) (k := 1) dX7_init_20 rfl rfl ck_8 (by decide) fl_X7_17 rfl rfl rfl rfl ?_
  refine g_aload_n (pc' := 24) dX7_init_23 rfl rfl ?_
  refine g_bipushN (n := 9) (pc' := 26) dX7_init_24 rfl (by decide) ?_
  refine g_newI (52, 0) (f52) (pc' := 28) dX7_init_26 rfl rfl (by decide) (by decide) (by decide) ?_
  refine g_putRF (pc' := 31) (k := 2) dX7_init_28 rfl rfl ck_8 (by decide) fl_X7_20 rfl rfl rfl rfl ?_
  refine g_aload_n (pc' := 32) dX7_init_31 rfl rfl ?_
  refine g_bipushN (n := 8) (pc' := 34) dX7_init_32 rfl (by decide) ?_
  refine g_newI (53, 0) (f53) (pc' := 36) dX7_init_34 rfl rfl (by decide) (by decide) (by decide) ?_
  refine g_putRF (pc' := 39) (k := 3) dX7_init_36 rfl rfl ck_8 (by decide) fl_X7_23 rfl rfl rfl rfl ?_
  refine g_aload_n (pc' := 40) dX7_init_39 rfl rfl ?_
  refine g_bipushN (n := 8) (pc' := 42) dX7_init_40 rfl (by decide) ?_
  refine g_newI (54, 0) (f54) (pc' := 44) dX7_init_42 rfl rfl (by decide) (by decide) (by decide) ?_
  refine g_putRF (pc' := 47) (k := 4) dX7_init_44 rfl rfl ck_8 (by decide) fl_X7_26 rfl rfl rfl rfl ?_
  refine g_vret dX7_init_47 rfl (by decide) (by decide) ?_
  exact ⟨rfl, rfl⟩
def thH : Hp := wR (paH (nH (wR (woH (nH (wR (shH (nH (wR (weH (nH (wR (diH (nH (wR (rcH (rtH (nH (nH (wR (rtH (nH (wR (wR (wI (nH (wR (wR (wI (nH (wR (wR (wI (nH (wR (wR (wI (nH (wR (nH (wR (nH (wN (wR (nH (wR (nH (nH hS TH) (20, 0)) TH 6 (some (20, 0))) (21, 0)) TH 7 (some (21, 0))) (21, 0) 0 (fun _ => nI 10) 6) (22, 0)) TH 8 (some (22, 0))) (23, 0)) TH 9 (some (23, 0))) (13, 0)) (13, 0) 0 0) (13, 0) 1 (some (91, 0))) TH 10 (some (13, 0))) (13, 1)) (13, 1) 0 0) (13, 1) 1 (some (91, 0))) TH 11 (some (13, 1))) (13, 2)) (13, 2) 0 0) (13, 2) 1 (some (91, 0))) TH 12 (some (13, 2))) (13, 3)) (13, 3) 0 0) (13, 3) 1 (some (91, 0))) TH 13 (some (13, 3))) (6, 0)) 0) TH 5 (some (6, 0))) (7, 0)) (6, 1)) 1) (6, 1)) TH 14 (some (7, 0))) (8, 0))) TH 15 (some (8, 0))) (9, 0))) TH 16 (some (9, 0))) (10, 0))) TH 17 (some (10, 0))) (11, 0))) TH 18 (some (11, 0))) (12, 0))) TH 19 (some (12, 0))
set_option maxRecDepth 20000 in
theorem cx_house {E : En} (hok : EOK E) (hmu : Gmu E) : Call E m_X11_init 4 60 4116 [vR TH] (nH hS TH) (fun r h' => r = none ∧ thH = h') := by
  refine Call.enter hok (by decide) (Nat.le_of_ble_eq_true rfl) ?_
  show G E m_X11_init 4 60 4116 _ (nH hS TH) 0 [some (vR TH)] [] (nH hS TH) 0 0
  refine g_aload_n (pc' := 1) dX11_init_0 rfl rfl ?_
  refine g_objInit (pc' := 4) dX11_init_1 rfl ml_X11_1 oi_i oi_c (by omega) (Nat.le_of_ble_eq_true rfl) ?_
  refine g_aload_n (pc' := 5) dX11_init_4 rfl rfl ?_
  refine g_sipushN (n := 220) (pc' := 8) dX11_init_5 rfl (by decide) ?_
  refine g_newI (20, 0) (by decide +kernel) (pc' := 10) dX11_init_8 rfl rfl (by decide) (by decide) (by decide) ?_
  refine g_putRF (pc' := 13) (k := 6) dX11_init_10 rfl rfl ck_12 (by decide) fl_X11_9 rfl rfl rfl rfl ?_
  refine g_aload_n (pc' := 14) dX11_init_13 rfl rfl ?_
  refine g_bipushN (n := 6) (pc' := 16) dX11_init_14 rfl (by decide) ?_
  refine g_newI (21, 0) (by decide +kernel) (pc' := 18) dX11_init_16 rfl rfl (by decide) (by decide) (by decide) ?_
  refine g_putRF (pc' := 21) (k := 7) dX11_init_18 rfl rfl ck_12 (by decide) fl_X11_13 rfl rfl rfl rfl ?_
  refine g_aload_n (pc' := 22) dX11_init_21 rfl rfl ?_
  refine g_getR (pc' := 25) (k := 7) (r := some (21, 0)) dX11_init_22 rfl rfl ck_12 (by decide) fl_X11_13 rfl (rfl) ?_
  refine g_bipushN (n := 10) (pc' := 27) dX11_init_25 rfl (by decide) ?_
  refine g_invS (pc' := 30) (cx_fill hok rfl (by decide) _) dX11_init_27 rfl ml_X11_16 st_J7_fill_53178 in_J7 co_J7_fill_53178 pd_J7_fill_53178 rfl (by omega) (by decide) ⟨by decide, by decide⟩ (Nat.le_of_ble_eq_true rfl) ?_
  rintro _ _ ⟨rfl, rfl⟩ -
  refine g_aload_n (pc' := 31) dX11_init_30 rfl rfl ?_
  refine g_bipushN (n := 53) (pc' := 33) dX11_init_31 rfl (by decide) ?_
  refine g_newI (22, 0) (by decide +kernel) (pc' := 35) dX11_init_33 rfl rfl (by decide) (by decide) (by decide) ?_
  refine g_putRF (pc' := 38) (k := 8) dX11_init_35 rfl rfl ck_12 (by decide) fl_X11_22 rfl rfl rfl rfl ?_
  refine g_aload_n (pc' := 39) dX11_init_38 rfl rfl ?_
  refine g_iconstN (n := 4) (pc' := 40) dX11_init_39 rfl ?_
  refine g_newI (23, 0) (by decide +kernel) (pc' := 42) dX11_init_40 rfl rfl (by decide) (by decide) (by decide) ?_
  refine g_putRF (pc' := 45) (k := 9) dX11_init_42 rfl rfl ck_12 (by decide) fl_X11_25 rfl rfl rfl rfl ?_
  refine g_aload_n (pc' := 46) dX11_init_45 rfl rfl ?_
  refine g_new (13, 0) (by decide +kernel) (pc' := 49) dX11_init_46 rfl rfl ck_0 cl_X11_28 it_Jx4a65c in_Jx4a65c (by decide) (by decide) ?_
  refine g_dup (pc' := 50) dX11_init_49 rfl rfl ?_
  refine g_invI (pc' := 53) (li_init hok (by decide +kernel)) dX11_init_50 rfl ml_X11_30 im_Jx4a65c_init_da8c8 in_Jx4a65c co_Jx4a65c_init_da8c8 rfl rfl pd_Jx4a65c_init_da8c8 rfl (by omega) (by decide) ⟨by decide, by decide⟩ (Nat.le_of_ble_eq_true rfl) ?_
  rintro _ _ ⟨rfl, rfl⟩ -
  refine g_putRF (pc' := 56) (k := 10) dX11_init_53 rfl rfl ck_12 (by decide) fl_X11_31 rfl rfl rfl rfl ?_
  refine g_aload_n (pc' := 57) dX11_init_56 rfl rfl ?_
  refine g_new (13, 1) (by decide +kernel) (pc' := 60) dX11_init_57 rfl rfl ck_0 cl_X11_28 it_Jx4a65c in_Jx4a65c (by decide) (by decide) ?_
  refine g_dup (pc' := 61) dX11_init_60 rfl rfl ?_
  refine g_invI (pc' := 64) (li_init hok (by decide +kernel)) dX11_init_61 rfl ml_X11_30 im_Jx4a65c_init_da8c8 in_Jx4a65c co_Jx4a65c_init_da8c8 rfl rfl pd_Jx4a65c_init_da8c8 rfl (by omega) (by decide) ⟨by decide, by decide⟩ (Nat.le_of_ble_eq_true rfl) ?_
  rintro _ _ ⟨rfl, rfl⟩ -
  refine g_putRF (pc' := 67) (k := 11) dX11_init_64 rfl rfl ck_12 (by decide) fl_X11_35 rfl rfl rfl rfl ?_
  refine g_aload_n (pc' := 68) dX11_init_67 rfl rfl ?_
  refine g_new (13, 2) (by decide +kernel) (pc' := 71) dX11_init_68 rfl rfl ck_0 cl_X11_28 it_Jx4a65c in_Jx4a65c (by decide) (by decide) ?_
  refine g_dup (pc' := 72) dX11_init_71 rfl rfl ?_
  refine g_invI (pc' := 75) (li_init hok (by decide +kernel)) dX11_init_72 rfl ml_X11_30 im_Jx4a65c_init_da8c8 in_Jx4a65c co_Jx4a65c_init_da8c8 rfl rfl pd_Jx4a65c_init_da8c8 rfl (by omega) (by decide) ⟨by decide, by decide⟩ (Nat.le_of_ble_eq_true rfl) ?_
  rintro _ _ ⟨rfl, rfl⟩ -
  refine g_putRF (pc' := 78) (k := 12) dX11_init_75 rfl rfl ck_12 (by decide) fl_X11_38 rfl rfl rfl rfl ?_
  refine g_aload_n (pc' := 79) dX11_init_78 rfl rfl ?_
  refine g_new (13, 3) (by decide +kernel) (pc' := 82) dX11_init_79 rfl rfl ck_0 cl_X11_28 it_Jx4a65c in_Jx4a65c (by decide) (by decide) ?_
  refine g_dup (pc' := 83) dX11_init_82 rfl rfl ?_
  refine g_invI (pc' := 86) (li_init hok (by decide +kernel)) dX11_init_83 rfl ml_X11_30 im_Jx4a65c_init_da8c8 in_Jx4a65c co_Jx4a65c_init_da8c8 rfl rfl pd_Jx4a65c_init_da8c8 rfl (by omega) (by decide) ⟨by decide, by decide⟩ (Nat.le_of_ble_eq_true rfl) ?_
  rintro _ _ ⟨rfl, rfl⟩ -
  refine g_putRF (pc' := 89) (k := 13) dX11_init_86 rfl rfl ck_12 (by decide) fl_X11_41 rfl rfl rfl rfl ?_
  refine g_aload_n (pc' := 90) dX11_init_89 rfl rfl ?_
  refine g_new (6, 0) (by decide +kernel) (pc' := 93) dX11_init_90 rfl rfl ck_7 cl_X11_44 it_X6 in_X6 (by decide) (by decide) ?_
  refine g_dup (pc' := 94) dX11_init_93 rfl rfl ?_
  refine g_invI (pc' := 97) (cx_textInit hok (by decide +kernel) (by decide +kernel) (by decide +kernel) (by decide +kernel) (by decide +kernel) (by decide +kernel) (by decide +kernel)) dX11_init_94 rfl ml_X11_46 im_X6_init in_X6 co_X6_init rfl rfl pd_X6_init rfl (by omega) (by decide) ⟨by decide, by decide⟩ (Nat.le_of_ble_eq_true rfl) ?_
  rintro _ _ ⟨rfl, rfl⟩ -
  refine g_putR (pc' := 100) (k := 5) dX11_init_97 rfl rfl ck_12 (by decide) fl_X11_47 rfl rfl ?_
  refine g_aload_n (pc' := 101) dX11_init_100 rfl rfl ?_
  refine g_new (7, 0) (by decide +kernel) (pc' := 104) dX11_init_101 rfl rfl ck_6 cl_X11_51 it_X5 in_X5 (by decide) (by decide) ?_
  refine g_dup (pc' := 105) dX11_init_104 rfl rfl ?_
  refine g_new (6, 1) (by decide +kernel) (pc' := 108) dX11_init_105 rfl rfl ck_7 cl_X11_44 it_X6 in_X6 (by decide) (by decide) ?_
  refine g_dup (pc' := 109) dX11_init_108 rfl rfl ?_
  refine g_invI (pc' := 112) (cx_textInit hok (by decide +kernel) (by decide +kernel) (by decide +kernel) (by decide +kernel) (by decide +kernel) (by decide +kernel) (by decide +kernel)) dX11_init_109 rfl ml_X11_46 im_X6_init in_X6 co_X6_init rfl rfl pd_X6_init rfl (by omega) (by decide) ⟨by decide, by decide⟩ (Nat.le_of_ble_eq_true rfl) ?_
  rintro _ _ ⟨rfl, rfl⟩ -
  refine g_invI (pc' := 115) (cx_recInit hok (by decide +kernel) (by decide +kernel) (6, 1)) dX11_init_112 rfl ml_X11_53 im_X5_init in_X5 co_X5_init rfl rfl pd_X5_init rfl (by omega) (by decide) ⟨by decide, by decide⟩ (Nat.le_of_ble_eq_true rfl) ?_
  rintro _ _ ⟨rfl, rfl⟩ -
  refine g_putRF (pc' := 118) (k := 14) dX11_init_115 rfl rfl ck_12 (by decide) fl_X11_56 rfl rfl rfl rfl ?_
  refine g_aload_n (pc' := 119) dX11_init_118 rfl rfl ?_
  refine g_new (8, 0) (by decide +kernel) (pc' := 122) dX11_init_119 rfl rfl ck_1 cl_X11_60 it_X0 in_X0 (by decide) (by decide) ?_
  refine g_dup (pc' := 123) dX11_init_122 rfl rfl ?_
  refine g_invI (pc' := 126) (cx_diaInit hok (by decide +kernel) (by decide +kernel) (by decide +kernel) (by decide +kernel)) dX11_init_123 rfl ml_X11_62 im_X0_init in_X0 co_X0_init rfl rfl pd_X0_init rfl (by omega) (by decide) ⟨by decide, by decide⟩ (Nat.le_of_ble_eq_true rfl) ?_
  rintro _ _ ⟨rfl, rfl⟩ -
  refine g_putRF (pc' := 129) (k := 15) dX11_init_126 rfl rfl ck_12 (by decide) fl_X11_63 rfl rfl rfl rfl ?_
  refine g_aload_n (pc' := 130) dX11_init_129 rfl rfl ?_
  refine g_new (9, 0) (by decide +kernel) (pc' := 133) dX11_init_130 rfl rfl ck_10 cl_X11_67 it_X9 in_X9 (by decide) (by decide) ?_
  refine g_dup (pc' := 134) dX11_init_133 rfl rfl ?_
  refine g_invI (pc' := 137) (cx_weiInit hok (by decide +kernel) (by decide +kernel) (by decide +kernel) (by decide +kernel) (by decide +kernel)) dX11_init_134 rfl ml_X11_69 im_X9_init in_X9 co_X9_init rfl rfl pd_X9_init rfl (by omega) (by decide) ⟨by decide, by decide⟩ (Nat.le_of_ble_eq_true rfl) ?_
  rintro _ _ ⟨rfl, rfl⟩ -
  refine g_putRF (pc' := 140) (k := 16) dX11_init_137 rfl rfl ck_12 (by decide) fl_X11_70 rfl rfl rfl rfl ?_
  refine g_aload_n (pc' := 141) dX11_init_140 rfl rfl ?_
  refine g_new (10, 0) (by decide +kernel) (pc' := 144) dX11_init_141 rfl rfl ck_8 cl_X11_74 it_X7 in_X7 (by decide) (by decide) ?_
  refine g_dup (pc' := 145) dX11_init_144 rfl rfl ?_
  refine g_invI (pc' := 148) (cx_shopInit hok hmu (by decide +kernel) (by decide +kernel) (by decide +kernel) (by decide +kernel) (by decide +kernel) (by decide +kernel)) dX11_init_145 rfl ml_X11_76 im_X7_init in_X7 co_X7_init rfl rfl pd_X7_init rfl (by omega) (by decide) ⟨by decide, by decide⟩ (Nat.le_of_ble_eq_true rfl) ?_
  rintro _ _ ⟨rfl, rfl⟩ -
  refine g_putRF (pc' := 151) (k := 17) dX11_init_148 rfl rfl ck_12 (by decide) fl_X11_77 rfl rfl rfl rfl ?_
  refine g_aload_n (pc' := 152) dX11_init_151 rfl rfl ?_
  refine g_new (11, 0) (by decide +kernel) (pc' := 155) dX11_init_152 rfl rfl ck_11 cl_X11_81 it_X10 in_X10 (by decide) (by decide) ?_
  refine g_dup (pc' := 156) dX11_init_155 rfl rfl ?_
  refine g_invI (pc' := 159) (cx_worInit hok (by decide +kernel) (by decide +kernel) (by decide +kernel) (by decide +kernel)) dX11_init_156 rfl ml_X11_83 im_X10_init in_X10 co_X10_init rfl rfl pd_X10_init rfl (by omega) (by decide) ⟨by decide, by decide⟩ (Nat.le_of_ble_eq_true rfl) ?_
  rintro _ _ ⟨rfl, rfl⟩ -
  refine g_putRF (pc' := 162) (k := 18) dX11_init_159 rfl rfl ck_12 (by decide) fl_X11_84 rfl rfl rfl rfl ?_
  refine g_aload_n (pc' := 163) dX11_init_162 rfl rfl ?_
  refine g_new (12, 0) (by decide +kernel) (pc' := 166) dX11_init_163 rfl rfl ck_4 cl_X11_88 it_X3 in_X3 (by decide) (by decide) ?_
  refine g_dup (pc' := 167) dX11_init_166 rfl rfl ?_
  refine g_invI (pc' := 170) (cx_paiInit hok (by decide +kernel) (by decide +kernel)) dX11_init_167 rfl ml_X11_90 im_X3_init in_X3 co_X3_init rfl rfl pd_X3_init rfl (by omega) (by decide) ⟨by decide, by decide⟩ (Nat.le_of_ble_eq_true rfl) ?_
  rintro _ _ ⟨rfl, rfl⟩ -
  refine g_putRF (pc' := 173) (k := 19) dX11_init_170 rfl rfl ck_12 (by decide) fl_X11_91 rfl rfl rfl rfl ?_
  refine g_vret dX11_init_173 rfl (by decide) (by decide) ?_
  exact ⟨rfl, rfl⟩
