/-! the class's constructors: rows that are made -/
def rtH (h : Hp) (i : Nat) : Hp := wR (nH (wR (nH (wR (nH (wR (nH (wR (nH (wR (nH (wR (nH (h) (35, i)) (6, i) 0 (some (35, i))) (36, i)) (6, i) 1 (some (36, i))) (37, i)) (6, i) 2 (some (37, i))) (38, i)) (6, i) 3 (some (38, i))) (39, i)) (6, i) 4 (some (39, i))) (40, i)) (6, i) 5 (some (40, i))) (41, i)) (6, i) 6 (some (41, i))
set_option maxRecDepth 8000 in
theorem cx_textInit {E : En} (hok : EOK E) {h : Hp}  {i : Nat} (f35 : h.2.2 (35, i) = false) (f36 : h.2.2 (36, i) = false) (f37 : h.2.2 (37, i) = false) (f38 : h.2.2 (38, i) = false) (f39 : h.2.2 (39, i) = false) (f40 : h.2.2 (40, i) = false) (f41 : h.2.2 (41, i) = false) : Call E m_X6_init 1 7 464 [vR (6, i)] h (fun r h' => r = none ∧ rtH h i = h') := by
  refine Call.enter hok (by decide) (Nat.le_of_ble_eq_true rfl) ?_
  show G E m_X6_init 1 7 464 _ h 0 [some (vR (6, i))] [] h 0 0
  refine g_aload_n (pc' := 1) dX6_init_0 rfl rfl ?_
  refine g_objInit (pc' := 4) dX6_init_1 rfl ml_X6_3 oi_i oi_c (by omega) (Nat.le_of_ble_eq_true rfl) ?_
  refine g_aload_n (pc' := 5) dX6_init_4 rfl rfl ?_
  refine g_sipushN (n := 200) (pc' := 8) dX6_init_5 rfl (by decide) ?_
  refine g_newI (35, i) (f35) (pc' := 10) dX6_init_8 rfl rfl (by decide) (by decide) (by decide) ?_
  refine g_putRF (pc' := 13) (k := 0) dX6_init_10 rfl rfl ck_7 (by decide) fl_X6_9 rfl rfl rfl rfl ?_
  refine g_aload_n (pc' := 14) dX6_init_13 rfl rfl ?_
  refine g_sipushN (n := 200) (pc' := 17) dX6_init_14 rfl (by decide) ?_
  refine g_newI (36, i) (f36) (pc' := 19) dX6_init_17 rfl rfl (by decide) (by decide) (by decide) ?_
  refine g_putRF (pc' := 22) (k := 1) dX6_init_19 rfl rfl ck_7 (by decide) fl_X6_15 rfl rfl rfl rfl ?_
  refine g_aload_n (pc' := 23) dX6_init_22 rfl rfl ?_
  refine g_bipushN (n := 16) (pc' := 25) dX6_init_23 rfl (by decide) ?_
  refine g_newI (37, i) (f37) (pc' := 27) dX6_init_25 rfl rfl (by decide) (by decide) (by decide) ?_
  refine g_putRF (pc' := 30) (k := 2) dX6_init_27 rfl rfl ck_7 (by decide) fl_X6_18 rfl rfl rfl rfl ?_
  refine g_aload_n (pc' := 31) dX6_init_30 rfl rfl ?_
  refine g_bipushN (n := 16) (pc' := 33) dX6_init_31 rfl (by decide) ?_
  refine g_newI (38, i) (f38) (pc' := 35) dX6_init_33 rfl rfl (by decide) (by decide) (by decide) ?_
  refine g_putRF (pc' := 38) (k := 3) dX6_init_35 rfl rfl ck_7 (by decide) fl_X6_21 rfl rfl rfl rfl ?_
  refine g_aload_n (pc' := 39) dX6_init_38 rfl rfl ?_
  refine g_bipushN (n := 16) (pc' := 41) dX6_init_39 rfl (by decide) ?_
  refine g_newI (39, i) (f39) (pc' := 43) dX6_init_41 rfl rfl (by decide) (by decide) (by decide) ?_
  refine g_putRF (pc' := 46) (k := 4) dX6_init_43 rfl rfl ck_7 (by decide) fl_X6_24 rfl rfl rfl rfl ?_
  refine g_aload_n (pc' := 47) dX6_init_46 rfl rfl ?_
  refine g_bipushN (n := 16) (pc' := 49) dX6_init_47 rfl (by decide) ?_
  refine g_newI (40, i) (f40) (pc' := 51) dX6_init_49 rfl rfl (by decide) (by decide) (by decide) ?_
  refine g_putRF (pc' := 54) (k := 5) dX6_init_51 rfl rfl ck_7 (by decide) fl_X6_27 rfl rfl rfl rfl ?_
  refine g_aload_n (pc' := 55) dX6_init_54 rfl rfl ?_
  refine g_iconstN (n := 0) (pc' := 56) dX6_init_55 rfl ?_
  refine g_newI (41, i) (f41) (pc' := 58) dX6_init_56 rfl rfl (by decide) (by decide) (by decide) ?_
  refine g_putR (pc' := 61) (k := 6) dX6_init_58 rfl rfl ck_7 (by decide) fl_X6_30 rfl rfl ?_
  refine g_vret dX6_init_61 rfl (by decide) (by decide) ?_
  exact ⟨rfl, rfl⟩
def rcH (h : Hp) (t : Ad) : Hp := wR (nH (wR (nH (wR h (7, 0) 2 (some t)) (42, 0)) (7, 0) 0 (some (42, 0))) (43, 0)) (7, 0) 1 (some (43, 0))
set_option maxRecDepth 8000 in
theorem cx_recInit {E : En} (hok : EOK E) {h : Hp}  (f42 : h.2.2 (42, 0) = false) (f43 : h.2.2 (43, 0) = false) (t : Ad) : Call E m_X5_init 1 2 226 [vR (7, 0), vR t] h (fun r h' => r = none ∧ rcH h t = h') := by
  refine Call.enter hok (by decide) (Nat.le_of_ble_eq_true rfl) ?_
  show G E m_X5_init 1 2 226 _ h 0 [some (vR (7, 0)), some (vR t)] [] h 0 0
  refine g_aload_n (pc' := 1) dX5_init_0 rfl rfl ?_
  refine g_objInit (pc' := 4) dX5_init_1 rfl ml_X5_3 oi_i oi_c (by omega) (Nat.le_of_ble_eq_true rfl) ?_
  refine g_aload_n (pc' := 5) dX5_init_4 rfl rfl ?_
  refine g_aload_n (pc' := 6) dX5_init_5 rfl rfl ?_
  refine g_putR (pc' := 9) (k := 2) dX5_init_6 rfl rfl ck_6 (by decide) fl_X5_9 rfl rfl ?_
  refine g_aload_n (pc' := 10) dX5_init_9 rfl rfl ?_
  refine g_bipushN (n := 26) (pc' := 12) dX5_init_10 rfl (by decide) ?_
  refine g_newI (42, 0) (f42) (pc' := 14) dX5_init_12 rfl rfl (by decide) (by decide) (by decide) ?_
  refine g_putRF (pc' := 17) (k := 0) dX5_init_14 rfl rfl ck_6 (by decide) fl_X5_15 rfl rfl rfl rfl ?_
  refine g_aload_n (pc' := 18) dX5_init_17 rfl rfl ?_
  refine g_sipushN (n := 200) (pc' := 21) dX5_init_18 rfl (by decide) ?_
  refine g_newI (43, 0) (f43) (pc' := 23) dX5_init_21 rfl rfl (by decide) (by decide) (by decide) ?_
  refine g_putRF (pc' := 26) (k := 1) dX5_init_23 rfl rfl ck_6 (by decide) fl_X5_19 rfl rfl rfl rfl ?_
  refine g_vret dX5_init_26 rfl (by decide) (by decide) ?_
  exact ⟨rfl, rfl⟩
def diH (h : Hp) : Hp := wR (nH (wR (nH (wR (nH (wR (nH (h) (31, 0)) (8, 0) 0 (some (31, 0))) (32, 0)) (8, 0) 1 (some (32, 0))) (33, 0)) (8, 0) 2 (some (33, 0))) (34, 0)) (8, 0) 3 (some (34, 0))
set_option maxRecDepth 8000 in
theorem cx_diaInit {E : En} (hok : EOK E) {h : Hp}  (f31 : h.2.2 (31, 0) = false) (f32 : h.2.2 (32, 0) = false) (f33 : h.2.2 (33, 0) = false) (f34 : h.2.2 (34, 0) = false) : Call E m_X0_init 1 4 2400 [vR (8, 0)] h (fun r h' => r = none ∧ diH h = h') := by
  refine Call.enter hok (by decide) (Nat.le_of_ble_eq_true rfl) ?_
  show G E m_X0_init 1 4 2400 _ h 0 [some (vR (8, 0))] [] h 0 0
  refine g_aload_n (pc' := 1) dX0_init_0 rfl rfl ?_
  refine g_objInit (pc' := 4) dX0_init_1 rfl ml_X0_3 oi_i oi_c (by omega) (Nat.le_of_ble_eq_true rfl) ?_
  refine g_aload_n (pc' := 5) dX0_init_4 rfl rfl ?_
  refine g_sipushN (n := 600) (pc' := 8) dX0_init_5 rfl (by decide) ?_
  refine g_newI (31, 0) (f31) (pc' := 10) dX0_init_8 rfl rfl (by decide) (by decide) (by decide) ?_
  refine g_putRF (pc' := 13) (k := 0) dX0_init_10 rfl rfl ck_1 (by decide) fl_X0_9 rfl rfl rfl rfl ?_
  refine g_aload_n (pc' := 14) dX0_init_13 rfl rfl ?_
  refine g_sipushN (n := 600) (pc' := 17) dX0_init_14 rfl (by decide) ?_
  refine g_newI (32, 0) (f32) (pc' := 19) dX0_init_17 rfl rfl (by decide) (by decide) (by decide) ?_
  refine g_putRF (pc' := 22) (k := 1) dX0_init_19 rfl rfl ck_1 (by decide) fl_X0_15 rfl rfl rfl rfl ?_
  refine g_aload_n (pc' := 23) dX0_init_22 rfl rfl ?_
  refine g_sipushN (n := 600) (pc' := 26) dX0_init_23 rfl (by decide) ?_
  refine g_newI (33, 0) (f33) (pc' := 28) dX0_init_26 rfl rfl (by decide) (by decide) (by decide) ?_
  refine g_putRF (pc' := 31) (k := 2) dX0_init_28 rfl rfl ck_1 (by decide) fl_X0_18 rfl rfl rfl rfl ?_
  refine g_aload_n (pc' := 32) dX0_init_31 rfl rfl ?_
  refine g_sipushN (n := 600) (pc' := 35) dX0_init_32 rfl (by decide) ?_
  refine g_newI (34, 0) (f34) (pc' := 37) dX0_init_35 rfl rfl (by decide) (by decide) (by decide) ?_
  refine g_putRF (pc' := 40) (k := 3) dX0_init_37 rfl rfl ck_1 (by decide) fl_X0_21 rfl rfl rfl rfl ?_
  refine g_vret dX0_init_40 rfl (by decide) (by decide) ?_
  exact ⟨rfl, rfl⟩
def weH (h : Hp) : Hp := wI (wR (nH (wR (nH (wR (nH (wR (nH (wR (nH (h) (44, 0)) (9, 0) 0 (some (44, 0))) (45, 0)) (9, 0) 1 (some (45, 0))) (46, 0)) (9, 0) 2 (some (46, 0))) (47, 0)) (9, 0) 3 (some (47, 0))) (48, 0)) (9, 0) 4 (some (48, 0))) (47, 0) 6 (nI 1)
set_option maxRecDepth 8000 in
theorem cx_weiInit {E : En} (hok : EOK E) {h : Hp}  (f44 : h.2.2 (44, 0) = false) (f45 : h.2.2 (45, 0) = false) (f46 : h.2.2 (46, 0) = false) (f47 : h.2.2 (47, 0) = false) (f48 : h.2.2 (48, 0) = false) : Call E m_X9_init 1 5 33 [vR (9, 0)] h (fun r h' => r = none ∧ weH h = h') := by
  refine Call.enter hok (by decide) (Nat.le_of_ble_eq_true rfl) ?_
  show G E m_X9_init 1 5 33 _ h 0 [some (vR (9, 0))] [] h 0 0
  refine g_aload_n (pc' := 1) dX9_init_0 rfl rfl ?_
  refine g_objInit (pc' := 4) dX9_init_1 rfl ml_X9_3 oi_i oi_c (by omega) (Nat.le_of_ble_eq_true rfl) ?_
  refine g_aload_n (pc' := 5) dX9_init_4 rfl rfl ?_
  refine g_bipushN (n := 6) (pc' := 7) dX9_init_5 rfl (by decide) ?_
  refine g_newI (44, 0) (f44) (pc' := 9) dX9_init_7 rfl rfl (by decide) (by decide) (by decide) ?_
  refine g_putRF (pc' := 12) (k := 0) dX9_init_9 rfl rfl ck_10 (by decide) fl_X9_9 rfl rfl rfl rfl ?_
  refine g_aload_n (pc' := 13) dX9_init_12 rfl rfl ?_
  refine g_bipushN (n := 6) (pc' := 15) dX9_init_13 rfl (by decide) ?_
  refine g_newI (45, 0) (f45) (pc' := 17) dX9_init_15 rfl rfl (by decide) (by decide) (by decide) ?_
  refine g_putRF (pc' := 20) (k := 1) dX9_init_17 rfl rfl ck_10 (by decide) fl_X9_15 rfl rfl rfl rfl ?_
  refine g_aload_n (pc' := 21) dX9_init_20 rfl rfl ?_
  refine g_bipushN (n := 7) (pc' := 23) dX9_init_21 rfl (by decide) ?_
  refine g_newI (46, 0) (f46) (pc' := 25) dX9_init_23 rfl rfl (by decide) (by decide) (by decide) ?_
  refine g_putRF (pc' := 28) (k := 2) dX9_init_25 rfl rfl ck_10 (by decide) fl_X9_18 rfl rfl rfl rfl ?_
  refine g_aload_n (pc' := 29) dX9_init_28 rfl rfl ?_
  refine g_bipushN (n := 7) (pc' := 31) dX9_init_29 rfl (by decide) ?_
  refine g_newI (47, 0) (f47) (pc' := 33) dX9_init_31 rfl rfl (by decide) (by decide) (by decide) ?_
  refine g_putRF (pc' := 36) (k := 3) dX9_init_33 rfl rfl ck_10 (by decide) fl_X9_21 rfl rfl rfl rfl ?_
  refine g_aload_n (pc' := 37) dX9_init_36 rfl rfl ?_
  refine g_bipushN (n := 7) (pc' := 39) dX9_init_37 rfl (by decide) ?_
  refine g_newI (48, 0) (f48) (pc' := 41) dX9_init_39 rfl rfl (by decide) (by decide) (by decide) ?_
  refine g_putRF (pc' := 44) (k := 4) dX9_init_41 rfl rfl ck_10 (by decide) fl_X9_24 rfl rfl rfl rfl ?_
  refine g_aload_n (pc' := 45) dX9_init_44 rfl rfl ?_
  refine g_getR (pc' := 48) (k := 3) (r := some (47, 0)) dX9_init_45 rfl rfl ck_10 (by decide) fl_X9_21 rfl (rfl) ?_
  refine g_bipushN (n := 6) (pc' := 50) dX9_init_48 rfl (by decide) ?_
  refine g_iconstN (n := 1) (pc' := 51) dX9_init_50 rfl ?_
  refine g_iastN (pc' := 52) dX9_init_51 rfl rfl (by decide) (by omega) ?_
  refine g_vret dX9_init_52 rfl (by decide) (by decide) ?_
  exact ⟨rfl, rfl⟩
def woH (h : Hp) : Hp := wR (nH (wR (nH (wR (nH (wR (nH (h) (55, 0)) (11, 0) 0 (some (55, 0))) (56, 0)) (11, 0) 1 (some (56, 0))) (57, 0)) (11, 0) 2 (some (57, 0))) (58, 0)) (11, 0) 3 (some (58, 0))
set_option maxRecDepth 8000 in
theorem cx_worInit {E : En} (hok : EOK E) {h : Hp}  (f55 : h.2.2 (55, 0) = false) (f56 : h.2.2 (56, 0) = false) (f57 : h.2.2 (57, 0) = false) (f58 : h.2.2 (58, 0) = false) : Call E m_X10_init 1 4 65 [vR (11, 0)] h (fun r h' => r = none ∧ woH h = h') := by
  refine Call.enter hok (by decide) (Nat.le_of_ble_eq_true rfl) ?_
  show G E m_X10_init 1 4 65 _ h 0 [some (vR (11, 0))] [] h 0 0
  refine g_aload_n (pc' := 1) dX10_init_0 rfl rfl ?_
  refine g_objInit (pc' := 4) dX10_init_1 rfl ml_X10_3 oi_i oi_c (by omega) (Nat.le_of_ble_eq_true rfl) ?_
  refine g_aload_n (pc' := 5) dX10_init_4 rfl rfl ?_
  refine g_bipushN (n := 16) (pc' := 7) dX10_init_5 rfl (by decide) ?_
  refine g_newI (55, 0) (f55) (pc' := 9) dX10_init_7 rfl rfl (by decide) (by decide) (by decide) ?_
  refine g_putRF (pc' := 12) (k := 0) dX10_init_9 rfl rfl ck_11 (by decide) fl_X10_9 rfl rfl rfl rfl ?_
  refine g_aload_n (pc' := 13) dX10_init_12 rfl rfl ?_
  refine g_bipushN (n := 16) (pc' := 15) dX10_init_13 rfl (by decide) ?_
  refine g_newI (56, 0) (f56) (pc' := 17) dX10_init_15 rfl rfl (by decide) (by decide) (by decide) ?_
  refine g_putRF (pc' := 20) (k := 1) dX10_init_17 rfl rfl ck_11 (by decide) fl_X10_15 rfl rfl rfl rfl ?_
  refine g_aload_n (pc' := 21) dX10_init_20 rfl rfl ?_
  refine g_bipushN (n := 16) (pc' := 23) dX10_init_21 rfl (by decide) ?_
  refine g_newI (57, 0) (f57) (pc' := 25) dX10_init_23 rfl rfl (by decide) (by decide) (by decide) ?_
  refine g_putRF (pc' := 28) (k := 2) dX10_init_25 rfl rfl ck_11 (by decide) fl_X10_18 rfl rfl rfl rfl ?_
  refine g_aload_n (pc' := 29) dX10_init_28 rfl rfl ?_
  refine g_bipushN (n := 17) (pc' := 31) dX10_init_29 rfl (by decide) ?_
  refine g_newI (58, 0) (f58) (pc' := 33) dX10_init_31 rfl rfl (by decide) (by decide) (by decide) ?_
  refine g_putRF (pc' := 36) (k := 3) dX10_init_33 rfl rfl ck_11 (by decide) fl_X10_21 rfl rfl rfl rfl ?_
  refine g_vret dX10_init_36 rfl (by decide) (by decide) ?_
  exact ⟨rfl, rfl⟩
def paH (h : Hp) : Hp := wR (nH (wR (nH (h) (59, 0)) (12, 0) 0 (some (59, 0))) (60, 0)) (12, 0) 1 (some (60, 0))
set_option maxRecDepth 8000 in
theorem cx_paiInit {E : En} (hok : EOK E) {h : Hp}  (f59 : h.2.2 (59, 0) = false) (f60 : h.2.2 (60, 0) = false) : Call E m_X3_init 1 2 26 [vR (12, 0)] h (fun r h' => r = none ∧ paH h = h') := by
  refine Call.enter hok (by decide) (Nat.le_of_ble_eq_true rfl) ?_
  show G E m_X3_init 1 2 26 _ h 0 [some (vR (12, 0))] [] h 0 0
  refine g_aload_n (pc' := 1) dX3_init_0 rfl rfl ?_
  refine g_objInit (pc' := 4) dX3_init_1 rfl ml_X3_3 oi_i oi_c (by omega) (Nat.le_of_ble_eq_true rfl) ?_
  refine g_aload_n (pc' := 5) dX3_init_4 rfl rfl ?_
  refine g_bipushN (n := 16) (pc' := 7) dX3_init_5 rfl (by decide) ?_
  refine g_newI (59, 0) (f59) (pc' := 9) dX3_init_7 rfl rfl (by decide) (by decide) (by decide) ?_
  refine g_putRF (pc' := 12) (k := 0) dX3_init_9 rfl rfl ck_4 (by decide) fl_X3_9 rfl rfl rfl rfl ?_
  refine g_aload_n (pc' := 13) dX3_init_12 rfl rfl ?_
  refine g_bipushN (n := 10) (pc' := 15) dX3_init_13 rfl (by decide) ?_
  refine g_newI (60, 0) (f60) (pc' := 17) dX3_init_15 rfl rfl (by decide) (by decide) (by decide) ?_
  refine g_putRF (pc' := 20) (k := 1) dX3_init_17 rfl rfl ck_4 (by decide) fl_X3_15 rfl rfl rfl rfl ?_
  refine g_vret dX3_init_20 rfl (by decide) (by decide) ?_
  exact ⟨rfl, rfl⟩
