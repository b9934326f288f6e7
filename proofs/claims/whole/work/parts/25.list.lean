set_option maxRecDepth 4000 in
theorem cl_size {E : En} (hok : EOK E) {h : Hp} {i : Nat} : Fn E m_Jx4a65c_size_8abf5 0 [vR (13, i)] h (vI (h.1 (13, i) 2)) := by
  refine Call.enter hok (by decide) (Nat.le_of_ble_eq_true rfl) ?_
  show G E m_Jx4a65c_size_8abf5 0 0 0 _ h 0 [some (vR (13, i))] [] h 0 0
  refine g_aload_n (pc' := 1) dJx4a65c_size_8abf5_0 rfl rfl ?_
  refine g_getI (pc' := 4) (k := 2) dJx4a65c_size_8abf5_1 rfl rfl ck_0 (by decide) fl_Jx4a65c_48 rfl ?_
  refine g_iret dJx4a65c_size_8abf5_4 rfl (by decide) (by decide) ?_
  exact ⟨rfl, rfl⟩
