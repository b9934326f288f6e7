/-- the letters' values: of kind k, of a toy (or 0), of family f -/
noncomputable def env (m : St) (k : Nat) (w l t n : Int32) (f : Nat) (late : Int32) : Nat → Int32 := fun c =>
  if c = 107 then nI k else if c = 97 then m 108 k else if c = 112 then m 109 k else if c = 122 then m 110 k else if c = 119 then w else if c = 109 then l else if c = 116 then t else if c = 110 then n else if c = 121 then m 126 f else if c = 101 then m 127 f else if c = 118 then m 128 f else if c = 104 then nI (hsT m (nI f)) else if c = 100 then m 1 2 else if c = 115 then nI (nW m % 365) else if c = 108 then late else if c = 113 then cif (m 186 (8 * f + k) = -1) 0 (m 1 2 - m 186 (8 * f + k)) else nI (wfr m k)
noncomputable def envT (m : St) (t f : Nat) (late : Int32) : Nat → Int32 := env m (kd m t) (m 117 t) (lck m t) (nI t) (m 122 t) f late
noncomputable def envN (m : St) (k f : Nat) : Nat → Int32 := env m k 0 0 0 0 f 0
/-- what was asked -/
def As (h : Hp) (k : Nat) (t : Int32) (f : Nat) (late : Int32) : Prop := h.1 MO 53 = nI k ∧ h.1 MO 54 = t ∧ h.1 MO 55 = nI f ∧ h.1 MO 56 = late
set_option maxRecDepth 4000 in
theorem cm_any_107 {E : En} (hok : EOK E) {h : Hp}  : Fn E m_X12_isAnyOfToy 0 [vI (nI 107)] h (vI (nI 1)) := by
  refine Call.enter hok (by decide) (Nat.le_of_ble_eq_true rfl) ?_
  show G E m_X12_isAnyOfToy 0 0 0 _ h 0 [some (vI (nI 107))] [] h 0 0
  refine g_iload_n (pc' := 1) dX12_isAnyOfToy_0 rfl rfl ?_
  refine g_bipushN (n := 107) (pc' := 3) dX12_isAnyOfToy_1 rfl (by decide) ?_
  refine g_icmp_eqN (tgt := 48) (pc' := 6) dX12_isAnyOfToy_3 rfl (by decide) (by decide) (by decide) (fun _ => ?_) (fun q => False.elim (by revert q; decide))
  refine g_iconstN (n := 1) (pc' := 49) dX12_isAnyOfToy_48 rfl ?_
  refine g_goto (tgt := 53) dX12_isAnyOfToy_49 (by decide) ?_
  refine g_zret dX12_isAnyOfToy_53 rfl (by rfl) (by decide) (by decide) ?_
  exact ⟨rfl, rfl⟩
set_option maxRecDepth 4000 in
theorem cm_any_97 {E : En} (hok : EOK E) {h : Hp}  : Fn E m_X12_isAnyOfToy 0 [vI (nI 97)] h (vI (nI 1)) := by
  refine Call.enter hok (by decide) (Nat.le_of_ble_eq_true rfl) ?_
  show G E m_X12_isAnyOfToy 0 0 0 _ h 0 [some (vI (nI 97))] [] h 0 0
  refine g_iload_n (pc' := 1) dX12_isAnyOfToy_0 rfl rfl ?_
  refine g_bipushN (n := 107) (pc' := 3) dX12_isAnyOfToy_1 rfl (by decide) ?_
  refine g_icmp_eqN (tgt := 48) (pc' := 6) dX12_isAnyOfToy_3 rfl (by decide) (by decide) (by decide) (fun q => False.elim (by revert q; decide)) (fun _ => ?_)
  refine g_iload_n (pc' := 7) dX12_isAnyOfToy_6 rfl rfl ?_
  refine g_bipushN (n := 97) (pc' := 9) dX12_isAnyOfToy_7 rfl (by decide) ?_
  refine g_icmp_eqN (tgt := 48) (pc' := 12) dX12_isAnyOfToy_9 rfl (by decide) (by decide) (by decide) (fun _ => ?_) (fun q => False.elim (by revert q; decide))
  refine g_iconstN (n := 1) (pc' := 49) dX12_isAnyOfToy_48 rfl ?_
  refine g_goto (tgt := 53) dX12_isAnyOfToy_49 (by decide) ?_
  refine g_zret dX12_isAnyOfToy_53 rfl (by rfl) (by decide) (by decide) ?_
  exact ⟨rfl, rfl⟩
set_option maxRecDepth 4000 in
theorem cm_any_112 {E : En} (hok : EOK E) {h : Hp}  : Fn E m_X12_isAnyOfToy 0 [vI (nI 112)] h (vI (nI 1)) := by
  refine Call.enter hok (by decide) (Nat.le_of_ble_eq_true rfl) ?_
  show G E m_X12_isAnyOfToy 0 0 0 _ h 0 [some (vI (nI 112))] [] h 0 0
  refine g_iload_n (pc' := 1) dX12_isAnyOfToy_0 rfl rfl ?_
  refine g_bipushN (n := 107) (pc' := 3) dX12_isAnyOfToy_1 rfl (by decide) ?_
  refine g_icmp_eqN (tgt := 48) (pc' := 6) dX12_isAnyOfToy_3 rfl (by decide) (by decide) (by decide) (fun q => False.elim (by revert q; decide)) (fun _ => ?_)
  refine g_iload_n (pc' := 7) dX12_isAnyOfToy_6 rfl rfl ?_
  refine g_bipushN (n := 97) (pc' := 9) dX12_isAnyOfToy_7 rfl (by decide) ?_
  refine g_icmp_eqN (tgt := 48) (pc' := 12) dX12_isAnyOfToy_9 rfl (by decide) (by decide) (by decide) (fun q => False.elim (by revert q; decide)) (fun _ => ?_)
  refine g_iload_n (pc' := 13) dX12_isAnyOfToy_12 rfl rfl ?_
  refine g_bipushN (n := 112) (pc' := 15) dX12_isAnyOfToy_13 rfl (by decide) ?_
  refine g_icmp_eqN (tgt := 48) (pc' := 18) dX12_isAnyOfToy_15 rfl (by decide) (by decide) (by decide) (fun _ => ?_) (fun q => False.elim (by revert q; decide))
  refine g_iconstN (n := 1) (pc' := 49) dX12_isAnyOfToy_48 rfl ?_
  refine g_goto (tgt := 53) dX12_isAnyOfToy_49 (by decide) ?_
  refine g_zret dX12_isAnyOfToy_53 rfl (by rfl) (by decide) (by decide) ?_
  exact ⟨rfl, rfl⟩
set_option maxRecDepth 4000 in
theorem cm_any_122 {E : En} (hok : EOK E) {h : Hp}  : Fn E m_X12_isAnyOfToy 0 [vI (nI 122)] h (vI (nI 1)) := by
  refine Call.enter hok (by decide) (Nat.le_of_ble_eq_true rfl) ?_
  show G E m_X12_isAnyOfToy 0 0 0 _ h 0 [some (vI (nI 122))] [] h 0 0
  refine g_iload_n (pc' := 1) dX12_isAnyOfToy_0 rfl rfl ?_
  refine g_bipushN (n := 107) (pc' := 3) dX12_isAnyOfToy_1 rfl (by decide) ?_
  refine g_icmp_eqN (tgt := 48) (pc' := 6) dX12_isAnyOfToy_3 rfl (by decide) (by decide) (by decide) (fun q => False.elim (by revert q; decide)) (fun _ => ?_)
  refine g_iload_n (pc' := 7) dX12_isAnyOfToy_6 rfl rfl ?_
  refine g_bipushN (n := 97) (pc' := 9) dX12_isAnyOfToy_7 rfl (by decide) ?_
  refine g_icmp_eqN (tgt := 48) (pc' := 12) dX12_isAnyOfToy_9 rfl (by decide) (by decide) (by decide) (fun q => False.elim (by revert q; decide)) (fun _ => ?_)
  refine g_iload_n (pc' := 13) dX12_isAnyOfToy_12 rfl rfl ?_
  refine g_bipushN (n := 112) (pc' := 15) dX12_isAnyOfToy_13 rfl (by decide) ?_
  refine g_icmp_eqN (tgt := 48) (pc' := 18) dX12_isAnyOfToy_15 rfl (by decide) (by decide) (by decide) (fun q => False.elim (by revert q; decide)) (fun _ => ?_)
  refine g_iload_n (pc' := 19) dX12_isAnyOfToy_18 rfl rfl ?_
  refine g_bipushN (n := 122) (pc' := 21) dX12_isAnyOfToy_19 rfl (by decide) ?_
  refine g_icmp_eqN (tgt := 48) (pc' := 24) dX12_isAnyOfToy_21 rfl (by decide) (by decide) (by decide) (fun _ => ?_) (fun q => False.elim (by revert q; decide))
  refine g_iconstN (n := 1) (pc' := 49) dX12_isAnyOfToy_48 rfl ?_
  refine g_goto (tgt := 53) dX12_isAnyOfToy_49 (by decide) ?_
  refine g_zret dX12_isAnyOfToy_53 rfl (by rfl) (by decide) (by decide) ?_
  exact ⟨rfl, rfl⟩
set_option maxRecDepth 4000 in
theorem cm_any_119 {E : En} (hok : EOK E) {h : Hp}  : Fn E m_X12_isAnyOfToy 0 [vI (nI 119)] h (vI (nI 1)) := by
  refine Call.enter hok (by decide) (Nat.le_of_ble_eq_true rfl) ?_
  show G E m_X12_isAnyOfToy 0 0 0 _ h 0 [some (vI (nI 119))] [] h 0 0
  refine g_iload_n (pc' := 1) dX12_isAnyOfToy_0 rfl rfl ?_
  refine g_bipushN (n := 107) (pc' := 3) dX12_isAnyOfToy_1 rfl (by decide) ?_
  refine g_icmp_eqN (tgt := 48) (pc' := 6) dX12_isAnyOfToy_3 rfl (by decide) (by decide) (by decide) (fun q => False.elim (by revert q; decide)) (fun _ => ?_)
  refine g_iload_n (pc' := 7) dX12_isAnyOfToy_6 rfl rfl ?_
  refine g_bipushN (n := 97) (pc' := 9) dX12_isAnyOfToy_7 rfl (by decide) ?_
  refine g_icmp_eqN (tgt := 48) (pc' := 12) dX12_isAnyOfToy_9 rfl (by decide) (by decide) (by decide) (fun q => False.elim (by revert q; decide)) (fun _ => ?_)
  refine g_iload_n (pc' := 13) dX12_isAnyOfToy_12 rfl rfl ?_
  refine g_bipushN (n := 112) (pc' := 15) dX12_isAnyOfToy_13 rfl (by decide) ?_
  refine g_icmp_eqN (tgt := 48) (pc' := 18) dX12_isAnyOfToy_15 rfl (by decide) (by decide) (by decide) (fun q => False.elim (by revert q; decide)) (fun _ => ?_)
  refine g_iload_n (pc' := 19) dX12_isAnyOfToy_18 rfl rfl ?_
  refine g_bipushN (n := 122) (pc' := 21) dX12_isAnyOfToy_19 rfl (by decide) ?_
  refine g_icmp_eqN (tgt := 48) (pc' := 24) dX12_isAnyOfToy_21 rfl (by decide) (by decide) (by decide) (fun q => False.elim (by revert q; decide)) (fun _ => ?_)
  refine g_iload_n (pc' := 25) dX12_isAnyOfToy_24 rfl rfl ?_
  refine g_bipushN (n := 119) (pc' := 27) dX12_isAnyOfToy_25 rfl (by decide) ?_
  refine g_icmp_eqN (tgt := 48) (pc' := 30) dX12_isAnyOfToy_27 rfl (by decide) (by decide) (by decide) (fun _ => ?_) (fun q => False.elim (by revert q; decide))
  refine g_iconstN (n := 1) (pc' := 49) dX12_isAnyOfToy_48 rfl ?_
  refine g_goto (tgt := 53) dX12_isAnyOfToy_49 (by decide) ?_
  refine g_zret dX12_isAnyOfToy_53 rfl (by rfl) (by decide) (by decide) ?_
  exact ⟨rfl, rfl⟩
set_option maxRecDepth 4000 in
theorem cm_any_109 {E : En} (hok : EOK E) {h : Hp}  : Fn E m_X12_isAnyOfToy 0 [vI (nI 109)] h (vI (nI 1)) := by
  refine Call.enter hok (by decide) (Nat.le_of_ble_eq_true rfl) ?_
  show G E m_X12_isAnyOfToy 0 0 0 _ h 0 [some (vI (nI 109))] [] h 0 0
  refine g_iload_n (pc' := 1) dX12_isAnyOfToy_0 rfl rfl ?_
  refine g_bipushN (n := 107) (pc' := 3) dX12_isAnyOfToy_1 rfl (by decide) ?_
  refine g_icmp_eqN (tgt := 48) (pc' := 6) dX12_isAnyOfToy_3 rfl (by decide) (by decide) (by decide) (fun q => False.elim (by revert q; decide)) (fun _ => ?_)
  refine g_iload_n (pc' := 7) dX12_isAnyOfToy_6 rfl rfl ?_
  refine g_bipushN (n := 97) (pc' := 9) dX12_isAnyOfToy_7 rfl (by decide) ?_
  refine g_icmp_eqN (tgt := 48) (pc' := 12) dX12_isAnyOfToy_9 rfl (by decide) (by decide) (by decide) (fun q => False.elim (by revert q; decide)) (fun _ => ?_)
  refine g_iload_n (pc' := 13) dX12_isAnyOfToy_12 rfl rfl ?_
  refine g_bipushN (n := 112) (pc' := 15) dX12_isAnyOfToy_13 rfl (by decide) ?_
  refine g_icmp_eqN (tgt := 48) (pc' := 18) dX12_isAnyOfToy_15 rfl (by decide) (by decide) (by decide) (fun q => False.elim (by revert q; decide)) (fun _ => ?_)
  refine g_iload_n (pc' := 19) dX12_isAnyOfToy_18 rfl rfl ?_
  refine g_bipushN (n := 122) (pc' := 21) dX12_isAnyOfToy_19 rfl (by decide) ?_
  refine g_icmp_eqN (tgt := 48) (pc' := 24) dX12_isAnyOfToy_21 rfl (by decide) (by decide) (by decide) (fun q => False.elim (by revert q; decide)) (fun _ => ?_)
  refine g_iload_n (pc' := 25) dX12_isAnyOfToy_24 rfl rfl ?_
  refine g_bipushN (n := 119) (pc' := 27) dX12_isAnyOfToy_25 rfl (by decide) ?_
  refine g_icmp_eqN (tgt := 48) (pc' := 30) dX12_isAnyOfToy_27 rfl (by decide) (by decide) (by decide) (fun q => False.elim (by revert q; decide)) (fun _ => ?_)
  refine g_iload_n (pc' := 31) dX12_isAnyOfToy_30 rfl rfl ?_
  refine g_bipushN (n := 109) (pc' := 33) dX12_isAnyOfToy_31 rfl (by decide) ?_
  refine g_icmp_eqN (tgt := 48) (pc' := 36) dX12_isAnyOfToy_33 rfl (by decide) (by decide) (by decide) (fun _ => ?_) (fun q => False.elim (by revert q; decide))
  refine g_iconstN (n := 1) (pc' := 49) dX12_isAnyOfToy_48 rfl ?_
  refine g_goto (tgt := 53) dX12_isAnyOfToy_49 (by decide) ?_
  refine g_zret dX12_isAnyOfToy_53 rfl (by rfl) (by decide) (by decide) ?_
  exact ⟨rfl, rfl⟩
set_option maxRecDepth 4000 in
theorem cm_any_116 {E : En} (hok : EOK E) {h : Hp}  : Fn E m_X12_isAnyOfToy 0 [vI (nI 116)] h (vI (nI 1)) := by
  refine Call.enter hok (by decide) (Nat.le_of_ble_eq_true rfl) ?_
  show G E m_X12_isAnyOfToy 0 0 0 _ h 0 [some (vI (nI 116))] [] h 0 0
  refine g_iload_n (pc' := 1) dX12_isAnyOfToy_0 rfl rfl ?_
  refine g_bipushN (n := 107) (pc' := 3) dX12_isAnyOfToy_1 rfl (by decide) ?_
  refine g_icmp_eqN (tgt := 48) (pc' := 6) dX12_isAnyOfToy_3 rfl (by decide) (by decide) (by decide) (fun q => False.elim (by revert q; decide)) (fun _ => ?_)
  refine g_iload_n (pc' := 7) dX12_isAnyOfToy_6 rfl rfl ?_
  refine g_bipushN (n := 97) (pc' := 9) dX12_isAnyOfToy_7 rfl (by decide) ?_
  refine g_icmp_eqN (tgt := 48) (pc' := 12) dX12_isAnyOfToy_9 rfl (by decide) (by decide) (by decide) (fun q => False.elim (by revert q; decide)) (fun _ => ?_)
  refine g_iload_n (pc' := 13) dX12_isAnyOfToy_12 rfl rfl ?_
  refine g_bipushN (n := 112) (pc' := 15) dX12_isAnyOfToy_13 rfl (by decide) ?_
  refine g_icmp_eqN (tgt := 48) (pc' := 18) dX12_isAnyOfToy_15 rfl (by decide) (by decide) (by decide) (fun q => False.elim (by revert q; decide)) (fun _ => ?_)
  refine g_iload_n (pc' := 19) dX12_isAnyOfToy_18 rfl rfl ?_
  refine g_bipushN (n := 122) (pc' := 21) dX12_isAnyOfToy_19 rfl (by decide) ?_
  refine g_icmp_eqN (tgt := 48) (pc' := 24) dX12_isAnyOfToy_21 rfl (by decide) (by decide) (by decide) (fun q => False.elim (by revert q; decide)) (fun _ => ?_)
  refine g_iload_n (pc' := 25) dX12_isAnyOfToy_24 rfl rfl ?_
  refine g_bipushN (n := 119) (pc' := 27) dX12_isAnyOfToy_25 rfl (by decide) ?_
  refine g_icmp_eqN (tgt := 48) (pc' := 30) dX12_isAnyOfToy_27 rfl (by decide) (by decide) (by decide) (fun q => False.elim (by revert q; decide)) (fun _ => ?_)
  refine g_iload_n (pc' := 31) dX12_isAnyOfToy_30 rfl rfl ?_
  refine g_bipushN (n := 109) (pc' := 33) dX12_isAnyOfToy_31 rfl (by decide) ?_
  refine g_icmp_eqN (tgt := 48) (pc' := 36) dX12_isAnyOfToy_33 rfl (by decide) (by decide) (by decide) (fun q => False.elim (by revert q; decide)) (fun _ => ?_)
  refine g_iload_n (pc' := 37) dX12_isAnyOfToy_36 rfl rfl ?_
  refine g_bipushN (n := 116) (pc' := 39) dX12_isAnyOfToy_37 rfl (by decide) ?_
  refine g_icmp_eqN (tgt := 48) (pc' := 42) dX12_isAnyOfToy_39 rfl (by decide) (by decide) (by decide) (fun _ => ?_) (fun q => False.elim (by revert q; decide))
  refine g_iconstN (n := 1) (pc' := 49) dX12_isAnyOfToy_48 rfl ?_
  refine g_goto (tgt := 53) dX12_isAnyOfToy_49 (by decide) ?_
  refine g_zret dX12_isAnyOfToy_53 rfl (by rfl) (by decide) (by decide) ?_
  exact ⟨rfl, rfl⟩
set_option maxRecDepth 4000 in
theorem cm_any_110 {E : En} (hok : EOK E) {h : Hp}  : Fn E m_X12_isAnyOfToy 0 [vI (nI 110)] h (vI (nI 1)) := by
  refine Call.enter hok (by decide) (Nat.le_of_ble_eq_true rfl) ?_
  show G E m_X12_isAnyOfToy 0 0 0 _ h 0 [some (vI (nI 110))] [] h 0 0
  refine g_iload_n (pc' := 1) dX12_isAnyOfToy_0 rfl rfl ?_
  refine g_bipushN (n := 107) (pc' := 3) dX12_isAnyOfToy_1 rfl (by decide) ?_
  refine g_icmp_eqN (tgt := 48) (pc' := 6) dX12_isAnyOfToy_3 rfl (by decide) (by decide) (by decide) (fun q => False.elim (by revert q; decide)) (fun _ => ?_)
  refine g_iload_n (pc' := 7) dX12_isAnyOfToy_6 rfl rfl ?_
  refine g_bipushN (n := 97) (pc' := 9) dX12_isAnyOfToy_7 rfl (by decide) ?_
  refine g_icmp_eqN (tgt := 48) (pc' := 12) dX12_isAnyOfToy_9 rfl (by decide) (by decide) (by decide) (fun q => False.elim (by revert q; decide)) (fun _ => ?_)
  refine g_iload_n (pc' := 13) dX12_isAnyOfToy_12 rfl rfl ?_
  refine g_bipushN (n := 112) (pc' := 15) dX12_isAnyOfToy_13 rfl (by decide) ?_
  refine g_icmp_eqN (tgt := 48) (pc' := 18) dX12_isAnyOfToy_15 rfl (by decide) (by decide) (by decide) (fun q => False.elim (by revert q; decide)) (fun _ => ?_)
  refine g_iload_n (pc' := 19) dX12_isAnyOfToy_18 rfl rfl ?_
  refine g_bipushN (n := 122) (pc' := 21) dX12_isAnyOfToy_19 rfl (by decide) ?_
  refine g_icmp_eqN (tgt := 48) (pc' := 24) dX12_isAnyOfToy_21 rfl (by decide) (by decide) (by decide) (fun q => False.elim (by revert q; decide)) (fun _ => ?_)
  refine g_iload_n (pc' := 25) dX12_isAnyOfToy_24 rfl rfl ?_
  refine g_bipushN (n := 119) (pc' := 27) dX12_isAnyOfToy_25 rfl (by decide) ?_
  refine g_icmp_eqN (tgt := 48) (pc' := 30) dX12_isAnyOfToy_27 rfl (by decide) (by decide) (by decide) (fun q => False.elim (by revert q; decide)) (fun _ => ?_)
  refine g_iload_n (pc' := 31) dX12_isAnyOfToy_30 rfl rfl ?_
  refine g_bipushN (n := 109) (pc' := 33) dX12_isAnyOfToy_31 rfl (by decide) ?_
  refine g_icmp_eqN (tgt := 48) (pc' := 36) dX12_isAnyOfToy_33 rfl (by decide) (by decide) (by decide) (fun q => False.elim (by revert q; decide)) (fun _ => ?_)
  refine g_iload_n (pc' := 37) dX12_isAnyOfToy_36 rfl rfl ?_
  refine g_bipushN (n := 116) (pc' := 39) dX12_isAnyOfToy_37 rfl (by decide) ?_
  refine g_icmp_eqN (tgt := 48) (pc' := 42) dX12_isAnyOfToy_39 rfl (by decide) (by decide) (by decide) (fun q => False.elim (by revert q; decide)) (fun _ => ?_)
  refine g_iload_n (pc' := 43) dX12_isAnyOfToy_42 rfl rfl ?_
  refine g_bipushN (n := 110) (pc' := 45) dX12_isAnyOfToy_43 rfl (by decide) ?_
  refine g_icmp_neN (tgt := 52) (pc' := 48) dX12_isAnyOfToy_45 rfl (by decide) (by decide) (by decide) (fun q => False.elim (by revert q; decide)) (fun _ => ?_)
  refine g_iconstN (n := 1) (pc' := 49) dX12_isAnyOfToy_48 rfl ?_
  refine g_goto (tgt := 53) dX12_isAnyOfToy_49 (by decide) ?_
  refine g_zret dX12_isAnyOfToy_53 rfl (by rfl) (by decide) (by decide) ?_
  exact ⟨rfl, rfl⟩
set_option maxRecDepth 4000 in
theorem cm_any_121 {E : En} (hok : EOK E) {h : Hp}  : Fn E m_X12_isAnyOfToy 0 [vI (nI 121)] h (vI (nI 0)) := by
  refine Call.enter hok (by decide) (Nat.le_of_ble_eq_true rfl) ?_
  show G E m_X12_isAnyOfToy 0 0 0 _ h 0 [some (vI (nI 121))] [] h 0 0
  refine g_iload_n (pc' := 1) dX12_isAnyOfToy_0 rfl rfl ?_
  refine g_bipushN (n := 107) (pc' := 3) dX12_isAnyOfToy_1 rfl (by decide) ?_
  refine g_icmp_eqN (tgt := 48) (pc' := 6) dX12_isAnyOfToy_3 rfl (by decide) (by decide) (by decide) (fun q => False.elim (by revert q; decide)) (fun _ => ?_)
  refine g_iload_n (pc' := 7) dX12_isAnyOfToy_6 rfl rfl ?_
  refine g_bipushN (n := 97) (pc' := 9) dX12_isAnyOfToy_7 rfl (by decide) ?_
  refine g_icmp_eqN (tgt := 48) (pc' := 12) dX12_isAnyOfToy_9 rfl (by decide) (by decide) (by decide) (fun q => False.elim (by revert q; decide)) (fun _ => ?_)
  refine g_iload_n (pc' := 13) dX12_isAnyOfToy_12 rfl rfl ?_
  refine g_bipushN (n := 112) (pc' := 15) dX12_isAnyOfToy_13 rfl (by decide) ?_
  refine g_icmp_eqN (tgt := 48) (pc' := 18) dX12_isAnyOfToy_15 rfl (by decide) (by decide) (by decide) (fun q => False.elim (by revert q; decide)) (fun _ => ?_)
  refine g_iload_n (pc' := 19) dX12_isAnyOfToy_18 rfl rfl ?_
  refine g_bipushN (n := 122) (pc' := 21) dX12_isAnyOfToy_19 rfl (by decide) ?_
  refine g_icmp_eqN (tgt := 48) (pc' := 24) dX12_isAnyOfToy_21 rfl (by decide) (by decide) (by decide) (fun q => False.elim (by revert q; decide)) (fun _ => ?_)
  refine g_iload_n (pc' := 25) dX12_isAnyOfToy_24 rfl rfl ?_
  refine g_bipushN (n := 119) (pc' := 27) dX12_isAnyOfToy_25 rfl (by decide) ?_
  refine g_icmp_eqN (tgt := 48) (pc' := 30) dX12_isAnyOfToy_27 rfl (by decide) (by decide) (by decide) (fun q => False.elim (by revert q; decide)) (fun _ => ?_)
  refine g_iload_n (pc' := 31) dX12_isAnyOfToy_30 rfl rfl ?_
  refine g_bipushN (n := 109) (pc' := 33) dX12_isAnyOfToy_31 rfl (by decide) ?_
  refine g_icmp_eqN (tgt := 48) (pc' := 36) dX12_isAnyOfToy_33 rfl (by decide) (by decide) (by decide) (fun q => False.elim (by revert q; decide)) (fun _ => ?_)
  refine g_iload_n (pc' := 37) dX12_isAnyOfToy_36 rfl rfl ?_
  refine g_bipushN (n := 116) (pc' := 39) dX12_isAnyOfToy_37 rfl (by decide) ?_
  refine g_icmp_eqN (tgt := 48) (pc' := 42) dX12_isAnyOfToy_39 rfl (by decide) (by decide) (by decide) (fun q => False.elim (by revert q; decide)) (fun _ => ?_)
  refine g_iload_n (pc' := 43) dX12_isAnyOfToy_42 rfl rfl ?_
  refine g_bipushN (n := 110) (pc' := 45) dX12_isAnyOfToy_43 rfl (by decide) ?_
  refine g_icmp_neN (tgt := 52) (pc' := 48) dX12_isAnyOfToy_45 rfl (by decide) (by decide) (by decide) (fun _ => ?_) (fun q => False.elim (by revert q; decide))
  refine g_iconstN (n := 0) (pc' := 53) dX12_isAnyOfToy_52 rfl ?_
  refine g_zret dX12_isAnyOfToy_53 rfl (by rfl) (by decide) (by decide) ?_
  exact ⟨rfl, rfl⟩
set_option maxRecDepth 4000 in
theorem cm_any_101 {E : En} (hok : EOK E) {h : Hp}  : Fn E m_X12_isAnyOfToy 0 [vI (nI 101)] h (vI (nI 0)) := by
  refine Call.enter hok (by decide) (Nat.le_of_ble_eq_true rfl) ?_
  show G E m_X12_isAnyOfToy 0 0 0 _ h 0 [some (vI (nI 101))] [] h 0 0
  refine g_iload_n (pc' := 1) dX12_isAnyOfToy_0 rfl rfl ?_
  refine g_bipushN (n := 107) (pc' := 3) dX12_isAnyOfToy_1 rfl (by decide) ?_
  refine g_icmp_eqN (tgt := 48) (pc' := 6) dX12_isAnyOfToy_3 rfl (by decide) (by decide) (by decide) (fun q => False.elim (by revert q; decide)) (fun _ => ?_)
  refine g_iload_n (pc' := 7) dX12_isAnyOfToy_6 rfl rfl ?_
  refine g_bipushN (n := 97) (pc' := 9) dX12_isAnyOfToy_7 rfl (by decide) ?_
  refine g_icmp_eqN (tgt := 48) (pc' := 12) dX12_isAnyOfToy_9 rfl (by decide) (by decide) (by decide) (fun q => False.elim (by revert q; decide)) (fun _ => ?_)
  refine g_iload_n (pc' := 13) dX12_isAnyOfToy_12 rfl rfl ?_
  refine g_bipushN (n := 112) (pc' := 15) dX12_isAnyOfToy_13 rfl (by decide) ?_
  refine g_icmp_eqN (tgt := 48) (pc' := 18) dX12_isAnyOfToy_15 rfl (by decide) (by decide) (by decide) (fun q => False.elim (by revert q; decide)) (fun _ => ?_)
  refine g_iload_n (pc' := 19) dX12_isAnyOfToy_18 rfl rfl ?_
  refine g_bipushN (n := 122) (pc' := 21) dX12_isAnyOfToy_19 rfl (by decide) ?_
  refine g_icmp_eqN (tgt := 48) (pc' := 24) dX12_isAnyOfToy_21 rfl (by decide) (by decide) (by decide) (fun q => False.elim (by revert q; decide)) (fun _ => ?_)
  refine g_iload_n (pc' := 25) dX12_isAnyOfToy_24 rfl rfl ?_
  refine g_bipushN (n := 119) (pc' := 27) dX12_isAnyOfToy_25 rfl (by decide) ?_
  refine g_icmp_eqN (tgt := 48) (pc' := 30) dX12_isAnyOfToy_27 rfl (by decide) (by decide) (by decide) (fun q => False.elim (by revert q; decide)) (fun _ => ?_)
  refine g_iload_n (pc' := 31) dX12_isAnyOfToy_30 rfl rfl ?_
  refine g_bipushN (n := 109) (pc' := 33) dX12_isAnyOfToy_31 rfl (by decide) ?_
  refine g_icmp_eqN (tgt := 48) (pc' := 36) dX12_isAnyOfToy_33 rfl (by decide) (by decide) (by decide) (fun q => False.elim (by revert q; decide)) (fun _ => ?_)
  refine g_iload_n (pc' := 37) dX12_isAnyOfToy_36 rfl rfl ?_
  refine g_bipushN (n := 116) (pc' := 39) dX12_isAnyOfToy_37 rfl (by decide) ?_
  refine g_icmp_eqN (tgt := 48) (pc' := 42) dX12_isAnyOfToy_39 rfl (by decide) (by decide) (by decide) (fun q => False.elim (by revert q; decide)) (fun _ => ?_)
  refine g_iload_n (pc' := 43) dX12_isAnyOfToy_42 rfl rfl ?_
  refine g_bipushN (n := 110) (pc' := 45) dX12_isAnyOfToy_43 rfl (by decide) ?_
  refine g_icmp_neN (tgt := 52) (pc' := 48) dX12_isAnyOfToy_45 rfl (by decide) (by decide) (by decide) (fun _ => ?_) (fun q => False.elim (by revert q; decide))
  refine g_iconstN (n := 0) (pc' := 53) dX12_isAnyOfToy_52 rfl ?_
  refine g_zret dX12_isAnyOfToy_53 rfl (by rfl) (by decide) (by decide) ?_
  exact ⟨rfl, rfl⟩
set_option maxRecDepth 4000 in
theorem cm_any_118 {E : En} (hok : EOK E) {h : Hp}  : Fn E m_X12_isAnyOfToy 0 [vI (nI 118)] h (vI (nI 0)) := by
  refine Call.enter hok (by decide) (Nat.le_of_ble_eq_true rfl) ?_
  show G E m_X12_isAnyOfToy 0 0 0 _ h 0 [some (vI (nI 118))] [] h 0 0
  refine g_iload_n (pc' := 1) dX12_isAnyOfToy_0 rfl rfl ?_
  refine g_bipushN (n := 107) (pc' := 3) dX12_isAnyOfToy_1 rfl (by decide) ?_
  refine g_icmp_eqN (tgt := 48) (pc' := 6) dX12_isAnyOfToy_3 rfl (by decide) (by decide) (by decide) (fun q => False.elim (by revert q; decide)) (fun _ => ?_)
  refine g_iload_n (pc' := 7) dX12_isAnyOfToy_6 rfl rfl ?_
  refine g_bipushN (n := 97) (pc' := 9) dX12_isAnyOfToy_7 rfl (by decide) ?_
  refine g_icmp_eqN (tgt := 48) (pc' := 12) dX12_isAnyOfToy_9 rfl (by decide) (by decide) (by decide) (fun q => False.elim (by revert q; decide)) (fun _ => ?_)
  refine g_iload_n (pc' := 13) dX12_isAnyOfToy_12 rfl rfl ?_
  refine g_bipushN (n := 112) (pc' := 15) dX12_isAnyOfToy_13 rfl (by decide) ?_
  refine g_icmp_eqN (tgt := 48) (pc' := 18) dX12_isAnyOfToy_15 rfl (by decide) (by decide) (by decide) (fun q => False.elim (by revert q; decide)) (fun _ => ?_)
  refine g_iload_n (pc' := 19) dX12_isAnyOfToy_18 rfl rfl ?_
  refine g_bipushN (n := 122) (pc' := 21) dX12_isAnyOfToy_19 rfl (by decide) ?_
  refine g_icmp_eqN (tgt := 48) (pc' := 24) dX12_isAnyOfToy_21 rfl (by decide) (by decide) (by decide) (fun q => False.elim (by revert q; decide)) (fun _ => ?_)
  refine g_iload_n (pc' := 25) dX12_isAnyOfToy_24 rfl rfl ?_
  refine g_bipushN (n := 119) (pc' := 27) dX12_isAnyOfToy_25 rfl (by decide) ?_
  refine g_icmp_eqN (tgt := 48) (pc' := 30) dX12_isAnyOfToy_27 rfl (by decide) (by decide) (by decide) (fun q => False.elim (by revert q; decide)) (fun _ => ?_)
  refine g_iload_n (pc' := 31) dX12_isAnyOfToy_30 rfl rfl ?_
  refine g_bipushN (n := 109) (pc' := 33) dX12_isAnyOfToy_31 rfl (by decide) ?_
  refine g_icmp_eqN (tgt := 48) (pc' := 36) dX12_isAnyOfToy_33 rfl (by decide) (by decide) (by decide) (fun q => False.elim (by revert q; decide)) (fun _ => ?_)
  refine g_iload_n (pc' := 37) dX12_isAnyOfToy_36 rfl rfl ?_
  refine g_bipushN (n := 116) (pc' := 39) dX12_isAnyOfToy_37 rfl (by decide) ?_
  refine g_icmp_eqN (tgt := 48) (pc' := 42) dX12_isAnyOfToy_39 rfl (by decide) (by decide) (by decide) (fun q => False.elim (by revert q; decide)) (fun _ => ?_)
  refine g_iload_n (pc' := 43) dX12_isAnyOfToy_42 rfl rfl ?_
  refine g_bipushN (n := 110) (pc' := 45) dX12_isAnyOfToy_43 rfl (by decide) ?_
  refine g_icmp_neN (tgt := 52) (pc' := 48) dX12_isAnyOfToy_45 rfl (by decide) (by decide) (by decide) (fun _ => ?_) (fun q => False.elim (by revert q; decide))
  refine g_iconstN (n := 0) (pc' := 53) dX12_isAnyOfToy_52 rfl ?_
  refine g_zret dX12_isAnyOfToy_53 rfl (by rfl) (by decide) (by decide) ?_
  exact ⟨rfl, rfl⟩
set_option maxRecDepth 4000 in
theorem cm_any_104 {E : En} (hok : EOK E) {h : Hp}  : Fn E m_X12_isAnyOfToy 0 [vI (nI 104)] h (vI (nI 0)) := by
  refine Call.enter hok (by decide) (Nat.le_of_ble_eq_true rfl) ?_
  show G E m_X12_isAnyOfToy 0 0 0 _ h 0 [some (vI (nI 104))] [] h 0 0
  refine g_iload_n (pc' := 1) dX12_isAnyOfToy_0 rfl rfl ?_
  refine g_bipushN (n := 107) (pc' := 3) dX12_isAnyOfToy_1 rfl (by decide) ?_
  refine g_icmp_eqN (tgt := 48) (pc' := 6) dX12_isAnyOfToy_3 rfl (by decide) (by decide) (by decide) (fun q => False.elim (by revert q; decide)) (fun _ => ?_)
  refine g_iload_n (pc' := 7) dX12_isAnyOfToy_6 rfl rfl ?_
  refine g_bipushN (n := 97) (pc' := 9) dX12_isAnyOfToy_7 rfl (by decide) ?_
  refine g_icmp_eqN (tgt := 48) (pc' := 12) dX12_isAnyOfToy_9 rfl (by decide) (by decide) (by decide) (fun q => False.elim (by revert q; decide)) (fun _ => ?_)
  refine g_iload_n (pc' := 13) dX12_isAnyOfToy_12 rfl rfl ?_
  refine g_bipushN (n := 112) (pc' := 15) dX12_isAnyOfToy_13 rfl (by decide) ?_
  refine g_icmp_eqN (tgt := 48) (pc' := 18) dX12_isAnyOfToy_15 rfl (by decide) (by decide) (by decide) (fun q => False.elim (by revert q; decide)) (fun _ => ?_)
  refine g_iload_n (pc' := 19) dX12_isAnyOfToy_18 rfl rfl ?_
  refine g_bipushN (n := 122) (pc' := 21) dX12_isAnyOfToy_19 rfl (by decide) ?_
  refine g_icmp_eqN (tgt := 48) (pc' := 24) dX12_isAnyOfToy_21 rfl (by decide) (by decide) (by decide) (fun q => False.elim (by revert q; decide)) (fun _ => ?_)
  refine g_iload_n (pc' := 25) dX12_isAnyOfToy_24 rfl rfl ?_
  refine g_bipushN (n := 119) (pc' := 27) dX12_isAnyOfToy_25 rfl (by decide) ?_
  refine g_icmp_eqN (tgt := 48) (pc' := 30) dX12_isAnyOfToy_27 rfl (by decide) (by decide) (by decide) (fun q => False.elim (by revert q; decide)) (fun _ => ?_)
  refine g_iload_n (pc' := 31) dX12_isAnyOfToy_30 rfl rfl ?_
  refine g_bipushN (n := 109) (pc' := 33) dX12_isAnyOfToy_31 rfl (by decide) ?_
  refine g_icmp_eqN (tgt := 48) (pc' := 36) dX12_isAnyOfToy_33 rfl (by decide) (by decide) (by decide) (fun q => False.elim (by revert q; decide)) (fun _ => ?_)
  refine g_iload_n (pc' := 37) dX12_isAnyOfToy_36 rfl rfl ?_
  refine g_bipushN (n := 116) (pc' := 39) dX12_isAnyOfToy_37 rfl (by decide) ?_
  refine g_icmp_eqN (tgt := 48) (pc' := 42) dX12_isAnyOfToy_39 rfl (by decide) (by decide) (by decide) (fun q => False.elim (by revert q; decide)) (fun _ => ?_)
  refine g_iload_n (pc' := 43) dX12_isAnyOfToy_42 rfl rfl ?_
  refine g_bipushN (n := 110) (pc' := 45) dX12_isAnyOfToy_43 rfl (by decide) ?_
  refine g_icmp_neN (tgt := 52) (pc' := 48) dX12_isAnyOfToy_45 rfl (by decide) (by decide) (by decide) (fun _ => ?_) (fun q => False.elim (by revert q; decide))
  refine g_iconstN (n := 0) (pc' := 53) dX12_isAnyOfToy_52 rfl ?_
  refine g_zret dX12_isAnyOfToy_53 rfl (by rfl) (by decide) (by decide) ?_
  exact ⟨rfl, rfl⟩
set_option maxRecDepth 4000 in
theorem cm_any_100 {E : En} (hok : EOK E) {h : Hp}  : Fn E m_X12_isAnyOfToy 0 [vI (nI 100)] h (vI (nI 0)) := by
  refine Call.enter hok (by decide) (Nat.le_of_ble_eq_true rfl) ?_
  show G E m_X12_isAnyOfToy 0 0 0 _ h 0 [some (vI (nI 100))] [] h 0 0
  refine g_iload_n (pc' := 1) dX12_isAnyOfToy_0 rfl rfl ?_
  refine g_bipushN (n := 107) (pc' := 3) dX12_isAnyOfToy_1 rfl (by decide) ?_
  refine g_icmp_eqN (tgt := 48) (pc' := 6) dX12_isAnyOfToy_3 rfl (by decide) (by decide) (by decide) (fun q => False.elim (by revert q; decide)) (fun _ => ?_)
  refine g_iload_n (pc' := 7) dX12_isAnyOfToy_6 rfl rfl ?_
  refine g_bipushN (n := 97) (pc' := 9) dX12_isAnyOfToy_7 rfl (by decide) ?_
  refine g_icmp_eqN (tgt := 48) (pc' := 12) dX12_isAnyOfToy_9 rfl (by decide) (by decide) (by decide) (fun q => False.elim (by revert q; decide)) (fun _ => ?_)
  refine g_iload_n (pc' := 13) dX12_isAnyOfToy_12 rfl rfl ?_
  refine g_bipushN (n := 112) (pc' := 15) dX12_isAnyOfToy_13 rfl (by decide) ?_
  refine g_icmp_eqN (tgt := 48) (pc' := 18) dX12_isAnyOfToy_15 rfl (by decide) (by decide) (by decide) (fun q => False.elim (by revert q; decide)) (fun _ => ?_)
  refine g_iload_n (pc' := 19) dX12_isAnyOfToy_18 rfl rfl ?_
  refine g_bipushN (n := 122) (pc' := 21) dX12_isAnyOfToy_19 rfl (by decide) ?_
  refine g_icmp_eqN (tgt := 48) (pc' := 24) dX12_isAnyOfToy_21 rfl (by decide) (by decide) (by decide) (fun q => False.elim (by revert q; decide)) (fun _ => ?_)
  refine g_iload_n (pc' := 25) dX12_isAnyOfToy_24 rfl rfl ?_
  refine g_bipushN (n := 119) (pc' := 27) dX12_isAnyOfToy_25 rfl (by decide) ?_
  refine g_icmp_eqN (tgt := 48) (pc' := 30) dX12_isAnyOfToy_27 rfl (by decide) (by decide) (by decide) (fun q => False.elim (by revert q; decide)) (fun _ => ?_)
  refine g_iload_n (pc' := 31) dX12_isAnyOfToy_30 rfl rfl ?_
  refine g_bipushN (n := 109) (pc' := 33) dX12_isAnyOfToy_31 rfl (by decide) ?_
  refine g_icmp_eqN (tgt := 48) (pc' := 36) dX12_isAnyOfToy_33 rfl (by decide) (by decide) (by decide) (fun q => False.elim (by revert q; decide)) (fun _ => ?_)
  refine g_iload_n (pc' := 37) dX12_isAnyOfToy_36 rfl rfl ?_
  refine g_bipushN (n := 116) (pc' := 39) dX12_isAnyOfToy_37 rfl (by decide) ?_
  refine g_icmp_eqN (tgt := 48) (pc' := 42) dX12_isAnyOfToy_39 rfl (by decide) (by decide) (by decide) (fun q => False.elim (by revert q; decide)) (fun _ => ?_)
  refine g_iload_n (pc' := 43) dX12_isAnyOfToy_42 rfl rfl ?_
  refine g_bipushN (n := 110) (pc' := 45) dX12_isAnyOfToy_43 rfl (by decide) ?_
  refine g_icmp_neN (tgt := 52) (pc' := 48) dX12_isAnyOfToy_45 rfl (by decide) (by decide) (by decide) (fun _ => ?_) (fun q => False.elim (by revert q; decide))
  refine g_iconstN (n := 0) (pc' := 53) dX12_isAnyOfToy_52 rfl ?_
  refine g_zret dX12_isAnyOfToy_53 rfl (by rfl) (by decide) (by decide) ?_
  exact ⟨rfl, rfl⟩
set_option maxRecDepth 4000 in
theorem cm_any_115 {E : En} (hok : EOK E) {h : Hp}  : Fn E m_X12_isAnyOfToy 0 [vI (nI 115)] h (vI (nI 0)) := by
  refine Call.enter hok (by decide) (Nat.le_of_ble_eq_true rfl) ?_
  show G E m_X12_isAnyOfToy 0 0 0 _ h 0 [some (vI (nI 115))] [] h 0 0
  refine g_iload_n (pc' := 1) dX12_isAnyOfToy_0 rfl rfl ?_
  refine g_bipushN (n := 107) (pc' := 3) dX12_isAnyOfToy_1 rfl (by decide) ?_
  refine g_icmp_eqN (tgt := 48) (pc' := 6) dX12_isAnyOfToy_3 rfl (by decide) (by decide) (by decide) (fun q => False.elim (by revert q; decide)) (fun _ => ?_)
  refine g_iload_n (pc' := 7) dX12_isAnyOfToy_6 rfl rfl ?_
  refine g_bipushN (n := 97) (pc' := 9) dX12_isAnyOfToy_7 rfl (by decide) ?_
  refine g_icmp_eqN (tgt := 48) (pc' := 12) dX12_isAnyOfToy_9 rfl (by decide) (by decide) (by decide) (fun q => False.elim (by revert q; decide)) (fun _ => ?_)
  refine g_iload_n (pc' := 13) dX12_isAnyOfToy_12 rfl rfl ?_
  refine g_bipushN (n := 112) (pc' := 15) dX12_isAnyOfToy_13 rfl (by decide) ?_
  refine g_icmp_eqN (tgt := 48) (pc' := 18) dX12_isAnyOfToy_15 rfl (by decide) (by decide) (by decide) (fun q => False.elim (by revert q; decide)) (fun _ => ?_)
  refine g_iload_n (pc' := 19) dX12_isAnyOfToy_18 rfl rfl ?_
  refine g_bipushN (n := 122) (pc' := 21) dX12_isAnyOfToy_19 rfl (by decide) ?_
  refine g_icmp_eqN (tgt := 48) (pc' := 24) dX12_isAnyOfToy_21 rfl (by decide) (by decide) (by decide) (fun q => False.elim (by revert q; decide)) (fun _ => ?_)
  refine g_iload_n (pc' := 25) dX12_isAnyOfToy_24 rfl rfl ?_
  refine g_bipushN (n := 119) (pc' := 27) dX12_isAnyOfToy_25 rfl (by decide) ?_
  refine g_icmp_eqN (tgt := 48) (pc' := 30) dX12_isAnyOfToy_27 rfl (by decide) (by decide) (by decide) (fun q => False.elim (by revert q; decide)) (fun _ => ?_)
  refine g_iload_n (pc' := 31) dX12_isAnyOfToy_30 rfl rfl ?_
  refine g_bipushN (n := 109) (pc' := 33) dX12_isAnyOfToy_31 rfl (by decide) ?_
  refine g_icmp_eqN (tgt := 48) (pc' := 36) dX12_isAnyOfToy_33 rfl (by decide) (by decide) (by decide) (fun q => False.elim (by revert q; decide)) (fun _ => ?_)
  refine g_iload_n (pc' := 37) dX12_isAnyOfToy_36 rfl rfl ?_
  refine g_bipushN (n := 116) (pc' := 39) dX12_isAnyOfToy_37 rfl (by decide) ?_
  refine g_icmp_eqN (tgt := 48) (pc' := 42) dX12_isAnyOfToy_39 rfl (by decide) (by decide) (by decide) (fun q => False.elim (by revert q; decide)) (fun _ => ?_)
  refine g_iload_n (pc' := 43) dX12_isAnyOfToy_42 rfl rfl ?_
  refine g_bipushN (n := 110) (pc' := 45) dX12_isAnyOfToy_43 rfl (by decide) ?_
  refine g_icmp_neN (tgt := 52) (pc' := 48) dX12_isAnyOfToy_45 rfl (by decide) (by decide) (by decide) (fun _ => ?_) (fun q => False.elim (by revert q; decide))
  refine g_iconstN (n := 0) (pc' := 53) dX12_isAnyOfToy_52 rfl ?_
  refine g_zret dX12_isAnyOfToy_53 rfl (by rfl) (by decide) (by decide) ?_
  exact ⟨rfl, rfl⟩
set_option maxRecDepth 4000 in
theorem cm_any_108 {E : En} (hok : EOK E) {h : Hp}  : Fn E m_X12_isAnyOfToy 0 [vI (nI 108)] h (vI (nI 0)) := by
  refine Call.enter hok (by decide) (Nat.le_of_ble_eq_true rfl) ?_
  show G E m_X12_isAnyOfToy 0 0 0 _ h 0 [some (vI (nI 108))] [] h 0 0
  refine g_iload_n (pc' := 1) dX12_isAnyOfToy_0 rfl rfl ?_
  refine g_bipushN (n := 107) (pc' := 3) dX12_isAnyOfToy_1 rfl (by decide) ?_
  refine g_icmp_eqN (tgt := 48) (pc' := 6) dX12_isAnyOfToy_3 rfl (by decide) (by decide) (by decide) (fun q => False.elim (by revert q; decide)) (fun _ => ?_)
  refine g_iload_n (pc' := 7) dX12_isAnyOfToy_6 rfl rfl ?_
  refine g_bipushN (n := 97) (pc' := 9) dX12_isAnyOfToy_7 rfl (by decide) ?_
  refine g_icmp_eqN (tgt := 48) (pc' := 12) dX12_isAnyOfToy_9 rfl (by decide) (by decide) (by decide) (fun q => False.elim (by revert q; decide)) (fun _ => ?_)
  refine g_iload_n (pc' := 13) dX12_isAnyOfToy_12 rfl rfl ?_
  refine g_bipushN (n := 112) (pc' := 15) dX12_isAnyOfToy_13 rfl (by decide) ?_
  refine g_icmp_eqN (tgt := 48) (pc' := 18) dX12_isAnyOfToy_15 rfl (by decide) (by decide) (by decide) (fun q => False.elim (by revert q; decide)) (fun _ => ?_)
  refine g_iload_n (pc' := 19) dX12_isAnyOfToy_18 rfl rfl ?_
  refine g_bipushN (n := 122) (pc' := 21) dX12_isAnyOfToy_19 rfl (by decide) ?_
  refine g_icmp_eqN (tgt := 48) (pc' := 24) dX12_isAnyOfToy_21 rfl (by decide) (by decide) (by decide) (fun q => False.elim (by revert q; decide)) (fun _ => ?_)
  refine g_iload_n (pc' := 25) dX12_isAnyOfToy_24 rfl rfl ?_
  refine g_bipushN (n := 119) (pc' := 27) dX12_isAnyOfToy_25 rfl (by decide) ?_
  refine g_icmp_eqN (tgt := 48) (pc' := 30) dX12_isAnyOfToy_27 rfl (by decide) (by decide) (by decide) (fun q => False.elim (by revert q; decide)) (fun _ => ?_)
  refine g_iload_n (pc' := 31) dX12_isAnyOfToy_30 rfl rfl ?_
  refine g_bipushN (n := 109) (pc' := 33) dX12_isAnyOfToy_31 rfl (by decide) ?_
  refine g_icmp_eqN (tgt := 48) (pc' := 36) dX12_isAnyOfToy_33 rfl (by decide) (by decide) (by decide) (fun q => False.elim (by revert q; decide)) (fun _ => ?_)
  refine g_iload_n (pc' := 37) dX12_isAnyOfToy_36 rfl rfl ?_
  refine g_bipushN (n := 116) (pc' := 39) dX12_isAnyOfToy_37 rfl (by decide) ?_
  refine g_icmp_eqN (tgt := 48) (pc' := 42) dX12_isAnyOfToy_39 rfl (by decide) (by decide) (by decide) (fun q => False.elim (by revert q; decide)) (fun _ => ?_)
  refine g_iload_n (pc' := 43) dX12_isAnyOfToy_42 rfl rfl ?_
  refine g_bipushN (n := 110) (pc' := 45) dX12_isAnyOfToy_43 rfl (by decide) ?_
  refine g_icmp_neN (tgt := 52) (pc' := 48) dX12_isAnyOfToy_45 rfl (by decide) (by decide) (by decide) (fun _ => ?_) (fun q => False.elim (by revert q; decide))
  refine g_iconstN (n := 0) (pc' := 53) dX12_isAnyOfToy_52 rfl ?_
  refine g_zret dX12_isAnyOfToy_53 rfl (by rfl) (by decide) (by decide) ?_
  exact ⟨rfl, rfl⟩
set_option maxRecDepth 4000 in
theorem cm_any_113 {E : En} (hok : EOK E) {h : Hp}  : Fn E m_X12_isAnyOfToy 0 [vI (nI 113)] h (vI (nI 0)) := by
  refine Call.enter hok (by decide) (Nat.le_of_ble_eq_true rfl) ?_
  show G E m_X12_isAnyOfToy 0 0 0 _ h 0 [some (vI (nI 113))] [] h 0 0
  refine g_iload_n (pc' := 1) dX12_isAnyOfToy_0 rfl rfl ?_
  refine g_bipushN (n := 107) (pc' := 3) dX12_isAnyOfToy_1 rfl (by decide) ?_
  refine g_icmp_eqN (tgt := 48) (pc' := 6) dX12_isAnyOfToy_3 rfl (by decide) (by decide) (by decide) (fun q => False.elim (by revert q; decide)) (fun _ => ?_)
  refine g_iload_n (pc' := 7) dX12_isAnyOfToy_6 rfl rfl ?_
  refine g_bipushN (n := 97) (pc' := 9) dX12_isAnyOfToy_7 rfl (by decide) ?_
  refine g_icmp_eqN (tgt := 48) (pc' := 12) dX12_isAnyOfToy_9 rfl (by decide) (by decide) (by decide) (fun q => False.elim (by revert q; decide)) (fun _ => ?_)
  refine g_iload_n (pc' := 13) dX12_isAnyOfToy_12 rfl rfl ?_
  refine g_bipushN (n := 112) (pc' := 15) dX12_isAnyOfToy_13 rfl (by decide) ?_
  refine g_icmp_eqN (tgt := 48) (pc' := 18) dX12_isAnyOfToy_15 rfl (by decide) (by decide) (by decide) (fun q => False.elim (by revert q; decide)) (fun _ => ?_)
  refine g_iload_n (pc' := 19) dX12_isAnyOfToy_18 rfl rfl ?_
  refine g_bipushN (n := 122) (pc' := 21) dX12_isAnyOfToy_19 rfl (by decide) ?_
  refine g_icmp_eqN (tgt := 48) (pc' := 24) dX12_isAnyOfToy_21 rfl (by decide) (by decide) (by decide) (fun q => False.elim (by revert q; decide)) (fun _ => ?_)
  refine g_iload_n (pc' := 25) dX12_isAnyOfToy_24 rfl rfl ?_
  refine g_bipushN (n := 119) (pc' := 27) dX12_isAnyOfToy_25 rfl (by decide) ?_
  refine g_icmp_eqN (tgt := 48) (pc' := 30) dX12_isAnyOfToy_27 rfl (by decide) (by decide) (by decide) (fun q => False.elim (by revert q; decide)) (fun _ => ?_)
  refine g_iload_n (pc' := 31) dX12_isAnyOfToy_30 rfl rfl ?_
  refine g_bipushN (n := 109) (pc' := 33) dX12_isAnyOfToy_31 rfl (by decide) ?_
  refine g_icmp_eqN (tgt := 48) (pc' := 36) dX12_isAnyOfToy_33 rfl (by decide) (by decide) (by decide) (fun q => False.elim (by revert q; decide)) (fun _ => ?_)
  refine g_iload_n (pc' := 37) dX12_isAnyOfToy_36 rfl rfl ?_
  refine g_bipushN (n := 116) (pc' := 39) dX12_isAnyOfToy_37 rfl (by decide) ?_
  refine g_icmp_eqN (tgt := 48) (pc' := 42) dX12_isAnyOfToy_39 rfl (by decide) (by decide) (by decide) (fun q => False.elim (by revert q; decide)) (fun _ => ?_)
  refine g_iload_n (pc' := 43) dX12_isAnyOfToy_42 rfl rfl ?_
  refine g_bipushN (n := 110) (pc' := 45) dX12_isAnyOfToy_43 rfl (by decide) ?_
  refine g_icmp_neN (tgt := 52) (pc' := 48) dX12_isAnyOfToy_45 rfl (by decide) (by decide) (by decide) (fun _ => ?_) (fun q => False.elim (by revert q; decide))
  refine g_iconstN (n := 0) (pc' := 53) dX12_isAnyOfToy_52 rfl ?_
  refine g_zret dX12_isAnyOfToy_53 rfl (by rfl) (by decide) (by decide) ?_
  exact ⟨rfl, rfl⟩
set_option maxRecDepth 4000 in
theorem cm_any_99 {E : En} (hok : EOK E) {h : Hp}  : Fn E m_X12_isAnyOfToy 0 [vI (nI 99)] h (vI (nI 0)) := by
  refine Call.enter hok (by decide) (Nat.le_of_ble_eq_true rfl) ?_
  show G E m_X12_isAnyOfToy 0 0 0 _ h 0 [some (vI (nI 99))] [] h 0 0
  refine g_iload_n (pc' := 1) dX12_isAnyOfToy_0 rfl rfl ?_
  refine g_bipushN (n := 107) (pc' := 3) dX12_isAnyOfToy_1 rfl (by decide) ?_
  refine g_icmp_eqN (tgt := 48) (pc' := 6) dX12_isAnyOfToy_3 rfl (by decide) (by decide) (by decide) (fun q => False.elim (by revert q; decide)) (fun _ => ?_)
  refine g_iload_n (pc' := 7) dX12_isAnyOfToy_6 rfl rfl ?_
  refine g_bipushN (n := 97) (pc' := 9) dX12_isAnyOfToy_7 rfl (by decide) ?_
  refine g_icmp_eqN (tgt := 48) (pc' := 12) dX12_isAnyOfToy_9 rfl (by decide) (by decide) (by decide) (fun q => False.elim (by revert q; decide)) (fun _ => ?_)
  refine g_iload_n (pc' := 13) dX12_isAnyOfToy_12 rfl rfl ?_
  refine g_bipushN (n := 112) (pc' := 15) dX12_isAnyOfToy_13 rfl (by decide) ?_
  refine g_icmp_eqN (tgt := 48) (pc' := 18) dX12_isAnyOfToy_15 rfl (by decide) (by decide) (by decide) (fun q => False.elim (by revert q; decide)) (fun _ => ?_)
  refine g_iload_n (pc' := 19) dX12_isAnyOfToy_18 rfl rfl ?_
  refine g_bipushN (n := 122) (pc' := 21) dX12_isAnyOfToy_19 rfl (by decide) ?_
  refine g_icmp_eqN (tgt := 48) (pc' := 24) dX12_isAnyOfToy_21 rfl (by decide) (by decide) (by decide) (fun q => False.elim (by revert q; decide)) (fun _ => ?_)
  refine g_iload_n (pc' := 25) dX12_isAnyOfToy_24 rfl rfl ?_
  refine g_bipushN (n := 119) (pc' := 27) dX12_isAnyOfToy_25 rfl (by decide) ?_
  refine g_icmp_eqN (tgt := 48) (pc' := 30) dX12_isAnyOfToy_27 rfl (by decide) (by decide) (by decide) (fun q => False.elim (by revert q; decide)) (fun _ => ?_)
  refine g_iload_n (pc' := 31) dX12_isAnyOfToy_30 rfl rfl ?_
  refine g_bipushN (n := 109) (pc' := 33) dX12_isAnyOfToy_31 rfl (by decide) ?_
  refine g_icmp_eqN (tgt := 48) (pc' := 36) dX12_isAnyOfToy_33 rfl (by decide) (by decide) (by decide) (fun q => False.elim (by revert q; decide)) (fun _ => ?_)
  refine g_iload_n (pc' := 37) dX12_isAnyOfToy_36 rfl rfl ?_
  refine g_bipushN (n := 116) (pc' := 39) dX12_isAnyOfToy_37 rfl (by decide) ?_
  refine g_icmp_eqN (tgt := 48) (pc' := 42) dX12_isAnyOfToy_39 rfl (by decide) (by decide) (by decide) (fun q => False.elim (by revert q; decide)) (fun _ => ?_)
  refine g_iload_n (pc' := 43) dX12_isAnyOfToy_42 rfl rfl ?_
  refine g_bipushN (n := 110) (pc' := 45) dX12_isAnyOfToy_43 rfl (by decide) ?_
  refine g_icmp_neN (tgt := 52) (pc' := 48) dX12_isAnyOfToy_45 rfl (by decide) (by decide) (by decide) (fun _ => ?_) (fun q => False.elim (by revert q; decide))
  refine g_iconstN (n := 0) (pc' := 53) dX12_isAnyOfToy_52 rfl ?_
  refine g_zret dX12_isAnyOfToy_53 rfl (by rfl) (by decide) (by decide) ?_
  exact ⟨rfl, rfl⟩
theorem nI_ne_neg {n : Nat} (hn : n < 2 ^ 31) : nI n ≠ -1 := fun z => by
  have e := congrArg Int32.toInt z
  rw [nI_toInt (by omega)] at e
  have : (-1 : Int32).toInt = -1 := rfl
  omega
set_option maxRecDepth 4000 in
theorem cm_vtT_107 {E : En} (hok : EOK E) {h : Hp} (hs : Shp h.2) (hw : Wf (mo h)) {k f : Nat} {late : Int32} (hk : k < nK (mo h)) (hf : f < nF (mo h)) {t : Nat} (ht : t < nT (mo h)) (ha : As h k (nI t) f late) : Fn E m_X12_valueOfToy 1 [vR MO, vI (nI 107)] h (vI (nI k)) := by
  have hNw : h.1 MO 2 = nI (nW (mo h)) := hw.w.1
  have hNwb := hw.w.2
  have hC : h.1 MO 30 = nI (nC (mo h)) := hw.c.1
  have hCb := hw.c.2
  have hK : h.1 MO 3 = nI (nK (mo h)) := hw.k.1
  have hKb := hw.k.2
  have hT : h.1 MO 4 = nI (nT (mo h)) := hw.t.1
  have hTb := hw.t.2
  have hF : h.1 MO 5 = nI (nF (mo h)) := hw.f.1
  have hFb := hw.f.2
  have hRc : h.1 MO 59 = nI (nR (mo h)) := hw.r.1
  have hRb := hw.r.2
  have hG : h.1 MO 60 = nI (nGf (mo h)) := hw.g.1
  have hGb := hw.g.2
  have hA : h.1 MO 70 = nI (nA (mo h)) := hw.a.1
  have hAb := hw.a.2
  have hTl : h.1 MO 1 = nI (nTl (mo h)) := hw.tl.1
  have hTlb := hw.tl.2
  refine Call.enter hok (by decide) (Nat.le_of_ble_eq_true rfl) ?_
  show G E m_X12_valueOfToy 1 0 0 _ h 0 [some (vR MO), some (vI (nI 107)), none] [] h 0 0
  refine g_aload_n (pc' := 1) dX12_valueOfToy_0 rfl rfl ?_
  refine g_getIv (v := nI (t)) (pc' := 4) (k := 54) dX12_valueOfToy_1 rfl rfl ck_13 (by decide) fl_X12_381 rfl (ha.2.1) ?_
  refine g_istore_n (pc' := 5) dX12_valueOfToy_4 rfl (by decide) rfl ?_
  try simp only [List.set]
  refine g_iload_n (pc' := 6) dX12_valueOfToy_5 rfl rfl ?_
  refine g_lookup (off := 66) (tgt := 72) dX12_valueOfToy_6 (by decide) (by decide) (by decide) ?_
  refine g_aload_n (pc' := 73) dX12_valueOfToy_72 rfl rfl ?_
  refine g_getIv (v := nI (k)) (pc' := 76) (k := 53) dX12_valueOfToy_73 rfl rfl ck_13 (by decide) fl_X12_378 rfl (ha.1) ?_
  refine g_iret dX12_valueOfToy_76 rfl (by decide) (by decide) ?_
  exact ⟨rfl, rfl⟩
set_option maxRecDepth 4000 in
theorem cm_vtT_97 {E : En} (hok : EOK E) {h : Hp} (hs : Shp h.2) (hw : Wf (mo h)) {k f : Nat} {late : Int32} (hk : k < nK (mo h)) (hf : f < nF (mo h)) {t : Nat} (ht : t < nT (mo h)) (ha : As h k (nI t) f late) : Fn E m_X12_valueOfToy 1 [vR MO, vI (nI 97)] h (vI (mo h 108 k)) := by
  have hNw : h.1 MO 2 = nI (nW (mo h)) := hw.w.1
  have hNwb := hw.w.2
  have hC : h.1 MO 30 = nI (nC (mo h)) := hw.c.1
  have hCb := hw.c.2
  have hK : h.1 MO 3 = nI (nK (mo h)) := hw.k.1
  have hKb := hw.k.2
  have hT : h.1 MO 4 = nI (nT (mo h)) := hw.t.1
  have hTb := hw.t.2
  have hF : h.1 MO 5 = nI (nF (mo h)) := hw.f.1
  have hFb := hw.f.2
  have hRc : h.1 MO 59 = nI (nR (mo h)) := hw.r.1
  have hRb := hw.r.2
  have hG : h.1 MO 60 = nI (nGf (mo h)) := hw.g.1
  have hGb := hw.g.2
  have hA : h.1 MO 70 = nI (nA (mo h)) := hw.a.1
  have hAb := hw.a.2
  have hTl : h.1 MO 1 = nI (nTl (mo h)) := hw.tl.1
  have hTlb := hw.tl.2
  refine Call.enter hok (by decide) (Nat.le_of_ble_eq_true rfl) ?_
  show G E m_X12_valueOfToy 1 0 0 _ h 0 [some (vR MO), some (vI (nI 97)), none] [] h 0 0
  refine g_aload_n (pc' := 1) dX12_valueOfToy_0 rfl rfl ?_
  refine g_getIv (v := nI (t)) (pc' := 4) (k := 54) dX12_valueOfToy_1 rfl rfl ck_13 (by decide) fl_X12_381 rfl (ha.2.1) ?_
  refine g_istore_n (pc' := 5) dX12_valueOfToy_4 rfl (by decide) rfl ?_
  try simp only [List.set]
  refine g_iload_n (pc' := 6) dX12_valueOfToy_5 rfl rfl ?_
  refine g_lookup (off := 71) (tgt := 77) dX12_valueOfToy_6 (by decide) (by decide) (by decide) ?_
  refine g_aload_n (pc' := 78) dX12_valueOfToy_77 rfl rfl ?_
  refine g_getS (pc' := 81) (k := 8) (b := (108, 0)) dX12_valueOfToy_78 rfl rfl ck_13 (by decide) fl_X12_13 rfl hs rfl ?_
  refine g_aload_n (pc' := 82) dX12_valueOfToy_81 rfl rfl ?_
  refine g_getIv (v := nI (k)) (pc' := 85) (k := 53) dX12_valueOfToy_82 rfl rfl ck_13 (by decide) fl_X12_378 rfl (ha.1) ?_
  refine g_ialdN (pc' := 86) (v := _) dX12_valueOfToy_85 rfl rfl (by decide) (by omega) (rfl) ?_
  refine g_iret dX12_valueOfToy_86 rfl (by decide) (by decide) ?_
  exact ⟨rfl, rfl⟩
set_option maxRecDepth 4000 in
theorem cm_vtT_112 {E : En} (hok : EOK E) {h : Hp} (hs : Shp h.2) (hw : Wf (mo h)) {k f : Nat} {late : Int32} (hk : k < nK (mo h)) (hf : f < nF (mo h)) {t : Nat} (ht : t < nT (mo h)) (ha : As h k (nI t) f late) : Fn E m_X12_valueOfToy 1 [vR MO, vI (nI 112)] h (vI (mo h 109 k)) := by
  have hNw : h.1 MO 2 = nI (nW (mo h)) := hw.w.1
  have hNwb := hw.w.2
  have hC : h.1 MO 30 = nI (nC (mo h)) := hw.c.1
  have hCb := hw.c.2
  have hK : h.1 MO 3 = nI (nK (mo h)) := hw.k.1
  have hKb := hw.k.2
  have hT : h.1 MO 4 = nI (nT (mo h)) := hw.t.1
  have hTb := hw.t.2
  have hF : h.1 MO 5 = nI (nF (mo h)) := hw.f.1
  have hFb := hw.f.2
  have hRc : h.1 MO 59 = nI (nR (mo h)) := hw.r.1
  have hRb := hw.r.2
  have hG : h.1 MO 60 = nI (nGf (mo h)) := hw.g.1
  have hGb := hw.g.2
  have hA : h.1 MO 70 = nI (nA (mo h)) := hw.a.1
  have hAb := hw.a.2
  have hTl : h.1 MO 1 = nI (nTl (mo h)) := hw.tl.1
  have hTlb := hw.tl.2
  refine Call.enter hok (by decide) (Nat.le_of_ble_eq_true rfl) ?_
  show G E m_X12_valueOfToy 1 0 0 _ h 0 [some (vR MO), some (vI (nI 112)), none] [] h 0 0
  refine g_aload_n (pc' := 1) dX12_valueOfToy_0 rfl rfl ?_
  refine g_getIv (v := nI (t)) (pc' := 4) (k := 54) dX12_valueOfToy_1 rfl rfl ck_13 (by decide) fl_X12_381 rfl (ha.2.1) ?_
  refine g_istore_n (pc' := 5) dX12_valueOfToy_4 rfl (by decide) rfl ?_
  try simp only [List.set]
  refine g_iload_n (pc' := 6) dX12_valueOfToy_5 rfl rfl ?_
  refine g_lookup (off := 81) (tgt := 87) dX12_valueOfToy_6 (by decide) (by decide) (by decide) ?_
  refine g_aload_n (pc' := 88) dX12_valueOfToy_87 rfl rfl ?_
  refine g_getS (pc' := 91) (k := 9) (b := (109, 0)) dX12_valueOfToy_88 rfl rfl ck_13 (by decide) fl_X12_17 rfl hs rfl ?_
  refine g_aload_n (pc' := 92) dX12_valueOfToy_91 rfl rfl ?_
  refine g_getIv (v := nI (k)) (pc' := 95) (k := 53) dX12_valueOfToy_92 rfl rfl ck_13 (by decide) fl_X12_378 rfl (ha.1) ?_
  refine g_ialdN (pc' := 96) (v := _) dX12_valueOfToy_95 rfl rfl (by decide) (by omega) (rfl) ?_
  refine g_iret dX12_valueOfToy_96 rfl (by decide) (by decide) ?_
  exact ⟨rfl, rfl⟩
set_option maxRecDepth 4000 in
theorem cm_vtT_122 {E : En} (hok : EOK E) {h : Hp} (hs : Shp h.2) (hw : Wf (mo h)) {k f : Nat} {late : Int32} (hk : k < nK (mo h)) (hf : f < nF (mo h)) {t : Nat} (ht : t < nT (mo h)) (ha : As h k (nI t) f late) : Fn E m_X12_valueOfToy 1 [vR MO, vI (nI 122)] h (vI (mo h 110 k)) := by
  have hNw : h.1 MO 2 = nI (nW (mo h)) := hw.w.1
  have hNwb := hw.w.2
  have hC : h.1 MO 30 = nI (nC (mo h)) := hw.c.1
  have hCb := hw.c.2
  have hK : h.1 MO 3 = nI (nK (mo h)) := hw.k.1
  have hKb := hw.k.2
  have hT : h.1 MO 4 = nI (nT (mo h)) := hw.t.1
  have hTb := hw.t.2
  have hF : h.1 MO 5 = nI (nF (mo h)) := hw.f.1
  have hFb := hw.f.2
  have hRc : h.1 MO 59 = nI (nR (mo h)) := hw.r.1
  have hRb := hw.r.2
  have hG : h.1 MO 60 = nI (nGf (mo h)) := hw.g.1
  have hGb := hw.g.2
  have hA : h.1 MO 70 = nI (nA (mo h)) := hw.a.1
  have hAb := hw.a.2
  have hTl : h.1 MO 1 = nI (nTl (mo h)) := hw.tl.1
  have hTlb := hw.tl.2
  refine Call.enter hok (by decide) (Nat.le_of_ble_eq_true rfl) ?_
  show G E m_X12_valueOfToy 1 0 0 _ h 0 [some (vR MO), some (vI (nI 122)), none] [] h 0 0
  refine g_aload_n (pc' := 1) dX12_valueOfToy_0 rfl rfl ?_
  refine g_getIv (v := nI (t)) (pc' := 4) (k := 54) dX12_valueOfToy_1 rfl rfl ck_13 (by decide) fl_X12_381 rfl (ha.2.1) ?_
  refine g_istore_n (pc' := 5) dX12_valueOfToy_4 rfl (by decide) rfl ?_
  try simp only [List.set]
  refine g_iload_n (pc' := 6) dX12_valueOfToy_5 rfl rfl ?_
  refine g_lookup (off := 91) (tgt := 97) dX12_valueOfToy_6 (by decide) (by decide) (by decide) ?_
  refine g_aload_n (pc' := 98) dX12_valueOfToy_97 rfl rfl ?_
  refine g_getS (pc' := 101) (k := 10) (b := (110, 0)) dX12_valueOfToy_98 rfl rfl ck_13 (by decide) fl_X12_20 rfl hs rfl ?_
  refine g_aload_n (pc' := 102) dX12_valueOfToy_101 rfl rfl ?_
  refine g_getIv (v := nI (k)) (pc' := 105) (k := 53) dX12_valueOfToy_102 rfl rfl ck_13 (by decide) fl_X12_378 rfl (ha.1) ?_
  refine g_ialdN (pc' := 106) (v := _) dX12_valueOfToy_105 rfl rfl (by decide) (by omega) (rfl) ?_
  refine g_iret dX12_valueOfToy_106 rfl (by decide) (by decide) ?_
  exact ⟨rfl, rfl⟩
set_option maxRecDepth 4000 in
theorem cm_vtT_119 {E : En} (hok : EOK E) {h : Hp} (hs : Shp h.2) (hw : Wf (mo h)) {k f : Nat} {late : Int32} (hk : k < nK (mo h)) (hf : f < nF (mo h)) {t : Nat} (ht : t < nT (mo h)) (ha : As h k (nI t) f late) : Fn E m_X12_valueOfToy 1 [vR MO, vI (nI 119)] h (vI (mo h 117 t)) := by
  have hNw : h.1 MO 2 = nI (nW (mo h)) := hw.w.1
  have hNwb := hw.w.2
  have hC : h.1 MO 30 = nI (nC (mo h)) := hw.c.1
  have hCb := hw.c.2
  have hK : h.1 MO 3 = nI (nK (mo h)) := hw.k.1
  have hKb := hw.k.2
  have hT : h.1 MO 4 = nI (nT (mo h)) := hw.t.1
  have hTb := hw.t.2
  have hF : h.1 MO 5 = nI (nF (mo h)) := hw.f.1
  have hFb := hw.f.2
  have hRc : h.1 MO 59 = nI (nR (mo h)) := hw.r.1
  have hRb := hw.r.2
  have hG : h.1 MO 60 = nI (nGf (mo h)) := hw.g.1
  have hGb := hw.g.2
  have hA : h.1 MO 70 = nI (nA (mo h)) := hw.a.1
  have hAb := hw.a.2
  have hTl : h.1 MO 1 = nI (nTl (mo h)) := hw.tl.1
  have hTlb := hw.tl.2
  refine Call.enter hok (by decide) (Nat.le_of_ble_eq_true rfl) ?_
  show G E m_X12_valueOfToy 1 0 0 _ h 0 [some (vR MO), some (vI (nI 119)), none] [] h 0 0
  refine g_aload_n (pc' := 1) dX12_valueOfToy_0 rfl rfl ?_
  refine g_getIv (v := nI (t)) (pc' := 4) (k := 54) dX12_valueOfToy_1 rfl rfl ck_13 (by decide) fl_X12_381 rfl (ha.2.1) ?_
  refine g_istore_n (pc' := 5) dX12_valueOfToy_4 rfl (by decide) rfl ?_
  try simp only [List.set]
  refine g_iload_n (pc' := 6) dX12_valueOfToy_5 rfl rfl ?_
  refine g_lookup (off := 101) (tgt := 107) dX12_valueOfToy_6 (by decide) (by decide) (by decide) ?_
  refine g_iload_n (pc' := 108) dX12_valueOfToy_107 rfl rfl ?_
  refine g_iconst (v := -1) (pc' := 109) dX12_valueOfToy_108 rfl (by decide) ?_
  refine g_icmp_ne (tgt := 116) (pc' := 112) dX12_valueOfToy_109 rfl (by decide) (fun c109 => ?_) (fun c109 => ?_)
  ·
    refine g_aload_n (pc' := 117) dX12_valueOfToy_116 rfl rfl ?_
    refine g_getS (pc' := 120) (k := 17) (b := (117, 0)) dX12_valueOfToy_117 rfl rfl ck_13 (by decide) fl_X12_41 rfl hs rfl ?_
    refine g_iload_n (pc' := 121) dX12_valueOfToy_120 rfl rfl ?_
    refine g_ialdN (pc' := 122) (v := _) dX12_valueOfToy_121 rfl rfl (by decide) (by omega) (rfl) ?_
    refine g_iret dX12_valueOfToy_122 rfl (by decide) (by decide) ?_
    exact ⟨rfl, rfl⟩
  · exact absurd c109 (nI_ne_neg (by omega))
set_option maxRecDepth 4000 in
theorem cm_vtT_109 {E : En} (hok : EOK E) {h : Hp} (hs : Shp h.2) (hw : Wf (mo h)) {k f : Nat} {late : Int32} (hk : k < nK (mo h)) (hf : f < nF (mo h)) {t : Nat} (ht : t < nT (mo h)) (ha : As h k (nI t) f late) : Fn E m_X12_valueOfToy 1 [vR MO, vI (nI 109)] h (vI (lck (mo h) t)) := by
  have hNw : h.1 MO 2 = nI (nW (mo h)) := hw.w.1
  have hNwb := hw.w.2
  have hC : h.1 MO 30 = nI (nC (mo h)) := hw.c.1
  have hCb := hw.c.2
  have hK : h.1 MO 3 = nI (nK (mo h)) := hw.k.1
  have hKb := hw.k.2
  have hT : h.1 MO 4 = nI (nT (mo h)) := hw.t.1
  have hTb := hw.t.2
  have hF : h.1 MO 5 = nI (nF (mo h)) := hw.f.1
  have hFb := hw.f.2
  have hRc : h.1 MO 59 = nI (nR (mo h)) := hw.r.1
  have hRb := hw.r.2
  have hG : h.1 MO 60 = nI (nGf (mo h)) := hw.g.1
  have hGb := hw.g.2
  have hA : h.1 MO 70 = nI (nA (mo h)) := hw.a.1
  have hAb := hw.a.2
  have hTl : h.1 MO 1 = nI (nTl (mo h)) := hw.tl.1
  have hTlb := hw.tl.2
  refine Call.enter hok (by decide) (Nat.le_of_ble_eq_true rfl) ?_
  show G E m_X12_valueOfToy 1 0 0 _ h 0 [some (vR MO), some (vI (nI 109)), none] [] h 0 0
  refine g_aload_n (pc' := 1) dX12_valueOfToy_0 rfl rfl ?_
  refine g_getIv (v := nI (t)) (pc' := 4) (k := 54) dX12_valueOfToy_1 rfl rfl ck_13 (by decide) fl_X12_381 rfl (ha.2.1) ?_
  refine g_istore_n (pc' := 5) dX12_valueOfToy_4 rfl (by decide) rfl ?_
  try simp only [List.set]
  refine g_iload_n (pc' := 6) dX12_valueOfToy_5 rfl rfl ?_
  refine g_lookup (off := 117) (tgt := 123) dX12_valueOfToy_6 (by decide) (by decide) (by decide) ?_
  refine g_iload_n (pc' := 124) dX12_valueOfToy_123 rfl rfl ?_
  refine g_iconst (v := -1) (pc' := 125) dX12_valueOfToy_124 rfl (by decide) ?_
  refine g_icmp_ne (tgt := 132) (pc' := 128) dX12_valueOfToy_125 rfl (by decide) (fun c125 => ?_) (fun c125 => ?_)
  ·
    refine g_aload_n (pc' := 133) dX12_valueOfToy_132 rfl rfl ?_
    refine g_iload_n (pc' := 134) dX12_valueOfToy_133 rfl rfl ?_
    refine g_invV (pc' := 137) (cm_lackingOf hok hs hw (t := t) (by omega)) dX12_valueOfToy_134 rfl rfl ck_13 rfl ml_X12_390 im_X12_lackingOf sl_X12_lackingOf in_X12 co_X12_lackingOf pd_X12_lackingOf rfl (by omega) (by decide) ⟨by decide, by decide⟩ (Nat.le_of_ble_eq_true rfl) ?_
    rintro _ _ ⟨rfl, rfl⟩ -
    refine g_iret dX12_valueOfToy_137 rfl (by decide) (by decide) ?_
    exact ⟨rfl, rfl⟩
  · exact absurd c125 (nI_ne_neg (by omega))
set_option maxRecDepth 4000 in
theorem cm_vtT_116 {E : En} (hok : EOK E) {h : Hp} (hs : Shp h.2) (hw : Wf (mo h)) {k f : Nat} {late : Int32} (hk : k < nK (mo h)) (hf : f < nF (mo h)) {t : Nat} (ht : t < nT (mo h)) (ha : As h k (nI t) f late) : Fn E m_X12_valueOfToy 1 [vR MO, vI (nI 116)] h (vI (nI t)) := by
  have hNw : h.1 MO 2 = nI (nW (mo h)) := hw.w.1
  have hNwb := hw.w.2
  have hC : h.1 MO 30 = nI (nC (mo h)) := hw.c.1
  have hCb := hw.c.2
  have hK : h.1 MO 3 = nI (nK (mo h)) := hw.k.1
  have hKb := hw.k.2
  have hT : h.1 MO 4 = nI (nT (mo h)) := hw.t.1
  have hTb := hw.t.2
  have hF : h.1 MO 5 = nI (nF (mo h)) := hw.f.1
  have hFb := hw.f.2
  have hRc : h.1 MO 59 = nI (nR (mo h)) := hw.r.1
  have hRb := hw.r.2
  have hG : h.1 MO 60 = nI (nGf (mo h)) := hw.g.1
  have hGb := hw.g.2
  have hA : h.1 MO 70 = nI (nA (mo h)) := hw.a.1
  have hAb := hw.a.2
  have hTl : h.1 MO 1 = nI (nTl (mo h)) := hw.tl.1
  have hTlb := hw.tl.2
  refine Call.enter hok (by decide) (Nat.le_of_ble_eq_true rfl) ?_
  show G E m_X12_valueOfToy 1 0 0 _ h 0 [some (vR MO), some (vI (nI 116)), none] [] h 0 0
  refine g_aload_n (pc' := 1) dX12_valueOfToy_0 rfl rfl ?_
  refine g_getIv (v := nI (t)) (pc' := 4) (k := 54) dX12_valueOfToy_1 rfl rfl ck_13 (by decide) fl_X12_381 rfl (ha.2.1) ?_
  refine g_istore_n (pc' := 5) dX12_valueOfToy_4 rfl (by decide) rfl ?_
  try simp only [List.set]
  refine g_iload_n (pc' := 6) dX12_valueOfToy_5 rfl rfl ?_
  refine g_lookup (off := 132) (tgt := 138) dX12_valueOfToy_6 (by decide) (by decide) (by decide) ?_
  refine g_iload_n (pc' := 139) dX12_valueOfToy_138 rfl rfl ?_
  refine g_iconst (v := -1) (pc' := 140) dX12_valueOfToy_139 rfl (by decide) ?_
  refine g_icmp_ne (tgt := 147) (pc' := 143) dX12_valueOfToy_140 rfl (by decide) (fun c140 => ?_) (fun c140 => ?_)
  ·
    refine g_iload_n (pc' := 148) dX12_valueOfToy_147 rfl rfl ?_
    refine g_iret dX12_valueOfToy_148 rfl (by decide) (by decide) ?_
    exact ⟨rfl, rfl⟩
  · exact absurd c140 (nI_ne_neg (by omega))
set_option maxRecDepth 4000 in
theorem cm_vtT_110 {E : En} (hok : EOK E) {h : Hp} (hs : Shp h.2) (hw : Wf (mo h)) {k f : Nat} {late : Int32} (hk : k < nK (mo h)) (hf : f < nF (mo h)) {t : Nat} (ht : t < nT (mo h)) (ha : As h k (nI t) f late) : Fn E m_X12_valueOfToy 1 [vR MO, vI (nI 110)] h (vI (mo h 122 t)) := by
  have hNw : h.1 MO 2 = nI (nW (mo h)) := hw.w.1
  have hNwb := hw.w.2
  have hC : h.1 MO 30 = nI (nC (mo h)) := hw.c.1
  have hCb := hw.c.2
  have hK : h.1 MO 3 = nI (nK (mo h)) := hw.k.1
  have hKb := hw.k.2
  have hT : h.1 MO 4 = nI (nT (mo h)) := hw.t.1
  have hTb := hw.t.2
  have hF : h.1 MO 5 = nI (nF (mo h)) := hw.f.1
  have hFb := hw.f.2
  have hRc : h.1 MO 59 = nI (nR (mo h)) := hw.r.1
  have hRb := hw.r.2
  have hG : h.1 MO 60 = nI (nGf (mo h)) := hw.g.1
  have hGb := hw.g.2
  have hA : h.1 MO 70 = nI (nA (mo h)) := hw.a.1
  have hAb := hw.a.2
  have hTl : h.1 MO 1 = nI (nTl (mo h)) := hw.tl.1
  have hTlb := hw.tl.2
  refine Call.enter hok (by decide) (Nat.le_of_ble_eq_true rfl) ?_
  show G E m_X12_valueOfToy 1 0 0 _ h 0 [some (vR MO), some (vI (nI 110)), none] [] h 0 0
  refine g_aload_n (pc' := 1) dX12_valueOfToy_0 rfl rfl ?_
  refine g_getIv (v := nI (t)) (pc' := 4) (k := 54) dX12_valueOfToy_1 rfl rfl ck_13 (by decide) fl_X12_381 rfl (ha.2.1) ?_
  refine g_istore_n (pc' := 5) dX12_valueOfToy_4 rfl (by decide) rfl ?_
  try simp only [List.set]
  refine g_iload_n (pc' := 6) dX12_valueOfToy_5 rfl rfl ?_
  refine g_lookup (off := 143) (tgt := 149) dX12_valueOfToy_6 (by decide) (by decide) (by decide) ?_
  refine g_iload_n (pc' := 150) dX12_valueOfToy_149 rfl rfl ?_
  refine g_iconst (v := -1) (pc' := 151) dX12_valueOfToy_150 rfl (by decide) ?_
  refine g_icmp_ne (tgt := 158) (pc' := 154) dX12_valueOfToy_151 rfl (by decide) (fun c151 => ?_) (fun c151 => ?_)
  ·
    refine g_aload_n (pc' := 159) dX12_valueOfToy_158 rfl rfl ?_
    refine g_getS (pc' := 162) (k := 22) (b := (122, 0)) dX12_valueOfToy_159 rfl rfl ck_13 (by decide) fl_X12_56 rfl hs rfl ?_
    refine g_iload_n (pc' := 163) dX12_valueOfToy_162 rfl rfl ?_
    refine g_ialdN (pc' := 164) (v := _) dX12_valueOfToy_163 rfl rfl (by decide) (by omega) (rfl) ?_
    refine g_iret dX12_valueOfToy_164 rfl (by decide) (by decide) ?_
    exact ⟨rfl, rfl⟩
  · exact absurd c151 (nI_ne_neg (by omega))
set_option maxRecDepth 4000 in
theorem cm_vtN_107 {E : En} (hok : EOK E) {h : Hp} (hs : Shp h.2) (hw : Wf (mo h)) {k f : Nat} {late : Int32} (hk : k < nK (mo h)) (hf : f < nF (mo h)) (ha : As h k (-1) f late) : Fn E m_X12_valueOfToy 1 [vR MO, vI (nI 107)] h (vI (nI k)) := by
  have hNw : h.1 MO 2 = nI (nW (mo h)) := hw.w.1
  have hNwb := hw.w.2
  have hC : h.1 MO 30 = nI (nC (mo h)) := hw.c.1
  have hCb := hw.c.2
  have hK : h.1 MO 3 = nI (nK (mo h)) := hw.k.1
  have hKb := hw.k.2
  have hT : h.1 MO 4 = nI (nT (mo h)) := hw.t.1
  have hTb := hw.t.2
  have hF : h.1 MO 5 = nI (nF (mo h)) := hw.f.1
  have hFb := hw.f.2
  have hRc : h.1 MO 59 = nI (nR (mo h)) := hw.r.1
  have hRb := hw.r.2
  have hG : h.1 MO 60 = nI (nGf (mo h)) := hw.g.1
  have hGb := hw.g.2
  have hA : h.1 MO 70 = nI (nA (mo h)) := hw.a.1
  have hAb := hw.a.2
  have hTl : h.1 MO 1 = nI (nTl (mo h)) := hw.tl.1
  have hTlb := hw.tl.2
  refine Call.enter hok (by decide) (Nat.le_of_ble_eq_true rfl) ?_
  show G E m_X12_valueOfToy 1 0 0 _ h 0 [some (vR MO), some (vI (nI 107)), none] [] h 0 0
  refine g_aload_n (pc' := 1) dX12_valueOfToy_0 rfl rfl ?_
  refine g_getIv (v := -1) (pc' := 4) (k := 54) dX12_valueOfToy_1 rfl rfl ck_13 (by decide) fl_X12_381 rfl (ha.2.1) ?_
  refine g_istore_n (pc' := 5) dX12_valueOfToy_4 rfl (by decide) rfl ?_
  try simp only [List.set]
  refine g_iload_n (pc' := 6) dX12_valueOfToy_5 rfl rfl ?_
  refine g_lookup (off := 66) (tgt := 72) dX12_valueOfToy_6 (by decide) (by decide) (by decide) ?_
  refine g_aload_n (pc' := 73) dX12_valueOfToy_72 rfl rfl ?_
  refine g_getIv (v := nI (k)) (pc' := 76) (k := 53) dX12_valueOfToy_73 rfl rfl ck_13 (by decide) fl_X12_378 rfl (ha.1) ?_
  refine g_iret dX12_valueOfToy_76 rfl (by decide) (by decide) ?_
  exact ⟨rfl, rfl⟩
set_option maxRecDepth 4000 in
theorem cm_vtN_97 {E : En} (hok : EOK E) {h : Hp} (hs : Shp h.2) (hw : Wf (mo h)) {k f : Nat} {late : Int32} (hk : k < nK (mo h)) (hf : f < nF (mo h)) (ha : As h k (-1) f late) : Fn E m_X12_valueOfToy 1 [vR MO, vI (nI 97)] h (vI (mo h 108 k)) := by
  have hNw : h.1 MO 2 = nI (nW (mo h)) := hw.w.1
  have hNwb := hw.w.2
  have hC : h.1 MO 30 = nI (nC (mo h)) := hw.c.1
  have hCb := hw.c.2
  have hK : h.1 MO 3 = nI (nK (mo h)) := hw.k.1
  have hKb := hw.k.2
  have hT : h.1 MO 4 = nI (nT (mo h)) := hw.t.1
  have hTb := hw.t.2
  have hF : h.1 MO 5 = nI (nF (mo h)) := hw.f.1
  have hFb := hw.f.2
  have hRc : h.1 MO 59 = nI (nR (mo h)) := hw.r.1
  have hRb := hw.r.2
  have hG : h.1 MO 60 = nI (nGf (mo h)) := hw.g.1
  have hGb := hw.g.2
  have hA : h.1 MO 70 = nI (nA (mo h)) := hw.a.1
  have hAb := hw.a.2
  have hTl : h.1 MO 1 = nI (nTl (mo h)) := hw.tl.1
  have hTlb := hw.tl.2
  refine Call.enter hok (by decide) (Nat.le_of_ble_eq_true rfl) ?_
  show G E m_X12_valueOfToy 1 0 0 _ h 0 [some (vR MO), some (vI (nI 97)), none] [] h 0 0
  refine g_aload_n (pc' := 1) dX12_valueOfToy_0 rfl rfl ?_
  refine g_getIv (v := -1) (pc' := 4) (k := 54) dX12_valueOfToy_1 rfl rfl ck_13 (by decide) fl_X12_381 rfl (ha.2.1) ?_
  refine g_istore_n (pc' := 5) dX12_valueOfToy_4 rfl (by decide) rfl ?_
  try simp only [List.set]
  refine g_iload_n (pc' := 6) dX12_valueOfToy_5 rfl rfl ?_
  refine g_lookup (off := 71) (tgt := 77) dX12_valueOfToy_6 (by decide) (by decide) (by decide) ?_
  refine g_aload_n (pc' := 78) dX12_valueOfToy_77 rfl rfl ?_
  refine g_getS (pc' := 81) (k := 8) (b := (108, 0)) dX12_valueOfToy_78 rfl rfl ck_13 (by decide) fl_X12_13 rfl hs rfl ?_
  refine g_aload_n (pc' := 82) dX12_valueOfToy_81 rfl rfl ?_
  refine g_getIv (v := nI (k)) (pc' := 85) (k := 53) dX12_valueOfToy_82 rfl rfl ck_13 (by decide) fl_X12_378 rfl (ha.1) ?_
  refine g_ialdN (pc' := 86) (v := _) dX12_valueOfToy_85 rfl rfl (by decide) (by omega) (rfl) ?_
  refine g_iret dX12_valueOfToy_86 rfl (by decide) (by decide) ?_
  exact ⟨rfl, rfl⟩
set_option maxRecDepth 4000 in
theorem cm_vtN_112 {E : En} (hok : EOK E) {h : Hp} (hs : Shp h.2) (hw : Wf (mo h)) {k f : Nat} {late : Int32} (hk : k < nK (mo h)) (hf : f < nF (mo h)) (ha : As h k (-1) f late) : Fn E m_X12_valueOfToy 1 [vR MO, vI (nI 112)] h (vI (mo h 109 k)) := by
  have hNw : h.1 MO 2 = nI (nW (mo h)) := hw.w.1
  have hNwb := hw.w.2
  have hC : h.1 MO 30 = nI (nC (mo h)) := hw.c.1
  have hCb := hw.c.2
  have hK : h.1 MO 3 = nI (nK (mo h)) := hw.k.1
  have hKb := hw.k.2
  have hT : h.1 MO 4 = nI (nT (mo h)) := hw.t.1
  have hTb := hw.t.2
  have hF : h.1 MO 5 = nI (nF (mo h)) := hw.f.1
  have hFb := hw.f.2
  have hRc : h.1 MO 59 = nI (nR (mo h)) := hw.r.1
  have hRb := hw.r.2
  have hG : h.1 MO 60 = nI (nGf (mo h)) := hw.g.1
  have hGb := hw.g.2
  have hA : h.1 MO 70 = nI (nA (mo h)) := hw.a.1
  have hAb := hw.a.2
  have hTl : h.1 MO 1 = nI (nTl (mo h)) := hw.tl.1
  have hTlb := hw.tl.2
  refine Call.enter hok (by decide) (Nat.le_of_ble_eq_true rfl) ?_
  show G E m_X12_valueOfToy 1 0 0 _ h 0 [some (vR MO), some (vI (nI 112)), none] [] h 0 0
  refine g_aload_n (pc' := 1) dX12_valueOfToy_0 rfl rfl ?_
  refine g_getIv (v := -1) (pc' := 4) (k := 54) dX12_valueOfToy_1 rfl rfl ck_13 (by decide) fl_X12_381 rfl (ha.2.1) ?_
  refine g_istore_n (pc' := 5) dX12_valueOfToy_4 rfl (by decide) rfl ?_
  try simp only [List.set]
  refine g_iload_n (pc' := 6) dX12_valueOfToy_5 rfl rfl ?_
  refine g_lookup (off := 81) (tgt := 87) dX12_valueOfToy_6 (by decide) (by decide) (by decide) ?_
  refine g_aload_n (pc' := 88) dX12_valueOfToy_87 rfl rfl ?_
  refine g_getS (pc' := 91) (k := 9) (b := (109, 0)) dX12_valueOfToy_88 rfl rfl ck_13 (by decide) fl_X12_17 rfl hs rfl ?_
  refine g_aload_n (pc' := 92) dX12_valueOfToy_91 rfl rfl ?_
  refine g_getIv (v := nI (k)) (pc' := 95) (k := 53) dX12_valueOfToy_92 rfl rfl ck_13 (by decide) fl_X12_378 rfl (ha.1) ?_
  refine g_ialdN (pc' := 96) (v := _) dX12_valueOfToy_95 rfl rfl (by decide) (by omega) (rfl) ?_
  refine g_iret dX12_valueOfToy_96 rfl (by decide) (by decide) ?_
  exact ⟨rfl, rfl⟩
set_option maxRecDepth 4000 in
theorem cm_vtN_122 {E : En} (hok : EOK E) {h : Hp} (hs : Shp h.2) (hw : Wf (mo h)) {k f : Nat} {late : Int32} (hk : k < nK (mo h)) (hf : f < nF (mo h)) (ha : As h k (-1) f late) : Fn E m_X12_valueOfToy 1 [vR MO, vI (nI 122)] h (vI (mo h 110 k)) := by
  have hNw : h.1 MO 2 = nI (nW (mo h)) := hw.w.1
  have hNwb := hw.w.2
  have hC : h.1 MO 30 = nI (nC (mo h)) := hw.c.1
  have hCb := hw.c.2
  have hK : h.1 MO 3 = nI (nK (mo h)) := hw.k.1
  have hKb := hw.k.2
  have hT : h.1 MO 4 = nI (nT (mo h)) := hw.t.1
  have hTb := hw.t.2
  have hF : h.1 MO 5 = nI (nF (mo h)) := hw.f.1
  have hFb := hw.f.2
  have hRc : h.1 MO 59 = nI (nR (mo h)) := hw.r.1
  have hRb := hw.r.2
  have hG : h.1 MO 60 = nI (nGf (mo h)) := hw.g.1
  have hGb := hw.g.2
  have hA : h.1 MO 70 = nI (nA (mo h)) := hw.a.1
  have hAb := hw.a.2
  have hTl : h.1 MO 1 = nI (nTl (mo h)) := hw.tl.1
  have hTlb := hw.tl.2
  refine Call.enter hok (by decide) (Nat.le_of_ble_eq_true rfl) ?_
  show G E m_X12_valueOfToy 1 0 0 _ h 0 [some (vR MO), some (vI (nI 122)), none] [] h 0 0
  refine g_aload_n (pc' := 1) dX12_valueOfToy_0 rfl rfl ?_
  refine g_getIv (v := -1) (pc' := 4) (k := 54) dX12_valueOfToy_1 rfl rfl ck_13 (by decide) fl_X12_381 rfl (ha.2.1) ?_
  refine g_istore_n (pc' := 5) dX12_valueOfToy_4 rfl (by decide) rfl ?_
  try simp only [List.set]
  refine g_iload_n (pc' := 6) dX12_valueOfToy_5 rfl rfl ?_
  refine g_lookup (off := 91) (tgt := 97) dX12_valueOfToy_6 (by decide) (by decide) (by decide) ?_
  refine g_aload_n (pc' := 98) dX12_valueOfToy_97 rfl rfl ?_
  refine g_getS (pc' := 101) (k := 10) (b := (110, 0)) dX12_valueOfToy_98 rfl rfl ck_13 (by decide) fl_X12_20 rfl hs rfl ?_
  refine g_aload_n (pc' := 102) dX12_valueOfToy_101 rfl rfl ?_
  refine g_getIv (v := nI (k)) (pc' := 105) (k := 53) dX12_valueOfToy_102 rfl rfl ck_13 (by decide) fl_X12_378 rfl (ha.1) ?_
  refine g_ialdN (pc' := 106) (v := _) dX12_valueOfToy_105 rfl rfl (by decide) (by omega) (rfl) ?_
  refine g_iret dX12_valueOfToy_106 rfl (by decide) (by decide) ?_
  exact ⟨rfl, rfl⟩
set_option maxRecDepth 4000 in
theorem cm_vtN_119 {E : En} (hok : EOK E) {h : Hp} (hs : Shp h.2) (hw : Wf (mo h)) {k f : Nat} {late : Int32} (hk : k < nK (mo h)) (hf : f < nF (mo h)) (ha : As h k (-1) f late) : Fn E m_X12_valueOfToy 1 [vR MO, vI (nI 119)] h (vI 0) := by
  have hNw : h.1 MO 2 = nI (nW (mo h)) := hw.w.1
  have hNwb := hw.w.2
  have hC : h.1 MO 30 = nI (nC (mo h)) := hw.c.1
  have hCb := hw.c.2
  have hK : h.1 MO 3 = nI (nK (mo h)) := hw.k.1
  have hKb := hw.k.2
  have hT : h.1 MO 4 = nI (nT (mo h)) := hw.t.1
  have hTb := hw.t.2
  have hF : h.1 MO 5 = nI (nF (mo h)) := hw.f.1
  have hFb := hw.f.2
  have hRc : h.1 MO 59 = nI (nR (mo h)) := hw.r.1
  have hRb := hw.r.2
  have hG : h.1 MO 60 = nI (nGf (mo h)) := hw.g.1
  have hGb := hw.g.2
  have hA : h.1 MO 70 = nI (nA (mo h)) := hw.a.1
  have hAb := hw.a.2
  have hTl : h.1 MO 1 = nI (nTl (mo h)) := hw.tl.1
  have hTlb := hw.tl.2
  refine Call.enter hok (by decide) (Nat.le_of_ble_eq_true rfl) ?_
  show G E m_X12_valueOfToy 1 0 0 _ h 0 [some (vR MO), some (vI (nI 119)), none] [] h 0 0
  refine g_aload_n (pc' := 1) dX12_valueOfToy_0 rfl rfl ?_
  refine g_getIv (v := -1) (pc' := 4) (k := 54) dX12_valueOfToy_1 rfl rfl ck_13 (by decide) fl_X12_381 rfl (ha.2.1) ?_
  refine g_istore_n (pc' := 5) dX12_valueOfToy_4 rfl (by decide) rfl ?_
  try simp only [List.set]
  refine g_iload_n (pc' := 6) dX12_valueOfToy_5 rfl rfl ?_
  refine g_lookup (off := 101) (tgt := 107) dX12_valueOfToy_6 (by decide) (by decide) (by decide) ?_
  refine g_iload_n (pc' := 108) dX12_valueOfToy_107 rfl rfl ?_
  refine g_iconst (v := -1) (pc' := 109) dX12_valueOfToy_108 rfl (by decide) ?_
  refine g_icmp_ne (tgt := 116) (pc' := 112) dX12_valueOfToy_109 rfl (by decide) (fun c109 => ?_) (fun c109 => ?_)
  · exact absurd rfl c109
  ·
    refine g_iconstN (n := 0) (pc' := 113) dX12_valueOfToy_112 rfl ?_
    refine g_goto (tgt := 122) dX12_valueOfToy_113 (by decide) ?_
    refine g_iret dX12_valueOfToy_122 rfl (by decide) (by decide) ?_
    exact ⟨rfl, rfl⟩
set_option maxRecDepth 4000 in
theorem cm_vtN_109 {E : En} (hok : EOK E) {h : Hp} (hs : Shp h.2) (hw : Wf (mo h)) {k f : Nat} {late : Int32} (hk : k < nK (mo h)) (hf : f < nF (mo h)) (ha : As h k (-1) f late) : Fn E m_X12_valueOfToy 1 [vR MO, vI (nI 109)] h (vI 0) := by
  have hNw : h.1 MO 2 = nI (nW (mo h)) := hw.w.1
  have hNwb := hw.w.2
  have hC : h.1 MO 30 = nI (nC (mo h)) := hw.c.1
  have hCb := hw.c.2
  have hK : h.1 MO 3 = nI (nK (mo h)) := hw.k.1
  have hKb := hw.k.2
  have hT : h.1 MO 4 = nI (nT (mo h)) := hw.t.1
  have hTb := hw.t.2
  have hF : h.1 MO 5 = nI (nF (mo h)) := hw.f.1
  have hFb := hw.f.2
  have hRc : h.1 MO 59 = nI (nR (mo h)) := hw.r.1
  have hRb := hw.r.2
  have hG : h.1 MO 60 = nI (nGf (mo h)) := hw.g.1
  have hGb := hw.g.2
  have hA : h.1 MO 70 = nI (nA (mo h)) := hw.a.1
  have hAb := hw.a.2
  have hTl : h.1 MO 1 = nI (nTl (mo h)) := hw.tl.1
  have hTlb := hw.tl.2
  refine Call.enter hok (by decide) (Nat.le_of_ble_eq_true rfl) ?_
  show G E m_X12_valueOfToy 1 0 0 _ h 0 [some (vR MO), some (vI (nI 109)), none] [] h 0 0
  refine g_aload_n (pc' := 1) dX12_valueOfToy_0 rfl rfl ?_
  refine g_getIv (v := -1) (pc' := 4) (k := 54) dX12_valueOfToy_1 rfl rfl ck_13 (by decide) fl_X12_381 rfl (ha.2.1) ?_
  refine g_istore_n (pc' := 5) dX12_valueOfToy_4 rfl (by decide) rfl ?_
  try simp only [List.set]
  refine g_iload_n (pc' := 6) dX12_valueOfToy_5 rfl rfl ?_
  refine g_lookup (off := 117) (tgt := 123) dX12_valueOfToy_6 (by decide) (by decide) (by decide) ?_
  refine g_iload_n (pc' := 124) dX12_valueOfToy_123 rfl rfl ?_
  refine g_iconst (v := -1) (pc' := 125) dX12_valueOfToy_124 rfl (by decide) ?_
  refine g_icmp_ne (tgt := 132) (pc' := 128) dX12_valueOfToy_125 rfl (by decide) (fun c125 => ?_) (fun c125 => ?_)
  · exact absurd rfl c125
  ·
    refine g_iconstN (n := 0) (pc' := 129) dX12_valueOfToy_128 rfl ?_
    refine g_goto (tgt := 137) dX12_valueOfToy_129 (by decide) ?_
    refine g_iret dX12_valueOfToy_137 rfl (by decide) (by decide) ?_
    exact ⟨rfl, rfl⟩
set_option maxRecDepth 4000 in
theorem cm_vtN_116 {E : En} (hok : EOK E) {h : Hp} (hs : Shp h.2) (hw : Wf (mo h)) {k f : Nat} {late : Int32} (hk : k < nK (mo h)) (hf : f < nF (mo h)) (ha : As h k (-1) f late) : Fn E m_X12_valueOfToy 1 [vR MO, vI (nI 116)] h (vI 0) := by
  have hNw : h.1 MO 2 = nI (nW (mo h)) := hw.w.1
  have hNwb := hw.w.2
  have hC : h.1 MO 30 = nI (nC (mo h)) := hw.c.1
  have hCb := hw.c.2
  have hK : h.1 MO 3 = nI (nK (mo h)) := hw.k.1
  have hKb := hw.k.2
  have hT : h.1 MO 4 = nI (nT (mo h)) := hw.t.1
  have hTb := hw.t.2
  have hF : h.1 MO 5 = nI (nF (mo h)) := hw.f.1
  have hFb := hw.f.2
  have hRc : h.1 MO 59 = nI (nR (mo h)) := hw.r.1
  have hRb := hw.r.2
  have hG : h.1 MO 60 = nI (nGf (mo h)) := hw.g.1
  have hGb := hw.g.2
  have hA : h.1 MO 70 = nI (nA (mo h)) := hw.a.1
  have hAb := hw.a.2
  have hTl : h.1 MO 1 = nI (nTl (mo h)) := hw.tl.1
  have hTlb := hw.tl.2
  refine Call.enter hok (by decide) (Nat.le_of_ble_eq_true rfl) ?_
  show G E m_X12_valueOfToy 1 0 0 _ h 0 [some (vR MO), some (vI (nI 116)), none] [] h 0 0
  refine g_aload_n (pc' := 1) dX12_valueOfToy_0 rfl rfl ?_
  refine g_getIv (v := -1) (pc' := 4) (k := 54) dX12_valueOfToy_1 rfl rfl ck_13 (by decide) fl_X12_381 rfl (ha.2.1) ?_
  refine g_istore_n (pc' := 5) dX12_valueOfToy_4 rfl (by decide) rfl ?_
  try simp only [List.set]
  refine g_iload_n (pc' := 6) dX12_valueOfToy_5 rfl rfl ?_
  refine g_lookup (off := 132) (tgt := 138) dX12_valueOfToy_6 (by decide) (by decide) (by decide) ?_
  refine g_iload_n (pc' := 139) dX12_valueOfToy_138 rfl rfl ?_
  refine g_iconst (v := -1) (pc' := 140) dX12_valueOfToy_139 rfl (by decide) ?_
  refine g_icmp_ne (tgt := 147) (pc' := 143) dX12_valueOfToy_140 rfl (by decide) (fun c140 => ?_) (fun c140 => ?_)
  · exact absurd rfl c140
  ·
    refine g_iconstN (n := 0) (pc' := 144) dX12_valueOfToy_143 rfl ?_
    refine g_goto (tgt := 148) dX12_valueOfToy_144 (by decide) ?_
    refine g_iret dX12_valueOfToy_148 rfl (by decide) (by decide) ?_
    exact ⟨rfl, rfl⟩
set_option maxRecDepth 4000 in
theorem cm_vtN_110 {E : En} (hok : EOK E) {h : Hp} (hs : Shp h.2) (hw : Wf (mo h)) {k f : Nat} {late : Int32} (hk : k < nK (mo h)) (hf : f < nF (mo h)) (ha : As h k (-1) f late) : Fn E m_X12_valueOfToy 1 [vR MO, vI (nI 110)] h (vI 0) := by
  have hNw : h.1 MO 2 = nI (nW (mo h)) := hw.w.1
  have hNwb := hw.w.2
  have hC : h.1 MO 30 = nI (nC (mo h)) := hw.c.1
  have hCb := hw.c.2
  have hK : h.1 MO 3 = nI (nK (mo h)) := hw.k.1
  have hKb := hw.k.2
  have hT : h.1 MO 4 = nI (nT (mo h)) := hw.t.1
  have hTb := hw.t.2
  have hF : h.1 MO 5 = nI (nF (mo h)) := hw.f.1
  have hFb := hw.f.2
  have hRc : h.1 MO 59 = nI (nR (mo h)) := hw.r.1
  have hRb := hw.r.2
  have hG : h.1 MO 60 = nI (nGf (mo h)) := hw.g.1
  have hGb := hw.g.2
  have hA : h.1 MO 70 = nI (nA (mo h)) := hw.a.1
  have hAb := hw.a.2
  have hTl : h.1 MO 1 = nI (nTl (mo h)) := hw.tl.1
  have hTlb := hw.tl.2
  refine Call.enter hok (by decide) (Nat.le_of_ble_eq_true rfl) ?_
  show G E m_X12_valueOfToy 1 0 0 _ h 0 [some (vR MO), some (vI (nI 110)), none] [] h 0 0
  refine g_aload_n (pc' := 1) dX12_valueOfToy_0 rfl rfl ?_
  refine g_getIv (v := -1) (pc' := 4) (k := 54) dX12_valueOfToy_1 rfl rfl ck_13 (by decide) fl_X12_381 rfl (ha.2.1) ?_
  refine g_istore_n (pc' := 5) dX12_valueOfToy_4 rfl (by decide) rfl ?_
  try simp only [List.set]
  refine g_iload_n (pc' := 6) dX12_valueOfToy_5 rfl rfl ?_
  refine g_lookup (off := 143) (tgt := 149) dX12_valueOfToy_6 (by decide) (by decide) (by decide) ?_
  refine g_iload_n (pc' := 150) dX12_valueOfToy_149 rfl rfl ?_
  refine g_iconst (v := -1) (pc' := 151) dX12_valueOfToy_150 rfl (by decide) ?_
  refine g_icmp_ne (tgt := 158) (pc' := 154) dX12_valueOfToy_151 rfl (by decide) (fun c151 => ?_) (fun c151 => ?_)
  · exact absurd rfl c151
  ·
    refine g_iconstN (n := 0) (pc' := 155) dX12_valueOfToy_154 rfl ?_
    refine g_goto (tgt := 164) dX12_valueOfToy_155 (by decide) ?_
    refine g_iret dX12_valueOfToy_164 rfl (by decide) (by decide) ?_
    exact ⟨rfl, rfl⟩
set_option maxRecDepth 4000 in
theorem cm_voT_107 {E : En} (hok : EOK E) {h : Hp} (hs : Shp h.2) (hw : Wf (mo h)) {k f : Nat} {late : Int32} (hk : k < nK (mo h)) (hf : f < nF (mo h)) {t : Nat} (ht : t < nT (mo h)) (ha : As h k (nI t) f late) : Fn E m_X12_valueOf 2 [vR MO, vI (nI 107)] h (vI (nI k)) := by
  have hNw : h.1 MO 2 = nI (nW (mo h)) := hw.w.1
  have hNwb := hw.w.2
  have hC : h.1 MO 30 = nI (nC (mo h)) := hw.c.1
  have hCb := hw.c.2
  have hK : h.1 MO 3 = nI (nK (mo h)) := hw.k.1
  have hKb := hw.k.2
  have hT : h.1 MO 4 = nI (nT (mo h)) := hw.t.1
  have hTb := hw.t.2
  have hF : h.1 MO 5 = nI (nF (mo h)) := hw.f.1
  have hFb := hw.f.2
  have hRc : h.1 MO 59 = nI (nR (mo h)) := hw.r.1
  have hRb := hw.r.2
  have hG : h.1 MO 60 = nI (nGf (mo h)) := hw.g.1
  have hGb := hw.g.2
  have hA : h.1 MO 70 = nI (nA (mo h)) := hw.a.1
  have hAb := hw.a.2
  have hTl : h.1 MO 1 = nI (nTl (mo h)) := hw.tl.1
  have hTlb := hw.tl.2
  refine Call.enter hok (by decide) (Nat.le_of_ble_eq_true rfl) ?_
  show G E m_X12_valueOf 2 0 0 _ h 0 [some (vR MO), some (vI (nI 107)), none] [] h 0 0
  refine g_iload_n (pc' := 1) dX12_valueOf_0 rfl rfl ?_
  refine g_invS (pc' := 4) (cm_any_107 hok) dX12_valueOf_1 rfl ml_X12_302 st_X12_isAnyOfToy in_X12 co_X12_isAnyOfToy pd_X12_isAnyOfToy rfl (by omega) (by decide) ⟨by decide, by decide⟩ (Nat.le_of_ble_eq_true rfl) ?_
  rintro _ _ ⟨rfl, rfl⟩ -
  refine g_if_eqN (tgt := 13) (pc' := 7) dX12_valueOf_4 rfl (by decide) (by decide) (fun q => False.elim (by revert q; decide)) (fun _ => ?_)
  refine g_aload_n (pc' := 8) dX12_valueOf_7 rfl rfl ?_
  refine g_iload_n (pc' := 9) dX12_valueOf_8 rfl rfl ?_
  refine g_invV (pc' := 12) (cm_vtT_107 hok hs hw hk hf ht ha) dX12_valueOf_9 rfl rfl ck_13 rfl ml_X12_394 im_X12_valueOfToy sl_X12_valueOfToy in_X12 co_X12_valueOfToy pd_X12_valueOfToy rfl (by omega) (by decide) ⟨by decide, by decide⟩ (Nat.le_of_ble_eq_true rfl) ?_
  rintro _ _ ⟨rfl, rfl⟩ -
  refine g_iret dX12_valueOf_12 rfl (by decide) (by decide) ?_
  exact ⟨rfl, rfl⟩
set_option maxRecDepth 4000 in
theorem cm_voT_97 {E : En} (hok : EOK E) {h : Hp} (hs : Shp h.2) (hw : Wf (mo h)) {k f : Nat} {late : Int32} (hk : k < nK (mo h)) (hf : f < nF (mo h)) {t : Nat} (ht : t < nT (mo h)) (ha : As h k (nI t) f late) : Fn E m_X12_valueOf 2 [vR MO, vI (nI 97)] h (vI (mo h 108 k)) := by
  have hNw : h.1 MO 2 = nI (nW (mo h)) := hw.w.1
  have hNwb := hw.w.2
  have hC : h.1 MO 30 = nI (nC (mo h)) := hw.c.1
  have hCb := hw.c.2
  have hK : h.1 MO 3 = nI (nK (mo h)) := hw.k.1
  have hKb := hw.k.2
  have hT : h.1 MO 4 = nI (nT (mo h)) := hw.t.1
  have hTb := hw.t.2
  have hF : h.1 MO 5 = nI (nF (mo h)) := hw.f.1
  have hFb := hw.f.2
  have hRc : h.1 MO 59 = nI (nR (mo h)) := hw.r.1
  have hRb := hw.r.2
  have hG : h.1 MO 60 = nI (nGf (mo h)) := hw.g.1
  have hGb := hw.g.2
  have hA : h.1 MO 70 = nI (nA (mo h)) := hw.a.1
  have hAb := hw.a.2
  have hTl : h.1 MO 1 = nI (nTl (mo h)) := hw.tl.1
  have hTlb := hw.tl.2
  refine Call.enter hok (by decide) (Nat.le_of_ble_eq_true rfl) ?_
  show G E m_X12_valueOf 2 0 0 _ h 0 [some (vR MO), some (vI (nI 97)), none] [] h 0 0
  refine g_iload_n (pc' := 1) dX12_valueOf_0 rfl rfl ?_
  refine g_invS (pc' := 4) (cm_any_97 hok) dX12_valueOf_1 rfl ml_X12_302 st_X12_isAnyOfToy in_X12 co_X12_isAnyOfToy pd_X12_isAnyOfToy rfl (by omega) (by decide) ⟨by decide, by decide⟩ (Nat.le_of_ble_eq_true rfl) ?_
  rintro _ _ ⟨rfl, rfl⟩ -
  refine g_if_eqN (tgt := 13) (pc' := 7) dX12_valueOf_4 rfl (by decide) (by decide) (fun q => False.elim (by revert q; decide)) (fun _ => ?_)
  refine g_aload_n (pc' := 8) dX12_valueOf_7 rfl rfl ?_
  refine g_iload_n (pc' := 9) dX12_valueOf_8 rfl rfl ?_
  refine g_invV (pc' := 12) (cm_vtT_97 hok hs hw hk hf ht ha) dX12_valueOf_9 rfl rfl ck_13 rfl ml_X12_394 im_X12_valueOfToy sl_X12_valueOfToy in_X12 co_X12_valueOfToy pd_X12_valueOfToy rfl (by omega) (by decide) ⟨by decide, by decide⟩ (Nat.le_of_ble_eq_true rfl) ?_
  rintro _ _ ⟨rfl, rfl⟩ -
  refine g_iret dX12_valueOf_12 rfl (by decide) (by decide) ?_
  exact ⟨rfl, rfl⟩
set_option maxRecDepth 4000 in
theorem cm_voT_112 {E : En} (hok : EOK E) {h : Hp} (hs : Shp h.2) (hw : Wf (mo h)) {k f : Nat} {late : Int32} (hk : k < nK (mo h)) (hf : f < nF (mo h)) {t : Nat} (ht : t < nT (mo h)) (ha : As h k (nI t) f late) : Fn E m_X12_valueOf 2 [vR MO, vI (nI 112)] h (vI (mo h 109 k)) := by
  have hNw : h.1 MO 2 = nI (nW (mo h)) := hw.w.1
  have hNwb := hw.w.2
  have hC : h.1 MO 30 = nI (nC (mo h)) := hw.c.1
  have hCb := hw.c.2
  have hK : h.1 MO 3 = nI (nK (mo h)) := hw.k.1
  have hKb := hw.k.2
  have hT : h.1 MO 4 = nI (nT (mo h)) := hw.t.1
  have hTb := hw.t.2
  have hF : h.1 MO 5 = nI (nF (mo h)) := hw.f.1
  have hFb := hw.f.2
  have hRc : h.1 MO 59 = nI (nR (mo h)) := hw.r.1
  have hRb := hw.r.2
  have hG : h.1 MO 60 = nI (nGf (mo h)) := hw.g.1
  have hGb := hw.g.2
  have hA : h.1 MO 70 = nI (nA (mo h)) := hw.a.1
  have hAb := hw.a.2
  have hTl : h.1 MO 1 = nI (nTl (mo h)) := hw.tl.1
  have hTlb := hw.tl.2
  refine Call.enter hok (by decide) (Nat.le_of_ble_eq_true rfl) ?_
  show G E m_X12_valueOf 2 0 0 _ h 0 [some (vR MO), some (vI (nI 112)), none] [] h 0 0
  refine g_iload_n (pc' := 1) dX12_valueOf_0 rfl rfl ?_
  refine g_invS (pc' := 4) (cm_any_112 hok) dX12_valueOf_1 rfl ml_X12_302 st_X12_isAnyOfToy in_X12 co_X12_isAnyOfToy pd_X12_isAnyOfToy rfl (by omega) (by decide) ⟨by decide, by decide⟩ (Nat.le_of_ble_eq_true rfl) ?_
  rintro _ _ ⟨rfl, rfl⟩ -
  refine g_if_eqN (tgt := 13) (pc' := 7) dX12_valueOf_4 rfl (by decide) (by decide) (fun q => False.elim (by revert q; decide)) (fun _ => ?_)
  refine g_aload_n (pc' := 8) dX12_valueOf_7 rfl rfl ?_
  refine g_iload_n (pc' := 9) dX12_valueOf_8 rfl rfl ?_
  refine g_invV (pc' := 12) (cm_vtT_112 hok hs hw hk hf ht ha) dX12_valueOf_9 rfl rfl ck_13 rfl ml_X12_394 im_X12_valueOfToy sl_X12_valueOfToy in_X12 co_X12_valueOfToy pd_X12_valueOfToy rfl (by omega) (by decide) ⟨by decide, by decide⟩ (Nat.le_of_ble_eq_true rfl) ?_
  rintro _ _ ⟨rfl, rfl⟩ -
  refine g_iret dX12_valueOf_12 rfl (by decide) (by decide) ?_
  exact ⟨rfl, rfl⟩
set_option maxRecDepth 4000 in
theorem cm_voT_122 {E : En} (hok : EOK E) {h : Hp} (hs : Shp h.2) (hw : Wf (mo h)) {k f : Nat} {late : Int32} (hk : k < nK (mo h)) (hf : f < nF (mo h)) {t : Nat} (ht : t < nT (mo h)) (ha : As h k (nI t) f late) : Fn E m_X12_valueOf 2 [vR MO, vI (nI 122)] h (vI (mo h 110 k)) := by
  have hNw : h.1 MO 2 = nI (nW (mo h)) := hw.w.1
  have hNwb := hw.w.2
  have hC : h.1 MO 30 = nI (nC (mo h)) := hw.c.1
  have hCb := hw.c.2
  have hK : h.1 MO 3 = nI (nK (mo h)) := hw.k.1
  have hKb := hw.k.2
  have hT : h.1 MO 4 = nI (nT (mo h)) := hw.t.1
  have hTb := hw.t.2
  have hF : h.1 MO 5 = nI (nF (mo h)) := hw.f.1
  have hFb := hw.f.2
  have hRc : h.1 MO 59 = nI (nR (mo h)) := hw.r.1
  have hRb := hw.r.2
  have hG : h.1 MO 60 = nI (nGf (mo h)) := hw.g.1
  have hGb := hw.g.2
  have hA : h.1 MO 70 = nI (nA (mo h)) := hw.a.1
  have hAb := hw.a.2
  have hTl : h.1 MO 1 = nI (nTl (mo h)) := hw.tl.1
  have hTlb := hw.tl.2
  refine Call.enter hok (by decide) (Nat.le_of_ble_eq_true rfl) ?_
  show G E m_X12_valueOf 2 0 0 _ h 0 [some (vR MO), some (vI (nI 122)), none] [] h 0 0
  refine g_iload_n (pc' := 1) dX12_valueOf_0 rfl rfl ?_
  refine g_invS (pc' := 4) (cm_any_122 hok) dX12_valueOf_1 rfl ml_X12_302 st_X12_isAnyOfToy in_X12 co_X12_isAnyOfToy pd_X12_isAnyOfToy rfl (by omega) (by decide) ⟨by decide, by decide⟩ (Nat.le_of_ble_eq_true rfl) ?_
  rintro _ _ ⟨rfl, rfl⟩ -
  refine g_if_eqN (tgt := 13) (pc' := 7) dX12_valueOf_4 rfl (by decide) (by decide) (fun q => False.elim (by revert q; decide)) (fun _ => ?_)
  refine g_aload_n (pc' := 8) dX12_valueOf_7 rfl rfl ?_
  refine g_iload_n (pc' := 9) dX12_valueOf_8 rfl rfl ?_
  refine g_invV (pc' := 12) (cm_vtT_122 hok hs hw hk hf ht ha) dX12_valueOf_9 rfl rfl ck_13 rfl ml_X12_394 im_X12_valueOfToy sl_X12_valueOfToy in_X12 co_X12_valueOfToy pd_X12_valueOfToy rfl (by omega) (by decide) ⟨by decide, by decide⟩ (Nat.le_of_ble_eq_true rfl) ?_
  rintro _ _ ⟨rfl, rfl⟩ -
  refine g_iret dX12_valueOf_12 rfl (by decide) (by decide) ?_
  exact ⟨rfl, rfl⟩
set_option maxRecDepth 4000 in
theorem cm_voT_119 {E : En} (hok : EOK E) {h : Hp} (hs : Shp h.2) (hw : Wf (mo h)) {k f : Nat} {late : Int32} (hk : k < nK (mo h)) (hf : f < nF (mo h)) {t : Nat} (ht : t < nT (mo h)) (ha : As h k (nI t) f late) : Fn E m_X12_valueOf 2 [vR MO, vI (nI 119)] h (vI (mo h 117 t)) := by
  have hNw : h.1 MO 2 = nI (nW (mo h)) := hw.w.1
  have hNwb := hw.w.2
  have hC : h.1 MO 30 = nI (nC (mo h)) := hw.c.1
  have hCb := hw.c.2
  have hK : h.1 MO 3 = nI (nK (mo h)) := hw.k.1
  have hKb := hw.k.2
  have hT : h.1 MO 4 = nI (nT (mo h)) := hw.t.1
  have hTb := hw.t.2
  have hF : h.1 MO 5 = nI (nF (mo h)) := hw.f.1
  have hFb := hw.f.2
  have hRc : h.1 MO 59 = nI (nR (mo h)) := hw.r.1
  have hRb := hw.r.2
  have hG : h.1 MO 60 = nI (nGf (mo h)) := hw.g.1
  have hGb := hw.g.2
  have hA : h.1 MO 70 = nI (nA (mo h)) := hw.a.1
  have hAb := hw.a.2
  have hTl : h.1 MO 1 = nI (nTl (mo h)) := hw.tl.1
  have hTlb := hw.tl.2
  refine Call.enter hok (by decide) (Nat.le_of_ble_eq_true rfl) ?_
  show G E m_X12_valueOf 2 0 0 _ h 0 [some (vR MO), some (vI (nI 119)), none] [] h 0 0
  refine g_iload_n (pc' := 1) dX12_valueOf_0 rfl rfl ?_
  refine g_invS (pc' := 4) (cm_any_119 hok) dX12_valueOf_1 rfl ml_X12_302 st_X12_isAnyOfToy in_X12 co_X12_isAnyOfToy pd_X12_isAnyOfToy rfl (by omega) (by decide) ⟨by decide, by decide⟩ (Nat.le_of_ble_eq_true rfl) ?_
  rintro _ _ ⟨rfl, rfl⟩ -
  refine g_if_eqN (tgt := 13) (pc' := 7) dX12_valueOf_4 rfl (by decide) (by decide) (fun q => False.elim (by revert q; decide)) (fun _ => ?_)
  refine g_aload_n (pc' := 8) dX12_valueOf_7 rfl rfl ?_
  refine g_iload_n (pc' := 9) dX12_valueOf_8 rfl rfl ?_
  refine g_invV (pc' := 12) (cm_vtT_119 hok hs hw hk hf ht ha) dX12_valueOf_9 rfl rfl ck_13 rfl ml_X12_394 im_X12_valueOfToy sl_X12_valueOfToy in_X12 co_X12_valueOfToy pd_X12_valueOfToy rfl (by omega) (by decide) ⟨by decide, by decide⟩ (Nat.le_of_ble_eq_true rfl) ?_
  rintro _ _ ⟨rfl, rfl⟩ -
  refine g_iret dX12_valueOf_12 rfl (by decide) (by decide) ?_
  exact ⟨rfl, rfl⟩
set_option maxRecDepth 4000 in
theorem cm_voT_109 {E : En} (hok : EOK E) {h : Hp} (hs : Shp h.2) (hw : Wf (mo h)) {k f : Nat} {late : Int32} (hk : k < nK (mo h)) (hf : f < nF (mo h)) {t : Nat} (ht : t < nT (mo h)) (ha : As h k (nI t) f late) : Fn E m_X12_valueOf 2 [vR MO, vI (nI 109)] h (vI (lck (mo h) t)) := by
  have hNw : h.1 MO 2 = nI (nW (mo h)) := hw.w.1
  have hNwb := hw.w.2
  have hC : h.1 MO 30 = nI (nC (mo h)) := hw.c.1
  have hCb := hw.c.2
  have hK : h.1 MO 3 = nI (nK (mo h)) := hw.k.1
  have hKb := hw.k.2
  have hT : h.1 MO 4 = nI (nT (mo h)) := hw.t.1
  have hTb := hw.t.2
  have hF : h.1 MO 5 = nI (nF (mo h)) := hw.f.1
  have hFb := hw.f.2
  have hRc : h.1 MO 59 = nI (nR (mo h)) := hw.r.1
  have hRb := hw.r.2
  have hG : h.1 MO 60 = nI (nGf (mo h)) := hw.g.1
  have hGb := hw.g.2
  have hA : h.1 MO 70 = nI (nA (mo h)) := hw.a.1
  have hAb := hw.a.2
  have hTl : h.1 MO 1 = nI (nTl (mo h)) := hw.tl.1
  have hTlb := hw.tl.2
  refine Call.enter hok (by decide) (Nat.le_of_ble_eq_true rfl) ?_
  show G E m_X12_valueOf 2 0 0 _ h 0 [some (vR MO), some (vI (nI 109)), none] [] h 0 0
  refine g_iload_n (pc' := 1) dX12_valueOf_0 rfl rfl ?_
  refine g_invS (pc' := 4) (cm_any_109 hok) dX12_valueOf_1 rfl ml_X12_302 st_X12_isAnyOfToy in_X12 co_X12_isAnyOfToy pd_X12_isAnyOfToy rfl (by omega) (by decide) ⟨by decide, by decide⟩ (Nat.le_of_ble_eq_true rfl) ?_
  rintro _ _ ⟨rfl, rfl⟩ -
  refine g_if_eqN (tgt := 13) (pc' := 7) dX12_valueOf_4 rfl (by decide) (by decide) (fun q => False.elim (by revert q; decide)) (fun _ => ?_)
  refine g_aload_n (pc' := 8) dX12_valueOf_7 rfl rfl ?_
  refine g_iload_n (pc' := 9) dX12_valueOf_8 rfl rfl ?_
  refine g_invV (pc' := 12) (cm_vtT_109 hok hs hw hk hf ht ha) dX12_valueOf_9 rfl rfl ck_13 rfl ml_X12_394 im_X12_valueOfToy sl_X12_valueOfToy in_X12 co_X12_valueOfToy pd_X12_valueOfToy rfl (by omega) (by decide) ⟨by decide, by decide⟩ (Nat.le_of_ble_eq_true rfl) ?_
  rintro _ _ ⟨rfl, rfl⟩ -
  refine g_iret dX12_valueOf_12 rfl (by decide) (by decide) ?_
  exact ⟨rfl, rfl⟩
set_option maxRecDepth 4000 in
theorem cm_voT_116 {E : En} (hok : EOK E) {h : Hp} (hs : Shp h.2) (hw : Wf (mo h)) {k f : Nat} {late : Int32} (hk : k < nK (mo h)) (hf : f < nF (mo h)) {t : Nat} (ht : t < nT (mo h)) (ha : As h k (nI t) f late) : Fn E m_X12_valueOf 2 [vR MO, vI (nI 116)] h (vI (nI t)) := by
  have hNw : h.1 MO 2 = nI (nW (mo h)) := hw.w.1
  have hNwb := hw.w.2
  have hC : h.1 MO 30 = nI (nC (mo h)) := hw.c.1
  have hCb := hw.c.2
  have hK : h.1 MO 3 = nI (nK (mo h)) := hw.k.1
  have hKb := hw.k.2
  have hT : h.1 MO 4 = nI (nT (mo h)) := hw.t.1
  have hTb := hw.t.2
  have hF : h.1 MO 5 = nI (nF (mo h)) := hw.f.1
  have hFb := hw.f.2
  have hRc : h.1 MO 59 = nI (nR (mo h)) := hw.r.1
  have hRb := hw.r.2
  have hG : h.1 MO 60 = nI (nGf (mo h)) := hw.g.1
  have hGb := hw.g.2
  have hA : h.1 MO 70 = nI (nA (mo h)) := hw.a.1
  have hAb := hw.a.2
  have hTl : h.1 MO 1 = nI (nTl (mo h)) := hw.tl.1
  have hTlb := hw.tl.2
  refine Call.enter hok (by decide) (Nat.le_of_ble_eq_true rfl) ?_
  show G E m_X12_valueOf 2 0 0 _ h 0 [some (vR MO), some (vI (nI 116)), none] [] h 0 0
  refine g_iload_n (pc' := 1) dX12_valueOf_0 rfl rfl ?_
  refine g_invS (pc' := 4) (cm_any_116 hok) dX12_valueOf_1 rfl ml_X12_302 st_X12_isAnyOfToy in_X12 co_X12_isAnyOfToy pd_X12_isAnyOfToy rfl (by omega) (by decide) ⟨by decide, by decide⟩ (Nat.le_of_ble_eq_true rfl) ?_
  rintro _ _ ⟨rfl, rfl⟩ -
  refine g_if_eqN (tgt := 13) (pc' := 7) dX12_valueOf_4 rfl (by decide) (by decide) (fun q => False.elim (by revert q; decide)) (fun _ => ?_)
  refine g_aload_n (pc' := 8) dX12_valueOf_7 rfl rfl ?_
  refine g_iload_n (pc' := 9) dX12_valueOf_8 rfl rfl ?_
  refine g_invV (pc' := 12) (cm_vtT_116 hok hs hw hk hf ht ha) dX12_valueOf_9 rfl rfl ck_13 rfl ml_X12_394 im_X12_valueOfToy sl_X12_valueOfToy in_X12 co_X12_valueOfToy pd_X12_valueOfToy rfl (by omega) (by decide) ⟨by decide, by decide⟩ (Nat.le_of_ble_eq_true rfl) ?_
  rintro _ _ ⟨rfl, rfl⟩ -
  refine g_iret dX12_valueOf_12 rfl (by decide) (by decide) ?_
  exact ⟨rfl, rfl⟩
set_option maxRecDepth 4000 in
theorem cm_voT_110 {E : En} (hok : EOK E) {h : Hp} (hs : Shp h.2) (hw : Wf (mo h)) {k f : Nat} {late : Int32} (hk : k < nK (mo h)) (hf : f < nF (mo h)) {t : Nat} (ht : t < nT (mo h)) (ha : As h k (nI t) f late) : Fn E m_X12_valueOf 2 [vR MO, vI (nI 110)] h (vI (mo h 122 t)) := by
  have hNw : h.1 MO 2 = nI (nW (mo h)) := hw.w.1
  have hNwb := hw.w.2
  have hC : h.1 MO 30 = nI (nC (mo h)) := hw.c.1
  have hCb := hw.c.2
  have hK : h.1 MO 3 = nI (nK (mo h)) := hw.k.1
  have hKb := hw.k.2
  have hT : h.1 MO 4 = nI (nT (mo h)) := hw.t.1
  have hTb := hw.t.2
  have hF : h.1 MO 5 = nI (nF (mo h)) := hw.f.1
  have hFb := hw.f.2
  have hRc : h.1 MO 59 = nI (nR (mo h)) := hw.r.1
  have hRb := hw.r.2
  have hG : h.1 MO 60 = nI (nGf (mo h)) := hw.g.1
  have hGb := hw.g.2
  have hA : h.1 MO 70 = nI (nA (mo h)) := hw.a.1
  have hAb := hw.a.2
  have hTl : h.1 MO 1 = nI (nTl (mo h)) := hw.tl.1
  have hTlb := hw.tl.2
  refine Call.enter hok (by decide) (Nat.le_of_ble_eq_true rfl) ?_
  show G E m_X12_valueOf 2 0 0 _ h 0 [some (vR MO), some (vI (nI 110)), none] [] h 0 0
  refine g_iload_n (pc' := 1) dX12_valueOf_0 rfl rfl ?_
  refine g_invS (pc' := 4) (cm_any_110 hok) dX12_valueOf_1 rfl ml_X12_302 st_X12_isAnyOfToy in_X12 co_X12_isAnyOfToy pd_X12_isAnyOfToy rfl (by omega) (by decide) ⟨by decide, by decide⟩ (Nat.le_of_ble_eq_true rfl) ?_
  rintro _ _ ⟨rfl, rfl⟩ -
  refine g_if_eqN (tgt := 13) (pc' := 7) dX12_valueOf_4 rfl (by decide) (by decide) (fun q => False.elim (by revert q; decide)) (fun _ => ?_)
  refine g_aload_n (pc' := 8) dX12_valueOf_7 rfl rfl ?_
  refine g_iload_n (pc' := 9) dX12_valueOf_8 rfl rfl ?_
  refine g_invV (pc' := 12) (cm_vtT_110 hok hs hw hk hf ht ha) dX12_valueOf_9 rfl rfl ck_13 rfl ml_X12_394 im_X12_valueOfToy sl_X12_valueOfToy in_X12 co_X12_valueOfToy pd_X12_valueOfToy rfl (by omega) (by decide) ⟨by decide, by decide⟩ (Nat.le_of_ble_eq_true rfl) ?_
  rintro _ _ ⟨rfl, rfl⟩ -
  refine g_iret dX12_valueOf_12 rfl (by decide) (by decide) ?_
  exact ⟨rfl, rfl⟩
set_option maxRecDepth 4000 in
theorem cm_voT_121 {E : En} (hok : EOK E) {h : Hp} (hs : Shp h.2) (hw : Wf (mo h)) {k f : Nat} {late : Int32} (hk : k < nK (mo h)) (hf : f < nF (mo h)) {t : Nat} (ht : t < nT (mo h)) (ha : As h k (nI t) f late) : Fn E m_X12_valueOf 2 [vR MO, vI (nI 121)] h (vI (mo h 126 f)) := by
  have hNw : h.1 MO 2 = nI (nW (mo h)) := hw.w.1
  have hNwb := hw.w.2
  have hC : h.1 MO 30 = nI (nC (mo h)) := hw.c.1
  have hCb := hw.c.2
  have hK : h.1 MO 3 = nI (nK (mo h)) := hw.k.1
  have hKb := hw.k.2
  have hT : h.1 MO 4 = nI (nT (mo h)) := hw.t.1
  have hTb := hw.t.2
  have hF : h.1 MO 5 = nI (nF (mo h)) := hw.f.1
  have hFb := hw.f.2
  have hRc : h.1 MO 59 = nI (nR (mo h)) := hw.r.1
  have hRb := hw.r.2
  have hG : h.1 MO 60 = nI (nGf (mo h)) := hw.g.1
  have hGb := hw.g.2
  have hA : h.1 MO 70 = nI (nA (mo h)) := hw.a.1
  have hAb := hw.a.2
  have hTl : h.1 MO 1 = nI (nTl (mo h)) := hw.tl.1
  have hTlb := hw.tl.2
  refine Call.enter hok (by decide) (Nat.le_of_ble_eq_true rfl) ?_
  show G E m_X12_valueOf 2 0 0 _ h 0 [some (vR MO), some (vI (nI 121)), none] [] h 0 0
  refine g_iload_n (pc' := 1) dX12_valueOf_0 rfl rfl ?_
  refine g_invS (pc' := 4) (cm_any_121 hok) dX12_valueOf_1 rfl ml_X12_302 st_X12_isAnyOfToy in_X12 co_X12_isAnyOfToy pd_X12_isAnyOfToy rfl (by omega) (by decide) ⟨by decide, by decide⟩ (Nat.le_of_ble_eq_true rfl) ?_
  rintro _ _ ⟨rfl, rfl⟩ -
  refine g_if_eqN (tgt := 13) (pc' := 7) dX12_valueOf_4 rfl (by decide) (by decide) (fun _ => ?_) (fun q => False.elim (by revert q; decide))
  refine g_aload_n (pc' := 14) dX12_valueOf_13 rfl rfl ?_
  refine g_getIv (v := nI (f)) (pc' := 17) (k := 55) dX12_valueOf_14 rfl rfl ck_13 (by decide) fl_X12_384 rfl (ha.2.2.1) ?_
  refine g_istore_n (pc' := 18) dX12_valueOf_17 rfl (by decide) rfl ?_
  try simp only [List.set]
  refine g_iload_n (pc' := 19) dX12_valueOf_18 rfl rfl ?_
  refine g_tabIn (off := 101) (tgt := 120) dX12_valueOf_19 (by decide) (by decide) rfl (by decide) ?_
  refine g_aload_n (pc' := 121) dX12_valueOf_120 rfl rfl ?_
  refine g_getS (pc' := 124) (k := 26) (b := (126, 0)) dX12_valueOf_121 rfl rfl ck_13 (by decide) fl_X12_69 rfl hs rfl ?_
  refine g_iload_n (pc' := 125) dX12_valueOf_124 rfl rfl ?_
  refine g_ialdN (pc' := 126) (v := _) dX12_valueOf_125 rfl rfl (by decide) (by omega) (rfl) ?_
  refine g_iret dX12_valueOf_126 rfl (by decide) (by decide) ?_
  exact ⟨rfl, rfl⟩
set_option maxRecDepth 4000 in
theorem cm_voT_101 {E : En} (hok : EOK E) {h : Hp} (hs : Shp h.2) (hw : Wf (mo h)) {k f : Nat} {late : Int32} (hk : k < nK (mo h)) (hf : f < nF (mo h)) {t : Nat} (ht : t < nT (mo h)) (ha : As h k (nI t) f late) : Fn E m_X12_valueOf 2 [vR MO, vI (nI 101)] h (vI (mo h 127 f)) := by
  have hNw : h.1 MO 2 = nI (nW (mo h)) := hw.w.1
  have hNwb := hw.w.2
  have hC : h.1 MO 30 = nI (nC (mo h)) := hw.c.1
  have hCb := hw.c.2
  have hK : h.1 MO 3 = nI (nK (mo h)) := hw.k.1
  have hKb := hw.k.2
  have hT : h.1 MO 4 = nI (nT (mo h)) := hw.t.1
  have hTb := hw.t.2
  have hF : h.1 MO 5 = nI (nF (mo h)) := hw.f.1
  have hFb := hw.f.2
  have hRc : h.1 MO 59 = nI (nR (mo h)) := hw.r.1
  have hRb := hw.r.2
  have hG : h.1 MO 60 = nI (nGf (mo h)) := hw.g.1
  have hGb := hw.g.2
  have hA : h.1 MO 70 = nI (nA (mo h)) := hw.a.1
  have hAb := hw.a.2
  have hTl : h.1 MO 1 = nI (nTl (mo h)) := hw.tl.1
  have hTlb := hw.tl.2
  refine Call.enter hok (by decide) (Nat.le_of_ble_eq_true rfl) ?_
  show G E m_X12_valueOf 2 0 0 _ h 0 [some (vR MO), some (vI (nI 101)), none] [] h 0 0
  refine g_iload_n (pc' := 1) dX12_valueOf_0 rfl rfl ?_
  refine g_invS (pc' := 4) (cm_any_101 hok) dX12_valueOf_1 rfl ml_X12_302 st_X12_isAnyOfToy in_X12 co_X12_isAnyOfToy pd_X12_isAnyOfToy rfl (by omega) (by decide) ⟨by decide, by decide⟩ (Nat.le_of_ble_eq_true rfl) ?_
  rintro _ _ ⟨rfl, rfl⟩ -
  refine g_if_eqN (tgt := 13) (pc' := 7) dX12_valueOf_4 rfl (by decide) (by decide) (fun _ => ?_) (fun q => False.elim (by revert q; decide))
  refine g_aload_n (pc' := 14) dX12_valueOf_13 rfl rfl ?_
  refine g_getIv (v := nI (f)) (pc' := 17) (k := 55) dX12_valueOf_14 rfl rfl ck_13 (by decide) fl_X12_384 rfl (ha.2.2.1) ?_
  refine g_istore_n (pc' := 18) dX12_valueOf_17 rfl (by decide) rfl ?_
  try simp only [List.set]
  refine g_iload_n (pc' := 19) dX12_valueOf_18 rfl rfl ?_
  refine g_tabIn (off := 108) (tgt := 127) dX12_valueOf_19 (by decide) (by decide) rfl (by decide) ?_
  refine g_aload_n (pc' := 128) dX12_valueOf_127 rfl rfl ?_
  refine g_getS (pc' := 131) (k := 27) (b := (127, 0)) dX12_valueOf_128 rfl rfl ck_13 (by decide) fl_X12_72 rfl hs rfl ?_
  refine g_iload_n (pc' := 132) dX12_valueOf_131 rfl rfl ?_
  refine g_ialdN (pc' := 133) (v := _) dX12_valueOf_132 rfl rfl (by decide) (by omega) (rfl) ?_
  refine g_iret dX12_valueOf_133 rfl (by decide) (by decide) ?_
  exact ⟨rfl, rfl⟩
set_option maxRecDepth 4000 in
theorem cm_voT_118 {E : En} (hok : EOK E) {h : Hp} (hs : Shp h.2) (hw : Wf (mo h)) {k f : Nat} {late : Int32} (hk : k < nK (mo h)) (hf : f < nF (mo h)) {t : Nat} (ht : t < nT (mo h)) (ha : As h k (nI t) f late) : Fn E m_X12_valueOf 2 [vR MO, vI (nI 118)] h (vI (mo h 128 f)) := by
  have hNw : h.1 MO 2 = nI (nW (mo h)) := hw.w.1
  have hNwb := hw.w.2
  have hC : h.1 MO 30 = nI (nC (mo h)) := hw.c.1
  have hCb := hw.c.2
  have hK : h.1 MO 3 = nI (nK (mo h)) := hw.k.1
  have hKb := hw.k.2
  have hT : h.1 MO 4 = nI (nT (mo h)) := hw.t.1
  have hTb := hw.t.2
  have hF : h.1 MO 5 = nI (nF (mo h)) := hw.f.1
  have hFb := hw.f.2
  have hRc : h.1 MO 59 = nI (nR (mo h)) := hw.r.1
  have hRb := hw.r.2
  have hG : h.1 MO 60 = nI (nGf (mo h)) := hw.g.1
  have hGb := hw.g.2
  have hA : h.1 MO 70 = nI (nA (mo h)) := hw.a.1
  have hAb := hw.a.2
  have hTl : h.1 MO 1 = nI (nTl (mo h)) := hw.tl.1
  have hTlb := hw.tl.2
  refine Call.enter hok (by decide) (Nat.le_of_ble_eq_true rfl) ?_
  show G E m_X12_valueOf 2 0 0 _ h 0 [some (vR MO), some (vI (nI 118)), none] [] h 0 0
  refine g_iload_n (pc' := 1) dX12_valueOf_0 rfl rfl ?_
  refine g_invS (pc' := 4) (cm_any_118 hok) dX12_valueOf_1 rfl ml_X12_302 st_X12_isAnyOfToy in_X12 co_X12_isAnyOfToy pd_X12_isAnyOfToy rfl (by omega) (by decide) ⟨by decide, by decide⟩ (Nat.le_of_ble_eq_true rfl) ?_
  rintro _ _ ⟨rfl, rfl⟩ -
  refine g_if_eqN (tgt := 13) (pc' := 7) dX12_valueOf_4 rfl (by decide) (by decide) (fun _ => ?_) (fun q => False.elim (by revert q; decide))
  refine g_aload_n (pc' := 14) dX12_valueOf_13 rfl rfl ?_
  refine g_getIv (v := nI (f)) (pc' := 17) (k := 55) dX12_valueOf_14 rfl rfl ck_13 (by decide) fl_X12_384 rfl (ha.2.2.1) ?_
  refine g_istore_n (pc' := 18) dX12_valueOf_17 rfl (by decide) rfl ?_
  try simp only [List.set]
  refine g_iload_n (pc' := 19) dX12_valueOf_18 rfl rfl ?_
  refine g_tabIn (off := 115) (tgt := 134) dX12_valueOf_19 (by decide) (by decide) rfl (by decide) ?_
  refine g_aload_n (pc' := 135) dX12_valueOf_134 rfl rfl ?_
  refine g_getS (pc' := 138) (k := 28) (b := (128, 0)) dX12_valueOf_135 rfl rfl ck_13 (by decide) fl_X12_75 rfl hs rfl ?_
  refine g_iload_n (pc' := 139) dX12_valueOf_138 rfl rfl ?_
  refine g_ialdN (pc' := 140) (v := _) dX12_valueOf_139 rfl rfl (by decide) (by omega) (rfl) ?_
  refine g_iret dX12_valueOf_140 rfl (by decide) (by decide) ?_
  exact ⟨rfl, rfl⟩
set_option maxRecDepth 4000 in
theorem cm_voT_104 {E : En} (hok : EOK E) {h : Hp} (hs : Shp h.2) (hw : Wf (mo h)) {k f : Nat} {late : Int32} (hk : k < nK (mo h)) (hf : f < nF (mo h)) {t : Nat} (ht : t < nT (mo h)) (ha : As h k (nI t) f late) : Fn E m_X12_valueOf 2 [vR MO, vI (nI 104)] h (vI (nI (hsT (mo h) (nI f)))) := by
  have hNw : h.1 MO 2 = nI (nW (mo h)) := hw.w.1
  have hNwb := hw.w.2
  have hC : h.1 MO 30 = nI (nC (mo h)) := hw.c.1
  have hCb := hw.c.2
  have hK : h.1 MO 3 = nI (nK (mo h)) := hw.k.1
  have hKb := hw.k.2
  have hT : h.1 MO 4 = nI (nT (mo h)) := hw.t.1
  have hTb := hw.t.2
  have hF : h.1 MO 5 = nI (nF (mo h)) := hw.f.1
  have hFb := hw.f.2
  have hRc : h.1 MO 59 = nI (nR (mo h)) := hw.r.1
  have hRb := hw.r.2
  have hG : h.1 MO 60 = nI (nGf (mo h)) := hw.g.1
  have hGb := hw.g.2
  have hA : h.1 MO 70 = nI (nA (mo h)) := hw.a.1
  have hAb := hw.a.2
  have hTl : h.1 MO 1 = nI (nTl (mo h)) := hw.tl.1
  have hTlb := hw.tl.2
  refine Call.enter hok (by decide) (Nat.le_of_ble_eq_true rfl) ?_
  show G E m_X12_valueOf 2 0 0 _ h 0 [some (vR MO), some (vI (nI 104)), none] [] h 0 0
  refine g_iload_n (pc' := 1) dX12_valueOf_0 rfl rfl ?_
  refine g_invS (pc' := 4) (cm_any_104 hok) dX12_valueOf_1 rfl ml_X12_302 st_X12_isAnyOfToy in_X12 co_X12_isAnyOfToy pd_X12_isAnyOfToy rfl (by omega) (by decide) ⟨by decide, by decide⟩ (Nat.le_of_ble_eq_true rfl) ?_
  rintro _ _ ⟨rfl, rfl⟩ -
  refine g_if_eqN (tgt := 13) (pc' := 7) dX12_valueOf_4 rfl (by decide) (by decide) (fun _ => ?_) (fun q => False.elim (by revert q; decide))
  refine g_aload_n (pc' := 14) dX12_valueOf_13 rfl rfl ?_
  refine g_getIv (v := nI (f)) (pc' := 17) (k := 55) dX12_valueOf_14 rfl rfl ck_13 (by decide) fl_X12_384 rfl (ha.2.2.1) ?_
  refine g_istore_n (pc' := 18) dX12_valueOf_17 rfl (by decide) rfl ?_
  try simp only [List.set]
  refine g_iload_n (pc' := 19) dX12_valueOf_18 rfl rfl ?_
  refine g_tabIn (off := 122) (tgt := 141) dX12_valueOf_19 (by decide) (by decide) rfl (by decide) ?_
  refine g_aload_n (pc' := 142) dX12_valueOf_141 rfl rfl ?_
  refine g_iload_n (pc' := 143) dX12_valueOf_142 rfl rfl ?_
  refine g_invV (pc' := 146) (cm_hasToys hok hs hw (nI f)) dX12_valueOf_143 rfl rfl ck_13 rfl ml_X12_397 im_X12_hasToys sl_X12_hasToys in_X12 co_X12_hasToys pd_X12_hasToys rfl (by omega) (by decide) ⟨by decide, by decide⟩ (Nat.le_of_ble_eq_true rfl) ?_
  rintro _ _ ⟨rfl, rfl⟩ -
  refine g_iret dX12_valueOf_146 rfl (by decide) (by decide) ?_
  exact ⟨rfl, rfl⟩
set_option maxRecDepth 4000 in
theorem cm_voT_100 {E : En} (hok : EOK E) {h : Hp} (hs : Shp h.2) (hw : Wf (mo h)) {k f : Nat} {late : Int32} (hk : k < nK (mo h)) (hf : f < nF (mo h)) {t : Nat} (ht : t < nT (mo h)) (ha : As h k (nI t) f late) : Fn E m_X12_valueOf 2 [vR MO, vI (nI 100)] h (vI (mo h 1 2)) := by
  have hNw : h.1 MO 2 = nI (nW (mo h)) := hw.w.1
  have hNwb := hw.w.2
  have hC : h.1 MO 30 = nI (nC (mo h)) := hw.c.1
  have hCb := hw.c.2
  have hK : h.1 MO 3 = nI (nK (mo h)) := hw.k.1
  have hKb := hw.k.2
  have hT : h.1 MO 4 = nI (nT (mo h)) := hw.t.1
  have hTb := hw.t.2
  have hF : h.1 MO 5 = nI (nF (mo h)) := hw.f.1
  have hFb := hw.f.2
  have hRc : h.1 MO 59 = nI (nR (mo h)) := hw.r.1
  have hRb := hw.r.2
  have hG : h.1 MO 60 = nI (nGf (mo h)) := hw.g.1
  have hGb := hw.g.2
  have hA : h.1 MO 70 = nI (nA (mo h)) := hw.a.1
  have hAb := hw.a.2
  have hTl : h.1 MO 1 = nI (nTl (mo h)) := hw.tl.1
  have hTlb := hw.tl.2
  refine Call.enter hok (by decide) (Nat.le_of_ble_eq_true rfl) ?_
  show G E m_X12_valueOf 2 0 0 _ h 0 [some (vR MO), some (vI (nI 100)), none] [] h 0 0
  refine g_iload_n (pc' := 1) dX12_valueOf_0 rfl rfl ?_
  refine g_invS (pc' := 4) (cm_any_100 hok) dX12_valueOf_1 rfl ml_X12_302 st_X12_isAnyOfToy in_X12 co_X12_isAnyOfToy pd_X12_isAnyOfToy rfl (by omega) (by decide) ⟨by decide, by decide⟩ (Nat.le_of_ble_eq_true rfl) ?_
  rintro _ _ ⟨rfl, rfl⟩ -
  refine g_if_eqN (tgt := 13) (pc' := 7) dX12_valueOf_4 rfl (by decide) (by decide) (fun _ => ?_) (fun q => False.elim (by revert q; decide))
  refine g_aload_n (pc' := 14) dX12_valueOf_13 rfl rfl ?_
  refine g_getIv (v := nI (f)) (pc' := 17) (k := 55) dX12_valueOf_14 rfl rfl ck_13 (by decide) fl_X12_384 rfl (ha.2.2.1) ?_
  refine g_istore_n (pc' := 18) dX12_valueOf_17 rfl (by decide) rfl ?_
  try simp only [List.set]
  refine g_iload_n (pc' := 19) dX12_valueOf_18 rfl rfl ?_
  refine g_tabIn (off := 128) (tgt := 147) dX12_valueOf_19 (by decide) (by decide) rfl (by decide) ?_
  refine g_aload_n (pc' := 148) dX12_valueOf_147 rfl rfl ?_
  refine g_getI (pc' := 151) (k := 2) dX12_valueOf_148 rfl rfl ck_13 (by decide) fl_X12_219 rfl ?_
  refine g_iret dX12_valueOf_151 rfl (by decide) (by decide) ?_
  exact ⟨rfl, rfl⟩
set_option maxRecDepth 4000 in
theorem cm_voT_115 {E : En} (hok : EOK E) {h : Hp} (hs : Shp h.2) (hw : Wf (mo h)) {k f : Nat} {late : Int32} (hk : k < nK (mo h)) (hf : f < nF (mo h)) {t : Nat} (ht : t < nT (mo h)) (ha : As h k (nI t) f late) : Fn E m_X12_valueOf 2 [vR MO, vI (nI 115)] h (vI (nI (nW (mo h) % 365))) := by
  have hNw : h.1 MO 2 = nI (nW (mo h)) := hw.w.1
  have hNwb := hw.w.2
  have hC : h.1 MO 30 = nI (nC (mo h)) := hw.c.1
  have hCb := hw.c.2
  have hK : h.1 MO 3 = nI (nK (mo h)) := hw.k.1
  have hKb := hw.k.2
  have hT : h.1 MO 4 = nI (nT (mo h)) := hw.t.1
  have hTb := hw.t.2
  have hF : h.1 MO 5 = nI (nF (mo h)) := hw.f.1
  have hFb := hw.f.2
  have hRc : h.1 MO 59 = nI (nR (mo h)) := hw.r.1
  have hRb := hw.r.2
  have hG : h.1 MO 60 = nI (nGf (mo h)) := hw.g.1
  have hGb := hw.g.2
  have hA : h.1 MO 70 = nI (nA (mo h)) := hw.a.1
  have hAb := hw.a.2
  have hTl : h.1 MO 1 = nI (nTl (mo h)) := hw.tl.1
  have hTlb := hw.tl.2
  refine Call.enter hok (by decide) (Nat.le_of_ble_eq_true rfl) ?_
  show G E m_X12_valueOf 2 0 0 _ h 0 [some (vR MO), some (vI (nI 115)), none] [] h 0 0
  refine g_iload_n (pc' := 1) dX12_valueOf_0 rfl rfl ?_
  refine g_invS (pc' := 4) (cm_any_115 hok) dX12_valueOf_1 rfl ml_X12_302 st_X12_isAnyOfToy in_X12 co_X12_isAnyOfToy pd_X12_isAnyOfToy rfl (by omega) (by decide) ⟨by decide, by decide⟩ (Nat.le_of_ble_eq_true rfl) ?_
  rintro _ _ ⟨rfl, rfl⟩ -
  refine g_if_eqN (tgt := 13) (pc' := 7) dX12_valueOf_4 rfl (by decide) (by decide) (fun _ => ?_) (fun q => False.elim (by revert q; decide))
  refine g_aload_n (pc' := 14) dX12_valueOf_13 rfl rfl ?_
  refine g_getIv (v := nI (f)) (pc' := 17) (k := 55) dX12_valueOf_14 rfl rfl ck_13 (by decide) fl_X12_384 rfl (ha.2.2.1) ?_
  refine g_istore_n (pc' := 18) dX12_valueOf_17 rfl (by decide) rfl ?_
  try simp only [List.set]
  refine g_iload_n (pc' := 19) dX12_valueOf_18 rfl rfl ?_
  refine g_tabIn (off := 133) (tgt := 152) dX12_valueOf_19 (by decide) (by decide) rfl (by decide) ?_
  refine g_aload_n (pc' := 153) dX12_valueOf_152 rfl rfl ?_
  refine g_getIv (v := nI (nW (mo h))) (pc' := 156) (k := 2) dX12_valueOf_153 rfl rfl ck_13 (by decide) fl_X12_219 rfl (hNw) ?_
  refine g_sipushN (n := 365) (pc' := 159) dX12_valueOf_156 rfl (by decide) ?_
  refine g_iremN (pc' := 160) dX12_valueOf_159 rfl (by omega) (by omega) (by omega) ?_
  refine g_iret dX12_valueOf_160 rfl (by decide) (by decide) ?_
  exact ⟨rfl, rfl⟩
set_option maxRecDepth 4000 in
theorem cm_voT_108 {E : En} (hok : EOK E) {h : Hp} (hs : Shp h.2) (hw : Wf (mo h)) {k f : Nat} {late : Int32} (hk : k < nK (mo h)) (hf : f < nF (mo h)) {t : Nat} (ht : t < nT (mo h)) (ha : As h k (nI t) f late) : Fn E m_X12_valueOf 2 [vR MO, vI (nI 108)] h (vI (late)) := by
  have hNw : h.1 MO 2 = nI (nW (mo h)) := hw.w.1
  have hNwb := hw.w.2
  have hC : h.1 MO 30 = nI (nC (mo h)) := hw.c.1
  have hCb := hw.c.2
  have hK : h.1 MO 3 = nI (nK (mo h)) := hw.k.1
  have hKb := hw.k.2
  have hT : h.1 MO 4 = nI (nT (mo h)) := hw.t.1
  have hTb := hw.t.2
  have hF : h.1 MO 5 = nI (nF (mo h)) := hw.f.1
  have hFb := hw.f.2
  have hRc : h.1 MO 59 = nI (nR (mo h)) := hw.r.1
  have hRb := hw.r.2
  have hG : h.1 MO 60 = nI (nGf (mo h)) := hw.g.1
  have hGb := hw.g.2
  have hA : h.1 MO 70 = nI (nA (mo h)) := hw.a.1
  have hAb := hw.a.2
  have hTl : h.1 MO 1 = nI (nTl (mo h)) := hw.tl.1
  have hTlb := hw.tl.2
  refine Call.enter hok (by decide) (Nat.le_of_ble_eq_true rfl) ?_
  show G E m_X12_valueOf 2 0 0 _ h 0 [some (vR MO), some (vI (nI 108)), none] [] h 0 0
  refine g_iload_n (pc' := 1) dX12_valueOf_0 rfl rfl ?_
  refine g_invS (pc' := 4) (cm_any_108 hok) dX12_valueOf_1 rfl ml_X12_302 st_X12_isAnyOfToy in_X12 co_X12_isAnyOfToy pd_X12_isAnyOfToy rfl (by omega) (by decide) ⟨by decide, by decide⟩ (Nat.le_of_ble_eq_true rfl) ?_
  rintro _ _ ⟨rfl, rfl⟩ -
  refine g_if_eqN (tgt := 13) (pc' := 7) dX12_valueOf_4 rfl (by decide) (by decide) (fun _ => ?_) (fun q => False.elim (by revert q; decide))
  refine g_aload_n (pc' := 14) dX12_valueOf_13 rfl rfl ?_
  refine g_getIv (v := nI (f)) (pc' := 17) (k := 55) dX12_valueOf_14 rfl rfl ck_13 (by decide) fl_X12_384 rfl (ha.2.2.1) ?_
  refine g_istore_n (pc' := 18) dX12_valueOf_17 rfl (by decide) rfl ?_
  try simp only [List.set]
  refine g_iload_n (pc' := 19) dX12_valueOf_18 rfl rfl ?_
  refine g_tabIn (off := 142) (tgt := 161) dX12_valueOf_19 (by decide) (by decide) rfl (by decide) ?_
  refine g_aload_n (pc' := 162) dX12_valueOf_161 rfl rfl ?_
  refine g_getIv (v := late) (pc' := 165) (k := 56) dX12_valueOf_162 rfl rfl ck_13 (by decide) fl_X12_387 rfl (ha.2.2.2) ?_
  refine g_iret dX12_valueOf_165 rfl (by decide) (by decide) ?_
  exact ⟨rfl, rfl⟩
set_option maxRecDepth 4000 in
theorem cm_voT_113 {E : En} (hok : EOK E) {h : Hp} (hs : Shp h.2) (hw : Wf (mo h)) {k f : Nat} {late : Int32} (hk : k < nK (mo h)) (hf : f < nF (mo h)) {t : Nat} (ht : t < nT (mo h)) (ha : As h k (nI t) f late) : Fn E m_X12_valueOf 2 [vR MO, vI (nI 113)] h (vI (cif (mo h 186 (8 * f + k) = -1) 0 (mo h 1 2 - mo h 186 (8 * f + k)))) := by
  have hNw : h.1 MO 2 = nI (nW (mo h)) := hw.w.1
  have hNwb := hw.w.2
  have hC : h.1 MO 30 = nI (nC (mo h)) := hw.c.1
  have hCb := hw.c.2
  have hK : h.1 MO 3 = nI (nK (mo h)) := hw.k.1
  have hKb := hw.k.2
  have hT : h.1 MO 4 = nI (nT (mo h)) := hw.t.1
  have hTb := hw.t.2
  have hF : h.1 MO 5 = nI (nF (mo h)) := hw.f.1
  have hFb := hw.f.2
  have hRc : h.1 MO 59 = nI (nR (mo h)) := hw.r.1
  have hRb := hw.r.2
  have hG : h.1 MO 60 = nI (nGf (mo h)) := hw.g.1
  have hGb := hw.g.2
  have hA : h.1 MO 70 = nI (nA (mo h)) := hw.a.1
  have hAb := hw.a.2
  have hTl : h.1 MO 1 = nI (nTl (mo h)) := hw.tl.1
  have hTlb := hw.tl.2
  refine Call.enter hok (by decide) (Nat.le_of_ble_eq_true rfl) ?_
  show G E m_X12_valueOf 2 0 0 _ h 0 [some (vR MO), some (vI (nI 113)), none] [] h 0 0
  refine g_iload_n (pc' := 1) dX12_valueOf_0 rfl rfl ?_
  refine g_invS (pc' := 4) (cm_any_113 hok) dX12_valueOf_1 rfl ml_X12_302 st_X12_isAnyOfToy in_X12 co_X12_isAnyOfToy pd_X12_isAnyOfToy rfl (by omega) (by decide) ⟨by decide, by decide⟩ (Nat.le_of_ble_eq_true rfl) ?_
  rintro _ _ ⟨rfl, rfl⟩ -
  refine g_if_eqN (tgt := 13) (pc' := 7) dX12_valueOf_4 rfl (by decide) (by decide) (fun _ => ?_) (fun q => False.elim (by revert q; decide))
  refine g_aload_n (pc' := 14) dX12_valueOf_13 rfl rfl ?_
  refine g_getIv (v := nI (f)) (pc' := 17) (k := 55) dX12_valueOf_14 rfl rfl ck_13 (by decide) fl_X12_384 rfl (ha.2.2.1) ?_
  refine g_istore_n (pc' := 18) dX12_valueOf_17 rfl (by decide) rfl ?_
  try simp only [List.set]
  refine g_iload_n (pc' := 19) dX12_valueOf_18 rfl rfl ?_
  refine g_tabIn (off := 147) (tgt := 166) dX12_valueOf_19 (by decide) (by decide) rfl (by decide) ?_
  refine g_aload_n (pc' := 167) dX12_valueOf_166 rfl rfl ?_
  refine g_getS (pc' := 170) (k := 86) (b := (186, 0)) dX12_valueOf_167 rfl rfl ck_13 (by decide) fl_X12_183 rfl hs rfl ?_
  refine g_bipushN (n := 8) (pc' := 172) dX12_valueOf_170 rfl (by decide) ?_
  refine g_iload_n (pc' := 173) dX12_valueOf_172 rfl rfl ?_
  refine g_imulN (pc' := 174) dX12_valueOf_173 rfl ?_
  refine g_aload_n (pc' := 175) dX12_valueOf_174 rfl rfl ?_
  refine g_getIv (v := nI (k)) (pc' := 178) (k := 53) dX12_valueOf_175 rfl rfl ck_13 (by decide) fl_X12_378 rfl (ha.1) ?_
  refine g_iaddN (pc' := 179) dX12_valueOf_178 rfl ?_
  refine g_ialdN (pc' := 180) (v := _) dX12_valueOf_179 rfl rfl (by decide) (by omega) (rfl) ?_
  refine g_iconst (v := -1) (pc' := 181) dX12_valueOf_180 rfl (by decide) ?_
  refine g_icmp_ne (tgt := 188) (pc' := 184) dX12_valueOf_181 rfl (by decide) (fun c181 => ?_) (fun c181 => ?_)
  ·
    refine g_aload_n (pc' := 189) dX12_valueOf_188 rfl rfl ?_
    refine g_getI (pc' := 192) (k := 2) dX12_valueOf_189 rfl rfl ck_13 (by decide) fl_X12_219 rfl ?_
    refine g_aload_n (pc' := 193) dX12_valueOf_192 rfl rfl ?_
    refine g_getS (pc' := 196) (k := 86) (b := (186, 0)) dX12_valueOf_193 rfl rfl ck_13 (by decide) fl_X12_183 rfl hs rfl ?_
    refine g_bipushN (n := 8) (pc' := 198) dX12_valueOf_196 rfl (by decide) ?_
    refine g_iload_n (pc' := 199) dX12_valueOf_198 rfl rfl ?_
    refine g_imulN (pc' := 200) dX12_valueOf_199 rfl ?_
    refine g_aload_n (pc' := 201) dX12_valueOf_200 rfl rfl ?_
    refine g_getIv (v := nI (k)) (pc' := 204) (k := 53) dX12_valueOf_201 rfl rfl ck_13 (by decide) fl_X12_378 rfl (ha.1) ?_
    refine g_iaddN (pc' := 205) dX12_valueOf_204 rfl ?_
    refine g_ialdN (pc' := 206) (v := _) dX12_valueOf_205 rfl rfl (by decide) (by omega) (rfl) ?_
    refine g_isub (pc' := 207) dX12_valueOf_206 rfl ?_
    refine g_iret dX12_valueOf_207 rfl (by decide) (by decide) ?_
    exact ⟨congrArg (fun z : Int32 => some (vI z)) (cif_f c181).symm, rfl⟩
  ·
    refine g_iconstN (n := 0) (pc' := 185) dX12_valueOf_184 rfl ?_
    refine g_goto (tgt := 207) dX12_valueOf_185 (by decide) ?_
    refine g_iret dX12_valueOf_207 rfl (by decide) (by decide) ?_
    exact ⟨congrArg (fun z : Int32 => some (vI z)) (cif_t c181).symm, rfl⟩
set_option maxRecDepth 4000 in
theorem cm_voT_99 {E : En} (hok : EOK E) {h : Hp} (hs : Shp h.2) (hw : Wf (mo h)) {k f : Nat} {late : Int32} (hk : k < nK (mo h)) (hf : f < nF (mo h)) {t : Nat} (ht : t < nT (mo h)) (ha : As h k (nI t) f late) : Fn E m_X12_valueOf 2 [vR MO, vI (nI 99)] h (vI (nI (wfr (mo h) k))) := by
  have hNw : h.1 MO 2 = nI (nW (mo h)) := hw.w.1
  have hNwb := hw.w.2
  have hC : h.1 MO 30 = nI (nC (mo h)) := hw.c.1
  have hCb := hw.c.2
  have hK : h.1 MO 3 = nI (nK (mo h)) := hw.k.1
  have hKb := hw.k.2
  have hT : h.1 MO 4 = nI (nT (mo h)) := hw.t.1
  have hTb := hw.t.2
  have hF : h.1 MO 5 = nI (nF (mo h)) := hw.f.1
  have hFb := hw.f.2
  have hRc : h.1 MO 59 = nI (nR (mo h)) := hw.r.1
  have hRb := hw.r.2
  have hG : h.1 MO 60 = nI (nGf (mo h)) := hw.g.1
  have hGb := hw.g.2
  have hA : h.1 MO 70 = nI (nA (mo h)) := hw.a.1
  have hAb := hw.a.2
  have hTl : h.1 MO 1 = nI (nTl (mo h)) := hw.tl.1
  have hTlb := hw.tl.2
  refine Call.enter hok (by decide) (Nat.le_of_ble_eq_true rfl) ?_
  show G E m_X12_valueOf 2 0 0 _ h 0 [some (vR MO), some (vI (nI 99)), none] [] h 0 0
  refine g_iload_n (pc' := 1) dX12_valueOf_0 rfl rfl ?_
  refine g_invS (pc' := 4) (cm_any_99 hok) dX12_valueOf_1 rfl ml_X12_302 st_X12_isAnyOfToy in_X12 co_X12_isAnyOfToy pd_X12_isAnyOfToy rfl (by omega) (by decide) ⟨by decide, by decide⟩ (Nat.le_of_ble_eq_true rfl) ?_
  rintro _ _ ⟨rfl, rfl⟩ -
  refine g_if_eqN (tgt := 13) (pc' := 7) dX12_valueOf_4 rfl (by decide) (by decide) (fun _ => ?_) (fun q => False.elim (by revert q; decide))
  refine g_aload_n (pc' := 14) dX12_valueOf_13 rfl rfl ?_
  refine g_getIv (v := nI (f)) (pc' := 17) (k := 55) dX12_valueOf_14 rfl rfl ck_13 (by decide) fl_X12_384 rfl (ha.2.2.1) ?_
  refine g_istore_n (pc' := 18) dX12_valueOf_17 rfl (by decide) rfl ?_
  try simp only [List.set]
  refine g_iload_n (pc' := 19) dX12_valueOf_18 rfl rfl ?_
  refine g_tabOut (tgt := 208) dX12_valueOf_19 (by decide) (by decide) ?_
  refine g_aload_n (pc' := 209) dX12_valueOf_208 rfl rfl ?_
  refine g_aload_n (pc' := 210) dX12_valueOf_209 rfl rfl ?_
  refine g_getIv (v := nI (k)) (pc' := 213) (k := 53) dX12_valueOf_210 rfl rfl ck_13 (by decide) fl_X12_378 rfl (ha.1) ?_
  refine g_invV (pc' := 216) (cm_waitingFor hok hs hw (k := k) (by omega)) dX12_valueOf_213 rfl rfl ck_13 rfl ml_X12_400 im_X12_waitingFor sl_X12_waitingFor in_X12 co_X12_waitingFor pd_X12_waitingFor rfl (by omega) (by decide) ⟨by decide, by decide⟩ (Nat.le_of_ble_eq_true rfl) ?_
  rintro _ _ ⟨rfl, rfl⟩ -
  refine g_iret dX12_valueOf_216 rfl (by decide) (by decide) ?_
  exact ⟨rfl, rfl⟩
set_option maxRecDepth 4000 in
theorem cm_voN_107 {E : En} (hok : EOK E) {h : Hp} (hs : Shp h.2) (hw : Wf (mo h)) {k f : Nat} {late : Int32} (hk : k < nK (mo h)) (hf : f < nF (mo h)) (ha : As h k (-1) f late) : Fn E m_X12_valueOf 2 [vR MO, vI (nI 107)] h (vI (nI k)) := by
  have hNw : h.1 MO 2 = nI (nW (mo h)) := hw.w.1
  have hNwb := hw.w.2
  have hC : h.1 MO 30 = nI (nC (mo h)) := hw.c.1
  have hCb := hw.c.2
  have hK : h.1 MO 3 = nI (nK (mo h)) := hw.k.1
  have hKb := hw.k.2
  have hT : h.1 MO 4 = nI (nT (mo h)) := hw.t.1
  have hTb := hw.t.2
  have hF : h.1 MO 5 = nI (nF (mo h)) := hw.f.1
  have hFb := hw.f.2
  have hRc : h.1 MO 59 = nI (nR (mo h)) := hw.r.1
  have hRb := hw.r.2
  have hG : h.1 MO 60 = nI (nGf (mo h)) := hw.g.1
  have hGb := hw.g.2
  have hA : h.1 MO 70 = nI (nA (mo h)) := hw.a.1
  have hAb := hw.a.2
  have hTl : h.1 MO 1 = nI (nTl (mo h)) := hw.tl.1
  have hTlb := hw.tl.2
  refine Call.enter hok (by decide) (Nat.le_of_ble_eq_true rfl) ?_
  show G E m_X12_valueOf 2 0 0 _ h 0 [some (vR MO), some (vI (nI 107)), none] [] h 0 0
  refine g_iload_n (pc' := 1) dX12_valueOf_0 rfl rfl ?_
  refine g_invS (pc' := 4) (cm_any_107 hok) dX12_valueOf_1 rfl ml_X12_302 st_X12_isAnyOfToy in_X12 co_X12_isAnyOfToy pd_X12_isAnyOfToy rfl (by omega) (by decide) ⟨by decide, by decide⟩ (Nat.le_of_ble_eq_true rfl) ?_
  rintro _ _ ⟨rfl, rfl⟩ -
  refine g_if_eqN (tgt := 13) (pc' := 7) dX12_valueOf_4 rfl (by decide) (by decide) (fun q => False.elim (by revert q; decide)) (fun _ => ?_)
  refine g_aload_n (pc' := 8) dX12_valueOf_7 rfl rfl ?_
  refine g_iload_n (pc' := 9) dX12_valueOf_8 rfl rfl ?_
  refine g_invV (pc' := 12) (cm_vtN_107 hok hs hw hk hf ha) dX12_valueOf_9 rfl rfl ck_13 rfl ml_X12_394 im_X12_valueOfToy sl_X12_valueOfToy in_X12 co_X12_valueOfToy pd_X12_valueOfToy rfl (by omega) (by decide) ⟨by decide, by decide⟩ (Nat.le_of_ble_eq_true rfl) ?_
  rintro _ _ ⟨rfl, rfl⟩ -
  refine g_iret dX12_valueOf_12 rfl (by decide) (by decide) ?_
  exact ⟨rfl, rfl⟩
set_option maxRecDepth 4000 in
theorem cm_voN_97 {E : En} (hok : EOK E) {h : Hp} (hs : Shp h.2) (hw : Wf (mo h)) {k f : Nat} {late : Int32} (hk : k < nK (mo h)) (hf : f < nF (mo h)) (ha : As h k (-1) f late) : Fn E m_X12_valueOf 2 [vR MO, vI (nI 97)] h (vI (mo h 108 k)) := by
  have hNw : h.1 MO 2 = nI (nW (mo h)) := hw.w.1
  have hNwb := hw.w.2
  have hC : h.1 MO 30 = nI (nC (mo h)) := hw.c.1
  have hCb := hw.c.2
  have hK : h.1 MO 3 = nI (nK (mo h)) := hw.k.1
  have hKb := hw.k.2
  have hT : h.1 MO 4 = nI (nT (mo h)) := hw.t.1
  have hTb := hw.t.2
  have hF : h.1 MO 5 = nI (nF (mo h)) := hw.f.1
  have hFb := hw.f.2
  have hRc : h.1 MO 59 = nI (nR (mo h)) := hw.r.1
  have hRb := hw.r.2
  have hG : h.1 MO 60 = nI (nGf (mo h)) := hw.g.1
  have hGb := hw.g.2
  have hA : h.1 MO 70 = nI (nA (mo h)) := hw.a.1
  have hAb := hw.a.2
  have hTl : h.1 MO 1 = nI (nTl (mo h)) := hw.tl.1
  have hTlb := hw.tl.2
  refine Call.enter hok (by decide) (Nat.le_of_ble_eq_true rfl) ?_
  show G E m_X12_valueOf 2 0 0 _ h 0 [some (vR MO), some (vI (nI 97)), none] [] h 0 0
  refine g_iload_n (pc' := 1) dX12_valueOf_0 rfl rfl ?_
  refine g_invS (pc' := 4) (cm_any_97 hok) dX12_valueOf_1 rfl ml_X12_302 st_X12_isAnyOfToy in_X12 co_X12_isAnyOfToy pd_X12_isAnyOfToy rfl (by omega) (by decide) ⟨by decide, by decide⟩ (Nat.le_of_ble_eq_true rfl) ?_
  rintro _ _ ⟨rfl, rfl⟩ -
  refine g_if_eqN (tgt := 13) (pc' := 7) dX12_valueOf_4 rfl (by decide) (by decide) (fun q => False.elim (by revert q; decide)) (fun _ => ?_)
  refine g_aload_n (pc' := 8) dX12_valueOf_7 rfl rfl ?_
  refine g_iload_n (pc' := 9) dX12_valueOf_8 rfl rfl ?_
  refine g_invV (pc' := 12) (cm_vtN_97 hok hs hw hk hf ha) dX12_valueOf_9 rfl rfl ck_13 rfl ml_X12_394 im_X12_valueOfToy sl_X12_valueOfToy in_X12 co_X12_valueOfToy pd_X12_valueOfToy rfl (by omega) (by decide) ⟨by decide, by decide⟩ (Nat.le_of_ble_eq_true rfl) ?_
  rintro _ _ ⟨rfl, rfl⟩ -
  refine g_iret dX12_valueOf_12 rfl (by decide) (by decide) ?_
  exact ⟨rfl, rfl⟩
set_option maxRecDepth 4000 in
theorem cm_voN_112 {E : En} (hok : EOK E) {h : Hp} (hs : Shp h.2) (hw : Wf (mo h)) {k f : Nat} {late : Int32} (hk : k < nK (mo h)) (hf : f < nF (mo h)) (ha : As h k (-1) f late) : Fn E m_X12_valueOf 2 [vR MO, vI (nI 112)] h (vI (mo h 109 k)) := by
  have hNw : h.1 MO 2 = nI (nW (mo h)) := hw.w.1
  have hNwb := hw.w.2
  have hC : h.1 MO 30 = nI (nC (mo h)) := hw.c.1
  have hCb := hw.c.2
  have hK : h.1 MO 3 = nI (nK (mo h)) := hw.k.1
  have hKb := hw.k.2
  have hT : h.1 MO 4 = nI (nT (mo h)) := hw.t.1
  have hTb := hw.t.2
  have hF : h.1 MO 5 = nI (nF (mo h)) := hw.f.1
  have hFb := hw.f.2
  have hRc : h.1 MO 59 = nI (nR (mo h)) := hw.r.1
  have hRb := hw.r.2
  have hG : h.1 MO 60 = nI (nGf (mo h)) := hw.g.1
  have hGb := hw.g.2
  have hA : h.1 MO 70 = nI (nA (mo h)) := hw.a.1
  have hAb := hw.a.2
  have hTl : h.1 MO 1 = nI (nTl (mo h)) := hw.tl.1
  have hTlb := hw.tl.2
  refine Call.enter hok (by decide) (Nat.le_of_ble_eq_true rfl) ?_
  show G E m_X12_valueOf 2 0 0 _ h 0 [some (vR MO), some (vI (nI 112)), none] [] h 0 0
  refine g_iload_n (pc' := 1) dX12_valueOf_0 rfl rfl ?_
  refine g_invS (pc' := 4) (cm_any_112 hok) dX12_valueOf_1 rfl ml_X12_302 st_X12_isAnyOfToy in_X12 co_X12_isAnyOfToy pd_X12_isAnyOfToy rfl (by omega) (by decide) ⟨by decide, by decide⟩ (Nat.le_of_ble_eq_true rfl) ?_
  rintro _ _ ⟨rfl, rfl⟩ -
  refine g_if_eqN (tgt := 13) (pc' := 7) dX12_valueOf_4 rfl (by decide) (by decide) (fun q => False.elim (by revert q; decide)) (fun _ => ?_)
  refine g_aload_n (pc' := 8) dX12_valueOf_7 rfl rfl ?_
  refine g_iload_n (pc' := 9) dX12_valueOf_8 rfl rfl ?_
  refine g_invV (pc' := 12) (cm_vtN_112 hok hs hw hk hf ha) dX12_valueOf_9 rfl rfl ck_13 rfl ml_X12_394 im_X12_valueOfToy sl_X12_valueOfToy in_X12 co_X12_valueOfToy pd_X12_valueOfToy rfl (by omega) (by decide) ⟨by decide, by decide⟩ (Nat.le_of_ble_eq_true rfl) ?_
  rintro _ _ ⟨rfl, rfl⟩ -
  refine g_iret dX12_valueOf_12 rfl (by decide) (by decide) ?_
  exact ⟨rfl, rfl⟩
set_option maxRecDepth 4000 in
theorem cm_voN_122 {E : En} (hok : EOK E) {h : Hp} (hs : Shp h.2) (hw : Wf (mo h)) {k f : Nat} {late : Int32} (hk : k < nK (mo h)) (hf : f < nF (mo h)) (ha : As h k (-1) f late) : Fn E m_X12_valueOf 2 [vR MO, vI (nI 122)] h (vI (mo h 110 k)) := by
  have hNw : h.1 MO 2 = nI (nW (mo h)) := hw.w.1
  have hNwb := hw.w.2
  have hC : h.1 MO 30 = nI (nC (mo h)) := hw.c.1
  have hCb := hw.c.2
  have hK : h.1 MO 3 = nI (nK (mo h)) := hw.k.1
  have hKb := hw.k.2
  have hT : h.1 MO 4 = nI (nT (mo h)) := hw.t.1
  have hTb := hw.t.2
  have hF : h.1 MO 5 = nI (nF (mo h)) := hw.f.1
  have hFb := hw.f.2
  have hRc : h.1 MO 59 = nI (nR (mo h)) := hw.r.1
  have hRb := hw.r.2
  have hG : h.1 MO 60 = nI (nGf (mo h)) := hw.g.1
  have hGb := hw.g.2
  have hA : h.1 MO 70 = nI (nA (mo h)) := hw.a.1
  have hAb := hw.a.2
  have hTl : h.1 MO 1 = nI (nTl (mo h)) := hw.tl.1
  have hTlb := hw.tl.2
  refine Call.enter hok (by decide) (Nat.le_of_ble_eq_true rfl) ?_
  show G E m_X12_valueOf 2 0 0 _ h 0 [some (vR MO), some (vI (nI 122)), none] [] h 0 0
  refine g_iload_n (pc' := 1) dX12_valueOf_0 rfl rfl ?_
  refine g_invS (pc' := 4) (cm_any_122 hok) dX12_valueOf_1 rfl ml_X12_302 st_X12_isAnyOfToy in_X12 co_X12_isAnyOfToy pd_X12_isAnyOfToy rfl (by omega) (by decide) ⟨by decide, by decide⟩ (Nat.le_of_ble_eq_true rfl) ?_
  rintro _ _ ⟨rfl, rfl⟩ -
  refine g_if_eqN (tgt := 13) (pc' := 7) dX12_valueOf_4 rfl (by decide) (by decide) (fun q => False.elim (by revert q; decide)) (fun _ => ?_)
  refine g_aload_n (pc' := 8) dX12_valueOf_7 rfl rfl ?_
  refine g_iload_n (pc' := 9) dX12_valueOf_8 rfl rfl ?_
  refine g_invV (pc' := 12) (cm_vtN_122 hok hs hw hk hf ha) dX12_valueOf_9 rfl rfl ck_13 rfl ml_X12_394 im_X12_valueOfToy sl_X12_valueOfToy in_X12 co_X12_valueOfToy pd_X12_valueOfToy rfl (by omega) (by decide) ⟨by decide, by decide⟩ (Nat.le_of_ble_eq_true rfl) ?_
  rintro _ _ ⟨rfl, rfl⟩ -
  refine g_iret dX12_valueOf_12 rfl (by decide) (by decide) ?_
  exact ⟨rfl, rfl⟩
set_option maxRecDepth 4000 in
theorem cm_voN_119 {E : En} (hok : EOK E) {h : Hp} (hs : Shp h.2) (hw : Wf (mo h)) {k f : Nat} {late : Int32} (hk : k < nK (mo h)) (hf : f < nF (mo h)) (ha : As h k (-1) f late) : Fn E m_X12_valueOf 2 [vR MO, vI (nI 119)] h (vI (0)) := by
  have hNw : h.1 MO 2 = nI (nW (mo h)) := hw.w.1
  have hNwb := hw.w.2
  have hC : h.1 MO 30 = nI (nC (mo h)) := hw.c.1
  have hCb := hw.c.2
  have hK : h.1 MO 3 = nI (nK (mo h)) := hw.k.1
  have hKb := hw.k.2
  have hT : h.1 MO 4 = nI (nT (mo h)) := hw.t.1
  have hTb := hw.t.2
  have hF : h.1 MO 5 = nI (nF (mo h)) := hw.f.1
  have hFb := hw.f.2
  have hRc : h.1 MO 59 = nI (nR (mo h)) := hw.r.1
  have hRb := hw.r.2
  have hG : h.1 MO 60 = nI (nGf (mo h)) := hw.g.1
  have hGb := hw.g.2
  have hA : h.1 MO 70 = nI (nA (mo h)) := hw.a.1
  have hAb := hw.a.2
  have hTl : h.1 MO 1 = nI (nTl (mo h)) := hw.tl.1
  have hTlb := hw.tl.2
  refine Call.enter hok (by decide) (Nat.le_of_ble_eq_true rfl) ?_
  show G E m_X12_valueOf 2 0 0 _ h 0 [some (vR MO), some (vI (nI 119)), none] [] h 0 0
  refine g_iload_n (pc' := 1) dX12_valueOf_0 rfl rfl ?_
  refine g_invS (pc' := 4) (cm_any_119 hok) dX12_valueOf_1 rfl ml_X12_302 st_X12_isAnyOfToy in_X12 co_X12_isAnyOfToy pd_X12_isAnyOfToy rfl (by omega) (by decide) ⟨by decide, by decide⟩ (Nat.le_of_ble_eq_true rfl) ?_
  rintro _ _ ⟨rfl, rfl⟩ -
  refine g_if_eqN (tgt := 13) (pc' := 7) dX12_valueOf_4 rfl (by decide) (by decide) (fun q => False.elim (by revert q; decide)) (fun _ => ?_)
  refine g_aload_n (pc' := 8) dX12_valueOf_7 rfl rfl ?_
  refine g_iload_n (pc' := 9) dX12_valueOf_8 rfl rfl ?_
  refine g_invV (pc' := 12) (cm_vtN_119 hok hs hw hk hf ha) dX12_valueOf_9 rfl rfl ck_13 rfl ml_X12_394 im_X12_valueOfToy sl_X12_valueOfToy in_X12 co_X12_valueOfToy pd_X12_valueOfToy rfl (by omega) (by decide) ⟨by decide, by decide⟩ (Nat.le_of_ble_eq_true rfl) ?_
  rintro _ _ ⟨rfl, rfl⟩ -
  refine g_iret dX12_valueOf_12 rfl (by decide) (by decide) ?_
  exact ⟨rfl, rfl⟩
set_option maxRecDepth 4000 in
theorem cm_voN_109 {E : En} (hok : EOK E) {h : Hp} (hs : Shp h.2) (hw : Wf (mo h)) {k f : Nat} {late : Int32} (hk : k < nK (mo h)) (hf : f < nF (mo h)) (ha : As h k (-1) f late) : Fn E m_X12_valueOf 2 [vR MO, vI (nI 109)] h (vI (0)) := by
  have hNw : h.1 MO 2 = nI (nW (mo h)) := hw.w.1
  have hNwb := hw.w.2
  have hC : h.1 MO 30 = nI (nC (mo h)) := hw.c.1
  have hCb := hw.c.2
  have hK : h.1 MO 3 = nI (nK (mo h)) := hw.k.1
  have hKb := hw.k.2
  have hT : h.1 MO 4 = nI (nT (mo h)) := hw.t.1
  have hTb := hw.t.2
  have hF : h.1 MO 5 = nI (nF (mo h)) := hw.f.1
  have hFb := hw.f.2
  have hRc : h.1 MO 59 = nI (nR (mo h)) := hw.r.1
  have hRb := hw.r.2
  have hG : h.1 MO 60 = nI (nGf (mo h)) := hw.g.1
  have hGb := hw.g.2
  have hA : h.1 MO 70 = nI (nA (mo h)) := hw.a.1
  have hAb := hw.a.2
  have hTl : h.1 MO 1 = nI (nTl (mo h)) := hw.tl.1
  have hTlb := hw.tl.2
  refine Call.enter hok (by decide) (Nat.le_of_ble_eq_true rfl) ?_
  show G E m_X12_valueOf 2 0 0 _ h 0 [some (vR MO), some (vI (nI 109)), none] [] h 0 0
  refine g_iload_n (pc' := 1) dX12_valueOf_0 rfl rfl ?_
  refine g_invS (pc' := 4) (cm_any_109 hok) dX12_valueOf_1 rfl ml_X12_302 st_X12_isAnyOfToy in_X12 co_X12_isAnyOfToy pd_X12_isAnyOfToy rfl (by omega) (by decide) ⟨by decide, by decide⟩ (Nat.le_of_ble_eq_true rfl) ?_
  rintro _ _ ⟨rfl, rfl⟩ -
  refine g_if_eqN (tgt := 13) (pc' := 7) dX12_valueOf_4 rfl (by decide) (by decide) (fun q => False.elim (by revert q; decide)) (fun _ => ?_)
  refine g_aload_n (pc' := 8) dX12_valueOf_7 rfl rfl ?_
  refine g_iload_n (pc' := 9) dX12_valueOf_8 rfl rfl ?_
  refine g_invV (pc' := 12) (cm_vtN_109 hok hs hw hk hf ha) dX12_valueOf_9 rfl rfl ck_13 rfl ml_X12_394 im_X12_valueOfToy sl_X12_valueOfToy in_X12 co_X12_valueOfToy pd_X12_valueOfToy rfl (by omega) (by decide) ⟨by decide, by decide⟩ (Nat.le_of_ble_eq_true rfl) ?_
  rintro _ _ ⟨rfl, rfl⟩ -
  refine g_iret dX12_valueOf_12 rfl (by decide) (by decide) ?_
  exact ⟨rfl, rfl⟩
set_option maxRecDepth 4000 in
theorem cm_voN_116 {E : En} (hok : EOK E) {h : Hp} (hs : Shp h.2) (hw : Wf (mo h)) {k f : Nat} {late : Int32} (hk : k < nK (mo h)) (hf : f < nF (mo h)) (ha : As h k (-1) f late) : Fn E m_X12_valueOf 2 [vR MO, vI (nI 116)] h (vI (0)) := by
  have hNw : h.1 MO 2 = nI (nW (mo h)) := hw.w.1
  have hNwb := hw.w.2
  have hC : h.1 MO 30 = nI (nC (mo h)) := hw.c.1
  have hCb := hw.c.2
  have hK : h.1 MO 3 = nI (nK (mo h)) := hw.k.1
  have hKb := hw.k.2
  have hT : h.1 MO 4 = nI (nT (mo h)) := hw.t.1
  have hTb := hw.t.2
  have hF : h.1 MO 5 = nI (nF (mo h)) := hw.f.1
  have hFb := hw.f.2
  have hRc : h.1 MO 59 = nI (nR (mo h)) := hw.r.1
  have hRb := hw.r.2
  have hG : h.1 MO 60 = nI (nGf (mo h)) := hw.g.1
  have hGb := hw.g.2
  have hA : h.1 MO 70 = nI (nA (mo h)) := hw.a.1
  have hAb := hw.a.2
  have hTl : h.1 MO 1 = nI (nTl (mo h)) := hw.tl.1
  have hTlb := hw.tl.2
  refine Call.enter hok (by decide) (Nat.le_of_ble_eq_true rfl) ?_
  show G E m_X12_valueOf 2 0 0 _ h 0 [some (vR MO), some (vI (nI 116)), none] [] h 0 0
  refine g_iload_n (pc' := 1) dX12_valueOf_0 rfl rfl ?_
  refine g_invS (pc' := 4) (cm_any_116 hok) dX12_valueOf_1 rfl ml_X12_302 st_X12_isAnyOfToy in_X12 co_X12_isAnyOfToy pd_X12_isAnyOfToy rfl (by omega) (by decide) ⟨by decide, by decide⟩ (Nat.le_of_ble_eq_true rfl) ?_
  rintro _ _ ⟨rfl, rfl⟩ -
  refine g_if_eqN (tgt := 13) (pc' := 7) dX12_valueOf_4 rfl (by decide) (by decide) (fun q => False.elim (by revert q; decide)) (fun _ => ?_)
  refine g_aload_n (pc' := 8) dX12_valueOf_7 rfl rfl ?_
  refine g_iload_n (pc' := 9) dX12_valueOf_8 rfl rfl ?_
  refine g_invV (pc' := 12) (cm_vtN_116 hok hs hw hk hf ha) dX12_valueOf_9 rfl rfl ck_13 rfl ml_X12_394 im_X12_valueOfToy sl_X12_valueOfToy in_X12 co_X12_valueOfToy pd_X12_valueOfToy rfl (by omega) (by decide) ⟨by decide, by decide⟩ (Nat.le_of_ble_eq_true rfl) ?_
  rintro _ _ ⟨rfl, rfl⟩ -
  refine g_iret dX12_valueOf_12 rfl (by decide) (by decide) ?_
  exact ⟨rfl, rfl⟩
set_option maxRecDepth 4000 in
theorem cm_voN_110 {E : En} (hok : EOK E) {h : Hp} (hs : Shp h.2) (hw : Wf (mo h)) {k f : Nat} {late : Int32} (hk : k < nK (mo h)) (hf : f < nF (mo h)) (ha : As h k (-1) f late) : Fn E m_X12_valueOf 2 [vR MO, vI (nI 110)] h (vI (0)) := by
  have hNw : h.1 MO 2 = nI (nW (mo h)) := hw.w.1
  have hNwb := hw.w.2
  have hC : h.1 MO 30 = nI (nC (mo h)) := hw.c.1
  have hCb := hw.c.2
  have hK : h.1 MO 3 = nI (nK (mo h)) := hw.k.1
  have hKb := hw.k.2
  have hT : h.1 MO 4 = nI (nT (mo h)) := hw.t.1
  have hTb := hw.t.2
  have hF : h.1 MO 5 = nI (nF (mo h)) := hw.f.1
  have hFb := hw.f.2
  have hRc : h.1 MO 59 = nI (nR (mo h)) := hw.r.1
  have hRb := hw.r.2
  have hG : h.1 MO 60 = nI (nGf (mo h)) := hw.g.1
  have hGb := hw.g.2
  have hA : h.1 MO 70 = nI (nA (mo h)) := hw.a.1
  have hAb := hw.a.2
  have hTl : h.1 MO 1 = nI (nTl (mo h)) := hw.tl.1
  have hTlb := hw.tl.2
  refine Call.enter hok (by decide) (Nat.le_of_ble_eq_true rfl) ?_
  show G E m_X12_valueOf 2 0 0 _ h 0 [some (vR MO), some (vI (nI 110)), none] [] h 0 0
  refine g_iload_n (pc' := 1) dX12_valueOf_0 rfl rfl ?_
  refine g_invS (pc' := 4) (cm_any_110 hok) dX12_valueOf_1 rfl ml_X12_302 st_X12_isAnyOfToy in_X12 co_X12_isAnyOfToy pd_X12_isAnyOfToy rfl (by omega) (by decide) ⟨by decide, by decide⟩ (Nat.le_of_ble_eq_true rfl) ?_
  rintro _ _ ⟨rfl, rfl⟩ -
  refine g_if_eqN (tgt := 13) (pc' := 7) dX12_valueOf_4 rfl (by decide) (by decide) (fun q => False.elim (by revert q; decide)) (fun _ => ?_)
  refine g_aload_n (pc' := 8) dX12_valueOf_7 rfl rfl ?_
  refine g_iload_n (pc' := 9) dX12_valueOf_8 rfl rfl ?_
  refine g_invV (pc' := 12) (cm_vtN_110 hok hs hw hk hf ha) dX12_valueOf_9 rfl rfl ck_13 rfl ml_X12_394 im_X12_valueOfToy sl_X12_valueOfToy in_X12 co_X12_valueOfToy pd_X12_valueOfToy rfl (by omega) (by decide) ⟨by decide, by decide⟩ (Nat.le_of_ble_eq_true rfl) ?_
  rintro _ _ ⟨rfl, rfl⟩ -
  refine g_iret dX12_valueOf_12 rfl (by decide) (by decide) ?_
  exact ⟨rfl, rfl⟩
set_option maxRecDepth 4000 in
theorem cm_voN_121 {E : En} (hok : EOK E) {h : Hp} (hs : Shp h.2) (hw : Wf (mo h)) {k f : Nat} {late : Int32} (hk : k < nK (mo h)) (hf : f < nF (mo h)) (ha : As h k (-1) f late) : Fn E m_X12_valueOf 2 [vR MO, vI (nI 121)] h (vI (mo h 126 f)) := by
  have hNw : h.1 MO 2 = nI (nW (mo h)) := hw.w.1
  have hNwb := hw.w.2
  have hC : h.1 MO 30 = nI (nC (mo h)) := hw.c.1
  have hCb := hw.c.2
  have hK : h.1 MO 3 = nI (nK (mo h)) := hw.k.1
  have hKb := hw.k.2
  have hT : h.1 MO 4 = nI (nT (mo h)) := hw.t.1
  have hTb := hw.t.2
  have hF : h.1 MO 5 = nI (nF (mo h)) := hw.f.1
  have hFb := hw.f.2
  have hRc : h.1 MO 59 = nI (nR (mo h)) := hw.r.1
  have hRb := hw.r.2
  have hG : h.1 MO 60 = nI (nGf (mo h)) := hw.g.1
  have hGb := hw.g.2
  have hA : h.1 MO 70 = nI (nA (mo h)) := hw.a.1
  have hAb := hw.a.2
  have hTl : h.1 MO 1 = nI (nTl (mo h)) := hw.tl.1
  have hTlb := hw.tl.2
  refine Call.enter hok (by decide) (Nat.le_of_ble_eq_true rfl) ?_
  show G E m_X12_valueOf 2 0 0 _ h 0 [some (vR MO), some (vI (nI 121)), none] [] h 0 0
  refine g_iload_n (pc' := 1) dX12_valueOf_0 rfl rfl ?_
  refine g_invS (pc' := 4) (cm_any_121 hok) dX12_valueOf_1 rfl ml_X12_302 st_X12_isAnyOfToy in_X12 co_X12_isAnyOfToy pd_X12_isAnyOfToy rfl (by omega) (by decide) ⟨by decide, by decide⟩ (Nat.le_of_ble_eq_true rfl) ?_
  rintro _ _ ⟨rfl, rfl⟩ -
  refine g_if_eqN (tgt := 13) (pc' := 7) dX12_valueOf_4 rfl (by decide) (by decide) (fun _ => ?_) (fun q => False.elim (by revert q; decide))
  refine g_aload_n (pc' := 14) dX12_valueOf_13 rfl rfl ?_
  refine g_getIv (v := nI (f)) (pc' := 17) (k := 55) dX12_valueOf_14 rfl rfl ck_13 (by decide) fl_X12_384 rfl (ha.2.2.1) ?_
  refine g_istore_n (pc' := 18) dX12_valueOf_17 rfl (by decide) rfl ?_
  try simp only [List.set]
  refine g_iload_n (pc' := 19) dX12_valueOf_18 rfl rfl ?_
  refine g_tabIn (off := 101) (tgt := 120) dX12_valueOf_19 (by decide) (by decide) rfl (by decide) ?_
  refine g_aload_n (pc' := 121) dX12_valueOf_120 rfl rfl ?_
  refine g_getS (pc' := 124) (k := 26) (b := (126, 0)) dX12_valueOf_121 rfl rfl ck_13 (by decide) fl_X12_69 rfl hs rfl ?_
  refine g_iload_n (pc' := 125) dX12_valueOf_124 rfl rfl ?_
  refine g_ialdN (pc' := 126) (v := _) dX12_valueOf_125 rfl rfl (by decide) (by omega) (rfl) ?_
  refine g_iret dX12_valueOf_126 rfl (by decide) (by decide) ?_
  exact ⟨rfl, rfl⟩
set_option maxRecDepth 4000 in
theorem cm_voN_101 {E : En} (hok : EOK E) {h : Hp} (hs : Shp h.2) (hw : Wf (mo h)) {k f : Nat} {late : Int32} (hk : k < nK (mo h)) (hf : f < nF (mo h)) (ha : As h k (-1) f late) : Fn E m_X12_valueOf 2 [vR MO, vI (nI 101)] h (vI (mo h 127 f)) := by
  have hNw : h.1 MO 2 = nI (nW (mo h)) := hw.w.1
  have hNwb := hw.w.2
  have hC : h.1 MO 30 = nI (nC (mo h)) := hw.c.1
  have hCb := hw.c.2
  have hK : h.1 MO 3 = nI (nK (mo h)) := hw.k.1
  have hKb := hw.k.2
  have hT : h.1 MO 4 = nI (nT (mo h)) := hw.t.1
  have hTb := hw.t.2
  have hF : h.1 MO 5 = nI (nF (mo h)) := hw.f.1
  have hFb := hw.f.2
  have hRc : h.1 MO 59 = nI (nR (mo h)) := hw.r.1
  have hRb := hw.r.2
  have hG : h.1 MO 60 = nI (nGf (mo h)) := hw.g.1
  have hGb := hw.g.2
  have hA : h.1 MO 70 = nI (nA (mo h)) := hw.a.1
  have hAb := hw.a.2
  have hTl : h.1 MO 1 = nI (nTl (mo h)) := hw.tl.1
  have hTlb := hw.tl.2
  refine Call.enter hok (by decide) (Nat.le_of_ble_eq_true rfl) ?_
  show G E m_X12_valueOf 2 0 0 _ h 0 [some (vR MO), some (vI (nI 101)), none] [] h 0 0
  refine g_iload_n (pc' := 1) dX12_valueOf_0 rfl rfl ?_
  refine g_invS (pc' := 4) (cm_any_101 hok) dX12_valueOf_1 rfl ml_X12_302 st_X12_isAnyOfToy in_X12 co_X12_isAnyOfToy pd_X12_isAnyOfToy rfl (by omega) (by decide) ⟨by decide, by decide⟩ (Nat.le_of_ble_eq_true rfl) ?_
  rintro _ _ ⟨rfl, rfl⟩ -
  refine g_if_eqN (tgt := 13) (pc' := 7) dX12_valueOf_4 rfl (by decide) (by decide) (fun _ => ?_) (fun q => False.elim (by revert q; decide))
  refine g_aload_n (pc' := 14) dX12_valueOf_13 rfl rfl ?_
  refine g_getIv (v := nI (f)) (pc' := 17) (k := 55) dX12_valueOf_14 rfl rfl ck_13 (by decide) fl_X12_384 rfl (ha.2.2.1) ?_
  refine g_istore_n (pc' := 18) dX12_valueOf_17 rfl (by decide) rfl ?_
  try simp only [List.set]
  refine g_iload_n (pc' := 19) dX12_valueOf_18 rfl rfl ?_
  refine g_tabIn (off := 108) (tgt := 127) dX12_valueOf_19 (by decide) (by decide) rfl (by decide) ?_
  refine g_aload_n (pc' := 128) dX12_valueOf_127 rfl rfl ?_
  refine g_getS (pc' := 131) (k := 27) (b := (127, 0)) dX12_valueOf_128 rfl rfl ck_13 (by decide) fl_X12_72 rfl hs rfl ?_
  refine g_iload_n (pc' := 132) dX12_valueOf_131 rfl rfl ?_
  refine g_ialdN (pc' := 133) (v := _) dX12_valueOf_132 rfl rfl (by decide) (by omega) (rfl) ?_
  refine g_iret dX12_valueOf_133 rfl (by decide) (by decide) ?_
  exact ⟨rfl, rfl⟩
set_option maxRecDepth 4000 in
theorem cm_voN_118 {E : En} (hok : EOK E) {h : Hp} (hs : Shp h.2) (hw : Wf (mo h)) {k f : Nat} {late : Int32} (hk : k < nK (mo h)) (hf : f < nF (mo h)) (ha : As h k (-1) f late) : Fn E m_X12_valueOf 2 [vR MO, vI (nI 118)] h (vI (mo h 128 f)) := by
  have hNw : h.1 MO 2 = nI (nW (mo h)) := hw.w.1
  have hNwb := hw.w.2
  have hC : h.1 MO 30 = nI (nC (mo h)) := hw.c.1
  have hCb := hw.c.2
  have hK : h.1 MO 3 = nI (nK (mo h)) := hw.k.1
  have hKb := hw.k.2
  have hT : h.1 MO 4 = nI (nT (mo h)) := hw.t.1
  have hTb := hw.t.2
  have hF : h.1 MO 5 = nI (nF (mo h)) := hw.f.1
  have hFb := hw.f.2
  have hRc : h.1 MO 59 = nI (nR (mo h)) := hw.r.1
  have hRb := hw.r.2
  have hG : h.1 MO 60 = nI (nGf (mo h)) := hw.g.1
  have hGb := hw.g.2
  have hA : h.1 MO 70 = nI (nA (mo h)) := hw.a.1
  have hAb := hw.a.2
  have hTl : h.1 MO 1 = nI (nTl (mo h)) := hw.tl.1
  have hTlb := hw.tl.2
  refine Call.enter hok (by decide) (Nat.le_of_ble_eq_true rfl) ?_
  show G E m_X12_valueOf 2 0 0 _ h 0 [some (vR MO), some (vI (nI 118)), none] [] h 0 0
  refine g_iload_n (pc' := 1) dX12_valueOf_0 rfl rfl ?_
  refine g_invS (pc' := 4) (cm_any_118 hok) dX12_valueOf_1 rfl ml_X12_302 st_X12_isAnyOfToy in_X12 co_X12_isAnyOfToy pd_X12_isAnyOfToy rfl (by omega) (by decide) ⟨by decide, by decide⟩ (Nat.le_of_ble_eq_true rfl) ?_
  rintro _ _ ⟨rfl, rfl⟩ -
  refine g_if_eqN (tgt := 13) (pc' := 7) dX12_valueOf_4 rfl (by decide) (by decide) (fun _ => ?_) (fun q => False.elim (by revert q; decide))
  refine g_aload_n (pc' := 14) dX12_valueOf_13 rfl rfl ?_
  refine g_getIv (v := nI (f)) (pc' := 17) (k := 55) dX12_valueOf_14 rfl rfl ck_13 (by decide) fl_X12_384 rfl (ha.2.2.1) ?_
  refine g_istore_n (pc' := 18) dX12_valueOf_17 rfl (by decide) rfl ?_
  try simp only [List.set]
  refine g_iload_n (pc' := 19) dX12_valueOf_18 rfl rfl ?_
  refine g_tabIn (off := 115) (tgt := 134) dX12_valueOf_19 (by decide) (by decide) rfl (by decide) ?_
  refine g_aload_n (pc' := 135) dX12_valueOf_134 rfl rfl ?_
  refine g_getS (pc' := 138) (k := 28) (b := (128, 0)) dX12_valueOf_135 rfl rfl ck_13 (by decide) fl_X12_75 rfl hs rfl ?_
  refine g_iload_n (pc' := 139) dX12_valueOf_138 rfl rfl ?_
  refine g_ialdN (pc' := 140) (v := _) dX12_valueOf_139 rfl rfl (by decide) (by omega) (rfl) ?_
  refine g_iret dX12_valueOf_140 rfl (by decide) (by decide) ?_
  exact ⟨rfl, rfl⟩
set_option maxRecDepth 4000 in
theorem cm_voN_104 {E : En} (hok : EOK E) {h : Hp} (hs : Shp h.2) (hw : Wf (mo h)) {k f : Nat} {late : Int32} (hk : k < nK (mo h)) (hf : f < nF (mo h)) (ha : As h k (-1) f late) : Fn E m_X12_valueOf 2 [vR MO, vI (nI 104)] h (vI (nI (hsT (mo h) (nI f)))) := by
  have hNw : h.1 MO 2 = nI (nW (mo h)) := hw.w.1
  have hNwb := hw.w.2
  have hC : h.1 MO 30 = nI (nC (mo h)) := hw.c.1
  have hCb := hw.c.2
  have hK : h.1 MO 3 = nI (nK (mo h)) := hw.k.1
  have hKb := hw.k.2
  have hT : h.1 MO 4 = nI (nT (mo h)) := hw.t.1
  have hTb := hw.t.2
  have hF : h.1 MO 5 = nI (nF (mo h)) := hw.f.1
  have hFb := hw.f.2
  have hRc : h.1 MO 59 = nI (nR (mo h)) := hw.r.1
  have hRb := hw.r.2
  have hG : h.1 MO 60 = nI (nGf (mo h)) := hw.g.1
  have hGb := hw.g.2
  have hA : h.1 MO 70 = nI (nA (mo h)) := hw.a.1
  have hAb := hw.a.2
  have hTl : h.1 MO 1 = nI (nTl (mo h)) := hw.tl.1
  have hTlb := hw.tl.2
  refine Call.enter hok (by decide) (Nat.le_of_ble_eq_true rfl) ?_
  show G E m_X12_valueOf 2 0 0 _ h 0 [some (vR MO), some (vI (nI 104)), none] [] h 0 0
  refine g_iload_n (pc' := 1) dX12_valueOf_0 rfl rfl ?_
  refine g_invS (pc' := 4) (cm_any_104 hok) dX12_valueOf_1 rfl ml_X12_302 st_X12_isAnyOfToy in_X12 co_X12_isAnyOfToy pd_X12_isAnyOfToy rfl (by omega) (by decide) ⟨by decide, by decide⟩ (Nat.le_of_ble_eq_true rfl) ?_
  rintro _ _ ⟨rfl, rfl⟩ -
  refine g_if_eqN (tgt := 13) (pc' := 7) dX12_valueOf_4 rfl (by decide) (by decide) (fun _ => ?_) (fun q => False.elim (by revert q; decide))
  refine g_aload_n (pc' := 14) dX12_valueOf_13 rfl rfl ?_
  refine g_getIv (v := nI (f)) (pc' := 17) (k := 55) dX12_valueOf_14 rfl rfl ck_13 (by decide) fl_X12_384 rfl (ha.2.2.1) ?_
  refine g_istore_n (pc' := 18) dX12_valueOf_17 rfl (by decide) rfl ?_
  try simp only [List.set]
  refine g_iload_n (pc' := 19) dX12_valueOf_18 rfl rfl ?_
  refine g_tabIn (off := 122) (tgt := 141) dX12_valueOf_19 (by decide) (by decide) rfl (by decide) ?_
  refine g_aload_n (pc' := 142) dX12_valueOf_141 rfl rfl ?_
  refine g_iload_n (pc' := 143) dX12_valueOf_142 rfl rfl ?_
  refine g_invV (pc' := 146) (cm_hasToys hok hs hw (nI f)) dX12_valueOf_143 rfl rfl ck_13 rfl ml_X12_397 im_X12_hasToys sl_X12_hasToys in_X12 co_X12_hasToys pd_X12_hasToys rfl (by omega) (by decide) ⟨by decide, by decide⟩ (Nat.le_of_ble_eq_true rfl) ?_
  rintro _ _ ⟨rfl, rfl⟩ -
  refine g_iret dX12_valueOf_146 rfl (by decide) (by decide) ?_
  exact ⟨rfl, rfl⟩
set_option maxRecDepth 4000 in
theorem cm_voN_100 {E : En} (hok : EOK E) {h : Hp} (hs : Shp h.2) (hw : Wf (mo h)) {k f : Nat} {late : Int32} (hk : k < nK (mo h)) (hf : f < nF (mo h)) (ha : As h k (-1) f late) : Fn E m_X12_valueOf 2 [vR MO, vI (nI 100)] h (vI (mo h 1 2)) := by
  have hNw : h.1 MO 2 = nI (nW (mo h)) := hw.w.1
  have hNwb := hw.w.2
  have hC : h.1 MO 30 = nI (nC (mo h)) := hw.c.1
  have hCb := hw.c.2
  have hK : h.1 MO 3 = nI (nK (mo h)) := hw.k.1
  have hKb := hw.k.2
  have hT : h.1 MO 4 = nI (nT (mo h)) := hw.t.1
  have hTb := hw.t.2
  have hF : h.1 MO 5 = nI (nF (mo h)) := hw.f.1
  have hFb := hw.f.2
  have hRc : h.1 MO 59 = nI (nR (mo h)) := hw.r.1
  have hRb := hw.r.2
  have hG : h.1 MO 60 = nI (nGf (mo h)) := hw.g.1
  have hGb := hw.g.2
  have hA : h.1 MO 70 = nI (nA (mo h)) := hw.a.1
  have hAb := hw.a.2
  have hTl : h.1 MO 1 = nI (nTl (mo h)) := hw.tl.1
  have hTlb := hw.tl.2
  refine Call.enter hok (by decide) (Nat.le_of_ble_eq_true rfl) ?_
  show G E m_X12_valueOf 2 0 0 _ h 0 [some (vR MO), some (vI (nI 100)), none] [] h 0 0
  refine g_iload_n (pc' := 1) dX12_valueOf_0 rfl rfl ?_
  refine g_invS (pc' := 4) (cm_any_100 hok) dX12_valueOf_1 rfl ml_X12_302 st_X12_isAnyOfToy in_X12 co_X12_isAnyOfToy pd_X12_isAnyOfToy rfl (by omega) (by decide) ⟨by decide, by decide⟩ (Nat.le_of_ble_eq_true rfl) ?_
  rintro _ _ ⟨rfl, rfl⟩ -
  refine g_if_eqN (tgt := 13) (pc' := 7) dX12_valueOf_4 rfl (by decide) (by decide) (fun _ => ?_) (fun q => False.elim (by revert q; decide))
  refine g_aload_n (pc' := 14) dX12_valueOf_13 rfl rfl ?_
  refine g_getIv (v := nI (f)) (pc' := 17) (k := 55) dX12_valueOf_14 rfl rfl ck_13 (by decide) fl_X12_384 rfl (ha.2.2.1) ?_
  refine g_istore_n (pc' := 18) dX12_valueOf_17 rfl (by decide) rfl ?_
  try simp only [List.set]
  refine g_iload_n (pc' := 19) dX12_valueOf_18 rfl rfl ?_
  refine g_tabIn (off := 128) (tgt := 147) dX12_valueOf_19 (by decide) (by decide) rfl (by decide) ?_
  refine g_aload_n (pc' := 148) dX12_valueOf_147 rfl rfl ?_
  refine g_getI (pc' := 151) (k := 2) dX12_valueOf_148 rfl rfl ck_13 (by decide) fl_X12_219 rfl ?_
  refine g_iret dX12_valueOf_151 rfl (by decide) (by decide) ?_
  exact ⟨rfl, rfl⟩
set_option maxRecDepth 4000 in
theorem cm_voN_115 {E : En} (hok : EOK E) {h : Hp} (hs : Shp h.2) (hw : Wf (mo h)) {k f : Nat} {late : Int32} (hk : k < nK (mo h)) (hf : f < nF (mo h)) (ha : As h k (-1) f late) : Fn E m_X12_valueOf 2 [vR MO, vI (nI 115)] h (vI (nI (nW (mo h) % 365))) := by
  have hNw : h.1 MO 2 = nI (nW (mo h)) := hw.w.1
  have hNwb := hw.w.2
  have hC : h.1 MO 30 = nI (nC (mo h)) := hw.c.1
  have hCb := hw.c.2
  have hK : h.1 MO 3 = nI (nK (mo h)) := hw.k.1
  have hKb := hw.k.2
  have hT : h.1 MO 4 = nI (nT (mo h)) := hw.t.1
  have hTb := hw.t.2
  have hF : h.1 MO 5 = nI (nF (mo h)) := hw.f.1
  have hFb := hw.f.2
  have hRc : h.1 MO 59 = nI (nR (mo h)) := hw.r.1
  have hRb := hw.r.2
  have hG : h.1 MO 60 = nI (nGf (mo h)) := hw.g.1
  have hGb := hw.g.2
  have hA : h.1 MO 70 = nI (nA (mo h)) := hw.a.1
  have hAb := hw.a.2
  have hTl : h.1 MO 1 = nI (nTl (mo h)) := hw.tl.1
  have hTlb := hw.tl.2
  refine Call.enter hok (by decide) (Nat.le_of_ble_eq_true rfl) ?_
  show G E m_X12_valueOf 2 0 0 _ h 0 [some (vR MO), some (vI (nI 115)), none] [] h 0 0
  refine g_iload_n (pc' := 1) dX12_valueOf_0 rfl rfl ?_
  refine g_invS (pc' := 4) (cm_any_115 hok) dX12_valueOf_1 rfl ml_X12_302 st_X12_isAnyOfToy in_X12 co_X12_isAnyOfToy pd_X12_isAnyOfToy rfl (by omega) (by decide) ⟨by decide, by decide⟩ (Nat.le_of_ble_eq_true rfl) ?_
  rintro _ _ ⟨rfl, rfl⟩ -
  refine g_if_eqN (tgt := 13) (pc' := 7) dX12_valueOf_4 rfl (by decide) (by decide) (fun _ => ?_) (fun q => False.elim (by revert q; decide))
  refine g_aload_n (pc' := 14) dX12_valueOf_13 rfl rfl ?_
  refine g_getIv (v := nI (f)) (pc' := 17) (k := 55) dX12_valueOf_14 rfl rfl ck_13 (by decide) fl_X12_384 rfl (ha.2.2.1) ?_
  refine g_istore_n (pc' := 18) dX12_valueOf_17 rfl (by decide) rfl ?_
  try simp only [List.set]
  refine g_iload_n (pc' := 19) dX12_valueOf_18 rfl rfl ?_
  refine g_tabIn (off := 133) (tgt := 152) dX12_valueOf_19 (by decide) (by decide) rfl (by decide) ?_
  refine g_aload_n (pc' := 153) dX12_valueOf_152 rfl rfl ?_
  refine g_getIv (v := nI (nW (mo h))) (pc' := 156) (k := 2) dX12_valueOf_153 rfl rfl ck_13 (by decide) fl_X12_219 rfl (hNw) ?_
  refine g_sipushN (n := 365) (pc' := 159) dX12_valueOf_156 rfl (by decide) ?_
  refine g_iremN (pc' := 160) dX12_valueOf_159 rfl (by omega) (by omega) (by omega) ?_
  refine g_iret dX12_valueOf_160 rfl (by decide) (by decide) ?_
  exact ⟨rfl, rfl⟩
set_option maxRecDepth 4000 in
theorem cm_voN_108 {E : En} (hok : EOK E) {h : Hp} (hs : Shp h.2) (hw : Wf (mo h)) {k f : Nat} {late : Int32} (hk : k < nK (mo h)) (hf : f < nF (mo h)) (ha : As h k (-1) f late) : Fn E m_X12_valueOf 2 [vR MO, vI (nI 108)] h (vI (late)) := by
  have hNw : h.1 MO 2 = nI (nW (mo h)) := hw.w.1
  have hNwb := hw.w.2
  have hC : h.1 MO 30 = nI (nC (mo h)) := hw.c.1
  have hCb := hw.c.2
  have hK : h.1 MO 3 = nI (nK (mo h)) := hw.k.1
  have hKb := hw.k.2
  have hT : h.1 MO 4 = nI (nT (mo h)) := hw.t.1
  have hTb := hw.t.2
  have hF : h.1 MO 5 = nI (nF (mo h)) := hw.f.1
  have hFb := hw.f.2
  have hRc : h.1 MO 59 = nI (nR (mo h)) := hw.r.1
  have hRb := hw.r.2
  have hG : h.1 MO 60 = nI (nGf (mo h)) := hw.g.1
  have hGb := hw.g.2
  have hA : h.1 MO 70 = nI (nA (mo h)) := hw.a.1
  have hAb := hw.a.2
  have hTl : h.1 MO 1 = nI (nTl (mo h)) := hw.tl.1
  have hTlb := hw.tl.2
  refine Call.enter hok (by decide) (Nat.le_of_ble_eq_true rfl) ?_
  show G E m_X12_valueOf 2 0 0 _ h 0 [some (vR MO), some (vI (nI 108)), none] [] h 0 0
  refine g_iload_n (pc' := 1) dX12_valueOf_0 rfl rfl ?_
  refine g_invS (pc' := 4) (cm_any_108 hok) dX12_valueOf_1 rfl ml_X12_302 st_X12_isAnyOfToy in_X12 co_X12_isAnyOfToy pd_X12_isAnyOfToy rfl (by omega) (by decide) ⟨by decide, by decide⟩ (Nat.le_of_ble_eq_true rfl) ?_
  rintro _ _ ⟨rfl, rfl⟩ -
  refine g_if_eqN (tgt := 13) (pc' := 7) dX12_valueOf_4 rfl (by decide) (by decide) (fun _ => ?_) (fun q => False.elim (by revert q; decide))
  refine g_aload_n (pc' := 14) dX12_valueOf_13 rfl rfl ?_
  refine g_getIv (v := nI (f)) (pc' := 17) (k := 55) dX12_valueOf_14 rfl rfl ck_13 (by decide) fl_X12_384 rfl (ha.2.2.1) ?_
  refine g_istore_n (pc' := 18) dX12_valueOf_17 rfl (by decide) rfl ?_
  try simp only [List.set]
  refine g_iload_n (pc' := 19) dX12_valueOf_18 rfl rfl ?_
  refine g_tabIn (off := 142) (tgt := 161) dX12_valueOf_19 (by decide) (by decide) rfl (by decide) ?_
  refine g_aload_n (pc' := 162) dX12_valueOf_161 rfl rfl ?_
  refine g_getIv (v := late) (pc' := 165) (k := 56) dX12_valueOf_162 rfl rfl ck_13 (by decide) fl_X12_387 rfl (ha.2.2.2) ?_
  refine g_iret dX12_valueOf_165 rfl (by decide) (by decide) ?_
  exact ⟨rfl, rfl⟩
set_option maxRecDepth 4000 in
theorem cm_voN_113 {E : En} (hok : EOK E) {h : Hp} (hs : Shp h.2) (hw : Wf (mo h)) {k f : Nat} {late : Int32} (hk : k < nK (mo h)) (hf : f < nF (mo h)) (ha : As h k (-1) f late) : Fn E m_X12_valueOf 2 [vR MO, vI (nI 113)] h (vI (cif (mo h 186 (8 * f + k) = -1) 0 (mo h 1 2 - mo h 186 (8 * f + k)))) := by
  have hNw : h.1 MO 2 = nI (nW (mo h)) := hw.w.1
  have hNwb := hw.w.2
  have hC : h.1 MO 30 = nI (nC (mo h)) := hw.c.1
  have hCb := hw.c.2
  have hK : h.1 MO 3 = nI (nK (mo h)) := hw.k.1
  have hKb := hw.k.2
  have hT : h.1 MO 4 = nI (nT (mo h)) := hw.t.1
  have hTb := hw.t.2
  have hF : h.1 MO 5 = nI (nF (mo h)) := hw.f.1
  have hFb := hw.f.2
  have hRc : h.1 MO 59 = nI (nR (mo h)) := hw.r.1
  have hRb := hw.r.2
  have hG : h.1 MO 60 = nI (nGf (mo h)) := hw.g.1
  have hGb := hw.g.2
  have hA : h.1 MO 70 = nI (nA (mo h)) := hw.a.1
  have hAb := hw.a.2
  have hTl : h.1 MO 1 = nI (nTl (mo h)) := hw.tl.1
  have hTlb := hw.tl.2
  refine Call.enter hok (by decide) (Nat.le_of_ble_eq_true rfl) ?_
  show G E m_X12_valueOf 2 0 0 _ h 0 [some (vR MO), some (vI (nI 113)), none] [] h 0 0
  refine g_iload_n (pc' := 1) dX12_valueOf_0 rfl rfl ?_
  refine g_invS (pc' := 4) (cm_any_113 hok) dX12_valueOf_1 rfl ml_X12_302 st_X12_isAnyOfToy in_X12 co_X12_isAnyOfToy pd_X12_isAnyOfToy rfl (by omega) (by decide) ⟨by decide, by decide⟩ (Nat.le_of_ble_eq_true rfl) ?_
  rintro _ _ ⟨rfl, rfl⟩ -
  refine g_if_eqN (tgt := 13) (pc' := 7) dX12_valueOf_4 rfl (by decide) (by decide) (fun _ => ?_) (fun q => False.elim (by revert q; decide))
  refine g_aload_n (pc' := 14) dX12_valueOf_13 rfl rfl ?_
  refine g_getIv (v := nI (f)) (pc' := 17) (k := 55) dX12_valueOf_14 rfl rfl ck_13 (by decide) fl_X12_384 rfl (ha.2.2.1) ?_
  refine g_istore_n (pc' := 18) dX12_valueOf_17 rfl (by decide) rfl ?_
  try simp only [List.set]
  refine g_iload_n (pc' := 19) dX12_valueOf_18 rfl rfl ?_
  refine g_tabIn (off := 147) (tgt := 166) dX12_valueOf_19 (by decide) (by decide) rfl (by decide) ?_
  refine g_aload_n (pc' := 167) dX12_valueOf_166 rfl rfl ?_
  refine g_getS (pc' := 170) (k := 86) (b := (186, 0)) dX12_valueOf_167 rfl rfl ck_13 (by decide) fl_X12_183 rfl hs rfl ?_
  refine g_bipushN (n := 8) (pc' := 172) dX12_valueOf_170 rfl (by decide) ?_
  refine g_iload_n (pc' := 173) dX12_valueOf_172 rfl rfl ?_
  refine g_imulN (pc' := 174) dX12_valueOf_173 rfl ?_
  refine g_aload_n (pc' := 175) dX12_valueOf_174 rfl rfl ?_
  refine g_getIv (v := nI (k)) (pc' := 178) (k := 53) dX12_valueOf_175 rfl rfl ck_13 (by decide) fl_X12_378 rfl (ha.1) ?_
  refine g_iaddN (pc' := 179) dX12_valueOf_178 rfl ?_
  refine g_ialdN (pc' := 180) (v := _) dX12_valueOf_179 rfl rfl (by decide) (by omega) (rfl) ?_
  refine g_iconst (v := -1) (pc' := 181) dX12_valueOf_180 rfl (by decide) ?_
  refine g_icmp_ne (tgt := 188) (pc' := 184) dX12_valueOf_181 rfl (by decide) (fun c181 => ?_) (fun c181 => ?_)
  ·
    refine g_aload_n (pc' := 189) dX12_valueOf_188 rfl rfl ?_
    refine g_getI (pc' := 192) (k := 2) dX12_valueOf_189 rfl rfl ck_13 (by decide) fl_X12_219 rfl ?_
    refine g_aload_n (pc' := 193) dX12_valueOf_192 rfl rfl ?_
    refine g_getS (pc' := 196) (k := 86) (b := (186, 0)) dX12_valueOf_193 rfl rfl ck_13 (by decide) fl_X12_183 rfl hs rfl ?_
    refine g_bipushN (n := 8) (pc' := 198) dX12_valueOf_196 rfl (by decide) ?_
    refine g_iload_n (pc' := 199) dX12_valueOf_198 rfl rfl ?_
    refine g_imulN (pc' := 200) dX12_valueOf_199 rfl ?_
    refine g_aload_n (pc' := 201) dX12_valueOf_200 rfl rfl ?_
    refine g_getIv (v := nI (k)) (pc' := 204) (k := 53) dX12_valueOf_201 rfl rfl ck_13 (by decide) fl_X12_378 rfl (ha.1) ?_
    refine g_iaddN (pc' := 205) dX12_valueOf_204 rfl ?_
    refine g_ialdN (pc' := 206) (v := _) dX12_valueOf_205 rfl rfl (by decide) (by omega) (rfl) ?_
    refine g_isub (pc' := 207) dX12_valueOf_206 rfl ?_
    refine g_iret dX12_valueOf_207 rfl (by decide) (by decide) ?_
    exact ⟨congrArg (fun z : Int32 => some (vI z)) (cif_f c181).symm, rfl⟩
  ·
    refine g_iconstN (n := 0) (pc' := 185) dX12_valueOf_184 rfl ?_
    refine g_goto (tgt := 207) dX12_valueOf_185 (by decide) ?_
    refine g_iret dX12_valueOf_207 rfl (by decide) (by decide) ?_
    exact ⟨congrArg (fun z : Int32 => some (vI z)) (cif_t c181).symm, rfl⟩
set_option maxRecDepth 4000 in
theorem cm_voN_99 {E : En} (hok : EOK E) {h : Hp} (hs : Shp h.2) (hw : Wf (mo h)) {k f : Nat} {late : Int32} (hk : k < nK (mo h)) (hf : f < nF (mo h)) (ha : As h k (-1) f late) : Fn E m_X12_valueOf 2 [vR MO, vI (nI 99)] h (vI (nI (wfr (mo h) k))) := by
  have hNw : h.1 MO 2 = nI (nW (mo h)) := hw.w.1
  have hNwb := hw.w.2
  have hC : h.1 MO 30 = nI (nC (mo h)) := hw.c.1
  have hCb := hw.c.2
  have hK : h.1 MO 3 = nI (nK (mo h)) := hw.k.1
  have hKb := hw.k.2
  have hT : h.1 MO 4 = nI (nT (mo h)) := hw.t.1
  have hTb := hw.t.2
  have hF : h.1 MO 5 = nI (nF (mo h)) := hw.f.1
  have hFb := hw.f.2
  have hRc : h.1 MO 59 = nI (nR (mo h)) := hw.r.1
  have hRb := hw.r.2
  have hG : h.1 MO 60 = nI (nGf (mo h)) := hw.g.1
  have hGb := hw.g.2
  have hA : h.1 MO 70 = nI (nA (mo h)) := hw.a.1
  have hAb := hw.a.2
  have hTl : h.1 MO 1 = nI (nTl (mo h)) := hw.tl.1
  have hTlb := hw.tl.2
  refine Call.enter hok (by decide) (Nat.le_of_ble_eq_true rfl) ?_
  show G E m_X12_valueOf 2 0 0 _ h 0 [some (vR MO), some (vI (nI 99)), none] [] h 0 0
  refine g_iload_n (pc' := 1) dX12_valueOf_0 rfl rfl ?_
  refine g_invS (pc' := 4) (cm_any_99 hok) dX12_valueOf_1 rfl ml_X12_302 st_X12_isAnyOfToy in_X12 co_X12_isAnyOfToy pd_X12_isAnyOfToy rfl (by omega) (by decide) ⟨by decide, by decide⟩ (Nat.le_of_ble_eq_true rfl) ?_
  rintro _ _ ⟨rfl, rfl⟩ -
  refine g_if_eqN (tgt := 13) (pc' := 7) dX12_valueOf_4 rfl (by decide) (by decide) (fun _ => ?_) (fun q => False.elim (by revert q; decide))
  refine g_aload_n (pc' := 14) dX12_valueOf_13 rfl rfl ?_
  refine g_getIv (v := nI (f)) (pc' := 17) (k := 55) dX12_valueOf_14 rfl rfl ck_13 (by decide) fl_X12_384 rfl (ha.2.2.1) ?_
  refine g_istore_n (pc' := 18) dX12_valueOf_17 rfl (by decide) rfl ?_
  try simp only [List.set]
  refine g_iload_n (pc' := 19) dX12_valueOf_18 rfl rfl ?_
  refine g_tabOut (tgt := 208) dX12_valueOf_19 (by decide) (by decide) ?_
  refine g_aload_n (pc' := 209) dX12_valueOf_208 rfl rfl ?_
  refine g_aload_n (pc' := 210) dX12_valueOf_209 rfl rfl ?_
  refine g_getIv (v := nI (k)) (pc' := 213) (k := 53) dX12_valueOf_210 rfl rfl ck_13 (by decide) fl_X12_378 rfl (ha.1) ?_
  refine g_invV (pc' := 216) (cm_waitingFor hok hs hw (k := k) (by omega)) dX12_valueOf_213 rfl rfl ck_13 rfl ml_X12_400 im_X12_waitingFor sl_X12_waitingFor in_X12 co_X12_waitingFor pd_X12_waitingFor rfl (by omega) (by decide) ⟨by decide, by decide⟩ (Nat.le_of_ble_eq_true rfl) ?_
  rintro _ _ ⟨rfl, rfl⟩ -
  refine g_iret dX12_valueOf_216 rfl (by decide) (by decide) ?_
  exact ⟨rfl, rfl⟩
theorem cm_valueOfT {E : En} (hok : EOK E) {h : Hp} (hs : Shp h.2) (hw : Wf (mo h)) {k f : Nat} {late : Int32} (hk : k < nK (mo h)) (hf : f < nF (mo h)) {t : Nat} (ht : t < nT (mo h)) (ha : As h k (nI t) f late) {l : Nat} (hl : isLt l) : Fn E m_X12_valueOf 2 [vR MO, vI (nI l)] h (vI (env (mo h) k (mo h 117 t) (lck (mo h) t) (nI t) (mo h 122 t) f late l)) := by
  rcases hl with rfl | rfl | rfl | rfl | rfl | rfl | rfl | rfl | rfl | rfl | rfl | rfl | rfl | rfl | rfl | rfl | rfl
  · exact cm_voT_107 hok hs hw hk hf ht ha
  · exact cm_voT_97 hok hs hw hk hf ht ha
  · exact cm_voT_112 hok hs hw hk hf ht ha
  · exact cm_voT_122 hok hs hw hk hf ht ha
  · exact cm_voT_119 hok hs hw hk hf ht ha
  · exact cm_voT_109 hok hs hw hk hf ht ha
  · exact cm_voT_116 hok hs hw hk hf ht ha
  · exact cm_voT_110 hok hs hw hk hf ht ha
  · exact cm_voT_121 hok hs hw hk hf ht ha
  · exact cm_voT_101 hok hs hw hk hf ht ha
  · exact cm_voT_118 hok hs hw hk hf ht ha
  · exact cm_voT_104 hok hs hw hk hf ht ha
  · exact cm_voT_100 hok hs hw hk hf ht ha
  · exact cm_voT_115 hok hs hw hk hf ht ha
  · exact cm_voT_108 hok hs hw hk hf ht ha
  · exact cm_voT_113 hok hs hw hk hf ht ha
  · exact cm_voT_99 hok hs hw hk hf ht ha
theorem cm_valueOfN {E : En} (hok : EOK E) {h : Hp} (hs : Shp h.2) (hw : Wf (mo h)) {k f : Nat} {late : Int32} (hk : k < nK (mo h)) (hf : f < nF (mo h)) (ha : As h k (-1) f late) {l : Nat} (hl : isLt l) : Fn E m_X12_valueOf 2 [vR MO, vI (nI l)] h (vI (env (mo h) k 0 0 0 0 f late l)) := by
  rcases hl with rfl | rfl | rfl | rfl | rfl | rfl | rfl | rfl | rfl | rfl | rfl | rfl | rfl | rfl | rfl | rfl | rfl
  · exact cm_voN_107 hok hs hw hk hf ha
  · exact cm_voN_97 hok hs hw hk hf ha
  · exact cm_voN_112 hok hs hw hk hf ha
  · exact cm_voN_122 hok hs hw hk hf ha
  · exact cm_voN_119 hok hs hw hk hf ha
  · exact cm_voN_109 hok hs hw hk hf ha
  · exact cm_voN_116 hok hs hw hk hf ha
  · exact cm_voN_110 hok hs hw hk hf ha
  · exact cm_voN_121 hok hs hw hk hf ha
  · exact cm_voN_101 hok hs hw hk hf ha
  · exact cm_voN_118 hok hs hw hk hf ha
  · exact cm_voN_104 hok hs hw hk hf ha
  · exact cm_voN_100 hok hs hw hk hf ha
  · exact cm_voN_115 hok hs hw hk hf ha
  · exact cm_voN_108 hok hs hw hk hf ha
  · exact cm_voN_113 hok hs hw hk hf ha
  · exact cm_voN_99 hok hs hw hk hf ha
