/-! class and reference agree when nothing was asked -/
theorem sh_92 {s j i : Nat} {b : Ad} (h : sh s j i = some b) : j < 92 := by
  unfold sh at h
  split at h <;> first | omega | cases h
theorem hZ_sh0 : LM.all (fun a => (List.range 92).all (fun j => sh a.1 j a.2 == none || hZ.2.1 a j == sh a.1 j a.2)) = true := by decide +kernel
theorem hZ_sh : Shp hZ.2 := fun s j i b hb ha => by
  have k := av_m (s, i) ha
  have k1 := List.all_eq_true.mp hZ_sh0 _ k
  have k2 := List.all_eq_true.mp k1 j (List.mem_range.mpr (sh_92 hb))
  rw [hb] at k2
  simp only [Bool.or_eq_true, beq_iff_eq] at k2
  rcases k2 with z | z
  · cases z
  · exact z
theorem cp_0 : Cp m0 hZ := by
  refine ⟨hZ_sh, ⟨by decide +kernel, by decide +kernel, by decide +kernel, by decide +kernel⟩, ⟨by decide +kernel, by decide +kernel, by decide +kernel, by decide +kernel, by decide +kernel⟩, ?_, ?_, ?_, ?_, ?_, ?_, ?_, ?_, ?_, ?_, ?_, ?_⟩
  · unfold C2; decide +kernel
  · unfold C3; decide +kernel
  · unfold C4; decide +kernel
  · exact ⟨⟨by rw [m0_K]; decide +kernel, by rw [m0_K]; decide +kernel, fun j hj => absurd (m0_K ▸ hj) (Nat.not_lt_zero _), fun j _ => hZ_a (by decide +kernel) j, fun _ => hZ_a (by decide +kernel) 0, fun _ => hZ_a (by decide +kernel) 0, fun _ => hZ_a (by decide +kernel) 0⟩, fun k hk => absurd (m0_K ▸ hk) (Nat.not_lt_zero _), fun k _ => ⟨hZ_a (by decide +kernel) k, hZ_a (by decide +kernel) k⟩⟩
  · exact ⟨⟨by rw [m0_T]; decide +kernel, by rw [m0_T]; decide +kernel, fun j hj => absurd (m0_T ▸ hj) (Nat.not_lt_zero _), fun j _ => hZ_a (by decide +kernel) j, fun _ => hZ_a (by decide +kernel) 1, fun _ => hZ_a (by decide +kernel) 1, fun _ => hZ_a (by decide +kernel) 1⟩, fun k hk => absurd (m0_T ▸ hk) (Nat.not_lt_zero _), fun k _ => ⟨hZ_a (by decide +kernel) k, hZ_a (by decide +kernel) k, hZ_a (by decide +kernel) k⟩⟩
  · exact fun k hk => absurd (m0_T ▸ hk) (Nat.not_lt_zero _)
  · exact ⟨⟨by rw [m0_F]; decide +kernel, by rw [m0_F]; decide +kernel, fun j hj => absurd (m0_F ▸ hj) (Nat.not_lt_zero _), fun j _ => hZ_a (by decide +kernel) j, fun _ => hZ_a (by decide +kernel) 2, fun _ => hZ_a (by decide +kernel) 2, fun _ => hZ_a (by decide +kernel) 2⟩, fun k hk => absurd (m0_F ▸ hk) (Nat.not_lt_zero _), fun k _ => hZ_a (by decide +kernel) k⟩
  · exact ⟨⟨by rw [m0_R]; decide +kernel, by rw [m0_R]; decide +kernel, fun j hj => absurd (m0_R ▸ hj) (Nat.not_lt_zero _), fun j _ => hZ_a (by decide +kernel) j, fun _ => hZ_a (by decide +kernel) 3, fun _ => hZ_a (by decide +kernel) 3, fun _ => hZ_a (by decide +kernel) 3⟩, fun k hk => absurd (m0_R ▸ hk) (Nat.not_lt_zero _), fun k _ => hZ_a (by decide +kernel) k⟩
  · exact ⟨by decide +kernel, by decide +kernel, fun k hk => absurd (m0_A ▸ hk) (Nat.not_lt_zero _)⟩
  · refine ⟨fun k hk => absurd (m0_F ▸ hk) (Nat.not_lt_zero _), fun w hw => ?_⟩
    have e : fgv m0 w = 0 := by unfold fgv; rw [m0_F]; rfl
    rw [e]
    rcases (show w = 0 ∨ w = 1 ∨ w = 2 ∨ w = 3 by omega) with rfl | rfl | rfl | rfl <;> decide +kernel
  · exact ⟨fun _ => (fun _ => none, fun _ => none), fun k hk => absurd (m0_C ▸ hk) (Nat.not_lt_zero _), 1, Nat.le_refl _, by decide +kernel, by decide +kernel, by decide +kernel, fun k hk => absurd (m0_C ▸ hk) (Nat.not_lt_zero _)⟩
  · exact ⟨by decide +kernel, by decide +kernel, by decide +kernel, by decide +kernel, by decide +kernel⟩
/-- what the constructors leave, and hZ: the same up to the arrays' ends -/
def h3Z : Hp := wN (wN (wN h2Z (191, 0) 0 (fun _ => nI 10) 6) (186, 0) 0 (fun _ => -1) 80) (166, 0) 0 (fun _ => -1) 100
theorem h3_2 : hZ.2 = h3Z.2 := by
  unfold h3Z
  rw [wN_2, wN_2, wN_2]
  rfl
theorem h3_1 (a : Ad) (j : Nat) (hj : j < (mt a).2) : hZ.1 a j = h3Z.1 a j := by
  unfold hZ h3Z
  by_cases c3 : a = (166, 0)
  · subst c3
    have q := wN_at (wN (wN h2Z (191, 0) 0 (fun _ => nI 10) 6) (186, 0) 0 (fun _ => -1) 80) (166, 0) 0 (fun _ => -1) (j := j) 100 hj
    rw [Nat.zero_add] at q
    rw [wF_same, q]
  · rw [wF_off _ _ _ c3, wN_off _ _ _ _ c3]
    by_cases c2 : a = (186, 0)
    · subst c2
      have q := wN_at (wN h2Z (191, 0) 0 (fun _ => nI 10) 6) (186, 0) 0 (fun _ => -1) (j := j) 80 hj
      rw [Nat.zero_add] at q
      rw [wF_same, q]
    · rw [wF_off _ _ _ c2, wN_off _ _ _ _ c2]
      by_cases c1 : a = (191, 0)
      · subst c1
        have q := wN_at h2Z (191, 0) 0 (fun _ => nI 10) (j := j) 6 hj
        rw [Nat.zero_add] at q
        rw [wF_same, q]
      · rw [wF_off _ _ _ c1, wN_off _ _ _ _ c1]
