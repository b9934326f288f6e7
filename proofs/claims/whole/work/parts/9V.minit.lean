/-! the reference's constructor -/
def Sm1 (b : Ad) : Prop := b.1 = 1 ∨ 100 ≤ b.1
def Zr (h : Hp) : Prop := ∀ b : Ad, Sm1 b → h.1 b = fun _ => 0
theorem Zr.nH {h : Hp} (z : Zr h) (a : Ad) : Zr (nH h a) := fun b q => by
  by_cases e : b = a
  · rw [e, nH_1s]
  · rw [nH_1 h a e]; exact z b q
theorem Zr.wR {h : Hp} (z : Zr h) (a : Ad) (j : Nat) (r : Option Ad) : Zr (wR h a j r) := z
def moB (h : Hp) : Hp := wR (nH (wR (nH (wR (nH (wR (nH (wR (nH (wR (nH (wR (nH (wR (nH (wR (nH (wR (nH (wR (nH (wR (nH (wR (nH (wR (nH (wR (nH (wR (nH (wR (nH (wR (nH (wR (nH (wR (nH (wR (nH (wR (nH (wR (nH (wR (nH (wR (nH (wR (nH (wR (nH (wR (nH (wR (nH (wR (nH (wR (nH (wR (nH (wR (nH (wR (nH (wR (nH (wR (nH (wR (nH (wR (nH (wR (nH (wR (nH (wR (nH (wR (nH (wR (nH (wR (nH (wR (nH (wR (nH (wR (nH (wR (nH (wR (nH (wR (nH (wR (nH (wR (nH (wR (nH (wR (nH (wR (nH (wR (nH (wR (nH (wR (nH (wR (nH (wR (nH (wR (nH (wR (nH (wR (nH (h) (100, 0)) MO 0 (some (100, 0))) (108, 0)) MO 8 (some (108, 0))) (109, 0)) MO 9 (some (109, 0))) (110, 0)) MO 10 (some (110, 0))) (111, 0)) MO 11 (some (111, 0))) (112, 0)) MO 12 (some (112, 0))) (113, 0)) MO 13 (some (113, 0))) (114, 0)) MO 14 (some (114, 0))) (115, 0)) MO 15 (some (115, 0))) (116, 0)) MO 16 (some (116, 0))) (117, 0)) MO 17 (some (117, 0))) (118, 0)) MO 18 (some (118, 0))) (119, 0)) MO 19 (some (119, 0))) (120, 0)) MO 20 (some (120, 0))) (121, 0)) MO 21 (some (121, 0))) (122, 0)) MO 22 (some (122, 0))) (123, 0)) MO 23 (some (123, 0))) (124, 0)) MO 24 (some (124, 0))) (125, 0)) MO 25 (some (125, 0))) (126, 0)) MO 26 (some (126, 0))) (127, 0)) MO 27 (some (127, 0))) (128, 0)) MO 28 (some (128, 0))) (129, 0)) MO 29 (some (129, 0))) (131, 0)) MO 31 (some (131, 0))) (132, 0)) MO 32 (some (132, 0))) (133, 0)) MO 33 (some (133, 0))) (134, 0)) MO 34 (some (134, 0))) (135, 0)) MO 35 (some (135, 0))) (136, 0)) MO 36 (some (136, 0))) (137, 0)) MO 37 (some (137, 0))) (138, 0)) MO 38 (some (138, 0))) (139, 0)) MO 39 (some (139, 0))) (140, 0)) MO 40 (some (140, 0))) (141, 0)) MO 41 (some (141, 0))) (142, 0)) MO 42 (some (142, 0))) (152, 0)) MO 52 (some (152, 0))) (157, 0)) MO 57 (some (157, 0))) (158, 0)) MO 58 (some (158, 0))) (161, 0)) MO 61 (some (161, 0))) (162, 0)) MO 62 (some (162, 0))) (163, 0)) MO 63 (some (163, 0))) (164, 0)) MO 64 (some (164, 0))) (165, 0)) MO 65 (some (165, 0))) (166, 0)) MO 66 (some (166, 0))) (167, 0)) MO 67 (some (167, 0))) (168, 0)) MO 68 (some (168, 0))) (169, 0)) MO 69 (some (169, 0))) (172, 0)) MO 72 (some (172, 0))) (173, 0)) MO 73 (some (173, 0))) (174, 0)) MO 74 (some (174, 0))) (175, 0)) MO 75 (some (175, 0))) (176, 0)) MO 76 (some (176, 0))) (177, 0)) MO 77 (some (177, 0))) (178, 0)) MO 78 (some (178, 0))) (179, 0)) MO 79 (some (179, 0))) (180, 0)) MO 80 (some (180, 0))) (181, 0)) MO 81 (some (181, 0))) (186, 0)) MO 86 (some (186, 0))) (187, 0)) MO 87 (some (187, 0))) (188, 0)) MO 88 (some (188, 0))) (189, 0)) MO 89 (some (189, 0))) (190, 0)) MO 90 (some (190, 0))) (191, 0)) MO 91 (some (191, 0))
theorem moB_fr (h : Hp) : Fr Sm1 h (moB h) := by
  unfold moB
  exact ((((((((((((((((((((((((((((((((((((((((((((((((((((((((((((((((((((((((((((((((((((((((((((((((((((((((((((((((((((((((((((((Fr.rf Sm1 h).nH (Or.inr (show 100 ≤ 100 by decide))).wR (Or.inl rfl)).nH (Or.inr (show 100 ≤ 108 by decide))).wR (Or.inl rfl)).nH (Or.inr (show 100 ≤ 109 by decide))).wR (Or.inl rfl)).nH (Or.inr (show 100 ≤ 110 by decide))).wR (Or.inl rfl)).nH (Or.inr (show 100 ≤ 111 by decide))).wR (Or.inl rfl)).nH (Or.inr (show 100 ≤ 112 by decide))).wR (Or.inl rfl)).nH (Or.inr (show 100 ≤ 113 by decide))).wR (Or.inl rfl)).nH (Or.inr (show 100 ≤ 114 by decide))).wR (Or.inl rfl)).nH (Or.inr (show 100 ≤ 115 by decide))).wR (Or.inl rfl)).nH (Or.inr (show 100 ≤ 116 by decide))).wR (Or.inl rfl)).nH (Or.inr (show 100 ≤ 117 by decide))).wR (Or.inl rfl)).nH (Or.inr (show 100 ≤ 118 by decide))).wR (Or.inl rfl)).nH (Or.inr (show 100 ≤ 119 by decide))).wR (Or.inl rfl)).nH (Or.inr (show 100 ≤ 120 by decide))).wR (Or.inl rfl)).nH (Or.inr (show 100 ≤ 121 by decide))).wR (Or.inl rfl)).nH (Or.inr (show 100 ≤ 122 by decide))).wR (Or.inl rfl)).nH (Or.inr (show 100 ≤ 123 by decide))).wR (Or.inl rfl)).nH (Or.inr (show 100 ≤ 124 by decide))).wR (Or.inl rfl)).nH (Or.inr (show 100 ≤ 125 by decide))).wR (Or.inl rfl)).nH (Or.inr (show 100 ≤ 126 by decide))).wR (Or.inl rfl)).nH (Or.inr (show 100 ≤ 127 by decide))).wR (Or.inl rfl)).nH (Or.inr (show 100 ≤ 128 by decide))).wR (Or.inl rfl)).nH (Or.inr (show 100 ≤ 129 by decide))).wR (Or.inl rfl)).nH (Or.inr (show 100 ≤ 131 by decide))).wR (Or.inl rfl)).nH (Or.inr (show 100 ≤ 132 by decide))).wR (Or.inl rfl)).nH (Or.inr (show 100 ≤ 133 by decide))).wR (Or.inl rfl)).nH (Or.inr (show 100 ≤ 134 by decide))).wR (Or.inl rfl)).nH (Or.inr (show 100 ≤ 135 by decide))).wR (Or.inl rfl)).nH (Or.inr (show 100 ≤ 136 by decide))).wR (Or.inl rfl)).nH (Or.inr (show 100 ≤ 137 by decide))).wR (Or.inl rfl)).nH (Or.inr (show 100 ≤ 138 by decide))).wR (Or.inl rfl)).nH (Or.inr (show 100 ≤ 139 by decide))).wR (Or.inl rfl)).nH (Or.inr (show 100 ≤ 140 by decide))).wR (Or.inl rfl)).nH (Or.inr (show 100 ≤ 141 by decide))).wR (Or.inl rfl)).nH (Or.inr (show 100 ≤ 142 by decide))).wR (Or.inl rfl)).nH (Or.inr (show 100 ≤ 152 by decide))).wR (Or.inl rfl)).nH (Or.inr (show 100 ≤ 157 by decide))).wR (Or.inl rfl)).nH (Or.inr (show 100 ≤ 158 by decide))).wR (Or.inl rfl)).nH (Or.inr (show 100 ≤ 161 by decide))).wR (Or.inl rfl)).nH (Or.inr (show 100 ≤ 162 by decide))).wR (Or.inl rfl)).nH (Or.inr (show 100 ≤ 163 by decide))).wR (Or.inl rfl)).nH (Or.inr (show 100 ≤ 164 by decide))).wR (Or.inl rfl)).nH (Or.inr (show 100 ≤ 165 by decide))).wR (Or.inl rfl)).nH (Or.inr (show 100 ≤ 166 by decide))).wR (Or.inl rfl)).nH (Or.inr (show 100 ≤ 167 by decide))).wR (Or.inl rfl)).nH (Or.inr (show 100 ≤ 168 by decide))).wR (Or.inl rfl)).nH (Or.inr (show 100 ≤ 169 by decide))).wR (Or.inl rfl)).nH (Or.inr (show 100 ≤ 172 by decide))).wR (Or.inl rfl)).nH (Or.inr (show 100 ≤ 173 by decide))).wR (Or.inl rfl)).nH (Or.inr (show 100 ≤ 174 by decide))).wR (Or.inl rfl)).nH (Or.inr (show 100 ≤ 175 by decide))).wR (Or.inl rfl)).nH (Or.inr (show 100 ≤ 176 by decide))).wR (Or.inl rfl)).nH (Or.inr (show 100 ≤ 177 by decide))).wR (Or.inl rfl)).nH (Or.inr (show 100 ≤ 178 by decide))).wR (Or.inl rfl)).nH (Or.inr (show 100 ≤ 179 by decide))).wR (Or.inl rfl)).nH (Or.inr (show 100 ≤ 180 by decide))).wR (Or.inl rfl)).nH (Or.inr (show 100 ≤ 181 by decide))).wR (Or.inl rfl)).nH (Or.inr (show 100 ≤ 186 by decide))).wR (Or.inl rfl)).nH (Or.inr (show 100 ≤ 187 by decide))).wR (Or.inl rfl)).nH (Or.inr (show 100 ≤ 188 by decide))).wR (Or.inl rfl)).nH (Or.inr (show 100 ≤ 189 by decide))).wR (Or.inl rfl)).nH (Or.inr (show 100 ≤ 190 by decide))).wR (Or.inl rfl)).nH (Or.inr (show 100 ≤ 191 by decide))).wR (Or.inl rfl)
theorem moB_z {h : Hp} (hz : Zr h) : Zr (moB h) := by
  unfold moB
  exact ((((((((((((((((((((((((((((((((((((((((((((((((((((((((((((((((((((((((((((((((((((((((((((((((((((((((((((((((((((((((((((((hz).nH (100, 0)).wR MO 0 (some (100, 0))).nH (108, 0)).wR MO 8 (some (108, 0))).nH (109, 0)).wR MO 9 (some (109, 0))).nH (110, 0)).wR MO 10 (some (110, 0))).nH (111, 0)).wR MO 11 (some (111, 0))).nH (112, 0)).wR MO 12 (some (112, 0))).nH (113, 0)).wR MO 13 (some (113, 0))).nH (114, 0)).wR MO 14 (some (114, 0))).nH (115, 0)).wR MO 15 (some (115, 0))).nH (116, 0)).wR MO 16 (some (116, 0))).nH (117, 0)).wR MO 17 (some (117, 0))).nH (118, 0)).wR MO 18 (some (118, 0))).nH (119, 0)).wR MO 19 (some (119, 0))).nH (120, 0)).wR MO 20 (some (120, 0))).nH (121, 0)).wR MO 21 (some (121, 0))).nH (122, 0)).wR MO 22 (some (122, 0))).nH (123, 0)).wR MO 23 (some (123, 0))).nH (124, 0)).wR MO 24 (some (124, 0))).nH (125, 0)).wR MO 25 (some (125, 0))).nH (126, 0)).wR MO 26 (some (126, 0))).nH (127, 0)).wR MO 27 (some (127, 0))).nH (128, 0)).wR MO 28 (some (128, 0))).nH (129, 0)).wR MO 29 (some (129, 0))).nH (131, 0)).wR MO 31 (some (131, 0))).nH (132, 0)).wR MO 32 (some (132, 0))).nH (133, 0)).wR MO 33 (some (133, 0))).nH (134, 0)).wR MO 34 (some (134, 0))).nH (135, 0)).wR MO 35 (some (135, 0))).nH (136, 0)).wR MO 36 (some (136, 0))).nH (137, 0)).wR MO 37 (some (137, 0))).nH (138, 0)).wR MO 38 (some (138, 0))).nH (139, 0)).wR MO 39 (some (139, 0))).nH (140, 0)).wR MO 40 (some (140, 0))).nH (141, 0)).wR MO 41 (some (141, 0))).nH (142, 0)).wR MO 42 (some (142, 0))).nH (152, 0)).wR MO 52 (some (152, 0))).nH (157, 0)).wR MO 57 (some (157, 0))).nH (158, 0)).wR MO 58 (some (158, 0))).nH (161, 0)).wR MO 61 (some (161, 0))).nH (162, 0)).wR MO 62 (some (162, 0))).nH (163, 0)).wR MO 63 (some (163, 0))).nH (164, 0)).wR MO 64 (some (164, 0))).nH (165, 0)).wR MO 65 (some (165, 0))).nH (166, 0)).wR MO 66 (some (166, 0))).nH (167, 0)).wR MO 67 (some (167, 0))).nH (168, 0)).wR MO 68 (some (168, 0))).nH (169, 0)).wR MO 69 (some (169, 0))).nH (172, 0)).wR MO 72 (some (172, 0))).nH (173, 0)).wR MO 73 (some (173, 0))).nH (174, 0)).wR MO 74 (some (174, 0))).nH (175, 0)).wR MO 75 (some (175, 0))).nH (176, 0)).wR MO 76 (some (176, 0))).nH (177, 0)).wR MO 77 (some (177, 0))).nH (178, 0)).wR MO 78 (some (178, 0))).nH (179, 0)).wR MO 79 (some (179, 0))).nH (180, 0)).wR MO 80 (some (180, 0))).nH (181, 0)).wR MO 81 (some (181, 0))).nH (186, 0)).wR MO 86 (some (186, 0))).nH (187, 0)).wR MO 87 (some (187, 0))).nH (188, 0)).wR MO 88 (some (188, 0))).nH (189, 0)).wR MO 89 (some (189, 0))).nH (190, 0)).wR MO 90 (some (190, 0))).nH (191, 0)).wR MO 91 (some (191, 0))
set_option maxRecDepth 20000 in
theorem moB_r (h : Hp) : ∀ j b, sh 1 j 0 = some b → (moB h).2.1 MO j = some b
  | 0, b, hb => by cases hb; rfl
  | 1, b, hb => by cases hb
  | 2, b, hb => by cases hb
  | 3, b, hb => by cases hb
  | 4, b, hb => by cases hb
  | 5, b, hb => by cases hb
  | 6, b, hb => by cases hb
  | 7, b, hb => by cases hb
  | 8, b, hb => by cases hb; rfl
  | 9, b, hb => by cases hb; rfl
  | 10, b, hb => by cases hb; rfl
  | 11, b, hb => by cases hb; rfl
  | 12, b, hb => by cases hb; rfl
  | 13, b, hb => by cases hb; rfl
  | 14, b, hb => by cases hb; rfl
  | 15, b, hb => by cases hb; rfl
  | 16, b, hb => by cases hb; rfl
  | 17, b, hb => by cases hb; rfl
  | 18, b, hb => by cases hb; rfl
  | 19, b, hb => by cases hb; rfl
  | 20, b, hb => by cases hb; rfl
  | 21, b, hb => by cases hb; rfl
  | 22, b, hb => by cases hb; rfl
  | 23, b, hb => by cases hb; rfl
  | 24, b, hb => by cases hb; rfl
  | 25, b, hb => by cases hb; rfl
  | 26, b, hb => by cases hb; rfl
  | 27, b, hb => by cases hb; rfl
  | 28, b, hb => by cases hb; rfl
  | 29, b, hb => by cases hb; rfl
  | 30, b, hb => by cases hb
  | 31, b, hb => by cases hb; rfl
  | 32, b, hb => by cases hb; rfl
  | 33, b, hb => by cases hb; rfl
  | 34, b, hb => by cases hb; rfl
  | 35, b, hb => by cases hb; rfl
  | 36, b, hb => by cases hb; rfl
  | 37, b, hb => by cases hb; rfl
  | 38, b, hb => by cases hb; rfl
  | 39, b, hb => by cases hb; rfl
  | 40, b, hb => by cases hb; rfl
  | 41, b, hb => by cases hb; rfl
  | 42, b, hb => by cases hb; rfl
  | 43, b, hb => by cases hb
  | 44, b, hb => by cases hb
  | 45, b, hb => by cases hb
  | 46, b, hb => by cases hb
  | 47, b, hb => by cases hb
  | 48, b, hb => by cases hb
  | 49, b, hb => by cases hb
  | 50, b, hb => by cases hb
  | 51, b, hb => by cases hb
  | 52, b, hb => by cases hb; rfl
  | 53, b, hb => by cases hb
  | 54, b, hb => by cases hb
  | 55, b, hb => by cases hb
  | 56, b, hb => by cases hb
  | 57, b, hb => by cases hb; rfl
  | 58, b, hb => by cases hb; rfl
  | 59, b, hb => by cases hb
  | 60, b, hb => by cases hb
  | 61, b, hb => by cases hb; rfl
  | 62, b, hb => by cases hb; rfl
  | 63, b, hb => by cases hb; rfl
  | 64, b, hb => by cases hb; rfl
  | 65, b, hb => by cases hb; rfl
  | 66, b, hb => by cases hb; rfl
  | 67, b, hb => by cases hb; rfl
  | 68, b, hb => by cases hb; rfl
  | 69, b, hb => by cases hb; rfl
  | 70, b, hb => by cases hb
  | 71, b, hb => by cases hb
  | 72, b, hb => by cases hb; rfl
  | 73, b, hb => by cases hb; rfl
  | 74, b, hb => by cases hb; rfl
  | 75, b, hb => by cases hb; rfl
  | 76, b, hb => by cases hb; rfl
  | 77, b, hb => by cases hb; rfl
  | 78, b, hb => by cases hb; rfl
  | 79, b, hb => by cases hb; rfl
  | 80, b, hb => by cases hb; rfl
  | 81, b, hb => by cases hb; rfl
  | 82, b, hb => by cases hb
  | 83, b, hb => by cases hb
  | 84, b, hb => by cases hb
  | 85, b, hb => by cases hb
  | 86, b, hb => by cases hb; rfl
  | 87, b, hb => by cases hb; rfl
  | 88, b, hb => by cases hb; rfl
  | 89, b, hb => by cases hb; rfl
  | 90, b, hb => by cases hb; rfl
  | 91, b, hb => by cases hb; rfl
  | n + 92, b, hb => by cases hb
set_option maxRecDepth 8000 in
theorem mi_1 {E : En} (hok : EOK E) {h0 h1 : Hp} {d mc ms cu su : Nat} {Q : Option V → Hp → Prop} (hr : h1.2.1 MO 91 = some (191, 0)) (hQ : G E m_X12_init d mc ms Q h0 546 [some (vR MO), none] [] (wN h1 (191, 0) 0 (fun _ => nI 10) 6) cu su) : ∀ n t : Nat, t ≤ 6 → 6 - t = n → G E m_X12_init d mc ms Q h0 526 [some (vR MO), some (vI (nI t))] [] (wN h1 (191, 0) 0 (fun _ => nI 10) t) cu su := by
  intro n
  induction n with
  | zero =>
    intro t h2 h3
    refine g_iload_n (pc' := 527) dX12_init_526 rfl rfl ?_
    refine g_bipushN (n := 6) (pc' := 529) dX12_init_527 rfl (by decide) ?_
    refine g_icmp_geN (tgt := 546) (pc' := 532) dX12_init_529 rfl (by decide) (by omega) (by omega) (fun c529 => ?_) (fun c529 => ?_)
    ·
      refine G.drop 1 ?_
      simp only [List.set]
      have e : t = 6 := by omega
      subst e
      exact hQ
    · exact absurd c529 (by omega)
  | succ n ih =>
    intro t h2 h3
    refine g_iload_n (pc' := 527) dX12_init_526 rfl rfl ?_
    refine g_bipushN (n := 6) (pc' := 529) dX12_init_527 rfl (by decide) ?_
    refine g_icmp_geN (tgt := 546) (pc' := 532) dX12_init_529 rfl (by decide) (by omega) (by omega) (fun c529 => ?_) (fun c529 => ?_)
    · exact absurd c529 (by omega)
    ·
      refine g_aload_n (pc' := 533) dX12_init_532 rfl rfl ?_
      refine g_getR (pc' := 536) (k := 91) (r := some (191, 0)) dX12_init_533 rfl rfl ck_13 (by decide) fl_X12_198 rfl (by rw [wN_2]; exact hr) ?_
      refine g_iload_n (pc' := 537) dX12_init_536 rfl rfl ?_
      refine g_bipushN (n := 10) (pc' := 539) dX12_init_537 rfl (by decide) ?_
      refine g_iastN (pc' := 540) dX12_init_539 rfl rfl (by decide) (by omega) ?_
      refine g_iincN (k := 1) (pc' := 543) dX12_init_540 rfl rfl (by decide) rfl ?_
      try simp only [List.set]
      refine g_goto (tgt := 526) dX12_init_543 (by decide) ?_
      have q := ih (t + 1) (by omega) (by omega)
      rw [wN_0s] at q
      exact q
set_option maxRecDepth 8000 in
theorem mi_2 {E : En} (hok : EOK E) {h0 h1 : Hp} {d mc ms cu su : Nat} {Q : Option V → Hp → Prop} (hr : h1.2.1 MO 86 = some (186, 0)) (hQ : G E m_X12_init d mc ms Q h0 567 [some (vR MO), none] [] (wN h1 (186, 0) 0 (fun _ => -1) 80) cu su) : ∀ n t : Nat, t ≤ 80 → 80 - t = n → G E m_X12_init d mc ms Q h0 548 [some (vR MO), some (vI (nI t))] [] (wN h1 (186, 0) 0 (fun _ => -1) t) cu su := by
  intro n
  induction n with
  | zero =>
    intro t h2 h3
    refine g_iload_n (pc' := 549) dX12_init_548 rfl rfl ?_
    refine g_bipushN (n := 80) (pc' := 551) dX12_init_549 rfl (by decide) ?_
    refine g_icmp_geN (tgt := 567) (pc' := 554) dX12_init_551 rfl (by decide) (by omega) (by omega) (fun c551 => ?_) (fun c551 => ?_)
    ·
      refine G.drop 1 ?_
      simp only [List.set]
      have e : t = 80 := by omega
      subst e
      exact hQ
    · exact absurd c551 (by omega)
  | succ n ih =>
    intro t h2 h3
    refine g_iload_n (pc' := 549) dX12_init_548 rfl rfl ?_
    refine g_bipushN (n := 80) (pc' := 551) dX12_init_549 rfl (by decide) ?_
    refine g_icmp_geN (tgt := 567) (pc' := 554) dX12_init_551 rfl (by decide) (by omega) (by omega) (fun c551 => ?_) (fun c551 => ?_)
    · exact absurd c551 (by omega)
    ·
      refine g_aload_n (pc' := 555) dX12_init_554 rfl rfl ?_
      refine g_getR (pc' := 558) (k := 86) (r := some (186, 0)) dX12_init_555 rfl rfl ck_13 (by decide) fl_X12_183 rfl (by rw [wN_2]; exact hr) ?_
      refine g_iload_n (pc' := 559) dX12_init_558 rfl rfl ?_
      refine g_iconst (v := -1) (pc' := 560) dX12_init_559 rfl (by decide) ?_
      refine g_iastN (pc' := 561) dX12_init_560 rfl rfl (by decide) (by omega) ?_
      refine g_iincN (k := 1) (pc' := 564) dX12_init_561 rfl rfl (by decide) rfl ?_
      try simp only [List.set]
      refine g_goto (tgt := 548) dX12_init_564 (by decide) ?_
      have q := ih (t + 1) (by omega) (by omega)
      rw [wN_0s] at q
      exact q
set_option maxRecDepth 8000 in
theorem mi_3 {E : En} (hok : EOK E) {h0 h1 : Hp} {d mc ms cu su : Nat} {Q : Option V → Hp → Prop} (hr : h1.2.1 MO 66 = some (166, 0)) (hQ : G E m_X12_init d mc ms Q h0 588 [some (vR MO), none] [] (wN h1 (166, 0) 0 (fun _ => -1) 100) cu su) : ∀ n t : Nat, t ≤ 100 → 100 - t = n → G E m_X12_init d mc ms Q h0 569 [some (vR MO), some (vI (nI t))] [] (wN h1 (166, 0) 0 (fun _ => -1) t) cu su := by
  intro n
  induction n with
  | zero =>
    intro t h2 h3
    refine g_iload_n (pc' := 570) dX12_init_569 rfl rfl ?_
    refine g_bipushN (n := 100) (pc' := 572) dX12_init_570 rfl (by decide) ?_
    refine g_icmp_geN (tgt := 588) (pc' := 575) dX12_init_572 rfl (by decide) (by omega) (by omega) (fun c572 => ?_) (fun c572 => ?_)
    ·
      refine G.drop 1 ?_
      simp only [List.set]
      have e : t = 100 := by omega
      subst e
      exact hQ
    · exact absurd c572 (by omega)
  | succ n ih =>
    intro t h2 h3
    refine g_iload_n (pc' := 570) dX12_init_569 rfl rfl ?_
    refine g_bipushN (n := 100) (pc' := 572) dX12_init_570 rfl (by decide) ?_
    refine g_icmp_geN (tgt := 588) (pc' := 575) dX12_init_572 rfl (by decide) (by omega) (by omega) (fun c572 => ?_) (fun c572 => ?_)
    · exact absurd c572 (by omega)
    ·
      refine g_aload_n (pc' := 576) dX12_init_575 rfl rfl ?_
      refine g_getR (pc' := 579) (k := 66) (r := some (166, 0)) dX12_init_576 rfl rfl ck_13 (by decide) fl_X12_141 rfl (by rw [wN_2]; exact hr) ?_
      refine g_iload_n (pc' := 580) dX12_init_579 rfl rfl ?_
      refine g_iconst (v := -1) (pc' := 581) dX12_init_580 rfl (by decide) ?_
      refine g_iastN (pc' := 582) dX12_init_581 rfl rfl (by decide) (by omega) ?_
      refine g_iincN (k := 1) (pc' := 585) dX12_init_582 rfl rfl (by decide) rfl ?_
      try simp only [List.set]
      refine g_goto (tgt := 569) dX12_init_585 (by decide) ?_
      have q := ih (t + 1) (by omega) (by omega)
      rw [wN_0s] at q
      exact q
set_option maxRecDepth 20000 in
theorem ct_model {E : En} (hok : EOK E) {h : Hp} (hf : ∀ j, j < 92 → h.2.2 (100 + j, 0) = false) : Call E m_X12_init 1 63 7567 [vR MO] h (fun r h' => r = none ∧ (wN (wN (wN (moB h) (191, 0) 0 (fun _ => nI 10) 6) (186, 0) 0 (fun _ => -1) 80) (166, 0) 0 (fun _ => -1) 100) = h') := by
  refine Call.enter hok (by decide) (Nat.le_of_ble_eq_true rfl) ?_
  show G E m_X12_init 1 63 7567 _ h 0 [some (vR MO), none] [] h 0 0
  refine g_aload_n (pc' := 1) dX12_init_0 rfl rfl ?_
  refine g_objInit (pc' := 4) dX12_init_1 rfl ml_X12_1 oi_i oi_c (by omega) (Nat.le_of_ble_eq_true rfl) ?_
  refine g_aload_n (pc' := 5) dX12_init_4 rfl rfl ?_
  refine g_sipushN (n := 220) (pc' := 8) dX12_init_5 rfl (by decide) ?_
  refine g_newB (100, 0) (hf 0 (by decide)) (pc' := 10) dX12_init_8 rfl rfl (by decide) (by decide) (by decide) ?_
  refine g_putRF (pc' := 13) (k := 0) dX12_init_10 rfl rfl ck_13 (by decide) fl_X12_7 rfl rfl rfl rfl ?_
  refine g_aload_n (pc' := 14) dX12_init_13 rfl rfl ?_
  refine g_bipushN (n := 8) (pc' := 16) dX12_init_14 rfl (by decide) ?_
  refine g_newI (108, 0) (hf 8 (by decide)) (pc' := 18) dX12_init_16 rfl rfl (by decide) (by decide) (by decide) ?_
  refine g_putRF (pc' := 21) (k := 8) dX12_init_18 rfl rfl ck_13 (by decide) fl_X12_13 rfl rfl rfl rfl ?_
  refine g_aload_n (pc' := 22) dX12_init_21 rfl rfl ?_
  refine g_bipushN (n := 8) (pc' := 24) dX12_init_22 rfl (by decide) ?_
  refine g_newI (109, 0) (hf 9 (by decide)) (pc' := 26) dX12_init_24 rfl rfl (by decide) (by decide) (by decide) ?_
  refine g_putRF (pc' := 29) (k := 9) dX12_init_26 rfl rfl ck_13 (by decide) fl_X12_17 rfl rfl rfl rfl ?_
  refine g_aload_n (pc' := 30) dX12_init_29 rfl rfl ?_
  refine g_bipushN (n := 8) (pc' := 32) dX12_init_30 rfl (by decide) ?_
  refine g_newI (110, 0) (hf 10 (by decide)) (pc' := 34) dX12_init_32 rfl rfl (by decide) (by decide) (by decide) ?_
  refine g_putRF (pc' := 37) (k := 10) dX12_init_34 rfl rfl ck_13 (by decide) fl_X12_20 rfl rfl rfl rfl ?_
  refine g_aload_n (pc' := 38) dX12_init_37 rfl rfl ?_
  refine g_bipushN (n := 8) (pc' := 40) dX12_init_38 rfl (by decide) ?_
  refine g_newI (111, 0) (hf 11 (by decide)) (pc' := 42) dX12_init_40 rfl rfl (by decide) (by decide) (by decide) ?_
  refine g_putRF (pc' := 45) (k := 11) dX12_init_42 rfl rfl ck_13 (by decide) fl_X12_23 rfl rfl rfl rfl ?_
  refine g_aload_n (pc' := 46) dX12_init_45 rfl rfl ?_
  refine g_bipushN (n := 8) (pc' := 48) dX12_init_46 rfl (by decide) ?_
  refine g_newI (112, 0) (hf 12 (by decide)) (pc' := 50) dX12_init_48 rfl rfl (by decide) (by decide) (by decide) ?_
  refine g_putRF (pc' := 53) (k := 12) dX12_init_50 rfl rfl ck_13 (by decide) fl_X12_26 rfl rfl rfl rfl ?_
  refine g_aload_n (pc' := 54) dX12_init_53 rfl rfl ?_
  refine g_bipushN (n := 48) (pc' := 56) dX12_init_54 rfl (by decide) ?_
  refine g_newI (113, 0) (hf 13 (by decide)) (pc' := 58) dX12_init_56 rfl rfl (by decide) (by decide) (by decide) ?_
  refine g_putRF (pc' := 61) (k := 13) dX12_init_58 rfl rfl ck_13 (by decide) fl_X12_29 rfl rfl rfl rfl ?_
  refine g_aload_n (pc' := 62) dX12_init_61 rfl rfl ?_
  refine g_bipushN (n := 48) (pc' := 64) dX12_init_62 rfl (by decide) ?_
  refine g_newI (114, 0) (hf 14 (by decide)) (pc' := 66) dX12_init_64 rfl rfl (by decide) (by decide) (by decide) ?_
  refine g_putRF (pc' := 69) (k := 14) dX12_init_66 rfl rfl ck_13 (by decide) fl_X12_32 rfl rfl rfl rfl ?_
  refine g_aload_n (pc' := 70) dX12_init_69 rfl rfl ?_
  refine g_bipushN (n := 16) (pc' := 72) dX12_init_70 rfl (by decide) ?_
  refine g_newI (115, 0) (hf 15 (by decide)) (pc' := 74) dX12_init_72 rfl rfl (by decide) (by decide) (by decide) ?_
  refine g_putRF (pc' := 77) (k := 15) dX12_init_74 rfl rfl ck_13 (by decide) fl_X12_35 rfl rfl rfl rfl ?_
  refine g_aload_n (pc' := 78) dX12_init_77 rfl rfl ?_
  refine g_bipushN (n := 16) (pc' := 80) dX12_init_78 rfl (by decide) ?_
  refine g_newI (116, 0) (hf 16 (by decide)) (pc' := 82) dX12_init_80 rfl rfl (by decide) (by decide) (by decide) ?_
  refine g_putRF (pc' := 85) (k := 16) dX12_init_82 rfl rfl ck_13 (by decide) fl_X12_38 rfl rfl rfl rfl ?_
  refine g_aload_n (pc' := 86) dX12_init_85 rfl rfl ?_
  refine g_bipushN (n := 16) (pc' := 88) dX12_init_86 rfl (by decide) ?_
  refine g_newI (117, 0) (hf 17 (by decide)) (pc' := 90) dX12_init_88 rfl rfl (by decide) (by decide) (by decide) ?_
  refine g_putRF (pc' := 93) (k := 17) dX12_init_90 rfl rfl ck_13 (by decide) fl_X12_41 rfl rfl rfl rfl ?_
  refine g_aload_n (pc' := 94) dX12_init_93 rfl rfl ?_
  refine g_bipushN (n := 16) (pc' := 96) dX12_init_94 rfl (by decide) ?_
  refine g_newI (118, 0) (hf 18 (by decide)) (pc' := 98) dX12_init_96 rfl rfl (by decide) (by decide) (by decide) ?_
  refine g_putRF (pc' := 101) (k := 18) dX12_init_98 rfl rfl ck_13 (by decide) fl_X12_44 rfl rfl rfl rfl ?_
  refine g_aload_n (pc' := 102) dX12_init_101 rfl rfl ?_
  refine g_bipushN (n := 16) (pc' := 104) dX12_init_102 rfl (by decide) ?_
  refine g_newI (119, 0) (hf 19 (by decide)) (pc' := 106) dX12_init_104 rfl rfl (by decide) (by decide) (by decide) ?_
  refine g_putRF (pc' := 109) (k := 19) dX12_init_106 rfl rfl ck_13 (by decide) fl_X12_47 rfl rfl rfl rfl ?_
  refine g_aload_n (pc' := 110) dX12_init_109 rfl rfl ?_
  refine g_bipushN (n := 16) (pc' := 112) dX12_init_110 rfl (by decide) ?_
  refine g_newI (120, 0) (hf 20 (by decide)) (pc' := 114) dX12_init_112 rfl rfl (by decide) (by decide) (by decide) ?_
  refine g_putRF (pc' := 117) (k := 20) dX12_init_114 rfl rfl ck_13 (by decide) fl_X12_50 rfl rfl rfl rfl ?_
  refine g_aload_n (pc' := 118) dX12_init_117 rfl rfl ?_
  refine g_bipushN (n := 16) (pc' := 120) dX12_init_118 rfl (by decide) ?_
  refine g_newI (121, 0) (hf 21 (by decide)) (pc' := 122) dX12_init_120 rfl rfl (by decide) (by decide) (by decide) ?_
  refine g_putRF (pc' := 125) (k := 21) dX12_init_122 rfl rfl ck_13 (by decide) fl_X12_53 rfl rfl rfl rfl ?_
  refine g_aload_n (pc' := 126) dX12_init_125 rfl rfl ?_
  refine g_bipushN (n := 16) (pc' := 128) dX12_init_126 rfl (by decide) ?_
  refine g_newI (122, 0) (hf 22 (by decide)) (pc' := 130) dX12_init_128 rfl rfl (by decide) (by decide) (by decide) ?_
  refine g_putRF (pc' := 133) (k := 22) dX12_init_130 rfl rfl ck_13 (by decide) fl_X12_56 rfl rfl rfl rfl ?_
  refine g_aload_n (pc' := 134) dX12_init_133 rfl rfl ?_
  refine g_bipushN (n := 16) (pc' := 136) dX12_init_134 rfl (by decide) ?_
  refine g_newI (123, 0) (hf 23 (by decide)) (pc' := 138) dX12_init_136 rfl rfl (by decide) (by decide) (by decide) ?_
  refine g_putRF (pc' := 141) (k := 23) dX12_init_138 rfl rfl ck_13 (by decide) fl_X12_59 rfl rfl rfl rfl ?_
  refine g_aload_n (pc' := 142) dX12_init_141 rfl rfl ?_
  refine g_bipushN (n := 16) (pc' := 144) dX12_init_142 rfl (by decide) ?_
  refine g_newZ (124, 0) (hf 24 (by decide)) (pc' := 146) dX12_init_144 rfl rfl (by decide) (by decide) (by decide) ?_
  refine g_putRF (pc' := 149) (k := 24) dX12_init_146 rfl rfl ck_13 (by decide) fl_X12_62 rfl rfl rfl rfl ?_
  refine g_aload_n (pc' := 150) dX12_init_149 rfl rfl ?_
  refine g_bipushN (n := 96) (pc' := 152) dX12_init_150 rfl (by decide) ?_
  refine g_newI (125, 0) (hf 25 (by decide)) (pc' := 154) dX12_init_152 rfl rfl (by decide) (by decide) (by decide) ?_
  refine g_putRF (pc' := 157) (k := 25) dX12_init_154 rfl rfl ck_13 (by decide) fl_X12_66 rfl rfl rfl rfl ?_
  refine g_aload_n (pc' := 158) dX12_init_157 rfl rfl ?_
  refine g_bipushN (n := 10) (pc' := 160) dX12_init_158 rfl (by decide) ?_
  refine g_newI (126, 0) (hf 26 (by decide)) (pc' := 162) dX12_init_160 rfl rfl (by decide) (by decide) (by decide) ?_
  refine g_putRF (pc' := 165) (k := 26) dX12_init_162 rfl rfl ck_13 (by decide) fl_X12_69 rfl rfl rfl rfl ?_
  refine g_aload_n (pc' := 166) dX12_init_165 rfl rfl ?_
  refine g_bipushN (n := 10) (pc' := 168) dX12_init_166 rfl (by decide) ?_
  refine g_newI (127, 0) (hf 27 (by decide)) (pc' := 170) dX12_init_168 rfl rfl (by decide) (by decide) (by decide) ?_
  refine g_putRF (pc' := 173) (k := 27) dX12_init_170 rfl rfl ck_13 (by decide) fl_X12_72 rfl rfl rfl rfl ?_
  refine g_aload_n (pc' := 174) dX12_init_173 rfl rfl ?_
  refine g_bipushN (n := 10) (pc' := 176) dX12_init_174 rfl (by decide) ?_
  refine g_newI (128, 0) (hf 28 (by decide)) (pc' := 178) dX12_init_176 rfl rfl (by decide) (by decide) (by decide) ?_
  refine g_putRF (pc' := 181) (k := 28) dX12_init_178 rfl rfl ck_13 (by decide) fl_X12_75 rfl rfl rfl rfl ?_
  refine g_aload_n (pc' := 182) dX12_init_181 rfl rfl ?_
  refine g_bipushN (n := 10) (pc' := 184) dX12_init_182 rfl (by decide) ?_
  refine g_newI (129, 0) (hf 29 (by decide)) (pc' := 186) dX12_init_184 rfl rfl (by decide) (by decide) (by decide) ?_
  refine g_putRF (pc' := 189) (k := 29) dX12_init_186 rfl rfl ck_13 (by decide) fl_X12_78 rfl rfl rfl rfl ?_
  refine g_aload_n (pc' := 190) dX12_init_189 rfl rfl ?_
  refine g_bipushN (n := 16) (pc' := 192) dX12_init_190 rfl (by decide) ?_
  refine g_newI (131, 0) (hf 31 (by decide)) (pc' := 194) dX12_init_192 rfl rfl (by decide) (by decide) (by decide) ?_
  refine g_putRF (pc' := 197) (k := 31) dX12_init_194 rfl rfl ck_13 (by decide) fl_X12_81 rfl rfl rfl rfl ?_
  refine g_aload_n (pc' := 198) dX12_init_197 rfl rfl ?_
  refine g_bipushN (n := 16) (pc' := 200) dX12_init_198 rfl (by decide) ?_
  refine g_newI (132, 0) (hf 32 (by decide)) (pc' := 202) dX12_init_200 rfl rfl (by decide) (by decide) (by decide) ?_
  refine g_putRF (pc' := 205) (k := 32) dX12_init_202 rfl rfl ck_13 (by decide) fl_X12_84 rfl rfl rfl rfl ?_
  refine g_aload_n (pc' := 206) dX12_init_205 rfl rfl ?_
  refine g_bipushN (n := 16) (pc' := 208) dX12_init_206 rfl (by decide) ?_
  refine g_newI (133, 0) (hf 33 (by decide)) (pc' := 210) dX12_init_208 rfl rfl (by decide) (by decide) (by decide) ?_
  refine g_putRF (pc' := 213) (k := 33) dX12_init_210 rfl rfl ck_13 (by decide) fl_X12_87 rfl rfl rfl rfl ?_
  refine g_aload_n (pc' := 214) dX12_init_213 rfl rfl ?_
  refine g_bipushN (n := 16) (pc' := 216) dX12_init_214 rfl (by decide) ?_
  refine g_newI (134, 0) (hf 34 (by decide)) (pc' := 218) dX12_init_216 rfl rfl (by decide) (by decide) (by decide) ?_
  refine g_putRF (pc' := 221) (k := 34) dX12_init_218 rfl rfl ck_13 (by decide) fl_X12_90 rfl rfl rfl rfl ?_
  refine g_aload_n (pc' := 222) dX12_init_221 rfl rfl ?_
  refine g_sipushN (n := 200) (pc' := 225) dX12_init_222 rfl (by decide) ?_
  refine g_newI (135, 0) (hf 35 (by decide)) (pc' := 227) dX12_init_225 rfl rfl (by decide) (by decide) (by decide) ?_
  refine g_putRF (pc' := 230) (k := 35) dX12_init_227 rfl rfl ck_13 (by decide) fl_X12_93 rfl rfl rfl rfl ?_
  refine g_aload_n (pc' := 231) dX12_init_230 rfl rfl ?_
  refine g_sipushN (n := 200) (pc' := 234) dX12_init_231 rfl (by decide) ?_
  refine g_newI (136, 0) (hf 36 (by decide)) (pc' := 236) dX12_init_234 rfl rfl (by decide) (by decide) (by decide) ?_
  refine g_putRF (pc' := 239) (k := 36) dX12_init_236 rfl rfl ck_13 (by decide) fl_X12_96 rfl rfl rfl rfl ?_
  refine g_aload_n (pc' := 240) dX12_init_239 rfl rfl ?_
  refine g_bipushN (n := 16) (pc' := 242) dX12_init_240 rfl (by decide) ?_
  refine g_newI (137, 0) (hf 37 (by decide)) (pc' := 244) dX12_init_242 rfl rfl (by decide) (by decide) (by decide) ?_
  refine g_putRF (pc' := 247) (k := 37) dX12_init_244 rfl rfl ck_13 (by decide) fl_X12_99 rfl rfl rfl rfl ?_
  refine g_aload_n (pc' := 248) dX12_init_247 rfl rfl ?_
  refine g_bipushN (n := 16) (pc' := 250) dX12_init_248 rfl (by decide) ?_
  refine g_newI (138, 0) (hf 38 (by decide)) (pc' := 252) dX12_init_250 rfl rfl (by decide) (by decide) (by decide) ?_
  refine g_putRF (pc' := 255) (k := 38) dX12_init_252 rfl rfl ck_13 (by decide) fl_X12_102 rfl rfl rfl rfl ?_
  refine g_aload_n (pc' := 256) dX12_init_255 rfl rfl ?_
  refine g_bipushN (n := 16) (pc' := 258) dX12_init_256 rfl (by decide) ?_
  refine g_newI (139, 0) (hf 39 (by decide)) (pc' := 260) dX12_init_258 rfl rfl (by decide) (by decide) (by decide) ?_
  refine g_putRF (pc' := 263) (k := 39) dX12_init_260 rfl rfl ck_13 (by decide) fl_X12_105 rfl rfl rfl rfl ?_
  refine g_aload_n (pc' := 264) dX12_init_263 rfl rfl ?_
  refine g_bipushN (n := 16) (pc' := 266) dX12_init_264 rfl (by decide) ?_
  refine g_newI (140, 0) (hf 40 (by decide)) (pc' := 268) dX12_init_266 rfl rfl (by decide) (by decide) (by decide) ?_
  refine g_putRF (pc' := 271) (k := 40) dX12_init_268 rfl rfl ck_13 (by decide) fl_X12_108 rfl rfl rfl rfl ?_
  refine g_aload_n (pc' := 272) dX12_init_271 rfl rfl ?_
  refine g_sipushN (n := 200) (pc' := 275) dX12_init_272 rfl (by decide) ?_
  refine g_newI (141, 0) (hf 41 (by decide)) (pc' := 277) dX12_init_275 rfl rfl (by decide) (by decide) (by decide) ?_
  refine g_putRF (pc' := 280) (k := 41) dX12_init_277 rfl rfl ck_13 (by decide) fl_X12_111 rfl rfl rfl rfl ?_
  refine g_aload_n (pc' := 281) dX12_init_280 rfl rfl ?_
  refine g_sipushN (n := 200) (pc' := 284) dX12_init_281 rfl (by decide) ?_
  refine g_newI (142, 0) (hf 42 (by decide)) (pc' := 286) dX12_init_284 rfl rfl (by decide) (by decide) (by decide) ?_
  refine g_putRF (pc' := 289) (k := 42) dX12_init_286 rfl rfl ck_13 (by decide) fl_X12_114 rfl rfl rfl rfl ?_
  refine g_aload_n (pc' := 290) dX12_init_289 rfl rfl ?_
  refine g_sipushN (n := 240) (pc' := 293) dX12_init_290 rfl (by decide) ?_
  refine g_newI (152, 0) (hf 52 (by decide)) (pc' := 295) dX12_init_293 rfl rfl (by decide) (by decide) (by decide) ?_
  refine g_putRF (pc' := 298) (k := 52) dX12_init_295 rfl rfl ck_13 (by decide) fl_X12_117 rfl rfl rfl rfl ?_
  refine g_aload_n (pc' := 299) dX12_init_298 rfl rfl ?_
  refine g_sipushN (n := 240) (pc' := 302) dX12_init_299 rfl (by decide) ?_
  refine g_newI (157, 0) (hf 57 (by decide)) (pc' := 304) dX12_init_302 rfl rfl (by decide) (by decide) (by decide) ?_
  refine g_putRF (pc' := 307) (k := 57) dX12_init_304 rfl rfl ck_13 (by decide) fl_X12_120 rfl rfl rfl rfl ?_
  refine g_aload_n (pc' := 308) dX12_init_307 rfl rfl ?_
  refine g_sipushN (n := 240) (pc' := 311) dX12_init_308 rfl (by decide) ?_
  refine g_newZ (158, 0) (hf 58 (by decide)) (pc' := 313) dX12_init_311 rfl rfl (by decide) (by decide) (by decide) ?_
  refine g_putRF (pc' := 316) (k := 58) dX12_init_313 rfl rfl ck_13 (by decide) fl_X12_123 rfl rfl rfl rfl ?_
  refine g_aload_n (pc' := 317) dX12_init_316 rfl rfl ?_
  refine g_bipushN (n := 10) (pc' := 319) dX12_init_317 rfl (by decide) ?_
  refine g_newI (161, 0) (hf 61 (by decide)) (pc' := 321) dX12_init_319 rfl rfl (by decide) (by decide) (by decide) ?_
  refine g_putRF (pc' := 324) (k := 61) dX12_init_321 rfl rfl ck_13 (by decide) fl_X12_126 rfl rfl rfl rfl ?_
  refine g_aload_n (pc' := 325) dX12_init_324 rfl rfl ?_
  refine g_bipushN (n := 10) (pc' := 327) dX12_init_325 rfl (by decide) ?_
  refine g_newI (162, 0) (hf 62 (by decide)) (pc' := 329) dX12_init_327 rfl rfl (by decide) (by decide) (by decide) ?_
  refine g_putRF (pc' := 332) (k := 62) dX12_init_329 rfl rfl ck_13 (by decide) fl_X12_129 rfl rfl rfl rfl ?_
  refine g_aload_n (pc' := 333) dX12_init_332 rfl rfl ?_
  refine g_bipushN (n := 10) (pc' := 335) dX12_init_333 rfl (by decide) ?_
  refine g_newI (163, 0) (hf 63 (by decide)) (pc' := 337) dX12_init_335 rfl rfl (by decide) (by decide) (by decide) ?_
  refine g_putRF (pc' := 340) (k := 63) dX12_init_337 rfl rfl ck_13 (by decide) fl_X12_132 rfl rfl rfl rfl ?_
  refine g_aload_n (pc' := 341) dX12_init_340 rfl rfl ?_
  refine g_bipushN (n := 10) (pc' := 343) dX12_init_341 rfl (by decide) ?_
  refine g_newI (164, 0) (hf 64 (by decide)) (pc' := 345) dX12_init_343 rfl rfl (by decide) (by decide) (by decide) ?_
  refine g_putRF (pc' := 348) (k := 64) dX12_init_345 rfl rfl ck_13 (by decide) fl_X12_135 rfl rfl rfl rfl ?_
  refine g_aload_n (pc' := 349) dX12_init_348 rfl rfl ?_
  refine g_bipushN (n := 10) (pc' := 351) dX12_init_349 rfl (by decide) ?_
  refine g_newI (165, 0) (hf 65 (by decide)) (pc' := 353) dX12_init_351 rfl rfl (by decide) (by decide) (by decide) ?_
  refine g_putRF (pc' := 356) (k := 65) dX12_init_353 rfl rfl ck_13 (by decide) fl_X12_138 rfl rfl rfl rfl ?_
  refine g_aload_n (pc' := 357) dX12_init_356 rfl rfl ?_
  refine g_bipushN (n := 100) (pc' := 359) dX12_init_357 rfl (by decide) ?_
  refine g_newI (166, 0) (hf 66 (by decide)) (pc' := 361) dX12_init_359 rfl rfl (by decide) (by decide) (by decide) ?_
  refine g_putRF (pc' := 364) (k := 66) dX12_init_361 rfl rfl ck_13 (by decide) fl_X12_141 rfl rfl rfl rfl ?_
  refine g_aload_n (pc' := 365) dX12_init_364 rfl rfl ?_
  refine g_bipushN (n := 20) (pc' := 367) dX12_init_365 rfl (by decide) ?_
  refine g_newI (167, 0) (hf 67 (by decide)) (pc' := 369) dX12_init_367 rfl rfl (by decide) (by decide) (by decide) ?_
  refine g_putRF (pc' := 372) (k := 67) dX12_init_369 rfl rfl ck_13 (by decide) fl_X12_144 rfl rfl rfl rfl ?_
  refine g_aload_n (pc' := 373) dX12_init_372 rfl rfl ?_
  refine g_bipushN (n := 20) (pc' := 375) dX12_init_373 rfl (by decide) ?_
  refine g_newI (168, 0) (hf 68 (by decide)) (pc' := 377) dX12_init_375 rfl rfl (by decide) (by decide) (by decide) ?_
  refine g_putRF (pc' := 380) (k := 68) dX12_init_377 rfl rfl ck_13 (by decide) fl_X12_147 rfl rfl rfl rfl ?_
  refine g_aload_n (pc' := 381) dX12_init_380 rfl rfl ?_
  refine g_bipushN (n := 20) (pc' := 383) dX12_init_381 rfl (by decide) ?_
  refine g_newI (169, 0) (hf 69 (by decide)) (pc' := 385) dX12_init_383 rfl rfl (by decide) (by decide) (by decide) ?_
  refine g_putRF (pc' := 388) (k := 69) dX12_init_385 rfl rfl ck_13 (by decide) fl_X12_150 rfl rfl rfl rfl ?_
  refine g_aload_n (pc' := 389) dX12_init_388 rfl rfl ?_
  refine g_sipushN (n := 600) (pc' := 392) dX12_init_389 rfl (by decide) ?_
  refine g_newI (172, 0) (hf 72 (by decide)) (pc' := 394) dX12_init_392 rfl rfl (by decide) (by decide) (by decide) ?_
  refine g_putRF (pc' := 397) (k := 72) dX12_init_394 rfl rfl ck_13 (by decide) fl_X12_153 rfl rfl rfl rfl ?_
  refine g_aload_n (pc' := 398) dX12_init_397 rfl rfl ?_
  refine g_sipushN (n := 600) (pc' := 401) dX12_init_398 rfl (by decide) ?_
  refine g_newI (173, 0) (hf 73 (by decide)) (pc' := 403) dX12_init_401 rfl rfl (by decide) (by decide) (by decide) ?_
  refine g_putRF (pc' := 406) (k := 73) dX12_init_403 rfl rfl ck_13 (by decide) fl_X12_156 rfl rfl rfl rfl ?_
  refine g_aload_n (pc' := 407) dX12_init_406 rfl rfl ?_
  refine g_sipushN (n := 600) (pc' := 410) dX12_init_407 rfl (by decide) ?_
  refine g_newI (174, 0) (hf 74 (by decide)) (pc' := 412) dX12_init_410 rfl rfl (by decide) (by decide) (by decide) ?_
  refine g_putRF (pc' := 415) (k := 74) dX12_init_412 rfl rfl ck_13 (by decide) fl_X12_159 rfl rfl rfl rfl ?_
  refine g_aload_n (pc' := 416) dX12_init_415 rfl rfl ?_
  refine g_sipushN (n := 600) (pc' := 419) dX12_init_416 rfl (by decide) ?_
  refine g_newI (175, 0) (hf 75 (by decide)) (pc' := 421) dX12_init_419 rfl rfl (by decide) (by decide) (by decide) ?_
  refine g_putRF (pc' := 424) (k := 75) dX12_init_421 rfl rfl ck_13 (by decide) fl_X12_162 rfl rfl rfl rfl ?_
  refine g_aload_n (pc' := 425) dX12_init_424 rfl rfl ?_
  refine g_sipushN (n := 600) (pc' := 428) dX12_init_425 rfl (by decide) ?_
  refine g_newI (176, 0) (hf 76 (by decide)) (pc' := 430) dX12_init_428 rfl rfl (by decide) (by decide) (by decide) ?_
  refine g_putRF (pc' := 433) (k := 76) dX12_init_430 rfl rfl ck_13 (by decide) fl_X12_165 rfl rfl rfl rfl ?_
  refine g_aload_n (pc' := 434) dX12_init_433 rfl rfl ?_
  refine g_sipushN (n := 600) (pc' := 437) dX12_init_434 rfl (by decide) ?_
  refine g_newI (177, 0) (hf 77 (by decide)) (pc' := 439) dX12_init_437 rfl rfl (by decide) (by decide) (by decide) ?_
  refine g_putRF (pc' := 442) (k := 77) dX12_init_439 rfl rfl ck_13 (by decide) fl_X12_168 rfl rfl rfl rfl ?_
  refine g_aload_n (pc' := 443) dX12_init_442 rfl rfl ?_
  refine g_sipushN (n := 600) (pc' := 446) dX12_init_443 rfl (by decide) ?_
  refine g_newZ (178, 0) (hf 78 (by decide)) (pc' := 448) dX12_init_446 rfl rfl (by decide) (by decide) (by decide) ?_
  refine g_putRF (pc' := 451) (k := 78) dX12_init_448 rfl rfl ck_13 (by decide) fl_X12_171 rfl rfl rfl rfl ?_
  refine g_aload_n (pc' := 452) dX12_init_451 rfl rfl ?_
  refine g_sipushN (n := 600) (pc' := 455) dX12_init_452 rfl (by decide) ?_
  refine g_newZ (179, 0) (hf 79 (by decide)) (pc' := 457) dX12_init_455 rfl rfl (by decide) (by decide) (by decide) ?_
  refine g_putRF (pc' := 460) (k := 79) dX12_init_457 rfl rfl ck_13 (by decide) fl_X12_174 rfl rfl rfl rfl ?_
  refine g_aload_n (pc' := 461) dX12_init_460 rfl rfl ?_
  refine g_bipushN (n := 6) (pc' := 463) dX12_init_461 rfl (by decide) ?_
  refine g_newI (180, 0) (hf 80 (by decide)) (pc' := 465) dX12_init_463 rfl rfl (by decide) (by decide) (by decide) ?_
  refine g_putRF (pc' := 468) (k := 80) dX12_init_465 rfl rfl ck_13 (by decide) fl_X12_177 rfl rfl rfl rfl ?_
  refine g_aload_n (pc' := 469) dX12_init_468 rfl rfl ?_
  refine g_bipushN (n := 6) (pc' := 471) dX12_init_469 rfl (by decide) ?_
  refine g_newI (181, 0) (hf 81 (by decide)) (pc' := 473) dX12_init_471 rfl rfl (by decide) (by decide) (by decide) ?_
  refine g_putRF (pc' := 476) (k := 81) dX12_init_473 rfl rfl ck_13 (by decide) fl_X12_180 rfl rfl rfl rfl ?_
  refine g_aload_n (pc' := 477) dX12_init_476 rfl rfl ?_
  refine g_bipushN (n := 80) (pc' := 479) dX12_init_477 rfl (by decide) ?_
  refine g_newI (186, 0) (hf 86 (by decide)) (pc' := 481) dX12_init_479 rfl rfl (by decide) (by decide) (by decide) ?_
  refine g_putRF (pc' := 484) (k := 86) dX12_init_481 rfl rfl ck_13 (by decide) fl_X12_183 rfl rfl rfl rfl ?_
  refine g_aload_n (pc' := 485) dX12_init_484 rfl rfl ?_
  refine g_bipushN (n := 53) (pc' := 487) dX12_init_485 rfl (by decide) ?_
  refine g_newI (187, 0) (hf 87 (by decide)) (pc' := 489) dX12_init_487 rfl rfl (by decide) (by decide) (by decide) ?_
  refine g_putRF (pc' := 492) (k := 87) dX12_init_489 rfl rfl ck_13 (by decide) fl_X12_186 rfl rfl rfl rfl ?_
  refine g_aload_n (pc' := 493) dX12_init_492 rfl rfl ?_
  refine g_bipushN (n := 32) (pc' := 495) dX12_init_493 rfl (by decide) ?_
  refine g_newI (188, 0) (hf 88 (by decide)) (pc' := 497) dX12_init_495 rfl rfl (by decide) (by decide) (by decide) ?_
  refine g_putRF (pc' := 500) (k := 88) dX12_init_497 rfl rfl ck_13 (by decide) fl_X12_189 rfl rfl rfl rfl ?_
  refine g_aload_n (pc' := 501) dX12_init_500 rfl rfl ?_
  refine g_bipushN (n := 64) (pc' := 503) dX12_init_501 rfl (by decide) ?_
  refine g_newZ (189, 0) (hf 89 (by decide)) (pc' := 505) dX12_init_503 rfl rfl (by decide) (by decide) (by decide) ?_
  refine g_putRF (pc' := 508) (k := 89) dX12_init_505 rfl rfl ck_13 (by decide) fl_X12_192 rfl rfl rfl rfl ?_
  refine g_aload_n (pc' := 509) dX12_init_508 rfl rfl ?_
  refine g_bipushN (n := 10) (pc' := 511) dX12_init_509 rfl (by decide) ?_
  refine g_newI (190, 0) (hf 90 (by decide)) (pc' := 513) dX12_init_511 rfl rfl (by decide) (by decide) (by decide) ?_
  refine g_putRF (pc' := 516) (k := 90) dX12_init_513 rfl rfl ck_13 (by decide) fl_X12_195 rfl rfl rfl rfl ?_
  refine g_aload_n (pc' := 517) dX12_init_516 rfl rfl ?_
  refine g_bipushN (n := 6) (pc' := 519) dX12_init_517 rfl (by decide) ?_
  refine g_newI (191, 0) (hf 91 (by decide)) (pc' := 521) dX12_init_519 rfl rfl (by decide) (by decide) (by decide) ?_
  refine g_putRF (pc' := 524) (k := 91) dX12_init_521 rfl rfl ck_13 (by decide) fl_X12_198 rfl rfl rfl rfl ?_
  refine g_iconstN (n := 0) (pc' := 525) dX12_init_524 rfl ?_
  refine g_istore_n (pc' := 526) dX12_init_525 rfl (by decide) rfl ?_
  try simp only [List.set]
  refine mi_1 (h1 := moB h) hok (moB_r h 91 _ rfl) ?_ _ 0 (Nat.zero_le _) rfl
  refine g_iconstN (n := 0) (pc' := 547) dX12_init_546 rfl ?_
  refine g_istore_n (pc' := 548) dX12_init_547 rfl (by decide) rfl ?_
  try simp only [List.set]
  refine mi_2 (h1 := (wN (moB h) (191, 0) 0 (fun _ => nI 10) 6)) hok (by rw [wN_2]; exact moB_r h 86 _ rfl) ?_ _ 0 (Nat.zero_le _) rfl
  refine g_iconstN (n := 0) (pc' := 568) dX12_init_567 rfl ?_
  refine g_istore_n (pc' := 569) dX12_init_568 rfl (by decide) rfl ?_
  try simp only [List.set]
  refine mi_3 (h1 := (wN (wN (moB h) (191, 0) 0 (fun _ => nI 10) 6) (186, 0) 0 (fun _ => -1) 80)) hok (by rw [wN_2, wN_2]; exact moB_r h 66 _ rfl) ?_ _ 0 (Nat.zero_le _) rfl
  refine g_vret dX12_init_588 rfl (by decide) (by decide) ?_
  exact ⟨rfl, rfl⟩
