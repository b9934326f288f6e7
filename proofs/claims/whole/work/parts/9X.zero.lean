/-! the reference's numbers when nothing was asked, and the heap that has them -/
def m0 : St := fun s _ => if s = 191 then nI 10 else if s = 186 ∨ s = 166 then -1 else 0
theorem m0_z {s : Nat} (h1 : s ≠ 191) (h2 : s ≠ 186) (h3 : s ≠ 166) (j : Nat) : m0 s j = 0 := by
  unfold m0
  rw [if_neg h1, if_neg (fun z => z.elim h2 h3)]
theorem m0_K : nK m0 = 0 := by decide
theorem m0_T : nT m0 = 0 := by decide
theorem m0_F : nF m0 = 0 := by decide
theorem m0_R : nR m0 = 0 := by decide
theorem m0_G : nGf m0 = 0 := by decide
theorem m0_A : nA m0 = 0 := by decide
theorem m0_C : nC m0 = 0 := by decide
theorem in_0 : In 0 m0 := by
  refine ⟨⟨⟨by decide, by decide⟩, ⟨by decide, by decide⟩, ⟨by decide, by decide⟩, ⟨by decide, by decide⟩, ⟨by decide, by decide⟩, ⟨by decide, by decide⟩, ⟨by decide, by decide⟩, ⟨by decide, by decide⟩, ⟨by decide, by decide⟩, fun t ht => ?_⟩, ⟨fun g hg => ?_, fun t ht => ?_, fun t ht => ?_, fun f k hf => ?_, fun i hi => ?_, fun k s hk => ?_, fun t s ht => ?_, fun s hs => ⟨by show (0 : Int32) ≤ nI 10; decide, by show nI 10 ≤ (600 : Int32); decide⟩, fun k hk => ?_, ⟨by decide, by decide⟩, ⟨0, by decide, by decide⟩, fun t ht => ?_, fun k s _ _ => ⟨rfl, rfl⟩, fun t _ => ⟨rfl, rfl, rfl, rfl⟩, fun f _ => ⟨rfl, fun k _ => rfl⟩, fun r f _ _ => rfl, fun t ht => ?_, fun i hi => ?_, trivial⟩, fun g hg => ?_, by decide, fun w _ => ⟨0, by decide, rfl⟩⟩
  · rw [m0_T] at ht; exact absurd ht (Nat.not_lt_zero _)
  · rw [m0_G] at hg; exact absurd hg (Nat.not_lt_zero _)
  · rw [m0_T] at ht; exact absurd ht (Nat.not_lt_zero _)
  · rw [m0_T] at ht; exact absurd ht (Nat.not_lt_zero _)
  · rw [m0_F] at hf; exact absurd hf (Nat.not_lt_zero _)
  · rw [m0_A] at hi; exact absurd hi (Nat.not_lt_zero _)
  · rw [m0_K] at hk; exact absurd hk (Nat.not_lt_zero _)
  · rw [m0_T] at ht; exact absurd ht (Nat.not_lt_zero _)
  · rw [m0_K] at hk; exact absurd hk (Nat.not_lt_zero _)
  · rw [m0_T] at ht; exact absurd ht (Nat.not_lt_zero _)
  · rw [m0_T] at ht; exact absurd ht (Nat.not_lt_zero _)
  · rw [m0_A] at hi; exact absurd hi (Nat.not_lt_zero _)
  · rw [m0_G] at hg; exact absurd hg (Nat.not_lt_zero _)
def Av (L : List Ad) (h : Hp) : Prop := ∀ a, h.2.2 a = true → a ∈ L
theorem Av.nH {L : List Ad} {h : Hp} {b : Ad} (v : Av L h) : Av (b :: L) (nH h b) := fun a q => by
  by_cases e : a = b
  · rw [e]; exact List.mem_cons_self
  · rw [nH_a h b e] at q; exact List.mem_cons_of_mem _ (v a q)
theorem Av.wR {L : List Ad} {h : Hp} {b : Ad} {j : Nat} {r : Option Ad} (v : Av L h) : Av L (wR h b j r) := v
theorem Av.wI {L : List Ad} {h : Hp} {b : Ad} {j : Nat} {x : Int32} (v : Av L h) : Av L (wI h b j x) := v
theorem Av.wN {L : List Ad} {h : Hp} {b : Ad} {j n : Nat} {f : Nat → Int32} (v : Av L h) : Av L (wN h b j f n) := fun a q => v a (by rw [wN_2] at q; exact q)
theorem Zr.wI {h : Hp} (z : Zr h) {a : Ad} {j : Nat} {x : Int32} (na : ¬ Sm1 a) : Zr (wI h a j x) := fun b q => by
  have hb : b ≠ a := fun e => na (by rw [← e]; exact q)
  rw [wI_off _ _ _ _ b hb]; exact z b q
theorem Zr.wN {h : Hp} (z : Zr h) {a : Ad} {j n : Nat} {f : Nat → Int32} (na : ¬ Sm1 a) : Zr (wN h a j f n) := fun b q => by
  have hb : b ≠ a := fun e => na (by rw [← e]; exact q)
  rw [wN_off _ _ _ _ hb]; exact z b q
theorem av_0 : Av [(90, 0), (91, 0), (92, 0), (93, 0), (94, 0)] hS := fun a q => by
  obtain ⟨s, i⟩ := a
  simp only [hS, Bool.and_eq_true, Nat.ble_eq] at q
  have e : i = 0 := Nat.eq_of_beq_eq_true q.1
  subst e
  rcases (show s = 90 ∨ s = 91 ∨ s = 92 ∨ s = 93 ∨ s = 94 by omega) with rfl | rfl | rfl | rfl | rfl <;> decide
theorem zr_0 : Zr hS := fun _ _ => rfl
def LT : List Ad := [(60, 0), (59, 0), (12, 0), (58, 0), (57, 0), (56, 0), (55, 0), (11, 0), (54, 0), (53, 0), (52, 0), (50, 0), (51, 7), (51, 6), (51, 5), (51, 4), (51, 3), (51, 2), (51, 1), (51, 0), (49, 0), (10, 0), (48, 0), (47, 0), (46, 0), (45, 0), (44, 0), (9, 0), (34, 0), (33, 0), (32, 0), (31, 0), (8, 0), (43, 0), (42, 0), (41, 1), (40, 1), (39, 1), (38, 1), (37, 1), (36, 1), (35, 1), (6, 1), (7, 0), (41, 0), (40, 0), (39, 0), (38, 0), (37, 0), (36, 0), (35, 0), (6, 0), (13, 3), (13, 2), (13, 1), (13, 0), (23, 0), (22, 0), (21, 0), (20, 0), (0, 0), (90, 0), (91, 0), (92, 0), (93, 0), (94, 0)]
def LM : List Ad := [(191, 0), (190, 0), (189, 0), (188, 0), (187, 0), (186, 0), (181, 0), (180, 0), (179, 0), (178, 0), (177, 0), (176, 0), (175, 0), (174, 0), (173, 0), (172, 0), (169, 0), (168, 0), (167, 0), (166, 0), (165, 0), (164, 0), (163, 0), (162, 0), (161, 0), (158, 0), (157, 0), (152, 0), (142, 0), (141, 0), (140, 0), (139, 0), (138, 0), (137, 0), (136, 0), (135, 0), (134, 0), (133, 0), (132, 0), (131, 0), (129, 0), (128, 0), (127, 0), (126, 0), (125, 0), (124, 0), (123, 0), (122, 0), (121, 0), (120, 0), (119, 0), (118, 0), (117, 0), (116, 0), (115, 0), (114, 0), (113, 0), (112, 0), (111, 0), (110, 0), (109, 0), (108, 0), (100, 0), (1, 0), (60, 0), (59, 0), (12, 0), (58, 0), (57, 0), (56, 0), (55, 0), (11, 0), (54, 0), (53, 0), (52, 0), (50, 0), (51, 7), (51, 6), (51, 5), (51, 4), (51, 3), (51, 2), (51, 1), (51, 0), (49, 0), (10, 0), (48, 0), (47, 0), (46, 0), (45, 0), (44, 0), (9, 0), (34, 0), (33, 0), (32, 0), (31, 0), (8, 0), (43, 0), (42, 0), (41, 1), (40, 1), (39, 1), (38, 1), (37, 1), (36, 1), (35, 1), (6, 1), (7, 0), (41, 0), (40, 0), (39, 0), (38, 0), (37, 0), (36, 0), (35, 0), (6, 0), (13, 3), (13, 2), (13, 1), (13, 0), (23, 0), (22, 0), (21, 0), (20, 0), (0, 0), (90, 0), (91, 0), (92, 0), (93, 0), (94, 0)]
set_option maxRecDepth 20000 in
theorem av_t : Av LT thH := by
  unfold LT thH rtH rcH diH weH shH muH woH paH
  exact (((((((((((((((((((((((((((((((((((((((((((((((((((((((((((((((((((((((((((((((((((((((((((((((((((((((((((((((((((((((((((((((((((av_0).nH).nH).wR).nH).wR).wN).nH).wR).nH).wR).nH).wI).wR).wR).nH).wI).wR).wR).nH).wI).wR).wR).nH).wI).wR).wR).nH).nH).wR).nH).wR).nH).wR).nH).wR).nH).wR).nH).wR).nH).wR).wR).nH).nH).nH).wR).nH).wR).nH).wR).nH).wR).nH).wR).nH).wR).nH).wR).wR).nH).wR).nH).wR).wR).nH).nH).wR).nH).wR).nH).wR).nH).wR).wR).nH).nH).wR).nH).wR).nH).wR).nH).wR).nH).wR).wI).wR).nH).nH).wR).nH).nH).nH).nH).nH).nH).nH).nH).nH).wR).wR).wR).wR).wR).wR).wR).wR).wR).nH).wR).nH).wR).nH).wR).wR).nH).nH).wR).nH).wR).nH).wR).nH).wR).wR).nH).nH).wR).nH).wR).wR
set_option maxRecDepth 20000 in
theorem zr_t : Zr thH := by
  unfold thH rtH rcH diH weH shH muH woH paH
  exact (((((((((((((((((((((((((((((((((((((((((((((((((((((((((((((((((((((((((((((((((((((((((((((((((((((((((((((((((((((((((((((((((((zr_0).nH _).nH _).wR _ _ _).nH _).wR _ _ _).wN (by unfold Sm1; decide)).nH _).wR _ _ _).nH _).wR _ _ _).nH _).wI (by unfold Sm1; decide)).wR _ _ _).wR _ _ _).nH _).wI (by unfold Sm1; decide)).wR _ _ _).wR _ _ _).nH _).wI (by unfold Sm1; decide)).wR _ _ _).wR _ _ _).nH _).wI (by unfold Sm1; decide)).wR _ _ _).wR _ _ _).nH _).nH _).wR _ _ _).nH _).wR _ _ _).nH _).wR _ _ _).nH _).wR _ _ _).nH _).wR _ _ _).nH _).wR _ _ _).nH _).wR _ _ _).wR _ _ _).nH _).nH _).nH _).wR _ _ _).nH _).wR _ _ _).nH _).wR _ _ _).nH _).wR _ _ _).nH _).wR _ _ _).nH _).wR _ _ _).nH _).wR _ _ _).wR _ _ _).nH _).wR _ _ _).nH _).wR _ _ _).wR _ _ _).nH _).nH _).wR _ _ _).nH _).wR _ _ _).nH _).wR _ _ _).nH _).wR _ _ _).wR _ _ _).nH _).nH _).wR _ _ _).nH _).wR _ _ _).nH _).wR _ _ _).nH _).wR _ _ _).nH _).wR _ _ _).wI (by unfold Sm1; decide)).wR _ _ _).nH _).nH _).wR _ _ _).nH _).nH _).nH _).nH _).nH _).nH _).nH _).nH _).nH _).wR _ _ _).wR _ _ _).wR _ _ _).wR _ _ _).wR _ _ _).wR _ _ _).wR _ _ _).wR _ _ _).wR _ _ _).nH _).wR _ _ _).nH _).wR _ _ _).nH _).wR _ _ _).wR _ _ _).nH _).nH _).wR _ _ _).nH _).wR _ _ _).nH _).wR _ _ _).nH _).wR _ _ _).wR _ _ _).nH _).nH _).wR _ _ _).nH _).wR _ _ _).wR _ _ _
def h2Z : Hp := moB (nH thH MO)
set_option maxRecDepth 20000 in
theorem av_m : Av LM h2Z := by
  unfold LM h2Z moB
  exact (((((((((((((((((((((((((((((((((((((((((((((((((((((((((((((((((((((((((((((((((((((((((((((((((((((((((((((((((((((((((((((((av_t).nH).nH).wR).nH).wR).nH).wR).nH).wR).nH).wR).nH).wR).nH).wR).nH).wR).nH).wR).nH).wR).nH).wR).nH).wR).nH).wR).nH).wR).nH).wR).nH).wR).nH).wR).nH).wR).nH).wR).nH).wR).nH).wR).nH).wR).nH).wR).nH).wR).nH).wR).nH).wR).nH).wR).nH).wR).nH).wR).nH).wR).nH).wR).nH).wR).nH).wR).nH).wR).nH).wR).nH).wR).nH).wR).nH).wR).nH).wR).nH).wR).nH).wR).nH).wR).nH).wR).nH).wR).nH).wR).nH).wR).nH).wR).nH).wR).nH).wR).nH).wR).nH).wR).nH).wR).nH).wR).nH).wR).nH).wR).nH).wR).nH).wR).nH).wR).nH).wR).nH).wR).nH).wR).nH).wR).nH).wR
theorem zr_m : Zr h2Z := moB_z (zr_t.nH MO)
def hZ : Hp := wF (wF (wF h2Z (191, 0) (fun _ => nI 10)) (186, 0) (fun _ => -1)) (166, 0) (fun _ => -1)
theorem hZ_a {s : Nat} (hs : LM.all (fun a => !Nat.beq a.1 s) = true) (j : Nat) : hZ.2.2 (s, j) = false := by
  cases q : hZ.2.2 (s, j) with
  | false => rfl
  | true =>
    have k := av_m (s, j) q
    have k2 := List.all_eq_true.mp hs _ k
    simp only [Nat.beq_refl, Bool.not_true] at k2
    exact absurd k2 (by decide)
theorem hZ_mo : mo hZ = m0 := by
  funext s
  unfold mo
  by_cases c1 : s = 191
  · subst c1; rfl
  by_cases c2 : s = 186
  · subst c2; rfl
  by_cases c3 : s = 166
  · subst c3; rfl
  have e : ∀ i j, hZ.1 (s, i) j = h2Z.1 (s, i) j := fun i j => by
    unfold hZ
    rw [wF_off _ _ _ (fun z => c3 (congrArg Prod.fst z)), wF_off _ _ _ (fun z => c2 (congrArg Prod.fst z)), wF_off _ _ _ (fun z => c1 (congrArg Prod.fst z))]
  have f : Sm1 (s, 0) → ∀ j, hZ.1 (s, 0) j = 0 := fun k j => by
    rw [e, zr_m (s, 0) k]
  funext j
  rw [m0_z c1 c2 c3]
  have hk : ∀ v, kS s = v → (match v with
    | 2 => hZ.1 (s, 0)
    | 1 => fun j => match scr j with
      | true => 0
      | false => hZ.1 (1, 0) j
    | _ => fun _ => 0) j = 0 := by
    intro v hv
    unfold kS at hv
    split at hv
    · rename_i c
      have e1 : s = 1 := Nat.eq_of_beq_eq_true c
      subst hv
      show (match scr j with
      | true => 0
      | false => hZ.1 (1, 0) j) = 0
      split
      · rfl
      · have k := f (Or.inl e1) j
        rw [e1] at k
        exact k
    · split at hv
      · rename_i c
        rw [Bool.and_eq_true] at c
        subst hv
        exact f (Or.inr (Nat.le_of_ble_eq_true c.1)) j
      · subst hv
        rfl
  exact hk _ rfl
