/-! the rule of the rows of arrays -/
theorem Sm_add {E : En} {adr : Ad → Nat} {h h' : Hp} {H : Heap} {a : Ad} {q : Nat} (hS : Sm E adr h H) (ha : h.2.2 a = false) (hm : (mt a).1 < 25) (h1 : ∀ b, b ≠ a → h'.1 b = h.1 b) (h2 : ∀ b, b ≠ a → h'.2.1 b = h.2.1 b) (h3 : ∀ b, b ≠ a → h'.2.2 b = h.2.2 b) (h4 : h'.2.2 a = true) (h5 : ∀ j x, h'.2.1 a j = some x → h'.2.2 x = true) (hq : va_at E.2.2.1 vwCl (q, cE E.2.2.2.1 (adN adr a q) h' a) H) (hA : eA E q) (hf : ∀ b, h.2.2 b = true → (mt b).1 < 25 → adr b ≠ q) : Sm E (adN adr a q) h' H := by
  obtain ⟨⟨nl, hn, hP, hD⟩, hcl⟩ := hS
  have hna : a ∉ nl := fun z => by have := ((hn a).mp z).1; rw [ha] at this; cases this
  have e : wO E.2.2.2.1 adr h nl ++ [(q, cE E.2.2.2.1 (adN adr a q) h' a)] = wO E.2.2.2.1 (adN adr a q) h' (nl ++ [a]) := wO_new (aC := E.2.2.2.1) (adr := adr) (h := h) (h' := h') (nl := nl) (a := a) (q := q) hna (fun b hb j x hx z => by have := hcl b j x ((hn b).mp hb).1 hx; rw [z, ha] at this; cases this) h1 h2
  have one : ∀ (k : Nat) (r : Nat × va_E), ([(q, cE E.2.2.2.1 (adN adr a q) h' a)] : va_W)[k]? = some r → k = 0 ∧ r = (q, cE E.2.2.2.1 (adN adr a q) h' a) := fun k r hk => by
    match k, hk with
    | 0, hk => cases hk; exact ⟨rfl, rfl⟩
    | k + 1, hk => cases hk
  have hP1 : va_P E.2.2.1 vwCl (wO E.2.2.2.1 adr h nl ++ [(q, cE E.2.2.2.1 (adN adr a q) h' a)]) H := hP.app (fun k r hk => by rw [(one k r hk).2]; exact hq)
  have hD1 : va_D (eA E) (wO E.2.2.2.1 adr h nl ++ [(q, cE E.2.2.2.1 (adN adr a q) h' a)]) := hD.app ⟨fun i j p r hi hj _ => by rw [(one i p hi).1, (one j r hj).1], fun k r hk => by rw [(one k r hk).2]; exact hA⟩ (fun i j p r hi hj => by
    rw [(one j r hj).2]
    unfold wO at hi
    rw [List.getElem?_map] at hi
    cases hb : nl[i]? with
    | none => rw [hb] at hi; cases hi
    | some b =>
      rw [hb] at hi
      cases hi
      have z := (hn b).mp (List.mem_of_getElem? hb)
      exact hf b z.1 z.2)
  rw [e] at hP1 hD1
  refine ⟨⟨nl ++ [a], fun b => ?_, hP1, hD1⟩, fun b j x hb hx => ?_⟩
  · rw [List.mem_append]
    by_cases z : b = a
    · subst z
      exact ⟨fun _ => ⟨h4, hm⟩, fun _ => Or.inr (List.mem_singleton.mpr rfl)⟩
    · rw [h3 b z, hn b]
      exact ⟨fun w => w.elim id (fun w => absurd (List.mem_singleton.mp w) z), fun w => Or.inl w⟩
  · by_cases z : b = a
    · subst z
      exact h5 j x hx
    · rw [h2 b z] at hx
      rw [h3 b z] at hb
      have k := hcl b j x hb hx
      by_cases z2 : x = a
      · rw [z2]; exact h4
      · rw [h3 x z2]; exact k
def nHs (h : Hp) : Nat → Hp
  | 0 => h
  | i + 1 => nH (nHs h i) (51, i)
def adI (adr : Ad → Nat) (q : Nat) : Nat → Ad → Nat
  | 0 => adr
  | i + 1 => adN (adI adr q i) (51, i) (q + 1 + i)
theorem nHs_a (h : Hp) (b : Ad) : ∀ i, (∀ j, j < i → b ≠ (51, j)) → (nHs h i).2.2 b = h.2.2 b
  | 0, _ => rfl
  | i + 1, k => (nH_a (nHs h i) (51, i) (k i (Nat.lt_succ_self i))).trans (nHs_a h b i (fun j hj => k j (Nat.lt_succ_of_lt hj)))
theorem nHs_t (h : Hp) {j : Nat} : ∀ i, j < i → (nHs h i).2.2 (51, j) = true
  | 0, k => absurd k (Nat.not_lt_zero _)
  | i + 1, k => by
    by_cases e : j = i
    · subst e; exact nH_as _ _
    · exact nH_up _ (nHs_t h i (by omega))
theorem adI_at (adr : Ad → Nat) (q : Nat) {j : Nat} : ∀ i, j < i → adI adr q i (51, j) = q + 1 + j
  | 0, k => absurd k (Nat.not_lt_zero _)
  | i + 1, k => by
    by_cases e : j = i
    · subst e; exact if_pos rfl
    · exact (if_neg (fun z => e (congrArg Prod.snd z))).trans (adI_at adr q i (by omega))
theorem adI_off (adr : Ad → Nat) (q : Nat) (b : Ad) : ∀ i, (∀ j, j < i → b ≠ (51, j)) → adI adr q i b = adr b
  | 0, _ => rfl
  | i + 1, k => (if_neg (k i (Nat.lt_succ_self i))).trans (adI_off adr q b i (fun j hj => k j (Nat.lt_succ_of_lt hj)))
theorem Sm_rows {E : En} {adr : Ad → Nat} {h : Hp} {H : Heap} {q : Nat} (hS : Sm E adr h H) (hf : ∀ k, k < 8 → h.2.2 (51, k) = false) (hb : ∀ b, h.2.2 b = true → (mt b).1 < 25 → adr b < q) (hH : ∀ k, k < 8 → H[q + 1 + k]? = some (arrV (E.2.2.2.1 20) 4 (fun _ => .int 0))) (hA : E.2.1 ≤ q) : ∀ i, i ≤ 8 → Sm E (adI adr q i) (nHs h i) H ∧ Lat h adr (nHs h i) (adI adr q i) ∧ ∀ b, (nHs h i).2.2 b = true → (mt b).1 < 25 → adI adr q i b < q + 1 + i ∧ adI adr q i b ≠ q
  | 0, _ => ⟨hS, Lat.rf, fun b h1 h2 => by have := hb b h1 h2; exact ⟨by show adr b < _; omega, by show adr b ≠ q; omega⟩⟩
  | i + 1, hi => by
    obtain ⟨r1, r2, r3⟩ := Sm_rows hS hf hb hH hA i (by omega)
    have hal : (nHs h i).2.2 (51, i) = false := by
      rw [nHs_a h (51, i) i (fun j hj z => by have := congrArg Prod.snd z; simp at this; omega)]
      exact hf i (by omega)
    have hl := Lat_new (adr := adI adr q i) (q := q + 1 + i) hal (show (mt (51, i)).1 < 25 by show 20 < 25; omega)
    refine ⟨Sm_add r1 hal (by show 20 < 25; omega) (fun b hb => nH_1 _ _ hb) (fun b hb => nH_2 _ _ hb) (fun b hb => nH_a _ _ hb) (nH_as _ _) (fun j x hx => by have hx' : (nH (nHs h i) (51, i)).2.1 (51, i) j = some x := hx; rw [nH_2s] at hx'; cases hx') ?_ (by show E.2.1 ≤ q + 1 + i; omega) (fun b h1 h2 => by have := (r3 b h1 h2).1; omega), r2.tr hl, fun b h1 h2 => ?_⟩
    · have z : (nHs h (i + 1)).1 (51, i) = fun _ => 0 := nH_1s (nHs h i) (51, i)
      rw [cE_A (k := 20) (N := 4) rfl (by decide) (by decide), z]
      exact hH i (by omega)
    · by_cases e : b = (51, i)
      · subst e
        have k : adI adr q (i + 1) (51, i) = q + 1 + i := if_pos rfl
        rw [k]
        omega
      · have k : adI adr q (i + 1) b = adI adr q i b := if_neg e
        have k2 : (nHs h (i + 1)).2.2 b = (nHs h i).2.2 b := nH_a _ _ e
        rw [k]
        rw [k2] at h1
        have := r3 b h1 h2
        omega
theorem mu_r (h : Hp) (j : Nat) : (muH h).2.1 (50, 0) j = if j < 8 then some (51, j) else none := by
  by_cases c : j < 8
  · rw [if_pos c]
    rcases (show j = 0 ∨ j = 1 ∨ j = 2 ∨ j = 3 ∨ j = 4 ∨ j = 5 ∨ j = 6 ∨ j = 7 by omega) with rfl | rfl | rfl | rfl | rfl | rfl | rfl | rfl <;> rfl
  · rw [if_neg c]
    simp only [muH, wR, if_true, va_up, nH]
    repeat rw [if_neg (by omega)]
theorem gmu {E : En} (hok : EOK E) : Gmu E := by
  intro y d mc ms Q h0 pc L st h cu su n ha0 ha hd hlk hc hs K
  intro p e s m args below meth c adr0 adr H locs ls CC hE hS hW ho hoL hl
  obtain ⟨hx, hb, hml, hr, hlk', hown, hnm, hts, hK, hN', hX, hbs, -⟩ := id CC
  have ho' := okS_t2 ho
  intro T hT X
  have hao : (Cond.arrayOver (.array .int)).before args s = true := (hok.2.2 adr0 s hX).2.2.2.2.2.2.2.2.2.2.1
  obtain ⟨vm₁, cA, comp, hWm, hfA, hfC, step⟩ := mu_step X hx hown (hts _ hlk) hao (hts _ wd_int) (g := F0 m pc ls (.int (nI 4) :: .int (nI 8) :: st.map (tv adr))) rfl (by rw [hb]; exact hd) (rest := st.map (tv adr)) rfl (show cu + 9 ≤ mc from hc) (show su + 40 ≤ ms from hs)
  obtain ⟨J, hJ, X1⟩ := rw_stand (X.noted hWm) cA comp 8 (Nat.le_refl 8)
  obtain ⟨f1, f2, -, -, f3, f4⟩ := rw_facts (T.setVm vm₁) cA comp 8
  have hsz : (T.setVm vm₁).heap.size = H.size := by rw [← hT]; rfl
  have hhp : (T.setVm vm₁).heap = H := hT
  generalize rwS (T.setVm vm₁) cA comp 8 = U at X1 step f1 f2 f3 f4
  rw [hsz] at f1 f2 f4
  rw [show cu + 1 + 8 = cu + 9 by omega, show su + 8 + 4 * 8 = su + 40 by omega] at X1
  have hcA : cA = E.2.2.2.1 24 := by
    have e1 := (hK.2 4 (E.2.2.2.1 24, .array .int) rfl).2
    exact Option.some.inj (hfA.symm.trans e1)
  have hcI : comp = E.2.2.2.1 20 := by
    have e1 := (hK.2 0 (E.2.2.2.1 20, .int) rfl).2
    exact Option.some.inj (hfC.symm.trans e1)
  subst hcA hcI
  have old : ∀ a : Nat, a < H.size → U.heap[a]? = H[a]? := fun a q => by
    rw [f3 a (by rw [hsz]; exact q), hhp]
  obtain ⟨⟨nl, hn, hP, hD⟩, hcl⟩ := id hS
  have hlt : ∀ b, h.2.2 b = true → (mt b).1 < 25 → adr b < H.size := fun b h1 h2 => by
    obtain ⟨k, -, k2⟩ := wO_at (aC := E.2.2.2.1) (adr := adr) (h := h) ((hn b).mpr ⟨h1, h2⟩)
    exact (hP k _ k2).lt
  have hS1 : Sm E adr h U.heap := ⟨⟨nl, hn, hP.kept (fun k q hk => old _ (hP k q hk).lt), hD⟩, hcl⟩
  have hAq : E.2.1 ≤ H.size := Nat.le_trans hbs hW.1
  obtain ⟨r1, r2, r3⟩ := Sm_rows (q := H.size) hS1 ha hlt (fun k hk => f4 k hk) hAq 8 (Nat.le_refl 8)
  have hal : (nHs h 8).2.2 (50, 0) = false := by
    rw [nHs_a h (50, 0) 8 (fun j _ z => by have := congrArg Prod.fst z; simp at this)]
    exact ha0
  have hlat0 := Lat_new (adr := adI adr H.size 8) (q := H.size) hal (show (mt (50, 0)).1 < 25 by decide)
  have hlat1 : Lat (nHs h 8) (adI adr H.size 8) (muH h) (adN (adI adr H.size 8) (50, 0) H.size) := hlat0
  have hlat := r2.tr hlat1
  have hSm : Sm E (adN (adI adr H.size 8) (50, 0) H.size) (muH h) U.heap := by
    refine Sm_add (h' := muH h) r1 hal (by decide) (fun b hb => nH_1 (nHs h 8) (50, 0) hb) (fun b hb => ?_) (fun b hb => nH_a (nHs h 8) (50, 0) hb) (nH_as (nHs h 8) (50, 0)) (fun j x hx => ?_) ?_ hAq (fun b h1 h2 => (r3 b h1 h2).2)
    · have k : (muH h).2.1 b = (nH (nHs h 8) (50, 0)).2.1 b := by
        simp only [muH, wR, if_neg hb]
        rfl
      rw [k]
      exact nH_2 _ _ hb
    · rw [mu_r] at hx
      by_cases c : j < 8
      · rw [if_pos c] at hx
        cases hx
        exact nH_up (h := nHs h 8) (a := (50, 0)) _ (nHs_t h 8 c)
      · rw [if_neg c] at hx
        cases hx
    · rw [cE_Q (k := 24) (N := 8) rfl (by decide)]
      show U.heap[H.size]? = some (arrV (E.2.2.2.1 24) 8 (fun j => va_rf (((muH h).2.1 (50, 0) j).map (adN (adI adr H.size 8) (50, 0) H.size))))
      rw [f2]
      refine congrArg some (arrV_ext (fun i hi => ?_))
      have k : adN (adI adr H.size 8) (50, 0) H.size (51, i) = H.size + 1 + i := (if_neg (fun z => by have := congrArg Prod.fst z; simp at this)).trans (adI_at adr H.size 8 hi)
      rw [if_pos hi, mu_r, if_pos hi]
      show _ = va_rf (some (adN (adI adr H.size 8) (50, 0) H.size (51, i)))
      rw [k]
      rfl
  have hWs : va_S (eA E) s.heap U.heap (locs ++ J) := ⟨by rw [f1]; have := hW.1; omega, fun q hq hn => by rw [old q (Nat.lt_of_lt_of_le hq hW.1)]; exact hW.2.1 q hq hn, fun q hq => (List.mem_append.mp hq).elim (hW.2.2 q) (fun z => Nat.le_trans hAq (by have := hJ q z; rw [hsz] at this; exact this))⟩
  have k2 := K p e s m args below meth c adr0 (adN (adI adr H.size 8) (50, 0) H.size) U.heap (locs ++ J) ls CC (hE.tr hlat) hSm hWs (okS_cons (okV_R (nH_as (nHs h 8) (50, 0))) (okS_mono hlat.1 ho')) (okL_mono hlat.1 hoL) (hl.mono hlat.2.1 hoL)
  have es : (vR (50, 0) :: st).map (tv (adN (adI adr H.size 8) (50, 0) H.size)) = .ref H.size :: st.map (tv adr) := by
    rw [List.map_cons, tvS_same hlat.2.1 ho']
    exact congrArg (fun z => Value.ref z :: st.map (tv adr)) (if_pos rfl)
  rw [es] at k2
  obtain ⟨t, s1, s2⟩ := k2 U rfl X1
  refine ⟨t, step t ?_, s2⟩
  have eT : T.heap.size = H.size := by rw [hT]
  rw [eT]
  exact s1
